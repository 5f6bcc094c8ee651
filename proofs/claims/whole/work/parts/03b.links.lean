/-! classes, methods, links: facts over the tables' words -/
theorem ir_1 : ∀ w ∈ wsL_law_r1, w ∈ wsL_law := fun _ h => List.mem_append_left _ (List.mem_append_left _ (List.mem_append_left _ (List.mem_append_left _ (List.mem_append_left _ (List.mem_append_left _ (List.mem_append_left _ (List.mem_append_left _ (List.mem_append_left _ (List.mem_append_left _ (List.mem_append_left _ (List.mem_append_left _ (List.mem_append_left _ (List.mem_append_left _ h)))))))))))))
theorem ir_2 : ∀ w ∈ wsL_law_r2, w ∈ wsL_law := fun _ h => List.mem_append_left _ (List.mem_append_left _ (List.mem_append_left _ (List.mem_append_left _ (List.mem_append_left _ (List.mem_append_left _ (List.mem_append_left _ (List.mem_append_left _ (List.mem_append_left _ (List.mem_append_left _ (List.mem_append_left _ (List.mem_append_left _ (List.mem_append_left _ (List.mem_append_right _ (List.mem_append_left _ h))))))))))))))
theorem ir_3 : ∀ w ∈ wsL_law_r3, w ∈ wsL_law := fun _ h => List.mem_append_left _ (List.mem_append_left _ (List.mem_append_left _ (List.mem_append_left _ (List.mem_append_left _ (List.mem_append_left _ (List.mem_append_left _ (List.mem_append_left _ (List.mem_append_left _ (List.mem_append_left _ (List.mem_append_left _ (List.mem_append_left _ (List.mem_append_left _ (List.mem_append_right _ (List.mem_append_right _ (List.mem_append_left _ h)))))))))))))))
theorem ir_4 : ∀ w ∈ wsL_law_r4, w ∈ wsL_law := fun _ h => List.mem_append_left _ (List.mem_append_left _ (List.mem_append_left _ (List.mem_append_left _ (List.mem_append_left _ (List.mem_append_left _ (List.mem_append_left _ (List.mem_append_left _ (List.mem_append_left _ (List.mem_append_left _ (List.mem_append_left _ (List.mem_append_left _ (List.mem_append_left _ (List.mem_append_right _ (List.mem_append_right _ (List.mem_append_right _ (List.mem_append_left _ h))))))))))))))))
theorem ir_5 : ∀ w ∈ wsL_law_r5, w ∈ wsL_law := fun _ h => List.mem_append_left _ (List.mem_append_left _ (List.mem_append_left _ (List.mem_append_left _ (List.mem_append_left _ (List.mem_append_left _ (List.mem_append_left _ (List.mem_append_left _ (List.mem_append_left _ (List.mem_append_left _ (List.mem_append_left _ (List.mem_append_left _ (List.mem_append_left _ (List.mem_append_right _ (List.mem_append_right _ (List.mem_append_right _ (List.mem_append_right _ (List.mem_append_left _ h)))))))))))))))))
theorem ir_6 : ∀ w ∈ wsL_law_r6, w ∈ wsL_law := fun _ h => List.mem_append_left _ (List.mem_append_left _ (List.mem_append_left _ (List.mem_append_left _ (List.mem_append_left _ (List.mem_append_left _ (List.mem_append_left _ (List.mem_append_left _ (List.mem_append_left _ (List.mem_append_left _ (List.mem_append_left _ (List.mem_append_left _ (List.mem_append_left _ (List.mem_append_right _ (List.mem_append_right _ (List.mem_append_right _ (List.mem_append_right _ (List.mem_append_right _ (List.mem_append_left _ h))))))))))))))))))
theorem ir_7 : ∀ w ∈ wsL_law_r7, w ∈ wsL_law := fun _ h => List.mem_append_left _ (List.mem_append_left _ (List.mem_append_left _ (List.mem_append_left _ (List.mem_append_left _ (List.mem_append_left _ (List.mem_append_left _ (List.mem_append_left _ (List.mem_append_left _ (List.mem_append_left _ (List.mem_append_left _ (List.mem_append_left _ (List.mem_append_left _ (List.mem_append_right _ (List.mem_append_right _ (List.mem_append_right _ (List.mem_append_right _ (List.mem_append_right _ (List.mem_append_right _ (List.mem_append_left _ h)))))))))))))))))))
theorem ir_8 : ∀ w ∈ wsL_law_r8, w ∈ wsL_law := fun _ h => List.mem_append_left _ (List.mem_append_left _ (List.mem_append_left _ (List.mem_append_left _ (List.mem_append_left _ (List.mem_append_left _ (List.mem_append_left _ (List.mem_append_left _ (List.mem_append_left _ (List.mem_append_left _ (List.mem_append_left _ (List.mem_append_left _ (List.mem_append_left _ (List.mem_append_right _ (List.mem_append_right _ (List.mem_append_right _ (List.mem_append_right _ (List.mem_append_right _ (List.mem_append_right _ (List.mem_append_right _ (List.mem_append_left _ h))))))))))))))))))))
theorem ir_9 : ∀ w ∈ wsL_law_r9, w ∈ wsL_law := fun _ h => List.mem_append_left _ (List.mem_append_left _ (List.mem_append_left _ (List.mem_append_left _ (List.mem_append_left _ (List.mem_append_left _ (List.mem_append_left _ (List.mem_append_left _ (List.mem_append_left _ (List.mem_append_left _ (List.mem_append_left _ (List.mem_append_left _ (List.mem_append_left _ (List.mem_append_right _ (List.mem_append_right _ (List.mem_append_right _ (List.mem_append_right _ (List.mem_append_right _ (List.mem_append_right _ (List.mem_append_right _ (List.mem_append_right _ (List.mem_append_left _ h)))))))))))))))))))))
theorem ir_10 : ∀ w ∈ wsL_law_r10, w ∈ wsL_law := fun _ h => List.mem_append_left _ (List.mem_append_left _ (List.mem_append_left _ (List.mem_append_left _ (List.mem_append_left _ (List.mem_append_left _ (List.mem_append_left _ (List.mem_append_left _ (List.mem_append_left _ (List.mem_append_left _ (List.mem_append_left _ (List.mem_append_left _ (List.mem_append_left _ (List.mem_append_right _ (List.mem_append_right _ (List.mem_append_right _ (List.mem_append_right _ (List.mem_append_right _ (List.mem_append_right _ (List.mem_append_right _ (List.mem_append_right _ (List.mem_append_right _ (List.mem_append_left _ h))))))))))))))))))))))
theorem ir_11 : ∀ w ∈ wsL_law_r11, w ∈ wsL_law := fun _ h => List.mem_append_left _ (List.mem_append_left _ (List.mem_append_left _ (List.mem_append_left _ (List.mem_append_left _ (List.mem_append_left _ (List.mem_append_left _ (List.mem_append_left _ (List.mem_append_left _ (List.mem_append_left _ (List.mem_append_left _ (List.mem_append_left _ (List.mem_append_left _ (List.mem_append_right _ (List.mem_append_right _ (List.mem_append_right _ (List.mem_append_right _ (List.mem_append_right _ (List.mem_append_right _ (List.mem_append_right _ (List.mem_append_right _ (List.mem_append_right _ (List.mem_append_right _ (List.mem_append_left _ h)))))))))))))))))))))))
theorem ir_12 : ∀ w ∈ wsL_law_r12, w ∈ wsL_law := fun _ h => List.mem_append_left _ (List.mem_append_left _ (List.mem_append_left _ (List.mem_append_left _ (List.mem_append_left _ (List.mem_append_left _ (List.mem_append_left _ (List.mem_append_left _ (List.mem_append_left _ (List.mem_append_left _ (List.mem_append_left _ (List.mem_append_left _ (List.mem_append_left _ (List.mem_append_right _ (List.mem_append_right _ (List.mem_append_right _ (List.mem_append_right _ (List.mem_append_right _ (List.mem_append_right _ (List.mem_append_right _ (List.mem_append_right _ (List.mem_append_right _ (List.mem_append_right _ (List.mem_append_right _ (List.mem_append_left _ h))))))))))))))))))))))))
theorem ir_13 : ∀ w ∈ wsL_law_r13, w ∈ wsL_law := fun _ h => List.mem_append_left _ (List.mem_append_left _ (List.mem_append_left _ (List.mem_append_left _ (List.mem_append_left _ (List.mem_append_left _ (List.mem_append_left _ (List.mem_append_left _ (List.mem_append_left _ (List.mem_append_left _ (List.mem_append_left _ (List.mem_append_left _ (List.mem_append_left _ (List.mem_append_right _ (List.mem_append_right _ (List.mem_append_right _ (List.mem_append_right _ (List.mem_append_right _ (List.mem_append_right _ (List.mem_append_right _ (List.mem_append_right _ (List.mem_append_right _ (List.mem_append_right _ (List.mem_append_right _ (List.mem_append_right _ (List.mem_append_left _ h)))))))))))))))))))))))))
theorem ir_14 : ∀ w ∈ wsL_law_r14, w ∈ wsL_law := fun _ h => List.mem_append_left _ (List.mem_append_left _ (List.mem_append_left _ (List.mem_append_left _ (List.mem_append_left _ (List.mem_append_left _ (List.mem_append_left _ (List.mem_append_left _ (List.mem_append_left _ (List.mem_append_left _ (List.mem_append_left _ (List.mem_append_left _ (List.mem_append_left _ (List.mem_append_right _ (List.mem_append_right _ (List.mem_append_right _ (List.mem_append_right _ (List.mem_append_right _ (List.mem_append_right _ (List.mem_append_right _ (List.mem_append_right _ (List.mem_append_right _ (List.mem_append_right _ (List.mem_append_right _ (List.mem_append_right _ (List.mem_append_right _ (List.mem_append_left _ h))))))))))))))))))))))))))
theorem ir_15 : ∀ w ∈ wsL_law_r15, w ∈ wsL_law := fun _ h => List.mem_append_left _ (List.mem_append_left _ (List.mem_append_left _ (List.mem_append_left _ (List.mem_append_left _ (List.mem_append_left _ (List.mem_append_left _ (List.mem_append_left _ (List.mem_append_left _ (List.mem_append_left _ (List.mem_append_left _ (List.mem_append_left _ (List.mem_append_left _ (List.mem_append_right _ (List.mem_append_right _ (List.mem_append_right _ (List.mem_append_right _ (List.mem_append_right _ (List.mem_append_right _ (List.mem_append_right _ (List.mem_append_right _ (List.mem_append_right _ (List.mem_append_right _ (List.mem_append_right _ (List.mem_append_right _ (List.mem_append_right _ (List.mem_append_right _ (List.mem_append_left _ h)))))))))))))))))))))))))))
theorem ir_16 : ∀ w ∈ wsL_law_r16, w ∈ wsL_law := fun _ h => List.mem_append_left _ (List.mem_append_left _ (List.mem_append_left _ (List.mem_append_left _ (List.mem_append_left _ (List.mem_append_left _ (List.mem_append_left _ (List.mem_append_left _ (List.mem_append_left _ (List.mem_append_left _ (List.mem_append_left _ (List.mem_append_left _ (List.mem_append_left _ (List.mem_append_right _ (List.mem_append_right _ (List.mem_append_right _ (List.mem_append_right _ (List.mem_append_right _ (List.mem_append_right _ (List.mem_append_right _ (List.mem_append_right _ (List.mem_append_right _ (List.mem_append_right _ (List.mem_append_right _ (List.mem_append_right _ (List.mem_append_right _ (List.mem_append_right _ (List.mem_append_right _ (List.mem_append_left _ h))))))))))))))))))))))))))))
theorem ir_17 : ∀ w ∈ wsL_law_r17, w ∈ wsL_law := fun _ h => List.mem_append_left _ (List.mem_append_left _ (List.mem_append_left _ (List.mem_append_left _ (List.mem_append_left _ (List.mem_append_left _ (List.mem_append_left _ (List.mem_append_left _ (List.mem_append_left _ (List.mem_append_left _ (List.mem_append_left _ (List.mem_append_left _ (List.mem_append_left _ (List.mem_append_right _ (List.mem_append_right _ (List.mem_append_right _ (List.mem_append_right _ (List.mem_append_right _ (List.mem_append_right _ (List.mem_append_right _ (List.mem_append_right _ (List.mem_append_right _ (List.mem_append_right _ (List.mem_append_right _ (List.mem_append_right _ (List.mem_append_right _ (List.mem_append_right _ (List.mem_append_right _ (List.mem_append_right _ (List.mem_append_left _ h)))))))))))))))))))))))))))))
theorem ir_18 : ∀ w ∈ wsL_law_r18, w ∈ wsL_law := fun _ h => List.mem_append_left _ (List.mem_append_left _ (List.mem_append_left _ (List.mem_append_left _ (List.mem_append_left _ (List.mem_append_left _ (List.mem_append_left _ (List.mem_append_left _ (List.mem_append_left _ (List.mem_append_left _ (List.mem_append_left _ (List.mem_append_left _ (List.mem_append_left _ (List.mem_append_right _ (List.mem_append_right _ (List.mem_append_right _ (List.mem_append_right _ (List.mem_append_right _ (List.mem_append_right _ (List.mem_append_right _ (List.mem_append_right _ (List.mem_append_right _ (List.mem_append_right _ (List.mem_append_right _ (List.mem_append_right _ (List.mem_append_right _ (List.mem_append_right _ (List.mem_append_right _ (List.mem_append_right _ (List.mem_append_right _ (List.mem_append_left _ h))))))))))))))))))))))))))))))
theorem ir_19 : ∀ w ∈ wsL_law_r19, w ∈ wsL_law := fun _ h => List.mem_append_left _ (List.mem_append_left _ (List.mem_append_left _ (List.mem_append_left _ (List.mem_append_left _ (List.mem_append_left _ (List.mem_append_left _ (List.mem_append_left _ (List.mem_append_left _ (List.mem_append_left _ (List.mem_append_left _ (List.mem_append_left _ (List.mem_append_left _ (List.mem_append_right _ (List.mem_append_right _ (List.mem_append_right _ (List.mem_append_right _ (List.mem_append_right _ (List.mem_append_right _ (List.mem_append_right _ (List.mem_append_right _ (List.mem_append_right _ (List.mem_append_right _ (List.mem_append_right _ (List.mem_append_right _ (List.mem_append_right _ (List.mem_append_right _ (List.mem_append_right _ (List.mem_append_right _ (List.mem_append_right _ (List.mem_append_right _ (List.mem_append_left _ h)))))))))))))))))))))))))))))))
theorem ir_20 : ∀ w ∈ wsL_law_r20, w ∈ wsL_law := fun _ h => List.mem_append_left _ (List.mem_append_left _ (List.mem_append_left _ (List.mem_append_left _ (List.mem_append_left _ (List.mem_append_left _ (List.mem_append_left _ (List.mem_append_left _ (List.mem_append_left _ (List.mem_append_left _ (List.mem_append_left _ (List.mem_append_left _ (List.mem_append_left _ (List.mem_append_right _ (List.mem_append_right _ (List.mem_append_right _ (List.mem_append_right _ (List.mem_append_right _ (List.mem_append_right _ (List.mem_append_right _ (List.mem_append_right _ (List.mem_append_right _ (List.mem_append_right _ (List.mem_append_right _ (List.mem_append_right _ (List.mem_append_right _ (List.mem_append_right _ (List.mem_append_right _ (List.mem_append_right _ (List.mem_append_right _ (List.mem_append_right _ (List.mem_append_right _ (List.mem_append_left _ h))))))))))))))))))))))))))))))))
theorem ir_21 : ∀ w ∈ wsL_law_r21, w ∈ wsL_law := fun _ h => List.mem_append_left _ (List.mem_append_left _ (List.mem_append_left _ (List.mem_append_left _ (List.mem_append_left _ (List.mem_append_left _ (List.mem_append_left _ (List.mem_append_left _ (List.mem_append_left _ (List.mem_append_left _ (List.mem_append_left _ (List.mem_append_left _ (List.mem_append_left _ (List.mem_append_right _ (List.mem_append_right _ (List.mem_append_right _ (List.mem_append_right _ (List.mem_append_right _ (List.mem_append_right _ (List.mem_append_right _ (List.mem_append_right _ (List.mem_append_right _ (List.mem_append_right _ (List.mem_append_right _ (List.mem_append_right _ (List.mem_append_right _ (List.mem_append_right _ (List.mem_append_right _ (List.mem_append_right _ (List.mem_append_right _ (List.mem_append_right _ (List.mem_append_right _ (List.mem_append_right _ (List.mem_append_left _ h)))))))))))))))))))))))))))))))))
theorem ir_22 : ∀ w ∈ wsL_law_r22, w ∈ wsL_law := fun _ h => List.mem_append_left _ (List.mem_append_left _ (List.mem_append_left _ (List.mem_append_left _ (List.mem_append_left _ (List.mem_append_left _ (List.mem_append_left _ (List.mem_append_left _ (List.mem_append_left _ (List.mem_append_left _ (List.mem_append_left _ (List.mem_append_left _ (List.mem_append_left _ (List.mem_append_right _ (List.mem_append_right _ (List.mem_append_right _ (List.mem_append_right _ (List.mem_append_right _ (List.mem_append_right _ (List.mem_append_right _ (List.mem_append_right _ (List.mem_append_right _ (List.mem_append_right _ (List.mem_append_right _ (List.mem_append_right _ (List.mem_append_right _ (List.mem_append_right _ (List.mem_append_right _ (List.mem_append_right _ (List.mem_append_right _ (List.mem_append_right _ (List.mem_append_right _ (List.mem_append_right _ (List.mem_append_right _ (List.mem_append_left _ h))))))))))))))))))))))))))))))))))
theorem ir_23 : ∀ w ∈ wsL_law_r23, w ∈ wsL_law := fun _ h => List.mem_append_left _ (List.mem_append_left _ (List.mem_append_left _ (List.mem_append_left _ (List.mem_append_left _ (List.mem_append_left _ (List.mem_append_left _ (List.mem_append_left _ (List.mem_append_left _ (List.mem_append_left _ (List.mem_append_left _ (List.mem_append_left _ (List.mem_append_left _ (List.mem_append_right _ (List.mem_append_right _ (List.mem_append_right _ (List.mem_append_right _ (List.mem_append_right _ (List.mem_append_right _ (List.mem_append_right _ (List.mem_append_right _ (List.mem_append_right _ (List.mem_append_right _ (List.mem_append_right _ (List.mem_append_right _ (List.mem_append_right _ (List.mem_append_right _ (List.mem_append_right _ (List.mem_append_right _ (List.mem_append_right _ (List.mem_append_right _ (List.mem_append_right _ (List.mem_append_right _ (List.mem_append_right _ (List.mem_append_right _ (List.mem_append_left _ h)))))))))))))))))))))))))))))))))))
theorem ir_24 : ∀ w ∈ wsL_law_r24, w ∈ wsL_law := fun _ h => List.mem_append_left _ (List.mem_append_left _ (List.mem_append_left _ (List.mem_append_left _ (List.mem_append_left _ (List.mem_append_left _ (List.mem_append_left _ (List.mem_append_left _ (List.mem_append_left _ (List.mem_append_left _ (List.mem_append_left _ (List.mem_append_left _ (List.mem_append_left _ (List.mem_append_right _ (List.mem_append_right _ (List.mem_append_right _ (List.mem_append_right _ (List.mem_append_right _ (List.mem_append_right _ (List.mem_append_right _ (List.mem_append_right _ (List.mem_append_right _ (List.mem_append_right _ (List.mem_append_right _ (List.mem_append_right _ (List.mem_append_right _ (List.mem_append_right _ (List.mem_append_right _ (List.mem_append_right _ (List.mem_append_right _ (List.mem_append_right _ (List.mem_append_right _ (List.mem_append_right _ (List.mem_append_right _ (List.mem_append_right _ (List.mem_append_right _ (List.mem_append_left _ h))))))))))))))))))))))))))))))))))))
theorem ir_25 : ∀ w ∈ wsL_law_r25, w ∈ wsL_law := fun _ h => List.mem_append_left _ (List.mem_append_left _ (List.mem_append_left _ (List.mem_append_left _ (List.mem_append_left _ (List.mem_append_left _ (List.mem_append_left _ (List.mem_append_left _ (List.mem_append_left _ (List.mem_append_left _ (List.mem_append_left _ (List.mem_append_left _ (List.mem_append_left _ (List.mem_append_right _ (List.mem_append_right _ (List.mem_append_right _ (List.mem_append_right _ (List.mem_append_right _ (List.mem_append_right _ (List.mem_append_right _ (List.mem_append_right _ (List.mem_append_right _ (List.mem_append_right _ (List.mem_append_right _ (List.mem_append_right _ (List.mem_append_right _ (List.mem_append_right _ (List.mem_append_right _ (List.mem_append_right _ (List.mem_append_right _ (List.mem_append_right _ (List.mem_append_right _ (List.mem_append_right _ (List.mem_append_right _ (List.mem_append_right _ (List.mem_append_right _ (List.mem_append_right _ (List.mem_append_left _ h)))))))))))))))))))))))))))))))))))))
theorem ir_26 : ∀ w ∈ wsL_law_r26, w ∈ wsL_law := fun _ h => List.mem_append_left _ (List.mem_append_left _ (List.mem_append_left _ (List.mem_append_left _ (List.mem_append_left _ (List.mem_append_left _ (List.mem_append_left _ (List.mem_append_left _ (List.mem_append_left _ (List.mem_append_left _ (List.mem_append_left _ (List.mem_append_left _ (List.mem_append_left _ (List.mem_append_right _ (List.mem_append_right _ (List.mem_append_right _ (List.mem_append_right _ (List.mem_append_right _ (List.mem_append_right _ (List.mem_append_right _ (List.mem_append_right _ (List.mem_append_right _ (List.mem_append_right _ (List.mem_append_right _ (List.mem_append_right _ (List.mem_append_right _ (List.mem_append_right _ (List.mem_append_right _ (List.mem_append_right _ (List.mem_append_right _ (List.mem_append_right _ (List.mem_append_right _ (List.mem_append_right _ (List.mem_append_right _ (List.mem_append_right _ (List.mem_append_right _ (List.mem_append_right _ (List.mem_append_right _ (List.mem_append_left _ h))))))))))))))))))))))))))))))))))))))
theorem ir_27 : ∀ w ∈ wsL_law_r27, w ∈ wsL_law := fun _ h => List.mem_append_left _ (List.mem_append_left _ (List.mem_append_left _ (List.mem_append_left _ (List.mem_append_left _ (List.mem_append_left _ (List.mem_append_left _ (List.mem_append_left _ (List.mem_append_left _ (List.mem_append_left _ (List.mem_append_left _ (List.mem_append_left _ (List.mem_append_left _ (List.mem_append_right _ (List.mem_append_right _ (List.mem_append_right _ (List.mem_append_right _ (List.mem_append_right _ (List.mem_append_right _ (List.mem_append_right _ (List.mem_append_right _ (List.mem_append_right _ (List.mem_append_right _ (List.mem_append_right _ (List.mem_append_right _ (List.mem_append_right _ (List.mem_append_right _ (List.mem_append_right _ (List.mem_append_right _ (List.mem_append_right _ (List.mem_append_right _ (List.mem_append_right _ (List.mem_append_right _ (List.mem_append_right _ (List.mem_append_right _ (List.mem_append_right _ (List.mem_append_right _ (List.mem_append_right _ (List.mem_append_right _ (List.mem_append_left _ h)))))))))))))))))))))))))))))))))))))))
theorem ir_28 : ∀ w ∈ wsL_law_r28, w ∈ wsL_law := fun _ h => List.mem_append_left _ (List.mem_append_left _ (List.mem_append_left _ (List.mem_append_left _ (List.mem_append_left _ (List.mem_append_left _ (List.mem_append_left _ (List.mem_append_left _ (List.mem_append_left _ (List.mem_append_left _ (List.mem_append_left _ (List.mem_append_left _ (List.mem_append_left _ (List.mem_append_right _ (List.mem_append_right _ (List.mem_append_right _ (List.mem_append_right _ (List.mem_append_right _ (List.mem_append_right _ (List.mem_append_right _ (List.mem_append_right _ (List.mem_append_right _ (List.mem_append_right _ (List.mem_append_right _ (List.mem_append_right _ (List.mem_append_right _ (List.mem_append_right _ (List.mem_append_right _ (List.mem_append_right _ (List.mem_append_right _ (List.mem_append_right _ (List.mem_append_right _ (List.mem_append_right _ (List.mem_append_right _ (List.mem_append_right _ (List.mem_append_right _ (List.mem_append_right _ (List.mem_append_right _ (List.mem_append_right _ (List.mem_append_right _ (List.mem_append_left _ h))))))))))))))))))))))))))))))))))))))))
theorem ir_29 : ∀ w ∈ wsL_law_r29, w ∈ wsL_law := fun _ h => List.mem_append_left _ (List.mem_append_left _ (List.mem_append_left _ (List.mem_append_left _ (List.mem_append_left _ (List.mem_append_left _ (List.mem_append_left _ (List.mem_append_left _ (List.mem_append_left _ (List.mem_append_left _ (List.mem_append_left _ (List.mem_append_left _ (List.mem_append_left _ (List.mem_append_right _ (List.mem_append_right _ (List.mem_append_right _ (List.mem_append_right _ (List.mem_append_right _ (List.mem_append_right _ (List.mem_append_right _ (List.mem_append_right _ (List.mem_append_right _ (List.mem_append_right _ (List.mem_append_right _ (List.mem_append_right _ (List.mem_append_right _ (List.mem_append_right _ (List.mem_append_right _ (List.mem_append_right _ (List.mem_append_right _ (List.mem_append_right _ (List.mem_append_right _ (List.mem_append_right _ (List.mem_append_right _ (List.mem_append_right _ (List.mem_append_right _ (List.mem_append_right _ (List.mem_append_right _ (List.mem_append_right _ (List.mem_append_right _ (List.mem_append_right _ (List.mem_append_left _ h)))))))))))))))))))))))))))))))))))))))))
theorem ir_30 : ∀ w ∈ wsL_law_r30, w ∈ wsL_law := fun _ h => List.mem_append_left _ (List.mem_append_left _ (List.mem_append_left _ (List.mem_append_left _ (List.mem_append_left _ (List.mem_append_left _ (List.mem_append_left _ (List.mem_append_left _ (List.mem_append_left _ (List.mem_append_left _ (List.mem_append_left _ (List.mem_append_left _ (List.mem_append_left _ (List.mem_append_right _ (List.mem_append_right _ (List.mem_append_right _ (List.mem_append_right _ (List.mem_append_right _ (List.mem_append_right _ (List.mem_append_right _ (List.mem_append_right _ (List.mem_append_right _ (List.mem_append_right _ (List.mem_append_right _ (List.mem_append_right _ (List.mem_append_right _ (List.mem_append_right _ (List.mem_append_right _ (List.mem_append_right _ (List.mem_append_right _ (List.mem_append_right _ (List.mem_append_right _ (List.mem_append_right _ (List.mem_append_right _ (List.mem_append_right _ (List.mem_append_right _ (List.mem_append_right _ (List.mem_append_right _ (List.mem_append_right _ (List.mem_append_right _ (List.mem_append_right _ (List.mem_append_right _ (List.mem_append_left _ h))))))))))))))))))))))))))))))))))))))))))
theorem ir_31 : ∀ w ∈ wsL_law_r31, w ∈ wsL_law := fun _ h => List.mem_append_left _ (List.mem_append_left _ (List.mem_append_left _ (List.mem_append_left _ (List.mem_append_left _ (List.mem_append_left _ (List.mem_append_left _ (List.mem_append_left _ (List.mem_append_left _ (List.mem_append_left _ (List.mem_append_left _ (List.mem_append_left _ (List.mem_append_left _ (List.mem_append_right _ (List.mem_append_right _ (List.mem_append_right _ (List.mem_append_right _ (List.mem_append_right _ (List.mem_append_right _ (List.mem_append_right _ (List.mem_append_right _ (List.mem_append_right _ (List.mem_append_right _ (List.mem_append_right _ (List.mem_append_right _ (List.mem_append_right _ (List.mem_append_right _ (List.mem_append_right _ (List.mem_append_right _ (List.mem_append_right _ (List.mem_append_right _ (List.mem_append_right _ (List.mem_append_right _ (List.mem_append_right _ (List.mem_append_right _ (List.mem_append_right _ (List.mem_append_right _ (List.mem_append_right _ (List.mem_append_right _ (List.mem_append_right _ (List.mem_append_right _ (List.mem_append_right _ (List.mem_append_right _ (List.mem_append_left _ h)))))))))))))))))))))))))))))))))))))))))))
theorem ir_32 : ∀ w ∈ wsL_law_r32, w ∈ wsL_law := fun _ h => List.mem_append_left _ (List.mem_append_left _ (List.mem_append_left _ (List.mem_append_left _ (List.mem_append_left _ (List.mem_append_left _ (List.mem_append_left _ (List.mem_append_left _ (List.mem_append_left _ (List.mem_append_left _ (List.mem_append_left _ (List.mem_append_left _ (List.mem_append_left _ (List.mem_append_right _ (List.mem_append_right _ (List.mem_append_right _ (List.mem_append_right _ (List.mem_append_right _ (List.mem_append_right _ (List.mem_append_right _ (List.mem_append_right _ (List.mem_append_right _ (List.mem_append_right _ (List.mem_append_right _ (List.mem_append_right _ (List.mem_append_right _ (List.mem_append_right _ (List.mem_append_right _ (List.mem_append_right _ (List.mem_append_right _ (List.mem_append_right _ (List.mem_append_right _ (List.mem_append_right _ (List.mem_append_right _ (List.mem_append_right _ (List.mem_append_right _ (List.mem_append_right _ (List.mem_append_right _ (List.mem_append_right _ (List.mem_append_right _ (List.mem_append_right _ (List.mem_append_right _ (List.mem_append_right _ (List.mem_append_right _ (List.mem_append_left _ h))))))))))))))))))))))))))))))))))))))))))))
theorem ir_33 : ∀ w ∈ wsL_law_r33, w ∈ wsL_law := fun _ h => List.mem_append_left _ (List.mem_append_left _ (List.mem_append_left _ (List.mem_append_left _ (List.mem_append_left _ (List.mem_append_left _ (List.mem_append_left _ (List.mem_append_left _ (List.mem_append_left _ (List.mem_append_left _ (List.mem_append_left _ (List.mem_append_left _ (List.mem_append_left _ (List.mem_append_right _ (List.mem_append_right _ (List.mem_append_right _ (List.mem_append_right _ (List.mem_append_right _ (List.mem_append_right _ (List.mem_append_right _ (List.mem_append_right _ (List.mem_append_right _ (List.mem_append_right _ (List.mem_append_right _ (List.mem_append_right _ (List.mem_append_right _ (List.mem_append_right _ (List.mem_append_right _ (List.mem_append_right _ (List.mem_append_right _ (List.mem_append_right _ (List.mem_append_right _ (List.mem_append_right _ (List.mem_append_right _ (List.mem_append_right _ (List.mem_append_right _ (List.mem_append_right _ (List.mem_append_right _ (List.mem_append_right _ (List.mem_append_right _ (List.mem_append_right _ (List.mem_append_right _ (List.mem_append_right _ (List.mem_append_right _ (List.mem_append_right _ (List.mem_append_left _ h)))))))))))))))))))))))))))))))))))))))))))))
theorem ir_34 : ∀ w ∈ wsL_law_r34, w ∈ wsL_law := fun _ h => List.mem_append_left _ (List.mem_append_left _ (List.mem_append_left _ (List.mem_append_left _ (List.mem_append_left _ (List.mem_append_left _ (List.mem_append_left _ (List.mem_append_left _ (List.mem_append_left _ (List.mem_append_left _ (List.mem_append_left _ (List.mem_append_left _ (List.mem_append_left _ (List.mem_append_right _ (List.mem_append_right _ (List.mem_append_right _ (List.mem_append_right _ (List.mem_append_right _ (List.mem_append_right _ (List.mem_append_right _ (List.mem_append_right _ (List.mem_append_right _ (List.mem_append_right _ (List.mem_append_right _ (List.mem_append_right _ (List.mem_append_right _ (List.mem_append_right _ (List.mem_append_right _ (List.mem_append_right _ (List.mem_append_right _ (List.mem_append_right _ (List.mem_append_right _ (List.mem_append_right _ (List.mem_append_right _ (List.mem_append_right _ (List.mem_append_right _ (List.mem_append_right _ (List.mem_append_right _ (List.mem_append_right _ (List.mem_append_right _ (List.mem_append_right _ (List.mem_append_right _ (List.mem_append_right _ (List.mem_append_right _ (List.mem_append_right _ (List.mem_append_right _ (List.mem_append_left _ h))))))))))))))))))))))))))))))))))))))))))))))
theorem ir_35 : ∀ w ∈ wsL_law_r35, w ∈ wsL_law := fun _ h => List.mem_append_left _ (List.mem_append_left _ (List.mem_append_left _ (List.mem_append_left _ (List.mem_append_left _ (List.mem_append_left _ (List.mem_append_left _ (List.mem_append_left _ (List.mem_append_left _ (List.mem_append_left _ (List.mem_append_left _ (List.mem_append_left _ (List.mem_append_left _ (List.mem_append_right _ (List.mem_append_right _ (List.mem_append_right _ (List.mem_append_right _ (List.mem_append_right _ (List.mem_append_right _ (List.mem_append_right _ (List.mem_append_right _ (List.mem_append_right _ (List.mem_append_right _ (List.mem_append_right _ (List.mem_append_right _ (List.mem_append_right _ (List.mem_append_right _ (List.mem_append_right _ (List.mem_append_right _ (List.mem_append_right _ (List.mem_append_right _ (List.mem_append_right _ (List.mem_append_right _ (List.mem_append_right _ (List.mem_append_right _ (List.mem_append_right _ (List.mem_append_right _ (List.mem_append_right _ (List.mem_append_right _ (List.mem_append_right _ (List.mem_append_right _ (List.mem_append_right _ (List.mem_append_right _ (List.mem_append_right _ (List.mem_append_right _ (List.mem_append_right _ (List.mem_append_right _ (List.mem_append_left _ h)))))))))))))))))))))))))))))))))))))))))))))))
theorem ir_36 : ∀ w ∈ wsL_law_r36, w ∈ wsL_law := fun _ h => List.mem_append_left _ (List.mem_append_left _ (List.mem_append_left _ (List.mem_append_left _ (List.mem_append_left _ (List.mem_append_left _ (List.mem_append_left _ (List.mem_append_left _ (List.mem_append_left _ (List.mem_append_left _ (List.mem_append_left _ (List.mem_append_left _ (List.mem_append_left _ (List.mem_append_right _ (List.mem_append_right _ (List.mem_append_right _ (List.mem_append_right _ (List.mem_append_right _ (List.mem_append_right _ (List.mem_append_right _ (List.mem_append_right _ (List.mem_append_right _ (List.mem_append_right _ (List.mem_append_right _ (List.mem_append_right _ (List.mem_append_right _ (List.mem_append_right _ (List.mem_append_right _ (List.mem_append_right _ (List.mem_append_right _ (List.mem_append_right _ (List.mem_append_right _ (List.mem_append_right _ (List.mem_append_right _ (List.mem_append_right _ (List.mem_append_right _ (List.mem_append_right _ (List.mem_append_right _ (List.mem_append_right _ (List.mem_append_right _ (List.mem_append_right _ (List.mem_append_right _ (List.mem_append_right _ (List.mem_append_right _ (List.mem_append_right _ (List.mem_append_right _ (List.mem_append_right _ (List.mem_append_right _ (List.mem_append_left _ h))))))))))))))))))))))))))))))))))))))))))))))))
theorem ir_37 : ∀ w ∈ wsL_law_r37, w ∈ wsL_law := fun _ h => List.mem_append_left _ (List.mem_append_left _ (List.mem_append_left _ (List.mem_append_left _ (List.mem_append_left _ (List.mem_append_left _ (List.mem_append_left _ (List.mem_append_left _ (List.mem_append_left _ (List.mem_append_left _ (List.mem_append_left _ (List.mem_append_left _ (List.mem_append_left _ (List.mem_append_right _ (List.mem_append_right _ (List.mem_append_right _ (List.mem_append_right _ (List.mem_append_right _ (List.mem_append_right _ (List.mem_append_right _ (List.mem_append_right _ (List.mem_append_right _ (List.mem_append_right _ (List.mem_append_right _ (List.mem_append_right _ (List.mem_append_right _ (List.mem_append_right _ (List.mem_append_right _ (List.mem_append_right _ (List.mem_append_right _ (List.mem_append_right _ (List.mem_append_right _ (List.mem_append_right _ (List.mem_append_right _ (List.mem_append_right _ (List.mem_append_right _ (List.mem_append_right _ (List.mem_append_right _ (List.mem_append_right _ (List.mem_append_right _ (List.mem_append_right _ (List.mem_append_right _ (List.mem_append_right _ (List.mem_append_right _ (List.mem_append_right _ (List.mem_append_right _ (List.mem_append_right _ (List.mem_append_right _ (List.mem_append_right _ (List.mem_append_left _ h)))))))))))))))))))))))))))))))))))))))))))))))))
theorem ir_38 : ∀ w ∈ wsL_law_r38, w ∈ wsL_law := fun _ h => List.mem_append_left _ (List.mem_append_left _ (List.mem_append_left _ (List.mem_append_left _ (List.mem_append_left _ (List.mem_append_left _ (List.mem_append_left _ (List.mem_append_left _ (List.mem_append_left _ (List.mem_append_left _ (List.mem_append_left _ (List.mem_append_left _ (List.mem_append_left _ (List.mem_append_right _ (List.mem_append_right _ (List.mem_append_right _ (List.mem_append_right _ (List.mem_append_right _ (List.mem_append_right _ (List.mem_append_right _ (List.mem_append_right _ (List.mem_append_right _ (List.mem_append_right _ (List.mem_append_right _ (List.mem_append_right _ (List.mem_append_right _ (List.mem_append_right _ (List.mem_append_right _ (List.mem_append_right _ (List.mem_append_right _ (List.mem_append_right _ (List.mem_append_right _ (List.mem_append_right _ (List.mem_append_right _ (List.mem_append_right _ (List.mem_append_right _ (List.mem_append_right _ (List.mem_append_right _ (List.mem_append_right _ (List.mem_append_right _ (List.mem_append_right _ (List.mem_append_right _ (List.mem_append_right _ (List.mem_append_right _ (List.mem_append_right _ (List.mem_append_right _ (List.mem_append_right _ (List.mem_append_right _ (List.mem_append_right _ (List.mem_append_right _ (List.mem_append_left _ h))))))))))))))))))))))))))))))))))))))))))))))))))
theorem ir_39 : ∀ w ∈ wsL_law_r39, w ∈ wsL_law := fun _ h => List.mem_append_left _ (List.mem_append_left _ (List.mem_append_left _ (List.mem_append_left _ (List.mem_append_left _ (List.mem_append_left _ (List.mem_append_left _ (List.mem_append_left _ (List.mem_append_left _ (List.mem_append_left _ (List.mem_append_left _ (List.mem_append_left _ (List.mem_append_left _ (List.mem_append_right _ (List.mem_append_right _ (List.mem_append_right _ (List.mem_append_right _ (List.mem_append_right _ (List.mem_append_right _ (List.mem_append_right _ (List.mem_append_right _ (List.mem_append_right _ (List.mem_append_right _ (List.mem_append_right _ (List.mem_append_right _ (List.mem_append_right _ (List.mem_append_right _ (List.mem_append_right _ (List.mem_append_right _ (List.mem_append_right _ (List.mem_append_right _ (List.mem_append_right _ (List.mem_append_right _ (List.mem_append_right _ (List.mem_append_right _ (List.mem_append_right _ (List.mem_append_right _ (List.mem_append_right _ (List.mem_append_right _ (List.mem_append_right _ (List.mem_append_right _ (List.mem_append_right _ (List.mem_append_right _ (List.mem_append_right _ (List.mem_append_right _ (List.mem_append_right _ (List.mem_append_right _ (List.mem_append_right _ (List.mem_append_right _ (List.mem_append_right _ (List.mem_append_right _ (List.mem_append_left _ h)))))))))))))))))))))))))))))))))))))))))))))))))))
theorem ir_40 : ∀ w ∈ wsL_law_r40, w ∈ wsL_law := fun _ h => List.mem_append_left _ (List.mem_append_left _ (List.mem_append_left _ (List.mem_append_left _ (List.mem_append_left _ (List.mem_append_left _ (List.mem_append_left _ (List.mem_append_left _ (List.mem_append_left _ (List.mem_append_left _ (List.mem_append_left _ (List.mem_append_left _ (List.mem_append_left _ (List.mem_append_right _ (List.mem_append_right _ (List.mem_append_right _ (List.mem_append_right _ (List.mem_append_right _ (List.mem_append_right _ (List.mem_append_right _ (List.mem_append_right _ (List.mem_append_right _ (List.mem_append_right _ (List.mem_append_right _ (List.mem_append_right _ (List.mem_append_right _ (List.mem_append_right _ (List.mem_append_right _ (List.mem_append_right _ (List.mem_append_right _ (List.mem_append_right _ (List.mem_append_right _ (List.mem_append_right _ (List.mem_append_right _ (List.mem_append_right _ (List.mem_append_right _ (List.mem_append_right _ (List.mem_append_right _ (List.mem_append_right _ (List.mem_append_right _ (List.mem_append_right _ (List.mem_append_right _ (List.mem_append_right _ (List.mem_append_right _ (List.mem_append_right _ (List.mem_append_right _ (List.mem_append_right _ (List.mem_append_right _ (List.mem_append_right _ (List.mem_append_right _ (List.mem_append_right _ (List.mem_append_right _ (List.mem_append_left _ h))))))))))))))))))))))))))))))))))))))))))))))))))))
theorem ir_41 : ∀ w ∈ wsL_law_r41, w ∈ wsL_law := fun _ h => List.mem_append_left _ (List.mem_append_left _ (List.mem_append_left _ (List.mem_append_left _ (List.mem_append_left _ (List.mem_append_left _ (List.mem_append_left _ (List.mem_append_left _ (List.mem_append_left _ (List.mem_append_left _ (List.mem_append_left _ (List.mem_append_left _ (List.mem_append_left _ (List.mem_append_right _ (List.mem_append_right _ (List.mem_append_right _ (List.mem_append_right _ (List.mem_append_right _ (List.mem_append_right _ (List.mem_append_right _ (List.mem_append_right _ (List.mem_append_right _ (List.mem_append_right _ (List.mem_append_right _ (List.mem_append_right _ (List.mem_append_right _ (List.mem_append_right _ (List.mem_append_right _ (List.mem_append_right _ (List.mem_append_right _ (List.mem_append_right _ (List.mem_append_right _ (List.mem_append_right _ (List.mem_append_right _ (List.mem_append_right _ (List.mem_append_right _ (List.mem_append_right _ (List.mem_append_right _ (List.mem_append_right _ (List.mem_append_right _ (List.mem_append_right _ (List.mem_append_right _ (List.mem_append_right _ (List.mem_append_right _ (List.mem_append_right _ (List.mem_append_right _ (List.mem_append_right _ (List.mem_append_right _ (List.mem_append_right _ (List.mem_append_right _ (List.mem_append_right _ (List.mem_append_right _ (List.mem_append_right _ (List.mem_append_left _ h)))))))))))))))))))))))))))))))))))))))))))))))))))))
theorem ir_42 : ∀ w ∈ wsL_law_r42, w ∈ wsL_law := fun _ h => List.mem_append_left _ (List.mem_append_left _ (List.mem_append_left _ (List.mem_append_left _ (List.mem_append_left _ (List.mem_append_left _ (List.mem_append_left _ (List.mem_append_left _ (List.mem_append_left _ (List.mem_append_left _ (List.mem_append_left _ (List.mem_append_left _ (List.mem_append_left _ (List.mem_append_right _ (List.mem_append_right _ (List.mem_append_right _ (List.mem_append_right _ (List.mem_append_right _ (List.mem_append_right _ (List.mem_append_right _ (List.mem_append_right _ (List.mem_append_right _ (List.mem_append_right _ (List.mem_append_right _ (List.mem_append_right _ (List.mem_append_right _ (List.mem_append_right _ (List.mem_append_right _ (List.mem_append_right _ (List.mem_append_right _ (List.mem_append_right _ (List.mem_append_right _ (List.mem_append_right _ (List.mem_append_right _ (List.mem_append_right _ (List.mem_append_right _ (List.mem_append_right _ (List.mem_append_right _ (List.mem_append_right _ (List.mem_append_right _ (List.mem_append_right _ (List.mem_append_right _ (List.mem_append_right _ (List.mem_append_right _ (List.mem_append_right _ (List.mem_append_right _ (List.mem_append_right _ (List.mem_append_right _ (List.mem_append_right _ (List.mem_append_right _ (List.mem_append_right _ (List.mem_append_right _ (List.mem_append_right _ (List.mem_append_right _ (List.mem_append_left _ h))))))))))))))))))))))))))))))))))))))))))))))))))))))
theorem ir_43 : ∀ w ∈ wsL_law_r43, w ∈ wsL_law := fun _ h => List.mem_append_left _ (List.mem_append_left _ (List.mem_append_left _ (List.mem_append_left _ (List.mem_append_left _ (List.mem_append_left _ (List.mem_append_left _ (List.mem_append_left _ (List.mem_append_left _ (List.mem_append_left _ (List.mem_append_left _ (List.mem_append_left _ (List.mem_append_left _ (List.mem_append_right _ (List.mem_append_right _ (List.mem_append_right _ (List.mem_append_right _ (List.mem_append_right _ (List.mem_append_right _ (List.mem_append_right _ (List.mem_append_right _ (List.mem_append_right _ (List.mem_append_right _ (List.mem_append_right _ (List.mem_append_right _ (List.mem_append_right _ (List.mem_append_right _ (List.mem_append_right _ (List.mem_append_right _ (List.mem_append_right _ (List.mem_append_right _ (List.mem_append_right _ (List.mem_append_right _ (List.mem_append_right _ (List.mem_append_right _ (List.mem_append_right _ (List.mem_append_right _ (List.mem_append_right _ (List.mem_append_right _ (List.mem_append_right _ (List.mem_append_right _ (List.mem_append_right _ (List.mem_append_right _ (List.mem_append_right _ (List.mem_append_right _ (List.mem_append_right _ (List.mem_append_right _ (List.mem_append_right _ (List.mem_append_right _ (List.mem_append_right _ (List.mem_append_right _ (List.mem_append_right _ (List.mem_append_right _ (List.mem_append_right _ (List.mem_append_right _ (List.mem_append_left _ h)))))))))))))))))))))))))))))))))))))))))))))))))))))))
theorem ir_44 : ∀ w ∈ wsL_law_r44, w ∈ wsL_law := fun _ h => List.mem_append_left _ (List.mem_append_left _ (List.mem_append_left _ (List.mem_append_left _ (List.mem_append_left _ (List.mem_append_left _ (List.mem_append_left _ (List.mem_append_left _ (List.mem_append_left _ (List.mem_append_left _ (List.mem_append_left _ (List.mem_append_left _ (List.mem_append_left _ (List.mem_append_right _ (List.mem_append_right _ (List.mem_append_right _ (List.mem_append_right _ (List.mem_append_right _ (List.mem_append_right _ (List.mem_append_right _ (List.mem_append_right _ (List.mem_append_right _ (List.mem_append_right _ (List.mem_append_right _ (List.mem_append_right _ (List.mem_append_right _ (List.mem_append_right _ (List.mem_append_right _ (List.mem_append_right _ (List.mem_append_right _ (List.mem_append_right _ (List.mem_append_right _ (List.mem_append_right _ (List.mem_append_right _ (List.mem_append_right _ (List.mem_append_right _ (List.mem_append_right _ (List.mem_append_right _ (List.mem_append_right _ (List.mem_append_right _ (List.mem_append_right _ (List.mem_append_right _ (List.mem_append_right _ (List.mem_append_right _ (List.mem_append_right _ (List.mem_append_right _ (List.mem_append_right _ (List.mem_append_right _ (List.mem_append_right _ (List.mem_append_right _ (List.mem_append_right _ (List.mem_append_right _ (List.mem_append_right _ (List.mem_append_right _ (List.mem_append_right _ (List.mem_append_right _ (h))))))))))))))))))))))))))))))))))))))))))))))))))))))))
theorem kc_0 : Kc 0 RX0 TX0 5 tyX0 := ⟨rfl, inlX0, tyX0_ok, nmX0⟩
theorem kc_1 : Kc 1 RX1 TX1 3 tyX1 := ⟨rfl, inlX1, tyX1_ok, nmX1⟩
theorem kc_2 : Kc 2 RX2 TX2 9 tyX2 := ⟨rfl, inlX2, tyX2_ok, nmX2⟩
theorem kc_3 : Kc 3 RX3 TX3 18 tyX3 := ⟨rfl, inlX3, tyX3_ok, nmX3⟩
theorem kc_4 : Kc 4 RX4 TX4 7 tyX4 := ⟨rfl, inlX4, tyX4_ok, nmX4⟩
theorem kc_5 : Kc 5 RX5 TX5 4 tyX5 := ⟨rfl, inlX5, tyX5_ok, nmX5⟩
theorem kc_6 : Kc 6 RX6 TX6 3 tyX6 := ⟨rfl, inlX6, tyX6_ok, nmX6⟩
theorem kc_7 : Kc 7 RX7 TX7 8 tyX7 := ⟨rfl, inlX7, tyX7_ok, nmX7⟩
theorem kc_8 : Kc 8 RX8 TX8 2 tyX8 := ⟨rfl, inlX8, tyX8_ok, nmX8⟩
theorem kc_9 : Kc 9 RX9 TX9 7 tyX9 := ⟨rfl, inlX9, tyX9_ok, nmX9⟩
theorem kc_10 : Kc 10 RX10 TX10 12 tyX10 := ⟨rfl, inlX10, tyX10_ok, nmX10⟩
theorem kc_11 : Kc 11 RX11 TX11 48 tyX11 := ⟨rfl, inlX11, tyX11_ok, nmX11⟩
abbrev mX10_init : hMd := (yX10_init, cX10_init, 1, none)
abbrev mX8_init : hMd := (yX8_init, cX8_init, 1, none)
abbrev mX5_init : hMd := (yX5_init, cX5_init, 1, none)
abbrev mX3_init : hMd := (yX3_init, cX3_init, 1, none)
abbrev mX4_init : hMd := (yX4_init, cX4_init, 1, none)
abbrev mX1_init : hMd := (yX1_init, cX1_init, 1, none)
abbrev mX0_init : hMd := (yX0_init, cX0_init, 1, none)
abbrev mX9_init : hMd := (yX9_init, cX9_init, 1, none)
abbrev mX2_init : hMd := (yX2_init, cX2_init, 1, none)
abbrev mX6_init : hMd := (yX6_init, cX6_init, 1, none)
abbrev mX7_init : hMd := (yX7_init, cX7_init, 1, none)
abbrev mX11_init : hMd := (yX11_init, cX11_init, 1, none)
abbrev mX10_write : hMd := (yX10_write, cX10_write, 5, (some .int))
theorem mdX10_write : Md mX10_write 2 := ⟨ir_9 _ (List.mem_of_getElem? (i := 3) (by decide +kernel)), ir_1 _ (List.mem_of_getElem? (i := 2) (by decide +kernel)), rfl, by decide +kernel⟩
abbrev mX10_isWithin : hMd := (yX10_isWithin, cX10_isWithin, 3, (some .boolean))
theorem mdX10_isWithin : Md mX10_isWithin 3 := ⟨ir_9 _ (List.mem_of_getElem? (i := 7) (by decide +kernel)), ir_1 _ (List.mem_of_getElem? (i := 2) (by decide +kernel)), rfl, by decide +kernel⟩
abbrev mX8_hasSpaceFor : hMd := (yX8_hasSpaceFor, cX8_hasSpaceFor, 2, (some .boolean))
theorem mdX8_hasSpaceFor : Md mX8_hasSpaceFor 1 := ⟨ir_9 _ (List.mem_of_getElem? (i := 11) (by decide +kernel)), ir_1 _ (List.mem_of_getElem? (i := 15) (by decide +kernel)), rfl, by decide +kernel⟩
abbrev mX8_add : hMd := (yX8_add, cX8_add, 2, none)
theorem mdX8_add : Md mX8_add 1 := ⟨ir_9 _ (List.mem_of_getElem? (i := 15) (by decide +kernel)), ir_1 _ (List.mem_of_getElem? (i := 15) (by decide +kernel)), rfl, by decide +kernel⟩
abbrev mX8_length : hMd := (yX8_length, cX8_length, 1, (some .int))
theorem mdX8_length : Md mX8_length 0 := ⟨ir_9 _ (List.mem_of_getElem? (i := 19) (by decide +kernel)), ir_1 _ (List.mem_of_getElem? (i := 15) (by decide +kernel)), rfl, by decide +kernel⟩
abbrev mX11_write : hMd := (yX11_write, cX11_write, 5, (some .int))
theorem mdX11_write : Md mX11_write 2 := ⟨ir_9 _ (List.mem_of_getElem? (i := 23) (by decide +kernel)), ir_1 _ (List.mem_of_getElem? (i := 5) (by decide +kernel)), rfl, by decide +kernel⟩
abbrev mX11_in : hMd := (yX11_in, cX11_in, 3, (some .boolean))
theorem mdX11_in : Md mX11_in 3 := ⟨ir_10 _ (List.mem_of_getElem? (i := 4) (by decide +kernel)), ir_1 _ (List.mem_of_getElem? (i := 5) (by decide +kernel)), rfl, by decide +kernel⟩
abbrev mX10_erase : hMd := (yX10_erase, cX10_erase, 2, (some .int))
theorem mdX10_erase : Md mX10_erase 0 := ⟨ir_10 _ (List.mem_of_getElem? (i := 8) (by decide +kernel)), ir_1 _ (List.mem_of_getElem? (i := 2) (by decide +kernel)), rfl, by decide +kernel⟩
abbrev mX8_clear : hMd := (yX8_clear, cX8_clear, 1, none)
theorem mdX8_clear : Md mX8_clear 0 := ⟨ir_10 _ (List.mem_of_getElem? (i := 12) (by decide +kernel)), ir_1 _ (List.mem_of_getElem? (i := 15) (by decide +kernel)), rfl, by decide +kernel⟩
abbrev mX11_erase : hMd := (yX11_erase, cX11_erase, 2, (some .int))
theorem mdX11_erase : Md mX11_erase 0 := ⟨ir_10 _ (List.mem_of_getElem? (i := 16) (by decide +kernel)), ir_1 _ (List.mem_of_getElem? (i := 5) (by decide +kernel)), rfl, by decide +kernel⟩
abbrev mX10_fault : hMd := (yX10_fault, cX10_fault, 1, (some .int))
theorem mdX10_fault : Md mX10_fault 0 := ⟨ir_10 _ (List.mem_of_getElem? (i := 20) (by decide +kernel)), ir_1 _ (List.mem_of_getElem? (i := 2) (by decide +kernel)), rfl, by decide +kernel⟩
abbrev mX5_faultOf : hMd := (yX5_faultOf, cX5_faultOf, 3, (some .int))
theorem mdX5_faultOf : Md mX5_faultOf 1 := ⟨ir_11 _ (List.mem_of_getElem? (i := 0) (by decide +kernel)), ir_1 _ (List.mem_of_getElem? (i := 19) (by decide +kernel)), rfl, by decide +kernel⟩
abbrev mX5_readsWord : hMd := (yX5_readsWord, cX5_readsWord, 5, (some .boolean))
theorem mdX5_readsWord : Md mX5_readsWord 2 := ⟨ir_11 _ (List.mem_of_getElem? (i := 4) (by decide +kernel)), ir_1 _ (List.mem_of_getElem? (i := 19) (by decide +kernel)), rfl, by decide +kernel⟩
abbrev mX8_behindBlanks : hMd := (yX8_behindBlanks, cX8_behindBlanks, 3, (some .int))
theorem mdX8_behindBlanks : Md mX8_behindBlanks 1 := ⟨ir_11 _ (List.mem_of_getElem? (i := 8) (by decide +kernel)), ir_1 _ (List.mem_of_getElem? (i := 15) (by decide +kernel)), rfl, by decide +kernel⟩
abbrev mX8_at : hMd := (yX8_at, cX8_at, 2, (some .int))
theorem mdX8_at : Md mX8_at 1 := ⟨ir_11 _ (List.mem_of_getElem? (i := 12) (by decide +kernel)), ir_1 _ (List.mem_of_getElem? (i := 15) (by decide +kernel)), rfl, by decide +kernel⟩
abbrev mX8_endOfToken : hMd := (yX8_endOfToken, cX8_endOfToken, 3, (some .int))
theorem mdX8_endOfToken : Md mX8_endOfToken 1 := ⟨ir_11 _ (List.mem_of_getElem? (i := 16) (by decide +kernel)), ir_1 _ (List.mem_of_getElem? (i := 15) (by decide +kernel)), rfl, by decide +kernel⟩
abbrev mX8_isLetter : hMd := (yX8_isLetter, cX8_isLetter, 1, (some .boolean))
theorem mdX8_isLetter : Md mX8_isLetter 1 := ⟨ir_11 _ (List.mem_of_getElem? (i := 19) (by decide +kernel)), ir_1 _ (List.mem_of_getElem? (i := 15) (by decide +kernel)), rfl, by decide +kernel⟩
abbrev mX8_isDigit : hMd := (yX8_isDigit, cX8_isDigit, 1, (some .boolean))
theorem mdX8_isDigit : Md mX8_isDigit 1 := ⟨ir_11 _ (List.mem_of_getElem? (i := 22) (by decide +kernel)), ir_1 _ (List.mem_of_getElem? (i := 15) (by decide +kernel)), rfl, by decide +kernel⟩
abbrev mX3_wordOf : hMd := (yX3_wordOf, cX3_wordOf, 1, (some (.object "java/lang/String")))
theorem mdX3_wordOf : Md mX3_wordOf 1 := ⟨ir_12 _ (List.mem_of_getElem? (i := 1) (by decide +kernel)), ir_1 _ (List.mem_of_getElem? (i := 23) (by decide +kernel)), rfl, by decide +kernel⟩
abbrev mX8_spells : hMd := (yX8_spells, cX8_spells, 5, (some .boolean))
theorem mdX8_spells : Md mX8_spells 3 := ⟨ir_12 _ (List.mem_of_getElem? (i := 5) (by decide +kernel)), ir_1 _ (List.mem_of_getElem? (i := 15) (by decide +kernel)), rfl, by decide +kernel⟩
abbrev mJ0_length_8abf5 : hMd := (yJ0_length_8abf5, cJ0_length_8abf5, 1, (some .int))
theorem mdJ0_length_8abf5 : Md mJ0_length_8abf5 0 := ⟨ir_12 _ (List.mem_of_getElem? (i := 10) (by decide +kernel)), ir_12 _ (List.mem_of_getElem? (i := 9) (by decide +kernel)), rfl, by decide +kernel⟩
abbrev mJ0_coder_7d493 : hMd := (yJ0_coder_7d493, cJ0_coder_7d493, 1, (some .byte))
theorem mdJ0_coder_7d493 : Md mJ0_coder_7d493 0 := ⟨ir_12 _ (List.mem_of_getElem? (i := 15) (by decide +kernel)), ir_12 _ (List.mem_of_getElem? (i := 9) (by decide +kernel)), rfl, by decide +kernel⟩
abbrev mJ0_charAt_5068e : hMd := (yJ0_charAt_5068e, cJ0_charAt_5068e, 2, (some .char))
theorem mdJ0_charAt_5068e : Md mJ0_charAt_5068e 1 := ⟨ir_12 _ (List.mem_of_getElem? (i := 21) (by decide +kernel)), ir_12 _ (List.mem_of_getElem? (i := 9) (by decide +kernel)), rfl, by decide +kernel⟩
abbrev mJ0_isLatin1_aae02 : hMd := (yJ0_isLatin1_aae02, cJ0_isLatin1_aae02, 1, (some .boolean))
theorem mdJ0_isLatin1_aae02 : Md mJ0_isLatin1_aae02 0 := ⟨ir_13 _ (List.mem_of_getElem? (i := 1) (by decide +kernel)), ir_12 _ (List.mem_of_getElem? (i := 9) (by decide +kernel)), rfl, by decide +kernel⟩
abbrev mJ1_charAt_3b067 : hMd := (yJ1_charAt_3b067, cJ1_charAt_3b067, 2, (some .char))
theorem mdJ1_charAt_3b067 : Md mJ1_charAt_3b067 2 := ⟨ir_13 _ (List.mem_of_getElem? (i := 5) (by decide +kernel)), ir_13 _ (List.mem_of_getElem? (i := 4) (by decide +kernel)), rfl, by decide +kernel⟩
abbrev mJ0_checkIndex_df160 : hMd := (yJ0_checkIndex_df160, cJ0_checkIndex_df160, 2, none)
theorem mdJ0_checkIndex_df160 : Md mJ0_checkIndex_df160 2 := ⟨ir_13 _ (List.mem_of_getElem? (i := 8) (by decide +kernel)), ir_12 _ (List.mem_of_getElem? (i := 9) (by decide +kernel)), rfl, by decide +kernel⟩
abbrev mJ3_checkIndex_8e157 : hMd := (yJ3_checkIndex_8e157, cJ3_checkIndex_8e157, 3, (some .int))
theorem mdJ3_checkIndex_8e157 : Md mJ3_checkIndex_8e157 3 := ⟨ir_13 _ (List.mem_of_getElem? (i := 13) (by decide +kernel)), ir_13 _ (List.mem_of_getElem? (i := 12) (by decide +kernel)), rfl, by decide +kernel⟩
abbrev mJ2_charAt_3b067 : hMd := (yJ2_charAt_3b067, cJ2_charAt_3b067, 2, (some .char))
theorem mdJ2_charAt_3b067 : Md mJ2_charAt_3b067 2 := ⟨ir_13 _ (List.mem_of_getElem? (i := 17) (by decide +kernel)), ir_13 _ (List.mem_of_getElem? (i := 16) (by decide +kernel)), rfl, by decide +kernel⟩
abbrev mJ2_checkIndex_2214a : hMd := (yJ2_checkIndex_2214a, cJ2_checkIndex_2214a, 2, none)
theorem mdJ2_checkIndex_2214a : Md mJ2_checkIndex_2214a 2 := ⟨ir_13 _ (List.mem_of_getElem? (i := 20) (by decide +kernel)), ir_13 _ (List.mem_of_getElem? (i := 16) (by decide +kernel)), rfl, by decide +kernel⟩
abbrev mJ2_length_9d52b : hMd := (yJ2_length_9d52b, cJ2_length_9d52b, 1, (some .int))
theorem mdJ2_length_9d52b : Md mJ2_length_9d52b 1 := ⟨ir_13 _ (List.mem_of_getElem? (i := 23) (by decide +kernel)), ir_13 _ (List.mem_of_getElem? (i := 16) (by decide +kernel)), rfl, by decide +kernel⟩
abbrev mJ2_getChar_3b067 : hMd := (yJ2_getChar_3b067, cJ2_getChar_3b067, 2, (some .char))
theorem mdJ2_getChar_3b067 : Md mJ2_getChar_3b067 2 := ⟨ir_14 _ (List.mem_of_getElem? (i := 3) (by decide +kernel)), ir_13 _ (List.mem_of_getElem? (i := 16) (by decide +kernel)), rfl, by decide +kernel⟩
abbrev mX5_readsNumbers : hMd := (yX5_readsNumbers, cX5_readsNumbers, 7, (some .boolean))
theorem mdX5_readsNumbers : Md mX5_readsNumbers 2 := ⟨ir_14 _ (List.mem_of_getElem? (i := 10) (by decide +kernel)), ir_1 _ (List.mem_of_getElem? (i := 19) (by decide +kernel)), rfl, by decide +kernel⟩
abbrev mX8_numberIn : hMd := (yX8_numberIn, cX8_numberIn, 5, (some .int))
theorem mdX8_numberIn : Md mX8_numberIn 2 := ⟨ir_14 _ (List.mem_of_getElem? (i := 15) (by decide +kernel)), ir_1 _ (List.mem_of_getElem? (i := 15) (by decide +kernel)), rfl, by decide +kernel⟩
abbrev mX5_isDoorToItself : hMd := (yX5_isDoorToItself, cX5_isDoorToItself, 4, (some .boolean))
theorem mdX5_isDoorToItself : Md mX5_isDoorToItself 3 := ⟨ir_14 _ (List.mem_of_getElem? (i := 19) (by decide +kernel)), ir_1 _ (List.mem_of_getElem? (i := 19) (by decide +kernel)), rfl, by decide +kernel⟩
abbrev mX11_fault : hMd := (yX11_fault, cX11_fault, 1, (some .int))
theorem mdX11_fault : Md mX11_fault 0 := ⟨ir_15 _ (List.mem_of_getElem? (i := 1) (by decide +kernel)), ir_1 _ (List.mem_of_getElem? (i := 5) (by decide +kernel)), rfl, by decide +kernel⟩
abbrev mX11_isRead : hMd := (yX11_isRead, cX11_isRead, 2, (some .boolean))
theorem mdX11_isRead : Md mX11_isRead 0 := ⟨ir_15 _ (List.mem_of_getElem? (i := 6) (by decide +kernel)), ir_1 _ (List.mem_of_getElem? (i := 5) (by decide +kernel)), rfl, by decide +kernel⟩
abbrev mX11_isLine : hMd := (yX11_isLine, cX11_isLine, 4, (some .boolean))
theorem mdX11_isLine : Md mX11_isLine 1 := ⟨ir_15 _ (List.mem_of_getElem? (i := 15) (by decide +kernel)), ir_1 _ (List.mem_of_getElem? (i := 5) (by decide +kernel)), rfl, by decide +kernel⟩
abbrev mX11_nextToken : hMd := (yX11_nextToken, cX11_nextToken, 1, none)
theorem mdX11_nextToken : Md mX11_nextToken 0 := ⟨ir_16 _ (List.mem_of_getElem? (i := 5) (by decide +kernel)), ir_1 _ (List.mem_of_getElem? (i := 5) (by decide +kernel)), rfl, by decide +kernel⟩
abbrev mX11_isNumber : hMd := (yX11_isNumber, cX11_isNumber, 4, (some .boolean))
theorem mdX11_isNumber : Md mX11_isNumber 3 := ⟨ir_16 _ (List.mem_of_getElem? (i := 16) (by decide +kernel)), ir_1 _ (List.mem_of_getElem? (i := 5) (by decide +kernel)), rfl, by decide +kernel⟩
abbrev mX11_fails : hMd := (yX11_fails, cX11_fails, 1, (some .boolean))
theorem mdX11_fails : Md mX11_fails 0 := ⟨ir_16 _ (List.mem_of_getElem? (i := 20) (by decide +kernel)), ir_1 _ (List.mem_of_getElem? (i := 5) (by decide +kernel)), rfl, by decide +kernel⟩
abbrev mX11_isDoor : hMd := (yX11_isDoor, cX11_isDoor, 2, (some .boolean))
theorem mdX11_isDoor : Md mX11_isDoor 1 := ⟨ir_17 _ (List.mem_of_getElem? (i := 0) (by decide +kernel)), ir_1 _ (List.mem_of_getElem? (i := 5) (by decide +kernel)), rfl, by decide +kernel⟩
abbrev mX10_week : hMd := (yX10_week, cX10_week, 3, (some .int))
theorem mdX10_week : Md mX10_week 0 := ⟨ir_17 _ (List.mem_of_getElem? (i := 4) (by decide +kernel)), ir_1 _ (List.mem_of_getElem? (i := 2) (by decide +kernel)), rfl, by decide +kernel⟩
abbrev mX5_lines : hMd := (yX5_lines, cX5_lines, 1, (some .int))
theorem mdX5_lines : Md mX5_lines 0 := ⟨ir_17 _ (List.mem_of_getElem? (i := 8) (by decide +kernel)), ir_1 _ (List.mem_of_getElem? (i := 19) (by decide +kernel)), rfl, by decide +kernel⟩
abbrev mX5_kindOf : hMd := (yX5_kindOf, cX5_kindOf, 2, (some .int))
theorem mdX5_kindOf : Md mX5_kindOf 1 := ⟨ir_17 _ (List.mem_of_getElem? (i := 12) (by decide +kernel)), ir_1 _ (List.mem_of_getElem? (i := 19) (by decide +kernel)), rfl, by decide +kernel⟩
abbrev mX5_numbersOf : hMd := (yX5_numbersOf, cX5_numbersOf, 2, (some (.array .int)))
theorem mdX5_numbersOf : Md mX5_numbersOf 1 := ⟨ir_17 _ (List.mem_of_getElem? (i := 16) (by decide +kernel)), ir_1 _ (List.mem_of_getElem? (i := 19) (by decide +kernel)), rfl, by decide +kernel⟩
abbrev mX3_tell : hMd := (yX3_tell, cX3_tell, 3, none)
theorem mdX3_tell : Md mX3_tell 2 := ⟨ir_17 _ (List.mem_of_getElem? (i := 20) (by decide +kernel)), ir_1 _ (List.mem_of_getElem? (i := 23) (by decide +kernel)), rfl, by decide +kernel⟩
abbrev mX3_tellRoom : hMd := (yX3_tellRoom, cX3_tellRoom, 3, none)
theorem mdX3_tellRoom : Md mX3_tellRoom 1 := ⟨ir_18 _ (List.mem_of_getElem? (i := 0) (by decide +kernel)), ir_1 _ (List.mem_of_getElem? (i := 23) (by decide +kernel)), rfl, by decide +kernel⟩
abbrev mX10_hoursFrom : hMd := (yX10_hoursFrom, cX10_hoursFrom, 5, (some .int))
theorem mdX10_hoursFrom : Md mX10_hoursFrom 2 := ⟨ir_18 _ (List.mem_of_getElem? (i := 2) (by decide +kernel)), ir_1 _ (List.mem_of_getElem? (i := 2) (by decide +kernel)), rfl, by decide +kernel⟩
abbrev mX0_forget : hMd := (yX0_forget, cX0_forget, 1, none)
theorem mdX0_forget : Md mX0_forget 0 := ⟨ir_18 _ (List.mem_of_getElem? (i := 6) (by decide +kernel)), ir_2 _ (List.mem_of_getElem? (i := 12) (by decide +kernel)), rfl, by decide +kernel⟩
abbrev mX11_week : hMd := (yX11_week, cX11_week, 2, (some .int))
theorem mdX11_week : Md mX11_week 0 := ⟨ir_18 _ (List.mem_of_getElem? (i := 10) (by decide +kernel)), ir_1 _ (List.mem_of_getElem? (i := 5) (by decide +kernel)), rfl, by decide +kernel⟩
abbrev mX11_doLine : hMd := (yX11_doLine, cX11_doLine, 5, none)
theorem mdX11_doLine : Md mX11_doLine 1 := ⟨ir_18 _ (List.mem_of_getElem? (i := 14) (by decide +kernel)), ir_1 _ (List.mem_of_getElem? (i := 5) (by decide +kernel)), rfl, by decide +kernel⟩
abbrev mX11_doHours : hMd := (yX11_doHours, cX11_doHours, 4, none)
theorem mdX11_doHours : Md mX11_doHours 3 := ⟨ir_18 _ (List.mem_of_getElem? (i := 19) (by decide +kernel)), ir_1 _ (List.mem_of_getElem? (i := 5) (by decide +kernel)), rfl, by decide +kernel⟩
abbrev mX11_hoursOf : hMd := (yX11_hoursOf, cX11_hoursOf, 4, (some .int))
theorem mdX11_hoursOf : Md mX11_hoursOf 2 := ⟨ir_18 _ (List.mem_of_getElem? (i := 22) (by decide +kernel)), ir_1 _ (List.mem_of_getElem? (i := 5) (by decide +kernel)), rfl, by decide +kernel⟩
abbrev mX10_room : hMd := (yX10_room, cX10_room, 3, (some .int))
theorem mdX10_room : Md mX10_room 2 := ⟨ir_19 _ (List.mem_of_getElem? (i := 2) (by decide +kernel)), ir_1 _ (List.mem_of_getElem? (i := 2) (by decide +kernel)), rfl, by decide +kernel⟩
abbrev mX3_isTold : hMd := (yX3_isTold, cX3_isTold, 2, (some .boolean))
theorem mdX3_isTold : Md mX3_isTold 1 := ⟨ir_19 _ (List.mem_of_getElem? (i := 6) (by decide +kernel)), ir_1 _ (List.mem_of_getElem? (i := 23) (by decide +kernel)), rfl, by decide +kernel⟩
abbrev mX3_firstAir : hMd := (yX3_firstAir, cX3_firstAir, 2, (some .int))
theorem mdX3_firstAir : Md mX3_firstAir 1 := ⟨ir_19 _ (List.mem_of_getElem? (i := 10) (by decide +kernel)), ir_1 _ (List.mem_of_getElem? (i := 23) (by decide +kernel)), rfl, by decide +kernel⟩
abbrev mX3_firstWall : hMd := (yX3_firstWall, cX3_firstWall, 2, (some .int))
theorem mdX3_firstWall : Md mX3_firstWall 1 := ⟨ir_19 _ (List.mem_of_getElem? (i := 14) (by decide +kernel)), ir_1 _ (List.mem_of_getElem? (i := 23) (by decide +kernel)), rfl, by decide +kernel⟩
abbrev mX3_side : hMd := (yX3_side, cX3_side, 2, (some .int))
theorem mdX3_side : Md mX3_side 1 := ⟨ir_19 _ (List.mem_of_getElem? (i := 18) (by decide +kernel)), ir_1 _ (List.mem_of_getElem? (i := 23) (by decide +kernel)), rfl, by decide +kernel⟩
abbrev mX3_folk : hMd := (yX3_folk, cX3_folk, 2, (some .int))
theorem mdX3_folk : Md mX3_folk 1 := ⟨ir_19 _ (List.mem_of_getElem? (i := 22) (by decide +kernel)), ir_1 _ (List.mem_of_getElem? (i := 23) (by decide +kernel)), rfl, by decide +kernel⟩
abbrev mX3_habit : hMd := (yX3_habit, cX3_habit, 2, (some .int))
theorem mdX3_habit : Md mX3_habit 1 := ⟨ir_20 _ (List.mem_of_getElem? (i := 2) (by decide +kernel)), ir_1 _ (List.mem_of_getElem? (i := 23) (by decide +kernel)), rfl, by decide +kernel⟩
abbrev mX3_openHours : hMd := (yX3_openHours, cX3_openHours, 2, (some .int))
theorem mdX3_openHours : Md mX3_openHours 1 := ⟨ir_20 _ (List.mem_of_getElem? (i := 6) (by decide +kernel)), ir_1 _ (List.mem_of_getElem? (i := 23) (by decide +kernel)), rfl, by decide +kernel⟩
abbrev mX3_shutHours : hMd := (yX3_shutHours, cX3_shutHours, 2, (some .int))
theorem mdX3_shutHours : Md mX3_shutHours 1 := ⟨ir_20 _ (List.mem_of_getElem? (i := 10) (by decide +kernel)), ir_1 _ (List.mem_of_getElem? (i := 23) (by decide +kernel)), rfl, by decide +kernel⟩
abbrev mX11_room : hMd := (yX11_room, cX11_room, 3, (some .int))
theorem mdX11_room : Md mX11_room 2 := ⟨ir_20 _ (List.mem_of_getElem? (i := 14) (by decide +kernel)), ir_1 _ (List.mem_of_getElem? (i := 5) (by decide +kernel)), rfl, by decide +kernel⟩
abbrev mX11_isRoom : hMd := (yX11_isRoom, cX11_isRoom, 2, (some .boolean))
theorem mdX11_isRoom : Md mX11_isRoom 1 := ⟨ir_20 _ (List.mem_of_getElem? (i := 18) (by decide +kernel)), ir_1 _ (List.mem_of_getElem? (i := 5) (by decide +kernel)), rfl, by decide +kernel⟩
abbrev mX11_has : hMd := (yX11_has, cX11_has, 2, (some .boolean))
theorem mdX11_has : Md mX11_has 2 := ⟨ir_20 _ (List.mem_of_getElem? (i := 21) (by decide +kernel)), ir_1 _ (List.mem_of_getElem? (i := 5) (by decide +kernel)), rfl, by decide +kernel⟩
abbrev mX10_door : hMd := (yX10_door, cX10_door, 3, (some .int))
theorem mdX10_door : Md mX10_door 2 := ⟨ir_21 _ (List.mem_of_getElem? (i := 1) (by decide +kernel)), ir_1 _ (List.mem_of_getElem? (i := 2) (by decide +kernel)), rfl, by decide +kernel⟩
abbrev mX10_isRoom : hMd := (yX10_isRoom, cX10_isRoom, 1, (some .boolean))
theorem mdX10_isRoom : Md mX10_isRoom 1 := ⟨ir_21 _ (List.mem_of_getElem? (i := 4) (by decide +kernel)), ir_1 _ (List.mem_of_getElem? (i := 2) (by decide +kernel)), rfl, by decide +kernel⟩
abbrev mX3_passes : hMd := (yX3_passes, cX3_passes, 3, (some .int))
theorem mdX3_passes : Md mX3_passes 2 := ⟨ir_21 _ (List.mem_of_getElem? (i := 8) (by decide +kernel)), ir_1 _ (List.mem_of_getElem? (i := 23) (by decide +kernel)), rfl, by decide +kernel⟩
abbrev mX11_door : hMd := (yX11_door, cX11_door, 3, (some .int))
theorem mdX11_door : Md mX11_door 2 := ⟨ir_21 _ (List.mem_of_getElem? (i := 12) (by decide +kernel)), ir_1 _ (List.mem_of_getElem? (i := 5) (by decide +kernel)), rfl, by decide +kernel⟩
abbrev mX10_out : hMd := (yX10_out, cX10_out, 2, (some .int))
theorem mdX10_out : Md mX10_out 1 := ⟨ir_21 _ (List.mem_of_getElem? (i := 16) (by decide +kernel)), ir_1 _ (List.mem_of_getElem? (i := 2) (by decide +kernel)), rfl, by decide +kernel⟩
abbrev mX10_isHour : hMd := (yX10_isHour, cX10_isHour, 1, (some .boolean))
theorem mdX10_isHour : Md mX10_isHour 1 := ⟨ir_21 _ (List.mem_of_getElem? (i := 19) (by decide +kernel)), ir_1 _ (List.mem_of_getElem? (i := 2) (by decide +kernel)), rfl, by decide +kernel⟩
abbrev mX3_skyAt : hMd := (yX3_skyAt, cX3_skyAt, 5, (some .int))
theorem mdX3_skyAt : Md mX3_skyAt 1 := ⟨ir_21 _ (List.mem_of_getElem? (i := 23) (by decide +kernel)), ir_1 _ (List.mem_of_getElem? (i := 23) (by decide +kernel)), rfl, by decide +kernel⟩
abbrev mX11_out : hMd := (yX11_out, cX11_out, 2, (some .int))
theorem mdX11_out : Md mX11_out 1 := ⟨ir_22 _ (List.mem_of_getElem? (i := 3) (by decide +kernel)), ir_1 _ (List.mem_of_getElem? (i := 5) (by decide +kernel)), rfl, by decide +kernel⟩
abbrev mX11_outAt : hMd := (yX11_outAt, cX11_outAt, 7, (some .int))
theorem mdX11_outAt : Md mX11_outAt 1 := ⟨ir_22 _ (List.mem_of_getElem? (i := 7) (by decide +kernel)), ir_1 _ (List.mem_of_getElem? (i := 5) (by decide +kernel)), rfl, by decide +kernel⟩
abbrev mX10_warm : hMd := (yX10_warm, cX10_warm, 4, (some .int))
theorem mdX10_warm : Md mX10_warm 3 := ⟨ir_22 _ (List.mem_of_getElem? (i := 11) (by decide +kernel)), ir_1 _ (List.mem_of_getElem? (i := 2) (by decide +kernel)), rfl, by decide +kernel⟩
abbrev mX10_courseAsTold : hMd := (yX10_courseAsTold, cX10_courseAsTold, 1, (some (.object "HotWeek$Course")))
theorem mdX10_courseAsTold : Md mX10_courseAsTold 0 := ⟨ir_22 _ (List.mem_of_getElem? (i := 15) (by decide +kernel)), ir_1 _ (List.mem_of_getElem? (i := 2) (by decide +kernel)), rfl, by decide +kernel⟩
abbrev mX4_takeFrom : hMd := (yX4_takeFrom, cX4_takeFrom, 3, none)
theorem mdX4_takeFrom : Md mX4_takeFrom 1 := ⟨ir_22 _ (List.mem_of_getElem? (i := 19) (by decide +kernel)), ir_2 _ (List.mem_of_getElem? (i := 3) (by decide +kernel)), rfl, by decide +kernel⟩
abbrev mX4_takeWorksOff : hMd := (yX4_takeWorksOff, cX4_takeWorksOff, 4, none)
theorem mdX4_takeWorksOff : Md mX4_takeWorksOff 2 := ⟨ir_23 _ (List.mem_of_getElem? (i := 2) (by decide +kernel)), ir_2 _ (List.mem_of_getElem? (i := 3) (by decide +kernel)), rfl, by decide +kernel⟩
abbrev mX3_leaks : hMd := (yX3_leaks, cX3_leaks, 1, (some .int))
theorem mdX3_leaks : Md mX3_leaks 0 := ⟨ir_23 _ (List.mem_of_getElem? (i := 6) (by decide +kernel)), ir_1 _ (List.mem_of_getElem? (i := 23) (by decide +kernel)), rfl, by decide +kernel⟩
abbrev mX3_sunIn : hMd := (yX3_sunIn, cX3_sunIn, 3, (some .int))
theorem mdX3_sunIn : Md mX3_sunIn 2 := ⟨ir_23 _ (List.mem_of_getElem? (i := 10) (by decide +kernel)), ir_1 _ (List.mem_of_getElem? (i := 23) (by decide +kernel)), rfl, by decide +kernel⟩
abbrev mX3_shinesOn : hMd := (yX3_shinesOn, cX3_shinesOn, 2, (some .boolean))
theorem mdX3_shinesOn : Md mX3_shinesOn 2 := ⟨ir_23 _ (List.mem_of_getElem? (i := 13) (by decide +kernel)), ir_1 _ (List.mem_of_getElem? (i := 23) (by decide +kernel)), rfl, by decide +kernel⟩
abbrev mX10_hasBit : hMd := (yX10_hasBit, cX10_hasBit, 2, (some .boolean))
theorem mdX10_hasBit : Md mX10_hasBit 2 := ⟨ir_23 _ (List.mem_of_getElem? (i := 15) (by decide +kernel)), ir_1 _ (List.mem_of_getElem? (i := 2) (by decide +kernel)), rfl, by decide +kernel⟩
abbrev mX3_gives : hMd := (yX3_gives, cX3_gives, 1, (some .int))
theorem mdX3_gives : Md mX3_gives 0 := ⟨ir_23 _ (List.mem_of_getElem? (i := 19) (by decide +kernel)), ir_1 _ (List.mem_of_getElem? (i := 23) (by decide +kernel)), rfl, by decide +kernel⟩
abbrev mX3_takes : hMd := (yX3_takes, cX3_takes, 1, (some .int))
theorem mdX3_takes : Md mX3_takes 0 := ⟨ir_23 _ (List.mem_of_getElem? (i := 23) (by decide +kernel)), ir_1 _ (List.mem_of_getElem? (i := 23) (by decide +kernel)), rfl, by decide +kernel⟩
abbrev mX4_putLaw : hMd := (yX4_putLaw, cX4_putLaw, 3, none)
theorem mdX4_putLaw : Md mX4_putLaw 2 := ⟨ir_24 _ (List.mem_of_getElem? (i := 3) (by decide +kernel)), ir_2 _ (List.mem_of_getElem? (i := 3) (by decide +kernel)), rfl, by decide +kernel⟩
abbrev mX1_run : hMd := (yX1_run, cX1_run, 5, none)
theorem mdX1_run : Md mX1_run 2 := ⟨ir_24 _ (List.mem_of_getElem? (i := 7) (by decide +kernel)), ir_2 _ (List.mem_of_getElem? (i := 7) (by decide +kernel)), rfl, by decide +kernel⟩
abbrev mX1_goOn : hMd := (yX1_goOn, cX1_goOn, 11, none)
theorem mdX1_goOn : Md mX1_goOn 4 := ⟨ir_24 _ (List.mem_of_getElem? (i := 14) (by decide +kernel)), ir_2 _ (List.mem_of_getElem? (i := 7) (by decide +kernel)), rfl, by decide +kernel⟩
abbrev mX4_skyAt : hMd := (yX4_skyAt, cX4_skyAt, 2, (some .int))
theorem mdX4_skyAt : Md mX4_skyAt 1 := ⟨ir_24 _ (List.mem_of_getElem? (i := 18) (by decide +kernel)), ir_2 _ (List.mem_of_getElem? (i := 3) (by decide +kernel)), rfl, by decide +kernel⟩
abbrev mX3_homeHours : hMd := (yX3_homeHours, cX3_homeHours, 1, (some .int))
theorem mdX3_homeHours : Md mX3_homeHours 0 := ⟨ir_24 _ (List.mem_of_getElem? (i := 22) (by decide +kernel)), ir_1 _ (List.mem_of_getElem? (i := 23) (by decide +kernel)), rfl, by decide +kernel⟩
abbrev mX4_wouldOpen : hMd := (yX4_wouldOpen, cX4_wouldOpen, 4, (some .boolean))
theorem mdX4_wouldOpen : Md mX4_wouldOpen 3 := ⟨ir_25 _ (List.mem_of_getElem? (i := 2) (by decide +kernel)), ir_2 _ (List.mem_of_getElem? (i := 3) (by decide +kernel)), rfl, by decide +kernel⟩
abbrev mX4_sunIn : hMd := (yX4_sunIn, cX4_sunIn, 3, (some .int))
theorem mdX4_sunIn : Md mX4_sunIn 2 := ⟨ir_25 _ (List.mem_of_getElem? (i := 6) (by decide +kernel)), ir_2 _ (List.mem_of_getElem? (i := 3) (by decide +kernel)), rfl, by decide +kernel⟩
abbrev mX4_gives : hMd := (yX4_gives, cX4_gives, 1, (some .int))
theorem mdX4_gives : Md mX4_gives 0 := ⟨ir_25 _ (List.mem_of_getElem? (i := 10) (by decide +kernel)), ir_2 _ (List.mem_of_getElem? (i := 3) (by decide +kernel)), rfl, by decide +kernel⟩
abbrev mX1_throughDoors : hMd := (yX1_throughDoors, cX1_throughDoors, 7, (some .int))
theorem mdX1_throughDoors : Md mX1_throughDoors 3 := ⟨ir_25 _ (List.mem_of_getElem? (i := 14) (by decide +kernel)), ir_2 _ (List.mem_of_getElem? (i := 7) (by decide +kernel)), rfl, by decide +kernel⟩
abbrev mX3_window : hMd := (yX3_window, cX3_window, 1, (some .int))
theorem mdX3_window : Md mX3_window 0 := ⟨ir_25 _ (List.mem_of_getElem? (i := 20) (by decide +kernel)), ir_1 _ (List.mem_of_getElem? (i := 23) (by decide +kernel)), rfl, by decide +kernel⟩
abbrev mX4_takes : hMd := (yX4_takes, cX4_takes, 1, (some .int))
theorem mdX4_takes : Md mX4_takes 0 := ⟨ir_26 _ (List.mem_of_getElem? (i := 0) (by decide +kernel)), ir_2 _ (List.mem_of_getElem? (i := 3) (by decide +kernel)), rfl, by decide +kernel⟩
abbrev mX4_leaks : hMd := (yX4_leaks, cX4_leaks, 2, (some .int))
theorem mdX4_leaks : Md mX4_leaks 1 := ⟨ir_26 _ (List.mem_of_getElem? (i := 4) (by decide +kernel)), ir_2 _ (List.mem_of_getElem? (i := 3) (by decide +kernel)), rfl, by decide +kernel⟩
abbrev mX1_airBehind : hMd := (yX1_airBehind, cX1_airBehind, 3, (some .int))
theorem mdX1_airBehind : Md mX1_airBehind 2 := ⟨ir_26 _ (List.mem_of_getElem? (i := 8) (by decide +kernel)), ir_2 _ (List.mem_of_getElem? (i := 7) (by decide +kernel)), rfl, by decide +kernel⟩
abbrev mX1_wallBehind : hMd := (yX1_wallBehind, cX1_wallBehind, 3, (some .int))
theorem mdX1_wallBehind : Md mX1_wallBehind 2 := ⟨ir_26 _ (List.mem_of_getElem? (i := 12) (by decide +kernel)), ir_2 _ (List.mem_of_getElem? (i := 7) (by decide +kernel)), rfl, by decide +kernel⟩
abbrev mX1_openIn : hMd := (yX1_openIn, cX1_openIn, 3, (some .int))
theorem mdX1_openIn : Md mX1_openIn 2 := ⟨ir_26 _ (List.mem_of_getElem? (i := 16) (by decide +kernel)), ir_2 _ (List.mem_of_getElem? (i := 7) (by decide +kernel)), rfl, by decide +kernel⟩
abbrev mX11_warm : hMd := (yX11_warm, cX11_warm, 5, (some .int))
theorem mdX11_warm : Md mX11_warm 3 := ⟨ir_26 _ (List.mem_of_getElem? (i := 20) (by decide +kernel)), ir_1 _ (List.mem_of_getElem? (i := 5) (by decide +kernel)), rfl, by decide +kernel⟩
abbrev mX11_asTold : hMd := (yX11_asTold, cX11_asTold, 2, none)
theorem mdX11_asTold : Md mX11_asTold 0 := ⟨ir_27 _ (List.mem_of_getElem? (i := 0) (by decide +kernel)), ir_1 _ (List.mem_of_getElem? (i := 5) (by decide +kernel)), rfl, by decide +kernel⟩
abbrev mX11_goWeek : hMd := (yX11_goWeek, cX11_goWeek, 2, none)
theorem mdX11_goWeek : Md mX11_goWeek 0 := ⟨ir_27 _ (List.mem_of_getElem? (i := 5) (by decide +kernel)), ir_1 _ (List.mem_of_getElem? (i := 5) (by decide +kernel)), rfl, by decide +kernel⟩
abbrev mX11_goHour : hMd := (yX11_goHour, cX11_goHour, 9, none)
theorem mdX11_goHour : Md mX11_goHour 1 := ⟨ir_27 _ (List.mem_of_getElem? (i := 9) (by decide +kernel)), ir_1 _ (List.mem_of_getElem? (i := 5) (by decide +kernel)), rfl, by decide +kernel⟩
abbrev mX11_sunAt : hMd := (yX11_sunAt, cX11_sunAt, 7, (some .int))
theorem mdX11_sunAt : Md mX11_sunAt 2 := ⟨ir_27 _ (List.mem_of_getElem? (i := 13) (by decide +kernel)), ir_1 _ (List.mem_of_getElem? (i := 5) (by decide +kernel)), rfl, by decide +kernel⟩
abbrev mX11_isOpenAt : hMd := (yX11_isOpenAt, cX11_isOpenAt, 4, (some .boolean))
theorem mdX11_isOpenAt : Md mX11_isOpenAt 2 := ⟨ir_27 _ (List.mem_of_getElem? (i := 18) (by decide +kernel)), ir_1 _ (List.mem_of_getElem? (i := 5) (by decide +kernel)), rfl, by decide +kernel⟩
abbrev mX11_leaksOf : hMd := (yX11_leaksOf, cX11_leaksOf, 4, (some .int))
theorem mdX11_leaksOf : Md mX11_leaksOf 1 := ⟨ir_27 _ (List.mem_of_getElem? (i := 22) (by decide +kernel)), ir_1 _ (List.mem_of_getElem? (i := 5) (by decide +kernel)), rfl, by decide +kernel⟩
abbrev mX10_night : hMd := (yX10_night, cX10_night, 2, (some .int))
theorem mdX10_night : Md mX10_night 1 := ⟨ir_28 _ (List.mem_of_getElem? (i := 2) (by decide +kernel)), ir_1 _ (List.mem_of_getElem? (i := 2) (by decide +kernel)), rfl, by decide +kernel⟩
abbrev mX1_nightOfAll : hMd := (yX1_nightOfAll, cX1_nightOfAll, 4, (some .int))
theorem mdX1_nightOfAll : Md mX1_nightOfAll 1 := ⟨ir_28 _ (List.mem_of_getElem? (i := 6) (by decide +kernel)), ir_2 _ (List.mem_of_getElem? (i := 7) (by decide +kernel)), rfl, by decide +kernel⟩
abbrev mX1_nightOf : hMd := (yX1_nightOf, cX1_nightOf, 5, (some .int))
theorem mdX1_nightOf : Md mX1_nightOf 1 := ⟨ir_28 _ (List.mem_of_getElem? (i := 10) (by decide +kernel)), ir_2 _ (List.mem_of_getElem? (i := 7) (by decide +kernel)), rfl, by decide +kernel⟩
abbrev mX11_night : hMd := (yX11_night, cX11_night, 3, (some .int))
theorem mdX11_night : Md mX11_night 1 := ⟨ir_28 _ (List.mem_of_getElem? (i := 15) (by decide +kernel)), ir_1 _ (List.mem_of_getElem? (i := 5) (by decide +kernel)), rfl, by decide +kernel⟩
abbrev mX11_nightOfAll : hMd := (yX11_nightOfAll, cX11_nightOfAll, 3, (some .int))
theorem mdX11_nightOfAll : Md mX11_nightOfAll 0 := ⟨ir_28 _ (List.mem_of_getElem? (i := 19) (by decide +kernel)), ir_1 _ (List.mem_of_getElem? (i := 5) (by decide +kernel)), rfl, by decide +kernel⟩
abbrev mX11_nightOf : hMd := (yX11_nightOf, cX11_nightOf, 5, (some .int))
theorem mdX11_nightOf : Md mX11_nightOf 1 := ⟨ir_28 _ (List.mem_of_getElem? (i := 23) (by decide +kernel)), ir_1 _ (List.mem_of_getElem? (i := 5) (by decide +kernel)), rfl, by decide +kernel⟩
abbrev mX10_above : hMd := (yX10_above, cX10_above, 3, (some .int))
theorem mdX10_above : Md mX10_above 2 := ⟨ir_29 _ (List.mem_of_getElem? (i := 3) (by decide +kernel)), ir_1 _ (List.mem_of_getElem? (i := 2) (by decide +kernel)), rfl, by decide +kernel⟩
abbrev mX1_longestAbove : hMd := (yX1_longestAbove, cX1_longestAbove, 6, (some .int))
theorem mdX1_longestAbove : Md mX1_longestAbove 2 := ⟨ir_29 _ (List.mem_of_getElem? (i := 7) (by decide +kernel)), ir_2 _ (List.mem_of_getElem? (i := 7) (by decide +kernel)), rfl, by decide +kernel⟩
abbrev mX11_above : hMd := (yX11_above, cX11_above, 6, (some .int))
theorem mdX11_above : Md mX11_above 2 := ⟨ir_29 _ (List.mem_of_getElem? (i := 15) (by decide +kernel)), ir_1 _ (List.mem_of_getElem? (i := 5) (by decide +kernel)), rfl, by decide +kernel⟩
abbrev mX10_costs : hMd := (yX10_costs, cX10_costs, 2, (some .int))
theorem mdX10_costs : Md mX10_costs 1 := ⟨ir_29 _ (List.mem_of_getElem? (i := 19) (by decide +kernel)), ir_1 _ (List.mem_of_getElem? (i := 2) (by decide +kernel)), rfl, by decide +kernel⟩
abbrev mX4_putHabit : hMd := (yX4_putHabit, cX4_putHabit, 3, none)
theorem mdX4_putHabit : Md mX4_putHabit 2 := ⟨ir_30 _ (List.mem_of_getElem? (i := 0) (by decide +kernel)), ir_2 _ (List.mem_of_getElem? (i := 3) (by decide +kernel)), rfl, by decide +kernel⟩
abbrev mX11_costs : hMd := (yX11_costs, cX11_costs, 3, (some .int))
theorem mdX11_costs : Md mX11_costs 1 := ⟨ir_30 _ (List.mem_of_getElem? (i := 4) (by decide +kernel)), ir_1 _ (List.mem_of_getElem? (i := 5) (by decide +kernel)), rfl, by decide +kernel⟩
abbrev mX10_clock : hMd := (yX10_clock, cX10_clock, 2, (some .int))
theorem mdX10_clock : Md mX10_clock 1 := ⟨ir_30 _ (List.mem_of_getElem? (i := 9) (by decide +kernel)), ir_1 _ (List.mem_of_getElem? (i := 2) (by decide +kernel)), rfl, by decide +kernel⟩
abbrev mX0_find : hMd := (yX0_find, cX0_find, 6, none)
theorem mdX0_find : Md mX0_find 3 := ⟨ir_30 _ (List.mem_of_getElem? (i := 13) (by decide +kernel)), ir_2 _ (List.mem_of_getElem? (i := 12) (by decide +kernel)), rfl, by decide +kernel⟩
abbrev mX4_putAllByGlass : hMd := (yX4_putAllByGlass, cX4_putAllByGlass, 2, none)
theorem mdX4_putAllByGlass : Md mX4_putAllByGlass 0 := ⟨ir_30 _ (List.mem_of_getElem? (i := 19) (by decide +kernel)), ir_2 _ (List.mem_of_getElem? (i := 3) (by decide +kernel)), rfl, by decide +kernel⟩
abbrev mX4_putAllByClock : hMd := (yX4_putAllByClock, cX4_putAllByClock, 3, none)
theorem mdX4_putAllByClock : Md mX4_putAllByClock 1 := ⟨ir_31 _ (List.mem_of_getElem? (i := 1) (by decide +kernel)), ir_2 _ (List.mem_of_getElem? (i := 3) (by decide +kernel)), rfl, by decide +kernel⟩
abbrev mX0_keepBetter : hMd := (yX0_keepBetter, cX0_keepBetter, 5, none)
theorem mdX0_keepBetter : Md mX0_keepBetter 3 := ⟨ir_31 _ (List.mem_of_getElem? (i := 5) (by decide +kernel)), ir_2 _ (List.mem_of_getElem? (i := 12) (by decide +kernel)), rfl, by decide +kernel⟩
abbrev mX0_from : hMd := (yX0_from, cX0_from, 1, (some .int))
theorem mdX0_from : Md mX0_from 0 := ⟨ir_31 _ (List.mem_of_getElem? (i := 12) (by decide +kernel)), ir_2 _ (List.mem_of_getElem? (i := 12) (by decide +kernel)), rfl, by decide +kernel⟩
abbrev mX0_to : hMd := (yX0_to, cX0_to, 1, (some .int))
theorem mdX0_to : Md mX0_to 0 := ⟨ir_31 _ (List.mem_of_getElem? (i := 16) (by decide +kernel)), ir_2 _ (List.mem_of_getElem? (i := 12) (by decide +kernel)), rfl, by decide +kernel⟩
abbrev mX0_nightOfAll : hMd := (yX0_nightOfAll, cX0_nightOfAll, 1, (some .int))
theorem mdX0_nightOfAll : Md mX0_nightOfAll 0 := ⟨ir_31 _ (List.mem_of_getElem? (i := 20) (by decide +kernel)), ir_2 _ (List.mem_of_getElem? (i := 12) (by decide +kernel)), rfl, by decide +kernel⟩
abbrev mX0_near : hMd := (yX0_near, cX0_near, 1, (some .int))
theorem mdX0_near : Md mX0_near 0 := ⟨ir_32 _ (List.mem_of_getElem? (i := 0) (by decide +kernel)), ir_2 _ (List.mem_of_getElem? (i := 12) (by decide +kernel)), rfl, by decide +kernel⟩
abbrev mX11_clock : hMd := (yX11_clock, cX11_clock, 6, (some .int))
theorem mdX11_clock : Md mX11_clock 1 := ⟨ir_32 _ (List.mem_of_getElem? (i := 4) (by decide +kernel)), ir_1 _ (List.mem_of_getElem? (i := 5) (by decide +kernel)), rfl, by decide +kernel⟩
abbrev mX11_nightByClock : hMd := (yX11_nightByClock, cX11_nightByClock, 4, (some .int))
theorem mdX11_nightByClock : Md mX11_nightByClock 2 := ⟨ir_32 _ (List.mem_of_getElem? (i := 8) (by decide +kernel)), ir_1 _ (List.mem_of_getElem? (i := 5) (by decide +kernel)), rfl, by decide +kernel⟩
abbrev mX11_nightByGlass : hMd := (yX11_nightByGlass, cX11_nightByGlass, 2, (some .int))
theorem mdX11_nightByGlass : Md mX11_nightByGlass 0 := ⟨ir_32 _ (List.mem_of_getElem? (i := 12) (by decide +kernel)), ir_1 _ (List.mem_of_getElem? (i := 5) (by decide +kernel)), rfl, by decide +kernel⟩
abbrev mX10_work : hMd := (yX10_work, cX10_work, 5, (some .int))
theorem mdX10_work : Md mX10_work 4 := ⟨ir_32 _ (List.mem_of_getElem? (i := 16) (by decide +kernel)), ir_1 _ (List.mem_of_getElem? (i := 2) (by decide +kernel)), rfl, by decide +kernel⟩
abbrev mX9_isFull : hMd := (yX9_isFull, cX9_isFull, 1, (some .boolean))
theorem mdX9_isFull : Md mX9_isFull 0 := ⟨ir_32 _ (List.mem_of_getElem? (i := 20) (by decide +kernel)), ir_2 _ (List.mem_of_getElem? (i := 16) (by decide +kernel)), rfl, by decide +kernel⟩
abbrev mX9_add : hMd := (yX9_add, cX9_add, 5, (some .int))
theorem mdX9_add : Md mX9_add 4 := ⟨ir_33 _ (List.mem_of_getElem? (i := 0) (by decide +kernel)), ir_2 _ (List.mem_of_getElem? (i := 16) (by decide +kernel)), rfl, by decide +kernel⟩
abbrev mX11_work : hMd := (yX11_work, cX11_work, 5, (some .int))
theorem mdX11_work : Md mX11_work 4 := ⟨ir_33 _ (List.mem_of_getElem? (i := 5) (by decide +kernel)), ir_1 _ (List.mem_of_getElem? (i := 5) (by decide +kernel)), rfl, by decide +kernel⟩
abbrev mX10_works : hMd := (yX10_works, cX10_works, 3, (some .int))
theorem mdX10_works : Md mX10_works 2 := ⟨ir_33 _ (List.mem_of_getElem? (i := 9) (by decide +kernel)), ir_1 _ (List.mem_of_getElem? (i := 2) (by decide +kernel)), rfl, by decide +kernel⟩
abbrev mX9_findFor : hMd := (yX9_findFor, cX9_findFor, 7, none)
theorem mdX9_findFor : Md mX9_findFor 4 := ⟨ir_33 _ (List.mem_of_getElem? (i := 13) (by decide +kernel)), ir_2 _ (List.mem_of_getElem? (i := 16) (by decide +kernel)), rfl, by decide +kernel⟩
abbrev mX9_costOf : hMd := (yX9_costOf, cX9_costOf, 4, (some .int))
theorem mdX9_costOf : Md mX9_costOf 1 := ⟨ir_33 _ (List.mem_of_getElem? (i := 20) (by decide +kernel)), ir_2 _ (List.mem_of_getElem? (i := 16) (by decide +kernel)), rfl, by decide +kernel⟩
abbrev mX4_takeAllWorksOff : hMd := (yX4_takeAllWorksOff, cX4_takeAllWorksOff, 3, none)
theorem mdX4_takeAllWorksOff : Md mX4_takeAllWorksOff 1 := ⟨ir_34 _ (List.mem_of_getElem? (i := 0) (by decide +kernel)), ir_2 _ (List.mem_of_getElem? (i := 3) (by decide +kernel)), rfl, by decide +kernel⟩
abbrev mX9_put : hMd := (yX9_put, cX9_put, 4, none)
theorem mdX9_put : Md mX9_put 2 := ⟨ir_34 _ (List.mem_of_getElem? (i := 4) (by decide +kernel)), ir_2 _ (List.mem_of_getElem? (i := 16) (by decide +kernel)), rfl, by decide +kernel⟩
abbrev mX4_putWork : hMd := (yX4_putWork, cX4_putWork, 5, none)
theorem mdX4_putWork : Md mX4_putWork 3 := ⟨ir_34 _ (List.mem_of_getElem? (i := 8) (by decide +kernel)), ir_2 _ (List.mem_of_getElem? (i := 3) (by decide +kernel)), rfl, by decide +kernel⟩
abbrev mX9_bestSet : hMd := (yX9_bestSet, cX9_bestSet, 1, (some .int))
theorem mdX9_bestSet : Md mX9_bestSet 0 := ⟨ir_34 _ (List.mem_of_getElem? (i := 15) (by decide +kernel)), ir_2 _ (List.mem_of_getElem? (i := 16) (by decide +kernel)), rfl, by decide +kernel⟩
abbrev mX9_bestNight : hMd := (yX9_bestNight, cX9_bestNight, 1, (some .int))
theorem mdX9_bestNight : Md mX9_bestNight 0 := ⟨ir_34 _ (List.mem_of_getElem? (i := 19) (by decide +kernel)), ir_2 _ (List.mem_of_getElem? (i := 16) (by decide +kernel)), rfl, by decide +kernel⟩
abbrev mX11_works : hMd := (yX11_works, cX11_works, 7, (some .int))
theorem mdX11_works : Md mX11_works 2 := ⟨ir_34 _ (List.mem_of_getElem? (i := 23) (by decide +kernel)), ir_1 _ (List.mem_of_getElem? (i := 5) (by decide +kernel)), rfl, by decide +kernel⟩
abbrev mX11_costOf : hMd := (yX11_costOf, cX11_costOf, 4, (some .int))
theorem mdX11_costOf : Md mX11_costOf 1 := ⟨ir_35 _ (List.mem_of_getElem? (i := 3) (by decide +kernel)), ir_1 _ (List.mem_of_getElem? (i := 5) (by decide +kernel)), rfl, by decide +kernel⟩
abbrev mX10_read : hMd := (yX10_read, cX10_read, 4, (some .int))
theorem mdX10_read : Md mX10_read 3 := ⟨ir_35 _ (List.mem_of_getElem? (i := 7) (by decide +kernel)), ir_1 _ (List.mem_of_getElem? (i := 2) (by decide +kernel)), rfl, by decide +kernel⟩
abbrev mX2_isFull : hMd := (yX2_isFull, cX2_isFull, 1, (some .boolean))
theorem mdX2_isFull : Md mX2_isFull 0 := ⟨ir_35 _ (List.mem_of_getElem? (i := 11) (by decide +kernel)), ir_2 _ (List.mem_of_getElem? (i := 20) (by decide +kernel)), rfl, by decide +kernel⟩
abbrev mX2_add : hMd := (yX2_add, cX2_add, 4, (some .int))
theorem mdX2_add : Md mX2_add 3 := ⟨ir_35 _ (List.mem_of_getElem? (i := 15) (by decide +kernel)), ir_2 _ (List.mem_of_getElem? (i := 20) (by decide +kernel)), rfl, by decide +kernel⟩
abbrev mX11_read : hMd := (yX11_read, cX11_read, 4, (some .int))
theorem mdX11_read : Md mX11_read 3 := ⟨ir_35 _ (List.mem_of_getElem? (i := 20) (by decide +kernel)), ir_1 _ (List.mem_of_getElem? (i := 5) (by decide +kernel)), rfl, by decide +kernel⟩
abbrev mX10_learnt : hMd := (yX10_learnt, cX10_learnt, 3, (some .int))
theorem mdX10_learnt : Md mX10_learnt 2 := ⟨ir_36 _ (List.mem_of_getElem? (i := 1) (by decide +kernel)), ir_1 _ (List.mem_of_getElem? (i := 2) (by decide +kernel)), rfl, by decide +kernel⟩
abbrev mX2_learn : hMd := (yX2_learn, cX2_learn, 7, none)
theorem mdX2_learn : Md mX2_learn 4 := ⟨ir_36 _ (List.mem_of_getElem? (i := 5) (by decide +kernel)), ir_2 _ (List.mem_of_getElem? (i := 20) (by decide +kernel)), rfl, by decide +kernel⟩
abbrev mX2_allHold : hMd := (yX2_allHold, cX2_allHold, 5, (some .boolean))
theorem mdX2_allHold : Md mX2_allHold 3 := ⟨ir_36 _ (List.mem_of_getElem? (i := 12) (by decide +kernel)), ir_2 _ (List.mem_of_getElem? (i := 20) (by decide +kernel)), rfl, by decide +kernel⟩
abbrev mX2_keep : hMd := (yX2_keep, cX2_keep, 4, none)
theorem mdX2_keep : Md mX2_keep 2 := ⟨ir_36 _ (List.mem_of_getElem? (i := 21) (by decide +kernel)), ir_2 _ (List.mem_of_getElem? (i := 20) (by decide +kernel)), rfl, by decide +kernel⟩
abbrev mX2_laws : hMd := (yX2_laws, cX2_laws, 1, (some .int))
theorem mdX2_laws : Md mX2_laws 0 := ⟨ir_37 _ (List.mem_of_getElem? (i := 9) (by decide +kernel)), ir_2 _ (List.mem_of_getElem? (i := 20) (by decide +kernel)), rfl, by decide +kernel⟩
abbrev mX2_bound : hMd := (yX2_bound, cX2_bound, 2, (some .int))
theorem mdX2_bound : Md mX2_bound 1 := ⟨ir_37 _ (List.mem_of_getElem? (i := 13) (by decide +kernel)), ir_2 _ (List.mem_of_getElem? (i := 20) (by decide +kernel)), rfl, by decide +kernel⟩
abbrev mX11_learnt : hMd := (yX11_learnt, cX11_learnt, 7, (some .int))
theorem mdX11_learnt : Md mX11_learnt 2 := ⟨ir_37 _ (List.mem_of_getElem? (i := 17) (by decide +kernel)), ir_1 _ (List.mem_of_getElem? (i := 5) (by decide +kernel)), rfl, by decide +kernel⟩
abbrev mX11_doHold : hMd := (yX11_doHold, cX11_doHold, 4, (some .boolean))
theorem mdX11_doHold : Md mX11_doHold 1 := ⟨ir_37 _ (List.mem_of_getElem? (i := 21) (by decide +kernel)), ir_1 _ (List.mem_of_getElem? (i := 5) (by decide +kernel)), rfl, by decide +kernel⟩
abbrev mX10_flat : hMd := (yX10_flat, cX10_flat, 4, (some .int))
theorem mdX10_flat : Md mX10_flat 3 := ⟨ir_38 _ (List.mem_of_getElem? (i := 1) (by decide +kernel)), ir_1 _ (List.mem_of_getElem? (i := 2) (by decide +kernel)), rfl, by decide +kernel⟩
abbrev mX6_tell : hMd := (yX6_tell, cX6_tell, 4, none)
theorem mdX6_tell : Md mX6_tell 3 := ⟨ir_38 _ (List.mem_of_getElem? (i := 5) (by decide +kernel)), ir_3 _ (List.mem_of_getElem? (i := 0) (by decide +kernel)), rfl, by decide +kernel⟩
abbrev mX11_flat : hMd := (yX11_flat, cX11_flat, 4, (some .int))
theorem mdX11_flat : Md mX11_flat 3 := ⟨ir_38 _ (List.mem_of_getElem? (i := 9) (by decide +kernel)), ir_1 _ (List.mem_of_getElem? (i := 5) (by decide +kernel)), rfl, by decide +kernel⟩
abbrev mX10_ring : hMd := (yX10_ring, cX10_ring, 2, (some .int))
theorem mdX10_ring : Md mX10_ring 1 := ⟨ir_38 _ (List.mem_of_getElem? (i := 13) (by decide +kernel)), ir_1 _ (List.mem_of_getElem? (i := 2) (by decide +kernel)), rfl, by decide +kernel⟩
abbrev mX6_weigh : hMd := (yX6_weigh, cX6_weigh, 3, none)
theorem mdX6_weigh : Md mX6_weigh 0 := ⟨ir_38 _ (List.mem_of_getElem? (i := 17) (by decide +kernel)), ir_3 _ (List.mem_of_getElem? (i := 0) (by decide +kernel)), rfl, by decide +kernel⟩
abbrev mX6_toldSet : hMd := (yX6_toldSet, cX6_toldSet, 3, (some .int))
theorem mdX6_toldSet : Md mX6_toldSet 0 := ⟨ir_38 _ (List.mem_of_getElem? (i := 21) (by decide +kernel)), ir_3 _ (List.mem_of_getElem? (i := 0) (by decide +kernel)), rfl, by decide +kernel⟩
abbrev mX6_firstOf : hMd := (yX6_firstOf, cX6_firstOf, 5, (some .int))
theorem mdX6_firstOf : Md mX6_firstOf 2 := ⟨ir_39 _ (List.mem_of_getElem? (i := 1) (by decide +kernel)), ir_3 _ (List.mem_of_getElem? (i := 0) (by decide +kernel)), rfl, by decide +kernel⟩
abbrev mX6_lostBy : hMd := (yX6_lostBy, cX6_lostBy, 6, (some .int))
theorem mdX6_lostBy : Md mX6_lostBy 3 := ⟨ir_39 _ (List.mem_of_getElem? (i := 5) (by decide +kernel)), ir_3 _ (List.mem_of_getElem? (i := 0) (by decide +kernel)), rfl, by decide +kernel⟩
abbrev mJ6_bitCount_0f7a4 : hMd := (yJ6_bitCount_0f7a4, cJ6_bitCount_0f7a4, 1, (some .int))
theorem mdJ6_bitCount_0f7a4 : Md mJ6_bitCount_0f7a4 1 := ⟨ir_39 _ (List.mem_of_getElem? (i := 9) (by decide +kernel)), ir_39 _ (List.mem_of_getElem? (i := 8) (by decide +kernel)), rfl, by decide +kernel⟩
abbrev mX6_lost : hMd := (yX6_lost, cX6_lost, 1, (some .int))
theorem mdX6_lost : Md mX6_lost 0 := ⟨ir_39 _ (List.mem_of_getElem? (i := 16) (by decide +kernel)), ir_3 _ (List.mem_of_getElem? (i := 0) (by decide +kernel)), rfl, by decide +kernel⟩
abbrev mX6_flatAt : hMd := (yX6_flatAt, cX6_flatAt, 6, (some .int))
theorem mdX6_flatAt : Md mX6_flatAt 1 := ⟨ir_39 _ (List.mem_of_getElem? (i := 20) (by decide +kernel)), ir_3 _ (List.mem_of_getElem? (i := 0) (by decide +kernel)), rfl, by decide +kernel⟩
abbrev mX11_ring : hMd := (yX11_ring, cX11_ring, 7, (some .int))
theorem mdX11_ring : Md mX11_ring 1 := ⟨ir_40 _ (List.mem_of_getElem? (i := 0) (by decide +kernel)), ir_1 _ (List.mem_of_getElem? (i := 5) (by decide +kernel)), rfl, by decide +kernel⟩
abbrev mX11_toldFlats : hMd := (yX11_toldFlats, cX11_toldFlats, 3, (some .int))
theorem mdX11_toldFlats : Md mX11_toldFlats 0 := ⟨ir_40 _ (List.mem_of_getElem? (i := 4) (by decide +kernel)), ir_1 _ (List.mem_of_getElem? (i := 5) (by decide +kernel)), rfl, by decide +kernel⟩
abbrev mX11_layRest : hMd := (yX11_layRest, cX11_layRest, 6, none)
theorem mdX11_layRest : Md mX11_layRest 1 := ⟨ir_40 _ (List.mem_of_getElem? (i := 8) (by decide +kernel)), ir_1 _ (List.mem_of_getElem? (i := 5) (by decide +kernel)), rfl, by decide +kernel⟩
abbrev mX11_bits : hMd := (yX11_bits, cX11_bits, 3, (some .int))
theorem mdX11_bits : Md mX11_bits 1 := ⟨ir_40 _ (List.mem_of_getElem? (i := 11) (by decide +kernel)), ir_1 _ (List.mem_of_getElem? (i := 5) (by decide +kernel)), rfl, by decide +kernel⟩
abbrev mX11_lostBy : hMd := (yX11_lostBy, cX11_lostBy, 3, (some .int))
theorem mdX11_lostBy : Md mX11_lostBy 2 := ⟨ir_40 _ (List.mem_of_getElem? (i := 15) (by decide +kernel)), ir_1 _ (List.mem_of_getElem? (i := 5) (by decide +kernel)), rfl, by decide +kernel⟩
abbrev mX10_street : hMd := (yX10_street, cX10_street, 6, (some .int))
theorem mdX10_street : Md mX10_street 5 := ⟨ir_40 _ (List.mem_of_getElem? (i := 19) (by decide +kernel)), ir_1 _ (List.mem_of_getElem? (i := 2) (by decide +kernel)), rfl, by decide +kernel⟩
abbrev mX7_look : hMd := (yX7_look, cX7_look, 7, none)
theorem mdX7_look : Md mX7_look 4 := ⟨ir_41 _ (List.mem_of_getElem? (i := 0) (by decide +kernel)), ir_3 _ (List.mem_of_getElem? (i := 4) (by decide +kernel)), rfl, by decide +kernel⟩
abbrev mX7_allHave : hMd := (yX7_allHave, cX7_allHave, 4, (some .int))
theorem mdX7_allHave : Md mX7_allHave 1 := ⟨ir_41 _ (List.mem_of_getElem? (i := 10) (by decide +kernel)), ir_3 _ (List.mem_of_getElem? (i := 4) (by decide +kernel)), rfl, by decide +kernel⟩
abbrev mX7_has : hMd := (yX7_has, cX7_has, 5, (some .int))
theorem mdX7_has : Md mX7_has 3 := ⟨ir_41 _ (List.mem_of_getElem? (i := 14) (by decide +kernel)), ir_3 _ (List.mem_of_getElem? (i := 4) (by decide +kernel)), rfl, by decide +kernel⟩
abbrev mX7_isRest : hMd := (yX7_isRest, cX7_isRest, 4, (some .boolean))
theorem mdX7_isRest : Md mX7_isRest 1 := ⟨ir_41 _ (List.mem_of_getElem? (i := 18) (by decide +kernel)), ir_3 _ (List.mem_of_getElem? (i := 4) (by decide +kernel)), rfl, by decide +kernel⟩
abbrev mX7_keepRest : hMd := (yX7_keepRest, cX7_keepRest, 3, none)
theorem mdX7_keepRest : Md mX7_keepRest 2 := ⟨ir_41 _ (List.mem_of_getElem? (i := 22) (by decide +kernel)), ir_3 _ (List.mem_of_getElem? (i := 4) (by decide +kernel)), rfl, by decide +kernel⟩
abbrev mX7_rests : hMd := (yX7_rests, cX7_rests, 1, (some .int))
theorem mdX7_rests : Md mX7_rests 0 := ⟨ir_42 _ (List.mem_of_getElem? (i := 3) (by decide +kernel)), ir_3 _ (List.mem_of_getElem? (i := 4) (by decide +kernel)), rfl, by decide +kernel⟩
abbrev mX7_bestRest : hMd := (yX7_bestRest, cX7_bestRest, 1, (some .int))
theorem mdX7_bestRest : Md mX7_bestRest 0 := ⟨ir_42 _ (List.mem_of_getElem? (i := 7) (by decide +kernel)), ir_3 _ (List.mem_of_getElem? (i := 4) (by decide +kernel)), rfl, by decide +kernel⟩
abbrev mX7_mostByRest : hMd := (yX7_mostByRest, cX7_mostByRest, 1, (some .int))
theorem mdX7_mostByRest : Md mX7_mostByRest 0 := ⟨ir_42 _ (List.mem_of_getElem? (i := 11) (by decide +kernel)), ir_3 _ (List.mem_of_getElem? (i := 4) (by decide +kernel)), rfl, by decide +kernel⟩
abbrev mX7_mostByAny : hMd := (yX7_mostByAny, cX7_mostByAny, 1, (some .int))
theorem mdX7_mostByAny : Md mX7_mostByAny 0 := ⟨ir_42 _ (List.mem_of_getElem? (i := 15) (by decide +kernel)), ir_3 _ (List.mem_of_getElem? (i := 4) (by decide +kernel)), rfl, by decide +kernel⟩
abbrev mX11_street : hMd := (yX11_street, cX11_street, 16, (some .int))
theorem mdX11_street : Md mX11_street 5 := ⟨ir_42 _ (List.mem_of_getElem? (i := 19) (by decide +kernel)), ir_1 _ (List.mem_of_getElem? (i := 5) (by decide +kernel)), rfl, by decide +kernel⟩
abbrev mX11_hasBy : hMd := (yX11_hasBy, cX11_hasBy, 8, (some .int))
theorem mdX11_hasBy : Md mX11_hasBy 6 := ⟨ir_42 _ (List.mem_of_getElem? (i := 23) (by decide +kernel)), ir_1 _ (List.mem_of_getElem? (i := 5) (by decide +kernel)), rfl, by decide +kernel⟩
abbrev mX10_count : hMd := (yX10_count, cX10_count, 2, (some .int))
theorem mdX10_count : Md mX10_count 1 := ⟨ir_43 _ (List.mem_of_getElem? (i := 3) (by decide +kernel)), ir_1 _ (List.mem_of_getElem? (i := 2) (by decide +kernel)), rfl, by decide +kernel⟩
abbrev mX3_toldRooms : hMd := (yX3_toldRooms, cX3_toldRooms, 3, (some .int))
theorem mdX3_toldRooms : Md mX3_toldRooms 0 := ⟨ir_43 _ (List.mem_of_getElem? (i := 7) (by decide +kernel)), ir_1 _ (List.mem_of_getElem? (i := 23) (by decide +kernel)), rfl, by decide +kernel⟩
abbrev mX9_size : hMd := (yX9_size, cX9_size, 1, (some .int))
theorem mdX9_size : Md mX9_size 0 := ⟨ir_43 _ (List.mem_of_getElem? (i := 11) (by decide +kernel)), ir_2 _ (List.mem_of_getElem? (i := 16) (by decide +kernel)), rfl, by decide +kernel⟩
abbrev mX2_size : hMd := (yX2_size, cX2_size, 1, (some .int))
theorem mdX2_size : Md mX2_size 0 := ⟨ir_43 _ (List.mem_of_getElem? (i := 15) (by decide +kernel)), ir_2 _ (List.mem_of_getElem? (i := 20) (by decide +kernel)), rfl, by decide +kernel⟩
abbrev mX6_toldFlats : hMd := (yX6_toldFlats, cX6_toldFlats, 1, (some .int))
theorem mdX6_toldFlats : Md mX6_toldFlats 0 := ⟨ir_43 _ (List.mem_of_getElem? (i := 19) (by decide +kernel)), ir_3 _ (List.mem_of_getElem? (i := 0) (by decide +kernel)), rfl, by decide +kernel⟩
abbrev mX11_count : hMd := (yX11_count, cX11_count, 2, (some .int))
theorem mdX11_count : Md mX11_count 1 := ⟨ir_44 _ (List.mem_of_getElem? (i := 0) (by decide +kernel)), ir_1 _ (List.mem_of_getElem? (i := 5) (by decide +kernel)), rfl, by decide +kernel⟩
theorem cnL_13 : Cond.constantLong RL 13 (4294967295) ∈ wsL_law := ir_1 _ (List.mem_of_getElem? (i := 6) (by decide +kernel))
theorem glX10_12 : Gl RX10 12 10 0 := ⟨_, _, _, _, kc_10, by decide, ir_1 _ (List.mem_of_getElem? (i := 16) (by decide +kernel))⟩
theorem glX10_19 : Gl RX10 19 10 1 := ⟨_, _, _, _, kc_10, by decide, ir_1 _ (List.mem_of_getElem? (i := 20) (by decide +kernel))⟩
theorem glX10_26 : Gl RX10 26 10 2 := ⟨_, _, _, _, kc_10, by decide, ir_2 _ (List.mem_of_getElem? (i := 0) (by decide +kernel))⟩
theorem glX10_33 : Gl RX10 33 10 3 := ⟨_, _, _, _, kc_10, by decide, ir_2 _ (List.mem_of_getElem? (i := 4) (by decide +kernel))⟩
theorem glX10_40 : Gl RX10 40 10 4 := ⟨_, _, _, _, kc_10, by decide, ir_2 _ (List.mem_of_getElem? (i := 8) (by decide +kernel))⟩
theorem glX10_44 : Gl RX10 44 10 5 := ⟨_, _, _, _, kc_10, by decide, ir_2 _ (List.mem_of_getElem? (i := 9) (by decide +kernel))⟩
theorem glX10_50 : Gl RX10 50 10 6 := ⟨_, _, _, _, kc_10, by decide, ir_2 _ (List.mem_of_getElem? (i := 13) (by decide +kernel))⟩
theorem glX10_57 : Gl RX10 57 10 7 := ⟨_, _, _, _, kc_10, by decide, ir_2 _ (List.mem_of_getElem? (i := 17) (by decide +kernel))⟩
theorem glX10_64 : Gl RX10 64 10 8 := ⟨_, _, _, _, kc_10, by decide, ir_2 _ (List.mem_of_getElem? (i := 21) (by decide +kernel))⟩
theorem glX10_71 : Gl RX10 71 10 9 := ⟨_, _, _, _, kc_10, by decide, ir_3 _ (List.mem_of_getElem? (i := 1) (by decide +kernel))⟩
theorem glX10_78 : Gl RX10 78 10 10 := ⟨_, _, _, _, kc_10, by decide, ir_3 _ (List.mem_of_getElem? (i := 5) (by decide +kernel))⟩
theorem glX10_82 : Gl RX10 82 10 11 := ⟨_, _, _, _, kc_10, by decide, ir_3 _ (List.mem_of_getElem? (i := 6) (by decide +kernel))⟩
theorem plX10_82 : Pl RX10 82 10 11 .boolean := ⟨_, _, _, _, kc_10, by decide, ir_3 _ (List.mem_of_getElem? (i := 6) (by decide +kernel)), rfl, by decide +kernel⟩
theorem glX8_11 : Gl RX8 11 8 0 := ⟨_, _, _, _, kc_8, by decide, ir_3 _ (List.mem_of_getElem? (i := 12) (by decide +kernel))⟩
theorem glX8_15 : Gl RX8 15 8 1 := ⟨_, _, _, _, kc_8, by decide, ir_3 _ (List.mem_of_getElem? (i := 13) (by decide +kernel))⟩
theorem plX8_15 : Pl RX8 15 8 1 .int := ⟨_, _, _, _, kc_8, by decide, ir_3 _ (List.mem_of_getElem? (i := 13) (by decide +kernel)), rfl, by decide +kernel⟩
theorem glX5_11 : Gl RX5 11 5 0 := ⟨_, _, _, _, kc_5, by decide, ir_3 _ (List.mem_of_getElem? (i := 18) (by decide +kernel))⟩
theorem glX5_17 : Gl RX5 17 5 1 := ⟨_, _, _, _, kc_5, by decide, ir_3 _ (List.mem_of_getElem? (i := 20) (by decide +kernel))⟩
theorem glX5_20 : Gl RX5 20 5 2 := ⟨_, _, _, _, kc_5, by decide, ir_3 _ (List.mem_of_getElem? (i := 21) (by decide +kernel))⟩
theorem plX5_20 : Pl RX5 20 5 2 .int := ⟨_, _, _, _, kc_5, by decide, ir_3 _ (List.mem_of_getElem? (i := 21) (by decide +kernel)), rfl, by decide +kernel⟩
theorem glX5_24 : Gl RX5 24 5 3 := ⟨_, _, _, _, kc_5, by decide, ir_3 _ (List.mem_of_getElem? (i := 22) (by decide +kernel))⟩
theorem plX5_24 : Pl RX5 24 5 3 .int := ⟨_, _, _, _, kc_5, by decide, ir_3 _ (List.mem_of_getElem? (i := 22) (by decide +kernel)), rfl, by decide +kernel⟩
theorem glX3_9 : Gl RX3 9 3 0 := ⟨_, _, _, _, kc_3, by decide, ir_4 _ (List.mem_of_getElem? (i := 4) (by decide +kernel))⟩
theorem glX3_15 : Gl RX3 15 3 1 := ⟨_, _, _, _, kc_3, by decide, ir_4 _ (List.mem_of_getElem? (i := 5) (by decide +kernel))⟩
theorem glX3_19 : Gl RX3 19 3 2 := ⟨_, _, _, _, kc_3, by decide, ir_4 _ (List.mem_of_getElem? (i := 6) (by decide +kernel))⟩
theorem glX3_22 : Gl RX3 22 3 3 := ⟨_, _, _, _, kc_3, by decide, ir_4 _ (List.mem_of_getElem? (i := 7) (by decide +kernel))⟩
theorem glX3_25 : Gl RX3 25 3 4 := ⟨_, _, _, _, kc_3, by decide, ir_4 _ (List.mem_of_getElem? (i := 8) (by decide +kernel))⟩
theorem glX3_28 : Gl RX3 28 3 5 := ⟨_, _, _, _, kc_3, by decide, ir_4 _ (List.mem_of_getElem? (i := 9) (by decide +kernel))⟩
theorem glX3_31 : Gl RX3 31 3 6 := ⟨_, _, _, _, kc_3, by decide, ir_4 _ (List.mem_of_getElem? (i := 10) (by decide +kernel))⟩
theorem glX3_34 : Gl RX3 34 3 7 := ⟨_, _, _, _, kc_3, by decide, ir_4 _ (List.mem_of_getElem? (i := 11) (by decide +kernel))⟩
theorem glX3_39 : Gl RX3 39 3 8 := ⟨_, _, _, _, kc_3, by decide, ir_4 _ (List.mem_of_getElem? (i := 13) (by decide +kernel))⟩
theorem cnX3_42 : Cond.constant RX3 42 (16777215) ∈ wsL_law := ir_4 _ (List.mem_of_getElem? (i := 14) (by decide +kernel))
theorem glX3_43 : Gl RX3 43 3 9 := ⟨_, _, _, _, kc_3, by decide, ir_4 _ (List.mem_of_getElem? (i := 15) (by decide +kernel))⟩
theorem plX3_43 : Pl RX3 43 3 9 .int := ⟨_, _, _, _, kc_3, by decide, ir_4 _ (List.mem_of_getElem? (i := 15) (by decide +kernel)), rfl, by decide +kernel⟩
theorem glX3_47 : Gl RX3 47 3 10 := ⟨_, _, _, _, kc_3, by decide, ir_4 _ (List.mem_of_getElem? (i := 16) (by decide +kernel))⟩
theorem plX3_47 : Pl RX3 47 3 10 .int := ⟨_, _, _, _, kc_3, by decide, ir_4 _ (List.mem_of_getElem? (i := 16) (by decide +kernel)), rfl, by decide +kernel⟩
theorem glX3_50 : Gl RX3 50 3 11 := ⟨_, _, _, _, kc_3, by decide, ir_4 _ (List.mem_of_getElem? (i := 17) (by decide +kernel))⟩
theorem plX3_50 : Pl RX3 50 3 11 .int := ⟨_, _, _, _, kc_3, by decide, ir_4 _ (List.mem_of_getElem? (i := 17) (by decide +kernel)), rfl, by decide +kernel⟩
theorem glX3_53 : Gl RX3 53 3 12 := ⟨_, _, _, _, kc_3, by decide, ir_4 _ (List.mem_of_getElem? (i := 18) (by decide +kernel))⟩
theorem plX3_53 : Pl RX3 53 3 12 .int := ⟨_, _, _, _, kc_3, by decide, ir_4 _ (List.mem_of_getElem? (i := 18) (by decide +kernel)), rfl, by decide +kernel⟩
theorem glX3_56 : Gl RX3 56 3 13 := ⟨_, _, _, _, kc_3, by decide, ir_4 _ (List.mem_of_getElem? (i := 19) (by decide +kernel))⟩
theorem plX3_56 : Pl RX3 56 3 13 .int := ⟨_, _, _, _, kc_3, by decide, ir_4 _ (List.mem_of_getElem? (i := 19) (by decide +kernel)), rfl, by decide +kernel⟩
theorem glX3_59 : Gl RX3 59 3 14 := ⟨_, _, _, _, kc_3, by decide, ir_4 _ (List.mem_of_getElem? (i := 20) (by decide +kernel))⟩
theorem plX3_59 : Pl RX3 59 3 14 .int := ⟨_, _, _, _, kc_3, by decide, ir_4 _ (List.mem_of_getElem? (i := 20) (by decide +kernel)), rfl, by decide +kernel⟩
theorem glX3_62 : Gl RX3 62 3 15 := ⟨_, _, _, _, kc_3, by decide, ir_4 _ (List.mem_of_getElem? (i := 21) (by decide +kernel))⟩
theorem plX3_62 : Pl RX3 62 3 15 .int := ⟨_, _, _, _, kc_3, by decide, ir_4 _ (List.mem_of_getElem? (i := 21) (by decide +kernel)), rfl, by decide +kernel⟩
theorem glX3_65 : Gl RX3 65 3 16 := ⟨_, _, _, _, kc_3, by decide, ir_4 _ (List.mem_of_getElem? (i := 22) (by decide +kernel))⟩
theorem plX3_65 : Pl RX3 65 3 16 .int := ⟨_, _, _, _, kc_3, by decide, ir_4 _ (List.mem_of_getElem? (i := 22) (by decide +kernel)), rfl, by decide +kernel⟩
theorem glX3_68 : Gl RX3 68 3 17 := ⟨_, _, _, _, kc_3, by decide, ir_4 _ (List.mem_of_getElem? (i := 23) (by decide +kernel))⟩
theorem plX3_68 : Pl RX3 68 3 17 .int := ⟨_, _, _, _, kc_3, by decide, ir_4 _ (List.mem_of_getElem? (i := 23) (by decide +kernel)), rfl, by decide +kernel⟩
theorem glX4_9 : Gl RX4 9 4 0 := ⟨_, _, _, _, kc_4, by decide, ir_5 _ (List.mem_of_getElem? (i := 4) (by decide +kernel))⟩
theorem glX4_15 : Gl RX4 15 4 1 := ⟨_, _, _, _, kc_4, by decide, ir_5 _ (List.mem_of_getElem? (i := 5) (by decide +kernel))⟩
theorem glX4_18 : Gl RX4 18 4 2 := ⟨_, _, _, _, kc_4, by decide, ir_5 _ (List.mem_of_getElem? (i := 6) (by decide +kernel))⟩
theorem glX4_23 : Gl RX4 23 4 3 := ⟨_, _, _, _, kc_4, by decide, ir_5 _ (List.mem_of_getElem? (i := 8) (by decide +kernel))⟩
theorem glX4_26 : Gl RX4 26 4 4 := ⟨_, _, _, _, kc_4, by decide, ir_5 _ (List.mem_of_getElem? (i := 9) (by decide +kernel))⟩
theorem glX4_29 : Gl RX4 29 4 5 := ⟨_, _, _, _, kc_4, by decide, ir_5 _ (List.mem_of_getElem? (i := 10) (by decide +kernel))⟩
theorem plX4_29 : Pl RX4 29 4 5 .int := ⟨_, _, _, _, kc_4, by decide, ir_5 _ (List.mem_of_getElem? (i := 10) (by decide +kernel)), rfl, by decide +kernel⟩
theorem glX4_33 : Gl RX4 33 4 6 := ⟨_, _, _, _, kc_4, by decide, ir_5 _ (List.mem_of_getElem? (i := 11) (by decide +kernel))⟩
theorem plX4_33 : Pl RX4 33 4 6 .int := ⟨_, _, _, _, kc_4, by decide, ir_5 _ (List.mem_of_getElem? (i := 11) (by decide +kernel)), rfl, by decide +kernel⟩
theorem glX1_11 : Gl RX1 11 1 0 := ⟨_, _, _, _, kc_1, by decide, ir_5 _ (List.mem_of_getElem? (i := 17) (by decide +kernel))⟩
theorem glX1_16 : Gl RX1 16 1 1 := ⟨_, _, _, _, kc_1, by decide, ir_5 _ (List.mem_of_getElem? (i := 18) (by decide +kernel))⟩
theorem glX1_19 : Gl RX1 19 1 2 := ⟨_, _, _, _, kc_1, by decide, ir_5 _ (List.mem_of_getElem? (i := 19) (by decide +kernel))⟩
theorem glX0_9 : Gl RX0 9 0 0 := ⟨_, _, _, _, kc_0, by decide, ir_6 _ (List.mem_of_getElem? (i := 0) (by decide +kernel))⟩
theorem plX0_9 : Pl RX0 9 0 0 .boolean := ⟨_, _, _, _, kc_0, by decide, ir_6 _ (List.mem_of_getElem? (i := 0) (by decide +kernel)), rfl, by decide +kernel⟩
theorem glX9_11 : Gl RX9 11 9 0 := ⟨_, _, _, _, kc_9, by decide, ir_6 _ (List.mem_of_getElem? (i := 5) (by decide +kernel))⟩
theorem glX9_15 : Gl RX9 15 9 1 := ⟨_, _, _, _, kc_9, by decide, ir_6 _ (List.mem_of_getElem? (i := 6) (by decide +kernel))⟩
theorem glX9_18 : Gl RX9 18 9 2 := ⟨_, _, _, _, kc_9, by decide, ir_6 _ (List.mem_of_getElem? (i := 7) (by decide +kernel))⟩
theorem glX9_21 : Gl RX9 21 9 3 := ⟨_, _, _, _, kc_9, by decide, ir_6 _ (List.mem_of_getElem? (i := 8) (by decide +kernel))⟩
theorem glX9_24 : Gl RX9 24 9 4 := ⟨_, _, _, _, kc_9, by decide, ir_6 _ (List.mem_of_getElem? (i := 9) (by decide +kernel))⟩
theorem plX9_24 : Pl RX9 24 9 4 .int := ⟨_, _, _, _, kc_9, by decide, ir_6 _ (List.mem_of_getElem? (i := 9) (by decide +kernel)), rfl, by decide +kernel⟩
theorem glX2_11 : Gl RX2 11 2 0 := ⟨_, _, _, _, kc_2, by decide, ir_6 _ (List.mem_of_getElem? (i := 14) (by decide +kernel))⟩
theorem glX2_15 : Gl RX2 15 2 1 := ⟨_, _, _, _, kc_2, by decide, ir_6 _ (List.mem_of_getElem? (i := 15) (by decide +kernel))⟩
theorem glX2_18 : Gl RX2 18 2 2 := ⟨_, _, _, _, kc_2, by decide, ir_6 _ (List.mem_of_getElem? (i := 16) (by decide +kernel))⟩
theorem glX2_21 : Gl RX2 21 2 3 := ⟨_, _, _, _, kc_2, by decide, ir_6 _ (List.mem_of_getElem? (i := 17) (by decide +kernel))⟩
theorem plX2_21 : Pl RX2 21 2 3 .int := ⟨_, _, _, _, kc_2, by decide, ir_6 _ (List.mem_of_getElem? (i := 17) (by decide +kernel)), rfl, by decide +kernel⟩
theorem glX2_25 : Gl RX2 25 2 4 := ⟨_, _, _, _, kc_2, by decide, ir_6 _ (List.mem_of_getElem? (i := 18) (by decide +kernel))⟩
theorem plX2_25 : Pl RX2 25 2 4 .int := ⟨_, _, _, _, kc_2, by decide, ir_6 _ (List.mem_of_getElem? (i := 18) (by decide +kernel)), rfl, by decide +kernel⟩
theorem glX6_11 : Gl RX6 11 6 0 := ⟨_, _, _, _, kc_6, by decide, ir_6 _ (List.mem_of_getElem? (i := 23) (by decide +kernel))⟩
theorem glX6_15 : Gl RX6 15 6 1 := ⟨_, _, _, _, kc_6, by decide, ir_7 _ (List.mem_of_getElem? (i := 0) (by decide +kernel))⟩
theorem glX6_18 : Gl RX6 18 6 2 := ⟨_, _, _, _, kc_6, by decide, ir_7 _ (List.mem_of_getElem? (i := 1) (by decide +kernel))⟩
theorem glX7_9 : Gl RX7 9 7 0 := ⟨_, _, _, _, kc_7, by decide, ir_7 _ (List.mem_of_getElem? (i := 6) (by decide +kernel))⟩
theorem plX7_9 : Pl RX7 9 7 0 .int := ⟨_, _, _, _, kc_7, by decide, ir_7 _ (List.mem_of_getElem? (i := 6) (by decide +kernel)), rfl, by decide +kernel⟩
theorem glX11_7 : Gl RX11 7 11 1 := ⟨_, _, _, _, kc_11, by decide, ir_7 _ (List.mem_of_getElem? (i := 11) (by decide +kernel))⟩
theorem glX11_13 : Gl RX11 13 11 2 := ⟨_, _, _, _, kc_11, by decide, ir_7 _ (List.mem_of_getElem? (i := 12) (by decide +kernel))⟩
theorem glX11_16 : Gl RX11 16 11 3 := ⟨_, _, _, _, kc_11, by decide, ir_7 _ (List.mem_of_getElem? (i := 13) (by decide +kernel))⟩
theorem glX11_19 : Gl RX11 19 11 4 := ⟨_, _, _, _, kc_11, by decide, ir_7 _ (List.mem_of_getElem? (i := 14) (by decide +kernel))⟩
theorem glX11_22 : Gl RX11 22 11 5 := ⟨_, _, _, _, kc_11, by decide, ir_7 _ (List.mem_of_getElem? (i := 15) (by decide +kernel))⟩
theorem glX11_25 : Gl RX11 25 11 6 := ⟨_, _, _, _, kc_11, by decide, ir_7 _ (List.mem_of_getElem? (i := 16) (by decide +kernel))⟩
theorem plX11_25 : Pl RX11 25 11 6 .int := ⟨_, _, _, _, kc_11, by decide, ir_7 _ (List.mem_of_getElem? (i := 16) (by decide +kernel)), rfl, by decide +kernel⟩
theorem glX11_29 : Gl RX11 29 11 7 := ⟨_, _, _, _, kc_11, by decide, ir_7 _ (List.mem_of_getElem? (i := 17) (by decide +kernel))⟩
theorem plX11_29 : Pl RX11 29 11 7 .int := ⟨_, _, _, _, kc_11, by decide, ir_7 _ (List.mem_of_getElem? (i := 17) (by decide +kernel)), rfl, by decide +kernel⟩
theorem glX11_32 : Gl RX11 32 11 8 := ⟨_, _, _, _, kc_11, by decide, ir_7 _ (List.mem_of_getElem? (i := 18) (by decide +kernel))⟩
theorem plX11_32 : Pl RX11 32 11 8 .int := ⟨_, _, _, _, kc_11, by decide, ir_7 _ (List.mem_of_getElem? (i := 18) (by decide +kernel)), rfl, by decide +kernel⟩
theorem glX11_35 : Gl RX11 35 11 9 := ⟨_, _, _, _, kc_11, by decide, ir_7 _ (List.mem_of_getElem? (i := 19) (by decide +kernel))⟩
theorem plX11_35 : Pl RX11 35 11 9 .int := ⟨_, _, _, _, kc_11, by decide, ir_7 _ (List.mem_of_getElem? (i := 19) (by decide +kernel)), rfl, by decide +kernel⟩
theorem glX11_38 : Gl RX11 38 11 10 := ⟨_, _, _, _, kc_11, by decide, ir_7 _ (List.mem_of_getElem? (i := 20) (by decide +kernel))⟩
theorem plX11_38 : Pl RX11 38 11 10 .int := ⟨_, _, _, _, kc_11, by decide, ir_7 _ (List.mem_of_getElem? (i := 20) (by decide +kernel)), rfl, by decide +kernel⟩
theorem glX11_41 : Gl RX11 41 11 11 := ⟨_, _, _, _, kc_11, by decide, ir_7 _ (List.mem_of_getElem? (i := 21) (by decide +kernel))⟩
theorem plX11_41 : Pl RX11 41 11 11 .int := ⟨_, _, _, _, kc_11, by decide, ir_7 _ (List.mem_of_getElem? (i := 21) (by decide +kernel)), rfl, by decide +kernel⟩
theorem glX11_44 : Gl RX11 44 11 12 := ⟨_, _, _, _, kc_11, by decide, ir_7 _ (List.mem_of_getElem? (i := 22) (by decide +kernel))⟩
theorem plX11_44 : Pl RX11 44 11 12 .int := ⟨_, _, _, _, kc_11, by decide, ir_7 _ (List.mem_of_getElem? (i := 22) (by decide +kernel)), rfl, by decide +kernel⟩
theorem glX11_47 : Gl RX11 47 11 13 := ⟨_, _, _, _, kc_11, by decide, ir_7 _ (List.mem_of_getElem? (i := 23) (by decide +kernel))⟩
theorem plX11_47 : Pl RX11 47 11 13 .int := ⟨_, _, _, _, kc_11, by decide, ir_7 _ (List.mem_of_getElem? (i := 23) (by decide +kernel)), rfl, by decide +kernel⟩
theorem cnX11_50 : Cond.constant RX11 50 (16777215) ∈ wsL_law := ir_8 _ (List.mem_of_getElem? (i := 0) (by decide +kernel))
theorem glX11_51 : Gl RX11 51 11 14 := ⟨_, _, _, _, kc_11, by decide, ir_8 _ (List.mem_of_getElem? (i := 1) (by decide +kernel))⟩
theorem plX11_51 : Pl RX11 51 11 14 .int := ⟨_, _, _, _, kc_11, by decide, ir_8 _ (List.mem_of_getElem? (i := 1) (by decide +kernel)), rfl, by decide +kernel⟩
theorem glX11_54 : Gl RX11 54 11 16 := ⟨_, _, _, _, kc_11, by decide, ir_8 _ (List.mem_of_getElem? (i := 2) (by decide +kernel))⟩
theorem glX11_57 : Gl RX11 57 11 24 := ⟨_, _, _, _, kc_11, by decide, ir_8 _ (List.mem_of_getElem? (i := 3) (by decide +kernel))⟩
theorem glX11_60 : Gl RX11 60 11 25 := ⟨_, _, _, _, kc_11, by decide, ir_8 _ (List.mem_of_getElem? (i := 4) (by decide +kernel))⟩
theorem glX11_63 : Gl RX11 63 11 26 := ⟨_, _, _, _, kc_11, by decide, ir_8 _ (List.mem_of_getElem? (i := 5) (by decide +kernel))⟩
theorem glX11_66 : Gl RX11 66 11 27 := ⟨_, _, _, _, kc_11, by decide, ir_8 _ (List.mem_of_getElem? (i := 6) (by decide +kernel))⟩
theorem glX11_69 : Gl RX11 69 11 28 := ⟨_, _, _, _, kc_11, by decide, ir_8 _ (List.mem_of_getElem? (i := 7) (by decide +kernel))⟩
theorem glX11_72 : Gl RX11 72 11 29 := ⟨_, _, _, _, kc_11, by decide, ir_8 _ (List.mem_of_getElem? (i := 8) (by decide +kernel))⟩
theorem glX11_75 : Gl RX11 75 11 30 := ⟨_, _, _, _, kc_11, by decide, ir_8 _ (List.mem_of_getElem? (i := 9) (by decide +kernel))⟩
theorem glX11_78 : Gl RX11 78 11 31 := ⟨_, _, _, _, kc_11, by decide, ir_8 _ (List.mem_of_getElem? (i := 10) (by decide +kernel))⟩
theorem glX11_81 : Gl RX11 81 11 33 := ⟨_, _, _, _, kc_11, by decide, ir_8 _ (List.mem_of_getElem? (i := 11) (by decide +kernel))⟩
theorem glX11_84 : Gl RX11 84 11 34 := ⟨_, _, _, _, kc_11, by decide, ir_8 _ (List.mem_of_getElem? (i := 12) (by decide +kernel))⟩
theorem glX11_87 : Gl RX11 87 11 36 := ⟨_, _, _, _, kc_11, by decide, ir_8 _ (List.mem_of_getElem? (i := 13) (by decide +kernel))⟩
theorem glX11_90 : Gl RX11 90 11 37 := ⟨_, _, _, _, kc_11, by decide, ir_8 _ (List.mem_of_getElem? (i := 14) (by decide +kernel))⟩
theorem glX11_93 : Gl RX11 93 11 38 := ⟨_, _, _, _, kc_11, by decide, ir_8 _ (List.mem_of_getElem? (i := 15) (by decide +kernel))⟩
theorem glX11_96 : Gl RX11 96 11 39 := ⟨_, _, _, _, kc_11, by decide, ir_8 _ (List.mem_of_getElem? (i := 16) (by decide +kernel))⟩
theorem glX11_99 : Gl RX11 99 11 41 := ⟨_, _, _, _, kc_11, by decide, ir_8 _ (List.mem_of_getElem? (i := 17) (by decide +kernel))⟩
theorem glX11_102 : Gl RX11 102 11 42 := ⟨_, _, _, _, kc_11, by decide, ir_8 _ (List.mem_of_getElem? (i := 18) (by decide +kernel))⟩
theorem glX11_105 : Gl RX11 105 11 43 := ⟨_, _, _, _, kc_11, by decide, ir_8 _ (List.mem_of_getElem? (i := 19) (by decide +kernel))⟩
theorem glX11_108 : Gl RX11 108 11 44 := ⟨_, _, _, _, kc_11, by decide, ir_8 _ (List.mem_of_getElem? (i := 20) (by decide +kernel))⟩
theorem glX11_111 : Gl RX11 111 11 45 := ⟨_, _, _, _, kc_11, by decide, ir_8 _ (List.mem_of_getElem? (i := 21) (by decide +kernel))⟩
theorem glX11_114 : Gl RX11 114 11 46 := ⟨_, _, _, _, kc_11, by decide, ir_8 _ (List.mem_of_getElem? (i := 22) (by decide +kernel))⟩
theorem glX11_117 : Gl RX11 117 11 47 := ⟨_, _, _, _, kc_11, by decide, ir_8 _ (List.mem_of_getElem? (i := 23) (by decide +kernel))⟩
theorem lkL_15 : LkV RL 15 mX10_write 2 := ⟨mdX10_write, ir_9 _ (List.mem_of_getElem? (i := 0) (by decide +kernel)), ir_9 _ (List.mem_of_getElem? (i := 1) (by decide +kernel)), ir_9 _ (List.mem_of_getElem? (i := 2) (by decide +kernel))⟩
theorem cnX10_94 : Cond.constantLong RX10 94 (255) ∈ wsL_law := ir_9 _ (List.mem_of_getElem? (i := 4) (by decide +kernel))
theorem lkX10_86 : LkS RX10 86 mX10_isWithin 3 := ⟨mdX10_isWithin, ir_9 _ (List.mem_of_getElem? (i := 5) (by decide +kernel)), ir_9 _ (List.mem_of_getElem? (i := 6) (by decide +kernel))⟩
theorem lkX10_90 : LkV RX10 90 mX8_hasSpaceFor 1 := ⟨mdX8_hasSpaceFor, ir_9 _ (List.mem_of_getElem? (i := 8) (by decide +kernel)), ir_9 _ (List.mem_of_getElem? (i := 9) (by decide +kernel)), ir_9 _ (List.mem_of_getElem? (i := 10) (by decide +kernel))⟩
theorem lkX10_96 : LkV RX10 96 mX8_add 1 := ⟨mdX8_add, ir_9 _ (List.mem_of_getElem? (i := 12) (by decide +kernel)), ir_9 _ (List.mem_of_getElem? (i := 13) (by decide +kernel)), ir_9 _ (List.mem_of_getElem? (i := 14) (by decide +kernel))⟩
theorem lkX10_100 : LkV RX10 100 mX8_length 0 := ⟨mdX8_length, ir_9 _ (List.mem_of_getElem? (i := 16) (by decide +kernel)), ir_9 _ (List.mem_of_getElem? (i := 17) (by decide +kernel)), ir_9 _ (List.mem_of_getElem? (i := 18) (by decide +kernel))⟩
theorem lkL_19 : LkV RL 19 mX11_write 2 := ⟨mdX11_write, ir_9 _ (List.mem_of_getElem? (i := 20) (by decide +kernel)), ir_9 _ (List.mem_of_getElem? (i := 21) (by decide +kernel)), ir_9 _ (List.mem_of_getElem? (i := 22) (by decide +kernel))⟩
theorem glX11_131 : Gl RX11 131 11 15 := ⟨_, _, _, _, kc_11, by decide, ir_10 _ (List.mem_of_getElem? (i := 0) (by decide +kernel))⟩
theorem plX11_131 : Pl RX11 131 11 15 .int := ⟨_, _, _, _, kc_11, by decide, ir_10 _ (List.mem_of_getElem? (i := 0) (by decide +kernel)), rfl, by decide +kernel⟩
theorem cnX11_134 : Cond.constantLong RX11 134 (255) ∈ wsL_law := ir_10 _ (List.mem_of_getElem? (i := 1) (by decide +kernel))
theorem lkX11_120 : LkS RX11 120 mX11_in 3 := ⟨mdX11_in, ir_10 _ (List.mem_of_getElem? (i := 2) (by decide +kernel)), ir_10 _ (List.mem_of_getElem? (i := 3) (by decide +kernel))⟩
theorem lkL_20 : LkV RL 20 mX10_erase 0 := ⟨mdX10_erase, ir_10 _ (List.mem_of_getElem? (i := 5) (by decide +kernel)), ir_10 _ (List.mem_of_getElem? (i := 6) (by decide +kernel)), ir_10 _ (List.mem_of_getElem? (i := 7) (by decide +kernel))⟩
theorem lkX10_104 : LkV RX10 104 mX8_clear 0 := ⟨mdX8_clear, ir_10 _ (List.mem_of_getElem? (i := 9) (by decide +kernel)), ir_10 _ (List.mem_of_getElem? (i := 10) (by decide +kernel)), ir_10 _ (List.mem_of_getElem? (i := 11) (by decide +kernel))⟩
theorem lkL_24 : LkV RL 24 mX11_erase 0 := ⟨mdX11_erase, ir_10 _ (List.mem_of_getElem? (i := 13) (by decide +kernel)), ir_10 _ (List.mem_of_getElem? (i := 14) (by decide +kernel)), ir_10 _ (List.mem_of_getElem? (i := 15) (by decide +kernel))⟩
theorem lkL_25 : LkV RL 25 mX10_fault 0 := ⟨mdX10_fault, ir_10 _ (List.mem_of_getElem? (i := 17) (by decide +kernel)), ir_10 _ (List.mem_of_getElem? (i := 18) (by decide +kernel)), ir_10 _ (List.mem_of_getElem? (i := 19) (by decide +kernel))⟩
theorem lkX10_107 : LkV RX10 107 mX5_faultOf 1 := ⟨mdX5_faultOf, ir_10 _ (List.mem_of_getElem? (i := 21) (by decide +kernel)), ir_10 _ (List.mem_of_getElem? (i := 22) (by decide +kernel)), ir_10 _ (List.mem_of_getElem? (i := 23) (by decide +kernel))⟩
theorem lkX5_27 : LkV RX5 27 mX5_readsWord 2 := ⟨mdX5_readsWord, ir_11 _ (List.mem_of_getElem? (i := 1) (by decide +kernel)), ir_11 _ (List.mem_of_getElem? (i := 2) (by decide +kernel)), ir_11 _ (List.mem_of_getElem? (i := 3) (by decide +kernel))⟩
theorem lkX5_34 : LkV RX5 34 mX8_behindBlanks 1 := ⟨mdX8_behindBlanks, ir_11 _ (List.mem_of_getElem? (i := 5) (by decide +kernel)), ir_11 _ (List.mem_of_getElem? (i := 6) (by decide +kernel)), ir_11 _ (List.mem_of_getElem? (i := 7) (by decide +kernel))⟩
theorem lkX8_19 : LkV RX8 19 mX8_at 1 := ⟨mdX8_at, ir_11 _ (List.mem_of_getElem? (i := 9) (by decide +kernel)), ir_11 _ (List.mem_of_getElem? (i := 10) (by decide +kernel)), ir_11 _ (List.mem_of_getElem? (i := 11) (by decide +kernel))⟩
theorem lkX5_47 : LkV RX5 47 mX8_endOfToken 1 := ⟨mdX8_endOfToken, ir_11 _ (List.mem_of_getElem? (i := 13) (by decide +kernel)), ir_11 _ (List.mem_of_getElem? (i := 14) (by decide +kernel)), ir_11 _ (List.mem_of_getElem? (i := 15) (by decide +kernel))⟩
theorem lkX8_23 : LkS RX8 23 mX8_isLetter 1 := ⟨mdX8_isLetter, ir_11 _ (List.mem_of_getElem? (i := 17) (by decide +kernel)), ir_11 _ (List.mem_of_getElem? (i := 18) (by decide +kernel))⟩
theorem lkX8_27 : LkS RX8 27 mX8_isDigit 1 := ⟨mdX8_isDigit, ir_11 _ (List.mem_of_getElem? (i := 20) (by decide +kernel)), ir_11 _ (List.mem_of_getElem? (i := 21) (by decide +kernel))⟩
theorem lkX5_52 : LkS RX5 52 mX3_wordOf 1 := ⟨mdX3_wordOf, ir_11 _ (List.mem_of_getElem? (i := 23) (by decide +kernel)), ir_12 _ (List.mem_of_getElem? (i := 0) (by decide +kernel))⟩
theorem lkX5_56 : LkV RX5 56 mX8_spells 3 := ⟨mdX8_spells, ir_12 _ (List.mem_of_getElem? (i := 2) (by decide +kernel)), ir_12 _ (List.mem_of_getElem? (i := 3) (by decide +kernel)), ir_12 _ (List.mem_of_getElem? (i := 4) (by decide +kernel))⟩
theorem lkX8_30 : LkV RX8 30 mJ0_length_8abf5 0 := ⟨mdJ0_length_8abf5, ir_12 _ (List.mem_of_getElem? (i := 6) (by decide +kernel)), ir_12 _ (List.mem_of_getElem? (i := 7) (by decide +kernel)), ir_12 _ (List.mem_of_getElem? (i := 8) (by decide +kernel))⟩
theorem flJ0_9 : Cond.fieldLink RJ0 9 "java/lang/String" "value" "[B" ∈ wsL_law := ir_12 _ (List.mem_of_getElem? (i := 11) (by decide +kernel))
theorem lkJ0_335 : LkV RJ0 335 mJ0_coder_7d493 0 := ⟨mdJ0_coder_7d493, ir_12 _ (List.mem_of_getElem? (i := 12) (by decide +kernel)), ir_12 _ (List.mem_of_getElem? (i := 13) (by decide +kernel)), ir_12 _ (List.mem_of_getElem? (i := 14) (by decide +kernel))⟩
theorem flJ0_38 : Cond.fieldLink RJ0 38 "java/lang/String" "COMPACT_STRINGS" "Z" ∈ wsL_law := ir_12 _ (List.mem_of_getElem? (i := 16) (by decide +kernel))
theorem flJ0_15 : Cond.fieldLink RJ0 15 "java/lang/String" "coder" "B" ∈ wsL_law := ir_12 _ (List.mem_of_getElem? (i := 17) (by decide +kernel))
theorem lkX8_35 : LkV RX8 35 mJ0_charAt_5068e 1 := ⟨mdJ0_charAt_5068e, ir_12 _ (List.mem_of_getElem? (i := 18) (by decide +kernel)), ir_12 _ (List.mem_of_getElem? (i := 19) (by decide +kernel)), ir_12 _ (List.mem_of_getElem? (i := 20) (by decide +kernel))⟩
theorem lkJ0_492 : LkV RJ0 492 mJ0_isLatin1_aae02 0 := ⟨mdJ0_isLatin1_aae02, ir_12 _ (List.mem_of_getElem? (i := 22) (by decide +kernel)), ir_12 _ (List.mem_of_getElem? (i := 23) (by decide +kernel)), ir_13 _ (List.mem_of_getElem? (i := 0) (by decide +kernel))⟩
theorem lkJ0_495 : LkS RJ0 495 mJ1_charAt_3b067 2 := ⟨mdJ1_charAt_3b067, ir_13 _ (List.mem_of_getElem? (i := 2) (by decide +kernel)), ir_13 _ (List.mem_of_getElem? (i := 3) (by decide +kernel))⟩
theorem lkJ1_9 : LkS RJ1 9 mJ0_checkIndex_df160 2 := ⟨mdJ0_checkIndex_df160, ir_13 _ (List.mem_of_getElem? (i := 6) (by decide +kernel)), ir_13 _ (List.mem_of_getElem? (i := 7) (by decide +kernel))⟩
theorem flJ0_1053 : Cond.fieldLink RJ0 1053 "jdk/internal/util/Preconditions" "SIOOBE_FORMATTER" "Ljava/util/function/BiFunction;" ∈ wsL_law := ir_13 _ (List.mem_of_getElem? (i := 9) (by decide +kernel))
theorem lkJ0_1059 : LkS RJ0 1059 mJ3_checkIndex_8e157 3 := ⟨mdJ3_checkIndex_8e157, ir_13 _ (List.mem_of_getElem? (i := 10) (by decide +kernel)), ir_13 _ (List.mem_of_getElem? (i := 11) (by decide +kernel))⟩
theorem lkJ0_498 : LkS RJ0 498 mJ2_charAt_3b067 2 := ⟨mdJ2_charAt_3b067, ir_13 _ (List.mem_of_getElem? (i := 14) (by decide +kernel)), ir_13 _ (List.mem_of_getElem? (i := 15) (by decide +kernel))⟩
theorem lkJ2_67 : LkS RJ2 67 mJ2_checkIndex_2214a 2 := ⟨mdJ2_checkIndex_2214a, ir_13 _ (List.mem_of_getElem? (i := 18) (by decide +kernel)), ir_13 _ (List.mem_of_getElem? (i := 19) (by decide +kernel))⟩
theorem lkJ2_48 : LkS RJ2 48 mJ2_length_9d52b 1 := ⟨mdJ2_length_9d52b, ir_13 _ (List.mem_of_getElem? (i := 21) (by decide +kernel)), ir_13 _ (List.mem_of_getElem? (i := 22) (by decide +kernel))⟩
theorem lkJ2_414 : LkS RJ2 414 mJ0_checkIndex_df160 2 := ⟨mdJ0_checkIndex_df160, ir_14 _ (List.mem_of_getElem? (i := 0) (by decide +kernel)), ir_13 _ (List.mem_of_getElem? (i := 7) (by decide +kernel))⟩
theorem lkJ2_71 : LkS RJ2 71 mJ2_getChar_3b067 2 := ⟨mdJ2_getChar_3b067, ir_14 _ (List.mem_of_getElem? (i := 1) (by decide +kernel)), ir_14 _ (List.mem_of_getElem? (i := 2) (by decide +kernel))⟩
theorem flJ2_44 : Cond.fieldLink RJ2 44 "java/lang/StringUTF16" "$assertionsDisabled" "Z" ∈ wsL_law := ir_14 _ (List.mem_of_getElem? (i := 4) (by decide +kernel))
theorem flJ2_59 : Cond.fieldLink RJ2 59 "java/lang/StringUTF16" "HI_BYTE_SHIFT" "I" ∈ wsL_law := ir_14 _ (List.mem_of_getElem? (i := 5) (by decide +kernel))
theorem flJ2_63 : Cond.fieldLink RJ2 63 "java/lang/StringUTF16" "LO_BYTE_SHIFT" "I" ∈ wsL_law := ir_14 _ (List.mem_of_getElem? (i := 6) (by decide +kernel))
theorem lkX5_31 : LkV RX5 31 mX5_readsNumbers 2 := ⟨mdX5_readsNumbers, ir_14 _ (List.mem_of_getElem? (i := 7) (by decide +kernel)), ir_14 _ (List.mem_of_getElem? (i := 8) (by decide +kernel)), ir_14 _ (List.mem_of_getElem? (i := 9) (by decide +kernel))⟩
theorem flX5_60 : Cond.fieldLink RX5 60 "HotWeek$Reader" "BOUNDS" "[I" ∈ wsL_law := ir_14 _ (List.mem_of_getElem? (i := 11) (by decide +kernel))
theorem lkX5_63 : LkV RX5 63 mX8_numberIn 2 := ⟨mdX8_numberIn, ir_14 _ (List.mem_of_getElem? (i := 12) (by decide +kernel)), ir_14 _ (List.mem_of_getElem? (i := 13) (by decide +kernel)), ir_14 _ (List.mem_of_getElem? (i := 14) (by decide +kernel))⟩
theorem lkX5_71 : LkV RX5 71 mX5_isDoorToItself 3 := ⟨mdX5_isDoorToItself, ir_14 _ (List.mem_of_getElem? (i := 16) (by decide +kernel)), ir_14 _ (List.mem_of_getElem? (i := 17) (by decide +kernel)), ir_14 _ (List.mem_of_getElem? (i := 18) (by decide +kernel))⟩
theorem lkX5_40 : LkV RX5 40 mX8_length 0 := ⟨mdX8_length, ir_14 _ (List.mem_of_getElem? (i := 20) (by decide +kernel)), ir_9 _ (List.mem_of_getElem? (i := 17) (by decide +kernel)), ir_9 _ (List.mem_of_getElem? (i := 18) (by decide +kernel))⟩
theorem lkX5_44 : LkV RX5 44 mX8_at 1 := ⟨mdX8_at, ir_14 _ (List.mem_of_getElem? (i := 21) (by decide +kernel)), ir_11 _ (List.mem_of_getElem? (i := 10) (by decide +kernel)), ir_11 _ (List.mem_of_getElem? (i := 11) (by decide +kernel))⟩
theorem lkL_28 : LkV RL 28 mX11_fault 0 := ⟨mdX11_fault, ir_14 _ (List.mem_of_getElem? (i := 22) (by decide +kernel)), ir_14 _ (List.mem_of_getElem? (i := 23) (by decide +kernel)), ir_15 _ (List.mem_of_getElem? (i := 0) (by decide +kernel))⟩
theorem glX11_164 : Gl RX11 164 11 22 := ⟨_, _, _, _, kc_11, by decide, ir_15 _ (List.mem_of_getElem? (i := 2) (by decide +kernel))⟩
theorem plX11_164 : Pl RX11 164 11 22 .int := ⟨_, _, _, _, kc_11, by decide, ir_15 _ (List.mem_of_getElem? (i := 2) (by decide +kernel)), rfl, by decide +kernel⟩
theorem lkX11_207 : LkV RX11 207 mX11_isRead 0 := ⟨mdX11_isRead, ir_15 _ (List.mem_of_getElem? (i := 3) (by decide +kernel)), ir_15 _ (List.mem_of_getElem? (i := 4) (by decide +kernel)), ir_15 _ (List.mem_of_getElem? (i := 5) (by decide +kernel))⟩
theorem glX11_136 : Gl RX11 136 11 17 := ⟨_, _, _, _, kc_11, by decide, ir_15 _ (List.mem_of_getElem? (i := 7) (by decide +kernel))⟩
theorem plX11_136 : Pl RX11 136 11 17 .int := ⟨_, _, _, _, kc_11, by decide, ir_15 _ (List.mem_of_getElem? (i := 7) (by decide +kernel)), rfl, by decide +kernel⟩
theorem glX11_201 : Gl RX11 201 11 23 := ⟨_, _, _, _, kc_11, by decide, ir_15 _ (List.mem_of_getElem? (i := 8) (by decide +kernel))⟩
theorem plX11_201 : Pl RX11 201 11 23 .int := ⟨_, _, _, _, kc_11, by decide, ir_15 _ (List.mem_of_getElem? (i := 8) (by decide +kernel)), rfl, by decide +kernel⟩
theorem glX11_150 : Gl RX11 150 11 19 := ⟨_, _, _, _, kc_11, by decide, ir_15 _ (List.mem_of_getElem? (i := 9) (by decide +kernel))⟩
theorem plX11_150 : Pl RX11 150 11 19 .long := ⟨_, _, _, _, kc_11, by decide, ir_15 _ (List.mem_of_getElem? (i := 9) (by decide +kernel)), rfl, by decide +kernel⟩
theorem cnX11_162 : Cond.constantLong RX11 162 (-3) ∈ wsL_law := ir_15 _ (List.mem_of_getElem? (i := 10) (by decide +kernel))
theorem cnX11_148 : Cond.constantLong RX11 148 (-2) ∈ wsL_law := ir_15 _ (List.mem_of_getElem? (i := 11) (by decide +kernel))
theorem lkX11_204 : LkV RX11 204 mX11_isLine 1 := ⟨mdX11_isLine, ir_15 _ (List.mem_of_getElem? (i := 12) (by decide +kernel)), ir_15 _ (List.mem_of_getElem? (i := 13) (by decide +kernel)), ir_15 _ (List.mem_of_getElem? (i := 14) (by decide +kernel))⟩
theorem cnX11_177 : Cond.constantLong RX11 177 (365647) ∈ wsL_law := ir_15 _ (List.mem_of_getElem? (i := 16) (by decide +kernel))
theorem cnX11_179 : Cond.constantLong RX11 179 (90090) ∈ wsL_law := ir_15 _ (List.mem_of_getElem? (i := 17) (by decide +kernel))
theorem cnX11_181 : Cond.constantLong RX11 181 (14173) ∈ wsL_law := ir_15 _ (List.mem_of_getElem? (i := 18) (by decide +kernel))
theorem cnX11_183 : Cond.constantLong RX11 183 (14432) ∈ wsL_law := ir_15 _ (List.mem_of_getElem? (i := 19) (by decide +kernel))
theorem cnX11_185 : Cond.constantLong RX11 185 (4562600) ∈ wsL_law := ir_15 _ (List.mem_of_getElem? (i := 20) (by decide +kernel))
theorem cnX11_187 : Cond.constantLong RX11 187 (4272932) ∈ wsL_law := ir_15 _ (List.mem_of_getElem? (i := 21) (by decide +kernel))
theorem cnX11_189 : Cond.constantLong RX11 189 (307058) ∈ wsL_law := ir_15 _ (List.mem_of_getElem? (i := 22) (by decide +kernel))
theorem cnX11_191 : Cond.constantLong RX11 191 (380396) ∈ wsL_law := ir_15 _ (List.mem_of_getElem? (i := 23) (by decide +kernel))
theorem cnX11_193 : Cond.constantLong RX11 193 (168755) ∈ wsL_law := ir_16 _ (List.mem_of_getElem? (i := 0) (by decide +kernel))
theorem cnX11_195 : Cond.constantLong RX11 195 (40586) ∈ wsL_law := ir_16 _ (List.mem_of_getElem? (i := 1) (by decide +kernel))
theorem lkX11_167 : LkV RX11 167 mX11_nextToken 0 := ⟨mdX11_nextToken, ir_16 _ (List.mem_of_getElem? (i := 2) (by decide +kernel)), ir_16 _ (List.mem_of_getElem? (i := 3) (by decide +kernel)), ir_16 _ (List.mem_of_getElem? (i := 4) (by decide +kernel))⟩
theorem glX11_139 : Gl RX11 139 11 18 := ⟨_, _, _, _, kc_11, by decide, ir_16 _ (List.mem_of_getElem? (i := 6) (by decide +kernel))⟩
theorem plX11_139 : Pl RX11 139 11 18 .int := ⟨_, _, _, _, kc_11, by decide, ir_16 _ (List.mem_of_getElem? (i := 6) (by decide +kernel)), rfl, by decide +kernel⟩
theorem glX11_142 : Gl RX11 142 11 20 := ⟨_, _, _, _, kc_11, by decide, ir_16 _ (List.mem_of_getElem? (i := 7) (by decide +kernel))⟩
theorem plX11_142 : Pl RX11 142 11 20 .int := ⟨_, _, _, _, kc_11, by decide, ir_16 _ (List.mem_of_getElem? (i := 7) (by decide +kernel)), rfl, by decide +kernel⟩
theorem glX11_145 : Gl RX11 145 11 21 := ⟨_, _, _, _, kc_11, by decide, ir_16 _ (List.mem_of_getElem? (i := 8) (by decide +kernel))⟩
theorem plX11_145 : Pl RX11 145 11 21 .int := ⟨_, _, _, _, kc_11, by decide, ir_16 _ (List.mem_of_getElem? (i := 8) (by decide +kernel)), rfl, by decide +kernel⟩
theorem cnX11_154 : Cond.constantLong RX11 154 (27) ∈ wsL_law := ir_16 _ (List.mem_of_getElem? (i := 9) (by decide +kernel))
theorem cnX11_156 : Cond.constantLong RX11 156 (96) ∈ wsL_law := ir_16 _ (List.mem_of_getElem? (i := 10) (by decide +kernel))
theorem cnX11_158 : Cond.constantLong RX11 158 (-4) ∈ wsL_law := ir_16 _ (List.mem_of_getElem? (i := 11) (by decide +kernel))
theorem cnX11_160 : Cond.constantLong RX11 160 (-1) ∈ wsL_law := ir_16 _ (List.mem_of_getElem? (i := 12) (by decide +kernel))
theorem lkX11_174 : LkV RX11 174 mX11_isNumber 3 := ⟨mdX11_isNumber, ir_16 _ (List.mem_of_getElem? (i := 13) (by decide +kernel)), ir_16 _ (List.mem_of_getElem? (i := 14) (by decide +kernel)), ir_16 _ (List.mem_of_getElem? (i := 15) (by decide +kernel))⟩
theorem lkX11_170 : LkV RX11 170 mX11_fails 0 := ⟨mdX11_fails, ir_16 _ (List.mem_of_getElem? (i := 17) (by decide +kernel)), ir_16 _ (List.mem_of_getElem? (i := 18) (by decide +kernel)), ir_16 _ (List.mem_of_getElem? (i := 19) (by decide +kernel))⟩
theorem lkX11_197 : LkV RX11 197 mX11_isDoor 1 := ⟨mdX11_isDoor, ir_16 _ (List.mem_of_getElem? (i := 21) (by decide +kernel)), ir_16 _ (List.mem_of_getElem? (i := 22) (by decide +kernel)), ir_16 _ (List.mem_of_getElem? (i := 23) (by decide +kernel))⟩
theorem lkL_29 : LkV RL 29 mX10_week 0 := ⟨mdX10_week, ir_17 _ (List.mem_of_getElem? (i := 1) (by decide +kernel)), ir_17 _ (List.mem_of_getElem? (i := 2) (by decide +kernel)), ir_17 _ (List.mem_of_getElem? (i := 3) (by decide +kernel))⟩
theorem lkX10_111 : LkV RX10 111 mX5_lines 0 := ⟨mdX5_lines, ir_17 _ (List.mem_of_getElem? (i := 5) (by decide +kernel)), ir_17 _ (List.mem_of_getElem? (i := 6) (by decide +kernel)), ir_17 _ (List.mem_of_getElem? (i := 7) (by decide +kernel))⟩
theorem lkX10_114 : LkV RX10 114 mX5_kindOf 1 := ⟨mdX5_kindOf, ir_17 _ (List.mem_of_getElem? (i := 9) (by decide +kernel)), ir_17 _ (List.mem_of_getElem? (i := 10) (by decide +kernel)), ir_17 _ (List.mem_of_getElem? (i := 11) (by decide +kernel))⟩
theorem lkX10_118 : LkV RX10 118 mX5_numbersOf 1 := ⟨mdX5_numbersOf, ir_17 _ (List.mem_of_getElem? (i := 13) (by decide +kernel)), ir_17 _ (List.mem_of_getElem? (i := 14) (by decide +kernel)), ir_17 _ (List.mem_of_getElem? (i := 15) (by decide +kernel))⟩
theorem lkX10_122 : LkV RX10 122 mX3_tell 2 := ⟨mdX3_tell, ir_17 _ (List.mem_of_getElem? (i := 17) (by decide +kernel)), ir_17 _ (List.mem_of_getElem? (i := 18) (by decide +kernel)), ir_17 _ (List.mem_of_getElem? (i := 19) (by decide +kernel))⟩
theorem lkX3_89 : LkV RX3 89 mX3_tellRoom 1 := ⟨mdX3_tellRoom, ir_17 _ (List.mem_of_getElem? (i := 21) (by decide +kernel)), ir_17 _ (List.mem_of_getElem? (i := 22) (by decide +kernel)), ir_17 _ (List.mem_of_getElem? (i := 23) (by decide +kernel))⟩
theorem lkX10_126 : LkV RX10 126 mX0_forget 0 := ⟨mdX0_forget, ir_18 _ (List.mem_of_getElem? (i := 3) (by decide +kernel)), ir_18 _ (List.mem_of_getElem? (i := 4) (by decide +kernel)), ir_18 _ (List.mem_of_getElem? (i := 5) (by decide +kernel))⟩
theorem lkL_32 : LkV RL 32 mX11_week 0 := ⟨mdX11_week, ir_18 _ (List.mem_of_getElem? (i := 7) (by decide +kernel)), ir_18 _ (List.mem_of_getElem? (i := 8) (by decide +kernel)), ir_18 _ (List.mem_of_getElem? (i := 9) (by decide +kernel))⟩
theorem lkX11_218 : LkV RX11 218 mX11_doLine 1 := ⟨mdX11_doLine, ir_18 _ (List.mem_of_getElem? (i := 11) (by decide +kernel)), ir_18 _ (List.mem_of_getElem? (i := 12) (by decide +kernel)), ir_18 _ (List.mem_of_getElem? (i := 13) (by decide +kernel))⟩
theorem glX11_124 : Gl RX11 124 11 0 := ⟨_, _, _, _, kc_11, by decide, ir_18 _ (List.mem_of_getElem? (i := 15) (by decide +kernel))⟩
theorem plX11_124 : Pl RX11 124 11 0 .int := ⟨_, _, _, _, kc_11, by decide, ir_18 _ (List.mem_of_getElem? (i := 15) (by decide +kernel)), rfl, by decide +kernel⟩
theorem lkX11_210 : LkV RX11 210 mX11_doHours 3 := ⟨mdX11_doHours, ir_18 _ (List.mem_of_getElem? (i := 16) (by decide +kernel)), ir_18 _ (List.mem_of_getElem? (i := 17) (by decide +kernel)), ir_18 _ (List.mem_of_getElem? (i := 18) (by decide +kernel))⟩
theorem lkX11_214 : LkS RX11 214 mX11_hoursOf 2 := ⟨mdX11_hoursOf, ir_18 _ (List.mem_of_getElem? (i := 20) (by decide +kernel)), ir_18 _ (List.mem_of_getElem? (i := 21) (by decide +kernel))⟩
theorem lkL_33 : LkV RL 33 mX10_room 2 := ⟨mdX10_room, ir_18 _ (List.mem_of_getElem? (i := 23) (by decide +kernel)), ir_19 _ (List.mem_of_getElem? (i := 0) (by decide +kernel)), ir_19 _ (List.mem_of_getElem? (i := 1) (by decide +kernel))⟩
theorem lkX10_129 : LkV RX10 129 mX3_isTold 1 := ⟨mdX3_isTold, ir_19 _ (List.mem_of_getElem? (i := 3) (by decide +kernel)), ir_19 _ (List.mem_of_getElem? (i := 4) (by decide +kernel)), ir_19 _ (List.mem_of_getElem? (i := 5) (by decide +kernel))⟩
theorem lkX10_132 : LkV RX10 132 mX3_firstAir 1 := ⟨mdX3_firstAir, ir_19 _ (List.mem_of_getElem? (i := 7) (by decide +kernel)), ir_19 _ (List.mem_of_getElem? (i := 8) (by decide +kernel)), ir_19 _ (List.mem_of_getElem? (i := 9) (by decide +kernel))⟩
theorem lkX10_135 : LkV RX10 135 mX3_firstWall 1 := ⟨mdX3_firstWall, ir_19 _ (List.mem_of_getElem? (i := 11) (by decide +kernel)), ir_19 _ (List.mem_of_getElem? (i := 12) (by decide +kernel)), ir_19 _ (List.mem_of_getElem? (i := 13) (by decide +kernel))⟩
theorem lkX10_138 : LkV RX10 138 mX3_side 1 := ⟨mdX3_side, ir_19 _ (List.mem_of_getElem? (i := 15) (by decide +kernel)), ir_19 _ (List.mem_of_getElem? (i := 16) (by decide +kernel)), ir_19 _ (List.mem_of_getElem? (i := 17) (by decide +kernel))⟩
theorem lkX10_141 : LkV RX10 141 mX3_folk 1 := ⟨mdX3_folk, ir_19 _ (List.mem_of_getElem? (i := 19) (by decide +kernel)), ir_19 _ (List.mem_of_getElem? (i := 20) (by decide +kernel)), ir_19 _ (List.mem_of_getElem? (i := 21) (by decide +kernel))⟩
theorem lkX10_144 : LkV RX10 144 mX3_habit 1 := ⟨mdX3_habit, ir_19 _ (List.mem_of_getElem? (i := 23) (by decide +kernel)), ir_20 _ (List.mem_of_getElem? (i := 0) (by decide +kernel)), ir_20 _ (List.mem_of_getElem? (i := 1) (by decide +kernel))⟩
theorem lkX10_147 : LkV RX10 147 mX3_openHours 1 := ⟨mdX3_openHours, ir_20 _ (List.mem_of_getElem? (i := 3) (by decide +kernel)), ir_20 _ (List.mem_of_getElem? (i := 4) (by decide +kernel)), ir_20 _ (List.mem_of_getElem? (i := 5) (by decide +kernel))⟩
theorem lkX10_150 : LkV RX10 150 mX3_shutHours 1 := ⟨mdX3_shutHours, ir_20 _ (List.mem_of_getElem? (i := 7) (by decide +kernel)), ir_20 _ (List.mem_of_getElem? (i := 8) (by decide +kernel)), ir_20 _ (List.mem_of_getElem? (i := 9) (by decide +kernel))⟩
theorem lkL_37 : LkV RL 37 mX11_room 2 := ⟨mdX11_room, ir_20 _ (List.mem_of_getElem? (i := 11) (by decide +kernel)), ir_20 _ (List.mem_of_getElem? (i := 12) (by decide +kernel)), ir_20 _ (List.mem_of_getElem? (i := 13) (by decide +kernel))⟩
theorem lkX11_222 : LkV RX11 222 mX11_isRoom 1 := ⟨mdX11_isRoom, ir_20 _ (List.mem_of_getElem? (i := 15) (by decide +kernel)), ir_20 _ (List.mem_of_getElem? (i := 16) (by decide +kernel)), ir_20 _ (List.mem_of_getElem? (i := 17) (by decide +kernel))⟩
theorem lkX11_127 : LkS RX11 127 mX11_has 2 := ⟨mdX11_has, ir_20 _ (List.mem_of_getElem? (i := 19) (by decide +kernel)), ir_20 _ (List.mem_of_getElem? (i := 20) (by decide +kernel))⟩
theorem lkL_38 : LkV RL 38 mX10_door 2 := ⟨mdX10_door, ir_20 _ (List.mem_of_getElem? (i := 22) (by decide +kernel)), ir_20 _ (List.mem_of_getElem? (i := 23) (by decide +kernel)), ir_21 _ (List.mem_of_getElem? (i := 0) (by decide +kernel))⟩
theorem lkX10_153 : LkS RX10 153 mX10_isRoom 1 := ⟨mdX10_isRoom, ir_21 _ (List.mem_of_getElem? (i := 2) (by decide +kernel)), ir_21 _ (List.mem_of_getElem? (i := 3) (by decide +kernel))⟩
theorem lkX10_156 : LkV RX10 156 mX3_passes 2 := ⟨mdX3_passes, ir_21 _ (List.mem_of_getElem? (i := 5) (by decide +kernel)), ir_21 _ (List.mem_of_getElem? (i := 6) (by decide +kernel)), ir_21 _ (List.mem_of_getElem? (i := 7) (by decide +kernel))⟩
theorem lkL_41 : LkV RL 41 mX11_door 2 := ⟨mdX11_door, ir_21 _ (List.mem_of_getElem? (i := 9) (by decide +kernel)), ir_21 _ (List.mem_of_getElem? (i := 10) (by decide +kernel)), ir_21 _ (List.mem_of_getElem? (i := 11) (by decide +kernel))⟩
theorem lkL_42 : LkV RL 42 mX10_out 1 := ⟨mdX10_out, ir_21 _ (List.mem_of_getElem? (i := 13) (by decide +kernel)), ir_21 _ (List.mem_of_getElem? (i := 14) (by decide +kernel)), ir_21 _ (List.mem_of_getElem? (i := 15) (by decide +kernel))⟩
theorem lkX10_160 : LkS RX10 160 mX10_isHour 1 := ⟨mdX10_isHour, ir_21 _ (List.mem_of_getElem? (i := 17) (by decide +kernel)), ir_21 _ (List.mem_of_getElem? (i := 18) (by decide +kernel))⟩
theorem lkX10_163 : LkV RX10 163 mX3_skyAt 1 := ⟨mdX3_skyAt, ir_21 _ (List.mem_of_getElem? (i := 20) (by decide +kernel)), ir_21 _ (List.mem_of_getElem? (i := 21) (by decide +kernel)), ir_21 _ (List.mem_of_getElem? (i := 22) (by decide +kernel))⟩
theorem lkL_46 : LkV RL 46 mX11_out 1 := ⟨mdX11_out, ir_22 _ (List.mem_of_getElem? (i := 0) (by decide +kernel)), ir_22 _ (List.mem_of_getElem? (i := 1) (by decide +kernel)), ir_22 _ (List.mem_of_getElem? (i := 2) (by decide +kernel))⟩
theorem lkX11_225 : LkV RX11 225 mX11_outAt 1 := ⟨mdX11_outAt, ir_22 _ (List.mem_of_getElem? (i := 4) (by decide +kernel)), ir_22 _ (List.mem_of_getElem? (i := 5) (by decide +kernel)), ir_22 _ (List.mem_of_getElem? (i := 6) (by decide +kernel))⟩
theorem lkL_47 : LkV RL 47 mX10_warm 3 := ⟨mdX10_warm, ir_22 _ (List.mem_of_getElem? (i := 8) (by decide +kernel)), ir_22 _ (List.mem_of_getElem? (i := 9) (by decide +kernel)), ir_22 _ (List.mem_of_getElem? (i := 10) (by decide +kernel))⟩
theorem lkX10_166 : LkV RX10 166 mX10_courseAsTold 0 := ⟨mdX10_courseAsTold, ir_22 _ (List.mem_of_getElem? (i := 12) (by decide +kernel)), ir_22 _ (List.mem_of_getElem? (i := 13) (by decide +kernel)), ir_22 _ (List.mem_of_getElem? (i := 14) (by decide +kernel))⟩
theorem lkX10_189 : LkV RX10 189 mX4_takeFrom 1 := ⟨mdX4_takeFrom, ir_22 _ (List.mem_of_getElem? (i := 16) (by decide +kernel)), ir_22 _ (List.mem_of_getElem? (i := 17) (by decide +kernel)), ir_22 _ (List.mem_of_getElem? (i := 18) (by decide +kernel))⟩
theorem lkX4_36 : LkV RX4 36 mX3_skyAt 1 := ⟨mdX3_skyAt, ir_22 _ (List.mem_of_getElem? (i := 20) (by decide +kernel)), ir_21 _ (List.mem_of_getElem? (i := 21) (by decide +kernel)), ir_21 _ (List.mem_of_getElem? (i := 22) (by decide +kernel))⟩
theorem lkX4_42 : LkV RX4 42 mX3_habit 1 := ⟨mdX3_habit, ir_22 _ (List.mem_of_getElem? (i := 21) (by decide +kernel)), ir_20 _ (List.mem_of_getElem? (i := 0) (by decide +kernel)), ir_20 _ (List.mem_of_getElem? (i := 1) (by decide +kernel))⟩
theorem lkX4_44 : LkV RX4 44 mX3_openHours 1 := ⟨mdX3_openHours, ir_22 _ (List.mem_of_getElem? (i := 22) (by decide +kernel)), ir_20 _ (List.mem_of_getElem? (i := 4) (by decide +kernel)), ir_20 _ (List.mem_of_getElem? (i := 5) (by decide +kernel))⟩
theorem lkX4_46 : LkV RX4 46 mX4_takeWorksOff 2 := ⟨mdX4_takeWorksOff, ir_22 _ (List.mem_of_getElem? (i := 23) (by decide +kernel)), ir_23 _ (List.mem_of_getElem? (i := 0) (by decide +kernel)), ir_23 _ (List.mem_of_getElem? (i := 1) (by decide +kernel))⟩
theorem lkX4_59 : LkV RX4 59 mX3_leaks 0 := ⟨mdX3_leaks, ir_23 _ (List.mem_of_getElem? (i := 3) (by decide +kernel)), ir_23 _ (List.mem_of_getElem? (i := 4) (by decide +kernel)), ir_23 _ (List.mem_of_getElem? (i := 5) (by decide +kernel))⟩
theorem lkX4_61 : LkV RX4 61 mX3_sunIn 2 := ⟨mdX3_sunIn, ir_23 _ (List.mem_of_getElem? (i := 7) (by decide +kernel)), ir_23 _ (List.mem_of_getElem? (i := 8) (by decide +kernel)), ir_23 _ (List.mem_of_getElem? (i := 9) (by decide +kernel))⟩
theorem lkX3_97 : LkS RX3 97 mX3_shinesOn 2 := ⟨mdX3_shinesOn, ir_23 _ (List.mem_of_getElem? (i := 11) (by decide +kernel)), ir_23 _ (List.mem_of_getElem? (i := 12) (by decide +kernel))⟩
theorem lkX4_50 : LkV RX4 50 mX3_gives 0 := ⟨mdX3_gives, ir_23 _ (List.mem_of_getElem? (i := 16) (by decide +kernel)), ir_23 _ (List.mem_of_getElem? (i := 17) (by decide +kernel)), ir_23 _ (List.mem_of_getElem? (i := 18) (by decide +kernel))⟩
theorem lkX4_53 : LkV RX4 53 mX3_takes 0 := ⟨mdX3_takes, ir_23 _ (List.mem_of_getElem? (i := 20) (by decide +kernel)), ir_23 _ (List.mem_of_getElem? (i := 21) (by decide +kernel)), ir_23 _ (List.mem_of_getElem? (i := 22) (by decide +kernel))⟩
theorem lkX4_55 : LkV RX4 55 mX4_putLaw 2 := ⟨mdX4_putLaw, ir_24 _ (List.mem_of_getElem? (i := 0) (by decide +kernel)), ir_24 _ (List.mem_of_getElem? (i := 1) (by decide +kernel)), ir_24 _ (List.mem_of_getElem? (i := 2) (by decide +kernel))⟩
theorem lkX10_197 : LkV RX10 197 mX1_run 2 := ⟨mdX1_run, ir_24 _ (List.mem_of_getElem? (i := 4) (by decide +kernel)), ir_24 _ (List.mem_of_getElem? (i := 5) (by decide +kernel)), ir_24 _ (List.mem_of_getElem? (i := 6) (by decide +kernel))⟩
theorem lkX1_22 : LkV RX1 22 mX3_firstAir 1 := ⟨mdX3_firstAir, ir_24 _ (List.mem_of_getElem? (i := 8) (by decide +kernel)), ir_19 _ (List.mem_of_getElem? (i := 8) (by decide +kernel)), ir_19 _ (List.mem_of_getElem? (i := 9) (by decide +kernel))⟩
theorem lkX1_28 : LkV RX1 28 mX3_firstWall 1 := ⟨mdX3_firstWall, ir_24 _ (List.mem_of_getElem? (i := 9) (by decide +kernel)), ir_19 _ (List.mem_of_getElem? (i := 12) (by decide +kernel)), ir_19 _ (List.mem_of_getElem? (i := 13) (by decide +kernel))⟩
theorem lkX1_31 : LkV RX1 31 mX3_isTold 1 := ⟨mdX3_isTold, ir_24 _ (List.mem_of_getElem? (i := 10) (by decide +kernel)), ir_19 _ (List.mem_of_getElem? (i := 4) (by decide +kernel)), ir_19 _ (List.mem_of_getElem? (i := 5) (by decide +kernel))⟩
theorem lkX1_35 : LkV RX1 35 mX1_goOn 4 := ⟨mdX1_goOn, ir_24 _ (List.mem_of_getElem? (i := 11) (by decide +kernel)), ir_24 _ (List.mem_of_getElem? (i := 12) (by decide +kernel)), ir_24 _ (List.mem_of_getElem? (i := 13) (by decide +kernel))⟩
theorem lkX1_39 : LkV RX1 39 mX4_skyAt 1 := ⟨mdX4_skyAt, ir_24 _ (List.mem_of_getElem? (i := 15) (by decide +kernel)), ir_24 _ (List.mem_of_getElem? (i := 16) (by decide +kernel)), ir_24 _ (List.mem_of_getElem? (i := 17) (by decide +kernel))⟩
theorem lkX1_44 : LkV RX1 44 mX3_homeHours 0 := ⟨mdX3_homeHours, ir_24 _ (List.mem_of_getElem? (i := 19) (by decide +kernel)), ir_24 _ (List.mem_of_getElem? (i := 20) (by decide +kernel)), ir_24 _ (List.mem_of_getElem? (i := 21) (by decide +kernel))⟩
theorem lkX1_52 : LkV RX1 52 mX4_wouldOpen 3 := ⟨mdX4_wouldOpen, ir_24 _ (List.mem_of_getElem? (i := 23) (by decide +kernel)), ir_25 _ (List.mem_of_getElem? (i := 0) (by decide +kernel)), ir_25 _ (List.mem_of_getElem? (i := 1) (by decide +kernel))⟩
theorem lkX1_56 : LkV RX1 56 mX4_sunIn 2 := ⟨mdX4_sunIn, ir_25 _ (List.mem_of_getElem? (i := 3) (by decide +kernel)), ir_25 _ (List.mem_of_getElem? (i := 4) (by decide +kernel)), ir_25 _ (List.mem_of_getElem? (i := 5) (by decide +kernel))⟩
theorem lkX1_60 : LkV RX1 60 mX4_gives 0 := ⟨mdX4_gives, ir_25 _ (List.mem_of_getElem? (i := 7) (by decide +kernel)), ir_25 _ (List.mem_of_getElem? (i := 8) (by decide +kernel)), ir_25 _ (List.mem_of_getElem? (i := 9) (by decide +kernel))⟩
theorem lkX1_63 : LkV RX1 63 mX1_throughDoors 3 := ⟨mdX1_throughDoors, ir_25 _ (List.mem_of_getElem? (i := 11) (by decide +kernel)), ir_25 _ (List.mem_of_getElem? (i := 12) (by decide +kernel)), ir_25 _ (List.mem_of_getElem? (i := 13) (by decide +kernel))⟩
theorem lkX1_79 : LkV RX1 79 mX3_passes 2 := ⟨mdX3_passes, ir_25 _ (List.mem_of_getElem? (i := 15) (by decide +kernel)), ir_21 _ (List.mem_of_getElem? (i := 6) (by decide +kernel)), ir_21 _ (List.mem_of_getElem? (i := 7) (by decide +kernel))⟩
theorem lkX1_67 : LkV RX1 67 mX3_folk 1 := ⟨mdX3_folk, ir_25 _ (List.mem_of_getElem? (i := 16) (by decide +kernel)), ir_19 _ (List.mem_of_getElem? (i := 20) (by decide +kernel)), ir_19 _ (List.mem_of_getElem? (i := 21) (by decide +kernel))⟩
theorem lkX1_70 : LkV RX1 70 mX3_window 0 := ⟨mdX3_window, ir_25 _ (List.mem_of_getElem? (i := 17) (by decide +kernel)), ir_25 _ (List.mem_of_getElem? (i := 18) (by decide +kernel)), ir_25 _ (List.mem_of_getElem? (i := 19) (by decide +kernel))⟩
theorem lkX1_73 : LkV RX1 73 mX4_takes 0 := ⟨mdX4_takes, ir_25 _ (List.mem_of_getElem? (i := 21) (by decide +kernel)), ir_25 _ (List.mem_of_getElem? (i := 22) (by decide +kernel)), ir_25 _ (List.mem_of_getElem? (i := 23) (by decide +kernel))⟩
theorem lkX1_76 : LkV RX1 76 mX4_leaks 1 := ⟨mdX4_leaks, ir_26 _ (List.mem_of_getElem? (i := 1) (by decide +kernel)), ir_26 _ (List.mem_of_getElem? (i := 2) (by decide +kernel)), ir_26 _ (List.mem_of_getElem? (i := 3) (by decide +kernel))⟩
theorem lkX10_170 : LkV RX10 170 mX1_airBehind 2 := ⟨mdX1_airBehind, ir_26 _ (List.mem_of_getElem? (i := 5) (by decide +kernel)), ir_26 _ (List.mem_of_getElem? (i := 6) (by decide +kernel)), ir_26 _ (List.mem_of_getElem? (i := 7) (by decide +kernel))⟩
theorem lkX10_173 : LkV RX10 173 mX1_wallBehind 2 := ⟨mdX1_wallBehind, ir_26 _ (List.mem_of_getElem? (i := 9) (by decide +kernel)), ir_26 _ (List.mem_of_getElem? (i := 10) (by decide +kernel)), ir_26 _ (List.mem_of_getElem? (i := 11) (by decide +kernel))⟩
theorem lkX10_176 : LkV RX10 176 mX1_openIn 2 := ⟨mdX1_openIn, ir_26 _ (List.mem_of_getElem? (i := 13) (by decide +kernel)), ir_26 _ (List.mem_of_getElem? (i := 14) (by decide +kernel)), ir_26 _ (List.mem_of_getElem? (i := 15) (by decide +kernel))⟩
theorem lkL_51 : LkV RL 51 mX11_warm 3 := ⟨mdX11_warm, ir_26 _ (List.mem_of_getElem? (i := 17) (by decide +kernel)), ir_26 _ (List.mem_of_getElem? (i := 18) (by decide +kernel)), ir_26 _ (List.mem_of_getElem? (i := 19) (by decide +kernel))⟩
theorem lkX11_253 : LkV RX11 253 mX11_asTold 0 := ⟨mdX11_asTold, ir_26 _ (List.mem_of_getElem? (i := 21) (by decide +kernel)), ir_26 _ (List.mem_of_getElem? (i := 22) (by decide +kernel)), ir_26 _ (List.mem_of_getElem? (i := 23) (by decide +kernel))⟩
theorem glX11_232 : Gl RX11 232 11 32 := ⟨_, _, _, _, kc_11, by decide, ir_27 _ (List.mem_of_getElem? (i := 1) (by decide +kernel))⟩
theorem plX11_232 : Pl RX11 232 11 32 .int := ⟨_, _, _, _, kc_11, by decide, ir_27 _ (List.mem_of_getElem? (i := 1) (by decide +kernel)), rfl, by decide +kernel⟩
theorem lkX11_247 : LkV RX11 247 mX11_goWeek 0 := ⟨mdX11_goWeek, ir_27 _ (List.mem_of_getElem? (i := 2) (by decide +kernel)), ir_27 _ (List.mem_of_getElem? (i := 3) (by decide +kernel)), ir_27 _ (List.mem_of_getElem? (i := 4) (by decide +kernel))⟩
theorem lkX11_244 : LkV RX11 244 mX11_goHour 1 := ⟨mdX11_goHour, ir_27 _ (List.mem_of_getElem? (i := 6) (by decide +kernel)), ir_27 _ (List.mem_of_getElem? (i := 7) (by decide +kernel)), ir_27 _ (List.mem_of_getElem? (i := 8) (by decide +kernel))⟩
theorem lkX11_235 : LkV RX11 235 mX11_sunAt 2 := ⟨mdX11_sunAt, ir_27 _ (List.mem_of_getElem? (i := 10) (by decide +kernel)), ir_27 _ (List.mem_of_getElem? (i := 11) (by decide +kernel)), ir_27 _ (List.mem_of_getElem? (i := 12) (by decide +kernel))⟩
theorem glX11_229 : Gl RX11 229 11 35 := ⟨_, _, _, _, kc_11, by decide, ir_27 _ (List.mem_of_getElem? (i := 14) (by decide +kernel))⟩
theorem plX11_229 : Pl RX11 229 11 35 .int := ⟨_, _, _, _, kc_11, by decide, ir_27 _ (List.mem_of_getElem? (i := 14) (by decide +kernel)), rfl, by decide +kernel⟩
theorem lkX11_238 : LkV RX11 238 mX11_isOpenAt 2 := ⟨mdX11_isOpenAt, ir_27 _ (List.mem_of_getElem? (i := 15) (by decide +kernel)), ir_27 _ (List.mem_of_getElem? (i := 16) (by decide +kernel)), ir_27 _ (List.mem_of_getElem? (i := 17) (by decide +kernel))⟩
theorem lkX11_241 : LkV RX11 241 mX11_leaksOf 1 := ⟨mdX11_leaksOf, ir_27 _ (List.mem_of_getElem? (i := 19) (by decide +kernel)), ir_27 _ (List.mem_of_getElem? (i := 20) (by decide +kernel)), ir_27 _ (List.mem_of_getElem? (i := 21) (by decide +kernel))⟩
theorem lkL_52 : LkV RL 52 mX10_night 1 := ⟨mdX10_night, ir_27 _ (List.mem_of_getElem? (i := 23) (by decide +kernel)), ir_28 _ (List.mem_of_getElem? (i := 0) (by decide +kernel)), ir_28 _ (List.mem_of_getElem? (i := 1) (by decide +kernel))⟩
theorem lkX10_179 : LkV RX10 179 mX1_nightOfAll 1 := ⟨mdX1_nightOfAll, ir_28 _ (List.mem_of_getElem? (i := 3) (by decide +kernel)), ir_28 _ (List.mem_of_getElem? (i := 4) (by decide +kernel)), ir_28 _ (List.mem_of_getElem? (i := 5) (by decide +kernel))⟩
theorem lkX1_82 : LkV RX1 82 mX1_nightOf 1 := ⟨mdX1_nightOf, ir_28 _ (List.mem_of_getElem? (i := 7) (by decide +kernel)), ir_28 _ (List.mem_of_getElem? (i := 8) (by decide +kernel)), ir_28 _ (List.mem_of_getElem? (i := 9) (by decide +kernel))⟩
theorem lkX10_183 : LkV RX10 183 mX1_nightOf 1 := ⟨mdX1_nightOf, ir_28 _ (List.mem_of_getElem? (i := 11) (by decide +kernel)), ir_28 _ (List.mem_of_getElem? (i := 8) (by decide +kernel)), ir_28 _ (List.mem_of_getElem? (i := 9) (by decide +kernel))⟩
theorem lkL_55 : LkV RL 55 mX11_night 1 := ⟨mdX11_night, ir_28 _ (List.mem_of_getElem? (i := 12) (by decide +kernel)), ir_28 _ (List.mem_of_getElem? (i := 13) (by decide +kernel)), ir_28 _ (List.mem_of_getElem? (i := 14) (by decide +kernel))⟩
theorem lkX11_256 : LkV RX11 256 mX11_nightOfAll 0 := ⟨mdX11_nightOfAll, ir_28 _ (List.mem_of_getElem? (i := 16) (by decide +kernel)), ir_28 _ (List.mem_of_getElem? (i := 17) (by decide +kernel)), ir_28 _ (List.mem_of_getElem? (i := 18) (by decide +kernel))⟩
theorem lkX11_250 : LkV RX11 250 mX11_nightOf 1 := ⟨mdX11_nightOf, ir_28 _ (List.mem_of_getElem? (i := 20) (by decide +kernel)), ir_28 _ (List.mem_of_getElem? (i := 21) (by decide +kernel)), ir_28 _ (List.mem_of_getElem? (i := 22) (by decide +kernel))⟩
theorem lkL_56 : LkV RL 56 mX10_above 2 := ⟨mdX10_above, ir_29 _ (List.mem_of_getElem? (i := 0) (by decide +kernel)), ir_29 _ (List.mem_of_getElem? (i := 1) (by decide +kernel)), ir_29 _ (List.mem_of_getElem? (i := 2) (by decide +kernel))⟩
theorem lkX10_186 : LkV RX10 186 mX1_longestAbove 2 := ⟨mdX1_longestAbove, ir_29 _ (List.mem_of_getElem? (i := 4) (by decide +kernel)), ir_29 _ (List.mem_of_getElem? (i := 5) (by decide +kernel)), ir_29 _ (List.mem_of_getElem? (i := 6) (by decide +kernel))⟩
theorem mlX1_85 : Cond.methodLink RX1 85 Lib.Math.max.name ∈ wsL_law := ir_29 _ (List.mem_of_getElem? (i := 8) (by decide +kernel))
theorem lkL_59 : LkV RL 59 mX11_above 2 := ⟨mdX11_above, ir_29 _ (List.mem_of_getElem? (i := 12) (by decide +kernel)), ir_29 _ (List.mem_of_getElem? (i := 13) (by decide +kernel)), ir_29 _ (List.mem_of_getElem? (i := 14) (by decide +kernel))⟩
theorem lkL_60 : LkV RL 60 mX10_costs 1 := ⟨mdX10_costs, ir_29 _ (List.mem_of_getElem? (i := 16) (by decide +kernel)), ir_29 _ (List.mem_of_getElem? (i := 17) (by decide +kernel)), ir_29 _ (List.mem_of_getElem? (i := 18) (by decide +kernel))⟩
theorem cnX10_201 : Cond.constant RX10 201 (10000000) ∈ wsL_law := ir_29 _ (List.mem_of_getElem? (i := 20) (by decide +kernel))
theorem lkX10_193 : LkV RX10 193 mX4_putHabit 2 := ⟨mdX4_putHabit, ir_29 _ (List.mem_of_getElem? (i := 21) (by decide +kernel)), ir_29 _ (List.mem_of_getElem? (i := 22) (by decide +kernel)), ir_29 _ (List.mem_of_getElem? (i := 23) (by decide +kernel))⟩
theorem lkL_63 : LkV RL 63 mX11_costs 1 := ⟨mdX11_costs, ir_30 _ (List.mem_of_getElem? (i := 1) (by decide +kernel)), ir_30 _ (List.mem_of_getElem? (i := 2) (by decide +kernel)), ir_30 _ (List.mem_of_getElem? (i := 3) (by decide +kernel))⟩
theorem cnX11_260 : Cond.constant RX11 260 (10000000) ∈ wsL_law := ir_30 _ (List.mem_of_getElem? (i := 5) (by decide +kernel))
theorem lkL_64 : LkV RL 64 mX10_clock 1 := ⟨mdX10_clock, ir_30 _ (List.mem_of_getElem? (i := 6) (by decide +kernel)), ir_30 _ (List.mem_of_getElem? (i := 7) (by decide +kernel)), ir_30 _ (List.mem_of_getElem? (i := 8) (by decide +kernel))⟩
theorem lkX10_202 : LkV RX10 202 mX0_find 3 := ⟨mdX0_find, ir_30 _ (List.mem_of_getElem? (i := 10) (by decide +kernel)), ir_30 _ (List.mem_of_getElem? (i := 11) (by decide +kernel)), ir_30 _ (List.mem_of_getElem? (i := 12) (by decide +kernel))⟩
theorem glX0_34 : Gl RX0 34 0 4 := ⟨_, _, _, _, kc_0, by decide, ir_30 _ (List.mem_of_getElem? (i := 14) (by decide +kernel))⟩
theorem plX0_34 : Pl RX0 34 0 4 .int := ⟨_, _, _, _, kc_0, by decide, ir_30 _ (List.mem_of_getElem? (i := 14) (by decide +kernel)), rfl, by decide +kernel⟩
theorem lkX0_15 : LkV RX0 15 mX4_takeFrom 1 := ⟨mdX4_takeFrom, ir_30 _ (List.mem_of_getElem? (i := 15) (by decide +kernel)), ir_22 _ (List.mem_of_getElem? (i := 17) (by decide +kernel)), ir_22 _ (List.mem_of_getElem? (i := 18) (by decide +kernel))⟩
theorem lkX0_21 : LkV RX0 21 mX4_putAllByGlass 0 := ⟨mdX4_putAllByGlass, ir_30 _ (List.mem_of_getElem? (i := 16) (by decide +kernel)), ir_30 _ (List.mem_of_getElem? (i := 17) (by decide +kernel)), ir_30 _ (List.mem_of_getElem? (i := 18) (by decide +kernel))⟩
theorem lkX0_24 : LkV RX0 24 mX1_run 2 := ⟨mdX1_run, ir_30 _ (List.mem_of_getElem? (i := 20) (by decide +kernel)), ir_24 _ (List.mem_of_getElem? (i := 5) (by decide +kernel)), ir_24 _ (List.mem_of_getElem? (i := 6) (by decide +kernel))⟩
theorem lkX0_30 : LkV RX0 30 mX1_nightOfAll 1 := ⟨mdX1_nightOfAll, ir_30 _ (List.mem_of_getElem? (i := 21) (by decide +kernel)), ir_28 _ (List.mem_of_getElem? (i := 4) (by decide +kernel)), ir_28 _ (List.mem_of_getElem? (i := 5) (by decide +kernel))⟩
theorem lkX0_42 : LkV RX0 42 mX4_putAllByClock 1 := ⟨mdX4_putAllByClock, ir_30 _ (List.mem_of_getElem? (i := 22) (by decide +kernel)), ir_30 _ (List.mem_of_getElem? (i := 23) (by decide +kernel)), ir_31 _ (List.mem_of_getElem? (i := 0) (by decide +kernel))⟩
theorem lkX0_46 : LkV RX0 46 mX0_keepBetter 3 := ⟨mdX0_keepBetter, ir_31 _ (List.mem_of_getElem? (i := 2) (by decide +kernel)), ir_31 _ (List.mem_of_getElem? (i := 3) (by decide +kernel)), ir_31 _ (List.mem_of_getElem? (i := 4) (by decide +kernel))⟩
theorem glX0_50 : Gl RX0 50 0 3 := ⟨_, _, _, _, kc_0, by decide, ir_31 _ (List.mem_of_getElem? (i := 6) (by decide +kernel))⟩
theorem plX0_50 : Pl RX0 50 0 3 .int := ⟨_, _, _, _, kc_0, by decide, ir_31 _ (List.mem_of_getElem? (i := 6) (by decide +kernel)), rfl, by decide +kernel⟩
theorem glX0_52 : Gl RX0 52 0 1 := ⟨_, _, _, _, kc_0, by decide, ir_31 _ (List.mem_of_getElem? (i := 7) (by decide +kernel))⟩
theorem plX0_52 : Pl RX0 52 0 1 .int := ⟨_, _, _, _, kc_0, by decide, ir_31 _ (List.mem_of_getElem? (i := 7) (by decide +kernel)), rfl, by decide +kernel⟩
theorem glX0_55 : Gl RX0 55 0 2 := ⟨_, _, _, _, kc_0, by decide, ir_31 _ (List.mem_of_getElem? (i := 8) (by decide +kernel))⟩
theorem plX0_55 : Pl RX0 55 0 2 .int := ⟨_, _, _, _, kc_0, by decide, ir_31 _ (List.mem_of_getElem? (i := 8) (by decide +kernel)), rfl, by decide +kernel⟩
theorem lkX10_206 : LkV RX10 206 mX0_from 0 := ⟨mdX0_from, ir_31 _ (List.mem_of_getElem? (i := 9) (by decide +kernel)), ir_31 _ (List.mem_of_getElem? (i := 10) (by decide +kernel)), ir_31 _ (List.mem_of_getElem? (i := 11) (by decide +kernel))⟩
theorem lkX10_209 : LkV RX10 209 mX0_to 0 := ⟨mdX0_to, ir_31 _ (List.mem_of_getElem? (i := 13) (by decide +kernel)), ir_31 _ (List.mem_of_getElem? (i := 14) (by decide +kernel)), ir_31 _ (List.mem_of_getElem? (i := 15) (by decide +kernel))⟩
theorem lkX10_212 : LkV RX10 212 mX0_nightOfAll 0 := ⟨mdX0_nightOfAll, ir_31 _ (List.mem_of_getElem? (i := 17) (by decide +kernel)), ir_31 _ (List.mem_of_getElem? (i := 18) (by decide +kernel)), ir_31 _ (List.mem_of_getElem? (i := 19) (by decide +kernel))⟩
theorem lkX10_214 : LkV RX10 214 mX0_near 0 := ⟨mdX0_near, ir_31 _ (List.mem_of_getElem? (i := 21) (by decide +kernel)), ir_31 _ (List.mem_of_getElem? (i := 22) (by decide +kernel)), ir_31 _ (List.mem_of_getElem? (i := 23) (by decide +kernel))⟩
theorem lkL_67 : LkV RL 67 mX11_clock 1 := ⟨mdX11_clock, ir_32 _ (List.mem_of_getElem? (i := 1) (by decide +kernel)), ir_32 _ (List.mem_of_getElem? (i := 2) (by decide +kernel)), ir_32 _ (List.mem_of_getElem? (i := 3) (by decide +kernel))⟩
theorem lkX11_261 : LkV RX11 261 mX11_nightByClock 2 := ⟨mdX11_nightByClock, ir_32 _ (List.mem_of_getElem? (i := 5) (by decide +kernel)), ir_32 _ (List.mem_of_getElem? (i := 6) (by decide +kernel)), ir_32 _ (List.mem_of_getElem? (i := 7) (by decide +kernel))⟩
theorem lkX11_264 : LkV RX11 264 mX11_nightByGlass 0 := ⟨mdX11_nightByGlass, ir_32 _ (List.mem_of_getElem? (i := 9) (by decide +kernel)), ir_32 _ (List.mem_of_getElem? (i := 10) (by decide +kernel)), ir_32 _ (List.mem_of_getElem? (i := 11) (by decide +kernel))⟩
theorem lkL_68 : LkV RL 68 mX10_work 4 := ⟨mdX10_work, ir_32 _ (List.mem_of_getElem? (i := 13) (by decide +kernel)), ir_32 _ (List.mem_of_getElem? (i := 14) (by decide +kernel)), ir_32 _ (List.mem_of_getElem? (i := 15) (by decide +kernel))⟩
theorem lkX10_217 : LkV RX10 217 mX9_isFull 0 := ⟨mdX9_isFull, ir_32 _ (List.mem_of_getElem? (i := 17) (by decide +kernel)), ir_32 _ (List.mem_of_getElem? (i := 18) (by decide +kernel)), ir_32 _ (List.mem_of_getElem? (i := 19) (by decide +kernel))⟩
theorem lkX10_221 : LkV RX10 221 mX9_add 4 := ⟨mdX9_add, ir_32 _ (List.mem_of_getElem? (i := 21) (by decide +kernel)), ir_32 _ (List.mem_of_getElem? (i := 22) (by decide +kernel)), ir_32 _ (List.mem_of_getElem? (i := 23) (by decide +kernel))⟩
theorem lkX9_28 : LkV RX9 28 mX9_isFull 0 := ⟨mdX9_isFull, ir_33 _ (List.mem_of_getElem? (i := 1) (by decide +kernel)), ir_32 _ (List.mem_of_getElem? (i := 18) (by decide +kernel)), ir_32 _ (List.mem_of_getElem? (i := 19) (by decide +kernel))⟩
theorem lkL_72 : LkV RL 72 mX11_work 4 := ⟨mdX11_work, ir_33 _ (List.mem_of_getElem? (i := 2) (by decide +kernel)), ir_33 _ (List.mem_of_getElem? (i := 3) (by decide +kernel)), ir_33 _ (List.mem_of_getElem? (i := 4) (by decide +kernel))⟩
theorem lkL_73 : LkV RL 73 mX10_works 2 := ⟨mdX10_works, ir_33 _ (List.mem_of_getElem? (i := 6) (by decide +kernel)), ir_33 _ (List.mem_of_getElem? (i := 7) (by decide +kernel)), ir_33 _ (List.mem_of_getElem? (i := 8) (by decide +kernel))⟩
theorem lkX10_224 : LkV RX10 224 mX9_findFor 4 := ⟨mdX9_findFor, ir_33 _ (List.mem_of_getElem? (i := 10) (by decide +kernel)), ir_33 _ (List.mem_of_getElem? (i := 11) (by decide +kernel)), ir_33 _ (List.mem_of_getElem? (i := 12) (by decide +kernel))⟩
theorem glX9_59 : Gl RX9 59 9 6 := ⟨_, _, _, _, kc_9, by decide, ir_33 _ (List.mem_of_getElem? (i := 14) (by decide +kernel))⟩
theorem plX9_59 : Pl RX9 59 9 6 .int := ⟨_, _, _, _, kc_9, by decide, ir_33 _ (List.mem_of_getElem? (i := 14) (by decide +kernel)), rfl, by decide +kernel⟩
theorem glX9_62 : Gl RX9 62 9 5 := ⟨_, _, _, _, kc_9, by decide, ir_33 _ (List.mem_of_getElem? (i := 15) (by decide +kernel))⟩
theorem plX9_62 : Pl RX9 62 9 5 .int := ⟨_, _, _, _, kc_9, by decide, ir_33 _ (List.mem_of_getElem? (i := 15) (by decide +kernel)), rfl, by decide +kernel⟩
theorem lkX9_32 : LkV RX9 32 mX4_takeFrom 1 := ⟨mdX4_takeFrom, ir_33 _ (List.mem_of_getElem? (i := 16) (by decide +kernel)), ir_22 _ (List.mem_of_getElem? (i := 17) (by decide +kernel)), ir_22 _ (List.mem_of_getElem? (i := 18) (by decide +kernel))⟩
theorem lkX9_38 : LkV RX9 38 mX9_costOf 1 := ⟨mdX9_costOf, ir_33 _ (List.mem_of_getElem? (i := 17) (by decide +kernel)), ir_33 _ (List.mem_of_getElem? (i := 18) (by decide +kernel)), ir_33 _ (List.mem_of_getElem? (i := 19) (by decide +kernel))⟩
theorem lkX9_42 : LkV RX9 42 mX4_takeAllWorksOff 1 := ⟨mdX4_takeAllWorksOff, ir_33 _ (List.mem_of_getElem? (i := 21) (by decide +kernel)), ir_33 _ (List.mem_of_getElem? (i := 22) (by decide +kernel)), ir_33 _ (List.mem_of_getElem? (i := 23) (by decide +kernel))⟩
theorem lkX9_45 : LkV RX9 45 mX9_put 2 := ⟨mdX9_put, ir_34 _ (List.mem_of_getElem? (i := 1) (by decide +kernel)), ir_34 _ (List.mem_of_getElem? (i := 2) (by decide +kernel)), ir_34 _ (List.mem_of_getElem? (i := 3) (by decide +kernel))⟩
theorem lkX9_69 : LkV RX9 69 mX4_putWork 3 := ⟨mdX4_putWork, ir_34 _ (List.mem_of_getElem? (i := 5) (by decide +kernel)), ir_34 _ (List.mem_of_getElem? (i := 6) (by decide +kernel)), ir_34 _ (List.mem_of_getElem? (i := 7) (by decide +kernel))⟩
theorem mlX4_65 : Cond.methodLink RX4 65 Lib.Math.max.name ∈ wsL_law := ir_34 _ (List.mem_of_getElem? (i := 9) (by decide +kernel))
theorem lkX9_49 : LkV RX9 49 mX1_run 2 := ⟨mdX1_run, ir_34 _ (List.mem_of_getElem? (i := 10) (by decide +kernel)), ir_24 _ (List.mem_of_getElem? (i := 5) (by decide +kernel)), ir_24 _ (List.mem_of_getElem? (i := 6) (by decide +kernel))⟩
theorem lkX9_55 : LkV RX9 55 mX1_nightOfAll 1 := ⟨mdX1_nightOfAll, ir_34 _ (List.mem_of_getElem? (i := 11) (by decide +kernel)), ir_28 _ (List.mem_of_getElem? (i := 4) (by decide +kernel)), ir_28 _ (List.mem_of_getElem? (i := 5) (by decide +kernel))⟩
theorem lkX10_228 : LkV RX10 228 mX9_bestSet 0 := ⟨mdX9_bestSet, ir_34 _ (List.mem_of_getElem? (i := 12) (by decide +kernel)), ir_34 _ (List.mem_of_getElem? (i := 13) (by decide +kernel)), ir_34 _ (List.mem_of_getElem? (i := 14) (by decide +kernel))⟩
theorem lkX10_231 : LkV RX10 231 mX9_bestNight 0 := ⟨mdX9_bestNight, ir_34 _ (List.mem_of_getElem? (i := 16) (by decide +kernel)), ir_34 _ (List.mem_of_getElem? (i := 17) (by decide +kernel)), ir_34 _ (List.mem_of_getElem? (i := 18) (by decide +kernel))⟩
theorem lkL_76 : LkV RL 76 mX11_works 2 := ⟨mdX11_works, ir_34 _ (List.mem_of_getElem? (i := 20) (by decide +kernel)), ir_34 _ (List.mem_of_getElem? (i := 21) (by decide +kernel)), ir_34 _ (List.mem_of_getElem? (i := 22) (by decide +kernel))⟩
theorem lkX11_267 : LkV RX11 267 mX11_costOf 1 := ⟨mdX11_costOf, ir_35 _ (List.mem_of_getElem? (i := 0) (by decide +kernel)), ir_35 _ (List.mem_of_getElem? (i := 1) (by decide +kernel)), ir_35 _ (List.mem_of_getElem? (i := 2) (by decide +kernel))⟩
theorem lkL_77 : LkV RL 77 mX10_read 3 := ⟨mdX10_read, ir_35 _ (List.mem_of_getElem? (i := 4) (by decide +kernel)), ir_35 _ (List.mem_of_getElem? (i := 5) (by decide +kernel)), ir_35 _ (List.mem_of_getElem? (i := 6) (by decide +kernel))⟩
theorem lkX10_234 : LkV RX10 234 mX2_isFull 0 := ⟨mdX2_isFull, ir_35 _ (List.mem_of_getElem? (i := 8) (by decide +kernel)), ir_35 _ (List.mem_of_getElem? (i := 9) (by decide +kernel)), ir_35 _ (List.mem_of_getElem? (i := 10) (by decide +kernel))⟩
theorem lkX10_235 : LkV RX10 235 mX2_add 3 := ⟨mdX2_add, ir_35 _ (List.mem_of_getElem? (i := 12) (by decide +kernel)), ir_35 _ (List.mem_of_getElem? (i := 13) (by decide +kernel)), ir_35 _ (List.mem_of_getElem? (i := 14) (by decide +kernel))⟩
theorem lkX2_28 : LkV RX2 28 mX2_isFull 0 := ⟨mdX2_isFull, ir_35 _ (List.mem_of_getElem? (i := 16) (by decide +kernel)), ir_35 _ (List.mem_of_getElem? (i := 9) (by decide +kernel)), ir_35 _ (List.mem_of_getElem? (i := 10) (by decide +kernel))⟩
theorem lkL_80 : LkV RL 80 mX11_read 3 := ⟨mdX11_read, ir_35 _ (List.mem_of_getElem? (i := 17) (by decide +kernel)), ir_35 _ (List.mem_of_getElem? (i := 18) (by decide +kernel)), ir_35 _ (List.mem_of_getElem? (i := 19) (by decide +kernel))⟩
theorem glX11_270 : Gl RX11 270 11 40 := ⟨_, _, _, _, kc_11, by decide, ir_35 _ (List.mem_of_getElem? (i := 21) (by decide +kernel))⟩
theorem plX11_270 : Pl RX11 270 11 40 .int := ⟨_, _, _, _, kc_11, by decide, ir_35 _ (List.mem_of_getElem? (i := 21) (by decide +kernel)), rfl, by decide +kernel⟩
theorem lkL_81 : LkV RL 81 mX10_learnt 2 := ⟨mdX10_learnt, ir_35 _ (List.mem_of_getElem? (i := 22) (by decide +kernel)), ir_35 _ (List.mem_of_getElem? (i := 23) (by decide +kernel)), ir_36 _ (List.mem_of_getElem? (i := 0) (by decide +kernel))⟩
theorem lkX10_238 : LkV RX10 238 mX2_learn 4 := ⟨mdX2_learn, ir_36 _ (List.mem_of_getElem? (i := 2) (by decide +kernel)), ir_36 _ (List.mem_of_getElem? (i := 3) (by decide +kernel)), ir_36 _ (List.mem_of_getElem? (i := 4) (by decide +kernel))⟩
theorem lkX2_32 : LkV RX2 32 mX4_takeFrom 1 := ⟨mdX4_takeFrom, ir_36 _ (List.mem_of_getElem? (i := 6) (by decide +kernel)), ir_22 _ (List.mem_of_getElem? (i := 17) (by decide +kernel)), ir_22 _ (List.mem_of_getElem? (i := 18) (by decide +kernel))⟩
theorem lkX2_38 : LkV RX2 38 mX4_putLaw 2 := ⟨mdX4_putLaw, ir_36 _ (List.mem_of_getElem? (i := 7) (by decide +kernel)), ir_24 _ (List.mem_of_getElem? (i := 1) (by decide +kernel)), ir_24 _ (List.mem_of_getElem? (i := 2) (by decide +kernel))⟩
theorem lkX2_42 : LkV RX2 42 mX1_run 2 := ⟨mdX1_run, ir_36 _ (List.mem_of_getElem? (i := 8) (by decide +kernel)), ir_24 _ (List.mem_of_getElem? (i := 5) (by decide +kernel)), ir_24 _ (List.mem_of_getElem? (i := 6) (by decide +kernel))⟩
theorem lkX2_48 : LkV RX2 48 mX2_allHold 3 := ⟨mdX2_allHold, ir_36 _ (List.mem_of_getElem? (i := 9) (by decide +kernel)), ir_36 _ (List.mem_of_getElem? (i := 10) (by decide +kernel)), ir_36 _ (List.mem_of_getElem? (i := 11) (by decide +kernel))⟩
theorem mlX2_65 : Cond.methodLink RX2 65 Lib.Math.abs.name ∈ wsL_law := ir_36 _ (List.mem_of_getElem? (i := 13) (by decide +kernel))
theorem lkX2_55 : LkV RX2 55 mX3_isTold 1 := ⟨mdX3_isTold, ir_36 _ (List.mem_of_getElem? (i := 16) (by decide +kernel)), ir_19 _ (List.mem_of_getElem? (i := 4) (by decide +kernel)), ir_19 _ (List.mem_of_getElem? (i := 5) (by decide +kernel))⟩
theorem lkX2_61 : LkV RX2 61 mX1_airBehind 2 := ⟨mdX1_airBehind, ir_36 _ (List.mem_of_getElem? (i := 17) (by decide +kernel)), ir_26 _ (List.mem_of_getElem? (i := 6) (by decide +kernel)), ir_26 _ (List.mem_of_getElem? (i := 7) (by decide +kernel))⟩
theorem lkX2_52 : LkV RX2 52 mX2_keep 2 := ⟨mdX2_keep, ir_36 _ (List.mem_of_getElem? (i := 18) (by decide +kernel)), ir_36 _ (List.mem_of_getElem? (i := 19) (by decide +kernel)), ir_36 _ (List.mem_of_getElem? (i := 20) (by decide +kernel))⟩
theorem glX2_71 : Gl RX2 71 2 5 := ⟨_, _, _, _, kc_2, by decide, ir_36 _ (List.mem_of_getElem? (i := 22) (by decide +kernel))⟩
theorem plX2_71 : Pl RX2 71 2 5 .int := ⟨_, _, _, _, kc_2, by decide, ir_36 _ (List.mem_of_getElem? (i := 22) (by decide +kernel)), rfl, by decide +kernel⟩
theorem mlX2_74 : Cond.methodLink RX2 74 Lib.Math.min.name ∈ wsL_law := ir_36 _ (List.mem_of_getElem? (i := 23) (by decide +kernel))
theorem glX2_77 : Gl RX2 77 2 6 := ⟨_, _, _, _, kc_2, by decide, ir_37 _ (List.mem_of_getElem? (i := 2) (by decide +kernel))⟩
theorem plX2_77 : Pl RX2 77 2 6 .int := ⟨_, _, _, _, kc_2, by decide, ir_37 _ (List.mem_of_getElem? (i := 2) (by decide +kernel)), rfl, by decide +kernel⟩
theorem mlX2_80 : Cond.methodLink RX2 80 Lib.Math.max.name ∈ wsL_law := ir_37 _ (List.mem_of_getElem? (i := 3) (by decide +kernel))
theorem glX2_83 : Gl RX2 83 2 7 := ⟨_, _, _, _, kc_2, by decide, ir_37 _ (List.mem_of_getElem? (i := 4) (by decide +kernel))⟩
theorem plX2_83 : Pl RX2 83 2 7 .int := ⟨_, _, _, _, kc_2, by decide, ir_37 _ (List.mem_of_getElem? (i := 4) (by decide +kernel)), rfl, by decide +kernel⟩
theorem glX2_86 : Gl RX2 86 2 8 := ⟨_, _, _, _, kc_2, by decide, ir_37 _ (List.mem_of_getElem? (i := 5) (by decide +kernel))⟩
theorem plX2_86 : Pl RX2 86 2 8 .int := ⟨_, _, _, _, kc_2, by decide, ir_37 _ (List.mem_of_getElem? (i := 5) (by decide +kernel)), rfl, by decide +kernel⟩
theorem lkX10_241 : LkV RX10 241 mX2_laws 0 := ⟨mdX2_laws, ir_37 _ (List.mem_of_getElem? (i := 6) (by decide +kernel)), ir_37 _ (List.mem_of_getElem? (i := 7) (by decide +kernel)), ir_37 _ (List.mem_of_getElem? (i := 8) (by decide +kernel))⟩
theorem lkX10_244 : LkV RX10 244 mX2_bound 1 := ⟨mdX2_bound, ir_37 _ (List.mem_of_getElem? (i := 10) (by decide +kernel)), ir_37 _ (List.mem_of_getElem? (i := 11) (by decide +kernel)), ir_37 _ (List.mem_of_getElem? (i := 12) (by decide +kernel))⟩
theorem lkL_84 : LkV RL 84 mX11_learnt 2 := ⟨mdX11_learnt, ir_37 _ (List.mem_of_getElem? (i := 14) (by decide +kernel)), ir_37 _ (List.mem_of_getElem? (i := 15) (by decide +kernel)), ir_37 _ (List.mem_of_getElem? (i := 16) (by decide +kernel))⟩
theorem lkX11_273 : LkV RX11 273 mX11_doHold 1 := ⟨mdX11_doHold, ir_37 _ (List.mem_of_getElem? (i := 18) (by decide +kernel)), ir_37 _ (List.mem_of_getElem? (i := 19) (by decide +kernel)), ir_37 _ (List.mem_of_getElem? (i := 20) (by decide +kernel))⟩
theorem lkL_85 : LkV RL 85 mX10_flat 3 := ⟨mdX10_flat, ir_37 _ (List.mem_of_getElem? (i := 22) (by decide +kernel)), ir_37 _ (List.mem_of_getElem? (i := 23) (by decide +kernel)), ir_38 _ (List.mem_of_getElem? (i := 0) (by decide +kernel))⟩
theorem lkX10_247 : LkV RX10 247 mX6_tell 3 := ⟨mdX6_tell, ir_38 _ (List.mem_of_getElem? (i := 2) (by decide +kernel)), ir_38 _ (List.mem_of_getElem? (i := 3) (by decide +kernel)), ir_38 _ (List.mem_of_getElem? (i := 4) (by decide +kernel))⟩
theorem lkL_88 : LkV RL 88 mX11_flat 3 := ⟨mdX11_flat, ir_38 _ (List.mem_of_getElem? (i := 6) (by decide +kernel)), ir_38 _ (List.mem_of_getElem? (i := 7) (by decide +kernel)), ir_38 _ (List.mem_of_getElem? (i := 8) (by decide +kernel))⟩
theorem lkL_89 : LkV RL 89 mX10_ring 1 := ⟨mdX10_ring, ir_38 _ (List.mem_of_getElem? (i := 10) (by decide +kernel)), ir_38 _ (List.mem_of_getElem? (i := 11) (by decide +kernel)), ir_38 _ (List.mem_of_getElem? (i := 12) (by decide +kernel))⟩
theorem lkX10_250 : LkV RX10 250 mX6_weigh 0 := ⟨mdX6_weigh, ir_38 _ (List.mem_of_getElem? (i := 14) (by decide +kernel)), ir_38 _ (List.mem_of_getElem? (i := 15) (by decide +kernel)), ir_38 _ (List.mem_of_getElem? (i := 16) (by decide +kernel))⟩
theorem lkX6_21 : LkV RX6 21 mX6_toldSet 0 := ⟨mdX6_toldSet, ir_38 _ (List.mem_of_getElem? (i := 18) (by decide +kernel)), ir_38 _ (List.mem_of_getElem? (i := 19) (by decide +kernel)), ir_38 _ (List.mem_of_getElem? (i := 20) (by decide +kernel))⟩
theorem lkX6_31 : LkV RX6 31 mX6_firstOf 2 := ⟨mdX6_firstOf, ir_38 _ (List.mem_of_getElem? (i := 22) (by decide +kernel)), ir_38 _ (List.mem_of_getElem? (i := 23) (by decide +kernel)), ir_39 _ (List.mem_of_getElem? (i := 0) (by decide +kernel))⟩
theorem lkX6_35 : LkV RX6 35 mX6_lostBy 3 := ⟨mdX6_lostBy, ir_39 _ (List.mem_of_getElem? (i := 2) (by decide +kernel)), ir_39 _ (List.mem_of_getElem? (i := 3) (by decide +kernel)), ir_39 _ (List.mem_of_getElem? (i := 4) (by decide +kernel))⟩
theorem lkX6_25 : LkS RX6 25 mJ6_bitCount_0f7a4 1 := ⟨mdJ6_bitCount_0f7a4, ir_39 _ (List.mem_of_getElem? (i := 6) (by decide +kernel)), ir_39 _ (List.mem_of_getElem? (i := 7) (by decide +kernel))⟩
theorem cnJ6_265 : Cond.constant RJ6 265 (1431655765) ∈ wsL_law := ir_39 _ (List.mem_of_getElem? (i := 10) (by decide +kernel))
theorem cnJ6_266 : Cond.constant RJ6 266 (858993459) ∈ wsL_law := ir_39 _ (List.mem_of_getElem? (i := 11) (by decide +kernel))
theorem cnJ6_267 : Cond.constant RJ6 267 (252645135) ∈ wsL_law := ir_39 _ (List.mem_of_getElem? (i := 12) (by decide +kernel))
theorem lkX10_253 : LkV RX10 253 mX6_lost 0 := ⟨mdX6_lost, ir_39 _ (List.mem_of_getElem? (i := 13) (by decide +kernel)), ir_39 _ (List.mem_of_getElem? (i := 14) (by decide +kernel)), ir_39 _ (List.mem_of_getElem? (i := 15) (by decide +kernel))⟩
theorem lkX10_256 : LkV RX10 256 mX6_flatAt 1 := ⟨mdX6_flatAt, ir_39 _ (List.mem_of_getElem? (i := 17) (by decide +kernel)), ir_39 _ (List.mem_of_getElem? (i := 18) (by decide +kernel)), ir_39 _ (List.mem_of_getElem? (i := 19) (by decide +kernel))⟩
theorem lkL_92 : LkV RL 92 mX11_ring 1 := ⟨mdX11_ring, ir_39 _ (List.mem_of_getElem? (i := 21) (by decide +kernel)), ir_39 _ (List.mem_of_getElem? (i := 22) (by decide +kernel)), ir_39 _ (List.mem_of_getElem? (i := 23) (by decide +kernel))⟩
theorem lkX11_282 : LkV RX11 282 mX11_toldFlats 0 := ⟨mdX11_toldFlats, ir_40 _ (List.mem_of_getElem? (i := 1) (by decide +kernel)), ir_40 _ (List.mem_of_getElem? (i := 2) (by decide +kernel)), ir_40 _ (List.mem_of_getElem? (i := 3) (by decide +kernel))⟩
theorem lkX11_285 : LkV RX11 285 mX11_layRest 1 := ⟨mdX11_layRest, ir_40 _ (List.mem_of_getElem? (i := 5) (by decide +kernel)), ir_40 _ (List.mem_of_getElem? (i := 6) (by decide +kernel)), ir_40 _ (List.mem_of_getElem? (i := 7) (by decide +kernel))⟩
theorem lkX11_276 : LkS RX11 276 mX11_bits 1 := ⟨mdX11_bits, ir_40 _ (List.mem_of_getElem? (i := 9) (by decide +kernel)), ir_40 _ (List.mem_of_getElem? (i := 10) (by decide +kernel))⟩
theorem lkX11_279 : LkV RX11 279 mX11_lostBy 2 := ⟨mdX11_lostBy, ir_40 _ (List.mem_of_getElem? (i := 12) (by decide +kernel)), ir_40 _ (List.mem_of_getElem? (i := 13) (by decide +kernel)), ir_40 _ (List.mem_of_getElem? (i := 14) (by decide +kernel))⟩
theorem lkL_93 : LkV RL 93 mX10_street 5 := ⟨mdX10_street, ir_40 _ (List.mem_of_getElem? (i := 16) (by decide +kernel)), ir_40 _ (List.mem_of_getElem? (i := 17) (by decide +kernel)), ir_40 _ (List.mem_of_getElem? (i := 18) (by decide +kernel))⟩
theorem cnX10_269 : Cond.constant RX10 269 (100000) ∈ wsL_law := ir_40 _ (List.mem_of_getElem? (i := 20) (by decide +kernel))
theorem lkX10_259 : LkV RX10 259 mX7_look 4 := ⟨mdX7_look, ir_40 _ (List.mem_of_getElem? (i := 21) (by decide +kernel)), ir_40 _ (List.mem_of_getElem? (i := 22) (by decide +kernel)), ir_40 _ (List.mem_of_getElem? (i := 23) (by decide +kernel))⟩
theorem glX7_15 : Gl RX7 15 7 1 := ⟨_, _, _, _, kc_7, by decide, ir_41 _ (List.mem_of_getElem? (i := 1) (by decide +kernel))⟩
theorem plX7_15 : Pl RX7 15 7 1 .int := ⟨_, _, _, _, kc_7, by decide, ir_41 _ (List.mem_of_getElem? (i := 1) (by decide +kernel)), rfl, by decide +kernel⟩
theorem glX7_18 : Gl RX7 18 7 2 := ⟨_, _, _, _, kc_7, by decide, ir_41 _ (List.mem_of_getElem? (i := 2) (by decide +kernel))⟩
theorem plX7_18 : Pl RX7 18 7 2 .int := ⟨_, _, _, _, kc_7, by decide, ir_41 _ (List.mem_of_getElem? (i := 2) (by decide +kernel)), rfl, by decide +kernel⟩
theorem glX7_21 : Gl RX7 21 7 3 := ⟨_, _, _, _, kc_7, by decide, ir_41 _ (List.mem_of_getElem? (i := 3) (by decide +kernel))⟩
theorem plX7_21 : Pl RX7 21 7 3 .int := ⟨_, _, _, _, kc_7, by decide, ir_41 _ (List.mem_of_getElem? (i := 3) (by decide +kernel)), rfl, by decide +kernel⟩
theorem glX7_24 : Gl RX7 24 7 4 := ⟨_, _, _, _, kc_7, by decide, ir_41 _ (List.mem_of_getElem? (i := 4) (by decide +kernel))⟩
theorem plX7_24 : Pl RX7 24 7 4 .int := ⟨_, _, _, _, kc_7, by decide, ir_41 _ (List.mem_of_getElem? (i := 4) (by decide +kernel)), rfl, by decide +kernel⟩
theorem glX7_27 : Gl RX7 27 7 5 := ⟨_, _, _, _, kc_7, by decide, ir_41 _ (List.mem_of_getElem? (i := 5) (by decide +kernel))⟩
theorem plX7_27 : Pl RX7 27 7 5 .int := ⟨_, _, _, _, kc_7, by decide, ir_41 _ (List.mem_of_getElem? (i := 5) (by decide +kernel)), rfl, by decide +kernel⟩
theorem glX7_34 : Gl RX7 34 7 7 := ⟨_, _, _, _, kc_7, by decide, ir_41 _ (List.mem_of_getElem? (i := 6) (by decide +kernel))⟩
theorem plX7_34 : Pl RX7 34 7 7 .int := ⟨_, _, _, _, kc_7, by decide, ir_41 _ (List.mem_of_getElem? (i := 6) (by decide +kernel)), rfl, by decide +kernel⟩
theorem lkX7_30 : LkV RX7 30 mX7_allHave 1 := ⟨mdX7_allHave, ir_41 _ (List.mem_of_getElem? (i := 7) (by decide +kernel)), ir_41 _ (List.mem_of_getElem? (i := 8) (by decide +kernel)), ir_41 _ (List.mem_of_getElem? (i := 9) (by decide +kernel))⟩
theorem lkX7_52 : LkV RX7 52 mX7_has 3 := ⟨mdX7_has, ir_41 _ (List.mem_of_getElem? (i := 11) (by decide +kernel)), ir_41 _ (List.mem_of_getElem? (i := 12) (by decide +kernel)), ir_41 _ (List.mem_of_getElem? (i := 13) (by decide +kernel))⟩
theorem lkX7_37 : LkV RX7 37 mX7_isRest 1 := ⟨mdX7_isRest, ir_41 _ (List.mem_of_getElem? (i := 15) (by decide +kernel)), ir_41 _ (List.mem_of_getElem? (i := 16) (by decide +kernel)), ir_41 _ (List.mem_of_getElem? (i := 17) (by decide +kernel))⟩
theorem lkX7_41 : LkV RX7 41 mX7_keepRest 2 := ⟨mdX7_keepRest, ir_41 _ (List.mem_of_getElem? (i := 19) (by decide +kernel)), ir_41 _ (List.mem_of_getElem? (i := 20) (by decide +kernel)), ir_41 _ (List.mem_of_getElem? (i := 21) (by decide +kernel))⟩
theorem glX7_45 : Gl RX7 45 7 6 := ⟨_, _, _, _, kc_7, by decide, ir_41 _ (List.mem_of_getElem? (i := 23) (by decide +kernel))⟩
theorem plX7_45 : Pl RX7 45 7 6 .int := ⟨_, _, _, _, kc_7, by decide, ir_41 _ (List.mem_of_getElem? (i := 23) (by decide +kernel)), rfl, by decide +kernel⟩
theorem lkX10_263 : LkV RX10 263 mX7_rests 0 := ⟨mdX7_rests, ir_42 _ (List.mem_of_getElem? (i := 0) (by decide +kernel)), ir_42 _ (List.mem_of_getElem? (i := 1) (by decide +kernel)), ir_42 _ (List.mem_of_getElem? (i := 2) (by decide +kernel))⟩
theorem lkX10_266 : LkV RX10 266 mX7_bestRest 0 := ⟨mdX7_bestRest, ir_42 _ (List.mem_of_getElem? (i := 4) (by decide +kernel)), ir_42 _ (List.mem_of_getElem? (i := 5) (by decide +kernel)), ir_42 _ (List.mem_of_getElem? (i := 6) (by decide +kernel))⟩
theorem lkX10_270 : LkV RX10 270 mX7_mostByRest 0 := ⟨mdX7_mostByRest, ir_42 _ (List.mem_of_getElem? (i := 8) (by decide +kernel)), ir_42 _ (List.mem_of_getElem? (i := 9) (by decide +kernel)), ir_42 _ (List.mem_of_getElem? (i := 10) (by decide +kernel))⟩
theorem lkX10_273 : LkV RX10 273 mX7_mostByAny 0 := ⟨mdX7_mostByAny, ir_42 _ (List.mem_of_getElem? (i := 12) (by decide +kernel)), ir_42 _ (List.mem_of_getElem? (i := 13) (by decide +kernel)), ir_42 _ (List.mem_of_getElem? (i := 14) (by decide +kernel))⟩
theorem lkL_97 : LkV RL 97 mX11_street 5 := ⟨mdX11_street, ir_42 _ (List.mem_of_getElem? (i := 16) (by decide +kernel)), ir_42 _ (List.mem_of_getElem? (i := 17) (by decide +kernel)), ir_42 _ (List.mem_of_getElem? (i := 18) (by decide +kernel))⟩
theorem cnX11_292 : Cond.constant RX11 292 (100000) ∈ wsL_law := ir_42 _ (List.mem_of_getElem? (i := 20) (by decide +kernel))
theorem lkX11_288 : LkS RX11 288 mX11_hasBy 6 := ⟨mdX11_hasBy, ir_42 _ (List.mem_of_getElem? (i := 21) (by decide +kernel)), ir_42 _ (List.mem_of_getElem? (i := 22) (by decide +kernel))⟩
theorem lkL_98 : LkV RL 98 mX10_count 1 := ⟨mdX10_count, ir_43 _ (List.mem_of_getElem? (i := 0) (by decide +kernel)), ir_43 _ (List.mem_of_getElem? (i := 1) (by decide +kernel)), ir_43 _ (List.mem_of_getElem? (i := 2) (by decide +kernel))⟩
theorem lkX10_276 : LkV RX10 276 mX3_toldRooms 0 := ⟨mdX3_toldRooms, ir_43 _ (List.mem_of_getElem? (i := 4) (by decide +kernel)), ir_43 _ (List.mem_of_getElem? (i := 5) (by decide +kernel)), ir_43 _ (List.mem_of_getElem? (i := 6) (by decide +kernel))⟩
theorem lkX10_279 : LkV RX10 279 mX9_size 0 := ⟨mdX9_size, ir_43 _ (List.mem_of_getElem? (i := 8) (by decide +kernel)), ir_43 _ (List.mem_of_getElem? (i := 9) (by decide +kernel)), ir_43 _ (List.mem_of_getElem? (i := 10) (by decide +kernel))⟩
theorem lkX10_282 : LkV RX10 282 mX2_size 0 := ⟨mdX2_size, ir_43 _ (List.mem_of_getElem? (i := 12) (by decide +kernel)), ir_43 _ (List.mem_of_getElem? (i := 13) (by decide +kernel)), ir_43 _ (List.mem_of_getElem? (i := 14) (by decide +kernel))⟩
theorem lkX10_283 : LkV RX10 283 mX6_toldFlats 0 := ⟨mdX6_toldFlats, ir_43 _ (List.mem_of_getElem? (i := 16) (by decide +kernel)), ir_43 _ (List.mem_of_getElem? (i := 17) (by decide +kernel)), ir_43 _ (List.mem_of_getElem? (i := 18) (by decide +kernel))⟩
theorem lkX10_286 : LkV RX10 286 mX3_homeHours 0 := ⟨mdX3_homeHours, ir_43 _ (List.mem_of_getElem? (i := 20) (by decide +kernel)), ir_24 _ (List.mem_of_getElem? (i := 20) (by decide +kernel)), ir_24 _ (List.mem_of_getElem? (i := 21) (by decide +kernel))⟩
theorem lkL_101 : LkV RL 101 mX11_count 1 := ⟨mdX11_count, ir_43 _ (List.mem_of_getElem? (i := 21) (by decide +kernel)), ir_43 _ (List.mem_of_getElem? (i := 22) (by decide +kernel)), ir_43 _ (List.mem_of_getElem? (i := 23) (by decide +kernel))⟩
theorem lkX5_67 : LkN RX5 67 mX10_isWithin 3 := ⟨mdX10_isWithin, ⟨"HotWeek", by decide +kernel⟩, ir_9 _ (List.mem_of_getElem? (i := 6) (by decide +kernel))⟩
theorem lkX3_93 : LkN RX3 93 mX10_hoursFrom 2 := ⟨mdX10_hoursFrom, ⟨"HotWeek", by decide +kernel⟩, ir_18 _ (List.mem_of_getElem? (i := 1) (by decide +kernel))⟩
theorem lkX3_104 : LkN RX3 104 mX10_isWithin 3 := ⟨mdX10_isWithin, ⟨"HotWeek", by decide +kernel⟩, ir_9 _ (List.mem_of_getElem? (i := 6) (by decide +kernel))⟩
theorem lkX3_101 : LkN RX3 101 mX10_hasBit 2 := ⟨mdX10_hasBit, ⟨"HotWeek", by decide +kernel⟩, ir_23 _ (List.mem_of_getElem? (i := 14) (by decide +kernel))⟩
theorem lkX1_48 : LkN RX1 48 mX10_hasBit 2 := ⟨mdX10_hasBit, ⟨"HotWeek", by decide +kernel⟩, ir_23 _ (List.mem_of_getElem? (i := 14) (by decide +kernel))⟩
theorem lkX4_70 : LkN RX4 70 mX10_hasBit 2 := ⟨mdX10_hasBit, ⟨"HotWeek", by decide +kernel⟩, ir_23 _ (List.mem_of_getElem? (i := 14) (by decide +kernel))⟩
theorem lkX0_38 : LkN RX0 38 mX10_hoursFrom 2 := ⟨mdX10_hoursFrom, ⟨"HotWeek", by decide +kernel⟩, ir_18 _ (List.mem_of_getElem? (i := 1) (by decide +kernel))⟩
theorem lkX9_65 : LkN RX9 65 mX10_hasBit 2 := ⟨mdX10_hasBit, ⟨"HotWeek", by decide +kernel⟩, ir_23 _ (List.mem_of_getElem? (i := 14) (by decide +kernel))⟩
theorem lkX6_39 : LkN RX6 39 mX10_hasBit 2 := ⟨mdX10_hasBit, ⟨"HotWeek", by decide +kernel⟩, ir_23 _ (List.mem_of_getElem? (i := 14) (by decide +kernel))⟩
theorem lkX7_48 : LkN RX7 48 mX10_hasBit 2 := ⟨mdX10_hasBit, ⟨"HotWeek", by decide +kernel⟩, ir_23 _ (List.mem_of_getElem? (i := 14) (by decide +kernel))⟩
theorem st_max : Cond.static Lib.Math.max.name ∈ wsL_law := ir_29 _ (List.mem_of_getElem? (i := 9) (by decide +kernel))
theorem st_min : Cond.static Lib.Math.min.name ∈ wsL_law := ir_37 _ (List.mem_of_getElem? (i := 0) (by decide +kernel))
theorem st_abs : Cond.static Lib.Math.abs.name ∈ wsL_law := ir_36 _ (List.mem_of_getElem? (i := 14) (by decide +kernel))
theorem in_math : Cond.initialized "java/lang/Math" ∈ wsL_law := ir_29 _ (List.mem_of_getElem? (i := 10) (by decide +kernel))
theorem co_max : Cond.code Lib.Math.max.name Lib.Math.max.code 2 (some .int) ∈ wsL_law := ir_29 _ (List.mem_of_getElem? (i := 11) (by decide +kernel))
theorem co_abs : Cond.code Lib.Math.abs.name Lib.Math.abs.code 1 (some .int) ∈ wsL_law := ir_36 _ (List.mem_of_getElem? (i := 15) (by decide +kernel))
theorem co_min : Cond.code Lib.Math.min.name Lib.Math.min.code 2 (some .int) ∈ wsL_law := ir_37 _ (List.mem_of_getElem? (i := 1) (by decide +kernel))
