/-! the constructors -/
theorem g_sub {X : gC} {lvs : List (Nat × Value)} {pc kc ks : Nat} {st : List Value} {ws ws' : va_W} (is : List Nat) (hn : va_nd is = true) (h1 : is.filterMap (fun i => ws[i]?) = ws') (h2 : is.map (fun i => ws[i]?) = ws'.map some) (kk : G X lvs pc st ws' kc ks) : G X lvs pc st ws kc ks := fun H locs ls hP hD hS hl => kk H locs ls (hP.sub is h1) (hD.sub is hn h2) hS hl
theorem seg_c {cI cZ cQ : ClassId} {ρ : Nat → Nat} {lo n : Nat} {x : Nat × va_E} {tl : va_W} (lo' n' : Nat) {sh : hSh} (h : hT[lo]? = some sh) (h1 : lo + 1 = lo') (h2 : n = n' + 1) (hx : x = (ρ lo, hE cI cZ cQ ρ hM0 lo sh)) (ht : tl = seg cI cZ cQ ρ lo' n') : x :: tl = seg cI cZ cQ ρ lo n := by
  rw [seg_s lo' n' h h1 h2, hx, ht]
theorem cell_93 {ρ : Nat → Nat} : fvs ρ hM0 93 0 [0, 96, 97, 98, 99, 100, 0, 0, 0, 0, 0, 0, 0, 0, 0, 0, 101, 0, 0, 1, 0, 0, 0, 0, 102, 103, 104, 105, 106, 107, 108, 109, 0, 110, 111, 0, 112, 113, 114, 115, 0, 116, 117, 118, 119, 120, 121, 122] = [.int 0, .ref (ρ 94), .ref (ρ 95), .ref (ρ 96), .ref (ρ 97), .ref (ρ 98), .int (nI 200), .int (nI 320), .int (nI 10), .int (nI 20), .int (nI 20), .int (nI 10), .int (nI 3), .int (nI 40), .int (nI 16777215), .int 0, .ref (ρ 99), .int 0, .int 0, .long (mkL 0 0), .int 0, .int 0, .int 0, .int 0, .ref (ρ 100), .ref (ρ 101), .ref (ρ 102), .ref (ρ 103), .ref (ρ 104), .ref (ρ 105), .ref (ρ 106), .ref (ρ 107), .int 0, .ref (ρ 108), .ref (ρ 109), .int 0, .ref (ρ 110), .ref (ρ 111), .ref (ρ 112), .ref (ρ 113), .int 0, .ref (ρ 114), .ref (ρ 115), .ref (ρ 116), .ref (ρ 117), .ref (ρ 118), .ref (ρ 119), .ref (ρ 120)] := by
  simp only [fvs, fva, cv, Nat.zero_add, Nat.reduceAdd]
  rfl
theorem outer_eq {f : Nat → Option Nat} {r ρ : Nat → Nat} {n b : Nat} (hf : f = fun i => if i < n then some (r i) else none) (h : ∀ i, i < n → r i = ρ (b + i)) : f = fun i => if i < n then some (ρ (b + i)) else none := by
  rw [hf]
  funext i
  by_cases hi : i < n
  · rw [if_pos hi, if_pos hi, h i hi]
  · rw [if_neg hi, if_neg hi]
theorem ffX8_11 : Fl RX8 11 8 0 (.array .int) := ⟨_, _, _, _, kc_8, by decide, ir_3 _ (List.mem_of_getElem? (i := 12) (by decide +kernel)), rfl, rfl, by decide +kernel⟩
set_option maxRecDepth 100000 in
set_option maxHeartbeats 4000000 in
theorem cn_X8 : Cn 1 1 200 yX8_init cX8_init 8 [.null, .int 0] 1 2 := by
  refine cn_of (by decide +kernel) rfl (fun X h0 (h : Og X RX8 cX8_init 1 1 200) hr => ?_)
  refine g_aload0 h 1 rfl dX8_init_0 ?_
  refine g_oi h 4 rfl (ir_3 _ (List.mem_of_getElem? (i := 10) (by decide +kernel))) rfl dX8_init_1 ?_
  refine g_aload0 h 5 rfl dX8_init_4 ?_
  refine g_sipush h 8 rfl (nI 200) (by decide) dX8_init_5 ?_
  refine g_newi h 10 rfl rfl rfl rfl dX8_init_8 (fun q1 => ?_)
  refine g_putR h hr 13 rfl ffX8_11 (fs' := [.ref (q1), .int 0]) rfl rfl rfl rfl dX8_init_10 ?_
  refine g_aload0 h 14 rfl dX8_init_13 ?_
  refine g_iconst h 15 rfl (nI 0) (by decide) dX8_init_14 ?_
  refine g_putI h 18 rfl plX8_15 (fs' := [.ref (q1), .int (nI 0)]) rfl (by decide) (by decide) rfl dX8_init_15 ?_
  refine g_vret h hr dX8_init_18 (fun a => [h0, q1].getD (a - 1) 0) rfl ?_ rfl rfl
  rw [seg_s 2 1 sh_1 rfl rfl, seg_s 3 0 sh_2 rfl rfl, seg_0]
  rfl
theorem ffX5_11 : Fl RX5 11 5 0 (.array .int) := ⟨_, _, _, _, kc_5, by decide, ir_3 _ (List.mem_of_getElem? (i := 18) (by decide +kernel)), rfl, rfl, by decide +kernel⟩
theorem ffX5_17 : Fl RX5 17 5 1 (.array (.array .int)) := ⟨_, _, _, _, kc_5, by decide, ir_3 _ (List.mem_of_getElem? (i := 20) (by decide +kernel)), rfl, rfl, by decide +kernel⟩
set_option maxRecDepth 100000 in
set_option maxHeartbeats 4000000 in
theorem cn_X5 : Cn 1 10 56 yX5_init cX5_init 5 [.null, .null, .int 0, .int 0] 3 11 := by
  refine cn_of (by decide +kernel) rfl (fun X h0 (h : Og X RX5 cX5_init 1 10 56) hr => ?_)
  refine g_aload0 h 1 rfl dX5_init_0 ?_
  refine g_oi h 4 rfl (ir_3 _ (List.mem_of_getElem? (i := 17) (by decide +kernel))) rfl dX5_init_1 ?_
  refine g_aload0 h 5 rfl dX5_init_4 ?_
  refine g_bipush h 7 rfl (nI 8) (by decide) dX5_init_5 ?_
  refine g_newi h 9 rfl rfl rfl rfl dX5_init_7 (fun q1 => ?_)
  refine g_putR h hr 12 rfl ffX5_11 (fs' := [.ref (q1), .null, .int 0, .int 0]) rfl rfl rfl rfl dX5_init_9 ?_
  refine g_aload0 h 13 rfl dX5_init_12 ?_
  refine g_bipush h 15 rfl (nI 8) (by decide) dX5_init_13 ?_
  refine g_iconst h 16 rfl (nI 5) (by decide) dX5_init_15 ?_
  refine g_mna h 20 rfl (ir_3 _ (List.mem_of_getElem? (i := 19) (by decide +kernel))) rfl rfl rfl rfl dX5_init_16 (fun q2 r2 f2 hf2 => ?_)
  refine g_putR h hr 23 rfl ffX5_17 (fs' := [.ref (q1), .ref (q2), .int 0, .int 0]) rfl rfl rfl rfl dX5_init_20 ?_
  refine g_aload0 h 24 rfl dX5_init_23 ?_
  refine g_iconst h 25 rfl (nI 0) (by decide) dX5_init_24 ?_
  refine g_putI h 28 rfl plX5_20 (fs' := [.ref (q1), .ref (q2), .int (nI 0), .int 0]) rfl (by decide) (by decide) rfl dX5_init_25 ?_
  refine g_aload0 h 29 rfl dX5_init_28 ?_
  refine g_iconst h 30 rfl (nI 0) (by decide) dX5_init_29 ?_
  refine g_putI h 33 rfl plX5_24 (fs' := [.ref (q1), .ref (q2), .int (nI 0), .int (nI 0)]) rfl (by decide) (by decide) rfl dX5_init_30 ?_
  refine g_vret h hr dX5_init_33 (fun a => [h0, q1, q2, r2 0, r2 1, r2 2, r2 3, r2 4, r2 5, r2 6, r2 7].getD (a - 3) 0) rfl ?_ rfl rfl
  rw [outer_eq (r := r2) (ρ := (fun a => [h0, q1, q2, r2 0, r2 1, r2 2, r2 3, r2 4, r2 5, r2 6, r2 7].getD (a - 3) 0)) (b := 6) hf2 (fun i hi => match i, hi with | 0, _ => rfl | 1, _ => rfl | 2, _ => rfl | 3, _ => rfl | 4, _ => rfl | 5, _ => rfl | 6, _ => rfl | 7, _ => rfl | i + 8, hi => absurd hi (by omega))]
  rw [seg_s 4 10 sh_3 rfl rfl, seg_s 5 9 sh_4 rfl rfl, seg_s 6 8 sh_5 rfl rfl, seg_s 7 7 sh_6 rfl rfl, seg_s 8 6 sh_7 rfl rfl, seg_s 9 5 sh_8 rfl rfl, seg_s 10 4 sh_9 rfl rfl, seg_s 11 3 sh_10 rfl rfl, seg_s 12 2 sh_11 rfl rfl, seg_s 13 1 sh_12 rfl rfl, seg_s 14 0 sh_13 rfl rfl, seg_0]
  rfl
theorem ffX3_9 : Fl RX3 9 3 0 (.array .boolean) := ⟨_, _, _, _, kc_3, by decide, ir_4 _ (List.mem_of_getElem? (i := 4) (by decide +kernel)), rfl, rfl, by decide +kernel⟩
theorem ffX3_15 : Fl RX3 15 3 1 (.array .int) := ⟨_, _, _, _, kc_3, by decide, ir_4 _ (List.mem_of_getElem? (i := 5) (by decide +kernel)), rfl, rfl, by decide +kernel⟩
theorem ffX3_19 : Fl RX3 19 3 2 (.array .int) := ⟨_, _, _, _, kc_3, by decide, ir_4 _ (List.mem_of_getElem? (i := 6) (by decide +kernel)), rfl, rfl, by decide +kernel⟩
theorem ffX3_22 : Fl RX3 22 3 3 (.array .int) := ⟨_, _, _, _, kc_3, by decide, ir_4 _ (List.mem_of_getElem? (i := 7) (by decide +kernel)), rfl, rfl, by decide +kernel⟩
theorem ffX3_25 : Fl RX3 25 3 4 (.array .int) := ⟨_, _, _, _, kc_3, by decide, ir_4 _ (List.mem_of_getElem? (i := 8) (by decide +kernel)), rfl, rfl, by decide +kernel⟩
theorem ffX3_28 : Fl RX3 28 3 5 (.array .int) := ⟨_, _, _, _, kc_3, by decide, ir_4 _ (List.mem_of_getElem? (i := 9) (by decide +kernel)), rfl, rfl, by decide +kernel⟩
theorem ffX3_31 : Fl RX3 31 3 6 (.array .int) := ⟨_, _, _, _, kc_3, by decide, ir_4 _ (List.mem_of_getElem? (i := 10) (by decide +kernel)), rfl, rfl, by decide +kernel⟩
theorem ffX3_34 : Fl RX3 34 3 7 (.array .int) := ⟨_, _, _, _, kc_3, by decide, ir_4 _ (List.mem_of_getElem? (i := 11) (by decide +kernel)), rfl, rfl, by decide +kernel⟩
theorem ffX3_39 : Fl RX3 39 3 8 (.array (.array .int)) := ⟨_, _, _, _, kc_3, by decide, ir_4 _ (List.mem_of_getElem? (i := 13) (by decide +kernel)), rfl, rfl, by decide +kernel⟩
set_option maxRecDepth 100000 in
set_option maxHeartbeats 4000000 in
theorem cn_X3 : Cn 1 14 70 yX3_init cX3_init 3 [.null, .null, .null, .null, .null, .null, .null, .null, .null, .int 0, .int 0, .int 0, .int 0, .int 0, .int 0, .int 0, .int 0, .int 0] 14 15 := by
  refine cn_of (by decide +kernel) rfl (fun X h0 (h : Og X RX3 cX3_init 1 14 70) hr => ?_)
  refine g_aload0 h 1 rfl dX3_init_0 ?_
  refine g_oi h 4 rfl (ir_4 _ (List.mem_of_getElem? (i := 2) (by decide +kernel))) rfl dX3_init_1 ?_
  refine g_aload0 h 5 rfl dX3_init_4 ?_
  refine g_iconst h 6 rfl (nI 5) (by decide) dX3_init_5 ?_
  refine g_newz h 8 rfl rfl rfl rfl dX3_init_6 (fun q1 => ?_)
  refine g_putR h hr 11 rfl ffX3_9 (fs' := [.ref (q1), .null, .null, .null, .null, .null, .null, .null, .null, .int 0, .int 0, .int 0, .int 0, .int 0, .int 0, .int 0, .int 0, .int 0]) rfl rfl rfl rfl dX3_init_8 ?_
  refine g_aload0 h 12 rfl dX3_init_11 ?_
  refine g_iconst h 13 rfl (nI 5) (by decide) dX3_init_12 ?_
  refine g_newi h 15 rfl rfl rfl rfl dX3_init_13 (fun q2 => ?_)
  refine g_putR h hr 18 rfl ffX3_15 (fs' := [.ref (q1), .ref (q2), .null, .null, .null, .null, .null, .null, .null, .int 0, .int 0, .int 0, .int 0, .int 0, .int 0, .int 0, .int 0, .int 0]) rfl rfl rfl rfl dX3_init_15 ?_
  refine g_aload0 h 19 rfl dX3_init_18 ?_
  refine g_iconst h 20 rfl (nI 5) (by decide) dX3_init_19 ?_
  refine g_newi h 22 rfl rfl rfl rfl dX3_init_20 (fun q3 => ?_)
  refine g_putR h hr 25 rfl ffX3_19 (fs' := [.ref (q1), .ref (q2), .ref (q3), .null, .null, .null, .null, .null, .null, .int 0, .int 0, .int 0, .int 0, .int 0, .int 0, .int 0, .int 0, .int 0]) rfl rfl rfl rfl dX3_init_22 ?_
  refine g_aload0 h 26 rfl dX3_init_25 ?_
  refine g_iconst h 27 rfl (nI 5) (by decide) dX3_init_26 ?_
  refine g_newi h 29 rfl rfl rfl rfl dX3_init_27 (fun q4 => ?_)
  refine g_putR h hr 32 rfl ffX3_22 (fs' := [.ref (q1), .ref (q2), .ref (q3), .ref (q4), .null, .null, .null, .null, .null, .int 0, .int 0, .int 0, .int 0, .int 0, .int 0, .int 0, .int 0, .int 0]) rfl rfl rfl rfl dX3_init_29 ?_
  refine g_aload0 h 33 rfl dX3_init_32 ?_
  refine g_iconst h 34 rfl (nI 5) (by decide) dX3_init_33 ?_
  refine g_newi h 36 rfl rfl rfl rfl dX3_init_34 (fun q5 => ?_)
  refine g_putR h hr 39 rfl ffX3_25 (fs' := [.ref (q1), .ref (q2), .ref (q3), .ref (q4), .ref (q5), .null, .null, .null, .null, .int 0, .int 0, .int 0, .int 0, .int 0, .int 0, .int 0, .int 0, .int 0]) rfl rfl rfl rfl dX3_init_36 ?_
  refine g_aload0 h 40 rfl dX3_init_39 ?_
  refine g_iconst h 41 rfl (nI 5) (by decide) dX3_init_40 ?_
  refine g_newi h 43 rfl rfl rfl rfl dX3_init_41 (fun q6 => ?_)
  refine g_putR h hr 46 rfl ffX3_28 (fs' := [.ref (q1), .ref (q2), .ref (q3), .ref (q4), .ref (q5), .ref (q6), .null, .null, .null, .int 0, .int 0, .int 0, .int 0, .int 0, .int 0, .int 0, .int 0, .int 0]) rfl rfl rfl rfl dX3_init_43 ?_
  refine g_aload0 h 47 rfl dX3_init_46 ?_
  refine g_iconst h 48 rfl (nI 5) (by decide) dX3_init_47 ?_
  refine g_newi h 50 rfl rfl rfl rfl dX3_init_48 (fun q7 => ?_)
  refine g_putR h hr 53 rfl ffX3_31 (fs' := [.ref (q1), .ref (q2), .ref (q3), .ref (q4), .ref (q5), .ref (q6), .ref (q7), .null, .null, .int 0, .int 0, .int 0, .int 0, .int 0, .int 0, .int 0, .int 0, .int 0]) rfl rfl rfl rfl dX3_init_50 ?_
  refine g_aload0 h 54 rfl dX3_init_53 ?_
  refine g_iconst h 55 rfl (nI 5) (by decide) dX3_init_54 ?_
  refine g_newi h 57 rfl rfl rfl rfl dX3_init_55 (fun q8 => ?_)
  refine g_putR h hr 60 rfl ffX3_34 (fs' := [.ref (q1), .ref (q2), .ref (q3), .ref (q4), .ref (q5), .ref (q6), .ref (q7), .ref (q8), .null, .int 0, .int 0, .int 0, .int 0, .int 0, .int 0, .int 0, .int 0, .int 0]) rfl rfl rfl rfl dX3_init_57 ?_
  refine g_aload0 h 61 rfl dX3_init_60 ?_
  refine g_iconst h 62 rfl (nI 5) (by decide) dX3_init_61 ?_
  refine g_iconst h 63 rfl (nI 5) (by decide) dX3_init_62 ?_
  refine g_mna h 67 rfl (ir_4 _ (List.mem_of_getElem? (i := 12) (by decide +kernel))) rfl rfl rfl rfl dX3_init_63 (fun q9 r9 f9 hf9 => ?_)
  refine g_putR h hr 70 rfl ffX3_39 (fs' := [.ref (q1), .ref (q2), .ref (q3), .ref (q4), .ref (q5), .ref (q6), .ref (q7), .ref (q8), .ref (q9), .int 0, .int 0, .int 0, .int 0, .int 0, .int 0, .int 0, .int 0, .int 0]) rfl rfl rfl rfl dX3_init_67 ?_
  refine g_aload0 h 71 rfl dX3_init_70 ?_
  refine g_ldc h 73 rfl (nI 16777215) cnX3_42 dX3_init_71 ?_
  refine g_putI h 76 rfl plX3_43 (fs' := [.ref (q1), .ref (q2), .ref (q3), .ref (q4), .ref (q5), .ref (q6), .ref (q7), .ref (q8), .ref (q9), .int (nI 16777215), .int 0, .int 0, .int 0, .int 0, .int 0, .int 0, .int 0, .int 0]) rfl (by decide) (by decide) rfl dX3_init_73 ?_
  refine g_aload0 h 77 rfl dX3_init_76 ?_
  refine g_sipush h 80 rfl (nI 200) (by decide) dX3_init_77 ?_
  refine g_putI h 83 rfl plX3_47 (fs' := [.ref (q1), .ref (q2), .ref (q3), .ref (q4), .ref (q5), .ref (q6), .ref (q7), .ref (q8), .ref (q9), .int (nI 16777215), .int (nI 200), .int 0, .int 0, .int 0, .int 0, .int 0, .int 0, .int 0]) rfl (by decide) (by decide) rfl dX3_init_80 ?_
  refine g_aload0 h 84 rfl dX3_init_83 ?_
  refine g_sipush h 87 rfl (nI 320) (by decide) dX3_init_84 ?_
  refine g_putI h 90 rfl plX3_50 (fs' := [.ref (q1), .ref (q2), .ref (q3), .ref (q4), .ref (q5), .ref (q6), .ref (q7), .ref (q8), .ref (q9), .int (nI 16777215), .int (nI 200), .int (nI 320), .int 0, .int 0, .int 0, .int 0, .int 0, .int 0]) rfl (by decide) (by decide) rfl dX3_init_87 ?_
  refine g_aload0 h 91 rfl dX3_init_90 ?_
  refine g_bipush h 93 rfl (nI 10) (by decide) dX3_init_91 ?_
  refine g_putI h 96 rfl plX3_53 (fs' := [.ref (q1), .ref (q2), .ref (q3), .ref (q4), .ref (q5), .ref (q6), .ref (q7), .ref (q8), .ref (q9), .int (nI 16777215), .int (nI 200), .int (nI 320), .int (nI 10), .int 0, .int 0, .int 0, .int 0, .int 0]) rfl (by decide) (by decide) rfl dX3_init_93 ?_
  refine g_aload0 h 97 rfl dX3_init_96 ?_
  refine g_bipush h 99 rfl (nI 20) (by decide) dX3_init_97 ?_
  refine g_putI h 102 rfl plX3_56 (fs' := [.ref (q1), .ref (q2), .ref (q3), .ref (q4), .ref (q5), .ref (q6), .ref (q7), .ref (q8), .ref (q9), .int (nI 16777215), .int (nI 200), .int (nI 320), .int (nI 10), .int (nI 20), .int 0, .int 0, .int 0, .int 0]) rfl (by decide) (by decide) rfl dX3_init_99 ?_
  refine g_aload0 h 103 rfl dX3_init_102 ?_
  refine g_bipush h 105 rfl (nI 20) (by decide) dX3_init_103 ?_
  refine g_putI h 108 rfl plX3_59 (fs' := [.ref (q1), .ref (q2), .ref (q3), .ref (q4), .ref (q5), .ref (q6), .ref (q7), .ref (q8), .ref (q9), .int (nI 16777215), .int (nI 200), .int (nI 320), .int (nI 10), .int (nI 20), .int (nI 20), .int 0, .int 0, .int 0]) rfl (by decide) (by decide) rfl dX3_init_105 ?_
  refine g_aload0 h 109 rfl dX3_init_108 ?_
  refine g_bipush h 111 rfl (nI 10) (by decide) dX3_init_109 ?_
  refine g_putI h 114 rfl plX3_62 (fs' := [.ref (q1), .ref (q2), .ref (q3), .ref (q4), .ref (q5), .ref (q6), .ref (q7), .ref (q8), .ref (q9), .int (nI 16777215), .int (nI 200), .int (nI 320), .int (nI 10), .int (nI 20), .int (nI 20), .int (nI 10), .int 0, .int 0]) rfl (by decide) (by decide) rfl dX3_init_111 ?_
  refine g_aload0 h 115 rfl dX3_init_114 ?_
  refine g_iconst h 116 rfl (nI 3) (by decide) dX3_init_115 ?_
  refine g_putI h 119 rfl plX3_65 (fs' := [.ref (q1), .ref (q2), .ref (q3), .ref (q4), .ref (q5), .ref (q6), .ref (q7), .ref (q8), .ref (q9), .int (nI 16777215), .int (nI 200), .int (nI 320), .int (nI 10), .int (nI 20), .int (nI 20), .int (nI 10), .int (nI 3), .int 0]) rfl (by decide) (by decide) rfl dX3_init_116 ?_
  refine g_aload0 h 120 rfl dX3_init_119 ?_
  refine g_bipush h 122 rfl (nI 40) (by decide) dX3_init_120 ?_
  refine g_putI h 125 rfl plX3_68 (fs' := [.ref (q1), .ref (q2), .ref (q3), .ref (q4), .ref (q5), .ref (q6), .ref (q7), .ref (q8), .ref (q9), .int (nI 16777215), .int (nI 200), .int (nI 320), .int (nI 10), .int (nI 20), .int (nI 20), .int (nI 10), .int (nI 3), .int (nI 40)]) rfl (by decide) (by decide) rfl dX3_init_122 ?_
  refine g_vret h hr dX3_init_125 (fun a => [h0, q1, q2, q3, q4, q5, q6, q7, q8, q9, r9 0, r9 1, r9 2, r9 3, r9 4].getD (a - 14) 0) rfl ?_ rfl rfl
  rw [outer_eq (r := r9) (ρ := (fun a => [h0, q1, q2, q3, q4, q5, q6, q7, q8, q9, r9 0, r9 1, r9 2, r9 3, r9 4].getD (a - 14) 0)) (b := 24) hf9 (fun i hi => match i, hi with | 0, _ => rfl | 1, _ => rfl | 2, _ => rfl | 3, _ => rfl | 4, _ => rfl | i + 5, hi => absurd hi (by omega))]
  rw [seg_s 15 14 sh_14 rfl rfl, seg_s 16 13 sh_15 rfl rfl, seg_s 17 12 sh_16 rfl rfl, seg_s 18 11 sh_17 rfl rfl, seg_s 19 10 sh_18 rfl rfl, seg_s 20 9 sh_19 rfl rfl, seg_s 21 8 sh_20 rfl rfl, seg_s 22 7 sh_21 rfl rfl, seg_s 23 6 sh_22 rfl rfl, seg_s 24 5 sh_23 rfl rfl, seg_s 25 4 sh_24 rfl rfl, seg_s 26 3 sh_25 rfl rfl, seg_s 27 2 sh_26 rfl rfl, seg_s 28 1 sh_27 rfl rfl, seg_s 29 0 sh_28 rfl rfl, seg_0]
  rfl
theorem ffX4_9 : Fl RX4 9 4 0 (.array .int) := ⟨_, _, _, _, kc_4, by decide, ir_5 _ (List.mem_of_getElem? (i := 4) (by decide +kernel)), rfl, rfl, by decide +kernel⟩
theorem ffX4_15 : Fl RX4 15 4 1 (.array .int) := ⟨_, _, _, _, kc_4, by decide, ir_5 _ (List.mem_of_getElem? (i := 5) (by decide +kernel)), rfl, rfl, by decide +kernel⟩
theorem ffX4_18 : Fl RX4 18 4 2 (.array .int) := ⟨_, _, _, _, kc_4, by decide, ir_5 _ (List.mem_of_getElem? (i := 6) (by decide +kernel)), rfl, rfl, by decide +kernel⟩
theorem ffX4_23 : Fl RX4 23 4 3 (.array (.array .int)) := ⟨_, _, _, _, kc_4, by decide, ir_5 _ (List.mem_of_getElem? (i := 8) (by decide +kernel)), rfl, rfl, by decide +kernel⟩
theorem ffX4_26 : Fl RX4 26 4 4 (.array .int) := ⟨_, _, _, _, kc_4, by decide, ir_5 _ (List.mem_of_getElem? (i := 9) (by decide +kernel)), rfl, rfl, by decide +kernel⟩
set_option maxRecDepth 100000 in
set_option maxHeartbeats 4000000 in
theorem cn_X4 : Cn 1 10 236 yX4_init cX4_init 4 [.null, .null, .null, .null, .null, .int 0, .int 0] 29 11 := by
  refine cn_of (by decide +kernel) rfl (fun X h0 (h : Og X RX4 cX4_init 1 10 236) hr => ?_)
  refine g_aload0 h 1 rfl dX4_init_0 ?_
  refine g_oi h 4 rfl (ir_5 _ (List.mem_of_getElem? (i := 3) (by decide +kernel))) rfl dX4_init_1 ?_
  refine g_aload0 h 5 rfl dX4_init_4 ?_
  refine g_iconst h 6 rfl (nI 5) (by decide) dX4_init_5 ?_
  refine g_newi h 8 rfl rfl rfl rfl dX4_init_6 (fun q1 => ?_)
  refine g_putR h hr 11 rfl ffX4_9 (fs' := [.ref (q1), .null, .null, .null, .null, .int 0, .int 0]) rfl rfl rfl rfl dX4_init_8 ?_
  refine g_aload0 h 12 rfl dX4_init_11 ?_
  refine g_iconst h 13 rfl (nI 5) (by decide) dX4_init_12 ?_
  refine g_newi h 15 rfl rfl rfl rfl dX4_init_13 (fun q2 => ?_)
  refine g_putR h hr 18 rfl ffX4_15 (fs' := [.ref (q1), .ref (q2), .null, .null, .null, .int 0, .int 0]) rfl rfl rfl rfl dX4_init_15 ?_
  refine g_aload0 h 19 rfl dX4_init_18 ?_
  refine g_iconst h 20 rfl (nI 5) (by decide) dX4_init_19 ?_
  refine g_newi h 22 rfl rfl rfl rfl dX4_init_20 (fun q3 => ?_)
  refine g_putR h hr 25 rfl ffX4_18 (fs' := [.ref (q1), .ref (q2), .ref (q3), .null, .null, .int 0, .int 0]) rfl rfl rfl rfl dX4_init_22 ?_
  refine g_aload0 h 26 rfl dX4_init_25 ?_
  refine g_iconst h 27 rfl (nI 5) (by decide) dX4_init_26 ?_
  refine g_bipush h 29 rfl (nI 24) (by decide) dX4_init_27 ?_
  refine g_mna h 33 rfl (ir_5 _ (List.mem_of_getElem? (i := 7) (by decide +kernel))) rfl rfl rfl rfl dX4_init_29 (fun q4 r4 f4 hf4 => ?_)
  refine g_putR h hr 36 rfl ffX4_23 (fs' := [.ref (q1), .ref (q2), .ref (q3), .ref (q4), .null, .int 0, .int 0]) rfl rfl rfl rfl dX4_init_33 ?_
  refine g_aload0 h 37 rfl dX4_init_36 ?_
  refine g_bipush h 39 rfl (nI 96) (by decide) dX4_init_37 ?_
  refine g_newi h 41 rfl rfl rfl rfl dX4_init_39 (fun q5 => ?_)
  refine g_putR h hr 44 rfl ffX4_26 (fs' := [.ref (q1), .ref (q2), .ref (q3), .ref (q4), .ref (q5), .int 0, .int 0]) rfl rfl rfl rfl dX4_init_41 ?_
  refine g_aload0 h 45 rfl dX4_init_44 ?_
  refine g_iconst h 46 rfl (nI 0) (by decide) dX4_init_45 ?_
  refine g_putI h 49 rfl plX4_29 (fs' := [.ref (q1), .ref (q2), .ref (q3), .ref (q4), .ref (q5), .int (nI 0), .int 0]) rfl (by decide) (by decide) rfl dX4_init_46 ?_
  refine g_aload0 h 50 rfl dX4_init_49 ?_
  refine g_iconst h 51 rfl (nI 0) (by decide) dX4_init_50 ?_
  refine g_putI h 54 rfl plX4_33 (fs' := [.ref (q1), .ref (q2), .ref (q3), .ref (q4), .ref (q5), .int (nI 0), .int (nI 0)]) rfl (by decide) (by decide) rfl dX4_init_51 ?_
  refine g_vret h hr dX4_init_54 (fun a => [h0, q1, q2, q3, q4, r4 0, r4 1, r4 2, r4 3, r4 4, q5].getD (a - 29) 0) rfl ?_ rfl rfl
  rw [outer_eq (r := r4) (ρ := (fun a => [h0, q1, q2, q3, q4, r4 0, r4 1, r4 2, r4 3, r4 4, q5].getD (a - 29) 0)) (b := 34) hf4 (fun i hi => match i, hi with | 0, _ => rfl | 1, _ => rfl | 2, _ => rfl | 3, _ => rfl | 4, _ => rfl | i + 5, hi => absurd hi (by omega))]
  rw [seg_s 30 10 sh_29 rfl rfl, seg_s 31 9 sh_30 rfl rfl, seg_s 32 8 sh_31 rfl rfl, seg_s 33 7 sh_32 rfl rfl, seg_s 34 6 sh_33 rfl rfl, seg_s 35 5 sh_34 rfl rfl, seg_s 36 4 sh_35 rfl rfl, seg_s 37 3 sh_36 rfl rfl, seg_s 38 2 sh_37 rfl rfl, seg_s 39 1 sh_38 rfl rfl, seg_s 40 0 sh_39 rfl rfl, seg_0]
  rfl
theorem ffX1_11 : Fl RX1 11 1 0 (.array (.array .int)) := ⟨_, _, _, _, kc_1, by decide, ir_5 _ (List.mem_of_getElem? (i := 17) (by decide +kernel)), rfl, rfl, by decide +kernel⟩
theorem ffX1_16 : Fl RX1 16 1 1 (.array (.array .int)) := ⟨_, _, _, _, kc_1, by decide, ir_5 _ (List.mem_of_getElem? (i := 18) (by decide +kernel)), rfl, rfl, by decide +kernel⟩
theorem ffX1_19 : Fl RX1 19 1 2 (.array (.array .int)) := ⟨_, _, _, _, kc_1, by decide, ir_5 _ (List.mem_of_getElem? (i := 19) (by decide +kernel)), rfl, rfl, by decide +kernel⟩
set_option maxRecDepth 100000 in
set_option maxHeartbeats 4000000 in
theorem cn_X1a : Cn 1 18 1465 yX1_init cX1_init 1 [.null, .null, .null] 40 19 := by
  refine cn_of (by decide +kernel) rfl (fun X h0 (h : Og X RX1 cX1_init 1 18 1465) hr => ?_)
  refine g_aload0 h 1 rfl dX1_init_0 ?_
  refine g_oi h 4 rfl (ir_5 _ (List.mem_of_getElem? (i := 15) (by decide +kernel))) rfl dX1_init_1 ?_
  refine g_aload0 h 5 rfl dX1_init_4 ?_
  refine g_iconst h 6 rfl (nI 5) (by decide) dX1_init_5 ?_
  refine g_bipush h 8 rfl (nI 97) (by decide) dX1_init_6 ?_
  refine g_mna h 12 rfl (ir_5 _ (List.mem_of_getElem? (i := 16) (by decide +kernel))) rfl rfl rfl rfl dX1_init_8 (fun q1 r1 f1 hf1 => ?_)
  refine g_putR h hr 15 rfl ffX1_11 (fs' := [.ref (q1), .null, .null]) rfl rfl rfl rfl dX1_init_12 ?_
  refine g_aload0 h 16 rfl dX1_init_15 ?_
  refine g_iconst h 17 rfl (nI 5) (by decide) dX1_init_16 ?_
  refine g_bipush h 19 rfl (nI 97) (by decide) dX1_init_17 ?_
  refine g_mna h 23 rfl (ir_5 _ (List.mem_of_getElem? (i := 16) (by decide +kernel))) rfl rfl rfl rfl dX1_init_19 (fun q2 r2 f2 hf2 => ?_)
  refine g_putR h hr 26 rfl ffX1_16 (fs' := [.ref (q1), .ref (q2), .null]) rfl rfl rfl rfl dX1_init_23 ?_
  refine g_aload0 h 27 rfl dX1_init_26 ?_
  refine g_iconst h 28 rfl (nI 5) (by decide) dX1_init_27 ?_
  refine g_bipush h 30 rfl (nI 96) (by decide) dX1_init_28 ?_
  refine g_mna h 34 rfl (ir_5 _ (List.mem_of_getElem? (i := 16) (by decide +kernel))) rfl rfl rfl rfl dX1_init_30 (fun q3 r3 f3 hf3 => ?_)
  refine g_putR h hr 37 rfl ffX1_19 (fs' := [.ref (q1), .ref (q2), .ref (q3)]) rfl rfl rfl rfl dX1_init_34 ?_
  refine g_sub (ws' := [(h0, .inr (1, [.ref (q1), .ref (q2), .ref (q3)])), (q1, .inl (gQ X, 5, .inr (.inr (.inr (.inr f1))))), (q2, .inl (gQ X, 5, .inr (.inr (.inr (.inr f2))))), (q3, .inl (gQ X, 5, .inr (.inr (.inr (.inr f3))))), (r1 0, .inl (gI X, 97, .inl (fun _ => 0))), (r1 1, .inl (gI X, 97, .inl (fun _ => 0))), (r1 2, .inl (gI X, 97, .inl (fun _ => 0))), (r1 3, .inl (gI X, 97, .inl (fun _ => 0))), (r1 4, .inl (gI X, 97, .inl (fun _ => 0))), (r2 0, .inl (gI X, 97, .inl (fun _ => 0))), (r2 1, .inl (gI X, 97, .inl (fun _ => 0))), (r2 2, .inl (gI X, 97, .inl (fun _ => 0))), (r2 3, .inl (gI X, 97, .inl (fun _ => 0))), (r2 4, .inl (gI X, 97, .inl (fun _ => 0))), (r3 0, .inl (gI X, 96, .inl (fun _ => 0))), (r3 1, .inl (gI X, 96, .inl (fun _ => 0))), (r3 2, .inl (gI X, 96, .inl (fun _ => 0))), (r3 3, .inl (gI X, 96, .inl (fun _ => 0))), (r3 4, .inl (gI X, 96, .inl (fun _ => 0)))]) [0, 1, 7, 13, 2, 3, 4, 5, 6, 8, 9, 10, 11, 12, 14, 15, 16, 17, 18] (by decide) rfl rfl ?_
  refine g_vret h hr dX1_init_37 (fun a => [h0, q1, q2, q3, r1 0, r1 1, r1 2, r1 3, r1 4, r2 0, r2 1, r2 2, r2 3, r2 4, r3 0, r3 1, r3 2, r3 3, r3 4].getD (a - 40) 0) rfl ?_ rfl rfl
  rw [outer_eq (r := r1) (ρ := (fun a => [h0, q1, q2, q3, r1 0, r1 1, r1 2, r1 3, r1 4, r2 0, r2 1, r2 2, r2 3, r2 4, r3 0, r3 1, r3 2, r3 3, r3 4].getD (a - 40) 0)) (b := 44) hf1 (fun i hi => match i, hi with | 0, _ => rfl | 1, _ => rfl | 2, _ => rfl | 3, _ => rfl | 4, _ => rfl | i + 5, hi => absurd hi (by omega))]
  rw [outer_eq (r := r2) (ρ := (fun a => [h0, q1, q2, q3, r1 0, r1 1, r1 2, r1 3, r1 4, r2 0, r2 1, r2 2, r2 3, r2 4, r3 0, r3 1, r3 2, r3 3, r3 4].getD (a - 40) 0)) (b := 49) hf2 (fun i hi => match i, hi with | 0, _ => rfl | 1, _ => rfl | 2, _ => rfl | 3, _ => rfl | 4, _ => rfl | i + 5, hi => absurd hi (by omega))]
  rw [outer_eq (r := r3) (ρ := (fun a => [h0, q1, q2, q3, r1 0, r1 1, r1 2, r1 3, r1 4, r2 0, r2 1, r2 2, r2 3, r2 4, r3 0, r3 1, r3 2, r3 3, r3 4].getD (a - 40) 0)) (b := 54) hf3 (fun i hi => match i, hi with | 0, _ => rfl | 1, _ => rfl | 2, _ => rfl | 3, _ => rfl | 4, _ => rfl | i + 5, hi => absurd hi (by omega))]
  rw [seg_s 41 18 sh_40 rfl rfl, seg_s 42 17 sh_41 rfl rfl, seg_s 43 16 sh_42 rfl rfl, seg_s 44 15 sh_43 rfl rfl, seg_s 45 14 sh_44 rfl rfl, seg_s 46 13 sh_45 rfl rfl, seg_s 47 12 sh_46 rfl rfl, seg_s 48 11 sh_47 rfl rfl, seg_s 49 10 sh_48 rfl rfl, seg_s 50 9 sh_49 rfl rfl, seg_s 51 8 sh_50 rfl rfl, seg_s 52 7 sh_51 rfl rfl, seg_s 53 6 sh_52 rfl rfl, seg_s 54 5 sh_53 rfl rfl, seg_s 55 4 sh_54 rfl rfl, seg_s 56 3 sh_55 rfl rfl, seg_s 57 2 sh_56 rfl rfl, seg_s 58 1 sh_57 rfl rfl, seg_s 59 0 sh_58 rfl rfl, seg_0]
  rfl
set_option maxRecDepth 100000 in
set_option maxHeartbeats 4000000 in
theorem cn_X1b : Cn 1 18 1465 yX1_init cX1_init 1 [.null, .null, .null] 59 19 := by
  refine cn_of (by decide +kernel) rfl (fun X h0 (h : Og X RX1 cX1_init 1 18 1465) hr => ?_)
  refine g_aload0 h 1 rfl dX1_init_0 ?_
  refine g_oi h 4 rfl (ir_5 _ (List.mem_of_getElem? (i := 15) (by decide +kernel))) rfl dX1_init_1 ?_
  refine g_aload0 h 5 rfl dX1_init_4 ?_
  refine g_iconst h 6 rfl (nI 5) (by decide) dX1_init_5 ?_
  refine g_bipush h 8 rfl (nI 97) (by decide) dX1_init_6 ?_
  refine g_mna h 12 rfl (ir_5 _ (List.mem_of_getElem? (i := 16) (by decide +kernel))) rfl rfl rfl rfl dX1_init_8 (fun q1 r1 f1 hf1 => ?_)
  refine g_putR h hr 15 rfl ffX1_11 (fs' := [.ref (q1), .null, .null]) rfl rfl rfl rfl dX1_init_12 ?_
  refine g_aload0 h 16 rfl dX1_init_15 ?_
  refine g_iconst h 17 rfl (nI 5) (by decide) dX1_init_16 ?_
  refine g_bipush h 19 rfl (nI 97) (by decide) dX1_init_17 ?_
  refine g_mna h 23 rfl (ir_5 _ (List.mem_of_getElem? (i := 16) (by decide +kernel))) rfl rfl rfl rfl dX1_init_19 (fun q2 r2 f2 hf2 => ?_)
  refine g_putR h hr 26 rfl ffX1_16 (fs' := [.ref (q1), .ref (q2), .null]) rfl rfl rfl rfl dX1_init_23 ?_
  refine g_aload0 h 27 rfl dX1_init_26 ?_
  refine g_iconst h 28 rfl (nI 5) (by decide) dX1_init_27 ?_
  refine g_bipush h 30 rfl (nI 96) (by decide) dX1_init_28 ?_
  refine g_mna h 34 rfl (ir_5 _ (List.mem_of_getElem? (i := 16) (by decide +kernel))) rfl rfl rfl rfl dX1_init_30 (fun q3 r3 f3 hf3 => ?_)
  refine g_putR h hr 37 rfl ffX1_19 (fs' := [.ref (q1), .ref (q2), .ref (q3)]) rfl rfl rfl rfl dX1_init_34 ?_
  refine g_sub (ws' := [(h0, .inr (1, [.ref (q1), .ref (q2), .ref (q3)])), (q1, .inl (gQ X, 5, .inr (.inr (.inr (.inr f1))))), (q2, .inl (gQ X, 5, .inr (.inr (.inr (.inr f2))))), (q3, .inl (gQ X, 5, .inr (.inr (.inr (.inr f3))))), (r1 0, .inl (gI X, 97, .inl (fun _ => 0))), (r1 1, .inl (gI X, 97, .inl (fun _ => 0))), (r1 2, .inl (gI X, 97, .inl (fun _ => 0))), (r1 3, .inl (gI X, 97, .inl (fun _ => 0))), (r1 4, .inl (gI X, 97, .inl (fun _ => 0))), (r2 0, .inl (gI X, 97, .inl (fun _ => 0))), (r2 1, .inl (gI X, 97, .inl (fun _ => 0))), (r2 2, .inl (gI X, 97, .inl (fun _ => 0))), (r2 3, .inl (gI X, 97, .inl (fun _ => 0))), (r2 4, .inl (gI X, 97, .inl (fun _ => 0))), (r3 0, .inl (gI X, 96, .inl (fun _ => 0))), (r3 1, .inl (gI X, 96, .inl (fun _ => 0))), (r3 2, .inl (gI X, 96, .inl (fun _ => 0))), (r3 3, .inl (gI X, 96, .inl (fun _ => 0))), (r3 4, .inl (gI X, 96, .inl (fun _ => 0)))]) [0, 1, 7, 13, 2, 3, 4, 5, 6, 8, 9, 10, 11, 12, 14, 15, 16, 17, 18] (by decide) rfl rfl ?_
  refine g_vret h hr dX1_init_37 (fun a => [h0, q1, q2, q3, r1 0, r1 1, r1 2, r1 3, r1 4, r2 0, r2 1, r2 2, r2 3, r2 4, r3 0, r3 1, r3 2, r3 3, r3 4].getD (a - 59) 0) rfl ?_ rfl rfl
  rw [outer_eq (r := r1) (ρ := (fun a => [h0, q1, q2, q3, r1 0, r1 1, r1 2, r1 3, r1 4, r2 0, r2 1, r2 2, r2 3, r2 4, r3 0, r3 1, r3 2, r3 3, r3 4].getD (a - 59) 0)) (b := 63) hf1 (fun i hi => match i, hi with | 0, _ => rfl | 1, _ => rfl | 2, _ => rfl | 3, _ => rfl | 4, _ => rfl | i + 5, hi => absurd hi (by omega))]
  rw [outer_eq (r := r2) (ρ := (fun a => [h0, q1, q2, q3, r1 0, r1 1, r1 2, r1 3, r1 4, r2 0, r2 1, r2 2, r2 3, r2 4, r3 0, r3 1, r3 2, r3 3, r3 4].getD (a - 59) 0)) (b := 68) hf2 (fun i hi => match i, hi with | 0, _ => rfl | 1, _ => rfl | 2, _ => rfl | 3, _ => rfl | 4, _ => rfl | i + 5, hi => absurd hi (by omega))]
  rw [outer_eq (r := r3) (ρ := (fun a => [h0, q1, q2, q3, r1 0, r1 1, r1 2, r1 3, r1 4, r2 0, r2 1, r2 2, r2 3, r2 4, r3 0, r3 1, r3 2, r3 3, r3 4].getD (a - 59) 0)) (b := 73) hf3 (fun i hi => match i, hi with | 0, _ => rfl | 1, _ => rfl | 2, _ => rfl | 3, _ => rfl | 4, _ => rfl | i + 5, hi => absurd hi (by omega))]
  rw [seg_s 60 18 sh_59 rfl rfl, seg_s 61 17 sh_60 rfl rfl, seg_s 62 16 sh_61 rfl rfl, seg_s 63 15 sh_62 rfl rfl, seg_s 64 14 sh_63 rfl rfl, seg_s 65 13 sh_64 rfl rfl, seg_s 66 12 sh_65 rfl rfl, seg_s 67 11 sh_66 rfl rfl, seg_s 68 10 sh_67 rfl rfl, seg_s 69 9 sh_68 rfl rfl, seg_s 70 8 sh_69 rfl rfl, seg_s 71 7 sh_70 rfl rfl, seg_s 72 6 sh_71 rfl rfl, seg_s 73 5 sh_72 rfl rfl, seg_s 74 4 sh_73 rfl rfl, seg_s 75 3 sh_74 rfl rfl, seg_s 76 2 sh_75 rfl rfl, seg_s 77 1 sh_76 rfl rfl, seg_s 78 0 sh_77 rfl rfl, seg_0]
  rfl
set_option maxRecDepth 100000 in
set_option maxHeartbeats 4000000 in
theorem cn_X0 : Cn 1 0 0 yX0_init cX0_init 0 [.int 0, .int 0, .int 0, .int 0, .int 0] 78 1 := by
  refine cn_of (by decide +kernel) rfl (fun X h0 (h : Og X RX0 cX0_init 1 0 0) hr => ?_)
  refine g_aload0 h 1 rfl dX0_init_0 ?_
  refine g_oi h 4 rfl (ir_5 _ (List.mem_of_getElem? (i := 23) (by decide +kernel))) rfl dX0_init_1 ?_
  refine g_aload0 h 5 rfl dX0_init_4 ?_
  refine g_iconst h 6 rfl (nI 0) (by decide) dX0_init_5 ?_
  refine g_putI h 9 rfl plX0_9 (fs' := [.int (nI 0), .int 0, .int 0, .int 0, .int 0]) rfl (by decide) (by decide) rfl dX0_init_6 ?_
  refine g_vret h hr dX0_init_9 (fun a => [h0].getD (a - 78) 0) rfl ?_ rfl rfl
  rw [seg_s 79 0 sh_78 rfl rfl, seg_0]
  rfl
theorem ffX9_11 : Fl RX9 11 9 0 (.array .int) := ⟨_, _, _, _, kc_9, by decide, ir_6 _ (List.mem_of_getElem? (i := 5) (by decide +kernel)), rfl, rfl, by decide +kernel⟩
theorem ffX9_15 : Fl RX9 15 9 1 (.array .int) := ⟨_, _, _, _, kc_9, by decide, ir_6 _ (List.mem_of_getElem? (i := 6) (by decide +kernel)), rfl, rfl, by decide +kernel⟩
theorem ffX9_18 : Fl RX9 18 9 2 (.array .int) := ⟨_, _, _, _, kc_9, by decide, ir_6 _ (List.mem_of_getElem? (i := 7) (by decide +kernel)), rfl, rfl, by decide +kernel⟩
theorem ffX9_21 : Fl RX9 21 9 3 (.array .int) := ⟨_, _, _, _, kc_9, by decide, ir_6 _ (List.mem_of_getElem? (i := 8) (by decide +kernel)), rfl, rfl, by decide +kernel⟩
set_option maxRecDepth 100000 in
set_option maxHeartbeats 4000000 in
theorem cn_X9 : Cn 1 4 24 yX9_init cX9_init 9 [.null, .null, .null, .null, .int 0, .int 0, .int 0] 79 5 := by
  refine cn_of (by decide +kernel) rfl (fun X h0 (h : Og X RX9 cX9_init 1 4 24) hr => ?_)
  refine g_aload0 h 1 rfl dX9_init_0 ?_
  refine g_oi h 4 rfl (ir_6 _ (List.mem_of_getElem? (i := 4) (by decide +kernel))) rfl dX9_init_1 ?_
  refine g_aload0 h 5 rfl dX9_init_4 ?_
  refine g_bipush h 7 rfl (nI 6) (by decide) dX9_init_5 ?_
  refine g_newi h 9 rfl rfl rfl rfl dX9_init_7 (fun q1 => ?_)
  refine g_putR h hr 12 rfl ffX9_11 (fs' := [.ref (q1), .null, .null, .null, .int 0, .int 0, .int 0]) rfl rfl rfl rfl dX9_init_9 ?_
  refine g_aload0 h 13 rfl dX9_init_12 ?_
  refine g_bipush h 15 rfl (nI 6) (by decide) dX9_init_13 ?_
  refine g_newi h 17 rfl rfl rfl rfl dX9_init_15 (fun q2 => ?_)
  refine g_putR h hr 20 rfl ffX9_15 (fs' := [.ref (q1), .ref (q2), .null, .null, .int 0, .int 0, .int 0]) rfl rfl rfl rfl dX9_init_17 ?_
  refine g_aload0 h 21 rfl dX9_init_20 ?_
  refine g_bipush h 23 rfl (nI 6) (by decide) dX9_init_21 ?_
  refine g_newi h 25 rfl rfl rfl rfl dX9_init_23 (fun q3 => ?_)
  refine g_putR h hr 28 rfl ffX9_18 (fs' := [.ref (q1), .ref (q2), .ref (q3), .null, .int 0, .int 0, .int 0]) rfl rfl rfl rfl dX9_init_25 ?_
  refine g_aload0 h 29 rfl dX9_init_28 ?_
  refine g_bipush h 31 rfl (nI 6) (by decide) dX9_init_29 ?_
  refine g_newi h 33 rfl rfl rfl rfl dX9_init_31 (fun q4 => ?_)
  refine g_putR h hr 36 rfl ffX9_21 (fs' := [.ref (q1), .ref (q2), .ref (q3), .ref (q4), .int 0, .int 0, .int 0]) rfl rfl rfl rfl dX9_init_33 ?_
  refine g_aload0 h 37 rfl dX9_init_36 ?_
  refine g_iconst h 38 rfl (nI 0) (by decide) dX9_init_37 ?_
  refine g_putI h 41 rfl plX9_24 (fs' := [.ref (q1), .ref (q2), .ref (q3), .ref (q4), .int (nI 0), .int 0, .int 0]) rfl (by decide) (by decide) rfl dX9_init_38 ?_
  refine g_vret h hr dX9_init_41 (fun a => [h0, q1, q2, q3, q4].getD (a - 79) 0) rfl ?_ rfl rfl
  rw [seg_s 80 4 sh_79 rfl rfl, seg_s 81 3 sh_80 rfl rfl, seg_s 82 2 sh_81 rfl rfl, seg_s 83 1 sh_82 rfl rfl, seg_s 84 0 sh_83 rfl rfl, seg_0]
  rfl
theorem ffX2_11 : Fl RX2 11 2 0 (.array .int) := ⟨_, _, _, _, kc_2, by decide, ir_6 _ (List.mem_of_getElem? (i := 14) (by decide +kernel)), rfl, rfl, by decide +kernel⟩
theorem ffX2_15 : Fl RX2 15 2 1 (.array .int) := ⟨_, _, _, _, kc_2, by decide, ir_6 _ (List.mem_of_getElem? (i := 15) (by decide +kernel)), rfl, rfl, by decide +kernel⟩
theorem ffX2_18 : Fl RX2 18 2 2 (.array .int) := ⟨_, _, _, _, kc_2, by decide, ir_6 _ (List.mem_of_getElem? (i := 16) (by decide +kernel)), rfl, rfl, by decide +kernel⟩
set_option maxRecDepth 100000 in
set_option maxHeartbeats 4000000 in
theorem cn_X2 : Cn 1 3 24 yX2_init cX2_init 2 [.null, .null, .null, .int 0, .int 0, .int 0, .int 0, .int 0, .int 0] 84 4 := by
  refine cn_of (by decide +kernel) rfl (fun X h0 (h : Og X RX2 cX2_init 1 3 24) hr => ?_)
  refine g_aload0 h 1 rfl dX2_init_0 ?_
  refine g_oi h 4 rfl (ir_6 _ (List.mem_of_getElem? (i := 13) (by decide +kernel))) rfl dX2_init_1 ?_
  refine g_aload0 h 5 rfl dX2_init_4 ?_
  refine g_bipush h 7 rfl (nI 8) (by decide) dX2_init_5 ?_
  refine g_newi h 9 rfl rfl rfl rfl dX2_init_7 (fun q1 => ?_)
  refine g_putR h hr 12 rfl ffX2_11 (fs' := [.ref (q1), .null, .null, .int 0, .int 0, .int 0, .int 0, .int 0, .int 0]) rfl rfl rfl rfl dX2_init_9 ?_
  refine g_aload0 h 13 rfl dX2_init_12 ?_
  refine g_bipush h 15 rfl (nI 8) (by decide) dX2_init_13 ?_
  refine g_newi h 17 rfl rfl rfl rfl dX2_init_15 (fun q2 => ?_)
  refine g_putR h hr 20 rfl ffX2_15 (fs' := [.ref (q1), .ref (q2), .null, .int 0, .int 0, .int 0, .int 0, .int 0, .int 0]) rfl rfl rfl rfl dX2_init_17 ?_
  refine g_aload0 h 21 rfl dX2_init_20 ?_
  refine g_bipush h 23 rfl (nI 8) (by decide) dX2_init_21 ?_
  refine g_newi h 25 rfl rfl rfl rfl dX2_init_23 (fun q3 => ?_)
  refine g_putR h hr 28 rfl ffX2_18 (fs' := [.ref (q1), .ref (q2), .ref (q3), .int 0, .int 0, .int 0, .int 0, .int 0, .int 0]) rfl rfl rfl rfl dX2_init_25 ?_
  refine g_aload0 h 29 rfl dX2_init_28 ?_
  refine g_iconst h 30 rfl (nI 0) (by decide) dX2_init_29 ?_
  refine g_putI h 33 rfl plX2_21 (fs' := [.ref (q1), .ref (q2), .ref (q3), .int (nI 0), .int 0, .int 0, .int 0, .int 0, .int 0]) rfl (by decide) (by decide) rfl dX2_init_30 ?_
  refine g_aload0 h 34 rfl dX2_init_33 ?_
  refine g_iconst h 35 rfl (nI 0) (by decide) dX2_init_34 ?_
  refine g_putI h 38 rfl plX2_25 (fs' := [.ref (q1), .ref (q2), .ref (q3), .int (nI 0), .int (nI 0), .int 0, .int 0, .int 0, .int 0]) rfl (by decide) (by decide) rfl dX2_init_35 ?_
  refine g_vret h hr dX2_init_38 (fun a => [h0, q1, q2, q3].getD (a - 84) 0) rfl ?_ rfl rfl
  rw [seg_s 85 3 sh_84 rfl rfl, seg_s 86 2 sh_85 rfl rfl, seg_s 87 1 sh_86 rfl rfl, seg_s 88 0 sh_87 rfl rfl, seg_0]
  rfl
theorem ffX6_11 : Fl RX6 11 6 0 (.array .int) := ⟨_, _, _, _, kc_6, by decide, ir_6 _ (List.mem_of_getElem? (i := 23) (by decide +kernel)), rfl, rfl, by decide +kernel⟩
theorem ffX6_15 : Fl RX6 15 6 1 (.array .int) := ⟨_, _, _, _, kc_6, by decide, ir_7 _ (List.mem_of_getElem? (i := 0) (by decide +kernel)), rfl, rfl, by decide +kernel⟩
theorem ffX6_18 : Fl RX6 18 6 2 (.array .int) := ⟨_, _, _, _, kc_6, by decide, ir_7 _ (List.mem_of_getElem? (i := 1) (by decide +kernel)), rfl, rfl, by decide +kernel⟩
set_option maxRecDepth 100000 in
set_option maxHeartbeats 4000000 in
theorem cn_X6 : Cn 1 3 272 yX6_init cX6_init 6 [.null, .null, .null] 88 4 := by
  refine cn_of (by decide +kernel) rfl (fun X h0 (h : Og X RX6 cX6_init 1 3 272) hr => ?_)
  refine g_aload0 h 1 rfl dX6_init_0 ?_
  refine g_oi h 4 rfl (ir_6 _ (List.mem_of_getElem? (i := 22) (by decide +kernel))) rfl dX6_init_1 ?_
  refine g_aload0 h 5 rfl dX6_init_4 ?_
  refine g_bipush h 7 rfl (nI 8) (by decide) dX6_init_5 ?_
  refine g_newi h 9 rfl rfl rfl rfl dX6_init_7 (fun q1 => ?_)
  refine g_putR h hr 12 rfl ffX6_11 (fs' := [.ref (q1), .null, .null]) rfl rfl rfl rfl dX6_init_9 ?_
  refine g_aload0 h 13 rfl dX6_init_12 ?_
  refine g_bipush h 15 rfl (nI 8) (by decide) dX6_init_13 ?_
  refine g_newi h 17 rfl rfl rfl rfl dX6_init_15 (fun q2 => ?_)
  refine g_putR h hr 20 rfl ffX6_15 (fs' := [.ref (q1), .ref (q2), .null]) rfl rfl rfl rfl dX6_init_17 ?_
  refine g_aload0 h 21 rfl dX6_init_20 ?_
  refine g_sipush h 24 rfl (nI 256) (by decide) dX6_init_21 ?_
  refine g_newi h 26 rfl rfl rfl rfl dX6_init_24 (fun q3 => ?_)
  refine g_putR h hr 29 rfl ffX6_18 (fs' := [.ref (q1), .ref (q2), .ref (q3)]) rfl rfl rfl rfl dX6_init_26 ?_
  refine g_vret h hr dX6_init_29 (fun a => [h0, q1, q2, q3].getD (a - 88) 0) rfl ?_ rfl rfl
  rw [seg_s 89 3 sh_88 rfl rfl, seg_s 90 2 sh_89 rfl rfl, seg_s 91 1 sh_90 rfl rfl, seg_s 92 0 sh_91 rfl rfl, seg_0]
  rfl
set_option maxRecDepth 100000 in
set_option maxHeartbeats 4000000 in
theorem cn_X7 : Cn 1 0 0 yX7_init cX7_init 7 [.int 0, .int 0, .int 0, .int 0, .int 0, .int 0, .int 0, .int 0] 92 1 := by
  refine cn_of (by decide +kernel) rfl (fun X h0 (h : Og X RX7 cX7_init 1 0 0) hr => ?_)
  refine g_aload0 h 1 rfl dX7_init_0 ?_
  refine g_oi h 4 rfl (ir_7 _ (List.mem_of_getElem? (i := 5) (by decide +kernel))) rfl dX7_init_1 ?_
  refine g_aload0 h 5 rfl dX7_init_4 ?_
  refine g_iconst h 6 rfl (nI 0) (by decide) dX7_init_5 ?_
  refine g_putI h 9 rfl plX7_9 (fs' := [.int (nI 0), .int 0, .int 0, .int 0, .int 0, .int 0, .int 0, .int 0]) rfl (by decide) (by decide) rfl dX7_init_6 ?_
  refine g_vret h hr dX7_init_9 (fun a => [h0].getD (a - 92) 0) rfl ?_ rfl rfl
  rw [seg_s 93 0 sh_92 rfl rfl, seg_0]
  rfl
theorem ffX11_7 : Fl RX11 7 11 1 (.array .int) := ⟨_, _, _, _, kc_11, by decide, ir_7 _ (List.mem_of_getElem? (i := 11) (by decide +kernel)), rfl, rfl, by decide +kernel⟩
theorem ffX11_13 : Fl RX11 13 11 2 (.array .int) := ⟨_, _, _, _, kc_11, by decide, ir_7 _ (List.mem_of_getElem? (i := 12) (by decide +kernel)), rfl, rfl, by decide +kernel⟩
theorem ffX11_16 : Fl RX11 16 11 3 (.array .int) := ⟨_, _, _, _, kc_11, by decide, ir_7 _ (List.mem_of_getElem? (i := 13) (by decide +kernel)), rfl, rfl, by decide +kernel⟩
theorem ffX11_19 : Fl RX11 19 11 4 (.array .int) := ⟨_, _, _, _, kc_11, by decide, ir_7 _ (List.mem_of_getElem? (i := 14) (by decide +kernel)), rfl, rfl, by decide +kernel⟩
theorem ffX11_22 : Fl RX11 22 11 5 (.array .int) := ⟨_, _, _, _, kc_11, by decide, ir_7 _ (List.mem_of_getElem? (i := 15) (by decide +kernel)), rfl, rfl, by decide +kernel⟩
theorem ffX11_54 : Fl RX11 54 11 16 (.array .int) := ⟨_, _, _, _, kc_11, by decide, ir_8 _ (List.mem_of_getElem? (i := 2) (by decide +kernel)), rfl, rfl, by decide +kernel⟩
theorem ffX11_57 : Fl RX11 57 11 24 (.array .int) := ⟨_, _, _, _, kc_11, by decide, ir_8 _ (List.mem_of_getElem? (i := 3) (by decide +kernel)), rfl, rfl, by decide +kernel⟩
theorem ffX11_60 : Fl RX11 60 11 25 (.array .int) := ⟨_, _, _, _, kc_11, by decide, ir_8 _ (List.mem_of_getElem? (i := 4) (by decide +kernel)), rfl, rfl, by decide +kernel⟩
theorem ffX11_63 : Fl RX11 63 11 26 (.array .int) := ⟨_, _, _, _, kc_11, by decide, ir_8 _ (List.mem_of_getElem? (i := 5) (by decide +kernel)), rfl, rfl, by decide +kernel⟩
theorem ffX11_66 : Fl RX11 66 11 27 (.array .int) := ⟨_, _, _, _, kc_11, by decide, ir_8 _ (List.mem_of_getElem? (i := 6) (by decide +kernel)), rfl, rfl, by decide +kernel⟩
theorem ffX11_69 : Fl RX11 69 11 28 (.array .int) := ⟨_, _, _, _, kc_11, by decide, ir_8 _ (List.mem_of_getElem? (i := 7) (by decide +kernel)), rfl, rfl, by decide +kernel⟩
theorem ffX11_72 : Fl RX11 72 11 29 (.array .int) := ⟨_, _, _, _, kc_11, by decide, ir_8 _ (List.mem_of_getElem? (i := 8) (by decide +kernel)), rfl, rfl, by decide +kernel⟩
theorem ffX11_75 : Fl RX11 75 11 30 (.array .int) := ⟨_, _, _, _, kc_11, by decide, ir_8 _ (List.mem_of_getElem? (i := 9) (by decide +kernel)), rfl, rfl, by decide +kernel⟩
theorem ffX11_78 : Fl RX11 78 11 31 (.array .int) := ⟨_, _, _, _, kc_11, by decide, ir_8 _ (List.mem_of_getElem? (i := 10) (by decide +kernel)), rfl, rfl, by decide +kernel⟩
theorem ffX11_81 : Fl RX11 81 11 33 (.array .int) := ⟨_, _, _, _, kc_11, by decide, ir_8 _ (List.mem_of_getElem? (i := 11) (by decide +kernel)), rfl, rfl, by decide +kernel⟩
theorem ffX11_84 : Fl RX11 84 11 34 (.array .int) := ⟨_, _, _, _, kc_11, by decide, ir_8 _ (List.mem_of_getElem? (i := 12) (by decide +kernel)), rfl, rfl, by decide +kernel⟩
theorem ffX11_87 : Fl RX11 87 11 36 (.array .int) := ⟨_, _, _, _, kc_11, by decide, ir_8 _ (List.mem_of_getElem? (i := 13) (by decide +kernel)), rfl, rfl, by decide +kernel⟩
theorem ffX11_90 : Fl RX11 90 11 37 (.array .int) := ⟨_, _, _, _, kc_11, by decide, ir_8 _ (List.mem_of_getElem? (i := 14) (by decide +kernel)), rfl, rfl, by decide +kernel⟩
theorem ffX11_93 : Fl RX11 93 11 38 (.array .int) := ⟨_, _, _, _, kc_11, by decide, ir_8 _ (List.mem_of_getElem? (i := 15) (by decide +kernel)), rfl, rfl, by decide +kernel⟩
theorem ffX11_96 : Fl RX11 96 11 39 (.array .int) := ⟨_, _, _, _, kc_11, by decide, ir_8 _ (List.mem_of_getElem? (i := 16) (by decide +kernel)), rfl, rfl, by decide +kernel⟩
theorem ffX11_99 : Fl RX11 99 11 41 (.array .int) := ⟨_, _, _, _, kc_11, by decide, ir_8 _ (List.mem_of_getElem? (i := 17) (by decide +kernel)), rfl, rfl, by decide +kernel⟩
theorem ffX11_102 : Fl RX11 102 11 42 (.array .int) := ⟨_, _, _, _, kc_11, by decide, ir_8 _ (List.mem_of_getElem? (i := 18) (by decide +kernel)), rfl, rfl, by decide +kernel⟩
theorem ffX11_105 : Fl RX11 105 11 43 (.array .int) := ⟨_, _, _, _, kc_11, by decide, ir_8 _ (List.mem_of_getElem? (i := 19) (by decide +kernel)), rfl, rfl, by decide +kernel⟩
theorem ffX11_108 : Fl RX11 108 11 44 (.array .int) := ⟨_, _, _, _, kc_11, by decide, ir_8 _ (List.mem_of_getElem? (i := 20) (by decide +kernel)), rfl, rfl, by decide +kernel⟩
theorem ffX11_111 : Fl RX11 111 11 45 (.array .int) := ⟨_, _, _, _, kc_11, by decide, ir_8 _ (List.mem_of_getElem? (i := 21) (by decide +kernel)), rfl, rfl, by decide +kernel⟩
theorem ffX11_114 : Fl RX11 114 11 46 (.array .int) := ⟨_, _, _, _, kc_11, by decide, ir_8 _ (List.mem_of_getElem? (i := 22) (by decide +kernel)), rfl, rfl, by decide +kernel⟩
theorem ffX11_117 : Fl RX11 117 11 47 (.array .int) := ⟨_, _, _, _, kc_11, by decide, ir_8 _ (List.mem_of_getElem? (i := 23) (by decide +kernel)), rfl, rfl, by decide +kernel⟩
set_option maxRecDepth 100000 in
set_option maxHeartbeats 4000000 in
theorem cn_X11 : Cn 1 27 2103 yX11_init cX11_init 11 [.int 0, .null, .null, .null, .null, .null, .int 0, .int 0, .int 0, .int 0, .int 0, .int 0, .int 0, .int 0, .int 0, .int 0, .null, .int 0, .int 0, .long (mkL 0 0), .int 0, .int 0, .int 0, .int 0, .null, .null, .null, .null, .null, .null, .null, .null, .int 0, .null, .null, .int 0, .null, .null, .null, .null, .int 0, .null, .null, .null, .null, .null, .null, .null] 93 28 := by
  refine cn_of (by decide +kernel) rfl (fun X h0 (h : Og X RX11 cX11_init 1 27 2103) hr => ?_)
  refine g_aload0 h 1 rfl dX11_init_0 ?_
  refine g_oi h 4 rfl (ir_7 _ (List.mem_of_getElem? (i := 10) (by decide +kernel))) rfl dX11_init_1 ?_
  refine g_aload0 h 5 rfl dX11_init_4 ?_
  refine g_bipush h 7 rfl (nI 20) (by decide) dX11_init_5 ?_
  refine g_newi h 9 rfl rfl rfl rfl dX11_init_7 (fun q1 => ?_)
  refine g_putR h hr 12 rfl ffX11_7 (fs' := [.int 0, .ref (q1), .null, .null, .null, .null, .int 0, .int 0, .int 0, .int 0, .int 0, .int 0, .int 0, .int 0, .int 0, .int 0, .null, .int 0, .int 0, .long (mkL 0 0), .int 0, .int 0, .int 0, .int 0, .null, .null, .null, .null, .null, .null, .null, .null, .int 0, .null, .null, .int 0, .null, .null, .null, .null, .int 0, .null, .null, .null, .null, .null, .null, .null]) rfl rfl rfl rfl dX11_init_9 ?_
  refine g_aload0 h 13 rfl dX11_init_12 ?_
  refine g_iconst h 14 rfl (nI 5) (by decide) dX11_init_13 ?_
  refine g_newi h 16 rfl rfl rfl rfl dX11_init_14 (fun q2 => ?_)
  refine g_putR h hr 19 rfl ffX11_13 (fs' := [.int 0, .ref (q1), .ref (q2), .null, .null, .null, .int 0, .int 0, .int 0, .int 0, .int 0, .int 0, .int 0, .int 0, .int 0, .int 0, .null, .int 0, .int 0, .long (mkL 0 0), .int 0, .int 0, .int 0, .int 0, .null, .null, .null, .null, .null, .null, .null, .null, .int 0, .null, .null, .int 0, .null, .null, .null, .null, .int 0, .null, .null, .null, .null, .null, .null, .null]) rfl rfl rfl rfl dX11_init_16 ?_
  refine g_aload0 h 20 rfl dX11_init_19 ?_
  refine g_iconst h 21 rfl (nI 5) (by decide) dX11_init_20 ?_
  refine g_newi h 23 rfl rfl rfl rfl dX11_init_21 (fun q3 => ?_)
  refine g_putR h hr 26 rfl ffX11_16 (fs' := [.int 0, .ref (q1), .ref (q2), .ref (q3), .null, .null, .int 0, .int 0, .int 0, .int 0, .int 0, .int 0, .int 0, .int 0, .int 0, .int 0, .null, .int 0, .int 0, .long (mkL 0 0), .int 0, .int 0, .int 0, .int 0, .null, .null, .null, .null, .null, .null, .null, .null, .int 0, .null, .null, .int 0, .null, .null, .null, .null, .int 0, .null, .null, .null, .null, .null, .null, .null]) rfl rfl rfl rfl dX11_init_23 ?_
  refine g_aload0 h 27 rfl dX11_init_26 ?_
  refine g_iconst h 28 rfl (nI 5) (by decide) dX11_init_27 ?_
  refine g_newi h 30 rfl rfl rfl rfl dX11_init_28 (fun q4 => ?_)
  refine g_putR h hr 33 rfl ffX11_19 (fs' := [.int 0, .ref (q1), .ref (q2), .ref (q3), .ref (q4), .null, .int 0, .int 0, .int 0, .int 0, .int 0, .int 0, .int 0, .int 0, .int 0, .int 0, .null, .int 0, .int 0, .long (mkL 0 0), .int 0, .int 0, .int 0, .int 0, .null, .null, .null, .null, .null, .null, .null, .null, .int 0, .null, .null, .int 0, .null, .null, .null, .null, .int 0, .null, .null, .null, .null, .null, .null, .null]) rfl rfl rfl rfl dX11_init_30 ?_
  refine g_aload0 h 34 rfl dX11_init_33 ?_
  refine g_bipush h 36 rfl (nI 25) (by decide) dX11_init_34 ?_
  refine g_newi h 38 rfl rfl rfl rfl dX11_init_36 (fun q5 => ?_)
  refine g_putR h hr 41 rfl ffX11_22 (fs' := [.int 0, .ref (q1), .ref (q2), .ref (q3), .ref (q4), .ref (q5), .int 0, .int 0, .int 0, .int 0, .int 0, .int 0, .int 0, .int 0, .int 0, .int 0, .null, .int 0, .int 0, .long (mkL 0 0), .int 0, .int 0, .int 0, .int 0, .null, .null, .null, .null, .null, .null, .null, .null, .int 0, .null, .null, .int 0, .null, .null, .null, .null, .int 0, .null, .null, .null, .null, .null, .null, .null]) rfl rfl rfl rfl dX11_init_38 ?_
  refine g_aload0 h 42 rfl dX11_init_41 ?_
  refine g_sipush h 45 rfl (nI 200) (by decide) dX11_init_42 ?_
  refine g_putI h 48 rfl plX11_25 (fs' := [.int 0, .ref (q1), .ref (q2), .ref (q3), .ref (q4), .ref (q5), .int (nI 200), .int 0, .int 0, .int 0, .int 0, .int 0, .int 0, .int 0, .int 0, .int 0, .null, .int 0, .int 0, .long (mkL 0 0), .int 0, .int 0, .int 0, .int 0, .null, .null, .null, .null, .null, .null, .null, .null, .int 0, .null, .null, .int 0, .null, .null, .null, .null, .int 0, .null, .null, .null, .null, .null, .null, .null]) rfl (by decide) (by decide) rfl dX11_init_45 ?_
  refine g_aload0 h 49 rfl dX11_init_48 ?_
  refine g_sipush h 52 rfl (nI 320) (by decide) dX11_init_49 ?_
  refine g_putI h 55 rfl plX11_29 (fs' := [.int 0, .ref (q1), .ref (q2), .ref (q3), .ref (q4), .ref (q5), .int (nI 200), .int (nI 320), .int 0, .int 0, .int 0, .int 0, .int 0, .int 0, .int 0, .int 0, .null, .int 0, .int 0, .long (mkL 0 0), .int 0, .int 0, .int 0, .int 0, .null, .null, .null, .null, .null, .null, .null, .null, .int 0, .null, .null, .int 0, .null, .null, .null, .null, .int 0, .null, .null, .null, .null, .null, .null, .null]) rfl (by decide) (by decide) rfl dX11_init_52 ?_
  refine g_aload0 h 56 rfl dX11_init_55 ?_
  refine g_bipush h 58 rfl (nI 10) (by decide) dX11_init_56 ?_
  refine g_putI h 61 rfl plX11_32 (fs' := [.int 0, .ref (q1), .ref (q2), .ref (q3), .ref (q4), .ref (q5), .int (nI 200), .int (nI 320), .int (nI 10), .int 0, .int 0, .int 0, .int 0, .int 0, .int 0, .int 0, .null, .int 0, .int 0, .long (mkL 0 0), .int 0, .int 0, .int 0, .int 0, .null, .null, .null, .null, .null, .null, .null, .null, .int 0, .null, .null, .int 0, .null, .null, .null, .null, .int 0, .null, .null, .null, .null, .null, .null, .null]) rfl (by decide) (by decide) rfl dX11_init_58 ?_
  refine g_aload0 h 62 rfl dX11_init_61 ?_
  refine g_bipush h 64 rfl (nI 20) (by decide) dX11_init_62 ?_
  refine g_putI h 67 rfl plX11_35 (fs' := [.int 0, .ref (q1), .ref (q2), .ref (q3), .ref (q4), .ref (q5), .int (nI 200), .int (nI 320), .int (nI 10), .int (nI 20), .int 0, .int 0, .int 0, .int 0, .int 0, .int 0, .null, .int 0, .int 0, .long (mkL 0 0), .int 0, .int 0, .int 0, .int 0, .null, .null, .null, .null, .null, .null, .null, .null, .int 0, .null, .null, .int 0, .null, .null, .null, .null, .int 0, .null, .null, .null, .null, .null, .null, .null]) rfl (by decide) (by decide) rfl dX11_init_64 ?_
  refine g_aload0 h 68 rfl dX11_init_67 ?_
  refine g_bipush h 70 rfl (nI 20) (by decide) dX11_init_68 ?_
  refine g_putI h 73 rfl plX11_38 (fs' := [.int 0, .ref (q1), .ref (q2), .ref (q3), .ref (q4), .ref (q5), .int (nI 200), .int (nI 320), .int (nI 10), .int (nI 20), .int (nI 20), .int 0, .int 0, .int 0, .int 0, .int 0, .null, .int 0, .int 0, .long (mkL 0 0), .int 0, .int 0, .int 0, .int 0, .null, .null, .null, .null, .null, .null, .null, .null, .int 0, .null, .null, .int 0, .null, .null, .null, .null, .int 0, .null, .null, .null, .null, .null, .null, .null]) rfl (by decide) (by decide) rfl dX11_init_70 ?_
  refine g_aload0 h 74 rfl dX11_init_73 ?_
  refine g_bipush h 76 rfl (nI 10) (by decide) dX11_init_74 ?_
  refine g_putI h 79 rfl plX11_41 (fs' := [.int 0, .ref (q1), .ref (q2), .ref (q3), .ref (q4), .ref (q5), .int (nI 200), .int (nI 320), .int (nI 10), .int (nI 20), .int (nI 20), .int (nI 10), .int 0, .int 0, .int 0, .int 0, .null, .int 0, .int 0, .long (mkL 0 0), .int 0, .int 0, .int 0, .int 0, .null, .null, .null, .null, .null, .null, .null, .null, .int 0, .null, .null, .int 0, .null, .null, .null, .null, .int 0, .null, .null, .null, .null, .null, .null, .null]) rfl (by decide) (by decide) rfl dX11_init_76 ?_
  refine g_aload0 h 80 rfl dX11_init_79 ?_
  refine g_iconst h 81 rfl (nI 3) (by decide) dX11_init_80 ?_
  refine g_putI h 84 rfl plX11_44 (fs' := [.int 0, .ref (q1), .ref (q2), .ref (q3), .ref (q4), .ref (q5), .int (nI 200), .int (nI 320), .int (nI 10), .int (nI 20), .int (nI 20), .int (nI 10), .int (nI 3), .int 0, .int 0, .int 0, .null, .int 0, .int 0, .long (mkL 0 0), .int 0, .int 0, .int 0, .int 0, .null, .null, .null, .null, .null, .null, .null, .null, .int 0, .null, .null, .int 0, .null, .null, .null, .null, .int 0, .null, .null, .null, .null, .null, .null, .null]) rfl (by decide) (by decide) rfl dX11_init_81 ?_
  refine g_aload0 h 85 rfl dX11_init_84 ?_
  refine g_bipush h 87 rfl (nI 40) (by decide) dX11_init_85 ?_
  refine g_putI h 90 rfl plX11_47 (fs' := [.int 0, .ref (q1), .ref (q2), .ref (q3), .ref (q4), .ref (q5), .int (nI 200), .int (nI 320), .int (nI 10), .int (nI 20), .int (nI 20), .int (nI 10), .int (nI 3), .int (nI 40), .int 0, .int 0, .null, .int 0, .int 0, .long (mkL 0 0), .int 0, .int 0, .int 0, .int 0, .null, .null, .null, .null, .null, .null, .null, .null, .int 0, .null, .null, .int 0, .null, .null, .null, .null, .int 0, .null, .null, .null, .null, .null, .null, .null]) rfl (by decide) (by decide) rfl dX11_init_87 ?_
  refine g_aload0 h 91 rfl dX11_init_90 ?_
  refine g_ldc h 93 rfl (nI 16777215) cnX11_50 dX11_init_91 ?_
  refine g_putI h 96 rfl plX11_51 (fs' := [.int 0, .ref (q1), .ref (q2), .ref (q3), .ref (q4), .ref (q5), .int (nI 200), .int (nI 320), .int (nI 10), .int (nI 20), .int (nI 20), .int (nI 10), .int (nI 3), .int (nI 40), .int (nI 16777215), .int 0, .null, .int 0, .int 0, .long (mkL 0 0), .int 0, .int 0, .int 0, .int 0, .null, .null, .null, .null, .null, .null, .null, .null, .int 0, .null, .null, .int 0, .null, .null, .null, .null, .int 0, .null, .null, .null, .null, .null, .null, .null]) rfl (by decide) (by decide) rfl dX11_init_93 ?_
  refine g_aload0 h 97 rfl dX11_init_96 ?_
  refine g_sipush h 100 rfl (nI 200) (by decide) dX11_init_97 ?_
  refine g_newi h 102 rfl rfl rfl rfl dX11_init_100 (fun q6 => ?_)
  refine g_putR h hr 105 rfl ffX11_54 (fs' := [.int 0, .ref (q1), .ref (q2), .ref (q3), .ref (q4), .ref (q5), .int (nI 200), .int (nI 320), .int (nI 10), .int (nI 20), .int (nI 20), .int (nI 10), .int (nI 3), .int (nI 40), .int (nI 16777215), .int 0, .ref (q6), .int 0, .int 0, .long (mkL 0 0), .int 0, .int 0, .int 0, .int 0, .null, .null, .null, .null, .null, .null, .null, .null, .int 0, .null, .null, .int 0, .null, .null, .null, .null, .int 0, .null, .null, .null, .null, .null, .null, .null]) rfl rfl rfl rfl dX11_init_102 ?_
  refine g_aload0 h 106 rfl dX11_init_105 ?_
  refine g_bipush h 108 rfl (nI 48) (by decide) dX11_init_106 ?_
  refine g_newi h 110 rfl rfl rfl rfl dX11_init_108 (fun q7 => ?_)
  refine g_putR h hr 113 rfl ffX11_57 (fs' := [.int 0, .ref (q1), .ref (q2), .ref (q3), .ref (q4), .ref (q5), .int (nI 200), .int (nI 320), .int (nI 10), .int (nI 20), .int (nI 20), .int (nI 10), .int (nI 3), .int (nI 40), .int (nI 16777215), .int 0, .ref (q6), .int 0, .int 0, .long (mkL 0 0), .int 0, .int 0, .int 0, .int 0, .ref (q7), .null, .null, .null, .null, .null, .null, .null, .int 0, .null, .null, .int 0, .null, .null, .null, .null, .int 0, .null, .null, .null, .null, .null, .null, .null]) rfl rfl rfl rfl dX11_init_110 ?_
  refine g_aload0 h 114 rfl dX11_init_113 ?_
  refine g_sipush h 117 rfl (nI 480) (by decide) dX11_init_114 ?_
  refine g_newi h 119 rfl rfl rfl rfl dX11_init_117 (fun q8 => ?_)
  refine g_putR h hr 122 rfl ffX11_60 (fs' := [.int 0, .ref (q1), .ref (q2), .ref (q3), .ref (q4), .ref (q5), .int (nI 200), .int (nI 320), .int (nI 10), .int (nI 20), .int (nI 20), .int (nI 10), .int (nI 3), .int (nI 40), .int (nI 16777215), .int 0, .ref (q6), .int 0, .int 0, .long (mkL 0 0), .int 0, .int 0, .int 0, .int 0, .ref (q7), .ref (q8), .null, .null, .null, .null, .null, .null, .int 0, .null, .null, .int 0, .null, .null, .null, .null, .int 0, .null, .null, .null, .null, .null, .null, .null]) rfl rfl rfl rfl dX11_init_119 ?_
  refine g_aload0 h 123 rfl dX11_init_122 ?_
  refine g_sipush h 126 rfl (nI 480) (by decide) dX11_init_123 ?_
  refine g_newi h 128 rfl rfl rfl rfl dX11_init_126 (fun q9 => ?_)
  refine g_putR h hr 131 rfl ffX11_63 (fs' := [.int 0, .ref (q1), .ref (q2), .ref (q3), .ref (q4), .ref (q5), .int (nI 200), .int (nI 320), .int (nI 10), .int (nI 20), .int (nI 20), .int (nI 10), .int (nI 3), .int (nI 40), .int (nI 16777215), .int 0, .ref (q6), .int 0, .int 0, .long (mkL 0 0), .int 0, .int 0, .int 0, .int 0, .ref (q7), .ref (q8), .ref (q9), .null, .null, .null, .null, .null, .int 0, .null, .null, .int 0, .null, .null, .null, .null, .int 0, .null, .null, .null, .null, .null, .null, .null]) rfl rfl rfl rfl dX11_init_128 ?_
  refine g_aload0 h 132 rfl dX11_init_131 ?_
  refine g_sipush h 135 rfl (nI 480) (by decide) dX11_init_132 ?_
  refine g_newi h 137 rfl rfl rfl rfl dX11_init_135 (fun q10 => ?_)
  refine g_putR h hr 140 rfl ffX11_66 (fs' := [.int 0, .ref (q1), .ref (q2), .ref (q3), .ref (q4), .ref (q5), .int (nI 200), .int (nI 320), .int (nI 10), .int (nI 20), .int (nI 20), .int (nI 10), .int (nI 3), .int (nI 40), .int (nI 16777215), .int 0, .ref (q6), .int 0, .int 0, .long (mkL 0 0), .int 0, .int 0, .int 0, .int 0, .ref (q7), .ref (q8), .ref (q9), .ref (q10), .null, .null, .null, .null, .int 0, .null, .null, .int 0, .null, .null, .null, .null, .int 0, .null, .null, .null, .null, .null, .null, .null]) rfl rfl rfl rfl dX11_init_137 ?_
  refine g_aload0 h 141 rfl dX11_init_140 ?_
  refine g_iconst h 142 rfl (nI 5) (by decide) dX11_init_141 ?_
  refine g_newi h 144 rfl rfl rfl rfl dX11_init_142 (fun q11 => ?_)
  refine g_putR h hr 147 rfl ffX11_69 (fs' := [.int 0, .ref (q1), .ref (q2), .ref (q3), .ref (q4), .ref (q5), .int (nI 200), .int (nI 320), .int (nI 10), .int (nI 20), .int (nI 20), .int (nI 10), .int (nI 3), .int (nI 40), .int (nI 16777215), .int 0, .ref (q6), .int 0, .int 0, .long (mkL 0 0), .int 0, .int 0, .int 0, .int 0, .ref (q7), .ref (q8), .ref (q9), .ref (q10), .ref (q11), .null, .null, .null, .int 0, .null, .null, .int 0, .null, .null, .null, .null, .int 0, .null, .null, .null, .null, .null, .null, .null]) rfl rfl rfl rfl dX11_init_144 ?_
  refine g_aload0 h 148 rfl dX11_init_147 ?_
  refine g_iconst h 149 rfl (nI 5) (by decide) dX11_init_148 ?_
  refine g_newi h 151 rfl rfl rfl rfl dX11_init_149 (fun q12 => ?_)
  refine g_putR h hr 154 rfl ffX11_72 (fs' := [.int 0, .ref (q1), .ref (q2), .ref (q3), .ref (q4), .ref (q5), .int (nI 200), .int (nI 320), .int (nI 10), .int (nI 20), .int (nI 20), .int (nI 10), .int (nI 3), .int (nI 40), .int (nI 16777215), .int 0, .ref (q6), .int 0, .int 0, .long (mkL 0 0), .int 0, .int 0, .int 0, .int 0, .ref (q7), .ref (q8), .ref (q9), .ref (q10), .ref (q11), .ref (q12), .null, .null, .int 0, .null, .null, .int 0, .null, .null, .null, .null, .int 0, .null, .null, .null, .null, .null, .null, .null]) rfl rfl rfl rfl dX11_init_151 ?_
  refine g_aload0 h 155 rfl dX11_init_154 ?_
  refine g_iconst h 156 rfl (nI 5) (by decide) dX11_init_155 ?_
  refine g_newi h 158 rfl rfl rfl rfl dX11_init_156 (fun q13 => ?_)
  refine g_putR h hr 161 rfl ffX11_75 (fs' := [.int 0, .ref (q1), .ref (q2), .ref (q3), .ref (q4), .ref (q5), .int (nI 200), .int (nI 320), .int (nI 10), .int (nI 20), .int (nI 20), .int (nI 10), .int (nI 3), .int (nI 40), .int (nI 16777215), .int 0, .ref (q6), .int 0, .int 0, .long (mkL 0 0), .int 0, .int 0, .int 0, .int 0, .ref (q7), .ref (q8), .ref (q9), .ref (q10), .ref (q11), .ref (q12), .ref (q13), .null, .int 0, .null, .null, .int 0, .null, .null, .null, .null, .int 0, .null, .null, .null, .null, .null, .null, .null]) rfl rfl rfl rfl dX11_init_158 ?_
  refine g_aload0 h 162 rfl dX11_init_161 ?_
  refine g_iconst h 163 rfl (nI 5) (by decide) dX11_init_162 ?_
  refine g_newi h 165 rfl rfl rfl rfl dX11_init_163 (fun q14 => ?_)
  refine g_putR h hr 168 rfl ffX11_78 (fs' := [.int 0, .ref (q1), .ref (q2), .ref (q3), .ref (q4), .ref (q5), .int (nI 200), .int (nI 320), .int (nI 10), .int (nI 20), .int (nI 20), .int (nI 10), .int (nI 3), .int (nI 40), .int (nI 16777215), .int 0, .ref (q6), .int 0, .int 0, .long (mkL 0 0), .int 0, .int 0, .int 0, .int 0, .ref (q7), .ref (q8), .ref (q9), .ref (q10), .ref (q11), .ref (q12), .ref (q13), .ref (q14), .int 0, .null, .null, .int 0, .null, .null, .null, .null, .int 0, .null, .null, .null, .null, .null, .null, .null]) rfl rfl rfl rfl dX11_init_165 ?_
  refine g_aload0 h 169 rfl dX11_init_168 ?_
  refine g_iconst h 170 rfl (nI 5) (by decide) dX11_init_169 ?_
  refine g_newi h 172 rfl rfl rfl rfl dX11_init_170 (fun q15 => ?_)
  refine g_putR h hr 175 rfl ffX11_81 (fs' := [.int 0, .ref (q1), .ref (q2), .ref (q3), .ref (q4), .ref (q5), .int (nI 200), .int (nI 320), .int (nI 10), .int (nI 20), .int (nI 20), .int (nI 10), .int (nI 3), .int (nI 40), .int (nI 16777215), .int 0, .ref (q6), .int 0, .int 0, .long (mkL 0 0), .int 0, .int 0, .int 0, .int 0, .ref (q7), .ref (q8), .ref (q9), .ref (q10), .ref (q11), .ref (q12), .ref (q13), .ref (q14), .int 0, .ref (q15), .null, .int 0, .null, .null, .null, .null, .int 0, .null, .null, .null, .null, .null, .null, .null]) rfl rfl rfl rfl dX11_init_172 ?_
  refine g_aload0 h 176 rfl dX11_init_175 ?_
  refine g_iconst h 177 rfl (nI 5) (by decide) dX11_init_176 ?_
  refine g_newi h 179 rfl rfl rfl rfl dX11_init_177 (fun q16 => ?_)
  refine g_putR h hr 182 rfl ffX11_84 (fs' := [.int 0, .ref (q1), .ref (q2), .ref (q3), .ref (q4), .ref (q5), .int (nI 200), .int (nI 320), .int (nI 10), .int (nI 20), .int (nI 20), .int (nI 10), .int (nI 3), .int (nI 40), .int (nI 16777215), .int 0, .ref (q6), .int 0, .int 0, .long (mkL 0 0), .int 0, .int 0, .int 0, .int 0, .ref (q7), .ref (q8), .ref (q9), .ref (q10), .ref (q11), .ref (q12), .ref (q13), .ref (q14), .int 0, .ref (q15), .ref (q16), .int 0, .null, .null, .null, .null, .int 0, .null, .null, .null, .null, .null, .null, .null]) rfl rfl rfl rfl dX11_init_179 ?_
  refine g_aload0 h 183 rfl dX11_init_182 ?_
  refine g_bipush h 185 rfl (nI 6) (by decide) dX11_init_183 ?_
  refine g_newi h 187 rfl rfl rfl rfl dX11_init_185 (fun q17 => ?_)
  refine g_putR h hr 190 rfl ffX11_87 (fs' := [.int 0, .ref (q1), .ref (q2), .ref (q3), .ref (q4), .ref (q5), .int (nI 200), .int (nI 320), .int (nI 10), .int (nI 20), .int (nI 20), .int (nI 10), .int (nI 3), .int (nI 40), .int (nI 16777215), .int 0, .ref (q6), .int 0, .int 0, .long (mkL 0 0), .int 0, .int 0, .int 0, .int 0, .ref (q7), .ref (q8), .ref (q9), .ref (q10), .ref (q11), .ref (q12), .ref (q13), .ref (q14), .int 0, .ref (q15), .ref (q16), .int 0, .ref (q17), .null, .null, .null, .int 0, .null, .null, .null, .null, .null, .null, .null]) rfl rfl rfl rfl dX11_init_187 ?_
  refine g_aload0 h 191 rfl dX11_init_190 ?_
  refine g_bipush h 193 rfl (nI 6) (by decide) dX11_init_191 ?_
  refine g_newi h 195 rfl rfl rfl rfl dX11_init_193 (fun q18 => ?_)
  refine g_putR h hr 198 rfl ffX11_90 (fs' := [.int 0, .ref (q1), .ref (q2), .ref (q3), .ref (q4), .ref (q5), .int (nI 200), .int (nI 320), .int (nI 10), .int (nI 20), .int (nI 20), .int (nI 10), .int (nI 3), .int (nI 40), .int (nI 16777215), .int 0, .ref (q6), .int 0, .int 0, .long (mkL 0 0), .int 0, .int 0, .int 0, .int 0, .ref (q7), .ref (q8), .ref (q9), .ref (q10), .ref (q11), .ref (q12), .ref (q13), .ref (q14), .int 0, .ref (q15), .ref (q16), .int 0, .ref (q17), .ref (q18), .null, .null, .int 0, .null, .null, .null, .null, .null, .null, .null]) rfl rfl rfl rfl dX11_init_195 ?_
  refine g_aload0 h 199 rfl dX11_init_198 ?_
  refine g_bipush h 201 rfl (nI 6) (by decide) dX11_init_199 ?_
  refine g_newi h 203 rfl rfl rfl rfl dX11_init_201 (fun q19 => ?_)
  refine g_putR h hr 206 rfl ffX11_93 (fs' := [.int 0, .ref (q1), .ref (q2), .ref (q3), .ref (q4), .ref (q5), .int (nI 200), .int (nI 320), .int (nI 10), .int (nI 20), .int (nI 20), .int (nI 10), .int (nI 3), .int (nI 40), .int (nI 16777215), .int 0, .ref (q6), .int 0, .int 0, .long (mkL 0 0), .int 0, .int 0, .int 0, .int 0, .ref (q7), .ref (q8), .ref (q9), .ref (q10), .ref (q11), .ref (q12), .ref (q13), .ref (q14), .int 0, .ref (q15), .ref (q16), .int 0, .ref (q17), .ref (q18), .ref (q19), .null, .int 0, .null, .null, .null, .null, .null, .null, .null]) rfl rfl rfl rfl dX11_init_203 ?_
  refine g_aload0 h 207 rfl dX11_init_206 ?_
  refine g_bipush h 209 rfl (nI 6) (by decide) dX11_init_207 ?_
  refine g_newi h 211 rfl rfl rfl rfl dX11_init_209 (fun q20 => ?_)
  refine g_putR h hr 214 rfl ffX11_96 (fs' := [.int 0, .ref (q1), .ref (q2), .ref (q3), .ref (q4), .ref (q5), .int (nI 200), .int (nI 320), .int (nI 10), .int (nI 20), .int (nI 20), .int (nI 10), .int (nI 3), .int (nI 40), .int (nI 16777215), .int 0, .ref (q6), .int 0, .int 0, .long (mkL 0 0), .int 0, .int 0, .int 0, .int 0, .ref (q7), .ref (q8), .ref (q9), .ref (q10), .ref (q11), .ref (q12), .ref (q13), .ref (q14), .int 0, .ref (q15), .ref (q16), .int 0, .ref (q17), .ref (q18), .ref (q19), .ref (q20), .int 0, .null, .null, .null, .null, .null, .null, .null]) rfl rfl rfl rfl dX11_init_211 ?_
  refine g_aload0 h 215 rfl dX11_init_214 ?_
  refine g_bipush h 217 rfl (nI 8) (by decide) dX11_init_215 ?_
  refine g_newi h 219 rfl rfl rfl rfl dX11_init_217 (fun q21 => ?_)
  refine g_putR h hr 222 rfl ffX11_99 (fs' := [.int 0, .ref (q1), .ref (q2), .ref (q3), .ref (q4), .ref (q5), .int (nI 200), .int (nI 320), .int (nI 10), .int (nI 20), .int (nI 20), .int (nI 10), .int (nI 3), .int (nI 40), .int (nI 16777215), .int 0, .ref (q6), .int 0, .int 0, .long (mkL 0 0), .int 0, .int 0, .int 0, .int 0, .ref (q7), .ref (q8), .ref (q9), .ref (q10), .ref (q11), .ref (q12), .ref (q13), .ref (q14), .int 0, .ref (q15), .ref (q16), .int 0, .ref (q17), .ref (q18), .ref (q19), .ref (q20), .int 0, .ref (q21), .null, .null, .null, .null, .null, .null]) rfl rfl rfl rfl dX11_init_219 ?_
  refine g_aload0 h 223 rfl dX11_init_222 ?_
  refine g_bipush h 225 rfl (nI 8) (by decide) dX11_init_223 ?_
  refine g_newi h 227 rfl rfl rfl rfl dX11_init_225 (fun q22 => ?_)
  refine g_putR h hr 230 rfl ffX11_102 (fs' := [.int 0, .ref (q1), .ref (q2), .ref (q3), .ref (q4), .ref (q5), .int (nI 200), .int (nI 320), .int (nI 10), .int (nI 20), .int (nI 20), .int (nI 10), .int (nI 3), .int (nI 40), .int (nI 16777215), .int 0, .ref (q6), .int 0, .int 0, .long (mkL 0 0), .int 0, .int 0, .int 0, .int 0, .ref (q7), .ref (q8), .ref (q9), .ref (q10), .ref (q11), .ref (q12), .ref (q13), .ref (q14), .int 0, .ref (q15), .ref (q16), .int 0, .ref (q17), .ref (q18), .ref (q19), .ref (q20), .int 0, .ref (q21), .ref (q22), .null, .null, .null, .null, .null]) rfl rfl rfl rfl dX11_init_227 ?_
  refine g_aload0 h 231 rfl dX11_init_230 ?_
  refine g_bipush h 233 rfl (nI 8) (by decide) dX11_init_231 ?_
  refine g_newi h 235 rfl rfl rfl rfl dX11_init_233 (fun q23 => ?_)
  refine g_putR h hr 238 rfl ffX11_105 (fs' := [.int 0, .ref (q1), .ref (q2), .ref (q3), .ref (q4), .ref (q5), .int (nI 200), .int (nI 320), .int (nI 10), .int (nI 20), .int (nI 20), .int (nI 10), .int (nI 3), .int (nI 40), .int (nI 16777215), .int 0, .ref (q6), .int 0, .int 0, .long (mkL 0 0), .int 0, .int 0, .int 0, .int 0, .ref (q7), .ref (q8), .ref (q9), .ref (q10), .ref (q11), .ref (q12), .ref (q13), .ref (q14), .int 0, .ref (q15), .ref (q16), .int 0, .ref (q17), .ref (q18), .ref (q19), .ref (q20), .int 0, .ref (q21), .ref (q22), .ref (q23), .null, .null, .null, .null]) rfl rfl rfl rfl dX11_init_235 ?_
  refine g_aload0 h 239 rfl dX11_init_238 ?_
  refine g_bipush h 241 rfl (nI 8) (by decide) dX11_init_239 ?_
  refine g_newi h 243 rfl rfl rfl rfl dX11_init_241 (fun q24 => ?_)
  refine g_putR h hr 246 rfl ffX11_108 (fs' := [.int 0, .ref (q1), .ref (q2), .ref (q3), .ref (q4), .ref (q5), .int (nI 200), .int (nI 320), .int (nI 10), .int (nI 20), .int (nI 20), .int (nI 10), .int (nI 3), .int (nI 40), .int (nI 16777215), .int 0, .ref (q6), .int 0, .int 0, .long (mkL 0 0), .int 0, .int 0, .int 0, .int 0, .ref (q7), .ref (q8), .ref (q9), .ref (q10), .ref (q11), .ref (q12), .ref (q13), .ref (q14), .int 0, .ref (q15), .ref (q16), .int 0, .ref (q17), .ref (q18), .ref (q19), .ref (q20), .int 0, .ref (q21), .ref (q22), .ref (q23), .ref (q24), .null, .null, .null]) rfl rfl rfl rfl dX11_init_243 ?_
  refine g_aload0 h 247 rfl dX11_init_246 ?_
  refine g_bipush h 249 rfl (nI 8) (by decide) dX11_init_247 ?_
  refine g_newi h 251 rfl rfl rfl rfl dX11_init_249 (fun q25 => ?_)
  refine g_putR h hr 254 rfl ffX11_111 (fs' := [.int 0, .ref (q1), .ref (q2), .ref (q3), .ref (q4), .ref (q5), .int (nI 200), .int (nI 320), .int (nI 10), .int (nI 20), .int (nI 20), .int (nI 10), .int (nI 3), .int (nI 40), .int (nI 16777215), .int 0, .ref (q6), .int 0, .int 0, .long (mkL 0 0), .int 0, .int 0, .int 0, .int 0, .ref (q7), .ref (q8), .ref (q9), .ref (q10), .ref (q11), .ref (q12), .ref (q13), .ref (q14), .int 0, .ref (q15), .ref (q16), .int 0, .ref (q17), .ref (q18), .ref (q19), .ref (q20), .int 0, .ref (q21), .ref (q22), .ref (q23), .ref (q24), .ref (q25), .null, .null]) rfl rfl rfl rfl dX11_init_251 ?_
  refine g_aload0 h 255 rfl dX11_init_254 ?_
  refine g_sipush h 258 rfl (nI 256) (by decide) dX11_init_255 ?_
  refine g_newi h 260 rfl rfl rfl rfl dX11_init_258 (fun q26 => ?_)
  refine g_putR h hr 263 rfl ffX11_114 (fs' := [.int 0, .ref (q1), .ref (q2), .ref (q3), .ref (q4), .ref (q5), .int (nI 200), .int (nI 320), .int (nI 10), .int (nI 20), .int (nI 20), .int (nI 10), .int (nI 3), .int (nI 40), .int (nI 16777215), .int 0, .ref (q6), .int 0, .int 0, .long (mkL 0 0), .int 0, .int 0, .int 0, .int 0, .ref (q7), .ref (q8), .ref (q9), .ref (q10), .ref (q11), .ref (q12), .ref (q13), .ref (q14), .int 0, .ref (q15), .ref (q16), .int 0, .ref (q17), .ref (q18), .ref (q19), .ref (q20), .int 0, .ref (q21), .ref (q22), .ref (q23), .ref (q24), .ref (q25), .ref (q26), .null]) rfl rfl rfl rfl dX11_init_260 ?_
  refine g_aload0 h 264 rfl dX11_init_263 ?_
  refine g_iconst h 265 rfl (nI 5) (by decide) dX11_init_264 ?_
  refine g_newi h 267 rfl rfl rfl rfl dX11_init_265 (fun q27 => ?_)
  refine g_putR h hr 270 rfl ffX11_117 (fs' := [.int 0, .ref (q1), .ref (q2), .ref (q3), .ref (q4), .ref (q5), .int (nI 200), .int (nI 320), .int (nI 10), .int (nI 20), .int (nI 20), .int (nI 10), .int (nI 3), .int (nI 40), .int (nI 16777215), .int 0, .ref (q6), .int 0, .int 0, .long (mkL 0 0), .int 0, .int 0, .int 0, .int 0, .ref (q7), .ref (q8), .ref (q9), .ref (q10), .ref (q11), .ref (q12), .ref (q13), .ref (q14), .int 0, .ref (q15), .ref (q16), .int 0, .ref (q17), .ref (q18), .ref (q19), .ref (q20), .int 0, .ref (q21), .ref (q22), .ref (q23), .ref (q24), .ref (q25), .ref (q26), .ref (q27)]) rfl rfl rfl rfl dX11_init_267 ?_
  obtain ⟨ρ, rfl, rfl, rfl, rfl, rfl, rfl, rfl, rfl, rfl, rfl, rfl, rfl, rfl, rfl, rfl, rfl, rfl, rfl, rfl, rfl, rfl, rfl, rfl, rfl, rfl, rfl, rfl, rfl⟩ : ∃ ρ : Nat → Nat, ρ 93 = h0 ∧ ρ 94 = q1 ∧ ρ 95 = q2 ∧ ρ 96 = q3 ∧ ρ 97 = q4 ∧ ρ 98 = q5 ∧ ρ 99 = q6 ∧ ρ 100 = q7 ∧ ρ 101 = q8 ∧ ρ 102 = q9 ∧ ρ 103 = q10 ∧ ρ 104 = q11 ∧ ρ 105 = q12 ∧ ρ 106 = q13 ∧ ρ 107 = q14 ∧ ρ 108 = q15 ∧ ρ 109 = q16 ∧ ρ 110 = q17 ∧ ρ 111 = q18 ∧ ρ 112 = q19 ∧ ρ 113 = q20 ∧ ρ 114 = q21 ∧ ρ 115 = q22 ∧ ρ 116 = q23 ∧ ρ 117 = q24 ∧ ρ 118 = q25 ∧ ρ 119 = q26 ∧ ρ 120 = q27 := ⟨(fun a => [h0, q1, q2, q3, q4, q5, q6, q7, q8, q9, q10, q11, q12, q13, q14, q15, q16, q17, q18, q19, q20, q21, q22, q23, q24, q25, q26, q27].getD (a - 93) 0), rfl, rfl, rfl, rfl, rfl, rfl, rfl, rfl, rfl, rfl, rfl, rfl, rfl, rfl, rfl, rfl, rfl, rfl, rfl, rfl, rfl, rfl, rfl, rfl, rfl, rfl, rfl, rfl⟩
  refine g_vret h hr dX11_init_270 ρ rfl ?_ rfl rfl
  simp only [List.nil_append, List.append_assoc, List.cons_append, List.singleton_append]
  refine seg_c 94 27 sh_93 rfl rfl (congrArg (Prod.mk (ρ 93)) (congrArg Sum.inr (congrArg (Prod.mk 11) cell_93.symm))) ?_
  refine seg_c 95 26 sh_94 rfl rfl rfl ?_
  refine seg_c 96 25 sh_95 rfl rfl rfl ?_
  refine seg_c 97 24 sh_96 rfl rfl rfl ?_
  refine seg_c 98 23 sh_97 rfl rfl rfl ?_
  refine seg_c 99 22 sh_98 rfl rfl rfl ?_
  refine seg_c 100 21 sh_99 rfl rfl rfl ?_
  refine seg_c 101 20 sh_100 rfl rfl rfl ?_
  refine seg_c 102 19 sh_101 rfl rfl rfl ?_
  refine seg_c 103 18 sh_102 rfl rfl rfl ?_
  refine seg_c 104 17 sh_103 rfl rfl rfl ?_
  refine seg_c 105 16 sh_104 rfl rfl rfl ?_
  refine seg_c 106 15 sh_105 rfl rfl rfl ?_
  refine seg_c 107 14 sh_106 rfl rfl rfl ?_
  refine seg_c 108 13 sh_107 rfl rfl rfl ?_
  refine seg_c 109 12 sh_108 rfl rfl rfl ?_
  refine seg_c 110 11 sh_109 rfl rfl rfl ?_
  refine seg_c 111 10 sh_110 rfl rfl rfl ?_
  refine seg_c 112 9 sh_111 rfl rfl rfl ?_
  refine seg_c 113 8 sh_112 rfl rfl rfl ?_
  refine seg_c 114 7 sh_113 rfl rfl rfl ?_
  refine seg_c 115 6 sh_114 rfl rfl rfl ?_
  refine seg_c 116 5 sh_115 rfl rfl rfl ?_
  refine seg_c 117 4 sh_116 rfl rfl rfl ?_
  refine seg_c 118 3 sh_117 rfl rfl rfl ?_
  refine seg_c 119 2 sh_118 rfl rfl rfl ?_
  refine seg_c 120 1 sh_119 rfl rfl rfl ?_
  refine seg_c 121 0 sh_120 rfl rfl rfl ?_
  exact seg_0.symm
theorem g_newC {X : gC} {own : String} {cc : ByteArray} {d nc ns pc : Nat} {lvs : List (Nat × Value)} {st : List Value} {w0 : Nat × va_E} {tl : va_W} {kc ks : Nat} (h : Og X own cc d nc ns) (q : Nat) (hq : pc + 3 = q) {ix ci N : Nat} {C : String} {T : u_T} {ty : Nat → FieldType} (fs : List Value) (hkc : Kc ci C T N ty) (hcl : Cond.classLink own ix C ∈ wsL_law) (hinst : Cond.instantiable C N ∈ wsL_law) (hini : Cond.initialized C ∈ wsL_law) (hfs : ∀ j, j < N → defaultValue (ty j) = vp_V fs j) (hk1 : Nat.ble (kc + 1) nc = true) (hk2 : Nat.ble (ks + N) ns = true) (hd : decode cc pc = .ok (.new ix, 3)) (kk : ∀ a, G X lvs q (.ref a :: st) (w0 :: (tl ++ [(a, .inr (ci, fs))])) (kc + 1) (ks + N)) : G X lvs pc st (w0 :: tl) kc ks := g_new h q hq fs hkc hcl hinst hini hfs hk1 hk2 hd kk
theorem g_initC {X : gC} {own : String} {cc : ByteArray} {d nc ns pc : Nat} {lvs : List (Nat × Value)} {st : List Value} {w0 : Nat × va_E} {tl : va_W} {kc ks : Nat} (h : Og X own cc d nc ns) (q : Nat) (hq : pc + 3 = q) {ix ci lo n d' nc' ns' a : Nat} {y : MethodName} {yc : ByteArray} {fs : List Value} (hct : Cn d' nc' ns' y yc ci fs lo n) (hm : Mi y yc) (hlk : Cond.methodLink own ix y ∈ wsL_law) (hdd : Nat.ble (d' + 1) d = true) (hcat : Nat.ble ((st.map fun v => v.category).sum) 8 = true) (hk1 : Nat.ble (kc + nc') nc = true) (hk2 : Nat.ble (ks + ns') ns = true) (hd : decode cc pc = .ok (.invokespecial ix, 3))
    (kk : ∀ ρ : Nat → Nat, ρ lo = a → G X lvs q st (w0 :: (tl ++ seg (gI X) (gZ X) (gQ X) ρ lo n)) (kc + nc') (ks + ns')) : G X lvs pc (.ref a :: st) (w0 :: (tl ++ [(a, .inr (ci, fs))])) kc ks := g_init (ws := w0 :: tl) h q hq hct hm hlk hdd hcat hk1 hk2 hd kk
theorem mi_X8_init : Mi yX8_init cX8_init := ⟨ir_3 _ (List.mem_of_getElem? (i := 9) (by decide +kernel)), ir_1 _ (List.mem_of_getElem? (i := 15) (by decide +kernel)), ir_3 _ (List.mem_of_getElem? (i := 8) (by decide +kernel)), rfl, by decide +kernel⟩
theorem ffX10_12 : Fl RX10 12 10 0 (.object "HotWeek$Text") := ⟨_, _, _, _, kc_10, by decide, ir_1 _ (List.mem_of_getElem? (i := 16) (by decide +kernel)), rfl, rfl, by decide +kernel⟩
theorem mi_X5_init : Mi yX5_init cX5_init := ⟨ir_3 _ (List.mem_of_getElem? (i := 16) (by decide +kernel)), ir_1 _ (List.mem_of_getElem? (i := 19) (by decide +kernel)), ir_3 _ (List.mem_of_getElem? (i := 15) (by decide +kernel)), rfl, by decide +kernel⟩
theorem ffX10_19 : Fl RX10 19 10 1 (.object "HotWeek$Reader") := ⟨_, _, _, _, kc_10, by decide, ir_1 _ (List.mem_of_getElem? (i := 20) (by decide +kernel)), rfl, rfl, by decide +kernel⟩
theorem mi_X3_init : Mi yX3_init cX3_init := ⟨ir_4 _ (List.mem_of_getElem? (i := 1) (by decide +kernel)), ir_1 _ (List.mem_of_getElem? (i := 23) (by decide +kernel)), ir_4 _ (List.mem_of_getElem? (i := 0) (by decide +kernel)), rfl, by decide +kernel⟩
theorem ffX10_26 : Fl RX10 26 10 2 (.object "HotWeek$House") := ⟨_, _, _, _, kc_10, by decide, ir_2 _ (List.mem_of_getElem? (i := 0) (by decide +kernel)), rfl, rfl, by decide +kernel⟩
theorem mi_X4_init : Mi yX4_init cX4_init := ⟨ir_5 _ (List.mem_of_getElem? (i := 2) (by decide +kernel)), ir_2 _ (List.mem_of_getElem? (i := 3) (by decide +kernel)), ir_5 _ (List.mem_of_getElem? (i := 1) (by decide +kernel)), rfl, by decide +kernel⟩
theorem ffX10_33 : Fl RX10 33 10 3 (.object "HotWeek$Plan") := ⟨_, _, _, _, kc_10, by decide, ir_2 _ (List.mem_of_getElem? (i := 4) (by decide +kernel)), rfl, rfl, by decide +kernel⟩
theorem mi_X1_init : Mi yX1_init cX1_init := ⟨ir_5 _ (List.mem_of_getElem? (i := 14) (by decide +kernel)), ir_2 _ (List.mem_of_getElem? (i := 7) (by decide +kernel)), ir_5 _ (List.mem_of_getElem? (i := 13) (by decide +kernel)), rfl, by decide +kernel⟩
theorem ffX10_40 : Fl RX10 40 10 4 (.object "HotWeek$Course") := ⟨_, _, _, _, kc_10, by decide, ir_2 _ (List.mem_of_getElem? (i := 8) (by decide +kernel)), rfl, rfl, by decide +kernel⟩
theorem ffX10_44 : Fl RX10 44 10 5 (.object "HotWeek$Course") := ⟨_, _, _, _, kc_10, by decide, ir_2 _ (List.mem_of_getElem? (i := 9) (by decide +kernel)), rfl, rfl, by decide +kernel⟩
theorem mi_X0_init : Mi yX0_init cX0_init := ⟨ir_5 _ (List.mem_of_getElem? (i := 22) (by decide +kernel)), ir_2 _ (List.mem_of_getElem? (i := 12) (by decide +kernel)), ir_5 _ (List.mem_of_getElem? (i := 21) (by decide +kernel)), rfl, by decide +kernel⟩
theorem ffX10_50 : Fl RX10 50 10 6 (.object "HotWeek$BestClock") := ⟨_, _, _, _, kc_10, by decide, ir_2 _ (List.mem_of_getElem? (i := 13) (by decide +kernel)), rfl, rfl, by decide +kernel⟩
theorem mi_X9_init : Mi yX9_init cX9_init := ⟨ir_6 _ (List.mem_of_getElem? (i := 3) (by decide +kernel)), ir_2 _ (List.mem_of_getElem? (i := 16) (by decide +kernel)), ir_6 _ (List.mem_of_getElem? (i := 2) (by decide +kernel)), rfl, by decide +kernel⟩
theorem ffX10_57 : Fl RX10 57 10 7 (.object "HotWeek$Works") := ⟨_, _, _, _, kc_10, by decide, ir_2 _ (List.mem_of_getElem? (i := 17) (by decide +kernel)), rfl, rfl, by decide +kernel⟩
theorem mi_X2_init : Mi yX2_init cX2_init := ⟨ir_6 _ (List.mem_of_getElem? (i := 12) (by decide +kernel)), ir_2 _ (List.mem_of_getElem? (i := 20) (by decide +kernel)), ir_6 _ (List.mem_of_getElem? (i := 11) (by decide +kernel)), rfl, by decide +kernel⟩
theorem ffX10_64 : Fl RX10 64 10 8 (.object "HotWeek$Glasses") := ⟨_, _, _, _, kc_10, by decide, ir_2 _ (List.mem_of_getElem? (i := 21) (by decide +kernel)), rfl, rfl, by decide +kernel⟩
theorem mi_X6_init : Mi yX6_init cX6_init := ⟨ir_6 _ (List.mem_of_getElem? (i := 21) (by decide +kernel)), ir_3 _ (List.mem_of_getElem? (i := 0) (by decide +kernel)), ir_6 _ (List.mem_of_getElem? (i := 20) (by decide +kernel)), rfl, by decide +kernel⟩
theorem ffX10_71 : Fl RX10 71 10 9 (.object "HotWeek$Rings") := ⟨_, _, _, _, kc_10, by decide, ir_3 _ (List.mem_of_getElem? (i := 1) (by decide +kernel)), rfl, rfl, by decide +kernel⟩
theorem mi_X7_init : Mi yX7_init cX7_init := ⟨ir_7 _ (List.mem_of_getElem? (i := 4) (by decide +kernel)), ir_3 _ (List.mem_of_getElem? (i := 4) (by decide +kernel)), ir_7 _ (List.mem_of_getElem? (i := 3) (by decide +kernel)), rfl, by decide +kernel⟩
theorem ffX10_78 : Fl RX10 78 10 10 (.object "HotWeek$Street") := ⟨_, _, _, _, kc_10, by decide, ir_3 _ (List.mem_of_getElem? (i := 5) (by decide +kernel)), rfl, rfl, by decide +kernel⟩
set_option maxRecDepth 100000 in
set_option maxHeartbeats 4000000 in
theorem cn_X10 : Cn 2 92 3881 yX10_init cX10_init 10 [.null, .null, .null, .null, .null, .null, .null, .null, .null, .null, .null, .int 0] 0 93 := by
  refine cn_of (by decide +kernel) rfl (fun X h0 (h : Og X RX10 cX10_init 2 92 3881) hr => ?_)
  refine g_aload0 h 1 rfl dX10_init_0 ?_
  refine g_oi h 4 rfl (ir_1 _ (List.mem_of_getElem? (i := 10) (by decide +kernel))) rfl dX10_init_1 ?_
  refine g_aload0 h 5 rfl dX10_init_4 ?_
  refine g_newC h 8 rfl [.null, .int 0] kc_8 (ir_1 _ (List.mem_of_getElem? (i := 13) (by decide +kernel))) (ir_1 _ (List.mem_of_getElem? (i := 14) (by decide +kernel))) (ir_1 _ (List.mem_of_getElem? (i := 15) (by decide +kernel))) (fun j hj => match j, hj with | 0, _ => rfl | 1, _ => rfl | j + 2, hj => absurd hj (by omega)) rfl rfl dX10_init_5 (fun q1 => ?_)
  refine g_dup h 9 rfl dX10_init_8 ?_
  refine g_initC h 12 rfl cn_X8 mi_X8_init (ir_3 _ (List.mem_of_getElem? (i := 7) (by decide +kernel))) rfl rfl rfl rfl dX10_init_9 (fun ρ1 e1 => ?_)
  subst e1
  refine g_putR h hr 15 rfl ffX10_12 (fs' := [.ref (ρ1 1), .null, .null, .null, .null, .null, .null, .null, .null, .null, .null, .int 0]) rfl rfl rfl rfl dX10_init_12 ?_
  refine g_aload0 h 16 rfl dX10_init_15 ?_
  refine g_newC h 19 rfl [.null, .null, .int 0, .int 0] kc_5 (ir_1 _ (List.mem_of_getElem? (i := 17) (by decide +kernel))) (ir_1 _ (List.mem_of_getElem? (i := 18) (by decide +kernel))) (ir_1 _ (List.mem_of_getElem? (i := 19) (by decide +kernel))) (fun j hj => match j, hj with | 0, _ => rfl | 1, _ => rfl | 2, _ => rfl | 3, _ => rfl | j + 4, hj => absurd hj (by omega)) rfl rfl dX10_init_16 (fun q2 => ?_)
  refine g_dup h 20 rfl dX10_init_19 ?_
  refine g_initC h 23 rfl cn_X5 mi_X5_init (ir_3 _ (List.mem_of_getElem? (i := 14) (by decide +kernel))) rfl rfl rfl rfl dX10_init_20 (fun ρ3 e3 => ?_)
  subst e3
  refine g_putR h hr 26 rfl ffX10_19 (fs' := [.ref (ρ1 1), .ref (ρ3 3), .null, .null, .null, .null, .null, .null, .null, .null, .null, .int 0]) rfl rfl rfl rfl dX10_init_23 ?_
  refine g_aload0 h 27 rfl dX10_init_26 ?_
  refine g_newC h 30 rfl [.null, .null, .null, .null, .null, .null, .null, .null, .null, .int 0, .int 0, .int 0, .int 0, .int 0, .int 0, .int 0, .int 0, .int 0] kc_3 (ir_1 _ (List.mem_of_getElem? (i := 21) (by decide +kernel))) (ir_1 _ (List.mem_of_getElem? (i := 22) (by decide +kernel))) (ir_1 _ (List.mem_of_getElem? (i := 23) (by decide +kernel))) (fun j hj => match j, hj with | 0, _ => rfl | 1, _ => rfl | 2, _ => rfl | 3, _ => rfl | 4, _ => rfl | 5, _ => rfl | 6, _ => rfl | 7, _ => rfl | 8, _ => rfl | 9, _ => rfl | 10, _ => rfl | 11, _ => rfl | 12, _ => rfl | 13, _ => rfl | 14, _ => rfl | 15, _ => rfl | 16, _ => rfl | 17, _ => rfl | j + 18, hj => absurd hj (by omega)) rfl rfl dX10_init_27 (fun q3 => ?_)
  refine g_dup h 31 rfl dX10_init_30 ?_
  refine g_initC h 34 rfl cn_X3 mi_X3_init (ir_3 _ (List.mem_of_getElem? (i := 23) (by decide +kernel))) rfl rfl rfl rfl dX10_init_31 (fun ρ14 e14 => ?_)
  subst e14
  refine g_putR h hr 37 rfl ffX10_26 (fs' := [.ref (ρ1 1), .ref (ρ3 3), .ref (ρ14 14), .null, .null, .null, .null, .null, .null, .null, .null, .int 0]) rfl rfl rfl rfl dX10_init_34 ?_
  refine g_aload0 h 38 rfl dX10_init_37 ?_
  refine g_newC h 41 rfl [.null, .null, .null, .null, .null, .int 0, .int 0] kc_4 (ir_2 _ (List.mem_of_getElem? (i := 1) (by decide +kernel))) (ir_2 _ (List.mem_of_getElem? (i := 2) (by decide +kernel))) (ir_2 _ (List.mem_of_getElem? (i := 3) (by decide +kernel))) (fun j hj => match j, hj with | 0, _ => rfl | 1, _ => rfl | 2, _ => rfl | 3, _ => rfl | 4, _ => rfl | 5, _ => rfl | 6, _ => rfl | j + 7, hj => absurd hj (by omega)) rfl rfl dX10_init_38 (fun q4 => ?_)
  refine g_dup h 42 rfl dX10_init_41 ?_
  refine g_initC h 45 rfl cn_X4 mi_X4_init (ir_5 _ (List.mem_of_getElem? (i := 0) (by decide +kernel))) rfl rfl rfl rfl dX10_init_42 (fun ρ29 e29 => ?_)
  subst e29
  refine g_putR h hr 48 rfl ffX10_33 (fs' := [.ref (ρ1 1), .ref (ρ3 3), .ref (ρ14 14), .ref (ρ29 29), .null, .null, .null, .null, .null, .null, .null, .int 0]) rfl rfl rfl rfl dX10_init_45 ?_
  refine g_aload0 h 49 rfl dX10_init_48 ?_
  refine g_newC h 52 rfl [.null, .null, .null] kc_1 (ir_2 _ (List.mem_of_getElem? (i := 5) (by decide +kernel))) (ir_2 _ (List.mem_of_getElem? (i := 6) (by decide +kernel))) (ir_2 _ (List.mem_of_getElem? (i := 7) (by decide +kernel))) (fun j hj => match j, hj with | 0, _ => rfl | 1, _ => rfl | 2, _ => rfl | j + 3, hj => absurd hj (by omega)) rfl rfl dX10_init_49 (fun q5 => ?_)
  refine g_dup h 53 rfl dX10_init_52 ?_
  refine g_initC h 56 rfl cn_X1a mi_X1_init (ir_5 _ (List.mem_of_getElem? (i := 12) (by decide +kernel))) rfl rfl rfl rfl dX10_init_53 (fun ρ40 e40 => ?_)
  subst e40
  refine g_putR h hr 59 rfl ffX10_40 (fs' := [.ref (ρ1 1), .ref (ρ3 3), .ref (ρ14 14), .ref (ρ29 29), .ref (ρ40 40), .null, .null, .null, .null, .null, .null, .int 0]) rfl rfl rfl rfl dX10_init_56 ?_
  refine g_aload0 h 60 rfl dX10_init_59 ?_
  refine g_newC h 63 rfl [.null, .null, .null] kc_1 (ir_2 _ (List.mem_of_getElem? (i := 5) (by decide +kernel))) (ir_2 _ (List.mem_of_getElem? (i := 6) (by decide +kernel))) (ir_2 _ (List.mem_of_getElem? (i := 7) (by decide +kernel))) (fun j hj => match j, hj with | 0, _ => rfl | 1, _ => rfl | 2, _ => rfl | j + 3, hj => absurd hj (by omega)) rfl rfl dX10_init_60 (fun q6 => ?_)
  refine g_dup h 64 rfl dX10_init_63 ?_
  refine g_initC h 67 rfl cn_X1b mi_X1_init (ir_5 _ (List.mem_of_getElem? (i := 12) (by decide +kernel))) rfl rfl rfl rfl dX10_init_64 (fun ρ59 e59 => ?_)
  subst e59
  refine g_putR h hr 70 rfl ffX10_44 (fs' := [.ref (ρ1 1), .ref (ρ3 3), .ref (ρ14 14), .ref (ρ29 29), .ref (ρ40 40), .ref (ρ59 59), .null, .null, .null, .null, .null, .int 0]) rfl rfl rfl rfl dX10_init_67 ?_
  refine g_aload0 h 71 rfl dX10_init_70 ?_
  refine g_newC h 74 rfl [.int 0, .int 0, .int 0, .int 0, .int 0] kc_0 (ir_2 _ (List.mem_of_getElem? (i := 10) (by decide +kernel))) (ir_2 _ (List.mem_of_getElem? (i := 11) (by decide +kernel))) (ir_2 _ (List.mem_of_getElem? (i := 12) (by decide +kernel))) (fun j hj => match j, hj with | 0, _ => rfl | 1, _ => rfl | 2, _ => rfl | 3, _ => rfl | 4, _ => rfl | j + 5, hj => absurd hj (by omega)) rfl rfl dX10_init_71 (fun q7 => ?_)
  refine g_dup h 75 rfl dX10_init_74 ?_
  refine g_initC h 78 rfl cn_X0 mi_X0_init (ir_5 _ (List.mem_of_getElem? (i := 20) (by decide +kernel))) rfl rfl rfl rfl dX10_init_75 (fun ρ78 e78 => ?_)
  subst e78
  refine g_putR h hr 81 rfl ffX10_50 (fs' := [.ref (ρ1 1), .ref (ρ3 3), .ref (ρ14 14), .ref (ρ29 29), .ref (ρ40 40), .ref (ρ59 59), .ref (ρ78 78), .null, .null, .null, .null, .int 0]) rfl rfl rfl rfl dX10_init_78 ?_
  refine g_aload0 h 82 rfl dX10_init_81 ?_
  refine g_newC h 85 rfl [.null, .null, .null, .null, .int 0, .int 0, .int 0] kc_9 (ir_2 _ (List.mem_of_getElem? (i := 14) (by decide +kernel))) (ir_2 _ (List.mem_of_getElem? (i := 15) (by decide +kernel))) (ir_2 _ (List.mem_of_getElem? (i := 16) (by decide +kernel))) (fun j hj => match j, hj with | 0, _ => rfl | 1, _ => rfl | 2, _ => rfl | 3, _ => rfl | 4, _ => rfl | 5, _ => rfl | 6, _ => rfl | j + 7, hj => absurd hj (by omega)) rfl rfl dX10_init_82 (fun q8 => ?_)
  refine g_dup h 86 rfl dX10_init_85 ?_
  refine g_initC h 89 rfl cn_X9 mi_X9_init (ir_6 _ (List.mem_of_getElem? (i := 1) (by decide +kernel))) rfl rfl rfl rfl dX10_init_86 (fun ρ79 e79 => ?_)
  subst e79
  refine g_putR h hr 92 rfl ffX10_57 (fs' := [.ref (ρ1 1), .ref (ρ3 3), .ref (ρ14 14), .ref (ρ29 29), .ref (ρ40 40), .ref (ρ59 59), .ref (ρ78 78), .ref (ρ79 79), .null, .null, .null, .int 0]) rfl rfl rfl rfl dX10_init_89 ?_
  refine g_aload0 h 93 rfl dX10_init_92 ?_
  refine g_newC h 96 rfl [.null, .null, .null, .int 0, .int 0, .int 0, .int 0, .int 0, .int 0] kc_2 (ir_2 _ (List.mem_of_getElem? (i := 18) (by decide +kernel))) (ir_2 _ (List.mem_of_getElem? (i := 19) (by decide +kernel))) (ir_2 _ (List.mem_of_getElem? (i := 20) (by decide +kernel))) (fun j hj => match j, hj with | 0, _ => rfl | 1, _ => rfl | 2, _ => rfl | 3, _ => rfl | 4, _ => rfl | 5, _ => rfl | 6, _ => rfl | 7, _ => rfl | 8, _ => rfl | j + 9, hj => absurd hj (by omega)) rfl rfl dX10_init_93 (fun q9 => ?_)
  refine g_dup h 97 rfl dX10_init_96 ?_
  refine g_initC h 100 rfl cn_X2 mi_X2_init (ir_6 _ (List.mem_of_getElem? (i := 10) (by decide +kernel))) rfl rfl rfl rfl dX10_init_97 (fun ρ84 e84 => ?_)
  subst e84
  refine g_putR h hr 103 rfl ffX10_64 (fs' := [.ref (ρ1 1), .ref (ρ3 3), .ref (ρ14 14), .ref (ρ29 29), .ref (ρ40 40), .ref (ρ59 59), .ref (ρ78 78), .ref (ρ79 79), .ref (ρ84 84), .null, .null, .int 0]) rfl rfl rfl rfl dX10_init_100 ?_
  refine g_aload0 h 104 rfl dX10_init_103 ?_
  refine g_newC h 107 rfl [.null, .null, .null] kc_6 (ir_2 _ (List.mem_of_getElem? (i := 22) (by decide +kernel))) (ir_2 _ (List.mem_of_getElem? (i := 23) (by decide +kernel))) (ir_3 _ (List.mem_of_getElem? (i := 0) (by decide +kernel))) (fun j hj => match j, hj with | 0, _ => rfl | 1, _ => rfl | 2, _ => rfl | j + 3, hj => absurd hj (by omega)) rfl rfl dX10_init_104 (fun q10 => ?_)
  refine g_dup h 108 rfl dX10_init_107 ?_
  refine g_initC h 111 rfl cn_X6 mi_X6_init (ir_6 _ (List.mem_of_getElem? (i := 19) (by decide +kernel))) rfl rfl rfl rfl dX10_init_108 (fun ρ88 e88 => ?_)
  subst e88
  refine g_putR h hr 114 rfl ffX10_71 (fs' := [.ref (ρ1 1), .ref (ρ3 3), .ref (ρ14 14), .ref (ρ29 29), .ref (ρ40 40), .ref (ρ59 59), .ref (ρ78 78), .ref (ρ79 79), .ref (ρ84 84), .ref (ρ88 88), .null, .int 0]) rfl rfl rfl rfl dX10_init_111 ?_
  refine g_aload0 h 115 rfl dX10_init_114 ?_
  refine g_newC h 118 rfl [.int 0, .int 0, .int 0, .int 0, .int 0, .int 0, .int 0, .int 0] kc_7 (ir_3 _ (List.mem_of_getElem? (i := 2) (by decide +kernel))) (ir_3 _ (List.mem_of_getElem? (i := 3) (by decide +kernel))) (ir_3 _ (List.mem_of_getElem? (i := 4) (by decide +kernel))) (fun j hj => match j, hj with | 0, _ => rfl | 1, _ => rfl | 2, _ => rfl | 3, _ => rfl | 4, _ => rfl | 5, _ => rfl | 6, _ => rfl | 7, _ => rfl | j + 8, hj => absurd hj (by omega)) rfl rfl dX10_init_115 (fun q11 => ?_)
  refine g_dup h 119 rfl dX10_init_118 ?_
  refine g_initC h 122 rfl cn_X7 mi_X7_init (ir_7 _ (List.mem_of_getElem? (i := 2) (by decide +kernel))) rfl rfl rfl rfl dX10_init_119 (fun ρ92 e92 => ?_)
  subst e92
  refine g_putR h hr 125 rfl ffX10_78 (fs' := [.ref (ρ1 1), .ref (ρ3 3), .ref (ρ14 14), .ref (ρ29 29), .ref (ρ40 40), .ref (ρ59 59), .ref (ρ78 78), .ref (ρ79 79), .ref (ρ84 84), .ref (ρ88 88), .ref (ρ92 92), .int 0]) rfl rfl rfl rfl dX10_init_122 ?_
  refine g_aload0 h 126 rfl dX10_init_125 ?_
  refine g_iconst h 127 rfl (nI 0) (by decide) dX10_init_126 ?_
  refine g_putI h 130 rfl plX10_82 (fs' := [.ref (ρ1 1), .ref (ρ3 3), .ref (ρ14 14), .ref (ρ29 29), .ref (ρ40 40), .ref (ρ59 59), .ref (ρ78 78), .ref (ρ79 79), .ref (ρ84 84), .ref (ρ88 88), .ref (ρ92 92), .int (nI 0)]) rfl (by decide) (by decide) rfl dX10_init_127 ?_
  refine g_vret h hr dX10_init_130 (fun a => if a < 1 then h0 else if a < 3 then ρ1 a else if a < 14 then ρ3 a else if a < 29 then ρ14 a else if a < 40 then ρ29 a else if a < 59 then ρ40 a else if a < 78 then ρ59 a else if a < 79 then ρ78 a else if a < 84 then ρ79 a else if a < 88 then ρ84 a else if a < 92 then ρ88 a else if a < 93 then ρ92 a else 0) rfl ?_ rfl rfl
  rw [seg_s 1 92 sh_0 rfl rfl]
  rw [seg_app 1 2 90 3 92 rfl rfl]
  rw [seg_app 3 11 79 14 90 rfl rfl]
  rw [seg_app 14 15 64 29 79 rfl rfl]
  rw [seg_app 29 11 53 40 64 rfl rfl]
  rw [seg_app 40 19 34 59 53 rfl rfl]
  rw [seg_app 59 19 15 78 34 rfl rfl]
  rw [seg_app 78 1 14 79 15 rfl rfl]
  rw [seg_app 79 5 9 84 14 rfl rfl]
  rw [seg_app 84 4 5 88 9 rfl rfl]
  rw [seg_app 88 4 1 92 5 rfl rfl]
  rw [seg_cg (ρ := (fun a => if a < 1 then h0 else if a < 3 then ρ1 a else if a < 14 then ρ3 a else if a < 29 then ρ14 a else if a < 40 then ρ29 a else if a < 59 then ρ40 a else if a < 78 then ρ59 a else if a < 79 then ρ78 a else if a < 84 then ρ79 a else if a < 88 then ρ84 a else if a < 92 then ρ88 a else if a < 93 then ρ92 a else 0)) (ρ' := ρ1) (lo := 1) (n := 2) (by decide +kernel) (fun b h1 h2 => by
    show (if b < 1 then h0 else if b < 3 then ρ1 b else if b < 14 then ρ3 b else if b < 29 then ρ14 b else if b < 40 then ρ29 b else if b < 59 then ρ40 b else if b < 78 then ρ59 b else if b < 79 then ρ78 b else if b < 84 then ρ79 b else if b < 88 then ρ84 b else if b < 92 then ρ88 b else if b < 93 then ρ92 b else 0) = _
    rw [if_neg (show ¬ b < 1 by omega), if_pos (show b < 3 by omega)])]
  rw [seg_cg (ρ := (fun a => if a < 1 then h0 else if a < 3 then ρ1 a else if a < 14 then ρ3 a else if a < 29 then ρ14 a else if a < 40 then ρ29 a else if a < 59 then ρ40 a else if a < 78 then ρ59 a else if a < 79 then ρ78 a else if a < 84 then ρ79 a else if a < 88 then ρ84 a else if a < 92 then ρ88 a else if a < 93 then ρ92 a else 0)) (ρ' := ρ3) (lo := 3) (n := 11) (by decide +kernel) (fun b h1 h2 => by
    show (if b < 1 then h0 else if b < 3 then ρ1 b else if b < 14 then ρ3 b else if b < 29 then ρ14 b else if b < 40 then ρ29 b else if b < 59 then ρ40 b else if b < 78 then ρ59 b else if b < 79 then ρ78 b else if b < 84 then ρ79 b else if b < 88 then ρ84 b else if b < 92 then ρ88 b else if b < 93 then ρ92 b else 0) = _
    rw [if_neg (show ¬ b < 1 by omega), if_neg (show ¬ b < 3 by omega), if_pos (show b < 14 by omega)])]
  rw [seg_cg (ρ := (fun a => if a < 1 then h0 else if a < 3 then ρ1 a else if a < 14 then ρ3 a else if a < 29 then ρ14 a else if a < 40 then ρ29 a else if a < 59 then ρ40 a else if a < 78 then ρ59 a else if a < 79 then ρ78 a else if a < 84 then ρ79 a else if a < 88 then ρ84 a else if a < 92 then ρ88 a else if a < 93 then ρ92 a else 0)) (ρ' := ρ14) (lo := 14) (n := 15) (by decide +kernel) (fun b h1 h2 => by
    show (if b < 1 then h0 else if b < 3 then ρ1 b else if b < 14 then ρ3 b else if b < 29 then ρ14 b else if b < 40 then ρ29 b else if b < 59 then ρ40 b else if b < 78 then ρ59 b else if b < 79 then ρ78 b else if b < 84 then ρ79 b else if b < 88 then ρ84 b else if b < 92 then ρ88 b else if b < 93 then ρ92 b else 0) = _
    rw [if_neg (show ¬ b < 1 by omega), if_neg (show ¬ b < 3 by omega), if_neg (show ¬ b < 14 by omega), if_pos (show b < 29 by omega)])]
  rw [seg_cg (ρ := (fun a => if a < 1 then h0 else if a < 3 then ρ1 a else if a < 14 then ρ3 a else if a < 29 then ρ14 a else if a < 40 then ρ29 a else if a < 59 then ρ40 a else if a < 78 then ρ59 a else if a < 79 then ρ78 a else if a < 84 then ρ79 a else if a < 88 then ρ84 a else if a < 92 then ρ88 a else if a < 93 then ρ92 a else 0)) (ρ' := ρ29) (lo := 29) (n := 11) (by decide +kernel) (fun b h1 h2 => by
    show (if b < 1 then h0 else if b < 3 then ρ1 b else if b < 14 then ρ3 b else if b < 29 then ρ14 b else if b < 40 then ρ29 b else if b < 59 then ρ40 b else if b < 78 then ρ59 b else if b < 79 then ρ78 b else if b < 84 then ρ79 b else if b < 88 then ρ84 b else if b < 92 then ρ88 b else if b < 93 then ρ92 b else 0) = _
    rw [if_neg (show ¬ b < 1 by omega), if_neg (show ¬ b < 3 by omega), if_neg (show ¬ b < 14 by omega), if_neg (show ¬ b < 29 by omega), if_pos (show b < 40 by omega)])]
  rw [seg_cg (ρ := (fun a => if a < 1 then h0 else if a < 3 then ρ1 a else if a < 14 then ρ3 a else if a < 29 then ρ14 a else if a < 40 then ρ29 a else if a < 59 then ρ40 a else if a < 78 then ρ59 a else if a < 79 then ρ78 a else if a < 84 then ρ79 a else if a < 88 then ρ84 a else if a < 92 then ρ88 a else if a < 93 then ρ92 a else 0)) (ρ' := ρ40) (lo := 40) (n := 19) (by decide +kernel) (fun b h1 h2 => by
    show (if b < 1 then h0 else if b < 3 then ρ1 b else if b < 14 then ρ3 b else if b < 29 then ρ14 b else if b < 40 then ρ29 b else if b < 59 then ρ40 b else if b < 78 then ρ59 b else if b < 79 then ρ78 b else if b < 84 then ρ79 b else if b < 88 then ρ84 b else if b < 92 then ρ88 b else if b < 93 then ρ92 b else 0) = _
    rw [if_neg (show ¬ b < 1 by omega), if_neg (show ¬ b < 3 by omega), if_neg (show ¬ b < 14 by omega), if_neg (show ¬ b < 29 by omega), if_neg (show ¬ b < 40 by omega), if_pos (show b < 59 by omega)])]
  rw [seg_cg (ρ := (fun a => if a < 1 then h0 else if a < 3 then ρ1 a else if a < 14 then ρ3 a else if a < 29 then ρ14 a else if a < 40 then ρ29 a else if a < 59 then ρ40 a else if a < 78 then ρ59 a else if a < 79 then ρ78 a else if a < 84 then ρ79 a else if a < 88 then ρ84 a else if a < 92 then ρ88 a else if a < 93 then ρ92 a else 0)) (ρ' := ρ59) (lo := 59) (n := 19) (by decide +kernel) (fun b h1 h2 => by
    show (if b < 1 then h0 else if b < 3 then ρ1 b else if b < 14 then ρ3 b else if b < 29 then ρ14 b else if b < 40 then ρ29 b else if b < 59 then ρ40 b else if b < 78 then ρ59 b else if b < 79 then ρ78 b else if b < 84 then ρ79 b else if b < 88 then ρ84 b else if b < 92 then ρ88 b else if b < 93 then ρ92 b else 0) = _
    rw [if_neg (show ¬ b < 1 by omega), if_neg (show ¬ b < 3 by omega), if_neg (show ¬ b < 14 by omega), if_neg (show ¬ b < 29 by omega), if_neg (show ¬ b < 40 by omega), if_neg (show ¬ b < 59 by omega), if_pos (show b < 78 by omega)])]
  rw [seg_cg (ρ := (fun a => if a < 1 then h0 else if a < 3 then ρ1 a else if a < 14 then ρ3 a else if a < 29 then ρ14 a else if a < 40 then ρ29 a else if a < 59 then ρ40 a else if a < 78 then ρ59 a else if a < 79 then ρ78 a else if a < 84 then ρ79 a else if a < 88 then ρ84 a else if a < 92 then ρ88 a else if a < 93 then ρ92 a else 0)) (ρ' := ρ78) (lo := 78) (n := 1) (by decide +kernel) (fun b h1 h2 => by
    show (if b < 1 then h0 else if b < 3 then ρ1 b else if b < 14 then ρ3 b else if b < 29 then ρ14 b else if b < 40 then ρ29 b else if b < 59 then ρ40 b else if b < 78 then ρ59 b else if b < 79 then ρ78 b else if b < 84 then ρ79 b else if b < 88 then ρ84 b else if b < 92 then ρ88 b else if b < 93 then ρ92 b else 0) = _
    rw [if_neg (show ¬ b < 1 by omega), if_neg (show ¬ b < 3 by omega), if_neg (show ¬ b < 14 by omega), if_neg (show ¬ b < 29 by omega), if_neg (show ¬ b < 40 by omega), if_neg (show ¬ b < 59 by omega), if_neg (show ¬ b < 78 by omega), if_pos (show b < 79 by omega)])]
  rw [seg_cg (ρ := (fun a => if a < 1 then h0 else if a < 3 then ρ1 a else if a < 14 then ρ3 a else if a < 29 then ρ14 a else if a < 40 then ρ29 a else if a < 59 then ρ40 a else if a < 78 then ρ59 a else if a < 79 then ρ78 a else if a < 84 then ρ79 a else if a < 88 then ρ84 a else if a < 92 then ρ88 a else if a < 93 then ρ92 a else 0)) (ρ' := ρ79) (lo := 79) (n := 5) (by decide +kernel) (fun b h1 h2 => by
    show (if b < 1 then h0 else if b < 3 then ρ1 b else if b < 14 then ρ3 b else if b < 29 then ρ14 b else if b < 40 then ρ29 b else if b < 59 then ρ40 b else if b < 78 then ρ59 b else if b < 79 then ρ78 b else if b < 84 then ρ79 b else if b < 88 then ρ84 b else if b < 92 then ρ88 b else if b < 93 then ρ92 b else 0) = _
    rw [if_neg (show ¬ b < 1 by omega), if_neg (show ¬ b < 3 by omega), if_neg (show ¬ b < 14 by omega), if_neg (show ¬ b < 29 by omega), if_neg (show ¬ b < 40 by omega), if_neg (show ¬ b < 59 by omega), if_neg (show ¬ b < 78 by omega), if_neg (show ¬ b < 79 by omega), if_pos (show b < 84 by omega)])]
  rw [seg_cg (ρ := (fun a => if a < 1 then h0 else if a < 3 then ρ1 a else if a < 14 then ρ3 a else if a < 29 then ρ14 a else if a < 40 then ρ29 a else if a < 59 then ρ40 a else if a < 78 then ρ59 a else if a < 79 then ρ78 a else if a < 84 then ρ79 a else if a < 88 then ρ84 a else if a < 92 then ρ88 a else if a < 93 then ρ92 a else 0)) (ρ' := ρ84) (lo := 84) (n := 4) (by decide +kernel) (fun b h1 h2 => by
    show (if b < 1 then h0 else if b < 3 then ρ1 b else if b < 14 then ρ3 b else if b < 29 then ρ14 b else if b < 40 then ρ29 b else if b < 59 then ρ40 b else if b < 78 then ρ59 b else if b < 79 then ρ78 b else if b < 84 then ρ79 b else if b < 88 then ρ84 b else if b < 92 then ρ88 b else if b < 93 then ρ92 b else 0) = _
    rw [if_neg (show ¬ b < 1 by omega), if_neg (show ¬ b < 3 by omega), if_neg (show ¬ b < 14 by omega), if_neg (show ¬ b < 29 by omega), if_neg (show ¬ b < 40 by omega), if_neg (show ¬ b < 59 by omega), if_neg (show ¬ b < 78 by omega), if_neg (show ¬ b < 79 by omega), if_neg (show ¬ b < 84 by omega), if_pos (show b < 88 by omega)])]
  rw [seg_cg (ρ := (fun a => if a < 1 then h0 else if a < 3 then ρ1 a else if a < 14 then ρ3 a else if a < 29 then ρ14 a else if a < 40 then ρ29 a else if a < 59 then ρ40 a else if a < 78 then ρ59 a else if a < 79 then ρ78 a else if a < 84 then ρ79 a else if a < 88 then ρ84 a else if a < 92 then ρ88 a else if a < 93 then ρ92 a else 0)) (ρ' := ρ88) (lo := 88) (n := 4) (by decide +kernel) (fun b h1 h2 => by
    show (if b < 1 then h0 else if b < 3 then ρ1 b else if b < 14 then ρ3 b else if b < 29 then ρ14 b else if b < 40 then ρ29 b else if b < 59 then ρ40 b else if b < 78 then ρ59 b else if b < 79 then ρ78 b else if b < 84 then ρ79 b else if b < 88 then ρ84 b else if b < 92 then ρ88 b else if b < 93 then ρ92 b else 0) = _
    rw [if_neg (show ¬ b < 1 by omega), if_neg (show ¬ b < 3 by omega), if_neg (show ¬ b < 14 by omega), if_neg (show ¬ b < 29 by omega), if_neg (show ¬ b < 40 by omega), if_neg (show ¬ b < 59 by omega), if_neg (show ¬ b < 78 by omega), if_neg (show ¬ b < 79 by omega), if_neg (show ¬ b < 84 by omega), if_neg (show ¬ b < 88 by omega), if_pos (show b < 92 by omega)])]
  rw [seg_cg (ρ := (fun a => if a < 1 then h0 else if a < 3 then ρ1 a else if a < 14 then ρ3 a else if a < 29 then ρ14 a else if a < 40 then ρ29 a else if a < 59 then ρ40 a else if a < 78 then ρ59 a else if a < 79 then ρ78 a else if a < 84 then ρ79 a else if a < 88 then ρ84 a else if a < 92 then ρ88 a else if a < 93 then ρ92 a else 0)) (ρ' := ρ92) (lo := 92) (n := 1) (by decide +kernel) (fun b h1 h2 => by
    show (if b < 1 then h0 else if b < 3 then ρ1 b else if b < 14 then ρ3 b else if b < 29 then ρ14 b else if b < 40 then ρ29 b else if b < 59 then ρ40 b else if b < 78 then ρ59 b else if b < 79 then ρ78 b else if b < 84 then ρ79 b else if b < 88 then ρ84 b else if b < 92 then ρ88 b else if b < 93 then ρ92 b else 0) = _
    rw [if_neg (show ¬ b < 1 by omega), if_neg (show ¬ b < 3 by omega), if_neg (show ¬ b < 14 by omega), if_neg (show ¬ b < 29 by omega), if_neg (show ¬ b < 40 by omega), if_neg (show ¬ b < 59 by omega), if_neg (show ¬ b < 78 by omega), if_neg (show ¬ b < 79 by omega), if_neg (show ¬ b < 84 by omega), if_neg (show ¬ b < 88 by omega), if_neg (show ¬ b < 92 by omega), if_pos (show b < 93 by omega)])]
  simp only [List.nil_append, List.append_assoc]
  rfl
theorem mi_X10_init : Mi yX10_init cX10_init := ⟨ir_1 _ (List.mem_of_getElem? (i := 9) (by decide +kernel)), ir_1 _ (List.mem_of_getElem? (i := 2) (by decide +kernel)), ir_1 _ (List.mem_of_getElem? (i := 8) (by decide +kernel)), rfl, by decide +kernel⟩
theorem mi_X11_init : Mi yX11_init cX11_init := ⟨ir_7 _ (List.mem_of_getElem? (i := 9) (by decide +kernel)), ir_1 _ (List.mem_of_getElem? (i := 5) (by decide +kernel)), ir_7 _ (List.mem_of_getElem? (i := 8) (by decide +kernel)), rfl, by decide +kernel⟩
