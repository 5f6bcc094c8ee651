/-! the model: laws learnt -/
theorem abs_n {d t : Int32} (ht : (0 : Int32) ≤ t) : ¬ t < absI d ↔ (d ≤ t ∧ -d ≤ t) := by
  unfold absI
  by_cases h : 0 ≤ d
  · rw [if_pos h]
    constructor
    · intro q
      have q1 := Int32.not_lt.mp q
      refine ⟨q1, ?_⟩
      have h2 := Int32.le_iff_toInt_le.mp h
      have z : (0 : Int32).toInt = 0 := by decide
      have h3 := Int32.toInt_lt d
      have h4 := Int32.le_iff_toInt_le.mp ht
      rw [z] at h2 h4
      rw [Int32.le_iff_toInt_le, Int32.toInt_neg, Int.bmod_eq_of_le (by omega) (by omega)]
      omega
    · intro q; exact Int32.not_lt.mpr q.1
  · rw [if_neg h]
    have e0 : (0 : Int32) - d = -d := by rw [Int32.sub_eq_add_neg, Int32.zero_add]
    rw [e0]
    constructor
    · intro q
      exact ⟨Int32.le_trans (Int32.le_of_lt (Int32.not_le.mp h)) ht, Int32.not_lt.mp q⟩
    · intro q; exact Int32.not_lt.mpr q.2
set_option maxRecDepth 100000 in
set_option maxHeartbeats 4000000 in
theorem t_X11_doHold (M : hM) (P : hM) (w : Nat) (hP : mP M w P) (t : Int32) (ht : (0 : Int32) ≤ t) (g : Nat) (rm hr0 : Nat → Nat) (hg : g ≤ 8) (eg : M 93 40 = nI g) (hrow : ∀ i, i < g → M 114 i = nI (rm i) ∧ rm i < 5 ∧ M 115 i = nI (hr0 i) ∧ hr0 i < 96) : Ct 3 mX11_doHold [.ref 93, .int t] M (pI (hb (ahB (P 15) (fun r k => M 101 (96 * r + (k - 1))) t rm hr0 (M 116) g = true)) M) := by
  refine ct_of (lv := [some (.ref 93), some (.int t), none, none]) (by decide +kernel) (fun _ _ hq => hq) rfl (fun _ => Nat.le_of_ble_eq_true rfl) (fun X h hr => ?_)
  refine j_iconst h 1 rfl (nI 0) (by decide) dX11_doHold_0 ?_
  refine j_istore_n h 2 rfl rfl dX11_doHold_1 ?_
  have L : ∀ (n i : Nat) (z : Option Value), g - i < n → i ≤ g → ahB (P 15) (fun r k => M 101 (96 * r + (k - 1))) t rm hr0 (M 116) i = true → J X 2 [some (.ref 93), some (.int t), some (.int (nI i)), z] [] M := by
    intro n
    induction n with
    | zero => intro i z h1; omega
    | succ n ih =>
      intro i z h1 h2 hI
      refine j_iload_n h 3 rfl rfl dX11_doHold_2 ?_
      refine j_aload_n h 4 rfl rfl dX11_doHold_3 ?_
      refine j_getI h 7 rfl glX11_270 sh_93 rfl dX11_doHold_4 ?_
      refine j_top eg ?_
      refine j_icmp_geN h 71 10 (by omega) (by omega) dX11_doHold_7 (by decide) rfl (fun c_7 => ?_) (fun c_7 => ?_)
      · skip
        refine j_iconst h 72 rfl (nI 1) (by decide) dX11_doHold_71 ?_
        exact j_ret h hr (by decide) dX11_doHold_72 ⟨congrArg (fun z => some (Value.int z)) (by first | (rw [hb_t]; rfl; (rw [show g = i by omega]; exact hI)) | (rw [hb_f]; rfl; (rw [show g = i by omega]; exact hI))), rfl⟩
      · skip
        obtain ⟨w1, w2, w3, w4⟩ := hrow i (by omega)
        refine j_aload_n h 11 rfl rfl dX11_doHold_10 ?_
        refine j_getR h 14 rfl glX11_60 sh_93 rfl dX11_doHold_11 ?_
        refine j_bipush h 16 rfl (nI 96) (by decide) dX11_doHold_14 ?_
        refine j_aload_n h 17 rfl rfl dX11_doHold_16 ?_
        refine j_getR h 20 rfl glX11_99 sh_93 rfl dX11_doHold_17 ?_
        refine j_iload_n h 21 rfl rfl dX11_doHold_20 ?_
        refine j_iald h 22 rfl sh_114 _ rfl (by omega) rfl dX11_doHold_21 ?_
        refine j_top w1 ?_
        refine j_imulN h 23 rfl dX11_doHold_22 ?_
        refine j_aload_n h 24 rfl rfl dX11_doHold_23 ?_
        refine j_getR h 27 rfl glX11_102 sh_93 rfl dX11_doHold_24 ?_
        refine j_iload_n h 28 rfl rfl dX11_doHold_27 ?_
        refine j_iald h 29 rfl sh_115 _ rfl (by omega) rfl dX11_doHold_28 ?_
        refine j_top w3 ?_
        refine j_iaddN h 30 rfl dX11_doHold_29 ?_
        refine j_iald h 31 rfl sh_101 _ rfl (by omega) rfl dX11_doHold_30 ?_
        refine j_aload_n h 32 rfl rfl dX11_doHold_31 ?_
        refine j_getR h 35 rfl glX11_105 sh_93 rfl dX11_doHold_32 ?_
        refine j_iload_n h 36 rfl rfl dX11_doHold_35 ?_
        refine j_iald h 37 rfl sh_116 _ rfl (by omega) rfl dX11_doHold_36 ?_
        refine j_isub h 38 rfl dX11_doHold_37 ?_
        refine j_istore_n h 39 rfl rfl dX11_doHold_38 ?_
        refine j_aload_n h 40 rfl rfl dX11_doHold_39 ?_
        refine j_aload_n h 41 rfl rfl dX11_doHold_40 ?_
        refine j_getR h 44 rfl glX11_99 sh_93 rfl dX11_doHold_41 ?_
        refine j_iload_n h 45 rfl rfl dX11_doHold_44 ?_
        refine j_iald h 46 rfl sh_114 _ rfl (by omega) rfl dX11_doHold_45 ?_
        refine j_top w1 ?_
        refine j_callVI h 49 rfl lkX11_222 sh_93 rfl rfl (t_X11_isRoom _ _) rfl rfl rfl dX11_doHold_46 ?_
        refine j_top (hb_tld hP w2) ?_
        refine j_if_eqB h 63 52 dX11_doHold_49 (by decide) rfl (fun c_49 => ?_) (fun c_49 => ?_)
        · skip
          refine j_iconst h 64 rfl (nI 0) (by decide) dX11_doHold_63 ?_
          exact j_ret h hr (by decide) dX11_doHold_64 ⟨congrArg (fun z => some (Value.int z)) (by refine (hb_f ?_).symm; intro z; rw [ahB_up (i := i + 1) (by rw [ahB, hI, Bool.true_and]; refine decide_eq_false (fun w => ?_); obtain ⟨w1, w2⟩ := w; have w3 := (abs_n ht).mp w2; first | exact c_49 w1 | exact c_60 w3.2 | exact absurd c_54 (Int32.not_lt.mpr w3.1)) g (by omega)] at z; cases z), rfl⟩
        · skip
          refine j_iload_n h 53 rfl rfl dX11_doHold_52 ?_
          refine j_iload_n h 54 rfl rfl dX11_doHold_53 ?_
          refine j_icmp_gt h 63 57 dX11_doHold_54 (by decide) rfl (fun c_54 => ?_) (fun c_54 => ?_)
          · skip
            refine j_iconst h 64 rfl (nI 0) (by decide) dX11_doHold_63 ?_
            exact j_ret h hr (by decide) dX11_doHold_64 ⟨congrArg (fun z => some (Value.int z)) (by refine (hb_f ?_).symm; intro z; rw [ahB_up (i := i + 1) (by rw [ahB, hI, Bool.true_and]; refine decide_eq_false (fun w => ?_); obtain ⟨w1, w2⟩ := w; have w3 := (abs_n ht).mp w2; first | exact c_49 w1 | exact c_60 w3.2 | exact absurd c_54 (Int32.not_lt.mpr w3.1)) g (by omega)] at z; cases z), rfl⟩
          · skip
            refine j_iload_n h 58 rfl rfl dX11_doHold_57 ?_
            refine j_ineg h 59 rfl dX11_doHold_58 ?_
            refine j_iload_n h 60 rfl rfl dX11_doHold_59 ?_
            refine j_icmp_le h 65 63 dX11_doHold_60 (by decide) rfl (fun c_60 => ?_) (fun c_60 => ?_)
            · skip
              refine j_iincN h 68 rfl rfl rfl dX11_doHold_65 ?_
              refine j_goto h 2 dX11_doHold_68 (by decide) ?_
              exact ih (i + 1) _ (by omega) (by omega) (by rw [ahB, hI, Bool.true_and]; exact decide_eq_true ⟨c_49, (abs_n ht).mpr ⟨Int32.not_lt.mp c_54, c_60⟩⟩)
            · skip
              refine j_iconst h 64 rfl (nI 0) (by decide) dX11_doHold_63 ?_
              exact j_ret h hr (by decide) dX11_doHold_64 ⟨congrArg (fun z => some (Value.int z)) (by refine (hb_f ?_).symm; intro z; rw [ahB_up (i := i + 1) (by rw [ahB, hI, Bool.true_and]; refine decide_eq_false (fun w => ?_); obtain ⟨w1, w2⟩ := w; have w3 := (abs_n ht).mp w2; first | exact c_49 w1 | exact c_60 w3.2 | exact absurd c_54 (Int32.not_lt.mpr w3.1)) g (by omega)] at z; cases z), rfl⟩
  exact L (g + 1) 0 _ (by omega) (by omega) rfl
/-- the model's rows READ are the class's -/
def mR (M : hM) (g : Nat) (rm hr : Nat → Nat) : Prop := g ≤ 8 ∧ M 93 40 = nI g ∧ M 84 3 = nI g ∧ ∀ i, i < g → M 114 i = M 85 i ∧ M 115 i = M 86 i ∧ M 116 i = M 87 i ∧ M 85 i = nI (rm i) ∧ rm i < 5 ∧ M 86 i = nI (hr i) ∧ hr i < 96
def trL (M : hM) : hM := fun a j => if a = 84 ∧ 4 ≤ j then M 120 (j - 4) else nI 0
theorem trL_s {M : hM} {j : Nat} : trL M 84 (j + 4) = M 120 j := by unfold trL; rw [if_pos ⟨rfl, by omega⟩]; rfl
theorem trL_cg {M N : hM} (h : N 120 = M 120) : trL N = trL M := by unfold trL; rw [h]
theorem lawP_o {M : hM} {g t a : Nat} (h : a ≠ 29) : lawP M g t a = planOf M a := by funext j; unfold lawP; rw [if_neg h]
def frL (M M2 : hM) : Prop := (∀ a, (a < 93 ∨ (93 < a ∧ a < 101) ∨ (109 < a ∧ a < 120)) → M2 a = M a) ∧ ∀ j, j ≠ 32 → j ≠ 10 → j ≠ 11 → M2 93 j = M 93 j
/-- ahead of law k -/
def lqI (M : hM) (hold : Nat → Bool) (k : Nat) (M2 : hM) : Prop := frL M M2 ∧ M2 93 32 = nI 0 ∧ (∀ r, r < 5 → M2 108 r = planOf M 30 r ∧ M2 109 r = planOf M 31 r) ∧ lnI (lnS hold k) (trL M2)
theorem lq_0 {M M2 : hM} {hold : Nat → Bool} (hH : mH M) (h : atP M M2) : lqI M hold 0 (mu M2 120 0 (nI 0)) := by
  obtain ⟨f1, f2, f3, f4⟩ := mZ_at hH h
  refine ⟨⟨fun a ha => by rw [mu_f (by omega)]; exact f1 a (by omega), fun j a _ _ => by rw [mu_a (by decide)]; exact f2 j a⟩, by rw [mu_a (by decide)]; exact f3, fun r hr => by rw [mu_a (by decide), mu_a (by decide)]; exact f4 r hr, ?_, fun z => absurd z (Nat.lt_irrefl 0)⟩
  show trL _ 84 (0 + 4) = _
  rw [trL_s, mu_s]; rfl
theorem mP_L {M M2 : hM} {hold : Nat → Bool} {k w g t : Nat} (hH : mH M) (hw : w ≤ 6) (ew : M 93 35 = nI w) (h : lqI M hold k M2) : mP (mu (mu M2 93 11 (nI g)) 93 10 (nI t)) w (lawP M g t) := by
  obtain ⟨⟨f1, f2⟩, f3, f4, -⟩ := h
  have hj : ∀ j, j ≠ 32 → j ≠ 10 → j ≠ 11 → mu (mu M2 93 11 (nI g)) 93 10 (nI t) 93 j = M 93 j := fun j a b c => by rw [mu_k b, mu_k c]; exact f2 j a b c
  have hc : ∀ a, 94 ≤ a → a < 99 → mu (mu M2 93 11 (nI g)) 93 10 (nI t) a = M a := fun a x y => by rw [mu_f (by omega), mu_f (by omega)]; exact f1 a (by omega)
  have hz : mu (mu M2 93 11 (nI g)) 93 10 (nI t) 93 32 = nI 0 := by rw [mu_k (by decide), mu_k (by decide)]; exact f3
  refine mP_of hH (fun a x y => (lawP_o (by omega)).trans (plO_h x y)) hc (fun j a b c => hj j (by omega) b c) (fun r hr => ?_) (fun r hr => ?_) ?_ ?_ (fun r n hr hn => ?_) (fun r hr => ?_) (fun n => ?_) ?_
  · rw [mu_a (by decide), mu_a (by decide), lawP_o (by decide)]; exact (f4 r hr).1
  · rw [mu_a (by decide), mu_a (by decide), lawP_o (by decide)]; exact (f4 r hr).2
  · rw [mu_k (by decide), mu_s]; rfl
  · rw [mu_s]; rfl
  · rw [lawP_o (by omega), plO_s hr]
    exact ms_0 hH hc (hj 9 (by decide) (by decide) (by decide)) hz hr w hw
  · rw [lawP_o (by decide)]
    exact ml_0 hH (hj 12 (by decide) (by decide) (by decide)) hz w hw
  · rw [lawP_o (by decide)]; rfl
  · rw [hj 35 (by decide) (by decide) (by decide)]; exact ew
theorem lq_W {M M2 M8 : hM} {hold : Nat → Bool} {k : Nat} {x y : Int32} (h : lqI M hold k M2) (h3 : frW (mu (mu M2 93 11 x) 93 10 y) M8) : lqI M hold k M8 ∧ M8 93 11 = x ∧ M8 93 10 = y := by
  obtain ⟨⟨f1, f2⟩, f3, f4, f5⟩ := h
  have e93 : ∀ j, M8 93 j = mu (mu M2 93 11 x) 93 10 y 93 j := fun j => congrFun (h3 93 (by omega)) j
  refine ⟨⟨⟨fun a ha => by rw [h3 a (by omega), mu_f (by omega), mu_f (by omega)]; exact f1 a ha, fun j a b c => by rw [e93, mu_k b, mu_k c]; exact f2 j a b c⟩, by rw [e93, mu_k (by decide), mu_k (by decide)]; exact f3, fun r hr => by rw [h3 108 (by omega), h3 109 (by omega), mu_a (by decide), mu_a (by decide), mu_a (by decide), mu_a (by decide)]; exact f4 r hr, ?_⟩, by rw [e93, mu_k (by decide), mu_s], by rw [e93, mu_s]⟩
  rw [trL_cg (M := M2) (by rw [h3 120 (by omega), mu_f (by decide), mu_f (by decide)])]
  exact f5
def k5 (M : hM) (x1 x2 x3 x4 : Int32) : hM := mu (mu (mu (mu (mu M 120 0 (M 120 0 + nI 1)) 120 1 x1) 120 2 x2) 120 3 x3) 120 4 x4
theorem lq_y {M M2 : hM} {hold : Nat → Bool} {k : Nat} {x1 x2 x3 x4 : Int32} (hk : k < 81) (h : lqI M hold k M2) (hh : hold k = true)
    (e1 : x1 = if M2 120 0 = 0 ∨ nI (5 * (k / 9)) < M2 120 1 then nI (5 * (k / 9)) else M2 120 1) (e2 : x2 = if M2 120 0 = 0 ∨ M2 120 2 < nI (5 * (k / 9)) then nI (5 * (k / 9)) else M2 120 2)
    (e3 : x3 = if M2 120 0 = 0 ∨ nI (5 * (k % 9)) < M2 120 3 then nI (5 * (k % 9)) else M2 120 3) (e4 : x4 = if M2 120 0 = 0 ∨ M2 120 4 < nI (5 * (k % 9)) then nI (5 * (k % 9)) else M2 120 4) : lqI M hold (k + 1) (k5 M2 x1 x2 x3 x4) := by
  obtain ⟨⟨f1, f2⟩, f3, f4, f5⟩ := h
  refine ⟨⟨fun a ha => by unfold k5; rw [mu_f (by omega), mu_f (by omega), mu_f (by omega), mu_f (by omega), mu_f (by omega)]; exact f1 a ha, fun j a b c => by unfold k5; rw [mu_a (by decide), mu_a (by decide), mu_a (by decide), mu_a (by decide), mu_a (by decide)]; exact f2 j a b c⟩, by unfold k5; rw [mu_a (by decide), mu_a (by decide), mu_a (by decide), mu_a (by decide), mu_a (by decide)]; exact f3, fun r hr => by unfold k5; rw [mu_a (by decide), mu_a (by decide), mu_a (by decide), mu_a (by decide), mu_a (by decide), mu_a (by decide), mu_a (by decide), mu_a (by decide), mu_a (by decide), mu_a (by decide)]; exact f4 r hr, ?_⟩
  have g0 : k5 M2 x1 x2 x3 x4 120 0 = M2 120 0 + nI 1 := by unfold k5; rw [mu_k (by decide), mu_k (by decide), mu_k (by decide), mu_k (by decide), mu_s]
  have g1 : k5 M2 x1 x2 x3 x4 120 1 = x1 := by unfold k5; rw [mu_k (by decide), mu_k (by decide), mu_k (by decide), mu_s]
  have g2 : k5 M2 x1 x2 x3 x4 120 2 = x2 := by unfold k5; rw [mu_k (by decide), mu_k (by decide), mu_s]
  have g3 : k5 M2 x1 x2 x3 x4 120 3 = x3 := by unfold k5; rw [mu_k (by decide), mu_s]
  have g4 : k5 M2 x1 x2 x3 x4 120 4 = x4 := by unfold k5; rw [mu_s]
  have t0 : ∀ N : hM, trL N 84 4 = N 120 0 := fun N => trL_s (j := 0)
  have t1 : ∀ N : hM, trL N 84 5 = N 120 1 := fun N => trL_s (j := 1)
  have t2 : ∀ N : hM, trL N 84 6 = N 120 2 := fun N => trL_s (j := 2)
  have t3 : ∀ N : hM, trL N 84 7 = N 120 3 := fun N => trL_s (j := 3)
  have t4 : ∀ N : hM, trL N 84 8 = N 120 4 := fun N => trL_s (j := 4)
  refine lnI_step hk f5 hh ⟨fun a ha => ?_, fun j hj => ?_, ?_, fun z => ?_, fun z => ?_⟩
  · funext j; unfold trL; rw [if_neg (fun q => ha q.1), if_neg (fun q => ha q.1)]
  · unfold trL; rw [if_neg (fun q => by omega), if_neg (fun q => by omega)]
  · rw [t0, t0]; exact g0
  · rw [t0] at z
    rw [if_pos (Or.inl z)] at e1 e2 e3 e4
    rw [t1, t2, t3, t4, g1, g2, g3, g4]
    exact ⟨e1, e2, e3, e4⟩
  · rw [t0] at z
    rw [t1, t2, t3, t4, t1, t2, t3, t4, g1, g2, g3, g4, e1, e2, e3, e4]
    simp only [z, false_or, and_self]
theorem lq_n {M M2 : hM} {hold : Nat → Bool} {k : Nat} (h : lqI M hold k M2) (hh : ¬ hold k = true) : lqI M hold (k + 1) M2 := ⟨h.1, h.2.1, h.2.2.1, lnI_no h.2.2.2 hh⟩
theorem lq_fr {M M2 : hM} {hold : Nat → Bool} {k : Nat} (h : lqI M hold k M2) : frM M (mu (mu M2 93 11 (M 93 11)) 93 10 (M 93 10)) := by
  obtain ⟨⟨f1, f2⟩, -⟩ := h
  refine ⟨fun a ha => by rw [mu_f (by omega), mu_f (by omega)]; exact f1 a (by omega), fun j hj => ?_⟩
  by_cases e : j = 10
  · subst e; exact mu_s
  · by_cases e2 : j = 11
    · subst e2; rw [mu_k (by decide), mu_s]
    · rw [mu_k e, mu_k e2]; exact f2 j hj e e2
theorem m120 {M : hM} {x : Int32} {j k : Nat} (h : k ≠ j) : mu M 120 j x 120 k = M 120 k := mu_k h
set_option maxRecDepth 100000 in
set_option maxHeartbeats 4000000 in
theorem t_X11_learnt (M : hM) (t x : Int32) (hH : mH M) (w : Nat) (hw : w ≤ 6) (ew : M 93 35 = nI w) (g : Nat) (rm hr0 : Nat → Nat) (hR : mR M g rm hr0) : Ct 5 mX11_learnt [.ref 93, .int t, .int x] M (pX (fun y M2 => y = sLearnt M g rm hr0 t x ∧ frM M M2)) := by
  refine ct_of (lv := [some (.ref 93), some (.int t), some (.int x), none, none, none, none]) (by decide +kernel) (fun _ _ hq => hq) rfl (fun _ => Nat.le_of_ble_eq_true rfl) (fun X h hr => ?_)
  refine j_iload_n h 1 rfl rfl dX11_learnt_0 ?_
  refine j_iconst h 2 rfl (nI 0) (by decide) dX11_learnt_1 ?_
  refine j_sipush h 5 rfl (nI 999) (by decide) dX11_learnt_2 ?_
  refine j_callSI h 8 rfl lkX11_120 rfl (t_X11_in _ _ _ _) rfl rfl rfl dX11_learnt_5 ?_
  refine j_if_eqB h 20 11 dX11_learnt_8 (by decide) rfl (fun c_8 => ?_) (fun c_8 => ?_)
  · skip
    refine j_bipush h 22 rfl (-3) (by decide) dX11_learnt_20 ?_
    exact j_ret h hr rfl dX11_learnt_22 ⟨_, rfl, by unfold sLearnt; first | rw [if_neg (fun q => c_8 q.1)]; done | rw [if_neg (fun q => c_17 q.2)]; done, frM_r⟩
  · skip
    refine j_iload_n h 12 rfl rfl dX11_learnt_11 ?_
    refine j_iconst h 13 rfl (nI 0) (by decide) dX11_learnt_12 ?_
    refine j_iconst h 14 rfl (nI 4) (by decide) dX11_learnt_13 ?_
    refine j_callSI h 17 rfl lkX11_120 rfl (t_X11_in _ _ _ _) rfl rfl rfl dX11_learnt_14 ?_
    refine j_if_neB h 23 20 dX11_learnt_17 (by decide) rfl (fun c_17 => ?_) (fun c_17 => ?_)
    · skip
      have ht0 : (0 : Int32) ≤ t := c_8.1
      have hsl : sLearnt M g rm hr0 t x = lnV (lnS (fun k => hlB (lawP M (5 * (k / 9)) (5 * (k % 9))) t rm hr0 (M 87) g) 81) x := by unfold sLearnt lnH; rw [if_pos ⟨c_8, c_17⟩]
      obtain ⟨i, hi, rfl⟩ := (in_nat (by decide)).mp c_17
      refine j_aload_n h 24 rfl rfl dX11_learnt_23 ?_
      refine j_callVV h 27 rfl lkX11_253 sh_93 rfl rfl (t_X11_asTold _) rfl rfl rfl dX11_learnt_24 (fun M9 hM9 => ?_)
      refine j_aload_n h 28 rfl rfl dX11_learnt_27 ?_
      refine j_getI h 31 rfl glX11_41 sh_93 rfl dX11_learnt_28 ?_
      refine j_top (hM9.2.1 11 (by decide)) ?_
      refine j_istore_n h 32 rfl rfl dX11_learnt_31 ?_
      refine j_aload_n h 33 rfl rfl dX11_learnt_32 ?_
      refine j_getI h 36 rfl glX11_38 sh_93 rfl dX11_learnt_33 ?_
      refine j_top (hM9.2.1 10 (by decide)) ?_
      refine j_istore h 38 rfl rfl dX11_learnt_36 ?_
      refine j_aload_n h 39 rfl rfl dX11_learnt_38 ?_
      refine j_getR h 42 rfl glX11_117 sh_93 rfl dX11_learnt_39 ?_
      refine j_iconst h 43 rfl (nI 0) (by decide) dX11_learnt_42 ?_
      refine j_iconst h 44 rfl (nI 0) (by decide) dX11_learnt_43 ?_
      refine j_iast h 45 rfl sh_120 _ rfl (by omega) rfl dX11_learnt_44 ?_
      refine j_iconst h 46 rfl (nI 0) (by decide) dX11_learnt_45 ?_
      refine j_istore h 48 rfl rfl dX11_learnt_46 ?_
      have L : ∀ (n k : Nat) (M2 : hM) (z : Option Value), 81 - k < n → k ≤ 81 → lqI M (fun k => hlB (lawP M (5 * (k / 9)) (5 * (k % 9))) t rm hr0 (M 87) g) k M2 → J X 48 [some (.ref 93), some (.int t), some (.int (nI i)), some (.int (M 93 11)), some (.int (M 93 10)), some (.int (nI k)), z] [] M2 := by
        intro n
        induction n with
        | zero => intro k M2 z h1; omega
        | succ n ih =>
          intro k M2 z h1 h2 hI
          refine j_iload h 50 rfl rfl dX11_learnt_48 ?_
          refine j_bipush h 52 rfl (nI 81) (by decide) dX11_learnt_50 ?_
          refine j_icmp_geN h 269 55 (by omega) (by omega) dX11_learnt_52 (by decide) rfl (fun c_52 => ?_) (fun c_52 => ?_)
          · skip
            have hsb := (lnS_b (f := (fun k => hlB (lawP M (5 * (k / 9)) (5 * (k % 9))) t rm hr0 (M 87) g)) k (by omega)).1
            have hfr := lq_fr hI
            obtain ⟨-, -, -, h40, h4p⟩ := hI
            rw [show k = 81 by omega] at h40 h4p hsb
            generalize lnS (fun k => hlB (lawP M (5 * (k / 9)) (5 * (k % 9))) t rm hr0 (M 87) g) 81 = s at hsl h40 h4p hsb
            have t0 : M2 120 0 = nI s.1 := (trL_s (j := 0)).symm.trans h40
            have hs9 : nI s.1 = 0 → s.1 = 0 := fun z => (nI_eq (by omega) (by decide)).mp z
            refine j_aload_n h 270 rfl rfl dX11_learnt_269 ?_
            refine j_iload_n h 271 rfl rfl dX11_learnt_270 ?_
            refine j_putI h 274 rfl plX11_41 sh_93 rfl rfl rfl rfl dX11_learnt_271 ?_
            refine j_aload_n h 275 rfl rfl dX11_learnt_274 ?_
            refine j_iload h 277 rfl rfl dX11_learnt_275 ?_
            refine j_putI h 280 rfl plX11_38 sh_93 rfl rfl rfl rfl dX11_learnt_277 ?_
            refine j_iload_n h 281 rfl rfl dX11_learnt_280 ?_
            refine j_if_neN h 293 284 (by omega) dX11_learnt_281 (by decide) rfl (fun c_281 => ?_) (fun c_281 => ?_)
            · skip
              refine j_aload_n h 294 rfl rfl dX11_learnt_293 ?_
              refine j_getR h 297 rfl glX11_117 sh_93 rfl dX11_learnt_294 ?_
              refine j_iconst h 298 rfl (nI 0) (by decide) dX11_learnt_297 ?_
              refine j_iald h 299 rfl sh_120 _ rfl (by omega) rfl dX11_learnt_298 ?_
              refine j_top ((mu_a (by decide)).trans (mu_a (by decide))) ?_
              refine j_if_ne h 306 302 dX11_learnt_299 (by decide) rfl (fun c_299 => ?_) (fun c_299 => ?_)
              · skip
                refine j_aload_n h 307 rfl rfl dX11_learnt_306 ?_
                refine j_getR h 310 rfl glX11_117 sh_93 rfl dX11_learnt_307 ?_
                refine j_iload_n h 311 rfl rfl dX11_learnt_310 ?_
                refine j_iald h 312 rfl sh_120 _ rfl (by omega) rfl dX11_learnt_311 ?_
                refine j_top ((mu_a (by decide)).trans (mu_a (by decide))) ?_
                exact j_ret h hr rfl dX11_learnt_312 ⟨_, rfl, by
    rw [hsl]
    unfold lnV
    first
      | (rw [if_pos (by rw [c_281]; rfl)]; exact t0)
      | (rw [if_neg (nI_ne0 (by omega) (by omega)), if_pos (hs9 (t0.symm.trans c_299))])
      | (rw [if_neg (nI_ne0 (by omega) (by omega)), if_neg (fun z => c_299 (by rw [t0, z]; rfl))]
         obtain ⟨u1, u2, u3, u4⟩ := h4p (Nat.pos_of_ne_zero (fun z => c_299 (by rw [t0, z]; rfl)))
         rcases (by omega : i = 1 ∨ i = 2 ∨ i = 3 ∨ i = 4) with rfl | rfl | rfl | rfl
         · rw [if_pos rfl]; exact (trL_s (j := 1)).symm.trans u1
         · rw [if_neg (by decide), if_pos rfl]; exact (trL_s (j := 2)).symm.trans u2
         · rw [if_neg (by decide), if_neg (by decide), if_pos rfl]; exact (trL_s (j := 3)).symm.trans u3
         · rw [if_neg (by decide), if_neg (by decide), if_neg (by decide)]; exact (trL_s (j := 4)).symm.trans u4), hfr⟩
              · skip
                refine j_iconst h 303 rfl (-1) (by decide) dX11_learnt_302 ?_
                refine j_goto h 312 dX11_learnt_303 (by decide) ?_
                exact j_ret h hr rfl dX11_learnt_312 ⟨_, rfl, by
    rw [hsl]
    unfold lnV
    first
      | (rw [if_pos (by rw [c_281]; rfl)]; exact t0)
      | (rw [if_neg (nI_ne0 (by omega) (by omega)), if_pos (hs9 (t0.symm.trans c_299))])
      | (rw [if_neg (nI_ne0 (by omega) (by omega)), if_neg (fun z => c_299 (by rw [t0, z]; rfl))]
         obtain ⟨u1, u2, u3, u4⟩ := h4p (Nat.pos_of_ne_zero (fun z => c_299 (by rw [t0, z]; rfl)))
         rcases (by omega : i = 1 ∨ i = 2 ∨ i = 3 ∨ i = 4) with rfl | rfl | rfl | rfl
         · rw [if_pos rfl]; exact (trL_s (j := 1)).symm.trans u1
         · rw [if_neg (by decide), if_pos rfl]; exact (trL_s (j := 2)).symm.trans u2
         · rw [if_neg (by decide), if_neg (by decide), if_pos rfl]; exact (trL_s (j := 3)).symm.trans u3
         · rw [if_neg (by decide), if_neg (by decide), if_neg (by decide)]; exact (trL_s (j := 4)).symm.trans u4), hfr⟩
            · skip
              refine j_aload_n h 285 rfl rfl dX11_learnt_284 ?_
              refine j_getR h 288 rfl glX11_117 sh_93 rfl dX11_learnt_285 ?_
              refine j_iconst h 289 rfl (nI 0) (by decide) dX11_learnt_288 ?_
              refine j_iald h 290 rfl sh_120 _ rfl (by omega) rfl dX11_learnt_289 ?_
              refine j_top ((mu_a (by decide)).trans (mu_a (by decide))) ?_
              refine j_goto h 312 dX11_learnt_290 (by decide) ?_
              exact j_ret h hr rfl dX11_learnt_312 ⟨_, rfl, by
    rw [hsl]
    unfold lnV
    first
      | (rw [if_pos (by rw [c_281]; rfl)]; exact t0)
      | (rw [if_neg (nI_ne0 (by omega) (by omega)), if_pos (hs9 (t0.symm.trans c_299))])
      | (rw [if_neg (nI_ne0 (by omega) (by omega)), if_neg (fun z => c_299 (by rw [t0, z]; rfl))]
         obtain ⟨u1, u2, u3, u4⟩ := h4p (Nat.pos_of_ne_zero (fun z => c_299 (by rw [t0, z]; rfl)))
         rcases (by omega : i = 1 ∨ i = 2 ∨ i = 3 ∨ i = 4) with rfl | rfl | rfl | rfl
         · rw [if_pos rfl]; exact (trL_s (j := 1)).symm.trans u1
         · rw [if_neg (by decide), if_pos rfl]; exact (trL_s (j := 2)).symm.trans u2
         · rw [if_neg (by decide), if_neg (by decide), if_pos rfl]; exact (trL_s (j := 3)).symm.trans u3
         · rw [if_neg (by decide), if_neg (by decide), if_neg (by decide)]; exact (trL_s (j := 4)).symm.trans u4), hfr⟩
          · skip
            refine j_aload_n h 56 rfl rfl dX11_learnt_55 ?_
            refine j_iconst h 57 rfl (nI 5) (by decide) dX11_learnt_56 ?_
            refine j_iload h 59 rfl rfl dX11_learnt_57 ?_
            refine j_bipush h 61 rfl (nI 9) (by decide) dX11_learnt_59 ?_
            refine j_idivN h 62 rfl (by omega) (by omega) (by omega) dX11_learnt_61 ?_
            refine j_imulN h 63 rfl dX11_learnt_62 ?_
            refine j_putI h 66 rfl plX11_41 sh_93 rfl rfl rfl rfl dX11_learnt_63 ?_
            refine j_aload_n h 67 rfl rfl dX11_learnt_66 ?_
            refine j_iconst h 68 rfl (nI 5) (by decide) dX11_learnt_67 ?_
            refine j_iload h 70 rfl rfl dX11_learnt_68 ?_
            refine j_bipush h 72 rfl (nI 9) (by decide) dX11_learnt_70 ?_
            refine j_iremN h 73 rfl (by omega) (by omega) (by omega) dX11_learnt_72 ?_
            refine j_imulN h 74 rfl dX11_learnt_73 ?_
            refine j_putI h 77 rfl plX11_38 sh_93 rfl rfl rfl rfl dX11_learnt_74 ?_
            refine j_aload_n h 78 rfl rfl dX11_learnt_77 ?_
            have hP9 := mP_L (g := 5 * (k / 9)) (t := 5 * (k % 9)) hH hw ew hI
            refine j_callVV h 81 rfl lkX11_247 sh_93 rfl rfl (t_X11_goWeek _ _ w hw hP9) rfl rfl rfl dX11_learnt_78 (fun M8 hM8 => ?_)
            obtain ⟨hI8, h811, h810⟩ := lq_W hI hM8.1
            have hP8 := mP_cg hM8.1 hP9
            have hrow8 : ∀ i, i < g → M8 114 i = nI (rm i) ∧ rm i < 5 ∧ M8 115 i = nI (hr0 i) ∧ hr0 i < 96 := fun i hi => by
              obtain ⟨q1, q2, q3, q4, q5, q6, q7⟩ := hR.2.2.2 i hi
              exact ⟨by rw [hI8.1.1 114 (by omega), q1, q4], q5, by rw [hI8.1.1 115 (by omega), q2, q6], q7⟩
            refine j_aload_n h 82 rfl rfl dX11_learnt_81 ?_
            refine j_iload_n h 83 rfl rfl dX11_learnt_82 ?_
            refine j_callVI h 86 rfl lkX11_273 sh_93 rfl rfl (t_X11_doHold _ _ w hP8 _ ht0 g rm hr0 hR.1 ((hI8.1.2 40 (by decide) (by decide) (by decide)).trans hR.2.1) hrow8) rfl rfl rfl dX11_learnt_83 ?_
            have e3 : ahB (lawP M (5 * (k / 9)) (5 * (k % 9)) 15) (fun r k => M8 101 (96 * r + (k - 1))) t rm hr0 (M8 116) g = (fun k => hlB (lawP M (5 * (k / 9)) (5 * (k % 9))) t rm hr0 (M 87) g) k := by
              refine ahB_cg g (fun i9 hi9 => ?_)
              obtain ⟨q1, q2, q3, q4, q5, q6, q7⟩ := hR.2.2.2 i9 hi9
              exact ⟨by rw [hI8.1.1 116 (by omega), q3], rfl, fun q => by show M8 101 (96 * rm i9 + hr0 i9) = _; exact ((hM8.2 (rm i9) q5 q).2.2 (hr0 i9) q7).1⟩
            refine j_top (show _ = hb ((fun k => hlB (lawP M (5 * (k / 9)) (5 * (k % 9))) t rm hr0 (M 87) g) k = true) by rw [e3]) ?_
            refine j_if_eqB h 263 89 dX11_learnt_86 (by decide) rfl (fun c_86 => ?_) (fun c_86 => ?_)
            · skip
              refine j_iincN h 266 rfl rfl rfl dX11_learnt_263 ?_
              refine j_goto h 48 dX11_learnt_266 (by decide) ?_
              first
                | exact ih (k + 1) _ _ (by omega) (by omega) (lq_n hI8 c_86)
                | exact ih (k + 1) _ _ (by omega) (by omega) (lq_y (by omega) hI8 c_86 e1 e2 e3 e4)
            · skip
              have K103 : ∀ y, y = hb (M8 120 0 = 0) → J X 103 [some (.ref 93), some (.int t), some (.int (nI i)), some (.int (M 93 11)), some (.int (M 93 10)), some (.int (nI k)), z] [.int y] M8 := by
                intro y hy
                subst hy
                refine j_istore h 105 rfl rfl dX11_learnt_103 ?_
                refine j_aload_n h 106 rfl rfl dX11_learnt_105 ?_
                refine j_getR h 109 rfl glX11_117 sh_93 rfl dX11_learnt_106 ?_
                refine j_iconst h 110 rfl (nI 0) (by decide) dX11_learnt_109 ?_
                refine j_dup2 h 111 rfl rfl rfl dX11_learnt_110 ?_
                refine j_iald h 112 rfl sh_120 _ rfl (by omega) rfl dX11_learnt_111 ?_
                refine j_iconst h 113 rfl (nI 1) (by decide) dX11_learnt_112 ?_
                refine j_iadd h 114 rfl dX11_learnt_113 ?_
                refine j_iast h 115 rfl sh_120 _ rfl (by omega) rfl dX11_learnt_114 ?_
                refine j_aload_n h 116 rfl rfl dX11_learnt_115 ?_
                refine j_getR h 119 rfl glX11_117 sh_93 rfl dX11_learnt_116 ?_
                have K151 : ∀ x1, x1 = (if M8 120 0 = 0 ∨ (nI (5 * (k / 9))) < M8 120 1 then (nI (5 * (k / 9))) else M8 120 1) → J X 151 [some (.ref 93), some (.int t), some (.int (nI i)), some (.int (M 93 11)), some (.int (M 93 10)), some (.int (nI k)), some (.int (hb (M8 120 0 = 0)))] [.int x1, .int (nI 1), .ref 120] (mu M8 120 0 (M8 120 0 + nI 1)) := by
                  intro x1 e1
                  refine j_iast h 152 rfl sh_120 _ rfl (by omega) rfl dX11_learnt_151 ?_
                  refine j_aload_n h 153 rfl rfl dX11_learnt_152 ?_
                  refine j_getR h 156 rfl glX11_117 sh_93 rfl dX11_learnt_153 ?_
                  have K188 : ∀ x2, x2 = (if M8 120 0 = 0 ∨ M8 120 2 < (nI (5 * (k / 9))) then (nI (5 * (k / 9))) else M8 120 2) → J X 188 [some (.ref 93), some (.int t), some (.int (nI i)), some (.int (M 93 11)), some (.int (M 93 10)), some (.int (nI k)), some (.int (hb (M8 120 0 = 0)))] [.int x2, .int (nI 2), .ref 120] (mu (mu M8 120 0 (M8 120 0 + nI 1)) 120 1 x1) := by
                    intro x2 e2
                    refine j_iast h 189 rfl sh_120 _ rfl (by omega) rfl dX11_learnt_188 ?_
                    refine j_aload_n h 190 rfl rfl dX11_learnt_189 ?_
                    refine j_getR h 193 rfl glX11_117 sh_93 rfl dX11_learnt_190 ?_
                    have K225 : ∀ x3, x3 = (if M8 120 0 = 0 ∨ (nI (5 * (k % 9))) < M8 120 3 then (nI (5 * (k % 9))) else M8 120 3) → J X 225 [some (.ref 93), some (.int t), some (.int (nI i)), some (.int (M 93 11)), some (.int (M 93 10)), some (.int (nI k)), some (.int (hb (M8 120 0 = 0)))] [.int x3, .int (nI 3), .ref 120] (mu (mu (mu M8 120 0 (M8 120 0 + nI 1)) 120 1 x1) 120 2 x2) := by
                      intro x3 e3
                      refine j_iast h 226 rfl sh_120 _ rfl (by omega) rfl dX11_learnt_225 ?_
                      refine j_aload_n h 227 rfl rfl dX11_learnt_226 ?_
                      refine j_getR h 230 rfl glX11_117 sh_93 rfl dX11_learnt_227 ?_
                      have K262 : ∀ x4, x4 = (if M8 120 0 = 0 ∨ M8 120 4 < (nI (5 * (k % 9))) then (nI (5 * (k % 9))) else M8 120 4) → J X 262 [some (.ref 93), some (.int t), some (.int (nI i)), some (.int (M 93 11)), some (.int (M 93 10)), some (.int (nI k)), some (.int (hb (M8 120 0 = 0)))] [.int x4, .int (nI 4), .ref 120] (mu (mu (mu (mu M8 120 0 (M8 120 0 + nI 1)) 120 1 x1) 120 2 x2) 120 3 x3) := by
                        intro x4 e4
                        refine j_iast h 263 rfl sh_120 _ rfl (by omega) rfl dX11_learnt_262 ?_
                        refine j_iincN h 266 rfl rfl rfl dX11_learnt_263 ?_
                        refine j_goto h 48 dX11_learnt_266 (by decide) ?_
                        first
                          | exact ih (k + 1) _ _ (by omega) (by omega) (lq_n hI8 c_86)
                          | exact ih (k + 1) _ _ (by omega) (by omega) (lq_y (by omega) hI8 c_86 e1 e2 e3 e4)
                      refine j_iconst h 231 rfl (nI 4) (by decide) dX11_learnt_230 ?_
                      refine j_iload h 233 rfl rfl dX11_learnt_231 ?_
                      refine j_if_neB h 249 236 dX11_learnt_233 (by decide) rfl (fun c_233 => ?_) (fun c_233 => ?_)
                      · skip
                        refine j_aload_n h 250 rfl rfl dX11_learnt_249 ?_
                        refine j_getI h 253 rfl glX11_38 sh_93 rfl dX11_learnt_250 ?_
                        refine j_top ((mu_a (by decide)).trans ((mu_a (by decide)).trans ((mu_a (by decide)).trans ((mu_a (by decide)).trans (h810))))) ?_
                        refine j_goto h 262 dX11_learnt_253 (by decide) ?_
                        exact K262 _ (by first | exact (if_pos (Or.inl c_233)).symm | exact (if_pos (Or.inr (Int32.not_le.mp c_246))).symm | exact (if_neg (fun q => q.elim c_233 (Int32.not_lt.mpr c_246))).symm)
                      · skip
                        refine j_aload_n h 237 rfl rfl dX11_learnt_236 ?_
                        refine j_getI h 240 rfl glX11_38 sh_93 rfl dX11_learnt_237 ?_
                        refine j_top ((mu_a (by decide)).trans ((mu_a (by decide)).trans ((mu_a (by decide)).trans ((mu_a (by decide)).trans (h810))))) ?_
                        refine j_aload_n h 241 rfl rfl dX11_learnt_240 ?_
                        refine j_getR h 244 rfl glX11_117 sh_93 rfl dX11_learnt_241 ?_
                        refine j_iconst h 245 rfl (nI 4) (by decide) dX11_learnt_244 ?_
                        refine j_iald h 246 rfl sh_120 _ rfl (by omega) rfl dX11_learnt_245 ?_
                        refine j_top ((m120 (by decide)).trans ((m120 (by decide)).trans ((m120 (by decide)).trans (m120 (by decide))))) ?_
                        refine j_icmp_le h 256 249 dX11_learnt_246 (by decide) rfl (fun c_246 => ?_) (fun c_246 => ?_)
                        · skip
                          refine j_aload_n h 257 rfl rfl dX11_learnt_256 ?_
                          refine j_getR h 260 rfl glX11_117 sh_93 rfl dX11_learnt_257 ?_
                          refine j_iconst h 261 rfl (nI 4) (by decide) dX11_learnt_260 ?_
                          refine j_iald h 262 rfl sh_120 _ rfl (by omega) rfl dX11_learnt_261 ?_
                          refine j_top ((m120 (by decide)).trans ((m120 (by decide)).trans ((m120 (by decide)).trans (m120 (by decide))))) ?_
                          exact K262 _ (by first | exact (if_pos (Or.inl c_233)).symm | exact (if_pos (Or.inr (Int32.not_le.mp c_246))).symm | exact (if_neg (fun q => q.elim c_233 (Int32.not_lt.mpr c_246))).symm)
                        · skip
                          refine j_aload_n h 250 rfl rfl dX11_learnt_249 ?_
                          refine j_getI h 253 rfl glX11_38 sh_93 rfl dX11_learnt_250 ?_
                          refine j_top ((mu_a (by decide)).trans ((mu_a (by decide)).trans ((mu_a (by decide)).trans ((mu_a (by decide)).trans (h810))))) ?_
                          refine j_goto h 262 dX11_learnt_253 (by decide) ?_
                          exact K262 _ (by first | exact (if_pos (Or.inl c_233)).symm | exact (if_pos (Or.inr (Int32.not_le.mp c_246))).symm | exact (if_neg (fun q => q.elim c_233 (Int32.not_lt.mpr c_246))).symm)
                    refine j_iconst h 194 rfl (nI 3) (by decide) dX11_learnt_193 ?_
                    refine j_iload h 196 rfl rfl dX11_learnt_194 ?_
                    refine j_if_neB h 212 199 dX11_learnt_196 (by decide) rfl (fun c_196 => ?_) (fun c_196 => ?_)
                    · skip
                      refine j_aload_n h 213 rfl rfl dX11_learnt_212 ?_
                      refine j_getI h 216 rfl glX11_38 sh_93 rfl dX11_learnt_213 ?_
                      refine j_top ((mu_a (by decide)).trans ((mu_a (by decide)).trans ((mu_a (by decide)).trans (h810)))) ?_
                      refine j_goto h 225 dX11_learnt_216 (by decide) ?_
                      exact K225 _ (by first | exact (if_pos (Or.inl c_196)).symm | exact (if_pos (Or.inr (Int32.not_le.mp c_209))).symm | exact (if_neg (fun q => q.elim c_196 (Int32.not_lt.mpr c_209))).symm)
                    · skip
                      refine j_aload_n h 200 rfl rfl dX11_learnt_199 ?_
                      refine j_getI h 203 rfl glX11_38 sh_93 rfl dX11_learnt_200 ?_
                      refine j_top ((mu_a (by decide)).trans ((mu_a (by decide)).trans ((mu_a (by decide)).trans (h810)))) ?_
                      refine j_aload_n h 204 rfl rfl dX11_learnt_203 ?_
                      refine j_getR h 207 rfl glX11_117 sh_93 rfl dX11_learnt_204 ?_
                      refine j_iconst h 208 rfl (nI 3) (by decide) dX11_learnt_207 ?_
                      refine j_iald h 209 rfl sh_120 _ rfl (by omega) rfl dX11_learnt_208 ?_
                      refine j_top ((m120 (by decide)).trans ((m120 (by decide)).trans (m120 (by decide)))) ?_
                      refine j_icmp_ge h 219 212 dX11_learnt_209 (by decide) rfl (fun c_209 => ?_) (fun c_209 => ?_)
                      · skip
                        refine j_aload_n h 220 rfl rfl dX11_learnt_219 ?_
                        refine j_getR h 223 rfl glX11_117 sh_93 rfl dX11_learnt_220 ?_
                        refine j_iconst h 224 rfl (nI 3) (by decide) dX11_learnt_223 ?_
                        refine j_iald h 225 rfl sh_120 _ rfl (by omega) rfl dX11_learnt_224 ?_
                        refine j_top ((m120 (by decide)).trans ((m120 (by decide)).trans (m120 (by decide)))) ?_
                        exact K225 _ (by first | exact (if_pos (Or.inl c_196)).symm | exact (if_pos (Or.inr (Int32.not_le.mp c_209))).symm | exact (if_neg (fun q => q.elim c_196 (Int32.not_lt.mpr c_209))).symm)
                      · skip
                        refine j_aload_n h 213 rfl rfl dX11_learnt_212 ?_
                        refine j_getI h 216 rfl glX11_38 sh_93 rfl dX11_learnt_213 ?_
                        refine j_top ((mu_a (by decide)).trans ((mu_a (by decide)).trans ((mu_a (by decide)).trans (h810)))) ?_
                        refine j_goto h 225 dX11_learnt_216 (by decide) ?_
                        exact K225 _ (by first | exact (if_pos (Or.inl c_196)).symm | exact (if_pos (Or.inr (Int32.not_le.mp c_209))).symm | exact (if_neg (fun q => q.elim c_196 (Int32.not_lt.mpr c_209))).symm)
                  refine j_iconst h 157 rfl (nI 2) (by decide) dX11_learnt_156 ?_
                  refine j_iload h 159 rfl rfl dX11_learnt_157 ?_
                  refine j_if_neB h 175 162 dX11_learnt_159 (by decide) rfl (fun c_159 => ?_) (fun c_159 => ?_)
                  · skip
                    refine j_aload_n h 176 rfl rfl dX11_learnt_175 ?_
                    refine j_getI h 179 rfl glX11_41 sh_93 rfl dX11_learnt_176 ?_
                    refine j_top ((mu_a (by decide)).trans ((mu_a (by decide)).trans (h811))) ?_
                    refine j_goto h 188 dX11_learnt_179 (by decide) ?_
                    exact K188 _ (by first | exact (if_pos (Or.inl c_159)).symm | exact (if_pos (Or.inr (Int32.not_le.mp c_172))).symm | exact (if_neg (fun q => q.elim c_159 (Int32.not_lt.mpr c_172))).symm)
                  · skip
                    refine j_aload_n h 163 rfl rfl dX11_learnt_162 ?_
                    refine j_getI h 166 rfl glX11_41 sh_93 rfl dX11_learnt_163 ?_
                    refine j_top ((mu_a (by decide)).trans ((mu_a (by decide)).trans (h811))) ?_
                    refine j_aload_n h 167 rfl rfl dX11_learnt_166 ?_
                    refine j_getR h 170 rfl glX11_117 sh_93 rfl dX11_learnt_167 ?_
                    refine j_iconst h 171 rfl (nI 2) (by decide) dX11_learnt_170 ?_
                    refine j_iald h 172 rfl sh_120 _ rfl (by omega) rfl dX11_learnt_171 ?_
                    refine j_top ((m120 (by decide)).trans (m120 (by decide))) ?_
                    refine j_icmp_le h 182 175 dX11_learnt_172 (by decide) rfl (fun c_172 => ?_) (fun c_172 => ?_)
                    · skip
                      refine j_aload_n h 183 rfl rfl dX11_learnt_182 ?_
                      refine j_getR h 186 rfl glX11_117 sh_93 rfl dX11_learnt_183 ?_
                      refine j_iconst h 187 rfl (nI 2) (by decide) dX11_learnt_186 ?_
                      refine j_iald h 188 rfl sh_120 _ rfl (by omega) rfl dX11_learnt_187 ?_
                      refine j_top ((m120 (by decide)).trans (m120 (by decide))) ?_
                      exact K188 _ (by first | exact (if_pos (Or.inl c_159)).symm | exact (if_pos (Or.inr (Int32.not_le.mp c_172))).symm | exact (if_neg (fun q => q.elim c_159 (Int32.not_lt.mpr c_172))).symm)
                    · skip
                      refine j_aload_n h 176 rfl rfl dX11_learnt_175 ?_
                      refine j_getI h 179 rfl glX11_41 sh_93 rfl dX11_learnt_176 ?_
                      refine j_top ((mu_a (by decide)).trans ((mu_a (by decide)).trans (h811))) ?_
                      refine j_goto h 188 dX11_learnt_179 (by decide) ?_
                      exact K188 _ (by first | exact (if_pos (Or.inl c_159)).symm | exact (if_pos (Or.inr (Int32.not_le.mp c_172))).symm | exact (if_neg (fun q => q.elim c_159 (Int32.not_lt.mpr c_172))).symm)
                refine j_iconst h 120 rfl (nI 1) (by decide) dX11_learnt_119 ?_
                refine j_iload h 122 rfl rfl dX11_learnt_120 ?_
                refine j_if_neB h 138 125 dX11_learnt_122 (by decide) rfl (fun c_122 => ?_) (fun c_122 => ?_)
                · skip
                  refine j_aload_n h 139 rfl rfl dX11_learnt_138 ?_
                  refine j_getI h 142 rfl glX11_41 sh_93 rfl dX11_learnt_139 ?_
                  refine j_top ((mu_a (by decide)).trans (h811)) ?_
                  refine j_goto h 151 dX11_learnt_142 (by decide) ?_
                  exact K151 _ (by first | exact (if_pos (Or.inl c_122)).symm | exact (if_pos (Or.inr (Int32.not_le.mp c_135))).symm | exact (if_neg (fun q => q.elim c_122 (Int32.not_lt.mpr c_135))).symm)
                · skip
                  refine j_aload_n h 126 rfl rfl dX11_learnt_125 ?_
                  refine j_getI h 129 rfl glX11_41 sh_93 rfl dX11_learnt_126 ?_
                  refine j_top ((mu_a (by decide)).trans (h811)) ?_
                  refine j_aload_n h 130 rfl rfl dX11_learnt_129 ?_
                  refine j_getR h 133 rfl glX11_117 sh_93 rfl dX11_learnt_130 ?_
                  refine j_iconst h 134 rfl (nI 1) (by decide) dX11_learnt_133 ?_
                  refine j_iald h 135 rfl sh_120 _ rfl (by omega) rfl dX11_learnt_134 ?_
                  refine j_top (m120 (by decide)) ?_
                  refine j_icmp_ge h 145 138 dX11_learnt_135 (by decide) rfl (fun c_135 => ?_) (fun c_135 => ?_)
                  · skip
                    refine j_aload_n h 146 rfl rfl dX11_learnt_145 ?_
                    refine j_getR h 149 rfl glX11_117 sh_93 rfl dX11_learnt_146 ?_
                    refine j_iconst h 150 rfl (nI 1) (by decide) dX11_learnt_149 ?_
                    refine j_iald h 151 rfl sh_120 _ rfl (by omega) rfl dX11_learnt_150 ?_
                    refine j_top (m120 (by decide)) ?_
                    exact K151 _ (by first | exact (if_pos (Or.inl c_122)).symm | exact (if_pos (Or.inr (Int32.not_le.mp c_135))).symm | exact (if_neg (fun q => q.elim c_122 (Int32.not_lt.mpr c_135))).symm)
                  · skip
                    refine j_aload_n h 139 rfl rfl dX11_learnt_138 ?_
                    refine j_getI h 142 rfl glX11_41 sh_93 rfl dX11_learnt_139 ?_
                    refine j_top ((mu_a (by decide)).trans (h811)) ?_
                    refine j_goto h 151 dX11_learnt_142 (by decide) ?_
                    exact K151 _ (by first | exact (if_pos (Or.inl c_122)).symm | exact (if_pos (Or.inr (Int32.not_le.mp c_135))).symm | exact (if_neg (fun q => q.elim c_122 (Int32.not_lt.mpr c_135))).symm)
              refine j_aload_n h 90 rfl rfl dX11_learnt_89 ?_
              refine j_getR h 93 rfl glX11_117 sh_93 rfl dX11_learnt_90 ?_
              refine j_iconst h 94 rfl (nI 0) (by decide) dX11_learnt_93 ?_
              refine j_iald h 95 rfl sh_120 _ rfl (by omega) rfl dX11_learnt_94 ?_
              refine j_if_ne h 102 98 dX11_learnt_95 (by decide) rfl (fun c_95 => ?_) (fun c_95 => ?_)
              · skip
                refine j_iconst h 103 rfl (nI 0) (by decide) dX11_learnt_102 ?_
                exact K103 _ (by first | (rw [hb_t c_95]; rfl) | (rw [hb_f c_95]; rfl))
              · skip
                refine j_iconst h 99 rfl (nI 1) (by decide) dX11_learnt_98 ?_
                refine j_goto h 103 dX11_learnt_99 (by decide) ?_
                exact K103 _ (by first | (rw [hb_t c_95]; rfl) | (rw [hb_f c_95]; rfl))
      exact L 82 0 _ _ (by omega) (by omega) (lq_0 hH hM9)
    · skip
      refine j_bipush h 22 rfl (-3) (by decide) dX11_learnt_20 ?_
      exact j_ret h hr rfl dX11_learnt_22 ⟨_, rfl, by unfold sLearnt; first | rw [if_neg (fun q => c_8 q.1)]; done | rw [if_neg (fun q => c_17 q.2)]; done, frM_r⟩
