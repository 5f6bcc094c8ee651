/-! Reader.faultOf -/
def foE (r : Option Nat) : Int32 := match r with
  | none => -1
  | some q => nI q
def foP (M : hM) (L : Nat) (x : Int32) (M2 : hM) : Prop := x = foE (prS (M 2) L 8 0).1 ∧ (∀ a, (a < 3 ∨ 13 < a ∨ a = 5) → M2 a = M a) ∧ ((prS (M 2) L 8 0).1 = none → M2 3 2 = nI (prS (M 2) L 8 0).2.length ∧ (prS (M 2) L 8 0).2.length ≤ 8 ∧ lnE M2 (prS (M 2) L 8 0).2)
def foI (M : hM) (L i q : Nat) (dn : List (Nat × List Nat)) (M2 : hM) : Prop := (∀ a, (a < 3 ∨ 13 < a ∨ a = 5) → M2 a = M a) ∧ M2 3 2 = nI i ∧ M2 3 3 = nI q ∧ q ≤ L ∧ (0 < i → 0 < q) ∧ dn.length = i ∧ lnE M2 dn ∧ (prS (M 2) L 8 0).1 = (prS (M 2) L (8 - i) q).1 ∧ (prS (M 2) L 8 0).2 = dn ++ (prS (M 2) L (8 - i) q).2
theorem lnE_cg {M N : hM} {ls : List (Nat × List Nat)} (h : lnE M ls) (h4 : ∀ i, i < ls.length → N 4 i = M 4 i) (h6 : ∀ i, i < ls.length → N (6 + i) = M (6 + i)) : lnE N ls := fun i hi => by
  obtain ⟨a, b⟩ := h i hi
  exact ⟨by rw [h4 i hi]; exact a, fun k hk => by rw [h6 i hi]; exact b k hk⟩
theorem lnE_add {M : hM} {ls : List (Nat × List Nat)} {k : Nat} {ns : List Nat} (h : lnE M ls) (h4 : M 4 ls.length = nI k) (h6 : ∀ j, j < ns.length → M (6 + ls.length) j = nI (ns.getD j 0)) : lnE M (ls ++ [(k, ns)]) := fun i hi => by
  rw [List.length_append] at hi
  have hi : i < ls.length + 1 := hi
  by_cases e : i = ls.length
  · subst e
    rw [List.getD_eq_getElem?_getD, List.getElem?_append_right (Nat.le_refl _), Nat.sub_self]
    exact ⟨h4, h6⟩
  · rw [List.getD_eq_getElem?_getD, List.getElem?_append_left (by omega), ← List.getD_eq_getElem?_getD]
    exact h i (by omega)
theorem foI_w {M M2 M3 : hM} {L i q : Nat} {dn : List (Nat × List Nat)} (hI : foI M L i q dn M2) (hi : i < 8) {x : Int32} (h3 : rwP M2 L q i x M3) (hk : wK (M 2) L q = 10) : foP M L (M3 3 3) M3 := by
  obtain ⟨f1, f2, f3, f4, f5, f6, f7, f8, f9⟩ := hI
  obtain ⟨g1, g2, g3, g4, g5, g6⟩ := h3
  rw [f1 2 (by omega)] at g5
  have e : prS (M 2) L (8 - i) q = (some (skB (M 2) L q), []) := by
    rw [show 8 - i = (8 - (i + 1)) + 1 by omega, prS, if_pos hk]
  rw [e] at f8
  refine ⟨by rw [f8]; exact g5 hk, fun a ha => by rw [g2 a (by omega) (by omega)]; exact f1 a ha, fun z => by rw [f8] at z; cases z⟩
theorem foI_n {M M2 M3 M4 : hM} {L i q : Nat} {dn : List (Nat × List Nat)} (hI : foI M L i q dn M2) (hi : i < 8) {x y : Int32} (h3 : rwP M2 L q i x M3) (h4 : rnP M3 L (wK (M 2) L q) (wT (M 2) L q) i y M4) (hk : ¬ wK (M 2) L q = 10) (hr : ¬ (wR (M 2) L q).1 = true) : foP M L (M4 3 3) M4 := by
  obtain ⟨f1, f2, f3, f4, f5, f6, f7, f8, f9⟩ := hI
  obtain ⟨g1, g2, g3, g4, g5, g6⟩ := h3
  obtain ⟨k1, k2, k3, k4, k5⟩ := h4
  rw [g2 2 (by omega) (by omega), f1 2 (by omega)] at k4
  have hr' : (wR (M 2) L q).1 = false := by cases h : (wR (M 2) L q).1 <;> simp_all
  have e : prS (M 2) L (8 - i) q = (some (wR (M 2) L q).2.1, []) := by
    rw [show 8 - i = (8 - (i + 1)) + 1 by omega, prS, if_neg hk, if_pos hr']
  rw [e] at f8
  refine ⟨by rw [f8]; exact k4, fun a ha => by rw [k2 a (by omega) (by omega), g2 a (by omega) (by omega)]; exact f1 a ha, fun z => by rw [f8] at z; cases z⟩
/-- behind a line that stands -/
def foJ (M : hM) (L i q : Nat) (dn : List (Nat × List Nat)) (M2 : hM) : Prop := (∀ a, (a < 3 ∨ 13 < a ∨ a = 5) → M2 a = M a) ∧ M2 3 2 = nI (i + 1) ∧ M2 3 3 = nI (wQ (M 2) L q) ∧ wQ (M 2) L q ≤ L ∧ dn.length = i + 1 ∧ lnE M2 dn ∧
  (wQ (M 2) L q = L → (prS (M 2) L 8 0).1 = none ∧ (prS (M 2) L 8 0).2 = dn) ∧ (¬ wQ (M 2) L q = L → ¬ M 2 (wQ (M 2) L q) = nI 59 → (prS (M 2) L 8 0).1 = some (wQ (M 2) L q)) ∧
  (¬ wQ (M 2) L q = L → M 2 (wQ (M 2) L q) = nI 59 → (prS (M 2) L 8 0).1 = (prS (M 2) L (8 - (i + 1)) (wQ (M 2) L q + 1)).1 ∧ (prS (M 2) L 8 0).2 = dn ++ (prS (M 2) L (8 - (i + 1)) (wQ (M 2) L q + 1)).2)
theorem foI_j {M M2 M3 M4 : hM} {L i q : Nat} {dn : List (Nat × List Nat)} (hI : foI M L i q dn M2) (hi : i < 8) {x y : Int32} (h3 : rwP M2 L q i x M3) (h4 : rnP M3 L (wK (M 2) L q) (wT (M 2) L q) i y M4) (hk : ¬ wK (M 2) L q = 10) (hr : (wR (M 2) L q).1 = true) : foJ M L i q (dn ++ [(wK (M 2) L q, (wR (M 2) L q).2.2)]) (mu (mu M4 3 2 (nI (i + 1))) 3 3 (nI (wQ (M 2) L q))) := by
  obtain ⟨f1, f2, f3, f4, f5, f6, f7, f8, f9⟩ := hI
  obtain ⟨g1, g2, g3, g4, g5, g6⟩ := h3
  obtain ⟨k1, k2, k3, k4, k5⟩ := h4
  have hb : M3 2 = M 2 := by rw [g2 2 (by omega) (by omega), f1 2 (by omega)]
  rw [f1 2 (by omega)] at g6
  rw [hb] at k4 k5
  have hT : wT (M 2) L q ≤ L := (tkE_le (skB_le f4).2).2.1
  have hR : (wR (M 2) L q).2.1 ≤ L := rdN_le 5 0 _ 0 hT
  have hr' : ¬ (wR (M 2) L q).1 = false := by rw [hr]; decide
  refine ⟨fun a ha => by rw [mu_f (by omega), mu_f (by omega), k2 a (by omega) (by omega), g2 a (by omega) (by omega)]; exact f1 a ha, by rw [mu_k (by decide), mu_s], mu_s, (skB_le hR).2, by rw [List.length_append, f6]; rfl, ?_, fun z => ?_, fun z1 z2 => ?_, fun z1 z2 => ?_⟩
  · have h1 : lnE (mu (mu M4 3 2 (nI (i + 1))) 3 3 (nI (wQ (M 2) L q))) dn := lnE_cg f7 (fun j hj => by rw [mu_a (by omega), mu_a (by omega), k2 4 (by omega) (by omega), g4 j (by omega)]) (fun j hj => by rw [mu_f (by omega), mu_f (by omega), k2 (6 + j) (by omega) (by omega), g2 (6 + j) (by omega) (by omega)])
    refine lnE_add h1 ?_ (fun j hj => ?_)
    · rw [mu_a (by omega), mu_a (by omega), k2 4 (by omega) (by omega), f6]; exact (g6 hk).2
    · rw [mu_a (by omega), mu_a (by omega), f6]; exact k5 j hj
  · have e : prS (M 2) L (8 - i) q = (none, [(wK (M 2) L q, (wR (M 2) L q).2.2)]) := by
      rw [show 8 - i = (8 - (i + 1)) + 1 by omega, prS, if_neg hk, if_neg hr', if_pos z]
    rw [e] at f8 f9
    exact ⟨f8, f9⟩
  · have e : prS (M 2) L (8 - i) q = (some (wQ (M 2) L q), []) := by
      rw [show 8 - i = (8 - (i + 1)) + 1 by omega, prS, if_neg hk, if_neg hr', if_neg z1, if_pos z2]
    rw [e] at f8
    exact f8
  · have e : prS (M 2) L (8 - i) q = ((prS (M 2) L (8 - (i + 1)) (wQ (M 2) L q + 1)).1, (wK (M 2) L q, (wR (M 2) L q).2.2) :: (prS (M 2) L (8 - (i + 1)) (wQ (M 2) L q + 1)).2) := by
      rw [show 8 - i = (8 - (i + 1)) + 1 by omega, prS, if_neg hk, if_neg hr', if_neg z1, if_neg (fun w => w z2)]
    rw [e] at f8 f9
    exact ⟨f8, by rw [f9, List.append_assoc]; rfl⟩
theorem foJ_end {M M2 : hM} {L i q : Nat} {dn : List (Nat × List Nat)} (h : foJ M L i q dn M2) (hi : i < 8) (z : wQ (M 2) L q = L) : foP M L (-1) M2 := by
  obtain ⟨f1, f2, f3, f4, f5, f6, f7, f8, f9⟩ := h
  obtain ⟨e1, e2⟩ := f7 z
  exact ⟨by rw [e1]; rfl, f1, fun _ => by rw [e2]; exact ⟨by rw [f2, f5], by omega, f6⟩⟩
theorem foJ_bad {M M2 : hM} {L i q : Nat} {dn : List (Nat × List Nat)} (h : foJ M L i q dn M2) (z : ¬ wQ (M 2) L q = L) (z2 : ¬ M 2 (wQ (M 2) L q) = nI 59) : foP M L (M2 3 3) M2 := by
  obtain ⟨f1, f2, f3, f4, f5, f6, f7, f8, f9⟩ := h
  have e1 := f8 z z2
  exact ⟨by rw [e1]; exact f3, f1, fun w => by rw [e1] at w; cases w⟩
theorem foJ_on {M M2 : hM} {L i q : Nat} {dn : List (Nat × List Nat)} (h : foJ M L i q dn M2) (z : ¬ wQ (M 2) L q = L) (z2 : M 2 (wQ (M 2) L q) = nI 59) : foI M L (i + 1) (wQ (M 2) L q + 1) dn (mu M2 3 3 (nI (wQ (M 2) L q + 1))) := by
  obtain ⟨f1, f2, f3, f4, f5, f6, f7, f8, f9⟩ := h
  obtain ⟨e1, e2⟩ := f9 z z2
  exact ⟨fun a ha => by rw [mu_f (by omega)]; exact f1 a ha, by rw [mu_k (by decide)]; exact f2, mu_s, by omega, fun _ => by omega, f5, lnE_cg f6 (fun j _ => mu_a (by decide)) (fun j _ => mu_f (by omega)), e1, e2⟩
theorem foI_8 {M M2 : hM} {L q : Nat} {dn : List (Nat × List Nat)} (h : foI M L 8 q dn M2) : foP M L (nI (q - 1)) M2 := by
  obtain ⟨f1, f2, f3, f4, f5, f6, f7, f8, f9⟩ := h
  exact ⟨by rw [f8]; rfl, f1, fun w => by rw [f8] at w; cases w⟩

set_option maxRecDepth 100000 in
set_option maxHeartbeats 4000000 in
theorem t_X5_faultOf (M : hM) (L : Nat) (hL : L ≤ 200) (eL : M 1 1 = nI L) : Ct 8 mX5_faultOf [.ref 3, .ref 1] M (pX (foP M L)) := by
  refine ct_of (lv := [some (.ref 3), some (.ref 1), none]) (by decide +kernel) (fun _ _ hq => hq) rfl (fun _ => Nat.le_of_ble_eq_true rfl) (fun X h hr => ?_)
  refine j_aload_n h 1 rfl rfl dX5_faultOf_0 ?_
  refine j_iconst h 2 rfl (nI 0) (by decide) dX5_faultOf_1 ?_
  refine j_putI h 5 rfl plX5_20 sh_3 rfl rfl rfl rfl dX5_faultOf_2 ?_
  refine j_aload_n h 6 rfl rfl dX5_faultOf_5 ?_
  refine j_iconst h 7 rfl (nI 0) (by decide) dX5_faultOf_6 ?_
  refine j_putI h 10 rfl plX5_24 sh_3 rfl rfl rfl rfl dX5_faultOf_7 ?_
  refine j_iconst h 11 rfl (nI 0) (by decide) dX5_faultOf_10 ?_
  refine j_istore_n h 12 rfl rfl dX5_faultOf_11 ?_
  have K : ∀ (n i q : Nat) (dn : List (Nat × List Nat)) (M2 : hM), 8 - i < n → i ≤ 8 → foI M L i q dn M2 → J X 12 [some (.ref 3), some (.ref 1), some (.int (nI i))] [] M2 := by
    intro n
    induction n with
    | zero => intro i q dn M2 h1; omega
    | succ n ih =>
      intro i q dn M2 h1 h2 hI
      have e2 : M2 2 = M 2 := hI.1 2 (by omega)
      have eL3 : M2 1 1 = nI L := by rw [hI.1 1 (by omega)]; exact eL
      have hq := hI.2.2.2.1
      have eq2 := hI.2.1
      have eq3 := hI.2.2.1
      refine j_iload_n h 13 rfl rfl dX5_faultOf_12 ?_
      refine j_bipush h 15 rfl (nI 8) (by decide) dX5_faultOf_13 ?_
      refine j_icmp_geN h 110 18 (by omega) (by omega) dX5_faultOf_15 (by decide) rfl (fun c_15 => ?_) (fun c_15 => ?_)
      · skip
        refine j_aload_n h 111 rfl rfl dX5_faultOf_110 ?_
        refine j_getI h 114 rfl glX5_24 sh_3 rfl dX5_faultOf_111 ?_
        refine j_top eq3 ?_
        have hq0 := hI.2.2.2.2.1 (by omega)
        refine j_iconst h 115 rfl (nI 1) (by decide) dX5_faultOf_114 ?_
        refine j_isubN h 116 rfl (by omega) dX5_faultOf_115 ?_
        exact j_ret h hr rfl dX5_faultOf_116 ⟨_, rfl, by have e8 : i = 8 := (by omega); subst e8; exact foI_8 hI⟩
      · skip
        refine j_aload_n h 19 rfl rfl dX5_faultOf_18 ?_
        refine j_aload_n h 20 rfl rfl dX5_faultOf_19 ?_
        refine j_iload_n h 21 rfl rfl dX5_faultOf_20 ?_
        refine j_callVX h 24 rfl lkX5_27 sh_3 rfl rfl (t_X5_readsWord _ q i (by omega) L hL eL3 hq eq3) rfl rfl rfl dX5_faultOf_21 (fun x3 M3 hM3 => ?_)
        obtain ⟨g1, g2, g3, g4, g5, g6⟩ := id hM3
        have hb3 : M3 2 = M 2 := by rw [g2 2 (by omega) (by omega), e2]
        have eL4 : M3 1 1 = nI L := by rw [g2 1 (by omega) (by omega)]; exact eL3
        rw [e2] at g6
        have hkl : wK (M 2) L q ≤ 10 := by have := (frs_le (f := mtB (M 2) (skB (M 2) L q) (wT (M 2) L q)) 10 0).2.1; unfold wK kdS; omega
        have hT : wT (M 2) L q ≤ L := (tkE_le (skB_le hq).2).2.1
        have g1b : x3 = hb (¬ wK (M 2) L q = 10) := by rw [g1]; exact hb_c (by rw [e2]; exact Iff.rfl)
        rw [g1b]
        refine j_if_eqB h 36 27 dX5_faultOf_24 (by decide) rfl (fun c_24 => ?_) (fun c_24 => ?_)
        · skip
          refine j_aload_n h 37 rfl rfl dX5_faultOf_36 ?_
          refine j_getI h 40 rfl glX5_24 sh_3 rfl dX5_faultOf_37 ?_
          exact j_ret h hr rfl dX5_faultOf_40 ⟨_, rfl, by first | exact foI_n hI (by omega) hM3 hM4 c_24 c_33 | exact foI_w hI (by omega) hM3 (Decidable.not_not.mp c_24)⟩
        · skip
          refine j_aload_n h 28 rfl rfl dX5_faultOf_27 ?_
          refine j_aload_n h 29 rfl rfl dX5_faultOf_28 ?_
          refine j_iload_n h 30 rfl rfl dX5_faultOf_29 ?_
          refine j_callVX h 33 rfl lkX5_31 sh_3 rfl rfl (t_X5_readsNumbers _ (wK (M 2) L q) (wT (M 2) L q) i (by omega) L hL eL4 (by omega) (g6 c_24).2 hT (g6 c_24).1) rfl rfl rfl dX5_faultOf_30 (fun x4 M4 hM4 => ?_)
          obtain ⟨k1, k2, k3, k4, k5⟩ := id hM4
          rw [hb3] at k4
          have k1b : x4 = hb ((wR (M 2) L q).1 = true) := by rw [k1]; exact hb_c (by rw [hb3]; exact Iff.rfl)
          rw [k1b]
          have eL5 : M4 1 1 = nI L := by rw [k2 1 (by omega) (by omega)]; exact eL4
          have hb4 : M4 2 = M 2 := by rw [k2 2 (by omega) (by omega)]; exact hb3
          have hR : (wR (M 2) L q).2.1 ≤ L := rdN_le 5 0 _ 0 hT
          refine j_if_neB h 41 36 dX5_faultOf_33 (by decide) rfl (fun c_33 => ?_) (fun c_33 => ?_)
          · skip
            refine j_aload_n h 42 rfl rfl dX5_faultOf_41 ?_
            refine j_dup h 43 rfl rfl dX5_faultOf_42 ?_
            refine j_getI h 46 rfl glX5_20 sh_3 rfl dX5_faultOf_43 ?_
            rw [k3 2 (by decide), g3 2 (by decide), eq2]
            refine j_iconst h 47 rfl (nI 1) (by decide) dX5_faultOf_46 ?_
            refine j_iaddN h 48 rfl dX5_faultOf_47 ?_
            refine j_putI h 51 rfl plX5_20 sh_3 rfl rfl rfl rfl dX5_faultOf_48 ?_
            refine j_aload_n h 52 rfl rfl dX5_faultOf_51 ?_
            refine j_aload_n h 53 rfl rfl dX5_faultOf_52 ?_
            refine j_aload_n h 54 rfl rfl dX5_faultOf_53 ?_
            refine j_getI h 57 rfl glX5_24 sh_3 rfl dX5_faultOf_54 ?_
            rw [mu_k (show (3 : Nat) ≠ 2 by decide)]
            refine j_top k4 ?_
            refine j_callVI h 60 rfl lkX5_34 sh_1 rfl rfl (t_X8_behindBlanks _ _ L hL (by rw [mu_a (by decide)]; exact eL5) hR) rfl rfl rfl dX5_faultOf_57 ?_
            rw [mu_f (show (2 : Nat) ≠ 3 by decide), hb4, show skB (M 2) L (wR (M 2) L q).2.1 = wQ (M 2) L q from rfl]
            refine j_putI h 63 rfl plX5_24 sh_3 rfl rfl rfl rfl dX5_faultOf_60 ?_
            have hJ := foI_j hI (by omega) hM3 hM4 c_24 c_33
            revert hJ
            generalize mu (mu M4 3 2 (nI (i + 1))) 3 3 (nI (wQ (M 2) L q)) = M5
            intro hJ
            have eq5 := hJ.2.2.1
            have eL6 : M5 1 1 = nI L := by rw [hJ.1 1 (by omega)]; exact eL
            have hQ := hJ.2.2.2.1
            refine j_aload_n h 64 rfl rfl dX5_faultOf_63 ?_
            refine j_getI h 67 rfl glX5_24 sh_3 rfl dX5_faultOf_64 ?_
            refine j_top eq5 ?_
            refine j_aload_n h 68 rfl rfl dX5_faultOf_67 ?_
            refine j_callVI h 71 rfl lkX5_40 sh_1 rfl rfl (t_X8_length _) rfl rfl rfl dX5_faultOf_68 ?_
            refine j_top eL6 ?_
            refine j_icmp_neN h 76 74 (by omega) (by omega) dX5_faultOf_71 (by decide) rfl (fun c_71 => ?_) (fun c_71 => ?_)
            · skip
              refine j_aload_n h 77 rfl rfl dX5_faultOf_76 ?_
              refine j_aload_n h 78 rfl rfl dX5_faultOf_77 ?_
              refine j_getI h 81 rfl glX5_24 sh_3 rfl dX5_faultOf_78 ?_
              refine j_top eq5 ?_
              refine j_callVI h 84 rfl lkX5_44 sh_1 rfl rfl (t_X8_at _ (wQ (M 2) L q) L hL eL6 (by omega)) rfl rfl rfl dX5_faultOf_81 ?_
              refine j_top (if_pos (show wQ (M 2) L q < L by omega)) ?_
              rw [hJ.1 2 (by omega)]
              refine j_bipush h 86 rfl (nI 59) (by decide) dX5_faultOf_84 ?_
              refine j_icmp_eq h 94 89 dX5_faultOf_86 (by decide) rfl (fun c_86 => ?_) (fun c_86 => ?_)
              · skip
                refine j_aload_n h 95 rfl rfl dX5_faultOf_94 ?_
                refine j_dup h 96 rfl rfl dX5_faultOf_95 ?_
                refine j_getI h 99 rfl glX5_24 sh_3 rfl dX5_faultOf_96 ?_
                refine j_top eq5 ?_
                refine j_iconst h 100 rfl (nI 1) (by decide) dX5_faultOf_99 ?_
                refine j_iaddN h 101 rfl dX5_faultOf_100 ?_
                refine j_putI h 104 rfl plX5_24 sh_3 rfl rfl rfl rfl dX5_faultOf_101 ?_
                refine j_iincN h 107 rfl rfl rfl dX5_faultOf_104 ?_
                refine j_goto h 12 dX5_faultOf_107 (by decide) ?_
                exact ih (i + 1) _ _ _ (by omega) (by omega) (foJ_on hJ c_71 c_86)
              · skip
                refine j_aload_n h 90 rfl rfl dX5_faultOf_89 ?_
                refine j_getI h 93 rfl glX5_24 sh_3 rfl dX5_faultOf_90 ?_
                exact j_ret h hr rfl dX5_faultOf_93 ⟨_, rfl, foJ_bad hJ c_71 c_86⟩
            · skip
              refine j_iconst h 75 rfl (-1) (by decide) dX5_faultOf_74 ?_
              exact j_ret h hr rfl dX5_faultOf_75 ⟨_, rfl, foJ_end hJ (by omega) c_71⟩
          · skip
            refine j_aload_n h 37 rfl rfl dX5_faultOf_36 ?_
            refine j_getI h 40 rfl glX5_24 sh_3 rfl dX5_faultOf_37 ?_
            exact j_ret h hr rfl dX5_faultOf_40 ⟨_, rfl, by first | exact foI_n hI (by omega) hM3 hM4 c_24 c_33 | exact foI_w hI (by omega) hM3 (Decidable.not_not.mp c_24)⟩
  exact K 9 0 0 [] _ (by omega) (by omega) ⟨fun a ha => by rw [mu_f (by omega), mu_f (by omega)], by rw [mu_k (by decide), mu_s], mu_s, Nat.zero_le L, fun z => absurd z (Nat.lt_irrefl 0), rfl, fun i hi => absurd hi (Nat.not_lt_zero i), rfl, rfl⟩
