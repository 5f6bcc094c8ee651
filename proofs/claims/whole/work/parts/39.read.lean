/-! the model: a text read -/
def frR (M M2 : hM) : Prop := (∀ a, a ≠ 93 → a ≠ 100 → M2 a = M a) ∧ ∀ j, (j < 17 ∨ (23 < j ∧ j ≠ 1019)) → M2 93 j = M 93 j
theorem frR_2 {A B C : hM} (h1 : frR A B) (h2 : fr2 B C) : frR A C := ⟨fun a x y => (h2.1 a x y).trans (h1.1 a x y), fun j hj => (h2.2 j (by omega)).trans (h1.2 j hj)⟩
theorem frR_m {A B : hM} {k : Nat} {x : Int32} (h1 : frR A B) (hk : k = 17 ∨ k = 23) : frR A (mu B 93 k x) := ⟨fun a y z => by rw [mu_f y]; exact h1.1 a y z, fun j hj => by rw [mu_k (by omega)]; exact h1.2 j hj⟩
/-- the model's read numbers are these lines -/
def lnM (M : hM) (ls : List (Nat × List Nat)) : Prop := ∀ i, i < ls.length → M 100 (6 * i) = nI (ls.getD i (0, [])).1 ∧ ∀ k, k < (ls.getD i (0, [])).2.length → M 100 (6 * i + 1 + k) = nI ((ls.getD i (0, [])).2.getD k 0)
theorem rd_len {b : Nat → Int32} {L k : Nat} : ∀ n i p f0, (rdN b L k n i p f0).2.2.length ≤ n
  | 0, _, _, _ => Nat.le_refl 0
  | n + 1, i, p, f0 => by
    rw [rdN]
    by_cases q1 : bdI k i = -1
    · rw [if_pos q1]; exact Nat.zero_le _
    · rw [if_neg q1]
      by_cases q2 : inP (nuI b (skB b L p) (tkE b L (skB b L p))) (nI 0) (bdI k i) ∧ ¬ (k = 1 ∧ i = 1 ∧ nuI b (skB b L p) (tkE b L (skB b L p)) = nI f0)
      · rw [if_pos q2]; exact Nat.succ_le_succ (rd_len n (i + 1) _ _)
      · rw [if_neg q2]; exact Nat.zero_le _
theorem lnM_add {M M2 : hM} {ls : List (Nat × List Nat)} {k : Nat} {ns : List Nat} (h : lnM M ls) (hl : ∀ t, t < ls.length → (ls.getD t (0, [])).2.length ≤ 5) (hf : ∀ j, j < 6 * ls.length → M2 100 j = M 100 j) (h4 : M2 100 (6 * ls.length) = nI k) (h6 : ∀ j, j < ns.length → M2 100 (6 * ls.length + 1 + j) = nI (ns.getD j 0)) : lnM M2 (ls ++ [(k, ns)]) := fun i hi => by
  rw [List.length_append] at hi
  by_cases e : i < ls.length
  · rw [List.getD_eq_getElem?_getD, List.getElem?_append_left e, ← List.getD_eq_getElem?_getD]
    obtain ⟨a1, a2⟩ := h i e
    have h5 := hl i e
    exact ⟨(hf _ (by omega)).trans a1, fun t ht => (hf _ (by omega)).trans (a2 t ht)⟩
  · have hi2 : i < ls.length + 1 := hi
    obtain rfl : i = ls.length := by omega
    rw [List.getD_eq_getElem?_getD, List.getElem?_append_right (Nat.le_refl _), Nat.sub_self]
    exact ⟨h4, h6⟩
theorem lnM_cg {M N : hM} {ls : List (Nat × List Nat)} (h : lnM M ls) (e : N 100 = M 100) : lnM N ls := fun i hi => by rw [e]; exact h i hi
/-- ahead of line i -/
def rdI (M : hM) (L i q : Nat) (dn : List (Nat × List Nat)) (M2 : hM) : Prop := frR M M2 ∧ M2 93 23 = nI i ∧ M2 93 17 = nI q ∧ q ≤ L ∧ dn.length = i ∧ (∀ t, t < dn.length → (dn.getD t (0, [])).2.length ≤ 5) ∧ lnM M2 dn ∧ (prS (M 99) L 8 0).1 = (prS (M 99) L (8 - i) q).1 ∧ (prS (M 99) L 8 0).2 = dn ++ (prS (M 99) L (8 - i) q).2
/-- behind the last line -/
def reI (M : hM) (L : Nat) (M2 : hM) : Prop := frR M M2 ∧ ∃ t, tkT M2 t ∧ ((t = -2 ∧ (prS (M 99) L 8 0).1 = none ∧ (prS (M 99) L 8 0).2.length ≤ 8 ∧ M2 93 23 = nI (prS (M 99) L 8 0).2.length ∧ lnM M2 (prS (M 99) L 8 0).2) ∨ (¬ t = -2 ∧ ∃ f, (prS (M 99) L 8 0).1 = some f ∧ M2 93 18 = nI f))
def rsP (M : hM) (L : Nat) (y : Int32) (M2 : hM) : Prop := y = hb ((prS (M 99) L 8 0).1 = none) ∧ frR M M2 ∧ (∀ f, (prS (M 99) L 8 0).1 = some f → M2 93 22 = nI f) ∧ ((prS (M 99) L 8 0).1 = none → (prS (M 99) L 8 0).2.length ≤ 8 ∧ M2 93 23 = nI (prS (M 99) L 8 0).2.length ∧ lnM M2 (prS (M 99) L 8 0).2)
theorem rd_0 {M : hM} {L : Nat} : rdI M L 0 0 [] (mu (mu M 93 17 (nI 0)) 93 23 (nI 0)) :=
  ⟨frR_m (frR_m ⟨fun _ _ _ => rfl, fun _ _ => rfl⟩ (Or.inl rfl)) (Or.inr rfl), mu_s, by rw [mu_k (by decide), mu_s], Nat.zero_le L, rfl, fun t ht => absurd ht (Nat.not_lt_zero t), fun i hi => absurd hi (Nat.not_lt_zero i), rfl, rfl⟩
/-- a line doesn't stand -/
theorem rd_bad {M M2 M3 : hM} {L i q : Nat} {dn : List (Nat × List Nat)} {y : Int32} (h : rdI M L i q dn M2) (hi : i < 8) (h3 : liP M2 L q (6 * i) y M3) (hy : ¬ y = 1) : rsP M L (nI 0) M3 := by
  obtain ⟨h1, h2, h3', h4, h5, h6, h7, h8, h9⟩ := h
  obtain ⟨g1, g2, g3, g4, g5, g6⟩ := h3
  have e99 : M2 99 = M 99 := h1.1 99 (by decide) (by decide)
  rw [e99] at g1 g4 g5 g6
  have hn : ¬ (¬ wK (M 99) L q = 10 ∧ (wR (M 99) L q).1 = true) := fun z => hy (by rw [g1, hb_t z])
  obtain ⟨f, ef, e22⟩ : ∃ f, (prS (M 99) L (8 - i) q).1 = some f ∧ M3 93 22 = nI f := by
    rw [show 8 - i = (8 - (i + 1)) + 1 by omega, prS]
    by_cases hk : wK (M 99) L q = 10
    · rw [if_pos hk]; exact ⟨_, rfl, g4 hk⟩
    · have hr : ¬ (wR (M 99) L q).1 = true := fun z => hn ⟨hk, z⟩
      rw [if_neg hk, if_pos (by simpa using hr)]; exact ⟨_, rfl, g5 hk hr⟩
  rw [ef] at h8
  refine ⟨by rw [h8]; exact (hb_f (fun z => by cases z)).symm, frR_2 h1 g2, fun f2 e => ?_, fun z => by rw [h8] at z; cases z⟩
  rw [h8] at e
  cases e
  exact e22
/-- a line stands: on -/
def rmS (M : hM) (L i q : Nat) (dn : List (Nat × List Nat)) (M5 : hM) : Prop := frR M M5 ∧ M5 93 23 = nI (i + 1) ∧ M5 93 17 = nI (tkE (M 99) L (wQ (M 99) L q)) ∧ M5 93 18 = nI (wQ (M 99) L q) ∧ tkT M5 (tokS (M 99) L (wQ (M 99) L q)) ∧ lnM M5 (dn ++ [(wK (M 99) L q, (wR (M 99) L q).2.2)])
theorem wq_le {b : Nat → Int32} {L q : Nat} (h : q ≤ L) : (wR b L q).2.1 ≤ L ∧ wQ b L q ≤ L := by
  have h1 : (wR b L q).2.1 ≤ L := rdN_le 5 0 _ 0 (tkE_le (skB_le h).2).2.1
  exact ⟨h1, (skB_le h1).2⟩
theorem rd_mid {M M2 M3 M5 : hM} {L i q : Nat} {dn : List (Nat × List Nat)} {y : Int32} (h : rdI M L i q dn M2) (h3 : liP M2 L q (6 * i) y M3) (hk : ¬ wK (M 99) L q = 10) (hr : (wR (M 99) L q).1 = true) (h5 : tkP (mu M3 93 23 (nI (i + 1))) L (wR (M 99) L q).2.1 M5) : rmS M L i q dn M5 := by
  obtain ⟨f1, f2, f3, f4, f5, f6, f7, f8, f9⟩ := h
  obtain ⟨g1, g2, g3, g4, g5, g6⟩ := h3
  have e99 : M2 99 = M 99 := f1.1 99 (by decide) (by decide)
  rw [e99] at g6
  obtain ⟨a1, a2, a3⟩ := g6 hk hr
  have hR3 : frR M (mu M3 93 23 (nI (i + 1))) := frR_m (frR_2 f1 g2) (Or.inr rfl)
  have e99' : mu M3 93 23 (nI (i + 1)) 99 = M 99 := hR3.1 99 (by decide) (by decide)
  obtain ⟨t1, t2, t3, t4, t5, -⟩ := h5
  rw [e99'] at t3 t4 t5
  have e100 : M5 100 = M3 100 := by rw [t1 100 (by decide), mu_f (by decide)]
  refine ⟨⟨fun a x z => (t1 a x).trans (hR3.1 a x z), fun j hj => (t2 j (by omega)).trans (hR3.2 j hj)⟩, by rw [t2 23 (by decide), mu_s], t3, t4, t5, ?_⟩
  refine lnM_add (M := M2) f7 f6 (fun j hj => ?_) ?_ (fun j hj => ?_)
  · rw [e100, g3 j (by omega)]
  · rw [e100, f5]; exact a2
  · rw [e100, f5]; exact a3 j hj
theorem rd_next {M M2 M5 : hM} {L i q : Nat} {dn : List (Nat × List Nat)} (h : rdI M L i q dn M2) (hi : i < 7) (hk : ¬ wK (M 99) L q = 10) (hr : (wR (M 99) L q).1 = true) (h5 : rmS M L i q dn M5) (ht : tokS (M 99) L (wQ (M 99) L q) = -3) : rdI M L (i + 1) (wQ (M 99) L q + 1) (dn ++ [(wK (M 99) L q, (wR (M 99) L q).2.2)]) M5 := by
  obtain ⟨f1, f2, f3, f4, f5, f6, f7, f8, f9⟩ := h
  obtain ⟨s1, s2, s3, s4, s5, s6⟩ := h5
  have hq := (wq_le (b := M 99) f4).2
  obtain ⟨c1, c2⟩ := (tok_3 hq).mp ht
  rw [tkE_59 (by omega) c2] at s3
  have e : prS (M 99) L (8 - i) q = ((prS (M 99) L (8 - (i + 1)) (wQ (M 99) L q + 1)).1, (wK (M 99) L q, (wR (M 99) L q).2.2) :: (prS (M 99) L (8 - (i + 1)) (wQ (M 99) L q + 1)).2) := by
    rw [show 8 - i = (8 - (i + 1)) + 1 by omega, prS, if_neg hk, if_neg (by rw [hr]; decide), if_neg c1, if_neg (fun z => z c2)]
  rw [e] at f8 f9
  refine ⟨s1, s2, s3, by omega, by rw [List.length_append, f5]; rfl, fun t ht2 => ?_, s6, f8, by rw [f9, List.append_assoc]; rfl⟩
  rw [List.length_append] at ht2
  by_cases et : t < dn.length
  · rw [List.getD_eq_getElem?_getD, List.getElem?_append_left et, ← List.getD_eq_getElem?_getD]; exact f6 t et
  · have ht3 : t < dn.length + 1 := ht2
    obtain rfl : t = dn.length := by omega
    rw [List.getD_eq_getElem?_getD, List.getElem?_append_right (Nat.le_refl _), Nat.sub_self]
    exact rd_len 5 0 _ 0
theorem rd_last {M M2 M5 : hM} {L i q : Nat} {dn : List (Nat × List Nat)} (h : rdI M L i q dn M2) (hi : i < 8) (hk : ¬ wK (M 99) L q = 10) (hr : (wR (M 99) L q).1 = true) (h5 : rmS M L i q dn M5) (ht : ¬ tokS (M 99) L (wQ (M 99) L q) = -3 ∨ 8 ≤ i + 1) : reI M L M5 := by
  obtain ⟨f1, f2, f3, f4, f5, f6, f7, f8, f9⟩ := h
  obtain ⟨s1, s2, s3, s4, s5, s6⟩ := h5
  have hq := (wq_le (b := M 99) f4).2
  refine ⟨s1, _, s5, ?_⟩
  have e0 : prS (M 99) L (8 - i) q = (if wQ (M 99) L q = L then (none, [(wK (M 99) L q, (wR (M 99) L q).2.2)]) else if ¬ M 99 (wQ (M 99) L q) = nI 59 then (some (wQ (M 99) L q), []) else ((prS (M 99) L (8 - (i + 1)) (wQ (M 99) L q + 1)).1, (wK (M 99) L q, (wR (M 99) L q).2.2) :: (prS (M 99) L (8 - (i + 1)) (wQ (M 99) L q + 1)).2)) := by
    rw [show 8 - i = (8 - (i + 1)) + 1 by omega, prS, if_neg hk, if_neg (by rw [hr]; decide)]
  rw [e0] at f8 f9
  by_cases h2 : wQ (M 99) L q = L
  · rw [if_pos h2] at f8 f9
    refine Or.inl ⟨(tok_2 hq).mpr h2, f8, ?_, ?_, ?_⟩
    · rw [f9, List.length_append, f5]; show i + 1 ≤ 8; omega
    · rw [f9, List.length_append, f5]; exact s2
    · rw [f9]; exact s6
  · rw [if_neg h2] at f8 f9
    refine Or.inr ⟨fun z => h2 ((tok_2 hq).mp z), ?_⟩
    by_cases h3 : M 99 (wQ (M 99) L q) = nI 59
    · rw [if_neg (fun z => z h3)] at f8
      have hi8 : 8 ≤ i + 1 := ht.resolve_left (fun z => z ((tok_3 hq).mpr ⟨h2, h3⟩))
      rw [show 8 - (i + 1) = 0 by omega, prS] at f8
      exact ⟨_, f8, by rw [s4]; rfl⟩
    · rw [if_pos h3] at f8
      exact ⟨_, f8, s4⟩
theorem re_ok {M M2 : hM} {L : Nat} {t : Int64} (h : reI M L M2) (ht : tkT M2 t) (e : t = -2) : rsP M L (nI 1) M2 := by
  obtain ⟨h1, t2, h2, h3⟩ := h
  have et : t2 = t := h2.symm.trans ht
  subst et
  rcases h3 with ⟨-, a2, a3, a4, a5⟩ | ⟨a1, -⟩
  · exact ⟨by rw [hb_t a2]; rfl, h1, (fun f z => by rw [a2] at z; cases z), fun _ => ⟨a3, a4, a5⟩⟩
  · exact absurd e a1
theorem re_no {M M2 : hM} {L : Nat} {t : Int64} (h : reI M L M2) (ht : tkT M2 t) (e : ¬ t = -2) : rsP M L (nI 0) (mu M2 93 22 (M2 93 18)) := by
  obtain ⟨h1, t2, h2, h3⟩ := h
  have et : t2 = t := h2.symm.trans ht
  subst et
  rcases h3 with ⟨a1, -⟩ | ⟨-, f, a2, a3⟩
  · exact absurd a1 e
  · exact ⟨by rw [a2]; exact (hb_f (fun z => by cases z)).symm, frR_2 h1 fr2_f, (fun f2 z => by rw [a2] at z; cases z; rw [mu_s]; exact a3), fun z => by rw [a2] at z; cases z⟩
set_option maxRecDepth 100000 in
set_option maxHeartbeats 4000000 in
theorem t_X11_isRead (M : hM) (L : Nat) (hL : L ≤ 200) (eL : M 93 15 = nI L) : Ct 6 mX11_isRead [.ref 93] M (pX (rsP M L)) := by
  refine ct_of (lv := [some (.ref 93), none]) (by decide +kernel) (fun _ _ hq => hq) rfl (fun _ => Nat.le_of_ble_eq_true rfl) (fun X h hr => ?_)
  refine j_aload_n h 1 rfl rfl dX11_isRead_0 ?_
  refine j_iconst h 2 rfl (nI 0) (by decide) dX11_isRead_1 ?_
  refine j_putI h 5 rfl plX11_136 sh_93 rfl rfl rfl rfl dX11_isRead_2 ?_
  refine j_aload_n h 6 rfl rfl dX11_isRead_5 ?_
  refine j_iconst h 7 rfl (nI 0) (by decide) dX11_isRead_6 ?_
  refine j_putI h 10 rfl plX11_201 sh_93 rfl rfl rfl rfl dX11_isRead_7 ?_
  refine j_iconst h 11 rfl (nI 1) (by decide) dX11_isRead_10 ?_
  refine j_istore_n h 12 rfl rfl dX11_isRead_11 ?_
  have L1 : ∀ (n i q : Nat) (dn : List (Nat × List Nat)) (mo : Bool) (M2 : hM), 8 - i < n → (mo = true → i < 8 ∧ rdI M L i q dn M2) → (¬ mo = true → reI M L M2) → J X 12 [some (.ref 93), some (.int (hb (mo = true)))] [] M2 := by
    intro n
    induction n with
    | zero => intro i q dn mo M2 h1; omega
    | succ n ih =>
      intro i q dn mo M2 h1 h2 h3
      refine j_iload_n h 13 rfl rfl dX11_isRead_12 ?_
      refine j_if_eqB h 75 16 dX11_isRead_13 (by decide) rfl (fun c_13 => ?_) (fun c_13 => ?_)
      · have hE := h3 c_13
        obtain ⟨t9, ht9, -⟩ := hE.2
        refine j_aload_n h 76 rfl rfl dX11_isRead_75 ?_
        refine j_getL h 79 rfl glX11_150 sh_93 rfl dX11_isRead_76 ?_
        refine j_topL ht9 ?_
        refine j_ldc2 h 82 rfl (-2) cnX11_148 dX11_isRead_79 ?_
        refine j_lcmp h 83 rfl dX11_isRead_82 ?_
        refine j_if_eq h 93 86 dX11_isRead_83 (by decide) rfl (fun c_83 => ?_) (fun c_83 => ?_)
        · have hZ := re_ok hE ht9 ((lg_cmp_eq _ _).mp c_83)
          refine j_iconst h 94 rfl (nI 1) (by decide) dX11_isRead_93 ?_
          refine j_goto h 98 dX11_isRead_94 (by decide) ?_
          exact j_ret h hr (by decide) dX11_isRead_98 ⟨_, rfl, hZ⟩
        · have hZ := re_no hE ht9 (fun z => c_83 ((lg_cmp_eq _ _).mpr z))
          refine j_aload_n h 87 rfl rfl dX11_isRead_86 ?_
          refine j_callVX h 90 rfl lkX11_170 sh_93 rfl rfl (t_X11_fails _) rfl rfl rfl dX11_isRead_87 (fun x8 M8 hM8 => ?_)
          obtain ⟨rfl, rfl⟩ := hM8
          refine j_if_eqN h 97 93 (by omega) dX11_isRead_90 (by decide) rfl (fun c_90 => ?_) (fun c_90 => by omega)
          refine j_iconst h 98 rfl (nI 0) (by decide) dX11_isRead_97 ?_
          exact j_ret h hr (by decide) dX11_isRead_98 ⟨_, rfl, hZ⟩
      · obtain ⟨hi, hI⟩ := h2 c_13
        refine j_aload_n h 17 rfl rfl dX11_isRead_16 ?_
        refine j_bipush h 19 rfl (nI 6) (by decide) dX11_isRead_17 ?_
        refine j_aload_n h 20 rfl rfl dX11_isRead_19 ?_
        refine j_getI h 23 rfl glX11_201 sh_93 rfl dX11_isRead_20 ?_
        refine j_top hI.2.1 ?_
        refine j_imulN h 24 rfl dX11_isRead_23 ?_
        refine j_callVX h 27 rfl lkX11_204 sh_93 rfl rfl (t_X11_isLine _ L _ hL ((hI.1.2 15 (by decide)).trans eL) hI.2.2.2.1 hI.2.2.1 _ (by omega)) rfl rfl rfl dX11_isRead_24 (fun x9 M9 hM9 => ?_)
        have e99 : M2 99 = M 99 := hI.1.1 99 (by decide) (by decide)
        refine j_top hM9.1 ?_
        rw [e99]
        refine j_if_neB h 32 30 dX11_isRead_27 (by decide) rfl (fun c_27 => ?_) (fun c_27 => ?_)
        · obtain ⟨hk9, hr9⟩ := c_27
          have hm5 := hM9.2.2.2.2.2
          rw [e99] at hm5
          have hm6 := hm5 hk9 hr9
          refine j_aload_n h 33 rfl rfl dX11_isRead_32 ?_
          refine j_dup h 34 rfl rfl dX11_isRead_33 ?_
          refine j_getI h 37 rfl glX11_201 sh_93 rfl dX11_isRead_34 ?_
          refine j_top ((hM9.2.1.2 23 (by decide)).trans hI.2.1) ?_
          refine j_iconst h 38 rfl (nI 1) (by decide) dX11_isRead_37 ?_
          refine j_iaddN h 39 rfl dX11_isRead_38 ?_
          refine j_putI h 42 rfl plX11_201 sh_93 rfl rfl rfl rfl dX11_isRead_39 ?_
          refine j_aload_n h 43 rfl rfl dX11_isRead_42 ?_
          refine j_callVV h 46 rfl lkX11_167 sh_93 rfl rfl (t_X11_nextToken _ L (wR (M 99) L q).2.1 hL (by rw [mu_k (by decide), hM9.2.1.2 15 (by decide)]; exact (hI.1.2 15 (by decide)).trans eL) (wq_le (b := M 99) hI.2.2.2.1).1 (by rw [mu_k (by decide)]; exact hm6.1)) rfl rfl rfl dX11_isRead_43 (fun M5 hM5 => ?_)
          have hS := rd_mid hI hM9 hk9 hr9 hM5
          refine j_aload_n h 47 rfl rfl dX11_isRead_46 ?_
          refine j_getL h 50 rfl glX11_150 sh_93 rfl dX11_isRead_47 ?_
          refine j_topL hS.2.2.2.2.1 ?_
          refine j_ldc2 h 53 rfl (-3) cnX11_162 dX11_isRead_50 ?_
          refine j_lcmp h 54 rfl dX11_isRead_53 ?_
          refine j_if_ne h 70 57 dX11_isRead_54 (by decide) rfl (fun c_54 => ?_) (fun c_54 => ?_)
          · skip
            refine j_iconst h 71 rfl (nI 0) (by decide) dX11_isRead_70 ?_
            refine j_istore_n h 72 rfl rfl dX11_isRead_71 ?_
            refine j_goto h 12 dX11_isRead_72 (by decide) ?_
            first
              | exact ih (i + 1) _ _ true _ (by omega) (fun _ => ⟨by omega, rd_next hI (by omega) hk9 hr9 hS ((lg_cmp_eq _ _).mp c_54)⟩) (fun z => absurd rfl z)
              | exact ih 8 0 [] false _ (by omega) (fun z => absurd z Bool.false_ne_true) (fun _ => rd_last hI hi hk9 hr9 hS (Or.inl (fun z => c_54 ((lg_cmp_eq _ _).mpr z))))
              | exact ih 8 0 [] false _ (by omega) (fun z => absurd z Bool.false_ne_true) (fun _ => rd_last hI hi hk9 hr9 hS (Or.inr (by omega)))
          · skip
            refine j_aload_n h 58 rfl rfl dX11_isRead_57 ?_
            refine j_getI h 61 rfl glX11_201 sh_93 rfl dX11_isRead_58 ?_
            refine j_top hS.2.1 ?_
            refine j_bipush h 63 rfl (nI 8) (by decide) dX11_isRead_61 ?_
            refine j_icmp_geN h 70 66 (by omega) (by omega) dX11_isRead_63 (by decide) rfl (fun c_63 => ?_) (fun c_63 => ?_)
            · skip
              refine j_iconst h 71 rfl (nI 0) (by decide) dX11_isRead_70 ?_
              refine j_istore_n h 72 rfl rfl dX11_isRead_71 ?_
              refine j_goto h 12 dX11_isRead_72 (by decide) ?_
              first
                | exact ih (i + 1) _ _ true _ (by omega) (fun _ => ⟨by omega, rd_next hI (by omega) hk9 hr9 hS ((lg_cmp_eq _ _).mp c_54)⟩) (fun z => absurd rfl z)
                | exact ih 8 0 [] false _ (by omega) (fun z => absurd z Bool.false_ne_true) (fun _ => rd_last hI hi hk9 hr9 hS (Or.inl (fun z => c_54 ((lg_cmp_eq _ _).mpr z))))
                | exact ih 8 0 [] false _ (by omega) (fun z => absurd z Bool.false_ne_true) (fun _ => rd_last hI hi hk9 hr9 hS (Or.inr (by omega)))
            · skip
              refine j_iconst h 67 rfl (nI 1) (by decide) dX11_isRead_66 ?_
              refine j_goto h 71 dX11_isRead_67 (by decide) ?_
              refine j_istore_n h 72 rfl rfl dX11_isRead_71 ?_
              refine j_goto h 12 dX11_isRead_72 (by decide) ?_
              first
                | exact ih (i + 1) _ _ true _ (by omega) (fun _ => ⟨by omega, rd_next hI (by omega) hk9 hr9 hS ((lg_cmp_eq _ _).mp c_54)⟩) (fun z => absurd rfl z)
                | exact ih 8 0 [] false _ (by omega) (fun z => absurd z Bool.false_ne_true) (fun _ => rd_last hI hi hk9 hr9 hS (Or.inl (fun z => c_54 ((lg_cmp_eq _ _).mpr z))))
                | exact ih 8 0 [] false _ (by omega) (fun z => absurd z Bool.false_ne_true) (fun _ => rd_last hI hi hk9 hr9 hS (Or.inr (by omega)))
        · have hZ := rd_bad hI hi hM9 (fun z => c_27 (by have q := hM9.1; rw [e99] at q; exact hb_1.mp (q.symm.trans z)))
          refine j_iconst h 31 rfl (nI 0) (by decide) dX11_isRead_30 ?_
          exact j_ret h hr (by decide) dX11_isRead_31 ⟨_, rfl, hZ⟩
  exact L1 9 0 0 [] true _ (by omega) (fun _ => ⟨by decide, rd_0⟩) (fun z => absurd rfl z)
set_option maxRecDepth 100000 in
set_option maxHeartbeats 4000000 in
theorem t_X11_fault (M : hM) (L : Nat) (hL : L ≤ 200) (eL : M 93 15 = nI L) : Ct 7 mX11_fault [.ref 93] M (pX (fun y M2 => y = foE (prS (M 99) L 8 0).1 ∧ frR M M2)) := by
  refine ct_of (lv := [some (.ref 93)]) (by decide +kernel) (fun _ _ hq => hq) rfl (fun _ => Nat.le_of_ble_eq_true rfl) (fun X h hr => ?_)
  refine j_aload_n h 1 rfl rfl dX11_fault_0 ?_
  refine j_callVX h 4 rfl lkX11_207 sh_93 rfl rfl (t_X11_isRead _ L hL eL) rfl rfl rfl dX11_fault_1 (fun x9 M9 hM9 => ?_)
  refine j_top hM9.1 ?_
  refine j_if_eqB h 11 7 dX11_fault_4 (by decide) rfl (fun c_4 => ?_) (fun c_4 => ?_)
  · obtain ⟨f, hf⟩ : ∃ f, (prS (M 99) L 8 0).1 = some f := by
      cases q : (prS (M 99) L 8 0).1 with
      | none => exact absurd q c_4
      | some f => exact ⟨f, rfl⟩
    have e22 := hM9.2.2.1 f hf
    refine j_aload_n h 12 rfl rfl dX11_fault_11 ?_
    refine j_getI h 15 rfl glX11_164 sh_93 rfl dX11_fault_12 ?_
    exact j_ret h hr rfl dX11_fault_15 ⟨_, rfl, by first | (rw [c_4]; rfl) | (rw [hf]; exact e22), hM9.2.1⟩
  · skip
    refine j_iconst h 8 rfl (-1) (by decide) dX11_fault_7 ?_
    refine j_goto h 15 dX11_fault_8 (by decide) ?_
    exact j_ret h hr rfl dX11_fault_15 ⟨_, rfl, by first | (rw [c_4]; rfl) | (rw [hf]; exact e22), hM9.2.1⟩
