/-! the model: numbers, lines -/
def fr2 (M M2 : hM) : Prop := (∀ a, a ≠ 93 → a ≠ 100 → M2 a = M a) ∧ ∀ j, (j < 17 ∨ (22 < j ∧ j ≠ 1019)) → M2 93 j = M 93 j
theorem fr2_t {A B C : hM} (h1 : fr2 A B) (h2 : fr2 B C) : fr2 A C := ⟨fun a x y => (h2.1 a x y).trans (h1.1 a x y), fun j hj => (h2.2 j hj).trans (h1.2 j hj)⟩
theorem fr2_k {M M2 : hM} {L p : Nat} (h : tkP M L p M2) : fr2 M M2 := ⟨fun a x _ => h.1 a x, fun j hj => h.2.1 j (by omega)⟩
theorem fr2_r {M : hM} {k : Nat} {x : Int32} : fr2 M (mu M 100 k x) := ⟨fun a _ y => mu_f y, fun j _ => mu_a (by decide)⟩
theorem fr2_f {M : hM} {x : Int32} : fr2 M (mu M 93 22 x) := ⟨fun a y _ => mu_f y, fun j hj => mu_k (by omega)⟩
/-- a number is asked for -/
def nbP (M : hM) (L p q : Nat) (B : Int32) (y : Int32) (M2 : hM) : Prop := y = hb (inP (nuI (M 99) (skB (M 99) L p) (wT (M 99) L p)) (nI 0) B) ∧ fr2 M M2 ∧ (∀ j, j ≠ q → M2 100 j = M 100 j) ∧ M2 93 18 = nI (skB (M 99) L p) ∧
  (inP (nuI (M 99) (skB (M 99) L p) (wT (M 99) L p)) (nI 0) B → M2 93 17 = nI (wT (M 99) L p) ∧ M2 100 q = nuI (M 99) (skB (M 99) L p) (wT (M 99) L p)) ∧ (¬ inP (nuI (M 99) (skB (M 99) L p) (wT (M 99) L p)) (nI 0) B → M2 93 22 = nI (skB (M 99) L p))
theorem nb_f {M M9 : hM} {L p q : Nat} {B : Int32} (h : tkP M L p M9) (hn : ¬ inP (nuI (M 99) (skB (M 99) L p) (wT (M 99) L p)) (nI 0) B) : nbP M L p q B (nI 0) (mu M9 93 22 (M9 93 18)) :=
  ⟨(hb_f hn).symm, fr2_t (fr2_k h) fr2_f, fun j _ => by rw [mu_a (by decide), h.1 100 (by decide)], by rw [mu_k (by decide)]; exact h.2.2.2.1, fun z => absurd z hn, fun _ => by rw [mu_s]; exact h.2.2.2.1⟩
theorem nb_t {M M9 : hM} {L p q : Nat} {B x : Int32} (h : tkP M L p M9) (hx : x = nuI (M 99) (skB (M 99) L p) (wT (M 99) L p)) (hn : inP (nuI (M 99) (skB (M 99) L p) (wT (M 99) L p)) (nI 0) B) : nbP M L p q B (nI 1) (mu M9 100 q x) :=
  ⟨(hb_t hn).symm, fr2_t (fr2_k h) fr2_r, fun j hj => by rw [mu_k hj, h.1 100 (by decide)], by rw [mu_a (by decide)]; exact h.2.2.2.1, fun _ => ⟨by rw [mu_a (by decide)]; exact h.2.2.1, by rw [mu_s]; exact hx⟩, fun z => absurd hn z⟩
set_option maxRecDepth 100000 in
set_option maxHeartbeats 4000000 in
theorem t_X11_isNumber (M : hM) (L p : Nat) (hL : L ≤ 200) (eL : M 93 15 = nI L) (hp : p ≤ L) (ep : M 93 17 = nI p) (q : Nat) (hq : q < 48) (B : Int32) : Ct 3 mX11_isNumber [.ref 93, .int (nI q), .int (nI 0), .int B] M (pX (nbP M L p q B)) := by
  refine ct_of (lv := [some (.ref 93), some (.int (nI q)), some (.int (nI 0)), some (.int B)]) (by decide +kernel) (fun _ _ hq => hq) rfl (fun _ => Nat.le_of_ble_eq_true rfl) (fun X h hr => ?_)
  refine j_aload_n h 1 rfl rfl dX11_isNumber_0 ?_
  refine j_callVV h 4 rfl lkX11_167 sh_93 rfl rfl (t_X11_nextToken _ L p hL eL hp ep) rfl rfl rfl dX11_isNumber_1 (fun M9 hM9 => ?_)
  have hs9 := (skB_le (b := M 99) hp).2
  refine j_aload_n h 5 rfl rfl dX11_isNumber_4 ?_
  refine j_getL h 8 rfl glX11_150 sh_93 rfl dX11_isNumber_5 ?_
  refine j_topL hM9.2.2.2.2.1 ?_
  refine j_ldc2 h 11 rfl (-1) cnX11_160 dX11_isNumber_8 ?_
  refine j_lcmp h 12 rfl dX11_isNumber_11 ?_
  refine j_if_ne h 27 15 dX11_isNumber_12 (by decide) rfl (fun c_12 => ?_) (fun c_12 => ?_)
  · have hn := nu_2 hs9 (fun z => c_12 ((lg_cmp_eq _ _).mpr z)) B
    refine j_aload_n h 28 rfl rfl dX11_isNumber_27 ?_
    refine j_callVX h 31 rfl lkX11_170 sh_93 rfl rfl (t_X11_fails _) rfl rfl rfl dX11_isNumber_28 (fun x8 M8 hM8 => ?_)
    obtain ⟨rfl, rfl⟩ := hM8
    exact j_ret h hr (by decide) dX11_isNumber_31 ⟨_, rfl, nb_f hM9 hn⟩
  · have ht9 := (lg_cmp_eq _ _).mp c_12
    obtain ⟨hn1, hn2, hn3⟩ := nu_1 hs9 ht9
    have hx9 := (hM9.2.2.2.2.2 hn2 hn3).trans hn1
    refine j_aload_n h 16 rfl rfl dX11_isNumber_15 ?_
    refine j_getI h 19 rfl glX11_145 sh_93 rfl dX11_isNumber_16 ?_
    refine j_iload_n h 20 rfl rfl dX11_isNumber_19 ?_
    refine j_iload_n h 21 rfl rfl dX11_isNumber_20 ?_
    refine j_callSI h 24 rfl lkX11_120 rfl (t_X11_in _ _ _ _) rfl rfl rfl dX11_isNumber_21 ?_
    refine j_if_neB h 32 27 dX11_isNumber_24 (by decide) rfl (fun c_24 => ?_) (fun c_24 => ?_)
    · have hn : inP (nuI (M 99) (skB (M 99) L p) (wT (M 99) L p)) (nI 0) B := by rw [hx9] at c_24; exact c_24
      refine j_aload_n h 33 rfl rfl dX11_isNumber_32 ?_
      refine j_getR h 36 rfl glX11_57 sh_93 rfl dX11_isNumber_33 ?_
      refine j_iload_n h 37 rfl rfl dX11_isNumber_36 ?_
      refine j_aload_n h 38 rfl rfl dX11_isNumber_37 ?_
      refine j_getI h 41 rfl glX11_145 sh_93 rfl dX11_isNumber_38 ?_
      refine j_iast h 42 rfl sh_100 _ rfl (by omega) rfl dX11_isNumber_41 ?_
      refine j_iconst h 43 rfl (nI 1) (by decide) dX11_isNumber_42 ?_
      exact j_ret h hr (by decide) dX11_isNumber_43 ⟨_, rfl, nb_t hM9 hx9 hn⟩
    · have hn : ¬ inP (nuI (M 99) (skB (M 99) L p) (wT (M 99) L p)) (nI 0) B := fun z => c_24 (by rw [hx9]; exact z)
      refine j_aload_n h 28 rfl rfl dX11_isNumber_27 ?_
      refine j_callVX h 31 rfl lkX11_170 sh_93 rfl rfl (t_X11_fails _) rfl rfl rfl dX11_isNumber_28 (fun x8 M8 hM8 => ?_)
      obtain ⟨rfl, rfl⟩ := hM8
      exact j_ret h hr (by decide) dX11_isNumber_31 ⟨_, rfl, nb_f hM9 hn⟩
/-- ahead of the i-th number of a line -/
def rmI (M : hM) (L k p w i q f0 : Nat) (pre : List Nat) (M2 : hM) : Prop := fr2 M M2 ∧ (∀ j, j ≤ w → M2 100 j = M 100 j) ∧ M2 93 17 = nI q ∧ q ≤ L ∧ pre.length = i ∧ (∀ j, j < i → M2 100 (w + 1 + j) = nI (pre.getD j 0)) ∧ (0 < i → M2 100 (w + 1) = nI f0) ∧
  (rdN (M 99) L k 5 0 p 0).1 = (rdN (M 99) L k (5 - i) i q f0).1 ∧ (rdN (M 99) L k 5 0 p 0).2.1 = (rdN (M 99) L k (5 - i) i q f0).2.1 ∧ (rdN (M 99) L k 5 0 p 0).2.2 = pre ++ (rdN (M 99) L k (5 - i) i q f0).2.2
def rmP (M : hM) (L k p w : Nat) (y : Int32) (M2 : hM) : Prop := y = hb ((rdN (M 99) L k 5 0 p 0).1 = true) ∧ fr2 M M2 ∧ (∀ j, j ≤ w → M2 100 j = M 100 j) ∧ ((rdN (M 99) L k 5 0 p 0).1 = true → M2 93 17 = nI (rdN (M 99) L k 5 0 p 0).2.1 ∧ ∀ j, j < (rdN (M 99) L k 5 0 p 0).2.2.length → M2 100 (w + 1 + j) = nI ((rdN (M 99) L k 5 0 p 0).2.2.getD j 0)) ∧ (¬ (rdN (M 99) L k 5 0 p 0).1 = true → M2 93 22 = nI (rdN (M 99) L k 5 0 p 0).2.1)
theorem rmI_0 {M : hM} {L k p w : Nat} (hp : p ≤ L) (ep : M 93 17 = nI p) : rmI M L k p w 0 p 0 [] M :=
  ⟨⟨fun _ _ _ => rfl, fun _ _ => rfl⟩, fun _ _ => rfl, ep, hp, rfl, fun j hj => absurd hj (Nat.not_lt_zero j), fun z => absurd z (Nat.lt_irrefl 0), rfl, rfl, rfl⟩
theorem rmI_end {M M2 : hM} {L k p w i q f0 : Nat} {pre : List Nat} (h : rmI M L k p w i q f0 pre M2) (hs : i = 5 ∨ (i < 5 ∧ bdI k i = -1)) : rmP M L k p w (nI 1) M2 := by
  obtain ⟨h1, h2, h3, h4, h5, h6, h7, h8, h9, h10⟩ := h
  have e : rdN (M 99) L k (5 - i) i q f0 = (true, q, []) := by
    rcases hs with hs | ⟨hs, hb⟩
    · rw [hs]; rfl
    · rw [show 5 - i = (5 - (i + 1)) + 1 by omega, rdN, if_pos hb]
  rw [e] at h8 h9 h10
  refine ⟨by rw [hb_t h8]; rfl, h1, h2, fun _ => ⟨by rw [h9]; exact h3, fun j hj => ?_⟩, fun z => absurd h8 z⟩
  rw [h10, List.append_nil] at hj ⊢
  exact h6 j (by omega)
theorem rmI_bad {M M2 M3 : hM} {L k p w i q f0 : Nat} {pre : List Nat} {B y : Int32} (h : rmI M L k p w i q f0 pre M2) (hi : i < 5) (hb : bdI k i = B) (hB : ¬ B = -1) (h3 : nbP M2 L q (w + 1 + i) B y M3) (hc : ¬ inP (nuI (M2 99) (skB (M2 99) L q) (wT (M2 99) L q)) (nI 0) B) : rmP M L k p w (nI 0) M3 := by
  obtain ⟨h1, h2, -, h4, h5, h6, h7, h8, h9, h10⟩ := h
  obtain ⟨-, g2, g3, -, -, g6⟩ := h3
  have e99 : M2 99 = M 99 := h1.1 99 (by decide) (by decide)
  rw [e99] at hc g6
  subst hb
  have e : rdN (M 99) L k (5 - i) i q f0 = (false, skB (M 99) L q, []) := by
    rw [show 5 - i = (5 - (i + 1)) + 1 by omega, rdN, if_neg hB, if_neg (fun z => hc z.1)]
  rw [e] at h8 h9 h10
  exact ⟨by rw [hb_f (by rw [h8]; exact Bool.false_ne_true)]; rfl, fr2_t h1 g2, fun j hj => (g3 j (by omega)).trans (h2 j hj), fun z => absurd (h8.symm.trans z) Bool.false_ne_true, fun _ => by rw [h9]; exact g6 hc⟩
theorem rmI_step {M M2 M3 : hM} {L k p w i q f0 : Nat} {pre : List Nat} {B y : Int32} {n : Nat} (h : rmI M L k p w i q f0 pre M2) (hi : i < 5) (hb : bdI k i = B) (hn : n ≤ 600) (hB : B = nI n) (h3 : nbP M2 L q (w + 1 + i) B y M3) (hc : inP (nuI (M2 99) (skB (M2 99) L q) (wT (M2 99) L q)) (nI 0) B) (hd : ¬ (k = 1 ∧ i = 1 ∧ nuI (M2 99) (skB (M2 99) L q) (wT (M2 99) L q) = nI f0)) :
    rmI M L k p w (i + 1) (wT (M2 99) L q) (if i = 0 then (nuI (M2 99) (skB (M2 99) L q) (wT (M2 99) L q)).toNatClampNeg else f0) (pre ++ [(nuI (M2 99) (skB (M2 99) L q) (wT (M2 99) L q)).toNatClampNeg]) M3 := by
  obtain ⟨h1, h2, -, h4, h5, h6, h7, h8, h9, h10⟩ := h
  obtain ⟨-, g2, g3, -, g5, -⟩ := h3
  have e99 : M2 99 = M 99 := h1.1 99 (by decide) (by decide)
  rw [e99] at hc g5 hd ⊢
  obtain ⟨g6, g7⟩ := g5 hc
  have hv := (nat_of_in hn hB hc).1
  have hB1 : ¬ bdI k i = -1 := by rw [hb, hB]; exact nI_m1 (by omega)
  subst hb
  have a1 := skB_le (b := M 99) h4
  have a2 := tkE_le (b := M 99) a1.2
  have e : rdN (M 99) L k (5 - i) i q f0 = ((rdN (M 99) L k (5 - (i + 1)) (i + 1) (wT (M 99) L q) (if i = 0 then (nuI (M 99) (skB (M 99) L q) (wT (M 99) L q)).toNatClampNeg else f0)).1, (rdN (M 99) L k (5 - (i + 1)) (i + 1) (wT (M 99) L q) (if i = 0 then (nuI (M 99) (skB (M 99) L q) (wT (M 99) L q)).toNatClampNeg else f0)).2.1, (nuI (M 99) (skB (M 99) L q) (wT (M 99) L q)).toNatClampNeg :: (rdN (M 99) L k (5 - (i + 1)) (i + 1) (wT (M 99) L q) (if i = 0 then (nuI (M 99) (skB (M 99) L q) (wT (M 99) L q)).toNatClampNeg else f0)).2.2) := by
    rw [show 5 - i = (5 - (i + 1)) + 1 by omega, rdN, if_neg hB1]
    exact if_pos ⟨hc, hd⟩
  rw [e] at h8 h9 h10
  refine ⟨fr2_t h1 g2, fun j hj => (g3 j (by omega)).trans (h2 j hj), g6, a2.2.1, by rw [List.length_append, h5]; rfl, fun j hj => ?_, fun _ => ?_, h8, h9, by rw [h10, List.append_assoc]; rfl⟩
  · by_cases ej : j = i
    · subst ej
      rw [g7, List.getD_eq_getElem?_getD, List.getElem?_append_right (by omega), h5, Nat.sub_self]
      exact hv
    · rw [g3 _ (by omega), List.getD_eq_getElem?_getD, List.getElem?_append_left (by omega), ← List.getD_eq_getElem?_getD]
      exact h6 j (by omega)
  · by_cases e0 : i = 0
    · subst e0
      rw [if_pos rfl]
      exact g7.trans hv
    · rw [if_neg e0, g3 _ (by omega)]
      exact h7 (by omega)
/-- a door to itself -/
theorem rmI_self {M M2 M3 : hM} {L p w q f0 : Nat} {pre : List Nat} {y : Int32} (h : rmI M L 1 p w 1 q f0 pre M2) (h3 : nbP M2 L q (w + 1 + 1) (nI 4) y M3) (hc : inP (nuI (M2 99) (skB (M2 99) L q) (wT (M2 99) L q)) (nI 0) (nI 4)) (hd : nuI (M2 99) (skB (M2 99) L q) (wT (M2 99) L q) = nI f0) : rmP M L 1 p w (nI 0) (mu M3 93 22 (M3 93 18)) := by
  obtain ⟨h1, h2, -, h4, h5, h6, h7, h8, h9, h10⟩ := h
  obtain ⟨-, g2, g3, g4, -, -⟩ := h3
  have e99 : M2 99 = M 99 := h1.1 99 (by decide) (by decide)
  rw [e99] at hc hd g4
  have e : rdN (M 99) L 1 (5 - 1) 1 q f0 = (false, skB (M 99) L q, []) := by
    show rdN (M 99) L 1 (3 + 1) 1 q f0 = _
    rw [rdN, if_neg (show ¬ bdI 1 1 = -1 by decide)]
    exact if_neg (fun z => z.2 ⟨rfl, rfl, hd⟩)
  rw [e] at h8 h9 h10
  exact ⟨by rw [hb_f (by rw [h8]; exact Bool.false_ne_true)]; rfl, fr2_t (fr2_t h1 g2) fr2_f, fun j hj => by rw [mu_a (by decide)]; exact (g3 j (by omega)).trans (h2 j hj), fun z => absurd (h8.symm.trans z) Bool.false_ne_true, fun _ => by rw [mu_s, h9]; exact g4⟩
/-- the last number decides -/
theorem rmI_last {M M2 M3 : hM} {L k p w i q f0 : Nat} {pre : List Nat} {B y : Int32} {n : Nat} (h : rmI M L k p w i q f0 pre M2) (hi : i < 5) (hb : bdI k i = B) (hn : n ≤ 600) (hB : B = nI n) (h3 : nbP M2 L q (w + 1 + i) B y M3) (hk : ¬ (k = 1 ∧ i = 1)) (hs : i + 1 = 5 ∨ (i + 1 < 5 ∧ bdI k (i + 1) = -1)) : rmP M L k p w y M3 := by
  by_cases hc : inP (nuI (M2 99) (skB (M2 99) L q) (wT (M2 99) L q)) (nI 0) B
  · have e : y = nI 1 := h3.1.trans (hb_t hc)
    rw [e]
    exact rmI_end (rmI_step h hi hb hn hB h3 hc (fun z => hk ⟨z.1, z.2.1⟩)) hs
  · have e : y = nI 0 := h3.1.trans (hb_f hc)
    rw [e]
    exact rmI_bad h hi hb (by rw [hB]; exact nI_m1 (by omega)) h3 hc
set_option maxRecDepth 100000 in
set_option maxHeartbeats 4000000 in
theorem t_X11_isDoor (M : hM) (L p : Nat) (hL : L ≤ 200) (eL : M 93 15 = nI L) (hp : p ≤ L) (ep : M 93 17 = nI p) (w : Nat) (hw : w < 43) : Ct 4 mX11_isDoor [.ref 93, .int (nI w)] M (pX (rmP M L 1 p w)) := by
  refine ct_of (lv := [some (.ref 93), some (.int (nI w))]) (by decide +kernel) (fun _ _ hq => hq) rfl (fun _ => Nat.le_of_ble_eq_true rfl) (fun X h hr => ?_)
  have hI0 := rmI_0 (k := 1) (w := w) hp ep
  refine j_aload_n h 1 rfl rfl dX11_isDoor_0 ?_
  refine j_iload_n h 2 rfl rfl dX11_isDoor_1 ?_
  refine j_iconst h 3 rfl (nI 1) (by decide) dX11_isDoor_2 ?_
  refine j_iaddN h 4 rfl dX11_isDoor_3 ?_
  refine j_iconst h 5 rfl (nI 0) (by decide) dX11_isDoor_4 ?_
  refine j_iconst h 6 rfl (nI 4) (by decide) dX11_isDoor_5 ?_
  refine j_callVX h 9 rfl lkX11_174 sh_93 rfl rfl (t_X11_isNumber _ L _ hL ((hI0.1.2 15 (by decide)).trans eL) hI0.2.2.2.1 hI0.2.2.1 _ (by omega) _) rfl rfl rfl dX11_isDoor_6 (fun x1 M1 h1 => ?_)
  refine j_top h1.1 ?_
  refine j_if_eqB h 24 12 dX11_isDoor_9 (by decide) rfl (fun c_9 => ?_) (fun c_9 => ?_)
  · have hZ := rmI_bad (i := 0) hI0 (by decide) rfl (by decide) h1 c_9
    refine j_iconst h 25 rfl (nI 0) (by decide) dX11_isDoor_24 ?_
    exact j_ret h hr (by decide) dX11_isDoor_25 ⟨_, rfl, hZ⟩
  · have hI1 := rmI_step (i := 0) hI0 (by decide) rfl (by decide : 4 ≤ 600) rfl h1 c_9 (fun z => absurd z.2.1 (by decide))
    refine j_aload_n h 13 rfl rfl dX11_isDoor_12 ?_
    refine j_iload_n h 14 rfl rfl dX11_isDoor_13 ?_
    refine j_iconst h 15 rfl (nI 2) (by decide) dX11_isDoor_14 ?_
    refine j_iaddN h 16 rfl dX11_isDoor_15 ?_
    refine j_iconst h 17 rfl (nI 0) (by decide) dX11_isDoor_16 ?_
    refine j_iconst h 18 rfl (nI 4) (by decide) dX11_isDoor_17 ?_
    refine j_callVX h 21 rfl lkX11_174 sh_93 rfl rfl (t_X11_isNumber _ L _ hL ((hI1.1.2 15 (by decide)).trans eL) hI1.2.2.2.1 hI1.2.2.1 _ (by omega) _) rfl rfl rfl dX11_isDoor_18 (fun x2 M2 h2 => ?_)
    refine j_top h2.1 ?_
    refine j_if_neB h 26 24 dX11_isDoor_21 (by decide) rfl (fun c_21 => ?_) (fun c_21 => ?_)
    · have e1 : M2 100 (w + 1) = nI _ := (h2.2.2.1 (w + 1) (by omega)).trans (hI1.2.2.2.2.2.2.1 (by decide))
      have e2 := (h2.2.2.2.2.1 c_21).2
      refine j_aload_n h 27 rfl rfl dX11_isDoor_26 ?_
      refine j_getR h 30 rfl glX11_57 sh_93 rfl dX11_isDoor_27 ?_
      refine j_iload_n h 31 rfl rfl dX11_isDoor_30 ?_
      refine j_iconst h 32 rfl (nI 1) (by decide) dX11_isDoor_31 ?_
      refine j_iaddN h 33 rfl dX11_isDoor_32 ?_
      refine j_iald h 34 rfl sh_100 _ rfl (by omega) rfl dX11_isDoor_33 ?_
      refine j_top e1 ?_
      refine j_aload_n h 35 rfl rfl dX11_isDoor_34 ?_
      refine j_getR h 38 rfl glX11_57 sh_93 rfl dX11_isDoor_35 ?_
      refine j_iload_n h 39 rfl rfl dX11_isDoor_38 ?_
      refine j_iconst h 40 rfl (nI 2) (by decide) dX11_isDoor_39 ?_
      refine j_iaddN h 41 rfl dX11_isDoor_40 ?_
      refine j_iald h 42 rfl sh_100 _ rfl (by omega) rfl dX11_isDoor_41 ?_
      refine j_top e2 ?_
      refine j_icmp_ne h 52 45 dX11_isDoor_42 (by decide) rfl (fun c_42 => ?_) (fun c_42 => ?_)
      · have hI2 := rmI_step (i := 1) hI1 (by decide) rfl (by decide : 4 ≤ 600) rfl h2 c_21 (fun z => c_42 z.2.2.symm)
        refine j_aload_n h 53 rfl rfl dX11_isDoor_52 ?_
        refine j_iload_n h 54 rfl rfl dX11_isDoor_53 ?_
        refine j_iconst h 55 rfl (nI 3) (by decide) dX11_isDoor_54 ?_
        refine j_iaddN h 56 rfl dX11_isDoor_55 ?_
        refine j_iconst h 57 rfl (nI 0) (by decide) dX11_isDoor_56 ?_
        refine j_bipush h 59 rfl (nI 10) (by decide) dX11_isDoor_57 ?_
        refine j_callVX h 62 rfl lkX11_174 sh_93 rfl rfl (t_X11_isNumber _ L _ hL ((hI2.1.2 15 (by decide)).trans eL) hI2.2.2.2.1 hI2.2.2.1 _ (by omega) _) rfl rfl rfl dX11_isDoor_59 (fun x3 M3 h3 => ?_)
        have hZ := rmI_last (i := 2) hI2 (by decide) rfl (by decide : 10 ≤ 600) rfl h3 (fun z => absurd z.2 (by decide)) (Or.inr ⟨by decide, by decide⟩)
        refine j_top hZ.1 ?_
        exact j_ret h hr (by first | exact hb_nar | decide) dX11_isDoor_62 ⟨_, rfl, by first | exact hZ | (rw [← hZ.1]; exact hZ)⟩
      · have hZ := rmI_self hI1 h2 c_21 c_42.symm
        refine j_aload_n h 46 rfl rfl dX11_isDoor_45 ?_
        refine j_callVX h 49 rfl lkX11_170 sh_93 rfl rfl (t_X11_fails _) rfl rfl rfl dX11_isDoor_46 (fun x8 M8 hM8 => ?_)
        obtain ⟨rfl, rfl⟩ := hM8
        refine j_goto h 62 dX11_isDoor_49 (by decide) ?_
        exact j_ret h hr (by first | exact hb_nar | decide) dX11_isDoor_62 ⟨_, rfl, by first | exact hZ | (rw [← hZ.1]; exact hZ)⟩
    · have hZ := rmI_bad (i := 1) hI1 (by decide) rfl (by decide) h2 c_21
      refine j_iconst h 25 rfl (nI 0) (by decide) dX11_isDoor_24 ?_
      exact j_ret h hr (by decide) dX11_isDoor_25 ⟨_, rfl, hZ⟩
