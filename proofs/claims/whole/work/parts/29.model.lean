/-! the model: its house is the class's; what it answers of hours -/
def mH (M : hM) : Prop :=
  (∀ r, r < 5 → (bitP (M 93 0) (nI r) ↔ ¬ M 15 r = 0)) ∧
  (∀ r, r < 5 → M 94 (4 * r) = M 16 r ∧ M 94 (4 * r + 1) = M 17 r ∧ M 94 (4 * r + 2) = M 18 r ∧ M 94 (4 * r + 3) = M 19 r) ∧
  (∀ r, r < 5 → M 95 r = M 20 r ∧ M 96 r = M 21 r ∧ M 97 r = M 22 r) ∧
  (∀ r q, r < 5 → q < 5 → M 98 (5 * r + q) = M (24 + r) q ∧ (0 : Int32) ≤ M (24 + r) q) ∧
  (∀ r, r < 5 → M (24 + r) r = 0) ∧
  (M 93 6 = M 14 10 ∧ M 93 7 = M 14 11 ∧ M 93 8 = M 14 12 ∧ M 93 9 = M 14 13 ∧ M 93 10 = M 14 14 ∧ M 93 11 = M 14 15 ∧ M 93 12 = M 14 16 ∧ M 93 13 = M 14 17 ∧ M 93 14 = M 14 9) ∧
  (0 : Int32) ≤ M 14 16
theorem mH_cg {M N : hM} (h : mH M) (h1 : ∀ a, 14 ≤ a → a < 29 → N a = M a) (h2 : ∀ a, 94 ≤ a → a < 99 → N a = M a) (h3 : ∀ j, j < 15 → N 93 j = M 93 j) : mH N := by
  obtain ⟨a1, a2, a3, a4, a5, ⟨b1, b2, b3, b4, b5, b6, b7, b8, b9⟩, a7⟩ := h
  have h14 := h1 14 (by decide) (by decide)
  refine ⟨fun r hr => ?_, fun r hr => ?_, fun r hr => ?_, fun r q hr hq => ?_, fun r hr => ?_, ⟨?_, ?_, ?_, ?_, ?_, ?_, ?_, ?_, ?_⟩, ?_⟩
  · rw [h3 0 (by decide), h1 15 (by decide) (by decide)]; exact a1 r hr
  · rw [h2 94 (by decide) (by decide), h1 16 (by decide) (by decide), h1 17 (by decide) (by decide), h1 18 (by decide) (by decide), h1 19 (by decide) (by decide)]; exact a2 r hr
  · rw [h2 95 (by decide) (by decide), h2 96 (by decide) (by decide), h2 97 (by decide) (by decide), h1 20 (by decide) (by decide), h1 21 (by decide) (by decide), h1 22 (by decide) (by decide)]; exact a3 r hr
  · rw [h2 98 (by decide) (by decide), h1 (24 + r) (by omega) (by omega)]; exact a4 r q hr hq
  · rw [h1 (24 + r) (by omega) (by omega)]; exact a5 r hr
  · rw [h3 6 (by decide), h14]; exact b1
  · rw [h3 7 (by decide), h14]; exact b2
  · rw [h3 8 (by decide), h14]; exact b3
  · rw [h3 9 (by decide), h14]; exact b4
  · rw [h3 10 (by decide), h14]; exact b5
  · rw [h3 11 (by decide), h14]; exact b6
  · rw [h3 12 (by decide), h14]; exact b7
  · rw [h3 13 (by decide), h14]; exact b8
  · rw [h3 14 (by decide), h14]; exact b9
  · rw [h14]; exact a7
theorem mT_iff {M : hM} (h : mH M) {x : Int32} : mTP M x ↔ tldP M x := by
  constructor
  · rintro ⟨h1, h2⟩
    obtain ⟨k, hk, rfl⟩ := (in_nat (by decide)).mp h1
    exact ⟨h1, by rw [tn_nI (by omega)]; exact (h.1 k (by omega)).mp h2⟩
  · rintro ⟨h1, h2⟩
    obtain ⟨k, hk, rfl⟩ := (in_nat (by decide)).mp h1
    rw [tn_nI (by omega)] at h2
    exact ⟨h1, (h.1 k (by omega)).mpr h2⟩
theorem plO_h {M : hM} {a : Nat} (h1 : 14 ≤ a) (h2 : a < 29) : planOf M a = M a := by
  funext j
  unfold planOf
  rw [if_neg (by omega), if_neg (by omega), if_neg (by omega), if_neg (by omega), if_neg (by omega), if_neg (by omega), if_pos ⟨h1, h2⟩]
theorem plO_s {M : hM} {r j : Nat} (h : r < 5) : planOf M (34 + r) j = sunC (M 14 13) (M 18 r) (M 22 r) j := by
  unfold planOf
  rw [if_neg (by omega), if_neg (by omega), if_neg (by omega), if_neg (by omega), if_pos (by omega), show 34 + r - 34 = r by omega]
theorem skyC_cg {H G : Nat → Int32} {n : Nat} (h0 : H 10 = G 10) (h1 : H 11 = G 11) (h2 : H 12 = G 12) : skyC H n = skyC G n := by
  unfold skyC
  rw [h0, h1, h2]
theorem sky_m {M M2 : hM} (h : mH M) (hj : ∀ j, 6 ≤ j → j < 9 → M2 93 j = M 93 j) (n : Nat) : mSky M2 n = skyC (M 14) n := by
  obtain ⟨-, -, -, -, -, ⟨b1, b2, b3, -⟩, -⟩ := h
  exact skyC_cg ((hj 6 (by decide) (by decide)).trans b1) ((hj 7 (by decide) (by decide)).trans b2) ((hj 8 (by decide) (by decide)).trans b3)
/-- a plan that is the house as told, but for habits, sun, leaks and the law -/
theorem mP_of {M M2 P : hM} {w : Nat} (hH : mH M) (h14 : ∀ a, 14 ≤ a → a < 29 → P a = M a) (hc : ∀ a, 94 ≤ a → a < 99 → M2 a = M a) (hj : ∀ j, j < 15 → j ≠ 10 → j ≠ 11 → M2 93 j = M 93 j) (e1 : ∀ r, r < 5 → M2 108 r = P 30 r) (e2 : ∀ r, r < 5 → M2 109 r = P 31 r) (hg : M2 93 11 = P 29 6) (ht : M2 93 10 = P 29 5) (hs : ∀ r k, r < 5 → k < 24 → msS M2 r k w = P (34 + r) k) (hl : ∀ r, r < 5 → mlS M2 r w = P 32 r) (h39 : ∀ k, P 39 k = skyC (M 14) k) (hw : M2 93 35 = nI w) : mP M2 w P := by
  have hH0 := hH
  obtain ⟨a1, a2, a3, a4, a5, ⟨b1, b2, b3, b4, b5, b6, b7, b8, b9⟩, a7⟩ := hH
  refine ⟨fun r hr => ?_, fun r hr => ?_, fun r hr => ?_, fun r hr => ?_, e1, e2, fun r q hr hq => ?_, fun r hr => ?_, hs, hl, ?_, ?_, hg, ht, fun k _ => ?_, hw⟩
  · rw [hj 0 (by decide) (by decide) (by decide), h14 15 (by decide) (by decide)]; exact a1 r hr
  · rw [hc 94 (by decide) (by decide), h14 16 (by decide) (by decide)]; exact (a2 r hr).1
  · rw [hc 94 (by decide) (by decide), h14 17 (by decide) (by decide)]; exact (a2 r hr).2.1
  · rw [hc 94 (by decide) (by decide), h14 19 (by decide) (by decide)]; exact (a2 r hr).2.2.2
  · rw [hc 98 (by decide) (by decide), h14 (24 + r) (by omega) (by omega)]; exact a4 r q hr hq
  · rw [h14 (24 + r) (by omega) (by omega)]; exact a5 r hr
  · rw [hj 14 (by decide) (by decide) (by decide), h14 14 (by decide) (by decide)]; exact b9
  · rw [hj 13 (by decide) (by decide) (by decide), h14 14 (by decide) (by decide)]; exact b8
  · rw [h39]; exact sky_m hH0 (fun j x y => hj j (by omega) (by omega) (by omega)) k
theorem ms_0 {M M2 : hM} (hH : mH M) (hc : ∀ a, 94 ≤ a → a < 99 → M2 a = M a) (h9 : M2 93 9 = M 93 9) (hz : M2 93 32 = nI 0) {r n : Nat} (hr : r < 5) : ∀ k, k ≤ 6 → msS M2 r n k = sunC (M 14 13) (M 18 r) (M 22 r) n
  | 0, _ => by
    rw [msS, h9, hc 94 (by decide) (by decide), hc 97 (by decide) (by decide), hH.2.2.2.2.2.1.2.2.2.1, (hH.2.1 r hr).2.2.1, (hH.2.2.1 r hr).2.2]
  | k + 1, hk => by
    rw [msS, if_neg (fun z => bit0 k (by omega) (by rw [← hz]; exact z.1))]
    exact ms_0 hH hc h9 hz hr k (by omega)
theorem mlO_p {v : Int32} (h : 0 ≤ v) : mlO v = v := if_neg (Int32.not_lt.mpr h)
theorem ml_0 {M M2 : hM} (hH : mH M) (h12 : M2 93 12 = M 93 12) (hz : M2 93 32 = nI 0) {r : Nat} : ∀ k, k ≤ 6 → mlS M2 r k = M 14 16
  | 0, _ => by rw [mlS, h12]; exact hH.2.2.2.2.2.1.2.2.2.2.2.2.1
  | k + 1, hk => by
    rw [mlS, if_neg (fun z => bit0 k (by omega) (by rw [← hz]; exact z.1)), ml_0 hH h12 hz k (by omega)]
    exact mlO_p hH.2.2.2.2.2.2
/-- the model with no works on, habits as P has them -/
def mZ (M M2 P : hM) : Prop := (∀ a, a < 93 ∨ (93 < a ∧ a < 101) ∨ 109 < a → M2 a = M a) ∧ (∀ j, j ≠ 32 → M2 93 j = M 93 j) ∧ M2 93 32 = nI 0 ∧ ∀ r, r < 5 → M2 108 r = P 30 r ∧ M2 109 r = P 31 r
theorem mP_Z {M M2 P : hM} {w : Nat} (hH : mH M) (hw : w ≤ 6) (ew : M 93 35 = nI w) (hz : mZ M M2 P) (hP : ∀ a, a ≠ 30 → a ≠ 31 → P a = planOf M a) : mP M2 w P := by
  obtain ⟨f1, f2, f3, f4⟩ := hz
  refine mP_of hH (fun a x y => (hP a (by omega) (by omega)).trans (plO_h x y)) (fun a x y => f1 a (by omega)) (fun j _ _ _ => f2 j (by omega)) (fun r hr => (f4 r hr).1) (fun r hr => (f4 r hr).2) ?_ ?_ (fun r k hr hk => ?_) (fun r hr => ?_) (fun k => ?_) ((f2 35 (by decide)).trans ew)
  · rw [f2 11 (by decide), hP 29 (by decide) (by decide)]; exact hH.2.2.2.2.2.1.2.2.2.2.2.1
  · rw [f2 10 (by decide), hP 29 (by decide) (by decide)]; exact hH.2.2.2.2.2.1.2.2.2.2.1
  · rw [hP (34 + r) (by omega) (by omega), plO_s hr]
    exact ms_0 hH (fun a x y => f1 a (by omega)) (f2 9 (by decide)) f3 hr w hw
  · rw [hP 32 (by decide) (by decide)]
    exact ml_0 hH (f2 12 (by decide)) f3 w hw
  · rw [hP 39 (by decide) (by decide)]; rfl
def atP (M M2 : hM) : Prop := (∀ a, a ≠ 93 → a ≠ 108 → a ≠ 109 → M2 a = M a) ∧ (∀ j, j ≠ 32 → M2 93 j = M 93 j) ∧ M2 93 32 = nI 0 ∧ ∀ r, r < 5 → M2 108 r = M 95 r ∧ M2 109 r = M 96 r
def atI (M : hM) (i : Nat) (M2 : hM) : Prop := (∀ a, a ≠ 108 → a ≠ 109 → M2 a = M a) ∧ ∀ r, r < i → M2 108 r = M 95 r ∧ M2 109 r = M 96 r
theorem atI_step {M M2 : hM} {i : Nat} (h : atI M i M2) : atI M (i + 1) (mu (mu M2 108 i (M 95 i)) 109 i (M 96 i)) := by
  obtain ⟨f1, f2⟩ := h
  refine ⟨fun a x y => by rw [mu_f y, mu_f x]; exact f1 a x y, fun r hr => ?_⟩
  by_cases e : r = i
  · subst e; exact ⟨by rw [mu_a (by decide), mu_s], mu_s⟩
  · obtain ⟨a1, a2⟩ := f2 r (by omega)
    exact ⟨by rw [mu_a (by decide), mu_k e]; exact a1, by rw [mu_k e, mu_a (by decide)]; exact a2⟩
theorem atI_end {M M2 : hM} (h : atI M 5 M2) : atP M (mu M2 93 32 (nI 0)) := by
  obtain ⟨f1, f2⟩ := h
  exact ⟨fun a x y z => by rw [mu_f x]; exact f1 a y z, fun j x => by rw [mu_k x, f1 93 (by decide) (by decide)], mu_s, fun r hr => by rw [mu_a (by decide), mu_a (by decide)]; exact f2 r hr⟩
theorem mZ_at {M M2 : hM} (hH : mH M) (h : atP M M2) : mZ M M2 (planOf M) := by
  obtain ⟨f1, f2, f3, f4⟩ := h
  refine ⟨fun a ha => f1 a (by omega) (by omega) (by omega), f2, f3, fun r hr => ⟨?_, ?_⟩⟩
  · rw [(f4 r hr).1, (hH.2.2.1 r hr).1]; rfl
  · rw [(f4 r hr).2, (hH.2.2.1 r hr).2.1]; rfl
theorem mP_at {M M2 : hM} {w : Nat} (hH : mH M) (h : atP M M2) (hw : w ≤ 6) (ew : M 93 35 = nI w) : mP M2 w (planOf M) := mP_Z hH hw ew (mZ_at hH h) (fun _ _ _ => rfl)
/-- what the model's asking leaves as it was -/
def frM (M M2 : hM) : Prop := (∀ a, (a < 93 ∨ (93 < a ∧ a < 101) ∨ (109 < a ∧ a < 119)) → M2 a = M a) ∧ ∀ j, j ≠ 32 → M2 93 j = M 93 j
theorem frM_r {M : hM} : frM M M := ⟨fun _ _ => rfl, fun _ _ => rfl⟩
theorem frM_t {A B C : hM} (h1 : frM A B) (h2 : frM B C) : frM A C := ⟨fun a ha => (h2.1 a ha).trans (h1.1 a ha), fun j hj => (h2.2 j hj).trans (h1.2 j hj)⟩
theorem frM_at {M M2 : hM} (h : atP M M2) : frM M M2 := ⟨fun a ha => h.1 a (by omega) (by omega) (by omega), h.2.1⟩
theorem frM_W {M M2 : hM} (h : frW M M2) : frM M M2 := ⟨fun a ha => h a (by omega), fun j _ => congrFun (h 93 (by omega)) j⟩
theorem mH_fr {M N : hM} (h : mH M) (hf : frM M N) : mH N := mH_cg h (fun a x y => hf.1 a (by omega)) (fun a x y => hf.1 a (by omega)) (fun j hj => hf.2 j (by omega))
theorem pO_fr {M N : hM} (hf : frM M N) : planOf N = planOf M := planOf_cg (fun a x y => hf.1 a (by omega))
theorem z_2 {z : Int32} (h : inP z (nI 0) (nI 2)) (h0 : ¬ z = 0) (h1 : ¬ z = nI 1) : z = nI 2 := by
  obtain ⟨k, hk, rfl⟩ := (in_nat (by decide)).mp h
  rcases (by omega : k = 0 ∨ k = 1 ∨ k = 2) with rfl | rfl | rfl
  · exact absurd rfl h0
  · exact absurd rfl h1
  · rfl
theorem z_n2 {z : Int32} (h : ¬ inP z (nI 0) (nI 2)) : ¬ z = nI 0 ∧ ¬ z = nI 1 ∧ ¬ z = nI 2 := ⟨fun e => h (by rw [e]; decide), fun e => h (by rw [e]; decide), fun e => h (by rw [e]; decide)⟩
set_option maxRecDepth 100000 in
set_option maxHeartbeats 4000000 in
theorem t_X11_asTold (M : hM) : Ct 1 mX11_asTold [.ref 93] M (pV (atP M)) := by
  refine ct_of (lv := [some (.ref 93), none]) (by decide +kernel) (fun _ _ hq => hq) rfl (fun _ => Nat.le_of_ble_eq_true rfl) (fun X h hr => ?_)
  refine j_iconst h 1 rfl (nI 0) (by decide) dX11_asTold_0 ?_
  refine j_istore_n h 2 rfl rfl dX11_asTold_1 ?_
  have L1 : ∀ (m i : Nat) (M2 : hM), 5 - i < m → i ≤ 5 → atI M i M2 → J X 2 [some (.ref 93), some (.int (nI i))] [] M2 := by
    intro m
    induction m with
    | zero => intro i M2 h1; omega
    | succ m ih =>
      intro i M2 h1 h2 hI
      refine j_iload_n h 3 rfl rfl dX11_asTold_2 ?_
      refine j_iconst h 4 rfl (nI 5) (by decide) dX11_asTold_3 ?_
      refine j_icmp_geN h 37 7 (by omega) (by omega) dX11_asTold_4 (by decide) rfl (fun c_4 => ?_) (fun c_4 => ?_)
      · skip
        refine j_aload_n h 38 rfl rfl dX11_asTold_37 ?_
        refine j_iconst h 39 rfl (nI 0) (by decide) dX11_asTold_38 ?_
        refine j_putI h 42 rfl plX11_232 sh_93 rfl rfl rfl rfl dX11_asTold_39 ?_
        exact j_vret h hr dX11_asTold_42 ⟨rfl, atI_end (by rw [show 5 = i by omega]; exact hI)⟩
      · skip
        refine j_aload_n h 8 rfl rfl dX11_asTold_7 ?_
        refine j_getR h 11 rfl glX11_81 sh_93 rfl dX11_asTold_8 ?_
        refine j_iload_n h 12 rfl rfl dX11_asTold_11 ?_
        refine j_aload_n h 13 rfl rfl dX11_asTold_12 ?_
        refine j_getR h 16 rfl glX11_13 sh_93 rfl dX11_asTold_13 ?_
        refine j_iload_n h 17 rfl rfl dX11_asTold_16 ?_
        refine j_iald h 18 rfl sh_95 _ rfl (by omega) rfl dX11_asTold_17 ?_
        refine j_top (congrFun (hI.1 95 (by decide) (by decide)) _) ?_
        refine j_iast h 19 rfl sh_108 _ rfl (by omega) rfl dX11_asTold_18 ?_
        refine j_aload_n h 20 rfl rfl dX11_asTold_19 ?_
        refine j_getR h 23 rfl glX11_84 sh_93 rfl dX11_asTold_20 ?_
        refine j_iload_n h 24 rfl rfl dX11_asTold_23 ?_
        refine j_aload_n h 25 rfl rfl dX11_asTold_24 ?_
        refine j_getR h 28 rfl glX11_16 sh_93 rfl dX11_asTold_25 ?_
        refine j_iload_n h 29 rfl rfl dX11_asTold_28 ?_
        refine j_iald h 30 rfl sh_96 _ rfl (by omega) rfl dX11_asTold_29 ?_
        refine j_top ((mu_a (by decide)).trans (congrFun (hI.1 96 (by decide) (by decide)) _)) ?_
        refine j_iast h 31 rfl sh_109 _ rfl (by omega) rfl dX11_asTold_30 ?_
        refine j_iincN h 34 rfl rfl rfl dX11_asTold_31 ?_
        refine j_goto h 2 dX11_asTold_34 (by decide) ?_
        exact ih (i + 1) _ (by omega) (by omega) (atI_step hI)
  exact L1 6 0 M (by omega) (by omega) ⟨fun _ _ _ => rfl, fun r hr => absurd hr (Nat.not_lt_zero r)⟩
set_option maxRecDepth 100000 in
set_option maxHeartbeats 4000000 in
theorem t_X11_warm (M : hM) (x y z : Int32) (hH : mH M) (w : Nat) (hw : w ≤ 6) (ew : M 93 35 = nI w) : Ct 5 mX11_warm [.ref 93, .int x, .int y, .int z] M (pX (fun v M2 => v = sWarm M x y z ∧ frM M M2)) := by
  refine ct_of (lv := [some (.ref 93), some (.int x), some (.int y), some (.int z), none]) (by decide +kernel) (fun _ _ hq => hq) rfl (fun _ => Nat.le_of_ble_eq_true rfl) (fun X h hr => ?_)
  refine j_aload_n h 1 rfl rfl dX11_warm_0 ?_
  refine j_iload_n h 2 rfl rfl dX11_warm_1 ?_
  refine j_callVI h 5 rfl lkX11_222 sh_93 rfl rfl (t_X11_isRoom _ _) rfl rfl rfl dX11_warm_2 ?_
  refine j_top (hb_c (mT_iff hH)) ?_
  refine j_if_eqB h 18 8 dX11_warm_5 (by decide) rfl (fun c_5 => ?_) (fun c_5 => ?_)
  · skip
    refine j_bipush h 20 rfl (-2) (by decide) dX11_warm_18 ?_
    exact j_ret h hr rfl dX11_warm_20 ⟨_, rfl, by unfold sWarm; first | rw [if_neg (fun q => c_5 q.1)]; done | rw [if_neg (fun q => c_15 q.2)]; done, frM_r⟩
  · skip
    refine j_iload_n h 9 rfl rfl dX11_warm_8 ?_
    refine j_iconst h 10 rfl (nI 0) (by decide) dX11_warm_9 ?_
    refine j_bipush h 12 rfl (nI 95) (by decide) dX11_warm_10 ?_
    refine j_callSI h 15 rfl lkX11_120 rfl (t_X11_in _ _ _ _) rfl rfl rfl dX11_warm_12 ?_
    refine j_if_neB h 21 18 dX11_warm_15 (by decide) rfl (fun c_15 => ?_) (fun c_15 => ?_)
    · skip
      refine j_iload_n h 22 rfl rfl dX11_warm_21 ?_
      refine j_iconst h 23 rfl (nI 0) (by decide) dX11_warm_22 ?_
      refine j_iconst h 24 rfl (nI 2) (by decide) dX11_warm_23 ?_
      refine j_callSI h 27 rfl lkX11_120 rfl (t_X11_in _ _ _ _) rfl rfl rfl dX11_warm_24 ?_
      refine j_if_neB h 33 30 dX11_warm_27 (by decide) rfl (fun c_27 => ?_) (fun c_27 => ?_)
      · skip
        obtain ⟨r, hr9, rfl⟩ := (in_nat (by decide)).mp c_5.1
        obtain ⟨h9, hh9, rfl⟩ := (in_nat (by decide)).mp c_15
        have ht := c_5.2
        rw [tn_nI (by omega)] at ht
        refine j_aload_n h 34 rfl rfl dX11_warm_33 ?_
        refine j_callVV h 37 rfl lkX11_253 sh_93 rfl rfl (t_X11_asTold _) rfl rfl rfl dX11_warm_34 (fun M9 hM9 => ?_)
        refine j_aload_n h 38 rfl rfl dX11_warm_37 ?_
        refine j_callVV h 41 rfl lkX11_247 sh_93 rfl rfl (t_X11_goWeek _ (planOf M) w hw (mP_at hH hM9 hw ew)) rfl rfl rfl dX11_warm_38 (fun M8 hM8 => ?_)
        refine j_bipush h 43 rfl (nI 96) (by decide) dX11_warm_41 ?_
        refine j_iload_n h 44 rfl rfl dX11_warm_43 ?_
        refine j_imulN h 45 rfl dX11_warm_44 ?_
        refine j_iload_n h 46 rfl rfl dX11_warm_45 ?_
        refine j_iaddN h 47 rfl dX11_warm_46 ?_
        refine j_istore h 49 rfl rfl dX11_warm_47 ?_
        have hwk := (hM8.2 r (by omega) ht).2.2 h9 (by omega)
        have hfr : frM M M8 := frM_t (frM_at hM9) (frM_W hM8.1)
        have hsw : sWarm M (nI r) (nI h9) z = wmV (planOf M) r h9 z := by unfold sWarm; rw [if_pos ⟨c_5, c_15⟩, tn_nI (by omega), tn_nI (by omega)]
        refine j_iload_n h 50 rfl rfl dX11_warm_49 ?_
        refine j_if_ne h 63 53 dX11_warm_50 (by decide) rfl (fun c_50 => ?_) (fun c_50 => ?_)
        · skip
          refine j_iload_n h 64 rfl rfl dX11_warm_63 ?_
          refine j_iconst h 65 rfl (nI 1) (by decide) dX11_warm_64 ?_
          refine j_icmp_ne h 78 68 dX11_warm_65 (by decide) rfl (fun c_65 => ?_) (fun c_65 => ?_)
          · skip
            refine j_aload_n h 79 rfl rfl dX11_warm_78 ?_
            refine j_getR h 82 rfl glX11_66 sh_93 rfl dX11_warm_79 ?_
            refine j_iload h 84 rfl rfl dX11_warm_82 ?_
            refine j_iald h 85 rfl sh_103 _ rfl (by omega) rfl dX11_warm_84 ?_
            exact j_ret h hr rfl dX11_warm_85 ⟨_, rfl, by
    rw [hsw]
    unfold wmV
    first
      | (rw [if_pos (show z = nI 0 from c_50)]; exact hwk.1)
      | (rw [if_neg (show ¬ z = nI 0 from c_50), if_pos c_65]; exact hwk.2.1)
      | (rw [if_neg (show ¬ z = nI 0 from c_50), if_neg c_65, if_pos (z_2 c_27 c_50 c_65)]; exact hwk.2.2), hfr⟩
          · skip
            refine j_aload_n h 69 rfl rfl dX11_warm_68 ?_
            refine j_getR h 72 rfl glX11_63 sh_93 rfl dX11_warm_69 ?_
            refine j_iload h 74 rfl rfl dX11_warm_72 ?_
            refine j_iald h 75 rfl sh_102 _ rfl (by omega) rfl dX11_warm_74 ?_
            refine j_goto h 85 dX11_warm_75 (by decide) ?_
            exact j_ret h hr rfl dX11_warm_85 ⟨_, rfl, by
    rw [hsw]
    unfold wmV
    first
      | (rw [if_pos (show z = nI 0 from c_50)]; exact hwk.1)
      | (rw [if_neg (show ¬ z = nI 0 from c_50), if_pos c_65]; exact hwk.2.1)
      | (rw [if_neg (show ¬ z = nI 0 from c_50), if_neg c_65, if_pos (z_2 c_27 c_50 c_65)]; exact hwk.2.2), hfr⟩
        · skip
          refine j_aload_n h 54 rfl rfl dX11_warm_53 ?_
          refine j_getR h 57 rfl glX11_60 sh_93 rfl dX11_warm_54 ?_
          refine j_iload h 59 rfl rfl dX11_warm_57 ?_
          refine j_iald h 60 rfl sh_101 _ rfl (by omega) rfl dX11_warm_59 ?_
          refine j_goto h 85 dX11_warm_60 (by decide) ?_
          exact j_ret h hr rfl dX11_warm_85 ⟨_, rfl, by
    rw [hsw]
    unfold wmV
    first
      | (rw [if_pos (show z = nI 0 from c_50)]; exact hwk.1)
      | (rw [if_neg (show ¬ z = nI 0 from c_50), if_pos c_65]; exact hwk.2.1)
      | (rw [if_neg (show ¬ z = nI 0 from c_50), if_neg c_65, if_pos (z_2 c_27 c_50 c_65)]; exact hwk.2.2), hfr⟩
      · skip
        refine j_bipush h 32 rfl (-3) (by decide) dX11_warm_30 ?_
        exact j_ret h hr rfl dX11_warm_32 ⟨_, rfl, by unfold sWarm wmV; obtain ⟨q0, q1, q2⟩ := z_n2 c_27; rw [if_pos ⟨c_5, c_15⟩, if_neg q0, if_neg q1, if_neg q2], frM_r⟩
    · skip
      refine j_bipush h 20 rfl (-2) (by decide) dX11_warm_18 ?_
      exact j_ret h hr rfl dX11_warm_20 ⟨_, rfl, by unfold sWarm; first | rw [if_neg (fun q => c_5 q.1)]; done | rw [if_neg (fun q => c_15 q.2)]; done, frM_r⟩
set_option maxRecDepth 100000 in
set_option maxHeartbeats 4000000 in
theorem t_X11_night (M : hM) (x : Int32) (hH : mH M) (w : Nat) (hw : w ≤ 6) (ew : M 93 35 = nI w) : Ct 6 mX11_night [.ref 93, .int x] M (pX (fun v M2 => v = sNight M x ∧ frM M M2)) := by
  refine ct_of (lv := [some (.ref 93), some (.int x), none]) (by decide +kernel) (fun _ _ hq => hq) rfl (fun _ => Nat.le_of_ble_eq_true rfl) (fun X h hr => ?_)
  refine j_iload_n h 1 rfl rfl dX11_night_0 ?_
  refine j_iconst h 2 rfl (-1) (by decide) dX11_night_1 ?_
  have K16 : (x = -1 ∨ tldP M x) → J X 16 [some (.ref 93), some (.int x), none] [] M := by
    intro hx
    refine j_aload_n h 17 rfl rfl dX11_night_16 ?_
    refine j_callVV h 20 rfl lkX11_253 sh_93 rfl rfl (t_X11_asTold _) rfl rfl rfl dX11_night_17 (fun M9 hM9 => ?_)
    refine j_aload_n h 21 rfl rfl dX11_night_20 ?_
    refine j_callVX h 24 rfl lkX11_256 sh_93 rfl rfl (t_X11_nightOfAll _ (planOf M) w hw (mP_at hH hM9 hw ew)) rfl rfl rfl dX11_night_21 (fun x9 M8 hM8 => ?_)
    have hfr : frM M M8 := frM_t (frM_at hM9) (frM_W hM8.2.1)
    refine j_istore_n h 25 rfl rfl dX11_night_24 ?_
    refine j_iload_n h 26 rfl rfl dX11_night_25 ?_
    refine j_iconst h 27 rfl (-1) (by decide) dX11_night_26 ?_
    refine j_icmp_ne h 34 30 dX11_night_27 (by decide) rfl (fun c_27 => ?_) (fun c_27 => ?_)
    · have ht9 := hx.resolve_left c_27
      obtain ⟨r, hr9, rfl⟩ := (in_nat (by decide)).mp ht9.1
      have ht := ht9.2
      rw [tn_nI (by omega)] at ht
      refine j_aload_n h 35 rfl rfl dX11_night_34 ?_
      refine j_iload_n h 36 rfl rfl dX11_night_35 ?_
      refine j_callVI h 39 rfl lkX11_250 sh_93 rfl rfl (t_X11_nightOf _ _ (by omega)) rfl rfl rfl dX11_night_36 ?_
      refine j_top (mw_night hM8.2 (by omega) ht) ?_
      exact j_ret h hr rfl dX11_night_39 ⟨_, rfl, by unfold sNight; first | (rw [if_pos c_27]; exact hM8.1) | rw [if_neg c_27, if_pos ht9, tn_nI (by omega)], hfr⟩
    · skip
      refine j_iload_n h 31 rfl rfl dX11_night_30 ?_
      refine j_goto h 39 dX11_night_31 (by decide) ?_
      exact j_ret h hr rfl dX11_night_39 ⟨_, rfl, by unfold sNight; first | (rw [if_pos c_27]; exact hM8.1) | rw [if_neg c_27, if_pos ht9, tn_nI (by omega)], hfr⟩
  refine j_icmp_eq h 16 5 dX11_night_2 (by decide) rfl (fun c_2 => ?_) (fun c_2 => ?_)
  · skip
    exact K16 (by first | exact Or.inl c_2 | exact Or.inr c_10)
  · skip
    refine j_aload_n h 6 rfl rfl dX11_night_5 ?_
    refine j_iload_n h 7 rfl rfl dX11_night_6 ?_
    refine j_callVI h 10 rfl lkX11_222 sh_93 rfl rfl (t_X11_isRoom _ _) rfl rfl rfl dX11_night_7 ?_
    refine j_top (hb_c (mT_iff hH)) ?_
    refine j_if_neB h 16 13 dX11_night_10 (by decide) rfl (fun c_10 => ?_) (fun c_10 => ?_)
    · skip
      exact K16 (by first | exact Or.inl c_2 | exact Or.inr c_10)
    · skip
      refine j_bipush h 15 rfl (-2) (by decide) dX11_night_13 ?_
      exact j_ret h hr rfl dX11_night_15 ⟨_, rfl, by unfold sNight; rw [if_neg c_2, if_neg c_10], frM_r⟩
set_option maxRecDepth 100000 in
set_option maxHeartbeats 4000000 in
theorem t_X11_above (M : hM) (x z : Int32) (hH : mH M) (w : Nat) (hw : w ≤ 6) (ew : M 93 35 = nI w) : Ct 5 mX11_above [.ref 93, .int x, .int z] M (pX (fun v M2 => v = sAbove M x z ∧ frM M M2)) := by
  refine ct_of (lv := [some (.ref 93), some (.int x), some (.int z), none, none, none]) (by decide +kernel) (fun _ _ hq => hq) rfl (fun _ => Nat.le_of_ble_eq_true rfl) (fun X h hr => ?_)
  refine j_aload_n h 1 rfl rfl dX11_above_0 ?_
  refine j_iload_n h 2 rfl rfl dX11_above_1 ?_
  refine j_callVI h 5 rfl lkX11_222 sh_93 rfl rfl (t_X11_isRoom _ _) rfl rfl rfl dX11_above_2 ?_
  refine j_top (hb_c (mT_iff hH)) ?_
  refine j_if_neB h 11 8 dX11_above_5 (by decide) rfl (fun c_5 => ?_) (fun c_5 => ?_)
  · skip
    refine j_iload_n h 12 rfl rfl dX11_above_11 ?_
    refine j_sipush h 15 rfl (-999) (by decide) dX11_above_12 ?_
    refine j_sipush h 18 rfl (nI 9999) (by decide) dX11_above_15 ?_
    refine j_callSI h 21 rfl lkX11_120 rfl (t_X11_in _ _ _ _) rfl rfl rfl dX11_above_18 ?_
    refine j_if_neB h 27 24 dX11_above_21 (by decide) rfl (fun c_21 => ?_) (fun c_21 => ?_)
    · skip
      obtain ⟨r, hr9, rfl⟩ := (in_nat (by decide)).mp c_5.1
      have ht := c_5.2
      rw [tn_nI (by omega)] at ht
      refine j_aload_n h 28 rfl rfl dX11_above_27 ?_
      refine j_callVV h 31 rfl lkX11_253 sh_93 rfl rfl (t_X11_asTold _) rfl rfl rfl dX11_above_28 (fun M9 hM9 => ?_)
      refine j_aload_n h 32 rfl rfl dX11_above_31 ?_
      refine j_callVV h 35 rfl lkX11_247 sh_93 rfl rfl (t_X11_goWeek _ (planOf M) w hw (mP_at hH hM9 hw ew)) rfl rfl rfl dX11_above_32 (fun M8 hM8 => ?_)
      have hfr : frM M M8 := frM_t (frM_at hM9) (frM_W hM8.1)
      refine j_iconst h 36 rfl (nI 0) (by decide) dX11_above_35 ?_
      refine j_istore_n h 37 rfl rfl dX11_above_36 ?_
      refine j_iconst h 38 rfl (nI 0) (by decide) dX11_above_37 ?_
      refine j_istore h 40 rfl rfl dX11_above_38 ?_
      refine j_iconst h 41 rfl (nI 0) (by decide) dX11_above_40 ?_
      refine j_istore h 43 rfl rfl dX11_above_41 ?_
      have L : ∀ (n i : Nat) (u v : Int32), 96 - i < n → i ≤ 96 → u = (lgS (fun k => (wk (planOf M) k r).1) z i).2 → v = (lgS (fun k => (wk (planOf M) k r).1) z i).1 → J X 43 [some (.ref 93), some (.int (nI r)), some (.int z), some (.int u), some (.int v), some (.int (nI i))] [] M8 := by
        intro n
        induction n with
        | zero => intro i u v h1; omega
        | succ n ih =>
          intro i u v h1 h2 hu hv
          subst hu
          subst hv
          refine j_iload h 45 rfl rfl dX11_above_43 ?_
          refine j_bipush h 47 rfl (nI 96) (by decide) dX11_above_45 ?_
          refine j_icmp_geN h 94 50 (by omega) (by omega) dX11_above_47 (by decide) rfl (fun c_47 => ?_) (fun c_47 => ?_)
          · skip
            refine j_iload h 96 rfl rfl dX11_above_94 ?_
            exact j_ret h hr rfl dX11_above_96 ⟨_, rfl, by unfold sAbove; rw [if_pos c_5, if_pos c_21, tn_nI (by omega), show 96 = i by omega], hfr⟩
          · skip
            have K73 : ∀ y9, y9 = (lgS (fun k => (wk (planOf M) k r).1) z (i + 1)).2 → J X 73 [some (.ref 93), some (.int (nI r)), some (.int z), some (.int (lgS (fun k => (wk (planOf M) k r).1) z i).2), some (.int (lgS (fun k => (wk (planOf M) k r).1) z i).1), some (.int (nI i))] [.int y9] M8 := by
              intro y9 hy9
              subst hy9
              refine j_istore_n h 74 rfl rfl dX11_above_73 ?_
              have K86 : ∀ v9, v9 = (lgS (fun k => (wk (planOf M) k r).1) z (i + 1)).1 → J X 86 [some (.ref 93), some (.int (nI r)), some (.int z), some (.int (lgS (fun k => (wk (planOf M) k r).1) z (i + 1)).2), some (.int (lgS (fun k => (wk (planOf M) k r).1) z i).1), some (.int (nI i))] [.int v9] M8 := by
                intro v9 hv9
                refine j_istore h 88 rfl rfl dX11_above_86 ?_
                refine j_iincN h 91 rfl rfl rfl dX11_above_88 ?_
                refine j_goto h 43 dX11_above_91 (by decide) ?_
                exact ih (i + 1) _ _ (by omega) (by omega) rfl hv9
              refine j_iload_n h 75 rfl rfl dX11_above_74 ?_
              refine j_iload h 77 rfl rfl dX11_above_75 ?_
              refine j_icmp_le h 84 80 dX11_above_77 (by decide) rfl (fun c_77 => ?_) (fun c_77 => ?_)
              · skip
                refine j_iload h 86 rfl rfl dX11_above_84 ?_
                exact K86 _ (by show _ = (if (lgS (fun k => (wk (planOf M) k r).1) z i).1 < (lgS (fun k => (wk (planOf M) k r).1) z (i + 1)).2 then (lgS (fun k => (wk (planOf M) k r).1) z (i + 1)).2 else (lgS (fun k => (wk (planOf M) k r).1) z i).1); first | rw [if_pos (Int32.not_le.mp c_77)] | rw [if_neg (Int32.not_lt.mpr c_77)])
              · skip
                refine j_iload_n h 81 rfl rfl dX11_above_80 ?_
                refine j_goto h 86 dX11_above_81 (by decide) ?_
                exact K86 _ (by show _ = (if (lgS (fun k => (wk (planOf M) k r).1) z i).1 < (lgS (fun k => (wk (planOf M) k r).1) z (i + 1)).2 then (lgS (fun k => (wk (planOf M) k r).1) z (i + 1)).2 else (lgS (fun k => (wk (planOf M) k r).1) z i).1); first | rw [if_pos (Int32.not_le.mp c_77)] | rw [if_neg (Int32.not_lt.mpr c_77)])
            refine j_aload_n h 51 rfl rfl dX11_above_50 ?_
            refine j_getR h 54 rfl glX11_60 sh_93 rfl dX11_above_51 ?_
            refine j_bipush h 56 rfl (nI 96) (by decide) dX11_above_54 ?_
            refine j_iload_n h 57 rfl rfl dX11_above_56 ?_
            refine j_imulN h 58 rfl dX11_above_57 ?_
            refine j_iload h 60 rfl rfl dX11_above_58 ?_
            refine j_iaddN h 61 rfl dX11_above_60 ?_
            refine j_iald h 62 rfl sh_101 _ rfl (by omega) rfl dX11_above_61 ?_
            refine j_top (((hM8.2 r (by omega) ht).2.2 i (by omega)).1) ?_
            refine j_iload_n h 63 rfl rfl dX11_above_62 ?_
            refine j_icmp_le h 72 66 dX11_above_63 (by decide) rfl (fun c_63 => ?_) (fun c_63 => ?_)
            · skip
              refine j_iconst h 73 rfl (nI 0) (by decide) dX11_above_72 ?_
              exact K73 _ (by rw [lgS]; first | rw [if_pos (Int32.not_le.mp c_63)] | rw [if_neg (Int32.not_lt.mpr c_63)])
            · skip
              refine j_iload_n h 67 rfl rfl dX11_above_66 ?_
              refine j_iconst h 68 rfl (nI 1) (by decide) dX11_above_67 ?_
              refine j_iadd h 69 rfl dX11_above_68 ?_
              refine j_goto h 73 dX11_above_69 (by decide) ?_
              exact K73 _ (by rw [lgS]; first | rw [if_pos (Int32.not_le.mp c_63)] | rw [if_neg (Int32.not_lt.mpr c_63)])
      exact L 97 0 _ _ (by omega) (by omega) rfl rfl
    · skip
      refine j_bipush h 26 rfl (-3) (by decide) dX11_above_24 ?_
      exact j_ret h hr rfl dX11_above_26 ⟨_, rfl, by unfold sAbove; rw [if_pos c_5, if_neg c_21], frM_r⟩
  · skip
    refine j_bipush h 10 rfl (-2) (by decide) dX11_above_8 ?_
    exact j_ret h hr rfl dX11_above_10 ⟨_, rfl, by unfold sAbove; rw [if_neg c_5], frM_r⟩
theorem mZ_put {M M2 P : hM} {k : Nat} {x : Int32} (h : mZ M M2 P) : mZ M (mu M2 108 k x) (mu P 30 k x) := by
  obtain ⟨f1, f2, f3, f4⟩ := h
  refine ⟨fun a ha => by rw [mu_f (by omega)]; exact f1 a ha, fun j hj => by rw [mu_a (by decide)]; exact f2 j hj, by rw [mu_a (by decide)]; exact f3, fun r hr => ⟨?_, ?_⟩⟩
  · by_cases e : r = k
    · subst e; rw [mu_s, mu_s]
    · rw [mu_k e, mu_k e]; exact (f4 r hr).1
  · rw [mu_a (by decide), mu_a (by decide)]; exact (f4 r hr).2
theorem mZ_W {M M2 M3 P : hM} (h : mZ M M2 P) (h3 : frW M2 M3) : mZ M M3 P := by
  obtain ⟨f1, f2, f3, f4⟩ := h
  exact ⟨fun a ha => (h3 a (by omega)).trans (f1 a ha), fun j hj => (congrFun (h3 93 (by omega)) j).trans (f2 j hj), (congrFun (h3 93 (by omega)) 32).trans f3, fun r hr => ⟨(congrFun (h3 108 (by omega)) r).trans (f4 r hr).1, (congrFun (h3 109 (by omega)) r).trans (f4 r hr).2⟩⟩
theorem frM_Z {M M2 P : hM} (h : mZ M M2 P) : frM M M2 := ⟨fun a ha => h.1 a (by omega), h.2.1⟩
theorem rg_3 (a b c : Int32) : a - b + c = c + a - b := by rw [Int32.sub_eq_add_neg, Int32.sub_eq_add_neg, Int32.add_comm _ c, Int32.add_assoc]
set_option maxRecDepth 100000 in
set_option maxHeartbeats 4000000 in
theorem t_X11_costs (M : hM) (x : Int32) (hH : mH M) (w : Nat) (hw : w ≤ 6) (ew : M 93 35 = nI w) : Ct 6 mX11_costs [.ref 93, .int x] M (pX (fun v M2 => v = sCosts M x ∧ frM M M2)) := by
  refine ct_of (lv := [some (.ref 93), some (.int x), none]) (by decide +kernel) (fun _ _ hq => hq) rfl (fun _ => Nat.le_of_ble_eq_true rfl) (fun X h hr => ?_)
  refine j_aload_n h 1 rfl rfl dX11_costs_0 ?_
  refine j_iload_n h 2 rfl rfl dX11_costs_1 ?_
  refine j_callVI h 5 rfl lkX11_222 sh_93 rfl rfl (t_X11_isRoom _ _) rfl rfl rfl dX11_costs_2 ?_
  refine j_top (hb_c (mT_iff hH)) ?_
  refine j_if_neB h 11 8 dX11_costs_5 (by decide) rfl (fun c_5 => ?_) (fun c_5 => ?_)
  · skip
    obtain ⟨r, hr9, rfl⟩ := (in_nat (by decide)).mp c_5.1
    refine j_aload_n h 12 rfl rfl dX11_costs_11 ?_
    refine j_callVV h 15 rfl lkX11_253 sh_93 rfl rfl (t_X11_asTold _) rfl rfl rfl dX11_costs_12 (fun M9 hM9 => ?_)
    refine j_aload_n h 16 rfl rfl dX11_costs_15 ?_
    refine j_callVX h 19 rfl lkX11_256 sh_93 rfl rfl (t_X11_nightOfAll _ (planOf M) w hw (mP_at hH hM9 hw ew)) rfl rfl rfl dX11_costs_16 (fun x9 M8 hM8 => ?_)
    refine j_istore_n h 20 rfl rfl dX11_costs_19 ?_
    refine j_aload_n h 21 rfl rfl dX11_costs_20 ?_
    refine j_getR h 24 rfl glX11_81 sh_93 rfl dX11_costs_21 ?_
    refine j_iload_n h 25 rfl rfl dX11_costs_24 ?_
    refine j_iconst h 26 rfl (nI 1) (by decide) dX11_costs_25 ?_
    refine j_iast h 27 rfl sh_108 _ rfl (by omega) rfl dX11_costs_26 ?_
    have hZ : mZ M (mu M8 108 r (nI 1)) (mu (planOf M) 30 r (nI 1)) := mZ_put (mZ_W (mZ_at hH hM9) hM8.2.1)
    refine j_iload_n h 28 rfl rfl dX11_costs_27 ?_
    refine j_aload_n h 29 rfl rfl dX11_costs_28 ?_
    refine j_callVX h 32 rfl lkX11_256 sh_93 rfl rfl (t_X11_nightOfAll _ (mu (planOf M) 30 r (nI 1)) w hw (mP_Z hH hw ew hZ (fun a x _ => mu_f x))) rfl rfl rfl dX11_costs_29 (fun x7 M7 hM7 => ?_)
    refine j_isub h 33 rfl dX11_costs_32 ?_
    refine j_ldcw h 36 rfl (nI 10000000) cnX11_260 dX11_costs_33 ?_
    refine j_iadd h 37 rfl dX11_costs_36 ?_
    exact j_ret h hr rfl dX11_costs_37 ⟨_, rfl, by unfold sCosts; rw [if_pos c_5, tn_nI (by omega), hM8.1, hM7.1]; exact rg_3 _ _ _, frM_Z (mZ_W hZ hM7.2.1)⟩
  · skip
    refine j_bipush h 10 rfl (-2) (by decide) dX11_costs_8 ?_
    exact j_ret h hr rfl dX11_costs_10 ⟨_, rfl, by unfold sCosts; rw [if_neg c_5], frM_r⟩
