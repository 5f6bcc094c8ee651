/-! the model: clocks, works -/
theorem drS_e {M N : hM} {A B : Nat → Int32} {r : Nat} (hr5 : r < 5) (hM : plE0 N M) (hA : ∀ q, q < 5 → ¬ M 15 q = 0 → A q = B q) (hr : A r = B r) : ∀ n, n ≤ 5 → drS N A r n = drS M B r n
  | 0, _ => rfl
  | n + 1, hn => by
    have ih := drS_e hr5 hM hA hr n (by omega)
    rw [drS, drS, hM.1 15 (by decide) (by decide), hM.1 (24 + r) (by omega) (by omega), ih]
    by_cases h : ¬ M (24 + r) n ≤ 0 ∧ ¬ M 15 n = 0
    · rw [if_pos h, if_pos h, hA n (by omega) h.2, hr]
    · rw [if_neg h, if_neg h]
theorem st_e {M N : hM} {A B V W : Nat → Int32} {r h : Nat} (hr5 : r < 5) (hh : h < 96) (hM : plE0 N M) (hop : ∀ a, opP N r h a ↔ opP M r h a) (hA : ∀ q, q < 5 → ¬ M 15 q = 0 → A q = B q) (hr : A r = B r) (hw : V r = W r) : stA N A V r h = stA M B W r h ∧ stW N A V r h = stW M B W r h := by
  have hM0 := hM
  obtain ⟨p1, p2, p3, p4, p5⟩ := hM
  obtain ⟨q3, q4⟩ := p4 r hr5
  have e1 : cm1 N A V r h = cm1 M B W r h := by
    unfold cm1
    rw [q4 (h % 24) (Nat.mod_lt _ (by decide)), p3, hr, hw, drS_e hr5 hM0 hA hr 5 (by decide)]
  have e2 : cm2 N A V r h = cm2 M B W r h := by
    unfold cm2
    rw [e1, p1 14 (by decide) (by decide), p1 19 (by decide) (by decide)]
  have e3 : cm3 N A V r h = cm3 M B W r h := by
    unfold cm3
    have g1 : N 39 h = M 39 h := p5 h hh
    have g2 : N 14 17 = M 14 17 := by rw [p1 14 (by decide) (by decide)]
    by_cases h9 : opP M r h (B r)
    · rw [if_pos h9, if_pos (by rw [hr]; exact (hop _).mpr h9), e2, g1, g2, hr]
    · rw [if_neg h9, if_neg (fun z => h9 ((hop _).mp (by rw [hr] at z; exact z))), e2]
  refine ⟨by unfold stA; rw [e3, hr], ?_⟩
  unfold stW
  rw [hr, hw, p2, p5 h hh, q3]
theorem wk_e {M N : hM} (hM : plE0 N M) (hop : ∀ r h a, opP N r h a ↔ opP M r h a) : ∀ h, h ≤ 96 → ∀ r, r < 5 → ¬ M 15 r = 0 → wk N h r = wk M h r
  | 0, _, r, _, _ => by
    show (N 16 r, N 17 r) = (M 16 r, M 17 r)
    rw [hM.1 16 (by decide) (by decide), hM.1 17 (by decide) (by decide)]
  | h + 1, hh, r, hr, ht => by
    have ih := wk_e hM hop h (by omega)
    obtain ⟨e1, e2⟩ := st_e (h := h) (A := fun q => (wk N h q).1) (B := fun q => (wk M h q).1) (V := fun q => (wk N h q).2) (W := fun q => (wk M h q).2) hr (by omega) hM (fun a => hop r h a) (fun q hq hqt => by show (wk N h q).1 = _; rw [ih q hq hqt]) (by show (wk N h r).1 = _; rw [ih r hr ht]) (by show (wk N h r).2 = _; rw [ih r hr ht])
    show (stA N _ _ r h, stW N _ _ r h) = (stA M _ _ r h, stW M _ _ r h)
    rw [e1, e2]
/-- a week by glass doesn't ask the clock -/
theorem nAll_g {P : hM} {f : Nat → Int32} (h30 : P 30 = fun _ => nI 1) : nAll (setC P 31 f) = nAll P := by
  have hE : plE0 (setC P 31 f) P := ⟨fun a x y => setC_n (by omega), by rw [setC_n (by decide)], by rw [setC_n (by decide)], fun r hr => ⟨by rw [setC_n (by decide)], fun j _ => by rw [setC_n (by omega)]⟩, fun n _ => by rw [setC_n (by decide)]⟩
  have hop : ∀ r h a, opP (setC P 31 f) r h a ↔ opP P r h a := by
    intro r h a
    have e1 : ¬ (nI 1 : Int32) = nI 0 := by decide
    unfold opP wdP
    rw [setC_n (show (14 : Nat) ≠ 31 by decide), setC_n (show (30 : Nat) ≠ 31 by decide), setC_n (show (39 : Nat) ≠ 31 by decide), h30]
    constructor
    · rintro ⟨h1, h2⟩
      exact ⟨h1, h2.elim (fun z => absurd z.1 e1) Or.inr⟩
    · rintro ⟨h1, h2⟩
      exact ⟨h1, h2.elim (fun z => absurd z.1 e1) Or.inr⟩
  unfold nAll
  refine naS_cg 5 (fun r _ => by rw [setC_n (by decide)]) (fun r hr ht => ?_)
  unfold nT
  exact nS_cg 96 (fun k _ hk => by show (wk _ k r).1 = (wk _ k r).1; rw [wk_e hE hop k hk r hr ht])
theorem clk_fr {M N : hM} {k : Nat} (hf : frM M N) : clkP N k = clkP M k := by unfold clkP; rw [pO_fr hf]
theorem gls_fr {M N : hM} (hf : frM M N) : glsP N = glsP M := by unfold glsP; rw [pO_fr hf]
def nbI (M : hM) (k i : Nat) (M2 : hM) : Prop := (∀ a, a ≠ 108 → a ≠ 109 → M2 a = M a) ∧ ∀ r, r < i → M2 108 r = nI 0 ∧ M2 109 r = hHrs (k / 24) (k % 24)
theorem nbI_step {M M2 : hM} {k i : Nat} (h : nbI M k i M2) : nbI M k (i + 1) (mu (mu M2 108 i (nI 0)) 109 i (hHrs (k / 24) (k % 24))) := by
  obtain ⟨f1, f2⟩ := h
  refine ⟨fun a x y => by rw [mu_f y, mu_f x]; exact f1 a x y, fun r hr => ?_⟩
  by_cases e : r = i
  · subst e; exact ⟨by rw [mu_a (by decide), mu_s], mu_s⟩
  · obtain ⟨a1, a2⟩ := f2 r (by omega)
    exact ⟨by rw [mu_a (by decide), mu_k e]; exact a1, by rw [mu_k e, mu_a (by decide)]; exact a2⟩
theorem nbI_Z {M M2 : hM} {k : Nat} (h : nbI M k 5 M2) (hz : M 93 32 = nI 0) : mZ M M2 (clkP M k) := by
  obtain ⟨f1, f2⟩ := h
  refine ⟨fun a ha => f1 a (by omega) (by omega), fun j _ => by rw [f1 93 (by decide) (by decide)], by rw [f1 93 (by decide) (by decide)]; exact hz, fun r hr => ⟨?_, ?_⟩⟩
  · rw [(f2 r hr).1]; unfold clkP; rw [setC_n (by decide), setC_s]
  · rw [(f2 r hr).2]; unfold clkP; rw [setC_s]
theorem clk_o {M : hM} {k a : Nat} (h1 : a ≠ 30) (h2 : a ≠ 31) : clkP M k a = planOf M a := by unfold clkP; rw [setC_n h2, setC_n h1]
def ngI (M : hM) (i : Nat) (M2 : hM) : Prop := (∀ a, a ≠ 108 → M2 a = M a) ∧ ∀ r, r < i → M2 108 r = nI 1
theorem ngI_step {M M2 : hM} {i : Nat} (h : ngI M i M2) : ngI M (i + 1) (mu M2 108 i (nI 1)) := by
  obtain ⟨f1, f2⟩ := h
  refine ⟨fun a x => by rw [mu_f x]; exact f1 a x, fun r hr => ?_⟩
  by_cases e : r = i
  · subst e; exact mu_s
  · rw [mu_k e]; exact f2 r (by omega)
theorem ngI_Z {M M2 : hM} (h : ngI M 5 M2) (hz : M 93 32 = nI 0) : mZ M M2 (setC (glsP M) 31 (M 109)) := by
  obtain ⟨f1, f2⟩ := h
  refine ⟨fun a ha => f1 a (by omega), fun j _ => by rw [f1 93 (by decide)], by rw [f1 93 (by decide)]; exact hz, fun r hr => ⟨?_, ?_⟩⟩
  · rw [f2 r hr, setC_n (by decide)]; unfold glsP; rw [setC_s]
  · rw [f1 109 (by decide), setC_s]
theorem gls_o {M : hM} {f : Nat → Int32} {a : Nat} (h1 : a ≠ 30) (h2 : a ≠ 31) : setC (glsP M) 31 f a = planOf M a := by unfold glsP; rw [setC_n h2, setC_n h1]
theorem gls_n {M : hM} {f : Nat → Int32} : nAll (setC (glsP M) 31 f) = nAll (glsP M) := nAll_g (by unfold glsP; exact setC_s)
theorem bcS_l2 {f : Nat → Int32} (n : Nat) (h : 0 < n) : (bcS f n).1 < n := by
  obtain ⟨m, rfl⟩ : ∃ m, n = m + 1 := ⟨n - 1, by omega⟩
  have := bcS_lt (f := f) m
  omega
theorem bc_1 {f : Nat → Int32} {k : Nat} {u v x : Int32} (hk : k ≤ 1000) (h0 : k = 0 → u = -1) (h1 : 0 < k → u = nI (bcS f k).1 ∧ v = (bcS f k).2) (hx : x = f k) (h : u = -1 ∨ ¬ v ≤ x) : nI k = nI (bcS f (k + 1)).1 ∧ x = (bcS f (k + 1)).2 := by
  have q : k = 0 ∨ f k < (bcS f k).2 := by
    rcases Nat.eq_zero_or_pos k with z | z
    · exact Or.inl z
    · obtain ⟨e1, e2⟩ := h1 z
      rcases h with h | h
      · exfalso
        obtain ⟨n, rfl⟩ : ∃ n, k = n + 1 := ⟨k - 1, by omega⟩
        have := bcS_lt (f := f) n
        exact nI_m1 (by omega) (e1.symm.trans h)
      · right; rw [← e2, ← hx]; exact Int32.not_le.mp h
  rw [bcS, if_pos q]
  exact ⟨rfl, hx⟩
theorem bc_2 {f : Nat → Int32} {k : Nat} {u v x : Int32} (h0 : k = 0 → u = -1) (h1 : 0 < k → u = nI (bcS f k).1 ∧ v = (bcS f k).2) (hx : x = f k) (h : ¬ u = -1) (h2 : v ≤ x) : u = nI (bcS f (k + 1)).1 ∧ v = (bcS f (k + 1)).2 := by
  have hk : ¬ k = 0 := fun z => h (h0 z)
  obtain ⟨e1, e2⟩ := h1 (by omega)
  rw [bcS, if_neg]
  · exact ⟨e1, e2⟩
  · rintro (z | z)
    · exact hk z
    · rw [← hx, ← e2] at z; exact absurd z (Int32.not_lt.mpr h2)
theorem z_3 {z : Int32} (h : inP z (nI 0) (nI 3)) (h0 : ¬ z = nI 0) (h1 : ¬ z = nI 1) (h2 : ¬ z = nI 2) : z = nI 3 := by
  obtain ⟨k, hk, rfl⟩ := (in_nat (by decide)).mp h
  rcases (by omega : k = 0 ∨ k = 1 ∨ k = 2 ∨ k = 3) with rfl | rfl | rfl | rfl
  · exact absurd rfl h0
  · exact absurd rfl h1
  · exact absurd rfl h2
  · rfl
set_option maxRecDepth 100000 in
set_option maxHeartbeats 4000000 in
theorem t_X11_nightByClock (M : hM) (k : Nat) (hk : k < 576) (hH : mH M) (w : Nat) (hw : w ≤ 6) (ew : M 93 35 = nI w) (hz : M 93 32 = nI 0) : Ct 6 mX11_nightByClock [.ref 93, .int (nI (k / 24)), .int (nI (k % 24))] M (pX (fun y M2 => y = nAll (clkP M k) ∧ frM M M2 ∧ M2 93 32 = nI 0)) := by
  refine ct_of (lv := [some (.ref 93), some (.int (nI (k / 24))), some (.int (nI (k % 24))), none]) (by decide +kernel) (fun _ _ hq => hq) rfl (fun _ => Nat.le_of_ble_eq_true rfl) (fun X h hr => ?_)
  refine j_iconst h 1 rfl (nI 0) (by decide) dX11_nightByClock_0 ?_
  refine j_istore_n h 2 rfl rfl dX11_nightByClock_1 ?_
  have L1 : ∀ (m i : Nat) (M2 : hM), 5 - i < m → i ≤ 5 → nbI M k i M2 → J X 2 [some (.ref 93), some (.int (nI (k / 24))), some (.int (nI (k % 24))), some (.int (nI i))] [] M2 := by
    intro m
    induction m with
    | zero => intro i M2 h1; omega
    | succ m ih =>
      intro i M2 h1 h2 hI
      refine j_iload_n h 3 rfl rfl dX11_nightByClock_2 ?_
      refine j_iconst h 4 rfl (nI 5) (by decide) dX11_nightByClock_3 ?_
      refine j_icmp_geN h 31 7 (by omega) (by omega) dX11_nightByClock_4 (by decide) rfl (fun c_4 => ?_) (fun c_4 => ?_)
      · skip
        have hZ : mZ M M2 (clkP M k) := nbI_Z (by rw [show 5 = i by omega]; exact hI) hz
        refine j_aload_n h 32 rfl rfl dX11_nightByClock_31 ?_
        refine j_callVX h 35 rfl lkX11_256 sh_93 rfl rfl (t_X11_nightOfAll _ (clkP M k) w hw (mP_Z hH hw ew hZ (fun a x y => clk_o x y))) rfl rfl rfl dX11_nightByClock_32 (fun x9 M8 hM8 => ?_)
        exact j_ret h hr rfl dX11_nightByClock_35 ⟨_, rfl, hM8.1, frM_Z (mZ_W hZ hM8.2.1), (mZ_W hZ hM8.2.1).2.2.1⟩
      · skip
        refine j_aload_n h 8 rfl rfl dX11_nightByClock_7 ?_
        refine j_getR h 11 rfl glX11_81 sh_93 rfl dX11_nightByClock_8 ?_
        refine j_iload_n h 12 rfl rfl dX11_nightByClock_11 ?_
        refine j_iconst h 13 rfl (nI 0) (by decide) dX11_nightByClock_12 ?_
        refine j_iast h 14 rfl sh_108 _ rfl (by omega) rfl dX11_nightByClock_13 ?_
        refine j_aload_n h 15 rfl rfl dX11_nightByClock_14 ?_
        refine j_getR h 18 rfl glX11_84 sh_93 rfl dX11_nightByClock_15 ?_
        refine j_iload_n h 19 rfl rfl dX11_nightByClock_18 ?_
        refine j_iload_n h 20 rfl rfl dX11_nightByClock_19 ?_
        refine j_iload_n h 21 rfl rfl dX11_nightByClock_20 ?_
        refine j_callSI h 24 rfl lkX11_214 rfl (t_X11_hoursOf _ _ _ (by omega) (by omega)) rfl rfl rfl dX11_nightByClock_21 ?_
        refine j_iast h 25 rfl sh_109 _ rfl (by omega) rfl dX11_nightByClock_24 ?_
        refine j_iincN h 28 rfl rfl rfl dX11_nightByClock_25 ?_
        refine j_goto h 2 dX11_nightByClock_28 (by decide) ?_
        exact ih (i + 1) _ (by omega) (by omega) (nbI_step hI)
  exact L1 6 0 M (by omega) (by omega) ⟨fun _ _ _ => rfl, fun r hr => absurd hr (Nat.not_lt_zero r)⟩
set_option maxRecDepth 100000 in
set_option maxHeartbeats 4000000 in
theorem t_X11_nightByGlass (M : hM) (hH : mH M) (w : Nat) (hw : w ≤ 6) (ew : M 93 35 = nI w) (hz : M 93 32 = nI 0) : Ct 6 mX11_nightByGlass [.ref 93] M (pX (fun y M2 => y = nAll (glsP M) ∧ frM M M2)) := by
  refine ct_of (lv := [some (.ref 93), none]) (by decide +kernel) (fun _ _ hq => hq) rfl (fun _ => Nat.le_of_ble_eq_true rfl) (fun X h hr => ?_)
  refine j_iconst h 1 rfl (nI 0) (by decide) dX11_nightByGlass_0 ?_
  refine j_istore_n h 2 rfl rfl dX11_nightByGlass_1 ?_
  have L1 : ∀ (m i : Nat) (M2 : hM), 5 - i < m → i ≤ 5 → ngI M i M2 → J X 2 [some (.ref 93), some (.int (nI i))] [] M2 := by
    intro m
    induction m with
    | zero => intro i M2 h1; omega
    | succ m ih =>
      intro i M2 h1 h2 hI
      refine j_iload_n h 3 rfl rfl dX11_nightByGlass_2 ?_
      refine j_iconst h 4 rfl (nI 5) (by decide) dX11_nightByGlass_3 ?_
      refine j_icmp_geN h 20 7 (by omega) (by omega) dX11_nightByGlass_4 (by decide) rfl (fun c_4 => ?_) (fun c_4 => ?_)
      · skip
        have hZ : mZ M M2 (setC (glsP M) 31 (M 109)) := ngI_Z (by rw [show 5 = i by omega]; exact hI) hz
        refine j_aload_n h 21 rfl rfl dX11_nightByGlass_20 ?_
        refine j_callVX h 24 rfl lkX11_256 sh_93 rfl rfl (t_X11_nightOfAll _ (setC (glsP M) 31 (M 109)) w hw (mP_Z hH hw ew hZ (fun a x y => gls_o x y))) rfl rfl rfl dX11_nightByGlass_21 (fun x9 M8 hM8 => ?_)
        exact j_ret h hr rfl dX11_nightByGlass_24 ⟨_, rfl, hM8.1.trans gls_n, frM_Z (mZ_W hZ hM8.2.1)⟩
      · skip
        refine j_aload_n h 8 rfl rfl dX11_nightByGlass_7 ?_
        refine j_getR h 11 rfl glX11_81 sh_93 rfl dX11_nightByGlass_8 ?_
        refine j_iload_n h 12 rfl rfl dX11_nightByGlass_11 ?_
        refine j_iconst h 13 rfl (nI 1) (by decide) dX11_nightByGlass_12 ?_
        refine j_iast h 14 rfl sh_108 _ rfl (by omega) rfl dX11_nightByGlass_13 ?_
        refine j_iincN h 17 rfl rfl rfl dX11_nightByGlass_14 ?_
        refine j_goto h 2 dX11_nightByGlass_17 (by decide) ?_
        exact ih (i + 1) _ (by omega) (by omega) (ngI_step hI)
  exact L1 6 0 M (by omega) (by omega) ⟨fun _ _ => rfl, fun r hr => absurd hr (Nat.not_lt_zero r)⟩
set_option maxRecDepth 100000 in
set_option maxHeartbeats 4000000 in
theorem t_X11_clock (M : hM) (x : Int32) (hH : mH M) (w : Nat) (hw : w ≤ 6) (ew : M 93 35 = nI w) : Ct 7 mX11_clock [.ref 93, .int x] M (pX (fun y M2 => y = sClock M x ∧ frM M M2)) := by
  refine ct_of (lv := [some (.ref 93), some (.int x), none, none, none, none]) (by decide +kernel) (fun _ _ hq => hq) rfl (fun _ => Nat.le_of_ble_eq_true rfl) (fun X h hr => ?_)
  refine j_iload_n h 1 rfl rfl dX11_clock_0 ?_
  refine j_iconst h 2 rfl (nI 0) (by decide) dX11_clock_1 ?_
  refine j_iconst h 3 rfl (nI 3) (by decide) dX11_clock_2 ?_
  refine j_callSI h 6 rfl lkX11_120 rfl (t_X11_in _ _ _ _) rfl rfl rfl dX11_clock_3 ?_
  refine j_if_neB h 12 9 dX11_clock_6 (by decide) rfl (fun c_6 => ?_) (fun c_6 => ?_)
  · skip
    refine j_aload_n h 13 rfl rfl dX11_clock_12 ?_
    refine j_iconst h 14 rfl (nI 0) (by decide) dX11_clock_13 ?_
    refine j_putI h 17 rfl plX11_232 sh_93 rfl rfl rfl rfl dX11_clock_14 ?_
    refine j_iconst h 18 rfl (-1) (by decide) dX11_clock_17 ?_
    refine j_istore_n h 19 rfl rfl dX11_clock_18 ?_
    refine j_iconst h 20 rfl (nI 0) (by decide) dX11_clock_19 ?_
    refine j_istore_n h 21 rfl rfl dX11_clock_20 ?_
    refine j_iconst h 22 rfl (nI 0) (by decide) dX11_clock_21 ?_
    refine j_istore h 24 rfl rfl dX11_clock_22 ?_
    have L : ∀ (n k : Nat) (M2 : hM) (u v : Int32) (z : Option Value), 576 - k < n → k ≤ 576 → frM M M2 → M2 93 32 = nI 0 → (k = 0 → u = -1) → (0 < k → u = nI (bcS (fun k => nAll (clkP M k)) k).1 ∧ v = (bcS (fun k => nAll (clkP M k)) k).2) → J X 24 [some (.ref 93), some (.int x), some (.int u), some (.int v), some (.int (nI k)), z] [] M2 := by
      intro n
      induction n with
      | zero => intro k M2 u v z h1; omega
      | succ n ih =>
        intro k M2 u v z h1 h2 hf hz h0 hu
        refine j_iload h 26 rfl rfl dX11_clock_24 ?_
        refine j_sipush h 29 rfl (nI 576) (by decide) dX11_clock_26 ?_
        refine j_icmp_geN h 71 32 (by omega) (by omega) dX11_clock_29 (by decide) rfl (fun c_29 => ?_) (fun c_29 => ?_)
        · skip
          have hu9 := hu (by omega)
          rw [show k = 576 by omega] at hu9
          have hB := bcS_l2 (f := (fun k => nAll (clkP M k))) 576 (by decide)
          have hsw : sClock M x = ckV M x := by unfold sClock; rw [if_pos c_6]
          unfold ckV at hsw
          generalize bcS (fun k => nAll (clkP M k)) 576 = B at hu9 hsw hB
          obtain ⟨rfl, rfl⟩ := hu9
          refine j_iload_n h 72 rfl rfl dX11_clock_71 ?_
          refine j_if_ne h 82 75 dX11_clock_72 (by decide) rfl (fun c_72 => ?_) (fun c_72 => ?_)
          · skip
            refine j_iload_n h 83 rfl rfl dX11_clock_82 ?_
            refine j_iconst h 84 rfl (nI 1) (by decide) dX11_clock_83 ?_
            refine j_icmp_ne h 94 87 dX11_clock_84 (by decide) rfl (fun c_84 => ?_) (fun c_84 => ?_)
            · skip
              refine j_iload_n h 95 rfl rfl dX11_clock_94 ?_
              refine j_iconst h 96 rfl (nI 2) (by decide) dX11_clock_95 ?_
              refine j_icmp_ne h 103 99 dX11_clock_96 (by decide) rfl (fun c_96 => ?_) (fun c_96 => ?_)
              · skip
                refine j_iload_n h 104 rfl rfl dX11_clock_103 ?_
                refine j_aload_n h 105 rfl rfl dX11_clock_104 ?_
                refine j_callVX h 108 rfl lkX11_264 sh_93 rfl rfl (t_X11_nightByGlass _ (mH_fr hH hf) w hw ((hf.2 35 (by decide)).trans ew) hz) rfl rfl rfl dX11_clock_105 (fun x7 M7 hM7 => ?_)
                refine j_isub h 109 rfl dX11_clock_108 ?_
                refine j_ldcw h 112 rfl (nI 10000000) cnX11_260 dX11_clock_109 ?_
                refine j_iadd h 113 rfl dX11_clock_112 ?_
                exact j_ret h hr rfl dX11_clock_113 ⟨_, rfl, by
    rw [hsw]
    first
      | rw [if_pos (show x = nI 0 from c_72)]
      | rw [if_neg (show ¬ x = nI 0 from c_72), if_pos c_84]
      | rw [if_neg (show ¬ x = nI 0 from c_72), if_neg c_84, if_pos c_96]
      | (rw [if_neg (show ¬ x = nI 0 from c_72), if_neg c_84, if_neg c_96, hM7.1, gls_fr hf]; exact Int32.add_comm _ _), by first | exact hf | exact frM_t hf hM7.2⟩
              · skip
                refine j_iload_n h 100 rfl rfl dX11_clock_99 ?_
                refine j_goto h 113 dX11_clock_100 (by decide) ?_
                exact j_ret h hr rfl dX11_clock_113 ⟨_, rfl, by
    rw [hsw]
    first
      | rw [if_pos (show x = nI 0 from c_72)]
      | rw [if_neg (show ¬ x = nI 0 from c_72), if_pos c_84]
      | rw [if_neg (show ¬ x = nI 0 from c_72), if_neg c_84, if_pos c_96]
      | (rw [if_neg (show ¬ x = nI 0 from c_72), if_neg c_84, if_neg c_96, hM7.1, gls_fr hf]; exact Int32.add_comm _ _), by first | exact hf | exact frM_t hf hM7.2⟩
            · skip
              refine j_iload_n h 88 rfl rfl dX11_clock_87 ?_
              refine j_bipush h 90 rfl (nI 24) (by decide) dX11_clock_88 ?_
              refine j_iremN h 91 rfl (by omega) (by omega) (by omega) dX11_clock_90 ?_
              refine j_goto h 113 dX11_clock_91 (by decide) ?_
              exact j_ret h hr rfl dX11_clock_113 ⟨_, rfl, by
    rw [hsw]
    first
      | rw [if_pos (show x = nI 0 from c_72)]
      | rw [if_neg (show ¬ x = nI 0 from c_72), if_pos c_84]
      | rw [if_neg (show ¬ x = nI 0 from c_72), if_neg c_84, if_pos c_96]
      | (rw [if_neg (show ¬ x = nI 0 from c_72), if_neg c_84, if_neg c_96, hM7.1, gls_fr hf]; exact Int32.add_comm _ _), by first | exact hf | exact frM_t hf hM7.2⟩
          · skip
            refine j_iload_n h 76 rfl rfl dX11_clock_75 ?_
            refine j_bipush h 78 rfl (nI 24) (by decide) dX11_clock_76 ?_
            refine j_idivN h 79 rfl (by omega) (by omega) (by omega) dX11_clock_78 ?_
            refine j_goto h 113 dX11_clock_79 (by decide) ?_
            exact j_ret h hr rfl dX11_clock_113 ⟨_, rfl, by
    rw [hsw]
    first
      | rw [if_pos (show x = nI 0 from c_72)]
      | rw [if_neg (show ¬ x = nI 0 from c_72), if_pos c_84]
      | rw [if_neg (show ¬ x = nI 0 from c_72), if_neg c_84, if_pos c_96]
      | (rw [if_neg (show ¬ x = nI 0 from c_72), if_neg c_84, if_neg c_96, hM7.1, gls_fr hf]; exact Int32.add_comm _ _), by first | exact hf | exact frM_t hf hM7.2⟩
        · skip
          refine j_aload_n h 33 rfl rfl dX11_clock_32 ?_
          refine j_iload h 35 rfl rfl dX11_clock_33 ?_
          refine j_bipush h 37 rfl (nI 24) (by decide) dX11_clock_35 ?_
          refine j_idivN h 38 rfl (by omega) (by omega) (by omega) dX11_clock_37 ?_
          refine j_iload h 40 rfl rfl dX11_clock_38 ?_
          refine j_bipush h 42 rfl (nI 24) (by decide) dX11_clock_40 ?_
          refine j_iremN h 43 rfl (by omega) (by omega) (by omega) dX11_clock_42 ?_
          refine j_callVX h 46 rfl lkX11_261 sh_93 rfl rfl (t_X11_nightByClock _ _ (by omega) (mH_fr hH hf) w hw ((hf.2 35 (by decide)).trans ew) hz) rfl rfl rfl dX11_clock_43 (fun x9 M8 hM8 => ?_)
          have hx9 : x9 = (fun k => nAll (clkP M k)) k := by rw [hM8.1, clk_fr hf]
          refine j_istore h 48 rfl rfl dX11_clock_46 ?_
          refine j_iload_n h 49 rfl rfl dX11_clock_48 ?_
          refine j_iconst h 50 rfl (-1) (by decide) dX11_clock_49 ?_
          refine j_icmp_eq h 59 53 dX11_clock_50 (by decide) rfl (fun c_50 => ?_) (fun c_50 => ?_)
          · skip
            refine j_iload h 61 rfl rfl dX11_clock_59 ?_
            refine j_istore_n h 62 rfl rfl dX11_clock_61 ?_
            refine j_iload h 64 rfl rfl dX11_clock_62 ?_
            refine j_istore_n h 65 rfl rfl dX11_clock_64 ?_
            refine j_iincN h 68 rfl rfl rfl dX11_clock_65 ?_
            refine j_goto h 24 dX11_clock_68 (by decide) ?_
            first
              | exact ih (k + 1) _ _ _ _ (by omega) (by omega) (frM_t hf hM8.2.1) hM8.2.2 (fun q => absurd q (Nat.succ_ne_zero k)) (fun _ => bc_1 (by omega) h0 hu hx9 (Or.inl c_50))
              | exact ih (k + 1) _ _ _ _ (by omega) (by omega) (frM_t hf hM8.2.1) hM8.2.2 (fun q => absurd q (Nat.succ_ne_zero k)) (fun _ => bc_1 (by omega) h0 hu hx9 (Or.inr c_56))
              | exact ih (k + 1) _ _ _ _ (by omega) (by omega) (frM_t hf hM8.2.1) hM8.2.2 (fun q => absurd q (Nat.succ_ne_zero k)) (fun _ => bc_2 h0 hu hx9 c_50 c_56)
          · skip
            refine j_iload h 55 rfl rfl dX11_clock_53 ?_
            refine j_iload_n h 56 rfl rfl dX11_clock_55 ?_
            refine j_icmp_ge h 65 59 dX11_clock_56 (by decide) rfl (fun c_56 => ?_) (fun c_56 => ?_)
            · skip
              refine j_iincN h 68 rfl rfl rfl dX11_clock_65 ?_
              refine j_goto h 24 dX11_clock_68 (by decide) ?_
              first
                | exact ih (k + 1) _ _ _ _ (by omega) (by omega) (frM_t hf hM8.2.1) hM8.2.2 (fun q => absurd q (Nat.succ_ne_zero k)) (fun _ => bc_1 (by omega) h0 hu hx9 (Or.inl c_50))
                | exact ih (k + 1) _ _ _ _ (by omega) (by omega) (frM_t hf hM8.2.1) hM8.2.2 (fun q => absurd q (Nat.succ_ne_zero k)) (fun _ => bc_1 (by omega) h0 hu hx9 (Or.inr c_56))
                | exact ih (k + 1) _ _ _ _ (by omega) (by omega) (frM_t hf hM8.2.1) hM8.2.2 (fun q => absurd q (Nat.succ_ne_zero k)) (fun _ => bc_2 h0 hu hx9 c_50 c_56)
            · skip
              refine j_iload h 61 rfl rfl dX11_clock_59 ?_
              refine j_istore_n h 62 rfl rfl dX11_clock_61 ?_
              refine j_iload h 64 rfl rfl dX11_clock_62 ?_
              refine j_istore_n h 65 rfl rfl dX11_clock_64 ?_
              refine j_iincN h 68 rfl rfl rfl dX11_clock_65 ?_
              refine j_goto h 24 dX11_clock_68 (by decide) ?_
              first
                | exact ih (k + 1) _ _ _ _ (by omega) (by omega) (frM_t hf hM8.2.1) hM8.2.2 (fun q => absurd q (Nat.succ_ne_zero k)) (fun _ => bc_1 (by omega) h0 hu hx9 (Or.inl c_50))
                | exact ih (k + 1) _ _ _ _ (by omega) (by omega) (frM_t hf hM8.2.1) hM8.2.2 (fun q => absurd q (Nat.succ_ne_zero k)) (fun _ => bc_1 (by omega) h0 hu hx9 (Or.inr c_56))
                | exact ih (k + 1) _ _ _ _ (by omega) (by omega) (frM_t hf hM8.2.1) hM8.2.2 (fun q => absurd q (Nat.succ_ne_zero k)) (fun _ => bc_2 h0 hu hx9 c_50 c_56)
    exact L 577 0 _ _ _ _ (by omega) (by omega) ⟨fun a ha => mu_f (by omega), fun j hj => mu_k hj⟩ mu_s (fun _ => rfl) (fun q => absurd q (Nat.lt_irrefl 0))
  · skip
    refine j_bipush h 11 rfl (-3) (by decide) dX11_clock_9 ?_
    exact j_ret h hr rfl dX11_clock_11 ⟨_, rfl, by unfold sClock; rw [if_neg c_6], frM_r⟩
set_option maxRecDepth 100000 in
set_option maxHeartbeats 4000000 in
theorem t_X11_costOf (M : hM) (s : Int32) (w : Nat) (hw : w ≤ 6) (ew : M 93 35 = nI w) : Ct 2 mX11_costOf [.ref 93, .int s] M (pI (csS s (M 111) w) M) := by
  refine ct_of (lv := [some (.ref 93), some (.int s), none, none]) (by decide +kernel) (fun _ _ hq => hq) rfl (fun _ => Nat.le_of_ble_eq_true rfl) (fun X h hr => ?_)
  refine j_iconst h 1 rfl (nI 0) (by decide) dX11_costOf_0 ?_
  refine j_istore_n h 2 rfl rfl dX11_costOf_1 ?_
  refine j_iconst h 3 rfl (nI 0) (by decide) dX11_costOf_2 ?_
  refine j_istore_n h 4 rfl rfl dX11_costOf_3 ?_
  have L : ∀ (n i : Nat) (x : Int32), w - i < n → i ≤ w → x = csS s (M 111) i → J X 4 [some (.ref 93), some (.int s), some (.int x), some (.int (nI i))] [] M := by
    intro n
    induction n with
    | zero => intro i x h1; omega
    | succ n ih =>
      intro i x h1 h2 hx
      subst hx
      refine j_iload_n h 5 rfl rfl dX11_costOf_4 ?_
      refine j_aload_n h 6 rfl rfl dX11_costOf_5 ?_
      refine j_getI h 9 rfl glX11_229 sh_93 rfl dX11_costOf_6 ?_
      refine j_top ew ?_
      refine j_icmp_geN h 39 12 (by omega) (by omega) dX11_costOf_9 (by decide) rfl (fun c_9 => ?_) (fun c_9 => ?_)
      · skip
        refine j_iload_n h 40 rfl rfl dX11_costOf_39 ?_
        exact j_ret h hr rfl dX11_costOf_40 ⟨congrArg (fun z => some (Value.int z)) (by rw [show i = w by omega]), rfl⟩
      · skip
        have K31 : ∀ y, csS s (M 111) i + y = csS s (M 111) (i + 1) → J X 31 [some (.ref 93), some (.int s), some (.int (csS s (M 111) i)), some (.int (nI i))] [.int y, .int (csS s (M 111) i)] M := by
          intro y hy
          refine j_iadd h 32 rfl dX11_costOf_31 ?_
          refine j_istore_n h 33 rfl rfl dX11_costOf_32 ?_
          refine j_iincN h 36 rfl rfl rfl dX11_costOf_33 ?_
          refine j_goto h 4 dX11_costOf_36 (by decide) ?_
          exact ih (i + 1) _ (by omega) (by omega) hy
        refine j_iload_n h 13 rfl rfl dX11_costOf_12 ?_
        refine j_iload_n h 14 rfl rfl dX11_costOf_13 ?_
        refine j_iload_n h 15 rfl rfl dX11_costOf_14 ?_
        refine j_callSI h 18 rfl lkX11_127 rfl (t_X11_has _ _ _) rfl rfl rfl dX11_costOf_15 ?_
        refine j_if_eqB h 30 21 dX11_costOf_18 (by decide) rfl (fun c_18 => ?_) (fun c_18 => ?_)
        · skip
          refine j_iconst h 31 rfl (nI 0) (by decide) dX11_costOf_30 ?_
          exact K31 _ (by first | exact csS_t c_18 | (rw [nI_0, Int32.add_zero]; exact csS_f c_18))
        · skip
          refine j_aload_n h 22 rfl rfl dX11_costOf_21 ?_
          refine j_getR h 25 rfl glX11_90 sh_93 rfl dX11_costOf_22 ?_
          refine j_iload_n h 26 rfl rfl dX11_costOf_25 ?_
          refine j_iald h 27 rfl sh_111 _ rfl (by omega) rfl dX11_costOf_26 ?_
          refine j_goto h 31 dX11_costOf_27 (by decide) ?_
          exact K31 _ (by first | exact csS_t c_18 | (rw [nI_0, Int32.add_zero]; exact csS_f c_18))
  exact L (w + 1) 0 _ (by omega) (by omega) rfl
/-- the model's works are the class's -/
def mW (M : hM) (w : Nat) : Prop := w ≤ 6 ∧ M 93 35 = nI w ∧ M 79 4 = nI w ∧ ∀ i, i < w → M 110 i = M 80 i ∧ M 111 i = M 81 i ∧ M 112 i = M 82 i ∧ M 113 i = M 83 i ∧ ∃ r, r < 5 ∧ M 80 i = nI r
theorem csS_cg {s : Int32} {c d : Nat → Int32} : ∀ w, (∀ i, i < w → c i = d i) → csS s c w = csS s d w
  | 0, _ => rfl
  | w + 1, h => by rw [csS, csS, csS_cg w (fun i hi => h i (by omega)), h w (by omega)]
theorem lkS_p {M : hM} {set : Int32} {r : Nat} (h : (0 : Int32) ≤ M 14 16) : ∀ k, (0 : Int32) ≤ lkS M set r k
  | 0 => h
  | k + 1 => by
    rw [lkS]
    by_cases q : bitP set (nI k) ∧ M 80 k = nI r
    · rw [if_pos q]
      unfold lkO
      by_cases q2 : nI 0 < lkS M set r k - M 83 k
      · rw [if_pos q2]; exact Int32.le_of_lt q2
      · rw [if_neg q2]; decide
    · rw [if_neg q]; exact lkS_p h k
theorem lk_ml {v l : Int32} : mlO (v - l) = lkO v l := by
  unfold mlO lkO
  by_cases h : nI 0 < v - l
  · rw [if_pos h, if_neg (show ¬ v - l < 0 from Int32.not_lt.mpr (Int32.le_of_lt h))]
  · rw [if_neg h]
    by_cases h2 : v - l < 0
    · rw [if_pos h2]
    · rw [if_neg h2]; exact Int32.le_antisymm (Int32.not_lt.mp h) (Int32.not_lt.mp h2)
theorem ms_w {M M2 : hM} {set : Int32} {w : Nat} (hH : mH M) (hW : mW M w) (hc : ∀ a, (94 ≤ a ∧ a < 99) ∨ (110 ≤ a ∧ a < 114) → M2 a = M a) (h9 : M2 93 9 = M 93 9) (hz : M2 93 32 = set) {r n : Nat} (hr : r < 5) : ∀ k, k ≤ w → msS M2 r n k = snS M set r n k
  | 0, _ => by
    rw [msS, snS, h9, hc 94 (by omega), hc 97 (by omega), hH.2.2.2.2.2.1.2.2.2.1, (hH.2.1 r hr).2.2.1, (hH.2.2.1 r hr).2.2]
  | k + 1, hk => by
    obtain ⟨a1, -, a3, -⟩ := hW.2.2.2 k (by omega)
    rw [msS, snS, hz, hc 110 (by omega), hc 112 (by omega), a1, a3, ms_w hH hW hc h9 hz hr k (by omega)]
theorem ml_w {M M2 : hM} {set : Int32} {w : Nat} (hH : mH M) (hW : mW M w) (hc : ∀ a, (94 ≤ a ∧ a < 99) ∨ (110 ≤ a ∧ a < 114) → M2 a = M a) (h12 : M2 93 12 = M 93 12) (hz : M2 93 32 = set) {r : Nat} : ∀ k, k ≤ w → mlS M2 r k = lkS M set r k
  | 0, _ => by rw [mlS, lkS, h12]; exact hH.2.2.2.2.2.1.2.2.2.2.2.2.1
  | k + 1, hk => by
    obtain ⟨a1, -, -, a4, -⟩ := hW.2.2.2 k (by omega)
    rw [mlS, lkS, hz, hc 110 (by omega), hc 113 (by omega), a1, a4, ml_w hH hW hc h12 hz k (by omega)]
    by_cases q : bitP set (nI k) ∧ M 80 k = nI r
    · rw [if_pos q, if_pos q]; exact lk_ml
    · rw [if_neg q, if_neg q]; exact mlO_p (lkS_p hH.2.2.2.2.2.2 k)
/-- habits as told, whatever works are on -/
def mY (M M2 : hM) : Prop := (∀ a, a < 93 ∨ (93 < a ∧ a < 101) ∨ 109 < a → M2 a = M a) ∧ (∀ j, j ≠ 32 → M2 93 j = M 93 j) ∧ ∀ r, r < 5 → M2 108 r = planOf M 30 r ∧ M2 109 r = planOf M 31 r
theorem mY_at {M M2 : hM} (hH : mH M) (h : atP M M2) : mY M M2 := ⟨(mZ_at hH h).1, (mZ_at hH h).2.1, (mZ_at hH h).2.2.2⟩
theorem mY_W {M M2 M3 : hM} (h : mY M M2) (h3 : frW M2 M3) : mY M M3 := by
  obtain ⟨f1, f2, f4⟩ := h
  exact ⟨fun a ha => (h3 a (by omega)).trans (f1 a ha), fun j hj => (congrFun (h3 93 (by omega)) j).trans (f2 j hj), fun r hr => ⟨(congrFun (h3 108 (by omega)) r).trans (f4 r hr).1, (congrFun (h3 109 (by omega)) r).trans (f4 r hr).2⟩⟩
theorem mY_s {M M2 : hM} {x : Int32} (h : mY M M2) : mY M (mu M2 93 32 x) := by
  obtain ⟨f1, f2, f4⟩ := h
  exact ⟨fun a ha => by rw [mu_f (by omega)]; exact f1 a ha, fun j hj => by rw [mu_k hj]; exact f2 j hj, fun r hr => by rw [mu_a (by decide), mu_a (by decide)]; exact f4 r hr⟩
theorem frM_Y {M M2 : hM} (h : mY M M2) : frM M M2 := ⟨fun a ha => h.1 a (by omega), h.2.1⟩
theorem wks_o {M : hM} {set : Int32} {w a : Nat} (h : a ≠ 32) (h2 : a < 34 ∨ 38 < a) : wksP M set w a = planOf M a := by
  funext j
  unfold wksP
  rw [if_neg h, if_neg (by omega)]
theorem mP_w {M M2 : hM} {w : Nat} {set : Int32} (hH : mH M) (hW : mW M w) (h : mY M M2) (hz : M2 93 32 = set) : mP M2 w (wksP M set w) := by
  obtain ⟨f1, f2, f4⟩ := h
  have hcc : ∀ a, (94 ≤ a ∧ a < 99) ∨ (110 ≤ a ∧ a < 114) → M2 a = M a := fun a ha => f1 a (by omega)
  refine mP_of hH (fun a x y => (wks_o (by omega) (by omega)).trans (plO_h x y)) (fun a x y => f1 a (by omega)) (fun j _ _ _ => f2 j (by omega)) (fun r hr => ?_) (fun r hr => ?_) ?_ ?_ (fun r k hr hk => ?_) (fun r hr => ?_) (fun k => ?_) ((f2 35 (by decide)).trans hW.2.1)
  · rw [wks_o (by decide) (by decide)]; exact (f4 r hr).1
  · rw [wks_o (by decide) (by decide)]; exact (f4 r hr).2
  · rw [f2 11 (by decide), wks_o (by decide) (by decide)]; exact hH.2.2.2.2.2.1.2.2.2.2.2.1
  · rw [f2 10 (by decide), wks_o (by decide) (by decide)]; exact hH.2.2.2.2.2.1.2.2.2.2.1
  · rw [ms_w hH hW hcc (f2 9 (by decide)) hz hr w (Nat.le_refl w)]
    unfold wksP
    rw [if_neg (by omega), if_pos (by omega), show 34 + r - 34 = r by omega]
  · rw [ml_w hH hW hcc (f2 12 (by decide)) hz w (Nat.le_refl w)]
    unfold wksP
    rw [if_pos rfl]
  · rw [wks_o (by decide) (by decide)]; rfl
theorem wbS_lt {c f : Nat → Int32} {s : Int32} : ∀ n, (wbS c f s n).1 ≤ n
  | 0 => Nat.le_refl 0
  | n + 1 => by
    rw [wbS]
    by_cases h : c n ≤ s
    · rw [if_pos h]
      by_cases q : n = 0 ∨ f n < (wbS c f s n).2
      · rw [if_pos q]; exact Nat.le_succ n
      · rw [if_neg q]; exact Nat.le_succ_of_le (wbS_lt n)
    · rw [if_neg h]; exact Nat.le_succ_of_le (wbS_lt n)
theorem wb_0 {c f : Nat → Int32} {s : Int32} {k : Nat} {u v : Int32} (h1 : 0 < k → u = nI (wbS c f s k).1 ∧ v = (wbS c f s k).2) (hc : ¬ c k ≤ s) (h0 : c 0 ≤ s) : u = nI (wbS c f s (k + 1)).1 ∧ v = (wbS c f s (k + 1)).2 := by
  rw [wbS, if_neg hc]
  refine h1 (Nat.pos_of_ne_zero (fun z => ?_))
  subst z
  exact hc h0
theorem wb_1 {c f : Nat → Int32} {s : Int32} {k : Nat} {u v x : Int32} (hk : k ≤ 1000) (h0 : k = 0 → u = -1) (h1 : 0 < k → u = nI (wbS c f s k).1 ∧ v = (wbS c f s k).2) (hc : c k ≤ s) (hx : x = f k) (h : u = -1 ∨ ¬ v ≤ x) : nI k = nI (wbS c f s (k + 1)).1 ∧ x = (wbS c f s (k + 1)).2 := by
  have q : k = 0 ∨ f k < (wbS c f s k).2 := by
    rcases Nat.eq_zero_or_pos k with z | z
    · exact Or.inl z
    · obtain ⟨e1, e2⟩ := h1 z
      rcases h with h | h
      · exfalso
        have := wbS_lt (c := c) (f := f) (s := s) k
        exact nI_m1 (by omega) (e1.symm.trans h)
      · right; rw [← e2, ← hx]; exact Int32.not_le.mp h
  rw [wbS, if_pos hc, if_pos q]
  exact ⟨rfl, hx⟩
theorem wb_2 {c f : Nat → Int32} {s : Int32} {k : Nat} {u v x : Int32} (h0 : k = 0 → u = -1) (h1 : 0 < k → u = nI (wbS c f s k).1 ∧ v = (wbS c f s k).2) (hc : c k ≤ s) (hx : x = f k) (h : ¬ u = -1) (h2 : v ≤ x) : u = nI (wbS c f s (k + 1)).1 ∧ v = (wbS c f s (k + 1)).2 := by
  have hk : ¬ k = 0 := fun z => h (h0 z)
  obtain ⟨e1, e2⟩ := h1 (by omega)
  rw [wbS, if_pos hc, if_neg]
  · exact ⟨e1, e2⟩
  · rintro (z | z)
    · exact hk z
    · rw [← hx, ← e2] at z; exact absurd z (Int32.not_lt.mpr h2)
set_option maxRecDepth 100000 in
set_option maxHeartbeats 4000000 in
theorem t_X11_works (M : hM) (sum x : Int32) (hH : mH M) (w : Nat) (hW : mW M w) : Ct 6 mX11_works [.ref 93, .int sum, .int x] M (pX (fun y M2 => y = sWorks M w sum x ∧ frM M M2)) := by
  refine ct_of (lv := [some (.ref 93), some (.int sum), some (.int x), none, none, none, none]) (by decide +kernel) (fun _ _ hq => hq) rfl (fun _ => Nat.le_of_ble_eq_true rfl) (fun X h hr => ?_)
  obtain ⟨W, hW1, hW2, hW3, hW4⟩ := pow_W hW.1
  refine j_iload_n h 1 rfl rfl dX11_works_0 ?_
  refine j_iconst h 2 rfl (nI 0) (by decide) dX11_works_1 ?_
  refine j_sipush h 5 rfl (nI 9999) (by decide) dX11_works_2 ?_
  refine j_callSI h 8 rfl lkX11_120 rfl (t_X11_in _ _ _ _) rfl rfl rfl dX11_works_5 ?_
  refine j_if_eqB h 20 11 dX11_works_8 (by decide) rfl (fun c_8 => ?_) (fun c_8 => ?_)
  · skip
    refine j_bipush h 22 rfl (-3) (by decide) dX11_works_20 ?_
    exact j_ret h hr rfl dX11_works_22 ⟨_, rfl, by unfold sWorks; first | rw [if_neg (fun q => c_8 q.1)]; done | rw [if_neg (fun q => c_17 q.2)]; done, frM_r⟩
  · skip
    refine j_iload_n h 12 rfl rfl dX11_works_11 ?_
    refine j_iconst h 13 rfl (nI 0) (by decide) dX11_works_12 ?_
    refine j_iconst h 14 rfl (nI 1) (by decide) dX11_works_13 ?_
    refine j_callSI h 17 rfl lkX11_120 rfl (t_X11_in _ _ _ _) rfl rfl rfl dX11_works_14 ?_
    refine j_if_neB h 23 20 dX11_works_17 (by decide) rfl (fun c_17 => ?_) (fun c_17 => ?_)
    · skip
      have hc0 : wkC M w 0 ≤ sum := by unfold wkC; rw [csS_0 w hW.1]; exact c_8.1
      have hsw : sWorks M w sum x = (if x = 0 then nI (wbS (wkC M w) (wkF M w) sum (2 ^ w)).1 else (wbS (wkC M w) (wkF M w) sum (2 ^ w)).2) := by unfold sWorks; rw [if_pos ⟨c_8, c_17⟩]
      refine j_aload_n h 24 rfl rfl dX11_works_23 ?_
      refine j_callVV h 27 rfl lkX11_253 sh_93 rfl rfl (t_X11_asTold _) rfl rfl rfl dX11_works_24 (fun M9 hM9 => ?_)
      refine j_iconst h 28 rfl (-1) (by decide) dX11_works_27 ?_
      refine j_istore_n h 29 rfl rfl dX11_works_28 ?_
      refine j_iconst h 30 rfl (nI 0) (by decide) dX11_works_29 ?_
      refine j_istore h 32 rfl rfl dX11_works_30 ?_
      refine j_iconst h 33 rfl (nI 0) (by decide) dX11_works_32 ?_
      refine j_istore h 35 rfl rfl dX11_works_33 ?_
      have L : ∀ (n k : Nat) (M2 : hM) (u v : Int32) (z : Option Value), W - k < n → k ≤ W → mY M M2 → (k = 0 → u = -1) → (0 < k → u = nI (wbS (wkC M w) (wkF M w) sum k).1 ∧ v = (wbS (wkC M w) (wkF M w) sum k).2) → J X 35 [some (.ref 93), some (.int sum), some (.int x), some (.int u), some (.int v), some (.int (nI k)), z] [] M2 := by
        intro n
        induction n with
        | zero => intro k M2 u v z h1; omega
        | succ n ih =>
          intro k M2 u v z h1 h2 hY h0 hu
          have ew2 : M2 93 35 = nI w := (hY.2.1 35 (by decide)).trans hW.2.1
          have ec : csS (nI k) (M2 111) w = wkC M w k := csS_cg w (fun i hi => (congrFun (hY.1 111 (by omega)) i).trans (hW.2.2.2 i hi).2.1)
          refine j_iload h 37 rfl rfl dX11_works_35 ?_
          refine j_iconst h 38 rfl (nI 1) (by decide) dX11_works_37 ?_
          refine j_aload_n h 39 rfl rfl dX11_works_38 ?_
          refine j_getI h 42 rfl glX11_229 sh_93 rfl dX11_works_39 ?_
          refine j_top ew2 ?_
          refine j_ishl h 43 rfl dX11_works_42 ?_
          refine j_top hW3 ?_
          refine j_icmp_geN h 93 46 (by omega) (by omega) dX11_works_43 (by decide) rfl (fun c_43 => ?_) (fun c_43 => ?_)
          · skip
            obtain rfl : k = W := by omega
            rw [← hW4] at hsw
            obtain ⟨rfl, rfl⟩ := hu (by omega)
            refine j_aload_n h 94 rfl rfl dX11_works_93 ?_
            refine j_iconst h 95 rfl (nI 0) (by decide) dX11_works_94 ?_
            refine j_putI h 98 rfl plX11_232 sh_93 rfl rfl rfl rfl dX11_works_95 ?_
            refine j_iload_n h 99 rfl rfl dX11_works_98 ?_
            refine j_if_ne h 106 102 dX11_works_99 (by decide) rfl (fun c_99 => ?_) (fun c_99 => ?_)
            · skip
              refine j_iload h 108 rfl rfl dX11_works_106 ?_
              exact j_ret h hr rfl dX11_works_108 ⟨_, rfl, by rw [hsw]; first | rw [if_pos c_99] | rw [if_neg c_99], frM_Y (mY_s hY)⟩
            · skip
              refine j_iload_n h 103 rfl rfl dX11_works_102 ?_
              refine j_goto h 108 dX11_works_103 (by decide) ?_
              exact j_ret h hr rfl dX11_works_108 ⟨_, rfl, by rw [hsw]; first | rw [if_pos c_99] | rw [if_neg c_99], frM_Y (mY_s hY)⟩
          · skip
            refine j_aload_n h 47 rfl rfl dX11_works_46 ?_
            refine j_iload h 49 rfl rfl dX11_works_47 ?_
            refine j_callVI h 52 rfl lkX11_267 sh_93 rfl rfl (t_X11_costOf _ _ w hW.1 ew2) rfl rfl rfl dX11_works_49 ?_
            refine j_top ec ?_
            refine j_iload_n h 53 rfl rfl dX11_works_52 ?_
            refine j_icmp_gt h 87 56 dX11_works_53 (by decide) rfl (fun c_53 => ?_) (fun c_53 => ?_)
            · have c_53 := Int32.not_le.mpr c_53
              refine j_iincN h 90 rfl rfl rfl dX11_works_87 ?_
              refine j_goto h 35 dX11_works_90 (by decide) ?_
              first
                | exact ih (k + 1) _ _ _ _ (by omega) (by omega) hY (fun q => absurd q (Nat.succ_ne_zero k)) (fun _ => wb_0 hu c_53 hc0)
                | exact ih (k + 1) _ _ _ _ (by omega) (by omega) hY8 (fun q => absurd q (Nat.succ_ne_zero k)) (fun _ => wb_1 (by omega) h0 hu c_53 hM8.1 (Or.inl c_70))
                | exact ih (k + 1) _ _ _ _ (by omega) (by omega) hY8 (fun q => absurd q (Nat.succ_ne_zero k)) (fun _ => wb_1 (by omega) h0 hu c_53 hM8.1 (Or.inr c_77))
                | exact ih (k + 1) _ _ _ _ (by omega) (by omega) hY8 (fun q => absurd q (Nat.succ_ne_zero k)) (fun _ => wb_2 h0 hu c_53 hM8.1 c_70 c_77)
            · have c_53 := Int32.not_lt.mp c_53
              refine j_aload_n h 57 rfl rfl dX11_works_56 ?_
              refine j_iload h 59 rfl rfl dX11_works_57 ?_
              refine j_putI h 62 rfl plX11_232 sh_93 rfl rfl rfl rfl dX11_works_59 ?_
              have hP9 : mP (mu M2 93 32 (nI k)) w (wksP M (nI k) w) := mP_w hH hW (mY_s hY) mu_s
              refine j_aload_n h 63 rfl rfl dX11_works_62 ?_
              refine j_callVX h 66 rfl lkX11_256 sh_93 rfl rfl (t_X11_nightOfAll _ (wksP M (nI k) w) w hW.1 hP9) rfl rfl rfl dX11_works_63 (fun x9 M8 hM8 => ?_)
              have hY8 : mY M M8 := mY_W (mY_s hY) hM8.2.1
              refine j_istore h 68 rfl rfl dX11_works_66 ?_
              refine j_iload_n h 69 rfl rfl dX11_works_68 ?_
              refine j_iconst h 70 rfl (-1) (by decide) dX11_works_69 ?_
              refine j_icmp_eq h 80 73 dX11_works_70 (by decide) rfl (fun c_70 => ?_) (fun c_70 => ?_)
              · skip
                refine j_iload h 82 rfl rfl dX11_works_80 ?_
                refine j_istore_n h 83 rfl rfl dX11_works_82 ?_
                refine j_iload h 85 rfl rfl dX11_works_83 ?_
                refine j_istore h 87 rfl rfl dX11_works_85 ?_
                refine j_iincN h 90 rfl rfl rfl dX11_works_87 ?_
                refine j_goto h 35 dX11_works_90 (by decide) ?_
                first
                  | exact ih (k + 1) _ _ _ _ (by omega) (by omega) hY (fun q => absurd q (Nat.succ_ne_zero k)) (fun _ => wb_0 hu c_53 hc0)
                  | exact ih (k + 1) _ _ _ _ (by omega) (by omega) hY8 (fun q => absurd q (Nat.succ_ne_zero k)) (fun _ => wb_1 (by omega) h0 hu c_53 hM8.1 (Or.inl c_70))
                  | exact ih (k + 1) _ _ _ _ (by omega) (by omega) hY8 (fun q => absurd q (Nat.succ_ne_zero k)) (fun _ => wb_1 (by omega) h0 hu c_53 hM8.1 (Or.inr c_77))
                  | exact ih (k + 1) _ _ _ _ (by omega) (by omega) hY8 (fun q => absurd q (Nat.succ_ne_zero k)) (fun _ => wb_2 h0 hu c_53 hM8.1 c_70 c_77)
              · skip
                refine j_iload h 75 rfl rfl dX11_works_73 ?_
                refine j_iload h 77 rfl rfl dX11_works_75 ?_
                refine j_icmp_ge h 87 80 dX11_works_77 (by decide) rfl (fun c_77 => ?_) (fun c_77 => ?_)
                · skip
                  refine j_iincN h 90 rfl rfl rfl dX11_works_87 ?_
                  refine j_goto h 35 dX11_works_90 (by decide) ?_
                  first
                    | exact ih (k + 1) _ _ _ _ (by omega) (by omega) hY (fun q => absurd q (Nat.succ_ne_zero k)) (fun _ => wb_0 hu c_53 hc0)
                    | exact ih (k + 1) _ _ _ _ (by omega) (by omega) hY8 (fun q => absurd q (Nat.succ_ne_zero k)) (fun _ => wb_1 (by omega) h0 hu c_53 hM8.1 (Or.inl c_70))
                    | exact ih (k + 1) _ _ _ _ (by omega) (by omega) hY8 (fun q => absurd q (Nat.succ_ne_zero k)) (fun _ => wb_1 (by omega) h0 hu c_53 hM8.1 (Or.inr c_77))
                    | exact ih (k + 1) _ _ _ _ (by omega) (by omega) hY8 (fun q => absurd q (Nat.succ_ne_zero k)) (fun _ => wb_2 h0 hu c_53 hM8.1 c_70 c_77)
                · skip
                  refine j_iload h 82 rfl rfl dX11_works_80 ?_
                  refine j_istore_n h 83 rfl rfl dX11_works_82 ?_
                  refine j_iload h 85 rfl rfl dX11_works_83 ?_
                  refine j_istore h 87 rfl rfl dX11_works_85 ?_
                  refine j_iincN h 90 rfl rfl rfl dX11_works_87 ?_
                  refine j_goto h 35 dX11_works_90 (by decide) ?_
                  first
                    | exact ih (k + 1) _ _ _ _ (by omega) (by omega) hY (fun q => absurd q (Nat.succ_ne_zero k)) (fun _ => wb_0 hu c_53 hc0)
                    | exact ih (k + 1) _ _ _ _ (by omega) (by omega) hY8 (fun q => absurd q (Nat.succ_ne_zero k)) (fun _ => wb_1 (by omega) h0 hu c_53 hM8.1 (Or.inl c_70))
                    | exact ih (k + 1) _ _ _ _ (by omega) (by omega) hY8 (fun q => absurd q (Nat.succ_ne_zero k)) (fun _ => wb_1 (by omega) h0 hu c_53 hM8.1 (Or.inr c_77))
                    | exact ih (k + 1) _ _ _ _ (by omega) (by omega) hY8 (fun q => absurd q (Nat.succ_ne_zero k)) (fun _ => wb_2 h0 hu c_53 hM8.1 c_70 c_77)
      exact L (W + 1) 0 _ _ _ _ (by omega) (by omega) (mY_at hH hM9) (fun _ => rfl) (fun q => absurd q (Nat.lt_irrefl 0))
    · skip
      refine j_bipush h 22 rfl (-3) (by decide) dX11_works_20 ?_
      exact j_ret h hr rfl dX11_works_22 ⟨_, rfl, by unfold sWorks; first | rw [if_neg (fun q => c_8 q.1)]; done | rw [if_neg (fun q => c_17 q.2)]; done, frM_r⟩
