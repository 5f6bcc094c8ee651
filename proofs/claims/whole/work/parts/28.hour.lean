/-! the model: an hour and a week -/
def mHm (P : hM) (r n : Nat) : Int32 := if bitP (P 14 9) (nI (n % 24)) then nI 2 * P 19 r else nI 0
def mV0 (P : hM) (A W : Nat → Int32) (r n : Nat) : Int32 := P (34 + r) (n % 24) + mHm P r n + (W r - A r) * P 29 6 / nI 100
def mWn (P : hM) (A : Nat → Int32) (r n : Nat) : Int32 := if opP P r n (A r) then (P 39 n - A r) * P 14 17 / nI 100 else nI 0
theorem mv_A {P : hM} {A W : Nat → Int32} {r n : Nat} : A r + (mV0 P A W r n + drS P A r 5 + mWn P A r n) = stA P A W r n := by
  unfold stA
  congr 1
  have e2 : mV0 P A W r n + drS P A r 5 = cm2 P A W r n := by
    unfold mV0 mHm cm2 cm1
    by_cases h : bitP (P 14 9) (nI (n % 24))
    · rw [if_pos h, if_pos h]
      ac_rfl
    · rw [if_neg h, if_neg h, nI_0, Int32.add_zero]
  unfold mWn cm3
  by_cases h : opP P r n (A r)
  · rw [if_pos h, if_pos h, e2]
  · rw [if_neg h, if_neg h, nI_0, Int32.add_zero, e2]
theorem md_0 {P : hM} {A : Nat → Int32} {r q : Nat} {v : Int32} (h : P (24 + r) q ≤ 0 ∨ P 15 q = 0) : v + drS P A r q + nI 0 = v + drS P A r (q + 1) := by rw [← drS_f h, nI_0, Int32.add_zero]
theorem md_t {P : hM} {A : Nat → Int32} {r q : Nat} {v : Int32} (h0 : 0 ≤ P (24 + r) q) (ht : ¬ P 15 q = 0) : v + drS P A r q + (A q - A r) * P (24 + r) q / nI 100 = v + drS P A r (q + 1) := by
  by_cases h : P (24 + r) q ≤ 0
  · have e : P (24 + r) q = 0 := Int32.le_antisymm h h0
    rw [← drS_f (Or.inl h), e, Int32.mul_zero, show (0 : Int32) / nI 100 = 0 by decide, Int32.add_zero]
  · rw [← drS_t h ht, Int32.add_assoc]
def ghI (M P : hM) (n i : Nat) (M3 : hM) : Prop := frW M M3 ∧ M3 104 = M 104 ∧ M3 105 = M 105 ∧ M3 101 = M 101 ∧ M3 102 = M 102 ∧ (∀ r, r < i → ¬ P 15 r = 0 → M3 106 r = stA P (M 104) (M 105) r n ∧ M3 107 r = stW P (M 104) (M 105) r n ∧ M3 103 (96 * r + n) = hb (opP P r n (M 104 r))) ∧ ∀ r k, r < 5 → k < 96 → k ≠ n → M3 103 (96 * r + k) = M 103 (96 * r + k)
theorem ghI_0 {M P : hM} {n : Nat} : ghI M P n 0 M := ⟨fun _ _ => rfl, rfl, rfl, rfl, rfl, fun r hr => absurd hr (Nat.not_lt_zero r), fun _ _ _ _ _ => rfl⟩
theorem ghI_skip {M P M3 : hM} {n i : Nat} (h : ghI M P n i M3) (ht : P 15 i = 0) : ghI M P n (i + 1) M3 := by
  obtain ⟨f1, f2, f3, f4, f5, f6, f7⟩ := h
  refine ⟨f1, f2, f3, f4, f5, fun r hr h9 => f6 r ?_ h9, f7⟩
  have : r ≠ i := fun e => h9 (by rw [e]; exact ht)
  omega
theorem ghI_step {M P M3 : hM} {n i : Nat} (hi : i < 5) (hn : n < 96) (h : ghI M P n i M3) : ghI M P n (i + 1) (mu (mu (mu M3 106 i (stA P (M 104) (M 105) i n)) 107 i (stW P (M 104) (M 105) i n)) 103 (96 * i + n) (hb (opP P i n (M 104 i)))) := by
  obtain ⟨f1, f2, f3, f4, f5, f6, f7⟩ := h
  refine ⟨fun a ha => by rw [mu_f (by omega), mu_f (by omega), mu_f (by omega)]; exact f1 a ha, by rw [mu_f (by decide), mu_f (by decide), mu_f (by decide)]; exact f2, by rw [mu_f (by decide), mu_f (by decide), mu_f (by decide)]; exact f3, by rw [mu_f (by decide), mu_f (by decide), mu_f (by decide)]; exact f4, by rw [mu_f (by decide), mu_f (by decide), mu_f (by decide)]; exact f5, fun r hr ht => ?_, fun r k hr hk hkn => ?_⟩
  · by_cases e : r = i
    · subst e
      exact ⟨by rw [mu_a (by decide), mu_a (by decide), mu_s], by rw [mu_a (by decide), mu_s], mu_s⟩
    · obtain ⟨a1, a2, a3⟩ := f6 r (by omega) ht
      exact ⟨by rw [mu_a (by decide), mu_a (by decide), mu_k e]; exact a1, by rw [mu_a (by decide), mu_k e, mu_a (by decide)]; exact a2, by rw [mu_k (by omega), mu_a (by decide), mu_a (by decide)]; exact a3⟩
  · rw [mu_k (by omega), mu_a (by decide), mu_a (by decide)]; exact f7 r k hr hk hkn
def ghJ (M P : hM) (n j : Nat) (M4 : hM) : Prop := frW M M4 ∧ (∀ r, r < 5 → ¬ P 15 r = 0 → M4 106 r = stA P (M 104) (M 105) r n ∧ M4 107 r = stW P (M 104) (M 105) r n ∧ M4 103 (96 * r + n) = hb (opP P r n (M 104 r))) ∧ (∀ r k, r < 5 → k < 96 → k ≠ n → M4 101 (96 * r + k) = M 101 (96 * r + k) ∧ M4 102 (96 * r + k) = M 102 (96 * r + k) ∧ M4 103 (96 * r + k) = M 103 (96 * r + k)) ∧ ∀ r, r < j → ¬ P 15 r = 0 → M4 104 r = stA P (M 104) (M 105) r n ∧ M4 105 r = stW P (M 104) (M 105) r n ∧ M4 101 (96 * r + n) = stA P (M 104) (M 105) r n ∧ M4 102 (96 * r + n) = stW P (M 104) (M 105) r n
theorem ghJ_0 {M P M3 : hM} {n : Nat} (h : ghI M P n 5 M3) : ghJ M P n 0 M3 := by
  obtain ⟨f1, f2, f3, f4, f5, f6, f7⟩ := h
  exact ⟨f1, f6, fun r k hr hk hkn => ⟨by rw [f4], by rw [f5], f7 r k hr hk hkn⟩, fun r hr => absurd hr (Nat.not_lt_zero r)⟩
theorem ghJ_step {M P M4 : hM} {n j : Nat} (hj : j < 5) (hn : n < 96) (h : ghJ M P n j M4) : ghJ M P n (j + 1) (mu (mu (mu (mu M4 104 j (M4 106 j)) 105 j (M4 107 j)) 101 (96 * j + n) (M4 106 j)) 102 (96 * j + n) (M4 107 j)) := by
  obtain ⟨f1, f2, f3, f4⟩ := h
  refine ⟨fun a ha => by rw [mu_f (by omega), mu_f (by omega), mu_f (by omega), mu_f (by omega)]; exact f1 a ha, fun r hr ht => ?_, fun r k hr hk hkn => ?_, fun r hr ht => ?_⟩
  · obtain ⟨a1, a2, a3⟩ := f2 r hr ht
    exact ⟨by rw [mu_a (by decide), mu_a (by decide), mu_a (by decide), mu_a (by decide)]; exact a1, by rw [mu_a (by decide), mu_a (by decide), mu_a (by decide), mu_a (by decide)]; exact a2, by rw [mu_a (by decide), mu_a (by decide), mu_a (by decide), mu_a (by decide)]; exact a3⟩
  · obtain ⟨a1, a2, a3⟩ := f3 r k hr hk hkn
    exact ⟨by rw [mu_a (by decide), mu_k (by omega), mu_a (by decide), mu_a (by decide)]; exact a1, by rw [mu_k (by omega), mu_a (by decide), mu_a (by decide), mu_a (by decide)]; exact a2, by rw [mu_a (by decide), mu_a (by decide), mu_a (by decide), mu_a (by decide)]; exact a3⟩
  · by_cases e : r = j
    · subst e
      obtain ⟨a1, a2, a3⟩ := f2 r hj ht
      exact ⟨by rw [mu_a (by decide), mu_a (by decide), mu_a (by decide), mu_s]; exact a1, by rw [mu_a (by decide), mu_a (by decide), mu_s]; exact a2, by rw [mu_a (by decide), mu_s]; exact a1, by rw [mu_s]; exact a2⟩
    · obtain ⟨a1, a2, a3, a4⟩ := f4 r (by omega) ht
      exact ⟨by rw [mu_a (by decide), mu_a (by decide), mu_a (by decide), mu_k e]; exact a1, by rw [mu_a (by decide), mu_a (by decide), mu_k e, mu_a (by decide)]; exact a2, by rw [mu_a (by decide), mu_k (by omega), mu_a (by decide), mu_a (by decide)]; exact a3, by rw [mu_k (by omega), mu_a (by decide), mu_a (by decide), mu_a (by decide)]; exact a4⟩
def mwI (M P : hM) (n : Nat) (M2 : hM) : Prop := frW M M2 ∧ ∀ r, r < 5 → ¬ P 15 r = 0 → M2 104 r = (wk P n r).1 ∧ M2 105 r = (wk P n r).2 ∧ ∀ k, k < n → M2 101 (96 * r + k) = (wk P (k + 1) r).1 ∧ M2 102 (96 * r + k) = (wk P (k + 1) r).2 ∧ M2 103 (96 * r + k) = hb (opP P r k (wk P k r).1)
theorem mwI_step {M P M2 M3 : hM} {n : Nat} (hn : n < 96) (h : mwI M P n M2) (h3 : ghJ M2 P n 5 M3) : mwI M P (n + 1) M3 := by
  obtain ⟨f1, f2⟩ := h
  obtain ⟨g1, g2, g3, g4⟩ := h3
  refine ⟨fun a ha => (g1 a ha).trans (f1 a ha), fun r hr ht => ?_⟩
  obtain ⟨a1, a2, a3⟩ := f2 r hr ht
  obtain ⟨b1, b2, b3, b4⟩ := g4 r hr ht
  obtain ⟨-, -, b5⟩ := g2 r hr ht
  obtain ⟨e1, e2⟩ := st_cg (M := P) (N := P) (h := n) (A := M2 104) (B := fun q => (wk P n q).1) (V := M2 105) (W := fun q => (wk P n q).2) hr (fun _ _ _ => rfl) (fun q hq hqt => (f2 q hq hqt).1) a1 a2
  refine ⟨b1.trans e1, b2.trans e2, fun k hk => ?_⟩
  by_cases ek : k = n
  · subst ek
    exact ⟨b3.trans e1, b4.trans e2, by rw [b5, a1]⟩
  · obtain ⟨c1, c2, c3⟩ := g3 r k hr (by omega) ek
    obtain ⟨d1, d2, d3⟩ := a3 k (by omega)
    exact ⟨c1.trans d1, c2.trans d2, c3.trans d3⟩
def mw0 (M : hM) (i : Nat) (M2 : hM) : Prop := frW M M2 ∧ ∀ r, r < i → M2 104 r = M 94 (4 * r) ∧ M2 105 r = M 94 (4 * r + 1)
theorem mw0_step {M M2 : hM} {i : Nat} (h : mw0 M i M2) : mw0 M (i + 1) (mu (mu (mu (mu M2 104 i (M 94 (4 * i))) 105 i (M 94 (4 * i + 1))) 106 i (nI 0)) 107 i (nI 0)) := by
  obtain ⟨f1, f2⟩ := h
  refine ⟨fun a ha => by rw [mu_f (by omega), mu_f (by omega), mu_f (by omega), mu_f (by omega)]; exact f1 a ha, fun r hr => ?_⟩
  by_cases e : r = i
  · subst e
    exact ⟨by rw [mu_a (by decide), mu_a (by decide), mu_a (by decide), mu_s], by rw [mu_a (by decide), mu_a (by decide), mu_s]⟩
  · obtain ⟨a1, a2⟩ := f2 r (by omega)
    exact ⟨by rw [mu_a (by decide), mu_a (by decide), mu_a (by decide), mu_k e]; exact a1, by rw [mu_a (by decide), mu_a (by decide), mu_k e, mu_a (by decide)]; exact a2⟩
theorem mw0_I {M P M2 : hM} {w : Nat} (hP : mP M w P) (h : mw0 M 5 M2) : mwI M P 0 M2 := by
  obtain ⟨f1, f2⟩ := h
  refine ⟨f1, fun r hr ht => ⟨?_, ?_, fun k hk => absurd hk (Nat.not_lt_zero k)⟩⟩
  · rw [(f2 r hr).1, hP.air0 r hr]; rfl
  · rw [(f2 r hr).2, hP.wall0 r hr]; rfl
theorem mw_night {M P M2 : hM} {r : Nat} (h : mwI M P 96 M2) (hr : r < 5) (ht : ¬ P 15 r = 0) : nS (fun k => M2 101 (96 * r + (k - 1))) 96 = nT P r := nS_cg 96 (fun k h1 hk => by
  have e := ((h.2 r hr ht).2.2 (k - 1) (by omega)).1
  rw [show k - 1 + 1 = k by omega] at e
  exact e)
set_option maxRecDepth 100000 in
set_option maxHeartbeats 4000000 in
theorem t_X11_goHour (M : hM) (P : hM) (w : Nat) (hw : w ≤ 6) (hP : mP M w P) (n : Nat) (hn : n < 96) : Ct 3 mX11_goHour [.ref 93, .int (nI n)] M (pV (ghJ M P n 5)) := by
  refine ct_of (lv := [some (.ref 93), some (.int (nI n)), none, none, none, none, none, none, none]) (by decide +kernel) (fun _ _ hq => hq) rfl (fun _ => Nat.le_of_ble_eq_true rfl) (fun X h hr => ?_)
  refine j_iload_n h 1 rfl rfl dX11_goHour_0 ?_
  refine j_bipush h 3 rfl (nI 24) (by decide) dX11_goHour_1 ?_
  refine j_iremN h 4 rfl (by omega) (by omega) (by omega) dX11_goHour_3 ?_
  refine j_istore_n h 5 rfl rfl dX11_goHour_4 ?_
  refine j_aload_n h 6 rfl rfl dX11_goHour_5 ?_
  refine j_iload_n h 7 rfl rfl dX11_goHour_6 ?_
  refine j_callVI h 10 rfl lkX11_225 sh_93 rfl rfl (t_X11_outAt _ _ (by omega)) rfl rfl rfl dX11_goHour_7 ?_
  refine j_top (hP.sky n hn) ?_
  refine j_istore_n h 11 rfl rfl dX11_goHour_10 ?_
  refine j_iconst h 12 rfl (nI 0) (by decide) dX11_goHour_11 ?_
  refine j_istore h 14 rfl rfl dX11_goHour_12 ?_
  have L1 : ∀ (m i : Nat) (M3 : hM) (z5 z6 z7 z8 : Option Value), 5 - i < m → i ≤ 5 → ghI M P n i M3 → J X 14 [some (.ref 93), some (.int (nI n)), some (.int (nI (n % 24))), some (.int (P 39 n)), some (.int (nI i)), z5, z6, z7, z8] [] M3 := by
    intro m
    induction m with
    | zero => intro i M3 z5 z6 z7 z8 h1; omega
    | succ m ih =>
      intro i M3 z5 z6 z7 z8 h1 h2 hI
      have hP3 : mP M3 w P := mP_cg hI.1 hP
      obtain ⟨f1, f2, f3, f4, f5, f6, f7⟩ := id hI
      refine j_iload h 16 rfl rfl dX11_goHour_14 ?_
      refine j_iconst h 17 rfl (nI 5) (by decide) dX11_goHour_16 ?_
      refine j_icmp_geN h 278 20 (by omega) (by omega) dX11_goHour_17 (by decide) rfl (fun c_17 => ?_) (fun c_17 => ?_)
      · skip
        refine j_iconst h 279 rfl (nI 0) (by decide) dX11_goHour_278 ?_
        refine j_istore h 281 rfl rfl dX11_goHour_279 ?_
        have L3 : ∀ (m3 j : Nat) (M4 : hM), 5 - j < m3 → j ≤ 5 → ghJ M P n j M4 → J X 281 [some (.ref 93), some (.int (nI n)), some (.int (nI (n % 24))), some (.int (P 39 n)), some (.int (nI j)), z5, z6, z7, z8] [] M4 := by
          intro m3
          induction m3 with
          | zero => intro j M4 g1; omega
          | succ m3 ih3 =>
            intro j M4 g1 g2 hJ
            refine j_iload h 283 rfl rfl dX11_goHour_281 ?_
            refine j_iconst h 284 rfl (nI 5) (by decide) dX11_goHour_283 ?_
            refine j_icmp_geN h 359 287 (by omega) (by omega) dX11_goHour_284 (by decide) rfl (fun c_284 => ?_) (fun c_284 => ?_)
            · skip
              exact j_vret h hr dX11_goHour_359 ⟨rfl, by rw [show 5 = j by omega]; exact hJ⟩
            · skip
              refine j_aload_n h 288 rfl rfl dX11_goHour_287 ?_
              refine j_getR h 291 rfl glX11_69 sh_93 rfl dX11_goHour_288 ?_
              refine j_iload h 293 rfl rfl dX11_goHour_291 ?_
              refine j_aload_n h 294 rfl rfl dX11_goHour_293 ?_
              refine j_getR h 297 rfl glX11_75 sh_93 rfl dX11_goHour_294 ?_
              refine j_iload h 299 rfl rfl dX11_goHour_297 ?_
              refine j_iald h 300 rfl sh_106 _ rfl (by omega) rfl dX11_goHour_299 ?_
              refine j_iast h 301 rfl sh_104 _ rfl (by omega) rfl dX11_goHour_300 ?_
              refine j_aload_n h 302 rfl rfl dX11_goHour_301 ?_
              refine j_getR h 305 rfl glX11_72 sh_93 rfl dX11_goHour_302 ?_
              refine j_iload h 307 rfl rfl dX11_goHour_305 ?_
              refine j_aload_n h 308 rfl rfl dX11_goHour_307 ?_
              refine j_getR h 311 rfl glX11_78 sh_93 rfl dX11_goHour_308 ?_
              refine j_iload h 313 rfl rfl dX11_goHour_311 ?_
              refine j_iald h 314 rfl sh_107 _ rfl (by omega) rfl dX11_goHour_313 ?_
              refine j_iast h 315 rfl sh_105 _ rfl (by omega) rfl dX11_goHour_314 ?_
              refine j_aload_n h 316 rfl rfl dX11_goHour_315 ?_
              refine j_getR h 319 rfl glX11_60 sh_93 rfl dX11_goHour_316 ?_
              refine j_bipush h 321 rfl (nI 96) (by decide) dX11_goHour_319 ?_
              refine j_iload h 323 rfl rfl dX11_goHour_321 ?_
              refine j_imulN h 324 rfl dX11_goHour_323 ?_
              refine j_iload_n h 325 rfl rfl dX11_goHour_324 ?_
              refine j_iaddN h 326 rfl dX11_goHour_325 ?_
              refine j_aload_n h 327 rfl rfl dX11_goHour_326 ?_
              refine j_getR h 330 rfl glX11_69 sh_93 rfl dX11_goHour_327 ?_
              refine j_iload h 332 rfl rfl dX11_goHour_330 ?_
              refine j_iald h 333 rfl sh_104 _ rfl (by omega) rfl dX11_goHour_332 ?_
              refine j_top ((mu_a (by decide)).trans mu_s) ?_
              refine j_iast h 334 rfl sh_101 _ rfl (by omega) rfl dX11_goHour_333 ?_
              refine j_aload_n h 335 rfl rfl dX11_goHour_334 ?_
              refine j_getR h 338 rfl glX11_63 sh_93 rfl dX11_goHour_335 ?_
              refine j_bipush h 340 rfl (nI 96) (by decide) dX11_goHour_338 ?_
              refine j_iload h 342 rfl rfl dX11_goHour_340 ?_
              refine j_imulN h 343 rfl dX11_goHour_342 ?_
              refine j_iload_n h 344 rfl rfl dX11_goHour_343 ?_
              refine j_iaddN h 345 rfl dX11_goHour_344 ?_
              refine j_aload_n h 346 rfl rfl dX11_goHour_345 ?_
              refine j_getR h 349 rfl glX11_72 sh_93 rfl dX11_goHour_346 ?_
              refine j_iload h 351 rfl rfl dX11_goHour_349 ?_
              refine j_iald h 352 rfl sh_105 _ rfl (by omega) rfl dX11_goHour_351 ?_
              refine j_top ((mu_a (by decide)).trans mu_s) ?_
              refine j_iast h 353 rfl sh_102 _ rfl (by omega) rfl dX11_goHour_352 ?_
              refine j_iincN h 356 rfl rfl rfl dX11_goHour_353 ?_
              refine j_goto h 281 dX11_goHour_356 (by decide) ?_
              exact ih3 (j + 1) _ (by omega) (by omega) (ghJ_step (by omega) hn hJ)
        exact L3 6 0 _ (by omega) (by omega) (ghJ_0 (by rw [show 5 = i by omega]; exact hI))
      · skip
        refine j_aload_n h 21 rfl rfl dX11_goHour_20 ?_
        refine j_iload h 23 rfl rfl dX11_goHour_21 ?_
        refine j_callVI h 26 rfl lkX11_222 sh_93 rfl rfl (t_X11_isRoom _ _) rfl rfl rfl dX11_goHour_23 ?_
        refine j_top (hb_tld hP3 (by omega)) ?_
        refine j_if_eqB h 272 29 dX11_goHour_26 (by decide) rfl (fun c_26 => ?_) (fun c_26 => ?_)
        · skip
          refine j_iincN h 275 rfl rfl rfl dX11_goHour_272 ?_
          refine j_goto h 14 dX11_goHour_275 (by decide) ?_
          first
            | exact ih (i + 1) _ _ _ _ _ (by omega) (by omega) (ghI_skip hI (Decidable.not_not.mp c_26))
            | exact ih (i + 1) _ _ _ _ _ (by omega) (by omega) (ghI_step (by omega) hn hI)
        · skip
          refine j_aload_n h 30 rfl rfl dX11_goHour_29 ?_
          refine j_getR h 33 rfl glX11_69 sh_93 rfl dX11_goHour_30 ?_
          refine j_iload h 35 rfl rfl dX11_goHour_33 ?_
          refine j_iald h 36 rfl sh_104 _ rfl (by omega) rfl dX11_goHour_35 ?_
          refine j_top (congrFun f2 i) ?_
          refine j_istore h 38 rfl rfl dX11_goHour_36 ?_
          refine j_aload_n h 39 rfl rfl dX11_goHour_38 ?_
          refine j_getR h 42 rfl glX11_72 sh_93 rfl dX11_goHour_39 ?_
          refine j_iload h 44 rfl rfl dX11_goHour_42 ?_
          refine j_iald h 45 rfl sh_105 _ rfl (by omega) rfl dX11_goHour_44 ?_
          refine j_top (congrFun f3 i) ?_
          refine j_istore h 47 rfl rfl dX11_goHour_45 ?_
          refine j_aload_n h 48 rfl rfl dX11_goHour_47 ?_
          refine j_iload h 50 rfl rfl dX11_goHour_48 ?_
          refine j_iload_n h 51 rfl rfl dX11_goHour_50 ?_
          refine j_callVI h 54 rfl lkX11_235 sh_93 rfl rfl (t_X11_sunAt _ _ _ (by omega) (by omega) w hw hP3.works) rfl rfl rfl dX11_goHour_51 ?_
          refine j_top (hP3.sun i (n % 24) (by omega) (by omega)) ?_
          refine j_aload_n h 55 rfl rfl dX11_goHour_54 ?_
          refine j_getI h 58 rfl glX11_51 sh_93 rfl dX11_goHour_55 ?_
          refine j_top (hP3.home) ?_
          refine j_iload_n h 59 rfl rfl dX11_goHour_58 ?_
          refine j_callSI h 62 rfl lkX11_127 rfl (t_X11_has _ _ _) rfl rfl rfl dX11_goHour_59 ?_
          have K82 : ∀ x, x = mHm P i n → J X 82 [some (.ref 93), some (.int (nI n)), some (.int (nI (n % 24))), some (.int (P 39 n)), some (.int (nI i)), some (.int (M 104 i)), some (.int (M 105 i)), z7, z8] [.int x, .int (P (34 + i) (n % 24))] M3 := by
            intro x hx
            subst hx
            refine j_iadd h 83 rfl dX11_goHour_82 ?_
            refine j_iload h 85 rfl rfl dX11_goHour_83 ?_
            refine j_iload h 87 rfl rfl dX11_goHour_85 ?_
            refine j_isub h 88 rfl dX11_goHour_87 ?_
            refine j_aload_n h 89 rfl rfl dX11_goHour_88 ?_
            refine j_getI h 92 rfl glX11_41 sh_93 rfl dX11_goHour_89 ?_
            refine j_top (hP3.gives) ?_
            refine j_imul h 93 rfl dX11_goHour_92 ?_
            refine j_bipush h 95 rfl (nI 100) (by decide) dX11_goHour_93 ?_
            refine j_idiv h 96 rfl (by decide) dX11_goHour_95 ?_
            refine j_iadd h 97 rfl dX11_goHour_96 ?_
            refine j_istore h 99 rfl rfl dX11_goHour_97 ?_
            refine j_iconst h 100 rfl (nI 0) (by decide) dX11_goHour_99 ?_
            refine j_istore h 102 rfl rfl dX11_goHour_100 ?_
            have L2 : ∀ (m2 q : Nat) (x2 : Int32), 5 - q < m2 → q ≤ 5 → x2 = mV0 P (M 104) (M 105) i n + drS P (M 104) i q → J X 102 [some (.ref 93), some (.int (nI n)), some (.int (nI (n % 24))), some (.int (P 39 n)), some (.int (nI i)), some (.int (M 104 i)), some (.int (M 105 i)), some (.int x2), some (.int (nI q))] [] M3 := by
              intro m2
              induction m2 with
              | zero => intro q x2 h1; omega
              | succ m2 ih2 =>
                intro q x2 g1 g2 hx
                refine j_iload h 104 rfl rfl dX11_goHour_102 ?_
                refine j_iconst h 105 rfl (nI 5) (by decide) dX11_goHour_104 ?_
                refine j_icmp_geN h 165 108 (by omega) (by omega) dX11_goHour_105 (by decide) rfl (fun c_105 => ?_) (fun c_105 => ?_)
                · skip
                  refine j_aload_n h 166 rfl rfl dX11_goHour_165 ?_
                  refine j_iload h 168 rfl rfl dX11_goHour_166 ?_
                  refine j_iload_n h 169 rfl rfl dX11_goHour_168 ?_
                  refine j_callVI h 172 rfl lkX11_238 sh_93 rfl rfl (t_X11_isOpenAt _ P w hw hP3 _ _ (by omega) (by omega)) rfl rfl rfl dX11_goHour_169 ?_
                  refine j_top (show _ = hb (opP P i n (M 104 i)) by rw [f2]) ?_
                  refine j_istore h 174 rfl rfl dX11_goHour_172 ?_
                  refine j_iload h 176 rfl rfl dX11_goHour_174 ?_
                  refine j_iload h 178 rfl rfl dX11_goHour_176 ?_
                  have K197 : ∀ y, y = mWn P (M 104) i n → J X 197 [some (.ref 93), some (.int (nI n)), some (.int (nI (n % 24))), some (.int (P 39 n)), some (.int (nI i)), some (.int (M 104 i)), some (.int (M 105 i)), some (.int x2), some (.int (hb (opP P i n (M 104 i))))] [.int y, .int x2] M3 := by
                    intro y hy
                    subst hy
                    refine j_iadd h 198 rfl dX11_goHour_197 ?_
                    refine j_istore h 200 rfl rfl dX11_goHour_198 ?_
                    refine j_aload_n h 201 rfl rfl dX11_goHour_200 ?_
                    refine j_getR h 204 rfl glX11_75 sh_93 rfl dX11_goHour_201 ?_
                    refine j_iload h 206 rfl rfl dX11_goHour_204 ?_
                    refine j_iload h 208 rfl rfl dX11_goHour_206 ?_
                    refine j_iload h 210 rfl rfl dX11_goHour_208 ?_
                    refine j_iadd h 211 rfl dX11_goHour_210 ?_
                    refine j_top (show _ = stA P (M 104) (M 105) i n by rw [hx, show q = 5 by omega]; exact mv_A) ?_
                    refine j_iast h 212 rfl sh_106 _ rfl (by omega) rfl dX11_goHour_211 ?_
                    have hP4 : mP (mu M3 106 i (stA P (M 104) (M 105) i n)) w P := mP_cg (fun a ha => (mu_f (by omega)).trans (f1 a ha)) hP
                    refine j_aload_n h 213 rfl rfl dX11_goHour_212 ?_
                    refine j_getR h 216 rfl glX11_78 sh_93 rfl dX11_goHour_213 ?_
                    refine j_iload h 218 rfl rfl dX11_goHour_216 ?_
                    refine j_iload h 220 rfl rfl dX11_goHour_218 ?_
                    refine j_iload h 222 rfl rfl dX11_goHour_220 ?_
                    refine j_iload h 224 rfl rfl dX11_goHour_222 ?_
                    refine j_isub h 225 rfl dX11_goHour_224 ?_
                    refine j_aload_n h 226 rfl rfl dX11_goHour_225 ?_
                    refine j_getI h 229 rfl glX11_38 sh_93 rfl dX11_goHour_226 ?_
                    refine j_top (hP4.takes) ?_
                    refine j_imul h 230 rfl dX11_goHour_229 ?_
                    refine j_bipush h 232 rfl (nI 100) (by decide) dX11_goHour_230 ?_
                    refine j_idiv h 233 rfl (by decide) dX11_goHour_232 ?_
                    refine j_iadd h 234 rfl dX11_goHour_233 ?_
                    refine j_iload_n h 235 rfl rfl dX11_goHour_234 ?_
                    refine j_iload h 237 rfl rfl dX11_goHour_235 ?_
                    refine j_isub h 238 rfl dX11_goHour_237 ?_
                    refine j_aload_n h 239 rfl rfl dX11_goHour_238 ?_
                    refine j_iload h 241 rfl rfl dX11_goHour_239 ?_
                    refine j_callVI h 244 rfl lkX11_241 sh_93 rfl rfl (t_X11_leaksOf _ _ (by omega) w hw hP4.works) rfl rfl rfl dX11_goHour_241 ?_
                    refine j_top (hP4.lk i (by omega)) ?_
                    refine j_imul h 245 rfl dX11_goHour_244 ?_
                    refine j_bipush h 247 rfl (nI 100) (by decide) dX11_goHour_245 ?_
                    refine j_idiv h 248 rfl (by decide) dX11_goHour_247 ?_
                    refine j_iadd h 249 rfl dX11_goHour_248 ?_
                    refine j_top (show _ = stW P (M 104) (M 105) i n from rfl) ?_
                    refine j_iast h 250 rfl sh_107 _ rfl (by omega) rfl dX11_goHour_249 ?_
                    refine j_aload_n h 251 rfl rfl dX11_goHour_250 ?_
                    refine j_getR h 254 rfl glX11_66 sh_93 rfl dX11_goHour_251 ?_
                    refine j_bipush h 256 rfl (nI 96) (by decide) dX11_goHour_254 ?_
                    refine j_iload h 258 rfl rfl dX11_goHour_256 ?_
                    refine j_imulN h 259 rfl dX11_goHour_258 ?_
                    refine j_iload_n h 260 rfl rfl dX11_goHour_259 ?_
                    refine j_iaddN h 261 rfl dX11_goHour_260 ?_
                    refine j_iload h 263 rfl rfl dX11_goHour_261 ?_
                    have K271 : ∀ y, y = hb (opP P i n (M 104 i)) → J X 271 [some (.ref 93), some (.int (nI n)), some (.int (nI (n % 24))), some (.int (P 39 n)), some (.int (nI i)), some (.int (M 104 i)), some (.int (M 105 i)), some (.int (x2 + mWn P (M 104) i n)), some (.int (hb (opP P i n (M 104 i))))] [.int y, .int (nI (96 * i + n)), .ref 103] (mu (mu M3 106 i (stA P (M 104) (M 105) i n)) 107 i (stW P (M 104) (M 105) i n)) := by
                      intro y hy
                      subst hy
                      refine j_iast h 272 rfl sh_103 _ rfl (by omega) rfl dX11_goHour_271 ?_
                      refine j_iincN h 275 rfl rfl rfl dX11_goHour_272 ?_
                      refine j_goto h 14 dX11_goHour_275 (by decide) ?_
                      first
                        | exact ih (i + 1) _ _ _ _ _ (by omega) (by omega) (ghI_skip hI (Decidable.not_not.mp c_26))
                        | exact ih (i + 1) _ _ _ _ _ (by omega) (by omega) (ghI_step (by omega) hn hI)
                    refine j_if_eqB h 270 266 dX11_goHour_263 (by decide) rfl (fun c_263 => ?_) (fun c_263 => ?_)
                    · skip
                      refine j_iconst h 271 rfl (nI 0) (by decide) dX11_goHour_270 ?_
                      exact K271 _ (by first | (rw [hb_t c_263]; rfl) | (rw [hb_f c_263]; rfl))
                    · skip
                      refine j_iconst h 267 rfl (nI 1) (by decide) dX11_goHour_266 ?_
                      refine j_goto h 271 dX11_goHour_267 (by decide) ?_
                      exact K271 _ (by first | (rw [hb_t c_263]; rfl) | (rw [hb_f c_263]; rfl))
                  refine j_if_eqB h 196 181 dX11_goHour_178 (by decide) rfl (fun c_178 => ?_) (fun c_178 => ?_)
                  · skip
                    refine j_iconst h 197 rfl (nI 0) (by decide) dX11_goHour_196 ?_
                    exact K197 _ (by unfold mWn; first | rw [if_pos c_178] | rw [if_neg c_178])
                  · skip
                    refine j_iload_n h 182 rfl rfl dX11_goHour_181 ?_
                    refine j_iload h 184 rfl rfl dX11_goHour_182 ?_
                    refine j_isub h 185 rfl dX11_goHour_184 ?_
                    refine j_aload_n h 186 rfl rfl dX11_goHour_185 ?_
                    refine j_getI h 189 rfl glX11_47 sh_93 rfl dX11_goHour_186 ?_
                    refine j_top (hP3.win) ?_
                    refine j_imul h 190 rfl dX11_goHour_189 ?_
                    refine j_bipush h 192 rfl (nI 100) (by decide) dX11_goHour_190 ?_
                    refine j_idiv h 193 rfl (by decide) dX11_goHour_192 ?_
                    refine j_goto h 197 dX11_goHour_193 (by decide) ?_
                    exact K197 _ (by unfold mWn; first | rw [if_pos c_178] | rw [if_neg c_178])
                · skip
                  refine j_iload h 110 rfl rfl dX11_goHour_108 ?_
                  refine j_iload h 112 rfl rfl dX11_goHour_110 ?_
                  refine j_iload h 114 rfl rfl dX11_goHour_112 ?_
                  have K156 : ∀ y, x2 + y = mV0 P (M 104) (M 105) i n + drS P (M 104) i (q + 1) → J X 156 [some (.ref 93), some (.int (nI n)), some (.int (nI (n % 24))), some (.int (P 39 n)), some (.int (nI i)), some (.int (M 104 i)), some (.int (M 105 i)), some (.int x2), some (.int (nI q))] [.int y, .int x2] M3 := by
                    intro y hy
                    refine j_iadd h 157 rfl dX11_goHour_156 ?_
                    refine j_istore h 159 rfl rfl dX11_goHour_157 ?_
                    refine j_iincN h 162 rfl rfl rfl dX11_goHour_159 ?_
                    refine j_goto h 102 dX11_goHour_162 (by decide) ?_
                    exact ih2 (q + 1) _ (by omega) (by omega) hy
                  refine j_icmp_eqN h 155 117 (by omega) (by omega) dX11_goHour_114 (by decide) rfl (fun c_114 => ?_) (fun c_114 => ?_)
                  · skip
                    refine j_iconst h 156 rfl (nI 0) (by decide) dX11_goHour_155 ?_
                    exact K156 _ (by rw [hx]; first | exact md_0 (Or.inl (by rw [c_114, hP.self i (by omega)]; decide)) | exact md_0 (Or.inr (Decidable.not_not.mp c_123)) | exact md_t (hP.door i q (by omega) (by omega)).2 c_123)
                  · skip
                    refine j_aload_n h 118 rfl rfl dX11_goHour_117 ?_
                    refine j_iload h 120 rfl rfl dX11_goHour_118 ?_
                    refine j_callVI h 123 rfl lkX11_222 sh_93 rfl rfl (t_X11_isRoom _ _) rfl rfl rfl dX11_goHour_120 ?_
                    refine j_top (hb_tld hP3 (by omega)) ?_
                    refine j_if_eqB h 155 126 dX11_goHour_123 (by decide) rfl (fun c_123 => ?_) (fun c_123 => ?_)
                    · skip
                      refine j_iconst h 156 rfl (nI 0) (by decide) dX11_goHour_155 ?_
                      exact K156 _ (by rw [hx]; first | exact md_0 (Or.inl (by rw [c_114, hP.self i (by omega)]; decide)) | exact md_0 (Or.inr (Decidable.not_not.mp c_123)) | exact md_t (hP.door i q (by omega) (by omega)).2 c_123)
                    · skip
                      refine j_aload_n h 127 rfl rfl dX11_goHour_126 ?_
                      refine j_getR h 130 rfl glX11_69 sh_93 rfl dX11_goHour_127 ?_
                      refine j_iload h 132 rfl rfl dX11_goHour_130 ?_
                      refine j_iald h 133 rfl sh_104 _ rfl (by omega) rfl dX11_goHour_132 ?_
                      refine j_top (congrFun f2 q) ?_
                      refine j_iload h 135 rfl rfl dX11_goHour_133 ?_
                      refine j_isub h 136 rfl dX11_goHour_135 ?_
                      refine j_aload_n h 137 rfl rfl dX11_goHour_136 ?_
                      refine j_getR h 140 rfl glX11_22 sh_93 rfl dX11_goHour_137 ?_
                      refine j_iconst h 141 rfl (nI 5) (by decide) dX11_goHour_140 ?_
                      refine j_iload h 143 rfl rfl dX11_goHour_141 ?_
                      refine j_imulN h 144 rfl dX11_goHour_143 ?_
                      refine j_iload h 146 rfl rfl dX11_goHour_144 ?_
                      refine j_iaddN h 147 rfl dX11_goHour_146 ?_
                      refine j_iald h 148 rfl sh_98 _ rfl (by omega) rfl dX11_goHour_147 ?_
                      refine j_top ((hP3.door i q (by omega) (by omega)).1) ?_
                      refine j_imul h 149 rfl dX11_goHour_148 ?_
                      refine j_bipush h 151 rfl (nI 100) (by decide) dX11_goHour_149 ?_
                      refine j_idiv h 152 rfl (by decide) dX11_goHour_151 ?_
                      refine j_goto h 156 dX11_goHour_152 (by decide) ?_
                      exact K156 _ (by rw [hx]; first | exact md_0 (Or.inl (by rw [c_114, hP.self i (by omega)]; decide)) | exact md_0 (Or.inr (Decidable.not_not.mp c_123)) | exact md_t (hP.door i q (by omega) (by omega)).2 c_123)
            exact L2 6 0 _ (by omega) (by omega) (by unfold drS; rw [nI_0, Int32.add_zero]; rfl)
          refine j_if_eqB h 81 65 dX11_goHour_62 (by decide) rfl (fun c_62 => ?_) (fun c_62 => ?_)
          · skip
            refine j_iconst h 82 rfl (nI 0) (by decide) dX11_goHour_81 ?_
            exact K82 _ (by unfold mHm; first | rw [if_pos c_62] | rw [if_neg c_62])
          · skip
            refine j_iconst h 66 rfl (nI 2) (by decide) dX11_goHour_65 ?_
            refine j_aload_n h 67 rfl rfl dX11_goHour_66 ?_
            refine j_getR h 70 rfl glX11_7 sh_93 rfl dX11_goHour_67 ?_
            refine j_iconst h 71 rfl (nI 4) (by decide) dX11_goHour_70 ?_
            refine j_iload h 73 rfl rfl dX11_goHour_71 ?_
            refine j_imulN h 74 rfl dX11_goHour_73 ?_
            refine j_iconst h 75 rfl (nI 3) (by decide) dX11_goHour_74 ?_
            refine j_iaddN h 76 rfl dX11_goHour_75 ?_
            refine j_iald h 77 rfl sh_94 _ rfl (by omega) rfl dX11_goHour_76 ?_
            refine j_top (hP3.folk i (by omega)) ?_
            refine j_imul h 78 rfl dX11_goHour_77 ?_
            refine j_goto h 82 dX11_goHour_78 (by decide) ?_
            exact K82 _ (by unfold mHm; first | rw [if_pos c_62] | rw [if_neg c_62])
  exact L1 6 0 M _ _ _ _ (by omega) (by omega) ghI_0
set_option maxRecDepth 100000 in
set_option maxHeartbeats 4000000 in
theorem t_X11_goWeek (M : hM) (P : hM) (w : Nat) (hw : w ≤ 6) (hP : mP M w P) : Ct 4 mX11_goWeek [.ref 93] M (pV (mwI M P 96)) := by
  refine ct_of (lv := [some (.ref 93), none]) (by decide +kernel) (fun _ _ hq => hq) rfl (fun _ => Nat.le_of_ble_eq_true rfl) (fun X h hr => ?_)
  refine j_iconst h 1 rfl (nI 0) (by decide) dX11_goWeek_0 ?_
  refine j_istore_n h 2 rfl rfl dX11_goWeek_1 ?_
  have L1 : ∀ (m i : Nat) (M2 : hM), 5 - i < m → i ≤ 5 → mw0 M i M2 → J X 2 [some (.ref 93), some (.int (nI i))] [] M2 := by
    intro m
    induction m with
    | zero => intro i M2 h1; omega
    | succ m ih =>
      intro i M2 h1 h2 hI
      refine j_iload_n h 3 rfl rfl dX11_goWeek_2 ?_
      refine j_iconst h 4 rfl (nI 5) (by decide) dX11_goWeek_3 ?_
      refine j_icmp_geN h 57 7 (by omega) (by omega) dX11_goWeek_4 (by decide) rfl (fun c_4 => ?_) (fun c_4 => ?_)
      · skip
        refine j_iconst h 58 rfl (nI 0) (by decide) dX11_goWeek_57 ?_
        refine j_istore_n h 59 rfl rfl dX11_goWeek_58 ?_
        have L2 : ∀ (m h9 : Nat) (M2 : hM), 96 - h9 < m → h9 ≤ 96 → mwI M P h9 M2 → J X 59 [some (.ref 93), some (.int (nI h9))] [] M2 := by
          intro m
          induction m with
          | zero => intro h9 M2 h1; omega
          | succ m ih =>
            intro h9 M2 h1 h2 hI
            refine j_iload_n h 60 rfl rfl dX11_goWeek_59 ?_
            refine j_bipush h 62 rfl (nI 96) (by decide) dX11_goWeek_60 ?_
            refine j_icmp_geN h 76 65 (by omega) (by omega) dX11_goWeek_62 (by decide) rfl (fun c_62 => ?_) (fun c_62 => ?_)
            · skip
              exact j_vret h hr dX11_goWeek_76 ⟨rfl, by rw [show 96 = h9 by omega]; exact hI⟩
            · skip
              refine j_aload_n h 66 rfl rfl dX11_goWeek_65 ?_
              refine j_iload_n h 67 rfl rfl dX11_goWeek_66 ?_
              refine j_callVV h 70 rfl lkX11_244 sh_93 rfl rfl (t_X11_goHour _ P w hw (mP_cg hI.1 hP) _ (by omega)) rfl rfl rfl dX11_goWeek_67 (fun M9 hM9 => ?_)
              refine j_iincN h 73 rfl rfl rfl dX11_goWeek_70 ?_
              refine j_goto h 59 dX11_goWeek_73 (by decide) ?_
              exact ih (h9 + 1) _ (by omega) (by omega) (mwI_step (by omega) hI hM9)
        exact L2 97 0 _ (by omega) (by omega) (mw0_I hP (by rw [show 5 = i by omega]; exact hI))
      · skip
        refine j_aload_n h 8 rfl rfl dX11_goWeek_7 ?_
        refine j_getR h 11 rfl glX11_69 sh_93 rfl dX11_goWeek_8 ?_
        refine j_iload_n h 12 rfl rfl dX11_goWeek_11 ?_
        refine j_aload_n h 13 rfl rfl dX11_goWeek_12 ?_
        refine j_getR h 16 rfl glX11_7 sh_93 rfl dX11_goWeek_13 ?_
        refine j_iconst h 17 rfl (nI 4) (by decide) dX11_goWeek_16 ?_
        refine j_iload_n h 18 rfl rfl dX11_goWeek_17 ?_
        refine j_imulN h 19 rfl dX11_goWeek_18 ?_
        refine j_iald h 20 rfl sh_94 _ rfl (by omega) rfl dX11_goWeek_19 ?_
        refine j_top (congrFun (hI.1 94 (by omega)) _) ?_
        refine j_iast h 21 rfl sh_104 _ rfl (by omega) rfl dX11_goWeek_20 ?_
        refine j_aload_n h 22 rfl rfl dX11_goWeek_21 ?_
        refine j_getR h 25 rfl glX11_72 sh_93 rfl dX11_goWeek_22 ?_
        refine j_iload_n h 26 rfl rfl dX11_goWeek_25 ?_
        refine j_aload_n h 27 rfl rfl dX11_goWeek_26 ?_
        refine j_getR h 30 rfl glX11_7 sh_93 rfl dX11_goWeek_27 ?_
        refine j_iconst h 31 rfl (nI 4) (by decide) dX11_goWeek_30 ?_
        refine j_iload_n h 32 rfl rfl dX11_goWeek_31 ?_
        refine j_imulN h 33 rfl dX11_goWeek_32 ?_
        refine j_iconst h 34 rfl (nI 1) (by decide) dX11_goWeek_33 ?_
        refine j_iaddN h 35 rfl dX11_goWeek_34 ?_
        refine j_iald h 36 rfl sh_94 _ rfl (by omega) rfl dX11_goWeek_35 ?_
        refine j_top ((mu_a (by decide)).trans (congrFun (hI.1 94 (by omega)) _)) ?_
        refine j_iast h 37 rfl sh_105 _ rfl (by omega) rfl dX11_goWeek_36 ?_
        refine j_aload_n h 38 rfl rfl dX11_goWeek_37 ?_
        refine j_getR h 41 rfl glX11_75 sh_93 rfl dX11_goWeek_38 ?_
        refine j_iload_n h 42 rfl rfl dX11_goWeek_41 ?_
        refine j_iconst h 43 rfl (nI 0) (by decide) dX11_goWeek_42 ?_
        refine j_iast h 44 rfl sh_106 _ rfl (by omega) rfl dX11_goWeek_43 ?_
        refine j_aload_n h 45 rfl rfl dX11_goWeek_44 ?_
        refine j_getR h 48 rfl glX11_78 sh_93 rfl dX11_goWeek_45 ?_
        refine j_iload_n h 49 rfl rfl dX11_goWeek_48 ?_
        refine j_iconst h 50 rfl (nI 0) (by decide) dX11_goWeek_49 ?_
        refine j_iast h 51 rfl sh_107 _ rfl (by omega) rfl dX11_goWeek_50 ?_
        refine j_iincN h 54 rfl rfl rfl dX11_goWeek_51 ?_
        refine j_goto h 2 dX11_goWeek_54 (by decide) ?_
        exact ih (i + 1) _ (by omega) (by omega) (mw0_step hI)
  exact L1 6 0 M (by omega) (by omega) ⟨fun _ _ => rfl, fun r hr => absurd hr (Nat.not_lt_zero r)⟩
set_option maxRecDepth 100000 in
set_option maxHeartbeats 4000000 in
theorem t_X11_nightOf (M : hM) (r : Nat) (hr5 : r < 5) : Ct 1 mX11_nightOf [.ref 93, .int (nI r)] M (pI (nS (fun k => M 101 (96 * r + (k - 1))) 96) M) := by
  refine ct_of (lv := [some (.ref 93), some (.int (nI r)), none, none, none]) (by decide +kernel) (fun _ _ hq => hq) rfl (fun _ => Nat.le_of_ble_eq_true rfl) (fun X h hr => ?_)
  refine j_iconst h 1 rfl (nI 0) (by decide) dX11_nightOf_0 ?_
  refine j_istore_n h 2 rfl rfl dX11_nightOf_1 ?_
  refine j_iconst h 3 rfl (nI 0) (by decide) dX11_nightOf_2 ?_
  refine j_istore_n h 4 rfl rfl dX11_nightOf_3 ?_
  have L : ∀ (n i : Nat) (x : Int32) (z : Option Value), 96 - i < n → i ≤ 96 → x = nS (fun k => M 101 (96 * r + (k - 1))) i → J X 4 [some (.ref 93), some (.int (nI r)), some (.int x), some (.int (nI i)), z] [] M := by
    intro n
    induction n with
    | zero => intro i x z h1; omega
    | succ n ih =>
      intro i x z h1 h2 hx
      subst hx
      refine j_iload_n h 5 rfl rfl dX11_nightOf_4 ?_
      refine j_bipush h 7 rfl (nI 96) (by decide) dX11_nightOf_5 ?_
      refine j_icmp_geN h 54 10 (by omega) (by omega) dX11_nightOf_7 (by decide) rfl (fun c_7 => ?_) (fun c_7 => ?_)
      · skip
        refine j_iload_n h 55 rfl rfl dX11_nightOf_54 ?_
        exact j_ret h hr rfl dX11_nightOf_55 ⟨congrArg (fun z => some (Value.int z)) (by rw [show i = 96 by omega]), rfl⟩
      · skip
        refine j_iload_n h 11 rfl rfl dX11_nightOf_10 ?_
        refine j_bipush h 13 rfl (nI 24) (by decide) dX11_nightOf_11 ?_
        refine j_iremN h 14 rfl (by omega) (by omega) (by omega) dX11_nightOf_13 ?_
        refine j_istore h 16 rfl rfl dX11_nightOf_14 ?_
        have K46 : ∀ y, nS (fun k => M 101 (96 * r + (k - 1))) i + y = nS (fun k => M 101 (96 * r + (k - 1))) (i + 1) → J X 46 [some (.ref 93), some (.int (nI r)), some (.int (nS (fun k => M 101 (96 * r + (k - 1))) i)), some (.int (nI i)), some (.int (nI (i % 24)))] [.int y, .int (nS (fun k => M 101 (96 * r + (k - 1))) i)] M := by
          intro y hy
          refine j_iadd h 47 rfl dX11_nightOf_46 ?_
          refine j_istore_n h 48 rfl rfl dX11_nightOf_47 ?_
          refine j_iincN h 51 rfl rfl rfl dX11_nightOf_48 ?_
          refine j_goto h 4 dX11_nightOf_51 (by decide) ?_
          exact ih (i + 1) _ _ (by omega) (by omega) hy
        refine j_iload_n h 17 rfl rfl dX11_nightOf_16 ?_
        refine j_iload h 19 rfl rfl dX11_nightOf_17 ?_
        refine j_bipush h 21 rfl (nI 21) (by decide) dX11_nightOf_19 ?_
        refine j_icmp_gtN h 31 24 (by omega) (by omega) dX11_nightOf_21 (by decide) rfl (fun c_21 => ?_) (fun c_21 => ?_)
        · skip
          refine j_aload_n h 32 rfl rfl dX11_nightOf_31 ?_
          refine j_getR h 35 rfl glX11_60 sh_93 rfl dX11_nightOf_32 ?_
          refine j_bipush h 37 rfl (nI 96) (by decide) dX11_nightOf_35 ?_
          refine j_iload_n h 38 rfl rfl dX11_nightOf_37 ?_
          refine j_imulN h 39 rfl dX11_nightOf_38 ?_
          refine j_iload_n h 40 rfl rfl dX11_nightOf_39 ?_
          refine j_iaddN h 41 rfl dX11_nightOf_40 ?_
          refine j_iald h 42 rfl sh_101 _ rfl (by omega) rfl dX11_nightOf_41 ?_
          refine j_goto h 46 dX11_nightOf_42 (by decide) ?_
          exact K46 _ (by first | exact nS_t (A := (fun k => M 101 (96 * r + (k - 1)))) (by omega) | (rw [nI_0, Int32.add_zero]; exact nS_f (by omega)))
        · skip
          refine j_iload h 26 rfl rfl dX11_nightOf_24 ?_
          refine j_bipush h 28 rfl (nI 6) (by decide) dX11_nightOf_26 ?_
          refine j_icmp_geN h 45 31 (by omega) (by omega) dX11_nightOf_28 (by decide) rfl (fun c_28 => ?_) (fun c_28 => ?_)
          · skip
            refine j_iconst h 46 rfl (nI 0) (by decide) dX11_nightOf_45 ?_
            exact K46 _ (by first | exact nS_t (A := (fun k => M 101 (96 * r + (k - 1)))) (by omega) | (rw [nI_0, Int32.add_zero]; exact nS_f (by omega)))
          · skip
            refine j_aload_n h 32 rfl rfl dX11_nightOf_31 ?_
            refine j_getR h 35 rfl glX11_60 sh_93 rfl dX11_nightOf_32 ?_
            refine j_bipush h 37 rfl (nI 96) (by decide) dX11_nightOf_35 ?_
            refine j_iload_n h 38 rfl rfl dX11_nightOf_37 ?_
            refine j_imulN h 39 rfl dX11_nightOf_38 ?_
            refine j_iload_n h 40 rfl rfl dX11_nightOf_39 ?_
            refine j_iaddN h 41 rfl dX11_nightOf_40 ?_
            refine j_iald h 42 rfl sh_101 _ rfl (by omega) rfl dX11_nightOf_41 ?_
            refine j_goto h 46 dX11_nightOf_42 (by decide) ?_
            exact K46 _ (by first | exact nS_t (A := (fun k => M 101 (96 * r + (k - 1)))) (by omega) | (rw [nI_0, Int32.add_zero]; exact nS_f (by omega)))
  exact L 97 0 _ _ (by omega) (by omega) rfl
set_option maxRecDepth 100000 in
set_option maxHeartbeats 4000000 in
theorem t_X11_nightOfAll (M : hM) (P : hM) (w : Nat) (hw : w ≤ 6) (hP : mP M w P) : Ct 5 mX11_nightOfAll [.ref 93] M (pX (fun y M2 => y = nAll P ∧ mwI M P 96 M2)) := by
  refine ct_of (lv := [some (.ref 93), none, none]) (by decide +kernel) (fun _ _ hq => hq) rfl (fun _ => Nat.le_of_ble_eq_true rfl) (fun X h hr => ?_)
  refine j_aload_n h 1 rfl rfl dX11_nightOfAll_0 ?_
  refine j_callVV h 4 rfl lkX11_247 sh_93 rfl rfl (t_X11_goWeek _ P w hw hP) rfl rfl rfl dX11_nightOfAll_1 (fun M9 hM9 => ?_)
  refine j_iconst h 5 rfl (nI 0) (by decide) dX11_nightOfAll_4 ?_
  refine j_istore_n h 6 rfl rfl dX11_nightOfAll_5 ?_
  refine j_iconst h 7 rfl (nI 0) (by decide) dX11_nightOfAll_6 ?_
  refine j_istore_n h 8 rfl rfl dX11_nightOfAll_7 ?_
  have L : ∀ (n i : Nat) (x : Int32), 5 - i < n → i ≤ 5 → x = naS (P 15) (nT P) i → J X 8 [some (.ref 93), some (.int x), some (.int (nI i))] [] M9 := by
    intro n
    induction n with
    | zero => intro i x h1; omega
    | succ n ih =>
      intro i x h1 h2 hx
      subst hx
      refine j_iload_n h 9 rfl rfl dX11_nightOfAll_8 ?_
      refine j_iconst h 10 rfl (nI 5) (by decide) dX11_nightOfAll_9 ?_
      refine j_icmp_geN h 39 13 (by omega) (by omega) dX11_nightOfAll_10 (by decide) rfl (fun c_10 => ?_) (fun c_10 => ?_)
      · skip
        refine j_iload_n h 40 rfl rfl dX11_nightOfAll_39 ?_
        exact j_ret h hr rfl dX11_nightOfAll_40 ⟨_, rfl, by rw [show i = 5 by omega]; rfl, hM9⟩
      · skip
        have K31 : ∀ y, naS (P 15) (nT P) i + y = naS (P 15) (nT P) (i + 1) → J X 31 [some (.ref 93), some (.int (naS (P 15) (nT P) i)), some (.int (nI i))] [.int y, .int (naS (P 15) (nT P) i)] M9 := by
          intro y hy
          refine j_iadd h 32 rfl dX11_nightOfAll_31 ?_
          refine j_istore_n h 33 rfl rfl dX11_nightOfAll_32 ?_
          refine j_iincN h 36 rfl rfl rfl dX11_nightOfAll_33 ?_
          refine j_goto h 8 dX11_nightOfAll_36 (by decide) ?_
          exact ih (i + 1) _ (by omega) (by omega) hy
        refine j_iload_n h 14 rfl rfl dX11_nightOfAll_13 ?_
        refine j_aload_n h 15 rfl rfl dX11_nightOfAll_14 ?_
        refine j_iload_n h 16 rfl rfl dX11_nightOfAll_15 ?_
        refine j_callVI h 19 rfl lkX11_222 sh_93 rfl rfl (t_X11_isRoom _ _) rfl rfl rfl dX11_nightOfAll_16 ?_
        refine j_top (hb_tld (mP_cg hM9.1 hP) (by omega)) ?_
        refine j_if_eqB h 30 22 dX11_nightOfAll_19 (by decide) rfl (fun c_19 => ?_) (fun c_19 => ?_)
        · skip
          refine j_iconst h 31 rfl (nI 0) (by decide) dX11_nightOfAll_30 ?_
          exact K31 _ (by first | exact naS_t c_19 | (rw [nI_0, Int32.add_zero]; exact naS_f (Decidable.not_not.mp c_19)))
        · skip
          refine j_aload_n h 23 rfl rfl dX11_nightOfAll_22 ?_
          refine j_iload_n h 24 rfl rfl dX11_nightOfAll_23 ?_
          refine j_callVI h 27 rfl lkX11_250 sh_93 rfl rfl (t_X11_nightOf _ _ (by omega)) rfl rfl rfl dX11_nightOfAll_24 ?_
          refine j_top (mw_night hM9 (by omega) c_19) ?_
          refine j_goto h 31 dX11_nightOfAll_27 (by decide) ?_
          exact K31 _ (by first | exact naS_t c_19 | (rw [nI_0, Int32.add_zero]; exact naS_f (Decidable.not_not.mp c_19)))
  exact L 6 0 _ (by omega) (by omega) rfl
