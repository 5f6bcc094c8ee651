/-! HotWeek: what takes trying; what is told by numbers -/
theorem frC_trans {A B C : hM} (h1 : frC A B) (h2 : frC B C) : frC A C := ⟨fun a ha => (h2.1 a ha).trans (h1.1 a ha), h2.2.1.trans h1.2.1, h2.2.2.1.trans h1.2.2.1, h2.2.2.2⟩
theorem pers_h {a : Nat} (h1 : 14 ≤ a) (h2 : a < 29) : pers a := by unfold pers; omega
/-- scratch cells alone are changed -/
def frS (M M2 : hM) : Prop := (∀ a, (a < 29 ∨ (39 < a ∧ a < 59) ∨ (77 < a ∧ ¬ a = 79 ∧ ¬ a = 84 ∧ ¬ a = 91 ∧ ¬ a = 92)) → M2 a = M a) ∧ M2 79 4 = M 79 4 ∧ M2 84 3 = M 84 3
theorem frS_C {M M2 : hM} (hc : caO M) (h : frS M M2) : frC M M2 := frC_of hc (fun a ha => h.1 a (by unfold pers at ha; omega)) h.2.1 h.2.2 (by rw [h.1 0 (by omega)]) (fun a x y => h.1 a (by omega)) (h.1 78 (by omega))

theorem pl_hab {N P : hM} {k : Nat} {x : Int32} (h : plEq N P) : plEq (mu N 30 k x) (mu P 30 k x) := by
  refine ⟨fun a ha hb => by rw [mu_f (by omega), mu_f (by omega)]; exact h.1 a ha hb, by rw [mu_f (by omega), mu_f (by omega)]; exact h.2.1, by rw [mu_f (by omega), mu_f (by omega)]; exact h.2.2.1, fun r hr => ⟨?_, by rw [mu_f (by omega), mu_f (by omega)]; exact (h.2.2.2.1 r hr).2.1, by rw [mu_f (by omega), mu_f (by omega)]; exact (h.2.2.2.1 r hr).2.2.1, fun j hj => by rw [mu_f (by omega), mu_f (by omega)]; exact (h.2.2.2.1 r hr).2.2.2 j hj⟩, fun n hn => by rw [mu_f (by omega), mu_f (by omega)]; exact h.2.2.2.2 n hn⟩
  by_cases e : r = k
  · subst e; rw [mu_s, mu_s]
  · rw [mu_k e, mu_k e]; exact (h.2.2.2.1 r hr).1
set_option maxRecDepth 100000 in
set_option maxHeartbeats 4000000 in
theorem t_X10_costs (M : hM) (x : Int32) (hca : caO M) : Ct 7 mX10_costs [.ref 0, .int x] M (pX (fun z M2 => z = sCosts M x ∧ frC M M2)) := by
  refine ct_of (lv := [some (.ref 0), some (.int x)]) (by decide +kernel) (fun _ _ hq => hq) rfl (fun _ => Nat.le_of_ble_eq_true rfl) (fun X h hr => ?_)
  refine j_aload_n h 1 rfl rfl dX10_costs_0 ?_
  refine j_getR h 4 rfl glX10_26 sh_0 rfl dX10_costs_1 ?_
  refine j_iload_n h 5 rfl rfl dX10_costs_4 ?_
  refine j_callVI h 8 rfl lkX10_129 sh_14 rfl rfl (t_isTold _ _) rfl rfl rfl dX10_costs_5 ?_
  refine j_if_neB h 14 11 dX10_costs_8 (by decide) rfl (fun c_8 => ?_) (fun c_8 => ?_)
  · obtain ⟨k, hk, rfl⟩ := (in_nat (by decide)).mp c_8.1
    have etn : tn (nI k) = k := tn_nI (by omega)
    have htd : ¬ planOf M 15 k = 0 := by have := c_8.2; rw [etn] at this; exact this
    refine j_aload_n h 15 rfl rfl dX10_costs_14 ?_
    refine j_getR h 18 rfl glX10_33 sh_0 rfl dX10_costs_15 ?_
    refine j_aload_n h 19 rfl rfl dX10_costs_18 ?_
    refine j_getR h 22 rfl glX10_26 sh_0 rfl dX10_costs_19 ?_
    refine j_callVV h 25 rfl lkX10_189 sh_29 rfl rfl (t_X4_takeFrom _) rfl rfl rfl dX10_costs_22 (fun M3 hM3 => ?_)
    refine j_aload_n h 26 rfl rfl dX10_costs_25 ?_
    refine j_getR h 29 rfl glX10_33 sh_0 rfl dX10_costs_26 ?_
    refine j_iload_n h 30 rfl rfl dX10_costs_29 ?_
    refine j_iconst h 31 rfl (nI 1) (by decide) dX10_costs_30 ?_
    refine j_callVV h 34 rfl lkX10_193 sh_29 rfl rfl (t_X4_putHabit _ _ _ (by omega)) rfl rfl rfl dX10_costs_31 (fun M4 hM4 => ?_)
    subst hM4
    refine j_aload_n h 35 rfl rfl dX10_costs_34 ?_
    refine j_getR h 38 rfl glX10_44 sh_0 rfl dX10_costs_35 ?_
    refine j_aload_n h 39 rfl rfl dX10_costs_38 ?_
    refine j_getR h 42 rfl glX10_26 sh_0 rfl dX10_costs_39 ?_
    refine j_aload_n h 43 rfl rfl dX10_costs_42 ?_
    refine j_getR h 46 rfl glX10_33 sh_0 rfl dX10_costs_43 ?_
    refine j_callVV h 49 rfl lkX10_197 sh_59 rfl rfl (t_X1_run _ 59 (Or.inr rfl)) rfl rfl rfl dX10_costs_46 (fun M5 hM5 => ?_)
    have hpl := pl_hab (k := k) (x := nI 1) hM3.2
    have hcr := run_crs hpl hM5
    have f5 : ∀ a, (a < 29 ∨ (39 < a ∧ a < 63) ∨ 78 ≤ a) → M5 a = M a := fun a ha => by rw [hM5.1 a (by omega), mu_f (by omega)]; exact hM3.1 a (by omega)
    have hca5 : caO M5 := (frC_of hca (fun a ha => f5 a (by unfold pers at ha; omega)) (by rw [f5 79 (by omega)]) (by rw [f5 84 (by omega)]) (by rw [f5 0 (by omega)]) (fun a x y => f5 a (by omega)) (f5 78 (by omega))).2.2.2
    have hfr5 : frC M M5 := frC_of hca (fun a ha => f5 a (by unfold pers at ha; omega)) (by rw [f5 79 (by omega)]) (by rw [f5 84 (by omega)]) (by rw [f5 0 (by omega)]) (fun a x y => f5 a (by omega)) (f5 78 (by omega))
    refine j_ldc h 51 rfl (nI 10000000) cnX10_201 dX10_costs_49 ?_
    refine j_aload_n h 52 rfl rfl dX10_costs_51 ?_
    refine j_callVY h 55 rfl lkX10_166 sh_0 rfl rfl (t_X10_courseAsTold _ hca5.1) rfl rfl rfl dX10_costs_52 (fun x9 M9 hM9 => ?_)
    obtain ⟨rfl, hcat⟩ := hM9
    obtain ⟨hfr, epl⟩ := frC_cat hca5 hcat
    refine j_aload_n h 56 rfl rfl dX10_costs_55 ?_
    refine j_getR h 59 rfl glX10_26 sh_0 rfl dX10_costs_56 ?_
    refine j_callVI h 62 rfl lkX10_179 sh_40 rfl rfl (t_X1_nightOfAll _ 40 (Or.inl rfl)) rfl rfl rfl dX10_costs_59 ?_
    refine j_iadd h 63 rfl dX10_costs_62 ?_
    refine j_aload_n h 64 rfl rfl dX10_costs_63 ?_
    refine j_getR h 67 rfl glX10_44 sh_0 rfl dX10_costs_64 ?_
    refine j_aload_n h 68 rfl rfl dX10_costs_67 ?_
    refine j_getR h 71 rfl glX10_26 sh_0 rfl dX10_costs_68 ?_
    refine j_callVI h 74 rfl lkX10_179 sh_59 rfl rfl (t_X1_nightOfAll _ 59 (Or.inr rfl)) rfl rfl rfl dX10_costs_71 ?_
    refine j_isub h 75 rfl dX10_costs_74 ?_
    exact j_ret h hr rfl dX10_costs_75 ⟨_, rfl, by 
      have e9 : ∀ r, M9 15 r = planOf M 15 r := fun r => by rw [hfr.1 15 (by unfold pers; omega), f5 15 (by omega)]; rfl
      have ePl : planOf M5 = planOf M := planOf_cg (fun a x y => f5 a (by omega))
      have h1 := hcat.2.2.1
      rw [ePl] at h1
      have e1 := crs_all h1 (fun r _ => e9 r)
      have f9 : ∀ a, 59 ≤ a → a < 78 → M9 a = M5 a := fun a x y => ((hcat.1 a).resolve_left (by omega)).resolve_left (by omega)
      have h2 : crsP (mu (planOf M) 30 k (nI 1)) 59 M9 := fun r hr ht => by
        obtain ⟨b1, b2⟩ := hcr r hr ht
        exact ⟨fun j hj => by rw [f9 (59 + 4 + r) (by omega) (by omega), f9 (59 + 9 + r) (by omega) (by omega)]; exact b1 j hj, fun j hj => by rw [f9 (59 + 14 + r) (by omega) (by omega)]; exact b2 j hj⟩
      have e2 := crs_all h2 (fun r _ => by rw [mu_f (show (15 : Nat) ≠ 30 by omega)]; exact e9 r)
      exact ⟨by unfold sCosts; rw [if_pos c_8, etn, e1, e2], frC_trans hfr5 hfr⟩⟩
  · skip
    refine j_bipush h 13 rfl (-2) (by decide) dX10_costs_11 ?_
    exact j_ret h hr rfl dX10_costs_13 ⟨_, rfl, by exact ⟨(if_neg c_8).symm, frC_same hca⟩⟩
set_option maxRecDepth 100000 in
set_option maxHeartbeats 4000000 in
theorem t_X10_clock (M : hM) (x : Int32) (hca : caO M) : Ct 7 mX10_clock [.ref 0, .int x] M (pX (fun z M2 => z = sClock M x ∧ frC M M2)) := by
  refine ct_of (lv := [some (.ref 0), some (.int x)]) (by decide +kernel) (fun _ _ hq => hq) rfl (fun _ => Nat.le_of_ble_eq_true rfl) (fun X h hr => ?_)
  refine j_iload_n h 1 rfl rfl dX10_clock_0 ?_
  refine j_iconst h 2 rfl (nI 0) (by decide) dX10_clock_1 ?_
  refine j_iconst h 3 rfl (nI 3) (by decide) dX10_clock_2 ?_
  refine j_callSI h 6 rfl lkX10_86 rfl (t_X10_isWithin _ _ _ _) rfl rfl rfl dX10_clock_3 ?_
  refine j_if_neB h 12 9 dX10_clock_6 (by decide) rfl (fun c_6 => ?_) (fun c_6 => ?_)
  · skip
    refine j_aload_n h 13 rfl rfl dX10_clock_12 ?_
    refine j_getR h 16 rfl glX10_50 sh_0 rfl dX10_clock_13 ?_
    refine j_aload_n h 17 rfl rfl dX10_clock_16 ?_
    refine j_getR h 20 rfl glX10_26 sh_0 rfl dX10_clock_17 ?_
    refine j_aload_n h 21 rfl rfl dX10_clock_20 ?_
    refine j_getR h 24 rfl glX10_33 sh_0 rfl dX10_clock_21 ?_
    refine j_aload_n h 25 rfl rfl dX10_clock_24 ?_
    refine j_getR h 28 rfl glX10_44 sh_0 rfl dX10_clock_25 ?_
    refine j_callVV h 31 rfl lkX10_202 sh_78 rfl rfl (t_X0_find _) rfl rfl rfl dX10_clock_28 (fun M9 hM9 => ?_)
    have hb : bstOk M M9 ∧ frC M M9 := by
      rcases hM9 with ⟨h0, rfl⟩ | ⟨h0, h1, h2, h3⟩
      · exact ⟨hca.2 h0, frC_same hca⟩
      · have hh : ∀ a, 14 ≤ a → a < 29 → M9 a = M a := fun a x y => h1 a (by omega)
        refine ⟨h3, fun a ha => h1 a (by unfold pers at ha; omega), by rw [h1 79 (by omega)], by rw [h1 84 (by omega)], fun z => ?_, fun _ => bst_cg (M2 := M9) hh rfl h3⟩
        rw [h1 0 (by omega)] at z ⊢
        exact ⟨(hca.1 z).1, toldOk_cg hh (fun a x y => h1 a (by omega)) (hca.1 z).2⟩
    obtain ⟨⟨b4, b1, b2, b3⟩, hfr⟩ := hb
    refine j_iload_n h 32 rfl rfl dX10_clock_31 ?_
    refine j_tsw h 84 0 [60, 68, 76] dX10_clock_32 (by decide) (by decide) (by decide) (by decide) (by decide) (fun i9 t9 ht9 c_32 => ?_) (fun c_32 => ?_)
    · match i9, ht9 with
      | 0, ht9 =>
        cases ht9
        refine j_aload_n h 61 rfl rfl dX10_clock_60 ?_
        refine j_getR h 64 rfl glX10_50 sh_0 rfl dX10_clock_61 ?_
        refine j_callVI h 67 rfl lkX10_206 sh_78 rfl rfl (t_X0_from _) rfl rfl rfl dX10_clock_64 ?_
        exact j_ret h hr rfl dX10_clock_67 ⟨_, rfl, by exact ⟨by unfold sClock; rw [if_pos c_6, c_32, b1]; rfl, hfr⟩⟩
      | 1, ht9 =>
        cases ht9
        refine j_aload_n h 69 rfl rfl dX10_clock_68 ?_
        refine j_getR h 72 rfl glX10_50 sh_0 rfl dX10_clock_69 ?_
        refine j_callVI h 75 rfl lkX10_209 sh_78 rfl rfl (t_X0_to _) rfl rfl rfl dX10_clock_72 ?_
        exact j_ret h hr rfl dX10_clock_75 ⟨_, rfl, by exact ⟨by unfold sClock; rw [if_pos c_6, c_32, b2]; rfl, hfr⟩⟩
      | 2, ht9 =>
        cases ht9
        refine j_aload_n h 77 rfl rfl dX10_clock_76 ?_
        refine j_getR h 80 rfl glX10_50 sh_0 rfl dX10_clock_77 ?_
        refine j_callVI h 83 rfl lkX10_212 sh_78 rfl rfl (t_X0_nightOfAll _) rfl rfl rfl dX10_clock_80 ?_
        exact j_ret h hr rfl dX10_clock_83 ⟨_, rfl, by exact ⟨by unfold sClock; rw [if_pos c_6, c_32, b3]; rfl, hfr⟩⟩
      | n9 + 3, ht9 => cases ht9
    · skip
      refine j_ldc h 86 rfl (nI 10000000) cnX10_201 dX10_clock_84 ?_
      refine j_aload_n h 87 rfl rfl dX10_clock_86 ?_
      refine j_getR h 90 rfl glX10_50 sh_0 rfl dX10_clock_87 ?_
      refine j_callVI h 93 rfl lkX10_214 sh_78 rfl rfl (t_X0_near _) rfl rfl rfl dX10_clock_90 ?_
      refine j_iadd h 94 rfl dX10_clock_93 ?_
      exact j_ret h hr rfl dX10_clock_94 ⟨_, rfl, by exact ⟨by have t0 := tsw_out (by decide) c_32 0 (by decide); have t1 := tsw_out (by decide) c_32 1 (by decide); have t2 := tsw_out (by decide) c_32 2 (by decide); unfold sClock; rw [if_pos c_6]; unfold ckV; rw [if_neg t0, if_neg t1, if_neg t2, b3, b4], hfr⟩⟩
  · skip
    refine j_bipush h 11 rfl (-3) (by decide) dX10_clock_9 ?_
    exact j_ret h hr rfl dX10_clock_11 ⟨_, rfl, by exact ⟨(if_neg c_6).symm, frC_same hca⟩⟩
set_option maxRecDepth 100000 in
set_option maxHeartbeats 4000000 in
theorem t_X10_works (M : hM) (s x : Int32) (hca : caO M) (n : Nat) (hn : n ≤ 6) (en : M 79 4 = nI n) (hrm : ∀ i, i < n → ∃ r, r < 5 ∧ M 80 i = nI r) : Ct 7 mX10_works [.ref 0, .int s, .int x] M (pX (fun z M2 => z = sWorks M n s x ∧ frC M M2)) := by
  refine ct_of (lv := [some (.ref 0), some (.int s), some (.int x)]) (by decide +kernel) (fun _ _ hq => hq) rfl (fun _ => Nat.le_of_ble_eq_true rfl) (fun X h hr => ?_)
  refine j_iload_n h 1 rfl rfl dX10_works_0 ?_
  refine j_iconst h 2 rfl (nI 0) (by decide) dX10_works_1 ?_
  refine j_sipush h 5 rfl (nI 9999) (by decide) dX10_works_2 ?_
  refine j_callSI h 8 rfl lkX10_86 rfl (t_X10_isWithin _ _ _ _) rfl rfl rfl dX10_works_5 ?_
  refine j_if_eqB h 20 11 dX10_works_8 (by decide) rfl (fun c_8 => ?_) (fun c_8 => ?_)
  · skip
    refine j_bipush h 22 rfl (-3) (by decide) dX10_works_20 ?_
    exact j_ret h hr rfl dX10_works_22 ⟨_, rfl, by exact ⟨by unfold sWorks; rw [if_neg]; rintro ⟨z1, z2⟩; first | exact c_8 z1 | exact c_17 z2, frC_same hca⟩⟩
  · skip
    refine j_iload_n h 12 rfl rfl dX10_works_11 ?_
    refine j_iconst h 13 rfl (nI 0) (by decide) dX10_works_12 ?_
    refine j_iconst h 14 rfl (nI 1) (by decide) dX10_works_13 ?_
    refine j_callSI h 17 rfl lkX10_86 rfl (t_X10_isWithin _ _ _ _) rfl rfl rfl dX10_works_14 ?_
    refine j_if_neB h 23 20 dX10_works_17 (by decide) rfl (fun c_17 => ?_) (fun c_17 => ?_)
    · skip
      refine j_aload_n h 24 rfl rfl dX10_works_23 ?_
      refine j_getR h 27 rfl glX10_57 sh_0 rfl dX10_works_24 ?_
      refine j_iload_n h 28 rfl rfl dX10_works_27 ?_
      refine j_aload_n h 29 rfl rfl dX10_works_28 ?_
      refine j_getR h 32 rfl glX10_26 sh_0 rfl dX10_works_29 ?_
      refine j_aload_n h 33 rfl rfl dX10_works_32 ?_
      refine j_getR h 36 rfl glX10_33 sh_0 rfl dX10_works_33 ?_
      refine j_aload_n h 37 rfl rfl dX10_works_36 ?_
      refine j_getR h 40 rfl glX10_44 sh_0 rfl dX10_works_37 ?_
      refine j_callVV h 43 rfl lkX10_224 sh_79 rfl rfl (t_X9_findFor _ _ n c_8.1 hn en hrm) rfl rfl rfl dX10_works_40 (fun M9 hM9 => ?_)
      have hp2 : 0 < 2 ^ n := Nat.two_pow_pos n
      obtain ⟨b5, b6⟩ := hM9.2.2 hp2
      have hfr : frC M M9 := frS_C hca ⟨fun a ha => hM9.1.1 a (by omega), hM9.1.2 4 (by decide) (by decide), by rw [hM9.1.1 84 (by omega)]⟩
      refine j_iload_n h 44 rfl rfl dX10_works_43 ?_
      refine j_if_ne h 57 47 dX10_works_44 (by decide) rfl (fun c_44 => ?_) (fun c_44 => ?_)
      · skip
        refine j_aload_n h 58 rfl rfl dX10_works_57 ?_
        refine j_getR h 61 rfl glX10_57 sh_0 rfl dX10_works_58 ?_
        refine j_callVI h 64 rfl lkX10_231 sh_79 rfl rfl (t_X9_bestNight _) rfl rfl rfl dX10_works_61 ?_
        exact j_ret h hr rfl dX10_works_64 ⟨_, rfl, by first | exact ⟨by unfold sWorks; rw [if_pos ⟨c_8, c_17⟩, if_pos c_44, b5], hfr⟩ | exact ⟨by unfold sWorks; rw [if_pos ⟨c_8, c_17⟩, if_neg c_44, b6], hfr⟩⟩
      · skip
        refine j_aload_n h 48 rfl rfl dX10_works_47 ?_
        refine j_getR h 51 rfl glX10_57 sh_0 rfl dX10_works_48 ?_
        refine j_callVI h 54 rfl lkX10_228 sh_79 rfl rfl (t_X9_bestSet _) rfl rfl rfl dX10_works_51 ?_
        refine j_goto h 64 dX10_works_54 (by decide) ?_
        exact j_ret h hr rfl dX10_works_64 ⟨_, rfl, by first | exact ⟨by unfold sWorks; rw [if_pos ⟨c_8, c_17⟩, if_pos c_44, b5], hfr⟩ | exact ⟨by unfold sWorks; rw [if_pos ⟨c_8, c_17⟩, if_neg c_44, b6], hfr⟩⟩
    · skip
      refine j_bipush h 22 rfl (-3) (by decide) dX10_works_20 ?_
      exact j_ret h hr rfl dX10_works_22 ⟨_, rfl, by exact ⟨by unfold sWorks; rw [if_neg]; rintro ⟨z1, z2⟩; first | exact c_8 z1 | exact c_17 z2, frC_same hca⟩⟩
set_option maxRecDepth 100000 in
set_option maxHeartbeats 4000000 in
theorem t_X10_learnt (M : hM) (t x : Int32) (hca : caO M) (g : Nat) (rm hr0 : Nat → Nat) (hg : g ≤ 8) (eg : M 84 3 = nI g) (hrow : ∀ i, i < g → M 85 i = nI (rm i) ∧ rm i < 5 ∧ M 86 i = nI (hr0 i) ∧ hr0 i < 96) : Ct 7 mX10_learnt [.ref 0, .int t, .int x] M (pX (fun z M2 => z = sLearnt M g rm hr0 t x ∧ frC M M2)) := by
  refine ct_of (lv := [some (.ref 0), some (.int t), some (.int x)]) (by decide +kernel) (fun _ _ hq => hq) rfl (fun _ => Nat.le_of_ble_eq_true rfl) (fun X h hr => ?_)
  refine j_iload_n h 1 rfl rfl dX10_learnt_0 ?_
  refine j_iconst h 2 rfl (nI 0) (by decide) dX10_learnt_1 ?_
  refine j_sipush h 5 rfl (nI 999) (by decide) dX10_learnt_2 ?_
  refine j_callSI h 8 rfl lkX10_86 rfl (t_X10_isWithin _ _ _ _) rfl rfl rfl dX10_learnt_5 ?_
  refine j_if_eqB h 20 11 dX10_learnt_8 (by decide) rfl (fun c_8 => ?_) (fun c_8 => ?_)
  · skip
    refine j_bipush h 22 rfl (-3) (by decide) dX10_learnt_20 ?_
    exact j_ret h hr rfl dX10_learnt_22 ⟨_, rfl, by exact ⟨by unfold sLearnt; rw [if_neg]; rintro ⟨z1, z2⟩; first | exact c_8 z1 | exact c_17 z2, frC_same hca⟩⟩
  · skip
    refine j_iload_n h 12 rfl rfl dX10_learnt_11 ?_
    refine j_iconst h 13 rfl (nI 0) (by decide) dX10_learnt_12 ?_
    refine j_iconst h 14 rfl (nI 4) (by decide) dX10_learnt_13 ?_
    refine j_callSI h 17 rfl lkX10_86 rfl (t_X10_isWithin _ _ _ _) rfl rfl rfl dX10_learnt_14 ?_
    refine j_if_neB h 23 20 dX10_learnt_17 (by decide) rfl (fun c_17 => ?_) (fun c_17 => ?_)
    · skip
      refine j_aload_n h 24 rfl rfl dX10_learnt_23 ?_
      refine j_getR h 27 rfl glX10_64 sh_0 rfl dX10_learnt_24 ?_
      refine j_iload_n h 28 rfl rfl dX10_learnt_27 ?_
      refine j_aload_n h 29 rfl rfl dX10_learnt_28 ?_
      refine j_getR h 32 rfl glX10_26 sh_0 rfl dX10_learnt_29 ?_
      refine j_aload_n h 33 rfl rfl dX10_learnt_32 ?_
      refine j_getR h 36 rfl glX10_33 sh_0 rfl dX10_learnt_33 ?_
      refine j_aload_n h 37 rfl rfl dX10_learnt_36 ?_
      refine j_getR h 40 rfl glX10_44 sh_0 rfl dX10_learnt_37 ?_
      refine j_callVV h 43 rfl lkX10_238 sh_84 rfl rfl (t_X2_learn _ _ g rm hr0 hg eg hrow) rfl rfl rfl dX10_learnt_40 (fun M9 hM9 => ?_)
      obtain ⟨b4, bs⟩ := hM9.2.2
      have bl := lnS_b (f := fun k => hlB (lawP M (5 * (k / 9)) (5 * (k % 9))) t rm hr0 (M 87) g) 81 (Nat.le_refl 81)
      have hfr : frC M M9 := frS_C hca ⟨fun a ha => hM9.1.1 a (by omega), by rw [hM9.1.1 79 (by omega)], hM9.1.2 3 (by decide)⟩
      change M9 84 4 = nI (lnH M g rm hr0 t).1 at b4
      change 0 < (lnH M g rm hr0 t).1 → M9 84 5 = nI (lnH M g rm hr0 t).2.1 ∧ M9 84 6 = nI (lnH M g rm hr0 t).2.2.1 ∧ M9 84 7 = nI (lnH M g rm hr0 t).2.2.2.1 ∧ M9 84 8 = nI (lnH M g rm hr0 t).2.2.2.2 at bs
      change (lnH M g rm hr0 t).1 ≤ 81 ∧ _ at bl
      refine j_iload_n h 44 rfl rfl dX10_learnt_43 ?_
      refine j_if_ne h 55 47 dX10_learnt_44 (by decide) rfl (fun c_44 => ?_) (fun c_44 => ?_)
      · skip
        refine j_aload_n h 56 rfl rfl dX10_learnt_55 ?_
        refine j_getR h 59 rfl glX10_64 sh_0 rfl dX10_learnt_56 ?_
        refine j_callVI h 62 rfl lkX10_241 sh_84 rfl rfl (t_X2_laws _) rfl rfl rfl dX10_learnt_59 ?_
        refine j_top b4 ?_
        refine j_if_neN h 69 65 (by omega) dX10_learnt_62 (by decide) rfl (fun c_62 => ?_) (fun c_62 => ?_)
        · skip
          obtain ⟨k, hk, rfl⟩ := (in_nat (by decide)).mp c_17
          have hk0 : ¬ k = 0 := fun z => c_44 (by rw [z]; rfl)
          refine j_aload_n h 70 rfl rfl dX10_learnt_69 ?_
          refine j_getR h 73 rfl glX10_64 sh_0 rfl dX10_learnt_70 ?_
          refine j_iload_n h 74 rfl rfl dX10_learnt_73 ?_
          refine j_callVI h 77 rfl lkX10_244 sh_84 rfl rfl (t_X2_bound _ k (by omega) (by omega)) rfl rfl rfl dX10_learnt_74 ?_
          exact j_ret h hr rfl dX10_learnt_77 ⟨_, rfl, by 
      first
        | exact ⟨by unfold sLearnt; rw [if_pos ⟨c_8, c_17⟩]; unfold lnV; rw [if_neg c_44, if_pos c_62], hfr⟩
        | (refine ⟨?_, hfr⟩
           obtain ⟨d1, d2, d3, d4⟩ := bs (by omega)
           unfold sLearnt; rw [if_pos ⟨c_8, c_17⟩]; unfold lnV; rw [if_neg c_44, if_neg c_62]
           rcases (by omega : k = 1 ∨ k = 2 ∨ k = 3 ∨ k = 4) with rfl | rfl | rfl | rfl
           · rw [if_pos rfl]; exact d1
           · rw [if_neg (by decide), if_pos rfl]; exact d2
           · rw [if_neg (by decide), if_neg (by decide), if_pos rfl]; exact d3
           · rw [if_neg (by decide), if_neg (by decide), if_neg (by decide)]; exact d4)⟩
        · skip
          refine j_iconst h 66 rfl (-1) (by decide) dX10_learnt_65 ?_
          refine j_goto h 77 dX10_learnt_66 (by decide) ?_
          exact j_ret h hr rfl dX10_learnt_77 ⟨_, rfl, by 
      first
        | exact ⟨by unfold sLearnt; rw [if_pos ⟨c_8, c_17⟩]; unfold lnV; rw [if_neg c_44, if_pos c_62], hfr⟩
        | (refine ⟨?_, hfr⟩
           obtain ⟨d1, d2, d3, d4⟩ := bs (by omega)
           unfold sLearnt; rw [if_pos ⟨c_8, c_17⟩]; unfold lnV; rw [if_neg c_44, if_neg c_62]
           rcases (by omega : k = 1 ∨ k = 2 ∨ k = 3 ∨ k = 4) with rfl | rfl | rfl | rfl
           · rw [if_pos rfl]; exact d1
           · rw [if_neg (by decide), if_pos rfl]; exact d2
           · rw [if_neg (by decide), if_neg (by decide), if_pos rfl]; exact d3
           · rw [if_neg (by decide), if_neg (by decide), if_neg (by decide)]; exact d4)⟩
      · skip
        refine j_aload_n h 48 rfl rfl dX10_learnt_47 ?_
        refine j_getR h 51 rfl glX10_64 sh_0 rfl dX10_learnt_48 ?_
        refine j_callVI h 54 rfl lkX10_241 sh_84 rfl rfl (t_X2_laws _) rfl rfl rfl dX10_learnt_51 ?_
        rw [b4]
        exact j_ret h hr rfl dX10_learnt_54 ⟨_, rfl, by exact ⟨by unfold sLearnt; rw [if_pos ⟨c_8, c_17⟩]; unfold lnV; rw [if_pos c_44], hfr⟩⟩
    · skip
      refine j_bipush h 22 rfl (-3) (by decide) dX10_learnt_20 ?_
      exact j_ret h hr rfl dX10_learnt_22 ⟨_, rfl, by exact ⟨by unfold sLearnt; rw [if_neg]; rintro ⟨z1, z2⟩; first | exact c_8 z1 | exact c_17 z2, frC_same hca⟩⟩
set_option maxRecDepth 100000 in
set_option maxHeartbeats 4000000 in
theorem t_X10_ring (M : hM) (x : Int32) (hca : caO M) (wt du : Nat → Nat) (hfl : flE M wt du) : Ct 5 mX10_ring [.ref 0, .int x] M (pX (fun z M2 => z = sRing wt du x ∧ frC M M2)) := by
  refine ct_of (lv := [some (.ref 0), some (.int x)]) (by decide +kernel) (fun _ _ hq => hq) rfl (fun _ => Nat.le_of_ble_eq_true rfl) (fun X h hr => ?_)
  refine j_iload_n h 1 rfl rfl dX10_ring_0 ?_
  refine j_iconst h 2 rfl (-1) (by decide) dX10_ring_1 ?_
  refine j_icmp_ge h 8 5 dX10_ring_2 (by decide) rfl (fun c_2 => ?_) (fun c_2 => ?_)
  · skip
    refine j_aload_n h 9 rfl rfl dX10_ring_8 ?_
    refine j_getR h 12 rfl glX10_71 sh_0 rfl dX10_ring_9 ?_
    refine j_callVV h 15 rfl lkX10_250 sh_88 rfl rfl (t_X6_weigh _ wt du hfl) rfl rfl rfl dX10_ring_12 (fun M9 hM9 => ?_)
    have hfl9 := flE_cg hfl (hM9.1 89 (by decide)) (hM9.1 90 (by decide))
    have hfr : frC M M9 := frS_C hca ⟨fun a ha => hM9.1 a (by omega), by rw [hM9.1 79 (by omega)], by rw [hM9.1 84 (by omega)]⟩
    refine j_iload_n h 16 rfl rfl dX10_ring_15 ?_
    refine j_iconst h 17 rfl (-1) (by decide) dX10_ring_16 ?_
    refine j_icmp_ne h 30 20 dX10_ring_17 (by decide) rfl (fun c_17 => ?_) (fun c_17 => ?_)
    · skip
      obtain ⟨k, hk, rfl⟩ : ∃ k, k < 2 ^ 31 ∧ x = nI k := nI_of (by
        intro z
        have g1 := Int32.le_iff_toInt_le.mp c_2
        have g2 := Int32.lt_iff_toInt_lt.mp z
        have g3 : (-1 : Int32).toInt = -1 := by decide
        have g4 : (0 : Int32).toInt = 0 := by decide
        exact c_17 (Int32.toInt_inj.mp (by omega)))
      refine j_aload_n h 31 rfl rfl dX10_ring_30 ?_
      refine j_getR h 34 rfl glX10_71 sh_0 rfl dX10_ring_31 ?_
      refine j_iload_n h 35 rfl rfl dX10_ring_34 ?_
      refine j_callVI h 38 rfl lkX10_256 sh_88 rfl rfl (t_X6_flatAt _ wt du hfl9 hM9.2 k hk) rfl rfl rfl dX10_ring_35 ?_
      exact j_ret h hr rfl dX10_ring_38 ⟨_, rfl, by first | exact ⟨by unfold sRing; rw [if_neg (fun z => z c_2), if_pos c_17], hfr⟩ | exact ⟨by unfold sRing; rw [if_neg (fun z => z c_2), if_neg c_17, tn_nI hk], hfr⟩⟩
    · skip
      refine j_aload_n h 21 rfl rfl dX10_ring_20 ?_
      refine j_getR h 24 rfl glX10_71 sh_0 rfl dX10_ring_21 ?_
      refine j_callVI h 27 rfl lkX10_253 sh_88 rfl rfl (t_X6_lost _ wt du hfl9 hM9.2) rfl rfl rfl dX10_ring_24 ?_
      refine j_goto h 38 dX10_ring_27 (by decide) ?_
      exact j_ret h hr rfl dX10_ring_38 ⟨_, rfl, by first | exact ⟨by unfold sRing; rw [if_neg (fun z => z c_2), if_pos c_17], hfr⟩ | exact ⟨by unfold sRing; rw [if_neg (fun z => z c_2), if_neg c_17, tn_nI hk], hfr⟩⟩
  · skip
    refine j_bipush h 7 rfl (-3) (by decide) dX10_ring_5 ?_
    exact j_ret h hr rfl dX10_ring_7 ⟨_, rfl, by exact ⟨by unfold sRing; rw [if_pos c_2], frC_same hca⟩⟩
set_option maxRecDepth 100000 in
set_option maxHeartbeats 4000000 in
theorem t_X10_street (M : hM) (n c w p x : Int32) (hca : caO M) : Ct 5 mX10_street [.ref 0, .int n, .int c, .int w, .int p, .int x] M (pX (fun z M2 => z = sStreet n c w p x ∧ frC M M2)) := by
  refine ct_of (lv := [some (.ref 0), some (.int n), some (.int c), some (.int w), some (.int p), some (.int x)]) (by decide +kernel) (fun _ _ hq => hq) rfl (fun _ => Nat.le_of_ble_eq_true rfl) (fun X h hr => ?_)
  refine j_iload_n h 1 rfl rfl dX10_street_0 ?_
  refine j_iconst h 2 rfl (nI 1) (by decide) dX10_street_1 ?_
  refine j_bipush h 4 rfl (nI 8) (by decide) dX10_street_2 ?_
  refine j_callSI h 7 rfl lkX10_86 rfl (t_X10_isWithin _ _ _ _) rfl rfl rfl dX10_street_4 ?_
  refine j_if_eqB h 51 10 dX10_street_7 (by decide) rfl (fun c_7 => ?_) (fun c_7 => ?_)
  · skip
    refine j_bipush h 53 rfl (-3) (by decide) dX10_street_51 ?_
    exact j_ret h hr rfl dX10_street_53 ⟨_, rfl, by exact ⟨by unfold sStreet; rw [if_neg]; rintro ⟨z1, z2, z3, z4, z5⟩; first | exact c_7 z1 | exact c_17 z2 | exact c_27 z3 | exact c_38 z4 | exact c_48 z5, frC_same hca⟩⟩
  · skip
    refine j_iload_n h 11 rfl rfl dX10_street_10 ?_
    refine j_iconst h 12 rfl (nI 0) (by decide) dX10_street_11 ?_
    refine j_bipush h 14 rfl (nI 99) (by decide) dX10_street_12 ?_
    refine j_callSI h 17 rfl lkX10_86 rfl (t_X10_isWithin _ _ _ _) rfl rfl rfl dX10_street_14 ?_
    refine j_if_eqB h 51 20 dX10_street_17 (by decide) rfl (fun c_17 => ?_) (fun c_17 => ?_)
    · skip
      refine j_bipush h 53 rfl (-3) (by decide) dX10_street_51 ?_
      exact j_ret h hr rfl dX10_street_53 ⟨_, rfl, by exact ⟨by unfold sStreet; rw [if_neg]; rintro ⟨z1, z2, z3, z4, z5⟩; first | exact c_7 z1 | exact c_17 z2 | exact c_27 z3 | exact c_38 z4 | exact c_48 z5, frC_same hca⟩⟩
    · skip
      refine j_iload_n h 21 rfl rfl dX10_street_20 ?_
      refine j_iconst h 22 rfl (nI 0) (by decide) dX10_street_21 ?_
      refine j_bipush h 24 rfl (nI 99) (by decide) dX10_street_22 ?_
      refine j_callSI h 27 rfl lkX10_86 rfl (t_X10_isWithin _ _ _ _) rfl rfl rfl dX10_street_24 ?_
      refine j_if_eqB h 51 30 dX10_street_27 (by decide) rfl (fun c_27 => ?_) (fun c_27 => ?_)
      · skip
        refine j_bipush h 53 rfl (-3) (by decide) dX10_street_51 ?_
        exact j_ret h hr rfl dX10_street_53 ⟨_, rfl, by exact ⟨by unfold sStreet; rw [if_neg]; rintro ⟨z1, z2, z3, z4, z5⟩; first | exact c_7 z1 | exact c_17 z2 | exact c_27 z3 | exact c_38 z4 | exact c_48 z5, frC_same hca⟩⟩
      · skip
        refine j_iload h 32 rfl rfl dX10_street_30 ?_
        refine j_iconst h 33 rfl (nI 0) (by decide) dX10_street_32 ?_
        refine j_bipush h 35 rfl (nI 99) (by decide) dX10_street_33 ?_
        refine j_callSI h 38 rfl lkX10_86 rfl (t_X10_isWithin _ _ _ _) rfl rfl rfl dX10_street_35 ?_
        refine j_if_eqB h 51 41 dX10_street_38 (by decide) rfl (fun c_38 => ?_) (fun c_38 => ?_)
        · skip
          refine j_bipush h 53 rfl (-3) (by decide) dX10_street_51 ?_
          exact j_ret h hr rfl dX10_street_53 ⟨_, rfl, by exact ⟨by unfold sStreet; rw [if_neg]; rintro ⟨z1, z2, z3, z4, z5⟩; first | exact c_7 z1 | exact c_17 z2 | exact c_27 z3 | exact c_38 z4 | exact c_48 z5, frC_same hca⟩⟩
        · skip
          refine j_iload h 43 rfl rfl dX10_street_41 ?_
          refine j_iconst h 44 rfl (nI 0) (by decide) dX10_street_43 ?_
          refine j_iconst h 45 rfl (nI 3) (by decide) dX10_street_44 ?_
          refine j_callSI h 48 rfl lkX10_86 rfl (t_X10_isWithin _ _ _ _) rfl rfl rfl dX10_street_45 ?_
          refine j_if_neB h 54 51 dX10_street_48 (by decide) rfl (fun c_48 => ?_) (fun c_48 => ?_)
          · skip
            obtain ⟨k, hk1, hk, rfl⟩ : ∃ k, 1 ≤ k ∧ k ≤ 8 ∧ n = nI k := by
              obtain ⟨k, hk, e⟩ := (in_nat (n := 8) (by decide)).mp ⟨Int32.le_trans (by decide) c_7.1, c_7.2⟩
              refine ⟨k, ?_, hk, e⟩
              have g := c_7.1
              rw [e, nI_leI (by decide) (by omega)] at g
              exact g
            refine j_aload_n h 55 rfl rfl dX10_street_54 ?_
            refine j_getR h 58 rfl glX10_78 sh_0 rfl dX10_street_55 ?_
            refine j_iload_n h 59 rfl rfl dX10_street_58 ?_
            refine j_iload_n h 60 rfl rfl dX10_street_59 ?_
            refine j_iload_n h 61 rfl rfl dX10_street_60 ?_
            refine j_iload h 63 rfl rfl dX10_street_61 ?_
            refine j_callVV h 66 rfl lkX10_259 sh_92 rfl rfl (t_X7_look _ k _ _ _ hk1 hk) rfl rfl rfl dX10_street_63 (fun M9 hM9 => ?_)
            have hp2 : 0 < 2 ^ k := Nat.two_pow_pos k
            obtain ⟨b4, b5, b6, b7⟩ := hM9.2.2
            have b7 := b7 hp2
            have hle := skS_le (c := c) (w := w) (p := p) (n := k) (2 ^ k)
            have hpw : 2 ^ k ≤ 256 := by rcases (by omega : k = 1 ∨ k = 2 ∨ k = 3 ∨ k = 4 ∨ k = 5 ∨ k = 6 ∨ k = 7 ∨ k = 8) with rfl | rfl | rfl | rfl | rfl | rfl | rfl | rfl <;> decide
            have hfr : frC M M9 := frS_C hca ⟨fun a ha => hM9.1 a (by omega), by rw [hM9.1 79 (by omega)], by rw [hM9.1 84 (by omega)]⟩
            have ek : tn (nI k) = k := tn_nI (by omega)
            refine j_iload h 68 rfl rfl dX10_street_66 ?_
            refine j_tsw h 138 0 [96, 104, 112] dX10_street_68 (by decide) (by decide) (by decide) (by decide) (by decide) (fun i9 t9 ht9 c_68 => ?_) (fun c_68 => ?_)
            · match i9, ht9 with
              | 0, ht9 =>
                cases ht9
                refine j_aload_n h 97 rfl rfl dX10_street_96 ?_
                refine j_getR h 100 rfl glX10_78 sh_0 rfl dX10_street_97 ?_
                refine j_callVI h 103 rfl lkX10_263 sh_92 rfl rfl (t_X7_rests _) rfl rfl rfl dX10_street_100 ?_
                exact j_ret h hr rfl dX10_street_103 ⟨_, rfl, by exact ⟨by unfold sStreet; rw [if_pos ⟨c_7, c_17, c_27, c_38, c_48⟩, ek, c_68, b4]; rfl, hfr⟩⟩
              | 1, ht9 =>
                cases ht9
                refine j_aload_n h 105 rfl rfl dX10_street_104 ?_
                refine j_getR h 108 rfl glX10_78 sh_0 rfl dX10_street_105 ?_
                refine j_callVI h 111 rfl lkX10_266 sh_92 rfl rfl (t_X7_bestRest _) rfl rfl rfl dX10_street_108 ?_
                exact j_ret h hr rfl dX10_street_111 ⟨_, rfl, by exact ⟨by unfold sStreet; rw [if_pos ⟨c_7, c_17, c_27, c_38, c_48⟩, ek, c_68, b5]; rfl, hfr⟩⟩
              | 2, ht9 =>
                cases ht9
                refine j_aload_n h 113 rfl rfl dX10_street_112 ?_
                refine j_getR h 116 rfl glX10_78 sh_0 rfl dX10_street_113 ?_
                refine j_callVI h 119 rfl lkX10_263 sh_92 rfl rfl (t_X7_rests _) rfl rfl rfl dX10_street_116 ?_
                refine j_top b4 ?_
                refine j_if_neN h 126 122 (by omega) dX10_street_119 (by decide) rfl (fun c_119 => ?_) (fun c_119 => ?_)
                · skip
                  refine j_ldcw h 129 rfl (nI 100000) cnX10_269 dX10_street_126 ?_
                  refine j_aload_n h 130 rfl rfl dX10_street_129 ?_
                  refine j_getR h 133 rfl glX10_78 sh_0 rfl dX10_street_130 ?_
                  refine j_callVI h 136 rfl lkX10_270 sh_92 rfl rfl (t_X7_mostByRest _) rfl rfl rfl dX10_street_133 ?_
                  refine j_iadd h 137 rfl dX10_street_136 ?_
                  exact j_ret h hr rfl dX10_street_137 ⟨_, rfl, by 
      first
        | exact ⟨by unfold sStreet; rw [if_pos ⟨c_7, c_17, c_27, c_38, c_48⟩, ek, c_68]; unfold stV; rw [if_neg (by decide), if_neg (by decide), if_pos rfl, if_pos c_119], hfr⟩
        | exact ⟨by unfold sStreet; rw [if_pos ⟨c_7, c_17, c_27, c_38, c_48⟩, ek, c_68]; unfold stV; rw [if_neg (by decide), if_neg (by decide), if_pos rfl, if_neg c_119, b6 (by omega)], hfr⟩⟩
                · skip
                  refine j_iconst h 123 rfl (-1) (by decide) dX10_street_122 ?_
                  refine j_goto h 137 dX10_street_123 (by decide) ?_
                  exact j_ret h hr rfl dX10_street_137 ⟨_, rfl, by 
      first
        | exact ⟨by unfold sStreet; rw [if_pos ⟨c_7, c_17, c_27, c_38, c_48⟩, ek, c_68]; unfold stV; rw [if_neg (by decide), if_neg (by decide), if_pos rfl, if_pos c_119], hfr⟩
        | exact ⟨by unfold sStreet; rw [if_pos ⟨c_7, c_17, c_27, c_38, c_48⟩, ek, c_68]; unfold stV; rw [if_neg (by decide), if_neg (by decide), if_pos rfl, if_neg c_119, b6 (by omega)], hfr⟩⟩
              | n9 + 3, ht9 => cases ht9
            · skip
              refine j_ldcw h 141 rfl (nI 100000) cnX10_269 dX10_street_138 ?_
              refine j_aload_n h 142 rfl rfl dX10_street_141 ?_
              refine j_getR h 145 rfl glX10_78 sh_0 rfl dX10_street_142 ?_
              refine j_callVI h 148 rfl lkX10_273 sh_92 rfl rfl (t_X7_mostByAny _) rfl rfl rfl dX10_street_145 ?_
              refine j_iadd h 149 rfl dX10_street_148 ?_
              exact j_ret h hr rfl dX10_street_149 ⟨_, rfl, by exact ⟨by have t0 := tsw_out (by decide) c_68 0 (by decide); have t1 := tsw_out (by decide) c_68 1 (by decide); have t2 := tsw_out (by decide) c_68 2 (by decide); unfold sStreet; rw [if_pos ⟨c_7, c_17, c_27, c_38, c_48⟩, ek]; unfold stV; rw [if_neg t0, if_neg t1, if_neg t2, b7], hfr⟩⟩
          · skip
            refine j_bipush h 53 rfl (-3) (by decide) dX10_street_51 ?_
            exact j_ret h hr rfl dX10_street_53 ⟨_, rfl, by exact ⟨by unfold sStreet; rw [if_neg]; rintro ⟨z1, z2, z3, z4, z5⟩; first | exact c_7 z1 | exact c_17 z2 | exact c_27 z3 | exact c_38 z4 | exact c_48 z5, frC_same hca⟩⟩
set_option maxRecDepth 100000 in
set_option maxHeartbeats 4000000 in
theorem t_X10_count (M : hM) (x : Int32) (hca : caO M) (L : Nat) (eL : M 1 1 = nI L) (n g : Nat) (en : M 79 4 = nI n) (eg : M 84 3 = nI g) (wt du : Nat → Nat) (hfl : flE M wt du) : Ct 3 mX10_count [.ref 0, .int x] M (pX (fun z M2 => z = sCount M L n g wt x ∧ frC M M2)) := by
  refine ct_of (lv := [some (.ref 0), some (.int x)]) (by decide +kernel) (fun _ _ hq => hq) rfl (fun _ => Nat.le_of_ble_eq_true rfl) (fun X h hr => ?_)
  refine j_iload_n h 1 rfl rfl dX10_count_0 ?_
  refine j_tsw h 88 0 [40, 48, 56, 64, 72, 80] dX10_count_1 (by decide) (by decide) (by decide) (by decide) (by decide) (fun i9 t9 ht9 c_1 => ?_) (fun c_1 => ?_)
  · match i9, ht9 with
    | 0, ht9 =>
      cases ht9
      refine j_aload_n h 41 rfl rfl dX10_count_40 ?_
      refine j_getR h 44 rfl glX10_26 sh_0 rfl dX10_count_41 ?_
      refine j_callVI h 47 rfl lkX10_276 sh_14 rfl rfl (t_X3_toldRooms _) rfl rfl rfl dX10_count_44 ?_
      exact j_ret h hr rfl dX10_count_47 ⟨_, rfl, by exact ⟨by unfold sCount; rw [c_1]; rfl, frC_same hca⟩⟩
    | 1, ht9 =>
      cases ht9
      refine j_aload_n h 49 rfl rfl dX10_count_48 ?_
      refine j_getR h 52 rfl glX10_12 sh_0 rfl dX10_count_49 ?_
      refine j_callVI h 55 rfl lkX10_100 sh_1 rfl rfl (t_X8_length _) rfl rfl rfl dX10_count_52 ?_
      exact j_ret h hr rfl dX10_count_55 ⟨_, rfl, by exact ⟨by unfold sCount; rw [c_1, eL]; rfl, frC_same hca⟩⟩
    | 2, ht9 =>
      cases ht9
      refine j_aload_n h 57 rfl rfl dX10_count_56 ?_
      refine j_getR h 60 rfl glX10_57 sh_0 rfl dX10_count_57 ?_
      refine j_callVI h 63 rfl lkX10_279 sh_79 rfl rfl (t_X9_size _) rfl rfl rfl dX10_count_60 ?_
      exact j_ret h hr rfl dX10_count_63 ⟨_, rfl, by exact ⟨by unfold sCount; rw [c_1, en]; rfl, frC_same hca⟩⟩
    | 3, ht9 =>
      cases ht9
      refine j_aload_n h 65 rfl rfl dX10_count_64 ?_
      refine j_getR h 68 rfl glX10_64 sh_0 rfl dX10_count_65 ?_
      refine j_callVI h 71 rfl lkX10_282 sh_84 rfl rfl (t_X2_size _) rfl rfl rfl dX10_count_68 ?_
      exact j_ret h hr rfl dX10_count_71 ⟨_, rfl, by exact ⟨by unfold sCount; rw [c_1, eg]; rfl, frC_same hca⟩⟩
    | 4, ht9 =>
      cases ht9
      refine j_aload_n h 73 rfl rfl dX10_count_72 ?_
      refine j_getR h 76 rfl glX10_71 sh_0 rfl dX10_count_73 ?_
      refine j_callVI h 79 rfl lkX10_283 sh_88 rfl rfl (t_X6_toldFlats _ wt du hfl) rfl rfl rfl dX10_count_76 ?_
      exact j_ret h hr rfl dX10_count_79 ⟨_, rfl, by exact ⟨by unfold sCount; rw [c_1]; rfl, frC_same hca⟩⟩
    | 5, ht9 =>
      cases ht9
      refine j_aload_n h 81 rfl rfl dX10_count_80 ?_
      refine j_getR h 84 rfl glX10_26 sh_0 rfl dX10_count_81 ?_
      refine j_callVI h 87 rfl lkX10_286 sh_14 rfl rfl (t_X3_homeHours _) rfl rfl rfl dX10_count_84 ?_
      exact j_ret h hr rfl dX10_count_87 ⟨_, rfl, by exact ⟨by unfold sCount; rw [c_1]; rfl, frC_same hca⟩⟩
    | n9 + 6, ht9 => cases ht9
  · skip
    refine j_bipush h 90 rfl (-3) (by decide) dX10_count_88 ?_
    exact j_ret h hr rfl dX10_count_90 ⟨_, rfl, by exact ⟨by have t0 := tsw_out (by decide) c_1 0 (by decide); have t1 := tsw_out (by decide) c_1 1 (by decide); have t2 := tsw_out (by decide) c_1 2 (by decide); have t3 := tsw_out (by decide) c_1 3 (by decide); have t4 := tsw_out (by decide) c_1 4 (by decide); have t5 := tsw_out (by decide) c_1 5 (by decide); unfold sCount; rw [if_neg t0, if_neg t1, if_neg t2, if_neg t3, if_neg t4, if_neg t5], frC_same hca⟩⟩
