/-! plans as values: what a week goes by, out of the house as told -/
def planOf (M : hM) : hM := fun a j =>
  if a = 39 then skyC (M 14) j else if a = 30 then M 20 j else if a = 31 then M 21 j else if a = 32 then M 14 16
  else if 34 ≤ a ∧ a < 39 then sunC (M 14 13) (M 18 (a - 34)) (M 22 (a - 34)) j
  else if a = 29 then (if j = 5 then M 14 14 else if j = 6 then M 14 15 else nI 0)
  else if 14 ≤ a ∧ a < 29 then M a j else nI 0
theorem planOf_cg {M N : hM} (h : ∀ a, 14 ≤ a → a < 29 → N a = M a) : planOf N = planOf M := by
  funext a j
  unfold planOf
  rw [h 14 (by decide) (by decide), h 20 (by decide) (by decide), h 21 (by decide) (by decide), h 18 (by decide) (by decide), h 22 (by decide) (by decide)]
  by_cases h9 : 14 ≤ a ∧ a < 29
  · rw [h a h9.1 h9.2]
  · simp only [if_neg h9]
/-- two plans by which a week goes alike -/
def plEq (N P : hM) : Prop := (∀ a, 14 ≤ a → a < 29 → N a = P a) ∧ N 29 5 = P 29 5 ∧ N 29 6 = P 29 6 ∧ (∀ r, r < 5 → N 30 r = P 30 r ∧ N 31 r = P 31 r ∧ N 32 r = P 32 r ∧ ∀ j, j < 24 → N (34 + r) j = P (34 + r) j) ∧ ∀ h, h < 96 → N 39 h = P 39 h
theorem plEq.rfl' {N : hM} : plEq N N := ⟨fun _ _ _ => rfl, rfl, rfl, fun _ _ => ⟨rfl, rfl, rfl, fun _ _ => rfl⟩, fun _ _ => rfl⟩
theorem plEq.trans {A B C : hM} (h1 : plEq A B) (h2 : plEq B C) : plEq A C := by
  obtain ⟨a1, a2, a3, a4, a5⟩ := h1
  obtain ⟨b1, b2, b3, b4, b5⟩ := h2
  exact ⟨fun a x y => (a1 a x y).trans (b1 a x y), a2.trans b2, a3.trans b3, fun r hr => ⟨(a4 r hr).1.trans (b4 r hr).1, (a4 r hr).2.1.trans (b4 r hr).2.1, (a4 r hr).2.2.1.trans (b4 r hr).2.2.1, fun j hj => ((a4 r hr).2.2.2 j hj).trans ((b4 r hr).2.2.2 j hj)⟩, fun h hh => (a5 h hh).trans (b5 h hh)⟩
theorem plEq.of {N P : hM} (h : ∀ a, 14 ≤ a → a < 40 → N a = P a) : plEq N P :=
  ⟨fun a x y => h a x (by omega), by rw [h 29 (by decide) (by decide)], by rw [h 29 (by decide) (by decide)], fun r hr => ⟨by rw [h 30 (by decide) (by decide)], by rw [h 31 (by decide) (by decide)], by rw [h 32 (by decide) (by decide)], fun j _ => by rw [h (34 + r) (by omega) (by omega)]⟩, fun n _ => by rw [h 39 (by decide) (by decide)]⟩
theorem opP_pl {M N : hM} {r h : Nat} {a b : Int32} (hr5 : r < 5) (hh : h < 96) (hM : plEq N M) (hab : a = b) : opP N r h a ↔ opP M r h b := by
  subst hab
  obtain ⟨p1, -, -, p4, p5⟩ := hM
  unfold opP wdP
  rw [p1 14 (by decide) (by decide), (p4 r hr5).1, (p4 r hr5).2.1, p5 h hh]
theorem drS_pl {M N : hM} {A B : Nat → Int32} {r : Nat} (hr5 : r < 5) (hM : plEq N M) (hA : ∀ q, q < 5 → ¬ M 15 q = 0 → A q = B q) (hr : A r = B r) : ∀ n, n ≤ 5 → drS N A r n = drS M B r n
  | 0, _ => rfl
  | n + 1, hn => by
    have ih := drS_pl hr5 hM hA hr n (by omega)
    rw [drS, drS, hM.1 15 (by decide) (by decide), hM.1 (24 + r) (by omega) (by omega), ih]
    by_cases h : ¬ M (24 + r) n ≤ 0 ∧ ¬ M 15 n = 0
    · rw [if_pos h, if_pos h, hA n (by omega) h.2, hr]
    · rw [if_neg h, if_neg h]
theorem st_pl {M N : hM} {A B V W : Nat → Int32} {r h : Nat} (hr5 : r < 5) (hh : h < 96) (hM : plEq N M) (hA : ∀ q, q < 5 → ¬ M 15 q = 0 → A q = B q) (hr : A r = B r) (hw : V r = W r) : stA N A V r h = stA M B W r h ∧ stW N A V r h = stW M B W r h := by
  have hM0 := hM
  obtain ⟨p1, p2, p3, p4, p5⟩ := hM
  obtain ⟨q1, q2, q3, q4⟩ := p4 r hr5
  have e1 : cm1 N A V r h = cm1 M B W r h := by
    unfold cm1
    rw [q4 (h % 24) (Nat.mod_lt _ (by decide)), p3, hr, hw, drS_pl hr5 hM0 hA hr 5 (by decide)]
  have e2 : cm2 N A V r h = cm2 M B W r h := by
    unfold cm2
    rw [e1, p1 14 (by decide) (by decide), p1 19 (by decide) (by decide)]
  have e3 : cm3 N A V r h = cm3 M B W r h := by
    unfold cm3
    have g1 : N 39 h = M 39 h := p5 h hh
    have g2 : N 14 17 = M 14 17 := by rw [p1 14 (by decide) (by decide)]
    by_cases h9 : opP M r h (B r)
    · rw [if_pos h9, if_pos ((opP_pl hr5 hh hM0 hr).mpr h9), e2, g1, g2, hr]
    · rw [if_neg h9, if_neg (fun z => h9 ((opP_pl hr5 hh hM0 hr).mp z)), e2]
  refine ⟨by unfold stA; rw [e3, hr], ?_⟩
  unfold stW
  rw [hr, hw, p2, p5 h hh, q3]
theorem wk_pl {M N : hM} (hM : plEq N M) : ∀ h, h ≤ 96 → ∀ r, r < 5 → ¬ M 15 r = 0 → wk N h r = wk M h r
  | 0, _, r, _, _ => by
    show (N 16 r, N 17 r) = (M 16 r, M 17 r)
    rw [hM.1 16 (by decide) (by decide), hM.1 17 (by decide) (by decide)]
  | h + 1, hh, r, hr, ht => by
    have ih := wk_pl hM h (by omega)
    obtain ⟨e1, e2⟩ := st_pl (h := h) (A := fun q => (wk N h q).1) (B := fun q => (wk M h q).1) (V := fun q => (wk N h q).2) (W := fun q => (wk M h q).2) hr (by omega) hM (fun q hq hqt => by show (wk N h q).1 = _; rw [ih q hq hqt]) (by show (wk N h r).1 = _; rw [ih r hr ht]) (by show (wk N h r).2 = _; rw [ih r hr ht])
    show (stA N _ _ r h, stW N _ _ r h) = (stA M _ _ r h, stW M _ _ r h)
    rw [e1, e2]
/-- NIGHT of a room, of all, by a plan -/
def nT (P : hM) (r : Nat) : Int32 := nS (fun h => (wk P h r).1) 96
def nAll (P : hM) : Int32 := naS (P 15) (nT P) 5
theorem nS_cg {A B : Nat → Int32} : ∀ n, (∀ k, 1 ≤ k → k ≤ n → A k = B k) → nS A n = nS B n
  | 0, _ => rfl
  | n + 1, h => by
    rw [nS, nS, nS_cg n (fun k a b => h k a (by omega)), h (n + 1) (by omega) (by omega)]
theorem naS_cg {T U f g : Nat → Int32} : ∀ n, (∀ r, r < n → T r = U r) → (∀ r, r < n → ¬ U r = 0 → f r = g r) → naS T f n = naS U g n
  | 0, _, _ => rfl
  | n + 1, h1, h2 => by
    rw [naS, naS, naS_cg n (fun r a => h1 r (by omega)) (fun r a => h2 r (by omega)), h1 n (by omega)]
    by_cases h : U n = 0
    · rw [if_neg (fun z => z h), if_neg (fun z => z h)]
    · rw [if_pos h, if_pos h, h2 n (by omega) h]
/-- a course that is a plan's week -/
def crsP (P : hM) (c : Nat) (M2 : hM) : Prop := ∀ r, r < 5 → ¬ P 15 r = 0 → (∀ k, k ≤ 96 → M2 (c + 4 + r) k = (wk P k r).1 ∧ M2 (c + 9 + r) k = (wk P k r).2) ∧ ∀ k, k < 96 → M2 (c + 14 + r) k = hb (opP P r k (wk P k r).1)
theorem run_crs {M P M2 : hM} {c : Nat} (hM : plEq M P) (h : runI M c 96 0 M2) : crsP P c M2 := by
  intro r hr ht
  have ht' : ¬ M 15 r = 0 := by rw [hM.1 15 (by decide) (by decide)]; exact ht
  obtain ⟨a1, a2⟩ := h.2 r hr ht'
  refine ⟨fun k hk => ?_, fun k hk => ?_⟩
  · rw [← wk_pl hM k hk r hr ht]
    exact a1 k (Or.inl hk)
  · rw [a2 k (Or.inl hk)]
    exact hb_c (opP_pl hr hk hM (by rw [wk_pl hM k (by omega) r hr ht]))
theorem crs_night {P M2 : hM} {c r : Nat} (h : crsP P c M2) (hr : r < 5) (ht : ¬ P 15 r = 0) : nS (M2 (c + 4 + r)) 96 = nT P r := nS_cg 96 (fun k _ hk => ((h r hr ht).1 k hk).1)
theorem crs_all {P M2 : hM} {c : Nat} (h : crsP P c M2) (hT : ∀ r, r < 5 → M2 15 r = P 15 r) : naS (M2 15) (fun r => nS (M2 (c + 4 + r)) 96) 5 = nAll P := naS_cg 5 hT (fun r hr ht => crs_night h hr ht)
def tkI (M : hM) (i : Nat) (M2 : hM) : Prop := (∀ a, (a < 30 ∨ 39 < a) → M2 a = M a) ∧ (∀ j, j < 96 → M2 39 j = skyC (M 14) j) ∧ ∀ r, r < i → (M2 30 r = M 20 r ∧ M2 31 r = M 21 r ∧ M2 32 r = M 14 16 ∧ ∀ j, j < 24 → M2 (34 + r) j = sunC (M 14 13) (M 18 r) (M 22 r) j)
theorem tkI_step {M M2 M3 : hM} {i : Nat} (hi : i < 5) (h : tkI M i M2) (h3 : twoP (mu (mu M2 30 i (M2 20 i)) 31 i (M2 21 i)) i M3) : tkI M (i + 1) M3 := by
  obtain ⟨f1, f2, f3⟩ := h
  obtain ⟨g1, g2, g3, g4⟩ := h3
  refine ⟨fun a ha => ?_, fun j hj => ?_, fun r hr => ?_⟩
  · rw [g1 a (by omega) (by omega), mu_f (by omega), mu_f (by omega)]; exact f1 a ha
  · rw [g1 39 (by omega) (by omega), mu_f (by omega), mu_f (by omega)]; exact f2 j hj
  · by_cases e : r = i
    · subst e
      refine ⟨?_, ?_, ?_, fun j hj => ?_⟩
      · rw [g1 30 (by omega) (by omega), mu_a (by omega), mu_s, f1 20 (by omega)]
      · rw [g1 31 (by omega) (by omega), mu_s, f1 21 (by omega)]
      · rw [g3, mu_f (by omega), mu_f (by omega), f1 14 (by omega)]
      · rw [g4 j hj, mu_f (by omega), mu_f (by omega), mu_f (by omega), mu_f (by omega), mu_f (by omega), mu_f (by omega), f1 14 (by omega), f1 18 (by omega), f1 22 (by omega)]
    · obtain ⟨a1, a2, a3, a4⟩ := f3 r (by omega)
      refine ⟨?_, ?_, ?_, fun j hj => ?_⟩
      · rw [g1 30 (by omega) (by omega), mu_a (by omega), mu_k e]; exact a1
      · rw [g1 31 (by omega) (by omega), mu_k e, mu_a (by omega)]; exact a2
      · rw [g2 r e, mu_f (by omega), mu_f (by omega)]; exact a3
      · rw [g1 (34 + r) (by omega) (by omega), mu_f (by omega), mu_f (by omega)]; exact a4 j hj
def takeP (M M2 : hM) : Prop := (∀ a, (a < 29 ∨ 39 < a) → M2 a = M a) ∧ plEq M2 (planOf M)
theorem tkI_end {M M2 : hM} (h : tkI M 5 M2) : takeP M (mu (mu M2 29 6 (M2 14 15)) 29 5 (M2 14 14)) := by
  obtain ⟨f1, f2, f3⟩ := h
  refine ⟨fun a ha => by rw [mu_f (by omega), mu_f (by omega)]; exact f1 a (by omega), fun a ha hb => ?_, ?_, ?_, fun r hr => ?_, fun n hn => ?_⟩
  · rw [mu_f (by omega), mu_f (by omega), f1 a (by omega)]
    funext j
    unfold planOf
    rw [if_neg (by omega), if_neg (by omega), if_neg (by omega), if_neg (by omega), if_neg (by omega), if_neg (by omega), if_pos ⟨ha, hb⟩]
  · rw [mu_s, f1 14 (by omega)]; rfl
  · rw [mu_k (by decide), mu_s, f1 14 (by omega)]; rfl
  · obtain ⟨a1, a2, a3, a4⟩ := f3 r hr
    refine ⟨by rw [mu_f (by omega), mu_f (by omega), a1]; rfl, by rw [mu_f (by omega), mu_f (by omega), a2]; rfl, by rw [mu_f (by omega), mu_f (by omega), a3]; rfl, fun j hj => ?_⟩
    rw [mu_f (by omega), mu_f (by omega), a4 j hj]
    unfold planOf
    rw [if_neg (by omega), if_neg (by omega), if_neg (by omega), if_neg (by omega), if_pos (by omega), show 34 + r - 34 = r by omega]
  · rw [mu_f (by omega), mu_f (by omega), f2 n hn]; rfl

set_option maxRecDepth 100000 in
set_option maxHeartbeats 4000000 in
theorem t_X4_takeFrom (M : hM) : Ct 5 mX4_takeFrom [.ref 29, .ref 14] M (pV (takeP M)) := by
  refine ct_of (lv := [some (.ref 29), some (.ref 14), none]) (by decide +kernel) (fun _ _ hq => hq) rfl (fun _ => Nat.le_of_ble_eq_true rfl) (fun X h hr => ?_)
  refine j_iconst h 1 rfl (nI 0) (by decide) dX4_takeFrom_0 ?_
  refine j_istore_n h 2 rfl rfl dX4_takeFrom_1 ?_
  have L1 : ∀ (n i : Nat) (M2 : hM), 96 - i < n → i ≤ 96 → (∀ a, a ≠ 39 → M2 a = M a) → (∀ j, j < i → M2 39 j = skyC (M 14) j) → J X 2 [some (.ref 29), some (.ref 14), some (.int (nI i))] [] M2 := by
    intro n
    induction n with
    | zero => intro i M2 h1; omega
    | succ n ih =>
      intro i M2 h1 h2 f1 f2
      refine j_iload_n h 3 rfl rfl dX4_takeFrom_2 ?_
      refine j_bipush h 5 rfl (nI 96) (by decide) dX4_takeFrom_3 ?_
      refine j_icmp_geN h 25 8 (by omega) (by omega) dX4_takeFrom_5 (by decide) rfl (fun c_5 => ?_) (fun c_5 => ?_)
      · skip
        refine j_iconst h 26 rfl (nI 0) (by decide) dX4_takeFrom_25 ?_
        refine j_istore_n h 27 rfl rfl dX4_takeFrom_26 ?_
        have L2 : ∀ (n i : Nat) (M2 : hM), 5 - i < n → i ≤ 5 → tkI M i M2 → J X 27 [some (.ref 29), some (.ref 14), some (.int (nI i))] [] M2 := by
          intro n
          induction n with
          | zero => intro i M2 h1; omega
          | succ n ih =>
            intro i M2 h1 h2 hI
            refine j_iload_n h 28 rfl rfl dX4_takeFrom_27 ?_
            refine j_iconst h 29 rfl (nI 5) (by decide) dX4_takeFrom_28 ?_
            refine j_icmp_geN h 66 32 (by omega) (by omega) dX4_takeFrom_29 (by decide) rfl (fun c_29 => ?_) (fun c_29 => ?_)
            · skip
              refine j_aload_n h 67 rfl rfl dX4_takeFrom_66 ?_
              refine j_aload_n h 68 rfl rfl dX4_takeFrom_67 ?_
              refine j_callVI h 71 rfl lkX4_50 sh_14 rfl rfl (t_X3_gives _) rfl rfl rfl dX4_takeFrom_68 ?_
              refine j_aload_n h 72 rfl rfl dX4_takeFrom_71 ?_
              refine j_callVI h 75 rfl lkX4_53 sh_14 rfl rfl (t_X3_takes _) rfl rfl rfl dX4_takeFrom_72 ?_
              refine j_callVV h 78 rfl lkX4_55 sh_29 rfl rfl (t_X4_putLaw _ _ _) rfl rfl rfl dX4_takeFrom_75 (fun M9 hM9 => ?_)
              subst hM9
              exact j_vret h hr dX4_takeFrom_78 ⟨rfl, tkI_end (by rw [show 5 = i by omega]; exact hI)⟩
            · skip
              refine j_aload_n h 33 rfl rfl dX4_takeFrom_32 ?_
              refine j_getR h 36 rfl glX4_9 sh_29 rfl dX4_takeFrom_33 ?_
              refine j_iload_n h 37 rfl rfl dX4_takeFrom_36 ?_
              refine j_aload_n h 38 rfl rfl dX4_takeFrom_37 ?_
              refine j_iload_n h 39 rfl rfl dX4_takeFrom_38 ?_
              refine j_callVI h 42 rfl lkX4_42 sh_14 rfl rfl (t_X3_habit _ _ (by omega)) rfl rfl rfl dX4_takeFrom_39 ?_
              refine j_iast h 43 rfl sh_30 _ rfl (by omega) rfl dX4_takeFrom_42 ?_
              refine j_aload_n h 44 rfl rfl dX4_takeFrom_43 ?_
              refine j_getR h 47 rfl glX4_15 sh_29 rfl dX4_takeFrom_44 ?_
              refine j_iload_n h 48 rfl rfl dX4_takeFrom_47 ?_
              refine j_aload_n h 49 rfl rfl dX4_takeFrom_48 ?_
              refine j_iload_n h 50 rfl rfl dX4_takeFrom_49 ?_
              refine j_callVI h 53 rfl lkX4_44 sh_14 rfl rfl (t_X3_openHours _ _ (by omega)) rfl rfl rfl dX4_takeFrom_50 ?_
              refine j_iast h 54 rfl sh_31 _ rfl (by omega) rfl dX4_takeFrom_53 ?_
              refine j_aload_n h 55 rfl rfl dX4_takeFrom_54 ?_
              refine j_iload_n h 56 rfl rfl dX4_takeFrom_55 ?_
              refine j_aload_n h 57 rfl rfl dX4_takeFrom_56 ?_
              refine j_callVV h 60 rfl lkX4_46 sh_29 rfl rfl (t_X4_takeWorksOff _ _ (by omega)) rfl rfl rfl dX4_takeFrom_57 (fun M9 hM9 => ?_)
              refine j_iincN h 63 rfl rfl rfl dX4_takeFrom_60 ?_
              refine j_goto h 27 dX4_takeFrom_63 (by decide) ?_
              exact ih (i + 1) _ (by omega) (by omega) (tkI_step c_29 hI hM9)
        exact L2 6 0 _ (by omega) (by omega) ⟨fun a ha => f1 a (by omega), fun j hj => f2 j (by omega), fun r hr => absurd hr (Nat.not_lt_zero r)⟩
      · skip
        refine j_aload_n h 9 rfl rfl dX4_takeFrom_8 ?_
        refine j_getR h 12 rfl glX4_26 sh_29 rfl dX4_takeFrom_9 ?_
        refine j_iload_n h 13 rfl rfl dX4_takeFrom_12 ?_
        refine j_aload_n h 14 rfl rfl dX4_takeFrom_13 ?_
        refine j_iload_n h 15 rfl rfl dX4_takeFrom_14 ?_
        refine j_callVI h 18 rfl lkX4_36 sh_14 rfl rfl (t_X3_skyAt _ _ (by omega)) rfl rfl rfl dX4_takeFrom_15 ?_
        refine j_iast h 19 rfl sh_39 _ rfl (by omega) rfl dX4_takeFrom_18 ?_
        refine j_iincN h 22 rfl rfl rfl dX4_takeFrom_19 ?_
        refine j_goto h 2 dX4_takeFrom_22 (by decide) ?_
        exact ih (i + 1) _ (by omega) (by omega) (fun a g1 => (mu_f g1).trans (f1 a g1)) (mu_ext f2 (by rw [f1 14 (by decide)]))
  exact L1 97 0 M (by omega) (by omega) (fun a _ => rfl) (fun j hj => absurd hj (Nat.not_lt_zero j))
def offP (M : hM) (i : Nat) (M2 : hM) : Prop := (∀ a, (a < 32 ∨ 38 < a ∨ a = 33) → M2 a = M a) ∧ ∀ r, r < i → M2 32 r = M 14 16 ∧ ∀ j, j < 24 → M2 (34 + r) j = sunC (M 14 13) (M 18 r) (M 22 r) j
theorem offP_step {M M2 M3 : hM} {i : Nat} (hi : i < 5) (h : offP M i M2) (h3 : twoP M2 i M3) : offP M (i + 1) M3 := by
  obtain ⟨f1, f2⟩ := h
  obtain ⟨g1, g2, g3, g4⟩ := h3
  refine ⟨fun a ha => ?_, fun r hr => ?_⟩
  · rw [g1 a (by omega) (by omega)]; exact f1 a ha
  · by_cases e : r = i
    · subst e
      exact ⟨by rw [g3, f1 14 (by omega)], fun j hj => by rw [g4 j hj, f1 14 (by omega), f1 18 (by omega), f1 22 (by omega)]⟩
    · obtain ⟨a3, a4⟩ := f2 r (by omega)
      exact ⟨by rw [g2 r e]; exact a3, fun j hj => by rw [g1 (34 + r) (by omega) (by omega)]; exact a4 j hj⟩
set_option maxRecDepth 100000 in
set_option maxHeartbeats 4000000 in
theorem t_X4_takeAllWorksOff (M : hM) : Ct 5 mX4_takeAllWorksOff [.ref 29, .ref 14] M (pV (offP M 5)) := by
  refine ct_of (lv := [some (.ref 29), some (.ref 14), none]) (by decide +kernel) (fun _ _ hq => hq) rfl (fun _ => Nat.le_of_ble_eq_true rfl) (fun X h hr => ?_)
  refine j_iconst h 1 rfl (nI 0) (by decide) dX4_takeAllWorksOff_0 ?_
  refine j_istore_n h 2 rfl rfl dX4_takeAllWorksOff_1 ?_
  have L1 : ∀ (n i : Nat) (M2 : hM), 5 - i < n → i ≤ 5 → offP M i M2 → J X 2 [some (.ref 29), some (.ref 14), some (.int (nI i))] [] M2 := by
    intro n
    induction n with
    | zero => intro i M2 h1; omega
    | succ n ih =>
      intro i M2 h1 h2 hI
      refine j_iload_n h 3 rfl rfl dX4_takeAllWorksOff_2 ?_
      refine j_iconst h 4 rfl (nI 5) (by decide) dX4_takeAllWorksOff_3 ?_
      refine j_icmp_geN h 19 7 (by omega) (by omega) dX4_takeAllWorksOff_4 (by decide) rfl (fun c_4 => ?_) (fun c_4 => ?_)
      · skip
        exact j_vret h hr dX4_takeAllWorksOff_19 ⟨rfl, by rw [show 5 = i by omega]; exact hI⟩
      · skip
        refine j_aload_n h 8 rfl rfl dX4_takeAllWorksOff_7 ?_
        refine j_iload_n h 9 rfl rfl dX4_takeAllWorksOff_8 ?_
        refine j_aload_n h 10 rfl rfl dX4_takeAllWorksOff_9 ?_
        refine j_callVV h 13 rfl lkX4_46 sh_29 rfl rfl (t_X4_takeWorksOff _ _ (by omega)) rfl rfl rfl dX4_takeAllWorksOff_10 (fun M9 hM9 => ?_)
        refine j_iincN h 16 rfl rfl rfl dX4_takeAllWorksOff_13 ?_
        refine j_goto h 2 dX4_takeAllWorksOff_16 (by decide) ?_
        exact ih (i + 1) _ (by omega) (by omega) (offP_step c_4 hI hM9)
  exact L1 6 0 M (by omega) (by omega) ⟨fun a _ => rfl, fun r hr => absurd hr (Nat.not_lt_zero r)⟩
/-- a work on the plan -/
def lkO (v l : Int32) : Int32 := if nI 0 < v - l then v - l else nI 0
def snO (v s : Int32) : Int32 := v * (nI 100 - s) / nI 100
def pwP (M : hM) (r : Nat) (s l : Int32) (M2 : hM) : Prop := (∀ a, a ≠ 32 → a ≠ 34 + r → M2 a = M a) ∧ (∀ j, j ≠ r → M2 32 j = M 32 j) ∧ M2 32 r = lkO (M 32 r) l ∧ ∀ j, j < 24 → M2 (34 + r) j = snO (M (34 + r) j) s
set_option maxRecDepth 100000 in
set_option maxHeartbeats 4000000 in
theorem t_X4_putWork (M : hM) (r : Nat) (s l : Int32) (hr5 : r < 5) : Ct 1 mX4_putWork [.ref 29, .int (nI r), .int s, .int l] M (pV (pwP M r s l)) := by
  refine ct_of (lv := [some (.ref 29), some (.int (nI r)), some (.int s), some (.int l), none]) (by decide +kernel) (fun _ _ hq => hq) rfl (fun _ => Nat.le_of_ble_eq_true rfl) (fun X h hr => ?_)
  refine j_aload_n h 1 rfl rfl dX4_putWork_0 ?_
  refine j_getR h 4 rfl glX4_18 sh_29 rfl dX4_putWork_1 ?_
  refine j_iload_n h 5 rfl rfl dX4_putWork_4 ?_
  refine j_iconst h 6 rfl (nI 0) (by decide) dX4_putWork_5 ?_
  refine j_aload_n h 7 rfl rfl dX4_putWork_6 ?_
  refine j_getR h 10 rfl glX4_18 sh_29 rfl dX4_putWork_7 ?_
  refine j_iload_n h 11 rfl rfl dX4_putWork_10 ?_
  refine j_iald h 12 rfl sh_32 _ rfl (by omega) rfl dX4_putWork_11 ?_
  refine j_iload_n h 13 rfl rfl dX4_putWork_12 ?_
  refine j_isub h 14 rfl dX4_putWork_13 ?_
  refine j_max h 17 rfl mlX4_65 st_max in_math co_max rfl rfl dX4_putWork_14 ?_
  refine j_iast h 18 rfl sh_32 _ rfl (by omega) rfl dX4_putWork_17 ?_
  refine j_iconst h 19 rfl (nI 0) (by decide) dX4_putWork_18 ?_
  refine j_istore h 21 rfl rfl dX4_putWork_19 ?_
  have L1 : ∀ (n i : Nat) (M2 : hM), 24 - i < n → i ≤ 24 → (∀ a, a ≠ 32 → a ≠ 34 + r → M2 a = M a) → (∀ j, j ≠ r → M2 32 j = M 32 j) → M2 32 r = lkO (M 32 r) l → (∀ j, j < i → M2 (34 + r) j = snO (M (34 + r) j) s) → (∀ j, i ≤ j → M2 (34 + r) j = M (34 + r) j) → J X 21 [some (.ref 29), some (.int (nI r)), some (.int s), some (.int l), some (.int (nI i))] [] M2 := by
    intro n
    induction n with
    | zero => intro i M2 h1; omega
    | succ n ih =>
      intro i M2 h1 h2 f1 f2 f3 f4 f5
      refine j_iload h 23 rfl rfl dX4_putWork_21 ?_
      refine j_bipush h 25 rfl (nI 24) (by decide) dX4_putWork_23 ?_
      refine j_icmp_geN h 60 28 (by omega) (by omega) dX4_putWork_25 (by decide) rfl (fun c_25 => ?_) (fun c_25 => ?_)
      · skip
        exact j_vret h hr dX4_putWork_60 ⟨rfl, f1, f2, f3, fun j hj => f4 j (by omega)⟩
      · skip
        refine j_aload_n h 29 rfl rfl dX4_putWork_28 ?_
        refine j_getR h 32 rfl glX4_23 sh_29 rfl dX4_putWork_29 ?_
        refine j_iload_n h 33 rfl rfl dX4_putWork_32 ?_
        refine j_aald h 34 rfl sh_33 _ rfl (by omega) rfl dX4_putWork_33 ?_
        refine j_iload h 36 rfl rfl dX4_putWork_34 ?_
        refine j_aload_n h 37 rfl rfl dX4_putWork_36 ?_
        refine j_getR h 40 rfl glX4_23 sh_29 rfl dX4_putWork_37 ?_
        refine j_iload_n h 41 rfl rfl dX4_putWork_40 ?_
        refine j_aald h 42 rfl sh_33 _ rfl (by omega) rfl dX4_putWork_41 ?_
        refine j_iload h 44 rfl rfl dX4_putWork_42 ?_
        refine j_iald h 45 rfl (shr_33 _ (by omega)) _ rfl (by omega) rfl dX4_putWork_44 ?_
        refine j_bipush h 47 rfl (nI 100) (by decide) dX4_putWork_45 ?_
        refine j_iload_n h 48 rfl rfl dX4_putWork_47 ?_
        refine j_isub h 49 rfl dX4_putWork_48 ?_
        refine j_imul h 50 rfl dX4_putWork_49 ?_
        refine j_bipush h 52 rfl (nI 100) (by decide) dX4_putWork_50 ?_
        refine j_idiv h 53 rfl (by decide) dX4_putWork_52 ?_
        refine j_iast h 54 rfl (shr_33 _ (by omega)) _ rfl (by omega) rfl dX4_putWork_53 ?_
        refine j_iincN h 57 rfl rfl rfl dX4_putWork_54 ?_
        refine j_goto h 21 dX4_putWork_57 (by decide) ?_
        exact ih (i + 1) _ (by omega) (by omega) (fun a g1 g2 => (mu_f g2).trans (f1 a g1 g2)) (fun j g1 => (mu_a (by omega)).trans (f2 j g1)) ((mu_a (by omega)).trans f3) (mu_ext f4 (by unfold snO; rw [f5 i (Nat.le_refl i)])) (fun j hj => (mu_k (by omega)).trans (f5 j (by omega)))
  exact L1 25 0 _ (by omega) (by omega) (fun a g1 g2 => mu_f g1) (fun j g1 => mu_k g1) mu_s (fun j hj => absurd hj (Nat.not_lt_zero j)) (fun j hj => mu_a (by omega))
def toldOk (M : hM) : Prop := crsP (planOf M) 40 M
def catP (M M2 : hM) : Prop := (∀ a, (a = 0 ∨ (29 ≤ a ∧ a < 59) ∨ M2 a = M a)) ∧ (∀ j, j ≠ 11 → M2 0 j = M 0 j) ∧ crsP (planOf M) 40 M2 ∧ M2 0 11 = nI 1
set_option maxRecDepth 100000 in
set_option maxHeartbeats 4000000 in
theorem t_X10_courseAsTold (M : hM) (ht : ¬ M 0 11 = 0 → M 0 11 = nI 1 ∧ toldOk M) : Ct 6 mX10_courseAsTold [.ref 0] M (pXR (fun a M2 => a = 40 ∧ catP M M2)) := by
  refine ct_of (lv := [some (.ref 0)]) (by decide +kernel) (fun _ _ hq => hq) rfl (fun _ => Nat.le_of_ble_eq_true rfl) (fun X h hr => ?_)
  have hc : IsC 40 := Or.inl rfl
  refine j_aload_n h 1 rfl rfl dX10_courseAsTold_0 ?_
  refine j_getI h 4 rfl glX10_82 sh_0 rfl dX10_courseAsTold_1 ?_
  refine j_if_ne h 38 7 dX10_courseAsTold_4 (by decide) rfl (fun c_4 => ?_) (fun c_4 => ?_)
  · skip
    refine j_aload_n h 39 rfl rfl dX10_courseAsTold_38 ?_
    refine j_getR h 42 rfl glX10_40 sh_0 rfl dX10_courseAsTold_39 ?_
    exact j_aret h hr (Or.inl ⟨_, rfl⟩) dX10_courseAsTold_42 ⟨_, rfl, rfl, by
    first
      | exact ⟨fun a => Or.inr (Or.inr rfl), fun j _ => rfl, (ht c_4).2, (ht c_4).1⟩
      | (obtain ⟨g1, g2⟩ := hM9
         have g3 := run_crs g2 hM8
         obtain ⟨g4, -⟩ := hM8
         refine ⟨fun a => ?_, fun j hj => ?_, ?_, mu_s⟩
         · by_cases h0 : a = 0
           · exact Or.inl h0
           · by_cases h1 : 29 ≤ a ∧ a < 59
             · exact Or.inr (Or.inl h1)
             · exact Or.inr (Or.inr (by rw [mu_f h0, g4 a (by omega), g1 a (by omega)]))
         · rw [mu_k hj, g4 0 (by omega), g1 0 (by omega)]
         · intro r hr ht9
           obtain ⟨b1, b2⟩ := g3 r hr ht9
           exact ⟨fun k hk => by rw [mu_a (by omega), mu_a (by omega)]; exact b1 k hk, fun k hk => by rw [mu_a (by omega)]; exact b2 k hk⟩)⟩
  · skip
    refine j_aload_n h 8 rfl rfl dX10_courseAsTold_7 ?_
    refine j_getR h 11 rfl glX10_33 sh_0 rfl dX10_courseAsTold_8 ?_
    refine j_aload_n h 12 rfl rfl dX10_courseAsTold_11 ?_
    refine j_getR h 15 rfl glX10_26 sh_0 rfl dX10_courseAsTold_12 ?_
    refine j_callVV h 18 rfl lkX10_189 sh_29 rfl rfl (t_X4_takeFrom _) rfl rfl rfl dX10_courseAsTold_15 (fun M9 hM9 => ?_)
    refine j_aload_n h 19 rfl rfl dX10_courseAsTold_18 ?_
    refine j_getR h 22 rfl glX10_40 sh_0 rfl dX10_courseAsTold_19 ?_
    refine j_aload_n h 23 rfl rfl dX10_courseAsTold_22 ?_
    refine j_getR h 26 rfl glX10_26 sh_0 rfl dX10_courseAsTold_23 ?_
    refine j_aload_n h 27 rfl rfl dX10_courseAsTold_26 ?_
    refine j_getR h 30 rfl glX10_33 sh_0 rfl dX10_courseAsTold_27 ?_
    refine j_callVV h 33 rfl lkX10_197 sh_40 rfl rfl (t_X1_run _ _ hc) rfl rfl rfl dX10_courseAsTold_30 (fun M8 hM8 => ?_)
    refine j_aload_n h 34 rfl rfl dX10_courseAsTold_33 ?_
    refine j_iconst h 35 rfl (nI 1) (by decide) dX10_courseAsTold_34 ?_
    refine j_putI h 38 rfl plX10_82 sh_0 rfl rfl (by decide) (by decide) dX10_courseAsTold_35 ?_
    refine j_aload_n h 39 rfl rfl dX10_courseAsTold_38 ?_
    refine j_getR h 42 rfl glX10_40 sh_0 rfl dX10_courseAsTold_39 ?_
    exact j_aret h hr (Or.inl ⟨_, rfl⟩) dX10_courseAsTold_42 ⟨_, rfl, rfl, by
    first
      | exact ⟨fun a => Or.inr (Or.inr rfl), fun j _ => rfl, (ht c_4).2, (ht c_4).1⟩
      | (obtain ⟨g1, g2⟩ := hM9
         have g3 := run_crs g2 hM8
         obtain ⟨g4, -⟩ := hM8
         refine ⟨fun a => ?_, fun j hj => ?_, ?_, mu_s⟩
         · by_cases h0 : a = 0
           · exact Or.inl h0
           · by_cases h1 : 29 ≤ a ∧ a < 59
             · exact Or.inr (Or.inl h1)
             · exact Or.inr (Or.inr (by rw [mu_f h0, g4 a (by omega), g1 a (by omega)]))
         · rw [mu_k hj, g4 0 (by omega), g1 0 (by omega)]
         · intro r hr ht9
           obtain ⟨b1, b2⟩ := g3 r hr ht9
           exact ⟨fun k hk => by rw [mu_a (by omega), mu_a (by omega)]; exact b1 k hk, fun k hk => by rw [mu_a (by omega)]; exact b2 k hk⟩)⟩
