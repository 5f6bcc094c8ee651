/-! Course.run: the whole week -/
/-- AIR and WALL of a room behind so many hours -/
def wk (M : hM) : Nat → Nat → Int32 × Int32
  | 0, r => (M 16 r, M 17 r)
  | h + 1, r => (stA M (fun q => (wk M h q).1) (fun q => (wk M h q).2) r h, stW M (fun q => (wk M h q).1) (fun q => (wk M h q).2) r h)
theorem drS_cg {M N : hM} {A B : Nat → Int32} {r : Nat} (hr5 : r < 5) (hM : ∀ a, 14 ≤ a → a < 40 → N a = M a) (hA : ∀ q, q < 5 → ¬ M 15 q = 0 → A q = B q) (hr : A r = B r) : ∀ n, n ≤ 5 → drS N A r n = drS M B r n
  | 0, _ => rfl
  | n + 1, hn => by
    have ih := drS_cg hr5 hM hA hr n (by omega)
    rw [drS, drS, hM 15 (by decide) (by decide), hM (24 + r) (by omega) (by omega), ih]
    by_cases h : ¬ M (24 + r) n ≤ 0 ∧ ¬ M 15 n = 0
    · rw [if_pos h, if_pos h, hA n (by omega) h.2, hr]
    · rw [if_neg h, if_neg h]
theorem opP_cg {M N : hM} {r h : Nat} {a b : Int32} (hr5 : r < 5) (hM : ∀ a, 14 ≤ a → a < 40 → N a = M a) (hab : a = b) : opP N r h a ↔ opP M r h b := by
  subst hab
  unfold opP wdP
  rw [hM 14 (by decide) (by decide), hM 30 (by decide) (by decide), hM 31 (by decide) (by decide), hM 39 (by decide) (by decide)]
theorem st_cg {M N : hM} {A B V W : Nat → Int32} {r h : Nat} (hr5 : r < 5) (hM : ∀ a, 14 ≤ a → a < 40 → N a = M a) (hA : ∀ q, q < 5 → ¬ M 15 q = 0 → A q = B q) (hr : A r = B r) (hw : V r = W r) : stA N A V r h = stA M B W r h ∧ stW N A V r h = stW M B W r h := by
  have e1 : cm1 N A V r h = cm1 M B W r h := by
    unfold cm1
    rw [hM (34 + r) (by omega) (by omega), hM 29 (by decide) (by decide), hr, hw, drS_cg hr5 hM hA hr 5 (by decide)]
  have e2 : cm2 N A V r h = cm2 M B W r h := by
    unfold cm2
    rw [e1, hM 14 (by decide) (by decide), hM 19 (by decide) (by decide)]
  have e3 : cm3 N A V r h = cm3 M B W r h := by
    unfold cm3
    have g1 : N 39 h = M 39 h := by rw [hM 39 (by decide) (by decide)]
    have g2 : N 14 17 = M 14 17 := by rw [hM 14 (by decide) (by decide)]
    by_cases h9 : opP M r h (B r)
    · rw [if_pos h9, if_pos ((opP_cg hr5 hM hr).mpr h9), e2, g1, g2, hr]
    · rw [if_neg h9, if_neg (fun z => h9 ((opP_cg hr5 hM hr).mp z)), e2]
  refine ⟨by unfold stA; rw [e3, hr], ?_⟩
  unfold stW
  rw [hr, hw, hM 29 (by decide) (by decide), hM 39 (by decide) (by decide), hM 32 (by decide) (by decide)]
def runI (M : hM) (c h i : Nat) (M2 : hM) : Prop := (∀ a, (a < c + 4 ∨ c + 19 ≤ a) → M2 a = M a) ∧ ∀ r, r < 5 → ¬ M 15 r = 0 → (∀ k, (k ≤ h ∨ (k = h + 1 ∧ r < i)) → M2 (c + 4 + r) k = (wk M k r).1 ∧ M2 (c + 9 + r) k = (wk M k r).2) ∧ ∀ k, (k < h ∨ (k = h ∧ r < i)) → M2 (c + 14 + r) k = hb (opP M r k (wk M k r).1)
def run0 (M : hM) (c i : Nat) (M2 : hM) : Prop := (∀ a, (a < c + 4 ∨ c + 19 ≤ a) → M2 a = M a) ∧ ∀ r, r < i → M2 (c + 4 + r) 0 = M 16 r ∧ M2 (c + 9 + r) 0 = M 17 r
theorem runI_skip {M M2 : hM} {c h i : Nat} (h1 : runI M c h i M2) (h2 : M 15 i = 0) : runI M c h (i + 1) M2 := by
  refine ⟨h1.1, fun r hr ht => ?_⟩
  have hne : r ≠ i := fun e => ht (by rw [e]; exact h2)
  obtain ⟨a1, a2⟩ := h1.2 r hr ht
  exact ⟨fun k hk => a1 k (by omega), fun k hk => a2 k (by omega)⟩
theorem runI_next {M M2 : hM} {c h : Nat} (h1 : runI M c h 5 M2) : runI M c (h + 1) 0 M2 := by
  refine ⟨h1.1, fun r hr ht => ?_⟩
  obtain ⟨a1, a2⟩ := h1.2 r hr ht
  exact ⟨fun k hk => a1 k (by omega), fun k hk => a2 k (by omega)⟩
theorem run0_I {M M2 : hM} {c : Nat} (h1 : run0 M c 5 M2) : runI M c 0 0 M2 := by
  refine ⟨h1.1, fun r hr ht => ⟨fun k hk => ?_, fun k hk => by omega⟩⟩
  have hk0 : k = 0 := by omega
  subst hk0
  exact h1.2 r hr
theorem run0_step {M M2 : hM} {c i : Nat} (hi : i < 5) (h1 : run0 M c i M2) : run0 M c (i + 1) (mu (mu M2 (c + 4 + i) 0 (M 16 i)) (c + 9 + i) 0 (M 17 i)) := by
  refine ⟨fun a ha => ?_, fun r hr => ?_⟩
  · rw [mu_f (by omega), mu_f (by omega)]; exact h1.1 a ha
  · by_cases e : r = i
    · subst e
      exact ⟨by rw [mu_a (by omega), mu_s], mu_s⟩
    · obtain ⟨a1, a2⟩ := h1.2 r (by omega)
      exact ⟨by rw [mu_a (by omega), mu_a (by omega)]; exact a1, by rw [mu_a (by omega), mu_a (by omega)]; exact a2⟩
theorem runI_step {M M2 : hM} {c h i : Nat} (hc : IsC c) (hi : i < 5) (h1 : runI M c h i M2) (h2 : ¬ M 15 i = 0) : runI M c h (i + 1) (mu (mu (mu M2 (c + 4 + i) (h + 1) (stA M2 (fun q => M2 (c + 4 + q) h) (fun q => M2 (c + 9 + q) h) i h)) (c + 9 + i) (h + 1) (stW M2 (fun q => M2 (c + 4 + q) h) (fun q => M2 (c + 9 + q) h) i h)) (c + 14 + i) h (hb (opP M2 i h (M2 (c + 4 + i) h)))) := by
  have hlo := hc_lo hc
  have hM : ∀ a, 14 ≤ a → a < 40 → M2 a = M a := fun a _ ha => h1.1 a (by omega)
  have hA : ∀ q, q < 5 → ¬ M 15 q = 0 → M2 (c + 4 + q) h = (wk M h q).1 ∧ M2 (c + 9 + q) h = (wk M h q).2 := fun q hq ht => (h1.2 q hq ht).1 h (Or.inl (Nat.le_refl h))
  obtain ⟨e1, e2⟩ := st_cg (h := h) (A := fun q => M2 (c + 4 + q) h) (B := fun q => (wk M h q).1) (V := fun q => M2 (c + 9 + q) h) (W := fun q => (wk M h q).2) hi hM (fun q hq ht => (hA q hq ht).1) (hA i hi h2).1 (hA i hi h2).2
  refine ⟨fun a ha => by rw [mu_f (by omega), mu_f (by omega), mu_f (by omega)]; exact h1.1 a ha, fun r hr ht => ?_⟩
  obtain ⟨a1, a2⟩ := h1.2 r hr ht
  by_cases e : r = i
  · subst e
    refine ⟨fun k hk => ?_, fun k hk => ?_⟩
    · by_cases ek : k = h + 1
      · subst ek
        exact ⟨by rw [mu_a (by omega), mu_a (by omega), mu_s]; exact e1, by rw [mu_a (by omega), mu_s]; exact e2⟩
      · obtain ⟨b1, b2⟩ := a1 k (by omega)
        exact ⟨by rw [mu_a (by omega), mu_a (by omega), mu_k ek]; exact b1, by rw [mu_a (by omega), mu_k ek, mu_a (by omega)]; exact b2⟩
    · by_cases ek : k = h
      · subst ek
        rw [mu_s]
        exact hb_c (opP_cg hi hM (hA r hi h2).1)
      · rw [mu_k ek, mu_a (by omega), mu_a (by omega)]; exact a2 k (by omega)
  · refine ⟨fun k hk => ?_, fun k hk => ?_⟩
    · obtain ⟨b1, b2⟩ := a1 k (by omega)
      exact ⟨by rw [mu_a (by omega), mu_a (by omega), mu_a (by omega)]; exact b1, by rw [mu_a (by omega), mu_a (by omega), mu_a (by omega)]; exact b2⟩
    · rw [mu_a (by omega), mu_a (by omega), mu_a (by omega)]; exact a2 k (by omega)
/-- NIGHT of a row of airs (its place 0 ahead of the first hour) -/
def nS (A : Nat → Int32) : Nat → Int32
  | 0 => nI 0
  | h + 1 => if 22 ≤ h % 24 ∨ h % 24 ≤ 5 then nS A h + A (h + 1) else nS A h
def naS (T f : Nat → Int32) : Nat → Int32
  | 0 => nI 0
  | r + 1 => if ¬ T r = 0 then naS T f r + f r else naS T f r
def lgS (A : Nat → Int32) (x : Int32) : Nat → Int32 × Int32
  | 0 => (nI 0, nI 0)
  | h + 1 => let w := if x < A (h + 1) then (lgS A x h).2 + nI 1 else nI 0
    (if (lgS A x h).1 < w then w else (lgS A x h).1, w)
theorem nS_t {A : Nat → Int32} {h : Nat} (h1 : 22 ≤ h % 24 ∨ h % 24 ≤ 5) : nS A h + A (h + 1) = nS A (h + 1) := by rw [nS, if_pos h1]
theorem nS_f {A : Nat → Int32} {h : Nat} (h1 : ¬ (22 ≤ h % 24 ∨ h % 24 ≤ 5)) : nS A h = nS A (h + 1) := by rw [nS, if_neg h1]
theorem naS_t {T f : Nat → Int32} {h : Nat} (h1 : ¬ T h = 0) : naS T f h + f h = naS T f (h + 1) := by rw [naS, if_pos h1]
theorem naS_f {T f : Nat → Int32} {h : Nat} (h1 : T h = 0) : naS T f h = naS T f (h + 1) := by rw [naS, if_neg (fun z => z h1)]
def tldS (T : Nat → Int32) : Nat → Nat
  | 0 => 0
  | r + 1 => if ¬ T r = 0 then tldS T r + 1 else tldS T r

set_option maxRecDepth 100000 in
set_option maxHeartbeats 4000000 in
theorem t_X1_run (M : hM) (c : Nat) (hc : IsC c) : Ct 4 mX1_run [.ref c, .ref 14, .ref 29] M (pV (runI M c 96 0)) := by
  refine ct_of (lv := [some (.ref c), some (.ref 14), some (.ref 29), none, none]) (by decide +kernel) (fun _ _ hq => hq) rfl (fun _ => Nat.le_of_ble_eq_true rfl) (fun X h hr => ?_)
  have hlo := hc_lo hc
  refine j_iconst h 1 rfl (nI 0) (by decide) dX1_run_0 ?_
  refine j_istore_n h 2 rfl rfl dX1_run_1 ?_
  have L1 : ∀ (n i : Nat) (M2 : hM), 5 - i < n → i ≤ 5 → run0 M c i M2 → J X 2 [some (.ref c), some (.ref 14), some (.ref 29), some (.int (nI i)), none] [] M2 := by
    intro n
    induction n with
    | zero => intro i M2 h1; omega
    | succ n ih =>
      intro i M2 h1 h2 hI
      refine j_iload_n h 3 rfl rfl dX1_run_2 ?_
      refine j_iconst h 4 rfl (nI 5) (by decide) dX1_run_3 ?_
      refine j_icmp_geN h 39 7 (by omega) (by omega) dX1_run_4 (by decide) rfl (fun c_4 => ?_) (fun c_4 => ?_)
      · skip
        refine j_iconst h 40 rfl (nI 0) (by decide) dX1_run_39 ?_
        refine j_istore_n h 41 rfl rfl dX1_run_40 ?_
        have L2 : ∀ (n h9 : Nat) (M2 : hM) (z : Option Value), 96 - h9 < n → h9 ≤ 96 → runI M c h9 0 M2 → J X 41 [some (.ref c), some (.ref 14), some (.ref 29), some (.int (nI h9)), z] [] M2 := by
          intro n
          induction n with
          | zero => intro h9 M2 z h1; omega
          | succ n ih =>
            intro h9 M2 z h1 h2 hI
            refine j_iload_n h 42 rfl rfl dX1_run_41 ?_
            refine j_bipush h 44 rfl (nI 96) (by decide) dX1_run_42 ?_
            refine j_icmp_geN h 86 47 (by omega) (by omega) dX1_run_44 (by decide) rfl (fun c_44 => ?_) (fun c_44 => ?_)
            · skip
              exact j_vret h hr dX1_run_86 ⟨rfl, by rw [show 96 = h9 by omega]; exact hI⟩
            · skip
              refine j_iconst h 48 rfl (nI 0) (by decide) dX1_run_47 ?_
              refine j_istore h 50 rfl rfl dX1_run_48 ?_
              have L3 : ∀ (n3 i : Nat) (M3 : hM), 5 - i < n3 → i ≤ 5 → runI M c h9 i M3 → J X 50 [some (.ref c), some (.ref 14), some (.ref 29), some (.int (nI h9)), some (.int (nI i))] [] M3 := by
                intro n3
                induction n3 with
                | zero => intro i M3 g1; omega
                | succ n3 ih3 =>
                  intro i M3 g1 g2 hI3
                  refine j_iload h 52 rfl rfl dX1_run_50 ?_
                  refine j_iconst h 53 rfl (nI 5) (by decide) dX1_run_52 ?_
                  refine j_icmp_geN h 80 56 (by omega) (by omega) dX1_run_53 (by decide) rfl (fun c_53 => ?_) (fun c_53 => ?_)
                  · skip
                    refine j_iincN h 83 rfl rfl rfl dX1_run_80 ?_
                    refine j_goto h 41 dX1_run_83 (by decide) ?_
                    exact ih (h9 + 1) _ _ (by omega) (by omega) (runI_next (by rw [show 5 = i by omega]; exact hI3))
                  · skip
                    refine j_aload_n h 57 rfl rfl dX1_run_56 ?_
                    refine j_iload h 59 rfl rfl dX1_run_57 ?_
                    refine j_callVI h 62 rfl lkX1_31 sh_14 rfl rfl (t_X3_isTold _ _ (by omega)) rfl rfl rfl dX1_run_59 ?_
                    rw [hI3.1 15 (by omega)]
                    refine j_if_eqB h 74 65 dX1_run_62 (by decide) rfl (fun c_62 => ?_) (fun c_62 => ?_)
                    · skip
                      refine j_iincN h 77 rfl rfl rfl dX1_run_74 ?_
                      refine j_goto h 50 dX1_run_77 (by decide) ?_
                      exact ih3 (i + 1) _ (by omega) (by omega) (by first | exact runI_step hc c_53 hI3 c_62 | exact runI_skip hI3 c_62 | exact runI_skip hI3 (Decidable.not_not.mp c_62))
                    · skip
                      refine j_aload_n h 66 rfl rfl dX1_run_65 ?_
                      refine j_iload h 68 rfl rfl dX1_run_66 ?_
                      refine j_iload_n h 69 rfl rfl dX1_run_68 ?_
                      refine j_aload_n h 70 rfl rfl dX1_run_69 ?_
                      refine j_aload_n h 71 rfl rfl dX1_run_70 ?_
                      refine j_callVV h 74 rfl lkX1_35 (hc_0 hc) rfl rfl (t_X1_goOn _ _ _ _ hc (by omega) (by omega)) rfl rfl rfl dX1_run_71 (fun M9 hM9 => ?_)
                      subst hM9
                      refine j_iincN h 77 rfl rfl rfl dX1_run_74 ?_
                      refine j_goto h 50 dX1_run_77 (by decide) ?_
                      exact ih3 (i + 1) _ (by omega) (by omega) (by first | exact runI_step hc c_53 hI3 c_62 | exact runI_skip hI3 c_62 | exact runI_skip hI3 (Decidable.not_not.mp c_62))
              exact L3 6 0 _ (by omega) (by omega) hI
        exact L2 97 0 _ _ (by omega) (by omega) (run0_I (by rw [show 5 = i by omega]; exact hI))
      · skip
        refine j_aload_n h 8 rfl rfl dX1_run_7 ?_
        refine j_getR h 11 rfl glX1_11 (hc_0 hc) rfl dX1_run_8 ?_
        refine j_iload_n h 12 rfl rfl dX1_run_11 ?_
        refine j_aald h 13 rfl (hc_1 hc) _ rfl (by omega) rfl dX1_run_12 ?_
        refine j_iconst h 14 rfl (nI 0) (by decide) dX1_run_13 ?_
        refine j_aload_n h 15 rfl rfl dX1_run_14 ?_
        refine j_iload_n h 16 rfl rfl dX1_run_15 ?_
        refine j_callVI h 19 rfl lkX1_22 sh_14 rfl rfl (t_X3_firstAir _ _ (by omega)) rfl rfl rfl dX1_run_16 ?_
        rw [hI.1 16 (by omega)]
        refine j_iast h 20 rfl (hc_A hc _ (by omega)) _ rfl (by omega) rfl dX1_run_19 ?_
        refine j_aload_n h 21 rfl rfl dX1_run_20 ?_
        refine j_getR h 24 rfl glX1_16 (hc_0 hc) rfl dX1_run_21 ?_
        refine j_iload_n h 25 rfl rfl dX1_run_24 ?_
        refine j_aald h 26 rfl (hc_2 hc) _ rfl (by omega) rfl dX1_run_25 ?_
        refine j_iconst h 27 rfl (nI 0) (by decide) dX1_run_26 ?_
        refine j_aload_n h 28 rfl rfl dX1_run_27 ?_
        refine j_iload_n h 29 rfl rfl dX1_run_28 ?_
        refine j_callVI h 32 rfl lkX1_28 sh_14 rfl rfl (t_X3_firstWall _ _ (by omega)) rfl rfl rfl dX1_run_29 ?_
        rw [mu_a (show (17 : Nat) ≠ c + 4 + i by omega), hI.1 17 (by omega)]
        refine j_iast h 33 rfl (hc_B hc _ (by omega)) _ rfl (by omega) rfl dX1_run_32 ?_
        refine j_iincN h 36 rfl rfl rfl dX1_run_33 ?_
        refine j_goto h 2 dX1_run_36 (by decide) ?_
        exact ih (i + 1) _ (by omega) (by omega) (run0_step c_4 hI)
  exact L1 6 0 M (by omega) (by omega) ⟨fun a _ => rfl, fun r hr => absurd hr (Nat.not_lt_zero r)⟩
set_option maxRecDepth 100000 in
set_option maxHeartbeats 4000000 in
theorem t_X1_nightOf (M : hM) (c r : Nat) (hc : IsC c) (hr5 : r < 5) : Ct 1 mX1_nightOf [.ref c, .int (nI r)] M (pI (nS (M (c + 4 + r)) 96) M) := by
  refine ct_of (lv := [some (.ref c), some (.int (nI r)), none, none, none]) (by decide +kernel) (fun _ _ hq => hq) rfl (fun _ => Nat.le_of_ble_eq_true rfl) (fun X h hr => ?_)
  refine j_iconst h 1 rfl (nI 0) (by decide) dX1_nightOf_0 ?_
  refine j_istore_n h 2 rfl rfl dX1_nightOf_1 ?_
  refine j_iconst h 3 rfl (nI 0) (by decide) dX1_nightOf_2 ?_
  refine j_istore_n h 4 rfl rfl dX1_nightOf_3 ?_
  have L : ∀ (n i : Nat) (x : Int32) (z : Option Value), 96 - i < n → i ≤ 96 → x = nS (M (c + 4 + r)) i → J X 4 [some (.ref c), some (.int (nI r)), some (.int x), some (.int (nI i)), z] [] M := by
    intro n
    induction n with
    | zero => intro i x z h1; omega
    | succ n ih =>
      intro i x z h1 h2 hx
      subst hx
      refine j_iload_n h 5 rfl rfl dX1_nightOf_4 ?_
      refine j_bipush h 7 rfl (nI 96) (by decide) dX1_nightOf_5 ?_
      refine j_icmp_geN h 48 10 (by omega) (by omega) dX1_nightOf_7 (by decide) rfl (fun c_7 => ?_) (fun c_7 => ?_)
      · skip
        refine j_iload_n h 49 rfl rfl dX1_nightOf_48 ?_
        exact j_ret h hr rfl dX1_nightOf_49 ⟨congrArg (fun z => some (Value.int z)) (by rw [show i = 96 by omega]), rfl⟩
      · skip
        refine j_iload_n h 11 rfl rfl dX1_nightOf_10 ?_
        refine j_bipush h 13 rfl (nI 24) (by decide) dX1_nightOf_11 ?_
        refine j_iremN h 14 rfl (by omega) (by omega) (by omega) dX1_nightOf_13 ?_
        refine j_istore h 16 rfl rfl dX1_nightOf_14 ?_
        refine j_iload h 18 rfl rfl dX1_nightOf_16 ?_
        refine j_bipush h 20 rfl (nI 22) (by decide) dX1_nightOf_18 ?_
        refine j_icmp_geN h 29 23 (by omega) (by omega) dX1_nightOf_20 (by decide) rfl (fun c_20 => ?_) (fun c_20 => ?_)
        · skip
          refine j_iload_n h 30 rfl rfl dX1_nightOf_29 ?_
          refine j_aload_n h 31 rfl rfl dX1_nightOf_30 ?_
          refine j_getR h 34 rfl glX1_11 (hc_0 hc) rfl dX1_nightOf_31 ?_
          refine j_iload_n h 35 rfl rfl dX1_nightOf_34 ?_
          refine j_aald h 36 rfl (hc_1 hc) _ rfl (by omega) rfl dX1_nightOf_35 ?_
          refine j_iload_n h 37 rfl rfl dX1_nightOf_36 ?_
          refine j_iconst h 38 rfl (nI 1) (by decide) dX1_nightOf_37 ?_
          refine j_iaddN h 39 rfl dX1_nightOf_38 ?_
          refine j_iald h 40 rfl (hc_A hc _ (by omega)) _ rfl (by omega) rfl dX1_nightOf_39 ?_
          refine j_iadd h 41 rfl dX1_nightOf_40 ?_
          refine j_istore_n h 42 rfl rfl dX1_nightOf_41 ?_
          refine j_iincN h 45 rfl rfl rfl dX1_nightOf_42 ?_
          refine j_goto h 4 dX1_nightOf_45 (by decide) ?_
          exact ih (i + 1) _ _ (by omega) (by omega) (by first | exact nS_t (by omega) | exact nS_f (by omega))
        · skip
          refine j_iload h 25 rfl rfl dX1_nightOf_23 ?_
          refine j_iconst h 26 rfl (nI 5) (by decide) dX1_nightOf_25 ?_
          refine j_icmp_gtN h 42 29 (by omega) (by omega) dX1_nightOf_26 (by decide) rfl (fun c_26 => ?_) (fun c_26 => ?_)
          · skip
            refine j_iincN h 45 rfl rfl rfl dX1_nightOf_42 ?_
            refine j_goto h 4 dX1_nightOf_45 (by decide) ?_
            exact ih (i + 1) _ _ (by omega) (by omega) (by first | exact nS_t (by omega) | exact nS_f (by omega))
          · skip
            refine j_iload_n h 30 rfl rfl dX1_nightOf_29 ?_
            refine j_aload_n h 31 rfl rfl dX1_nightOf_30 ?_
            refine j_getR h 34 rfl glX1_11 (hc_0 hc) rfl dX1_nightOf_31 ?_
            refine j_iload_n h 35 rfl rfl dX1_nightOf_34 ?_
            refine j_aald h 36 rfl (hc_1 hc) _ rfl (by omega) rfl dX1_nightOf_35 ?_
            refine j_iload_n h 37 rfl rfl dX1_nightOf_36 ?_
            refine j_iconst h 38 rfl (nI 1) (by decide) dX1_nightOf_37 ?_
            refine j_iaddN h 39 rfl dX1_nightOf_38 ?_
            refine j_iald h 40 rfl (hc_A hc _ (by omega)) _ rfl (by omega) rfl dX1_nightOf_39 ?_
            refine j_iadd h 41 rfl dX1_nightOf_40 ?_
            refine j_istore_n h 42 rfl rfl dX1_nightOf_41 ?_
            refine j_iincN h 45 rfl rfl rfl dX1_nightOf_42 ?_
            refine j_goto h 4 dX1_nightOf_45 (by decide) ?_
            exact ih (i + 1) _ _ (by omega) (by omega) (by first | exact nS_t (by omega) | exact nS_f (by omega))
  exact L 97 0 _ _ (by omega) (by omega) rfl
set_option maxRecDepth 100000 in
set_option maxHeartbeats 4000000 in
theorem t_X1_nightOfAll (M : hM) (c : Nat) (hc : IsC c) : Ct 2 mX1_nightOfAll [.ref c, .ref 14] M (pI (naS (M 15) (fun r => nS (M (c + 4 + r)) 96) 5) M) := by
  refine ct_of (lv := [some (.ref c), some (.ref 14), none, none]) (by decide +kernel) (fun _ _ hq => hq) rfl (fun _ => Nat.le_of_ble_eq_true rfl) (fun X h hr => ?_)
  refine j_iconst h 1 rfl (nI 0) (by decide) dX1_nightOfAll_0 ?_
  refine j_istore_n h 2 rfl rfl dX1_nightOfAll_1 ?_
  refine j_iconst h 3 rfl (nI 0) (by decide) dX1_nightOfAll_2 ?_
  refine j_istore_n h 4 rfl rfl dX1_nightOfAll_3 ?_
  have L : ∀ (n i : Nat) (x : Int32), 5 - i < n → i ≤ 5 → x = naS (M 15) (fun r => nS (M (c + 4 + r)) 96) i → J X 4 [some (.ref c), some (.ref 14), some (.int x), some (.int (nI i))] [] M := by
    intro n
    induction n with
    | zero => intro i x h1; omega
    | succ n ih =>
      intro i x h1 h2 hx
      subst hx
      refine j_iload_n h 5 rfl rfl dX1_nightOfAll_4 ?_
      refine j_iconst h 6 rfl (nI 5) (by decide) dX1_nightOfAll_5 ?_
      refine j_icmp_geN h 31 9 (by omega) (by omega) dX1_nightOfAll_6 (by decide) rfl (fun c_6 => ?_) (fun c_6 => ?_)
      · skip
        refine j_iload_n h 32 rfl rfl dX1_nightOfAll_31 ?_
        exact j_ret h hr rfl dX1_nightOfAll_32 ⟨congrArg (fun z => some (Value.int z)) (by rw [show i = 5 by omega]), rfl⟩
      · skip
        refine j_aload_n h 10 rfl rfl dX1_nightOfAll_9 ?_
        refine j_iload_n h 11 rfl rfl dX1_nightOfAll_10 ?_
        refine j_callVI h 14 rfl lkX1_31 sh_14 rfl rfl (t_X3_isTold _ _ (by omega)) rfl rfl rfl dX1_nightOfAll_11 ?_
        refine j_if_eqB h 25 17 dX1_nightOfAll_14 (by decide) rfl (fun c_14 => ?_) (fun c_14 => ?_)
        · skip
          refine j_iincN h 28 rfl rfl rfl dX1_nightOfAll_25 ?_
          refine j_goto h 4 dX1_nightOfAll_28 (by decide) ?_
          exact ih (i + 1) _ (by omega) (by omega) (by first | exact naS_t (f := fun r => nS (M (c + 4 + r)) 96) c_14 | exact naS_f c_14 | exact naS_f (Decidable.not_not.mp c_14))
        · skip
          refine j_iload_n h 18 rfl rfl dX1_nightOfAll_17 ?_
          refine j_aload_n h 19 rfl rfl dX1_nightOfAll_18 ?_
          refine j_iload_n h 20 rfl rfl dX1_nightOfAll_19 ?_
          refine j_callVI h 23 rfl lkX1_82 (hc_0 hc) rfl rfl (t_X1_nightOf _ _ _ hc (by omega)) rfl rfl rfl dX1_nightOfAll_20 ?_
          refine j_iadd h 24 rfl dX1_nightOfAll_23 ?_
          refine j_istore_n h 25 rfl rfl dX1_nightOfAll_24 ?_
          refine j_iincN h 28 rfl rfl rfl dX1_nightOfAll_25 ?_
          refine j_goto h 4 dX1_nightOfAll_28 (by decide) ?_
          exact ih (i + 1) _ (by omega) (by omega) (by first | exact naS_t (f := fun r => nS (M (c + 4 + r)) 96) c_14 | exact naS_f c_14 | exact naS_f (Decidable.not_not.mp c_14))
  exact L 6 0 _ (by omega) (by omega) rfl
set_option maxRecDepth 100000 in
set_option maxHeartbeats 4000000 in
theorem t_X1_longestAbove (M : hM) (c r : Nat) (v : Int32) (hc : IsC c) (hr5 : r < 5) : Ct 1 mX1_longestAbove [.ref c, .int (nI r), .int v] M (pI (lgS (M (c + 4 + r)) v 96).1 M) := by
  refine ct_of (lv := [some (.ref c), some (.int (nI r)), some (.int v), none, none, none]) (by decide +kernel) (fun _ _ hq => hq) rfl (fun _ => Nat.le_of_ble_eq_true rfl) (fun X h hr => ?_)
  refine j_iconst h 1 rfl (nI 0) (by decide) dX1_longestAbove_0 ?_
  refine j_istore_n h 2 rfl rfl dX1_longestAbove_1 ?_
  refine j_iconst h 3 rfl (nI 0) (by decide) dX1_longestAbove_2 ?_
  refine j_istore h 5 rfl rfl dX1_longestAbove_3 ?_
  refine j_iconst h 6 rfl (nI 0) (by decide) dX1_longestAbove_5 ?_
  refine j_istore h 8 rfl rfl dX1_longestAbove_6 ?_
  have L : ∀ (n i : Nat) (x y : Int32), 96 - i < n → i ≤ 96 → x = (lgS (M (c + 4 + r)) v i).1 → y = (lgS (M (c + 4 + r)) v i).2 → J X 8 [some (.ref c), some (.int (nI r)), some (.int v), some (.int x), some (.int y), some (.int (nI i))] [] M := by
    intro n
    induction n with
    | zero => intro i x y h1; omega
    | succ n ih =>
      intro i x y h1 h2 hx hy
      subst hx
      subst hy
      refine j_iload h 10 rfl rfl dX1_longestAbove_8 ?_
      refine j_bipush h 12 rfl (nI 96) (by decide) dX1_longestAbove_10 ?_
      refine j_icmp_geN h 53 15 (by omega) (by omega) dX1_longestAbove_12 (by decide) rfl (fun c_12 => ?_) (fun c_12 => ?_)
      · skip
        refine j_iload_n h 54 rfl rfl dX1_longestAbove_53 ?_
        exact j_ret h hr rfl dX1_longestAbove_54 ⟨congrArg (fun z => some (Value.int z)) (by rw [show i = 96 by omega]), rfl⟩
      · skip
        refine j_aload_n h 16 rfl rfl dX1_longestAbove_15 ?_
        refine j_getR h 19 rfl glX1_11 (hc_0 hc) rfl dX1_longestAbove_16 ?_
        refine j_iload_n h 20 rfl rfl dX1_longestAbove_19 ?_
        refine j_aald h 21 rfl (hc_1 hc) _ rfl (by omega) rfl dX1_longestAbove_20 ?_
        refine j_iload h 23 rfl rfl dX1_longestAbove_21 ?_
        refine j_iconst h 24 rfl (nI 1) (by decide) dX1_longestAbove_23 ?_
        refine j_iaddN h 25 rfl dX1_longestAbove_24 ?_
        refine j_iald h 26 rfl (hc_A hc _ (by omega)) _ rfl (by omega) rfl dX1_longestAbove_25 ?_
        refine j_iload_n h 27 rfl rfl dX1_longestAbove_26 ?_
        refine j_icmp_le h 37 30 dX1_longestAbove_27 (by decide) rfl (fun c_27 => ?_) (fun c_27 => ?_)
        · skip
          refine j_iconst h 38 rfl (nI 0) (by decide) dX1_longestAbove_37 ?_
          refine j_istore h 40 rfl rfl dX1_longestAbove_38 ?_
          refine j_iload_n h 41 rfl rfl dX1_longestAbove_40 ?_
          refine j_iload h 43 rfl rfl dX1_longestAbove_41 ?_
          refine j_max h 46 rfl mlX1_85 st_max in_math co_max rfl rfl dX1_longestAbove_43 ?_
          refine j_istore_n h 47 rfl rfl dX1_longestAbove_46 ?_
          refine j_iincN h 50 rfl rfl rfl dX1_longestAbove_47 ?_
          refine j_goto h 8 dX1_longestAbove_50 (by decide) ?_
          first
            | exact ih (i + 1) _ _ (by omega) (by omega) (by rw [lgS, if_pos (Int32.not_le.mp c_27)]) (by rw [lgS, if_pos (Int32.not_le.mp c_27)])
            | exact ih (i + 1) _ _ (by omega) (by omega) (by rw [lgS, if_neg (Int32.not_lt.mpr c_27)]) (by rw [lgS, if_neg (Int32.not_lt.mpr c_27)])
        · skip
          refine j_iload h 32 rfl rfl dX1_longestAbove_30 ?_
          refine j_iconst h 33 rfl (nI 1) (by decide) dX1_longestAbove_32 ?_
          refine j_iadd h 34 rfl dX1_longestAbove_33 ?_
          refine j_goto h 38 dX1_longestAbove_34 (by decide) ?_
          refine j_istore h 40 rfl rfl dX1_longestAbove_38 ?_
          refine j_iload_n h 41 rfl rfl dX1_longestAbove_40 ?_
          refine j_iload h 43 rfl rfl dX1_longestAbove_41 ?_
          refine j_max h 46 rfl mlX1_85 st_max in_math co_max rfl rfl dX1_longestAbove_43 ?_
          refine j_istore_n h 47 rfl rfl dX1_longestAbove_46 ?_
          refine j_iincN h 50 rfl rfl rfl dX1_longestAbove_47 ?_
          refine j_goto h 8 dX1_longestAbove_50 (by decide) ?_
          first
            | exact ih (i + 1) _ _ (by omega) (by omega) (by rw [lgS, if_pos (Int32.not_le.mp c_27)]) (by rw [lgS, if_pos (Int32.not_le.mp c_27)])
            | exact ih (i + 1) _ _ (by omega) (by omega) (by rw [lgS, if_neg (Int32.not_lt.mpr c_27)]) (by rw [lgS, if_neg (Int32.not_lt.mpr c_27)])
  exact L 97 0 _ _ (by omega) (by omega) rfl rfl
set_option maxRecDepth 100000 in
set_option maxHeartbeats 4000000 in
theorem t_X1_airBehind (M : hM) (c r n0 : Nat) (hc : IsC c) (hr5 : r < 5) (hn : n0 < 96) : Ct 1 mX1_airBehind [.ref c, .int (nI r), .int (nI n0)] M (pI (M (c + 4 + r) (n0 + 1)) M) := by
  refine ct_of (lv := [some (.ref c), some (.int (nI r)), some (.int (nI n0))]) (by decide +kernel) (fun _ _ hq => hq) rfl (fun _ => Nat.le_of_ble_eq_true rfl) (fun X h hr => ?_)
  refine j_aload_n h 1 rfl rfl dX1_airBehind_0 ?_
  refine j_getR h 4 rfl glX1_11 (hc_0 hc) rfl dX1_airBehind_1 ?_
  refine j_iload_n h 5 rfl rfl dX1_airBehind_4 ?_
  refine j_aald h 6 rfl (hc_1 hc) _ rfl (by omega) rfl dX1_airBehind_5 ?_
  refine j_iload_n h 7 rfl rfl dX1_airBehind_6 ?_
  refine j_iconst h 8 rfl (nI 1) (by decide) dX1_airBehind_7 ?_
  refine j_iaddN h 9 rfl dX1_airBehind_8 ?_
  refine j_iald h 10 rfl (hc_A hc _ (by omega)) _ rfl (by omega) rfl dX1_airBehind_9 ?_
  exact j_ret h hr rfl dX1_airBehind_10 ⟨rfl, rfl⟩
set_option maxRecDepth 100000 in
set_option maxHeartbeats 4000000 in
theorem t_X1_wallBehind (M : hM) (c r n0 : Nat) (hc : IsC c) (hr5 : r < 5) (hn : n0 < 96) : Ct 1 mX1_wallBehind [.ref c, .int (nI r), .int (nI n0)] M (pI (M (c + 9 + r) (n0 + 1)) M) := by
  refine ct_of (lv := [some (.ref c), some (.int (nI r)), some (.int (nI n0))]) (by decide +kernel) (fun _ _ hq => hq) rfl (fun _ => Nat.le_of_ble_eq_true rfl) (fun X h hr => ?_)
  refine j_aload_n h 1 rfl rfl dX1_wallBehind_0 ?_
  refine j_getR h 4 rfl glX1_16 (hc_0 hc) rfl dX1_wallBehind_1 ?_
  refine j_iload_n h 5 rfl rfl dX1_wallBehind_4 ?_
  refine j_aald h 6 rfl (hc_2 hc) _ rfl (by omega) rfl dX1_wallBehind_5 ?_
  refine j_iload_n h 7 rfl rfl dX1_wallBehind_6 ?_
  refine j_iconst h 8 rfl (nI 1) (by decide) dX1_wallBehind_7 ?_
  refine j_iaddN h 9 rfl dX1_wallBehind_8 ?_
  refine j_iald h 10 rfl (hc_B hc _ (by omega)) _ rfl (by omega) rfl dX1_wallBehind_9 ?_
  exact j_ret h hr rfl dX1_wallBehind_10 ⟨rfl, rfl⟩
set_option maxRecDepth 100000 in
set_option maxHeartbeats 4000000 in
theorem t_X1_openIn (M : hM) (c r n0 : Nat) (hc : IsC c) (hr5 : r < 5) (hn : n0 < 96) : Ct 1 mX1_openIn [.ref c, .int (nI r), .int (nI n0)] M (pI (M (c + 14 + r) n0) M) := by
  refine ct_of (lv := [some (.ref c), some (.int (nI r)), some (.int (nI n0))]) (by decide +kernel) (fun _ _ hq => hq) rfl (fun _ => Nat.le_of_ble_eq_true rfl) (fun X h hr => ?_)
  refine j_aload_n h 1 rfl rfl dX1_openIn_0 ?_
  refine j_getR h 4 rfl glX1_19 (hc_0 hc) rfl dX1_openIn_1 ?_
  refine j_iload_n h 5 rfl rfl dX1_openIn_4 ?_
  refine j_aald h 6 rfl (hc_3 hc) _ rfl (by omega) rfl dX1_openIn_5 ?_
  refine j_iload_n h 7 rfl rfl dX1_openIn_6 ?_
  refine j_iald h 8 rfl (hc_O hc _ (by omega)) _ rfl (by omega) rfl dX1_openIn_7 ?_
  exact j_ret h hr rfl dX1_openIn_8 ⟨rfl, rfl⟩
set_option maxRecDepth 100000 in
set_option maxHeartbeats 4000000 in
theorem t_X3_toldRooms (M : hM) : Ct 1 mX3_toldRooms [.ref 14] M (pI (nI (tldS (M 15) 5)) M) := by
  refine ct_of (lv := [some (.ref 14), none, none]) (by decide +kernel) (fun _ _ hq => hq) rfl (fun _ => Nat.le_of_ble_eq_true rfl) (fun X h hr => ?_)
  refine j_iconst h 1 rfl (nI 0) (by decide) dX3_toldRooms_0 ?_
  refine j_istore_n h 2 rfl rfl dX3_toldRooms_1 ?_
  refine j_iconst h 3 rfl (nI 0) (by decide) dX3_toldRooms_2 ?_
  refine j_istore_n h 4 rfl rfl dX3_toldRooms_3 ?_
  have L : ∀ (n i x : Nat), 5 - i < n → i ≤ 5 → x = tldS (M 15) i → J X 4 [some (.ref 14), some (.int (nI x)), some (.int (nI i))] [] M := by
    intro n
    induction n with
    | zero => intro i x h1; omega
    | succ n ih =>
      intro i x h1 h2 hx
      subst hx
      refine j_iload_n h 5 rfl rfl dX3_toldRooms_4 ?_
      refine j_iconst h 6 rfl (nI 5) (by decide) dX3_toldRooms_5 ?_
      refine j_icmp_geN h 27 9 (by omega) (by omega) dX3_toldRooms_6 (by decide) rfl (fun c_6 => ?_) (fun c_6 => ?_)
      · skip
        refine j_iload_n h 28 rfl rfl dX3_toldRooms_27 ?_
        exact j_ret h hr rfl dX3_toldRooms_28 ⟨congrArg (fun z => some (Value.int z)) (by rw [show i = 5 by omega]), rfl⟩
      · skip
        refine j_aload_n h 10 rfl rfl dX3_toldRooms_9 ?_
        refine j_getR h 13 rfl glX3_9 sh_14 rfl dX3_toldRooms_10 ?_
        refine j_iload_n h 14 rfl rfl dX3_toldRooms_13 ?_
        refine j_zald h 15 rfl sh_15 _ rfl (by omega) rfl dX3_toldRooms_14 ?_
        refine j_if_eq h 21 18 dX3_toldRooms_15 (by decide) rfl (fun c_15 => ?_) (fun c_15 => ?_)
        · skip
          refine j_iincN h 24 rfl rfl rfl dX3_toldRooms_21 ?_
          refine j_goto h 4 dX3_toldRooms_24 (by decide) ?_
          exact ih (i + 1) _ (by omega) (by omega) (by first | rw [tldS, if_pos c_15] | rw [tldS, if_neg (fun z => z c_15)])
        · skip
          refine j_iincN h 21 rfl rfl rfl dX3_toldRooms_18 ?_
          refine j_iincN h 24 rfl rfl rfl dX3_toldRooms_21 ?_
          refine j_goto h 4 dX3_toldRooms_24 (by decide) ?_
          exact ih (i + 1) _ (by omega) (by omega) (by first | rw [tldS, if_pos c_15] | rw [tldS, if_neg (fun z => z c_15)])
  exact L 6 0 _ (by omega) (by omega) rfl
