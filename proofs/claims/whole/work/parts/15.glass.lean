/-! Glasses -/
def absI (x : Int32) : Int32 := if 0 ≤ x then x else 0 - x
/-- each of the first rows holds, by a course, by a plan -/
def ahB (T : Nat → Int32) (air : Nat → Nat → Int32) (t : Int32) (rm hr : Nat → Nat) (rd : Nat → Int32) : Nat → Bool
  | 0 => true
  | i + 1 => ahB T air t rm hr rd i && decide (¬ T (rm i) = 0 ∧ ¬ t < absI (air (rm i) (hr i + 1) - rd i))
theorem ahB_up {T : Nat → Int32} {air : Nat → Nat → Int32} {t : Int32} {rm hr : Nat → Nat} {rd : Nat → Int32} {i : Nat} (h : ahB T air t rm hr rd i = false) : ∀ g, i ≤ g → ahB T air t rm hr rd g = false := by
  intro g hg
  induction g with
  | zero => have : i = 0 := by omega
            subst this; exact h
  | succ g ih =>
    by_cases e : i = g + 1
    · subst e; exact h
    · rw [ahB, ih (by omega)]; rfl
theorem ahB_cg {T U : Nat → Int32} {a b : Nat → Nat → Int32} {t : Int32} {rm hr : Nat → Nat} {rd re : Nat → Int32} : ∀ n, (∀ i, i < n → rd i = re i ∧ T (rm i) = U (rm i) ∧ (¬ U (rm i) = 0 → a (rm i) (hr i + 1) = b (rm i) (hr i + 1))) → ahB T a t rm hr rd n = ahB U b t rm hr re n
  | 0, _ => rfl
  | n + 1, h => by
    rw [ahB, ahB, ahB_cg n (fun i hi => h i (by omega))]
    obtain ⟨h0, h1, h2⟩ := h n (by omega)
    congr 1
    rw [h1, h0]
    by_cases e : U (rm n) = 0
    · simp [e]
    · rw [h2 e]
def hlB (P : hM) (t : Int32) (rm hr : Nat → Nat) (rd : Nat → Int32) (g : Nat) : Bool := ahB (P 15) (fun r k => (wk P k r).1) t rm hr rd g
def lawP (M : hM) (g t : Nat) : hM := fun a j => if a = 29 then (if j = 5 then nI t else if j = 6 then nI g else nI 0) else planOf M a j
/-- of laws: how many, the least and the greatest GIVES, TAKES -/
def lnS (hold : Nat → Bool) : Nat → Nat × Nat × Nat × Nat × Nat
  | 0 => (0, 0, 0, 0, 0)
  | k + 1 => let s := lnS hold k
    let g := 5 * (k / 9)
    let t := 5 * (k % 9)
    if hold k = true then (if s.1 = 0 then (1, g, g, t, t) else (s.1 + 1, (if g < s.2.1 then g else s.2.1), (if s.2.2.1 < g then g else s.2.2.1), (if t < s.2.2.2.1 then t else s.2.2.2.1), (if s.2.2.2.2 < t then t else s.2.2.2.2))) else s
theorem lnS_cg {f g : Nat → Bool} : ∀ n, (∀ k, k < n → f k = g k) → lnS f n = lnS g n
  | 0, _ => rfl
  | n + 1, h => by rw [lnS, lnS, lnS_cg n (fun k hk => h k (by omega)), h n (by omega)]
theorem lnS_b {f : Nat → Bool} : ∀ k, k ≤ 81 → (lnS f k).1 ≤ k ∧ (lnS f k).2.1 ≤ 40 ∧ (lnS f k).2.2.1 ≤ 40 ∧ (lnS f k).2.2.2.1 ≤ 40 ∧ (lnS f k).2.2.2.2 ≤ 40
  | 0, _ => ⟨Nat.le_refl 0, Nat.zero_le 40, Nat.zero_le 40, Nat.zero_le 40, Nat.zero_le 40⟩
  | k + 1, hk => by
    have ih := lnS_b (f := f) k (by omega)
    have a1 : 5 * (k / 9) ≤ 40 := by omega
    have a2 : 5 * (k % 9) ≤ 40 := by omega
    rw [lnS]
    by_cases h : f k = true
    · simp only [if_pos h]
      by_cases h0 : (lnS f k).1 = 0
      · simp only [if_pos h0]; omega
      · simp only [if_neg h0]
        refine ⟨by omega, ?_, ?_, ?_, ?_⟩
        · show (if _ then _ else _) ≤ _; split <;> omega
        · show (if _ then _ else _) ≤ _; split <;> omega
        · show (if _ then _ else _) ≤ _; split <;> omega
        · show (if _ then _ else _) ≤ _; split <;> omega
    · simp only [if_neg h]; omega
/-- the class's numbers are those -/
def lnI (s : Nat × Nat × Nat × Nat × Nat) (M : hM) : Prop := M 84 4 = nI s.1 ∧ (0 < s.1 → M 84 5 = nI s.2.1 ∧ M 84 6 = nI s.2.2.1 ∧ M 84 7 = nI s.2.2.2.1 ∧ M 84 8 = nI s.2.2.2.2)
def kpP (M : hM) (g t : Int32) (M2 : hM) : Prop := (∀ a, a ≠ 84 → M2 a = M a) ∧ (∀ j, j < 4 → M2 84 j = M 84 j) ∧ M2 84 4 = M 84 4 + nI 1 ∧
  (M 84 4 = 0 → M2 84 5 = g ∧ M2 84 6 = g ∧ M2 84 7 = t ∧ M2 84 8 = t) ∧ (¬ M 84 4 = 0 → M2 84 5 = (if g < M 84 5 then g else M 84 5) ∧ M2 84 6 = (if M 84 6 < g then g else M 84 6) ∧ M2 84 7 = (if t < M 84 7 then t else M 84 7) ∧ M2 84 8 = (if M 84 8 < t then t else M 84 8))
theorem lnI_step {M M2 : hM} {hold : Nat → Bool} {k : Nat} (hk : k < 81) (h : lnI (lnS hold k) M) (hh : hold k = true) (h2 : kpP M (nI (5 * (k / 9))) (nI (5 * (k % 9))) M2) : lnI (lnS hold (k + 1)) M2 := by
  obtain ⟨b1, b2, b3, b4, b5⟩ := lnS_b (f := hold) k (by omega)
  obtain ⟨-, -, g1, g2, g3⟩ := h2
  obtain ⟨e1, e2⟩ := h
  have a1 : 5 * (k / 9) ≤ 40 := by omega
  have a2 : 5 * (k % 9) ≤ 40 := by omega
  rw [lnS]
  simp only [if_pos hh]
  by_cases h0 : (lnS hold k).1 = 0
  · simp only [if_pos h0]
    have z : M 84 4 = 0 := by rw [e1, h0]; rfl
    obtain ⟨f1, f2, f3, f4⟩ := g2 z
    exact ⟨by rw [g1, z]; rfl, fun _ => ⟨f1, f2, f3, f4⟩⟩
  · simp only [if_neg h0]
    have z : ¬ M 84 4 = 0 := by rw [e1]; exact nI_ne0 (by omega) (by omega)
    obtain ⟨f1, f2, f3, f4⟩ := g3 z
    obtain ⟨d1, d2, d3, d4⟩ := e2 (by omega)
    refine ⟨by rw [g1, e1, nI_add], fun _ => ⟨?_, ?_, ?_, ?_⟩⟩
    · rw [f1, d1]; show _ = nI (if _ then _ else _)
      by_cases q : 5 * (k / 9) < (lnS hold k).2.1
      · rw [if_pos q, if_pos ((nI_ltI (by omega) (by omega)).mpr q)]
      · rw [if_neg q, if_neg (fun w => q ((nI_ltI (by omega) (by omega)).mp w))]
    · rw [f2, d2]; show _ = nI (if _ then _ else _)
      by_cases q : (lnS hold k).2.2.1 < 5 * (k / 9)
      · rw [if_pos q, if_pos ((nI_ltI (by omega) (by omega)).mpr q)]
      · rw [if_neg q, if_neg (fun w => q ((nI_ltI (by omega) (by omega)).mp w))]
    · rw [f3, d3]; show _ = nI (if _ then _ else _)
      by_cases q : 5 * (k % 9) < (lnS hold k).2.2.2.1
      · rw [if_pos q, if_pos ((nI_ltI (by omega) (by omega)).mpr q)]
      · rw [if_neg q, if_neg (fun w => q ((nI_ltI (by omega) (by omega)).mp w))]
    · rw [f4, d4]; show _ = nI (if _ then _ else _)
      by_cases q : (lnS hold k).2.2.2.2 < 5 * (k % 9)
      · rw [if_pos q, if_pos ((nI_ltI (by omega) (by omega)).mpr q)]
      · rw [if_neg q, if_neg (fun w => q ((nI_ltI (by omega) (by omega)).mp w))]
theorem lnI_no {M : hM} {hold : Nat → Bool} {k : Nat} (h : lnI (lnS hold k) M) (hh : ¬ hold k = true) : lnI (lnS hold (k + 1)) M := by
  rw [lnS]; simp only [if_neg hh]; exact h
def lnFr (M M2 : hM) : Prop := (∀ a, (a < 29 ∨ (39 < a ∧ a < 59) ∨ (77 < a ∧ a ≠ 84)) → M2 a = M a) ∧ ∀ j, j < 4 → M2 84 j = M 84 j
/-- the plan as it was taken, but for the law -/
def lpI (M M2 : hM) : Prop := (∀ r, r < 5 → M2 30 r = planOf M 30 r ∧ M2 31 r = planOf M 31 r ∧ M2 32 r = planOf M 32 r ∧ ∀ j, j < 24 → M2 (34 + r) j = planOf M (34 + r) j) ∧ ∀ h, h < 96 → M2 39 h = planOf M 39 h
def lrI (M : hM) (hold : Nat → Bool) (k : Nat) (M2 : hM) : Prop := lnFr M M2 ∧ lpI M M2 ∧ lnI (lnS hold k) M2
theorem lr_run {M M2 M4 : hM} {hold : Nat → Bool} {k g t : Nat} (hI : lrI M hold k M2) (hr : runI (mu (mu M2 29 6 (nI g)) 29 5 (nI t)) 59 96 0 M4) : crsP (lawP M g t) 59 M4 ∧ (∀ a, (a < 29 ∨ (29 < a ∧ a < 63) ∨ 77 < a) → M4 a = M2 a) := by
  obtain ⟨⟨f1, f2⟩, ⟨p1, p2⟩, -⟩ := hI
  have hpl : plEq (mu (mu M2 29 6 (nI g)) 29 5 (nI t)) (lawP M g t) := by
    refine ⟨fun a ha hb => ?_, ?_, ?_, fun r hr => ⟨?_, ?_, ?_, fun j hj => ?_⟩, fun h hh => ?_⟩
    · rw [mu_f (by omega), mu_f (by omega), f1 a (by omega)]
      funext j
      unfold lawP planOf
      rw [if_neg (by omega), if_neg (by omega), if_neg (by omega), if_neg (by omega), if_neg (by omega), if_neg (by omega), if_neg (by omega), if_pos ⟨ha, hb⟩]
    · rw [mu_s]; rfl
    · rw [mu_k (by decide), mu_s]; rfl
    · rw [mu_f (by omega), mu_f (by omega), (p1 r hr).1]; rfl
    · rw [mu_f (by omega), mu_f (by omega), (p1 r hr).2.1]; rfl
    · rw [mu_f (by omega), mu_f (by omega), (p1 r hr).2.2.1]; rfl
    · rw [mu_f (by omega), mu_f (by omega), (p1 r hr).2.2.2 j hj]; unfold lawP; rw [if_neg (by omega)]
    · rw [mu_f (by omega), mu_f (by omega), p2 h hh]; rfl
  exact ⟨run_crs hpl hr, fun a ha => by rw [hr.1 a (by omega), mu_f (by omega), mu_f (by omega)]⟩
theorem lr_fr {M M2 M4 : hM} {hold : Nat → Bool} {k : Nat} (hI : lrI M hold k M2) (hf : ∀ a, (a < 29 ∨ (29 < a ∧ a < 63) ∨ 77 < a) → M4 a = M2 a) : lrI M hold k M4 := by
  obtain ⟨⟨f1, f2⟩, ⟨p1, p2⟩, f3, f4⟩ := hI
  refine ⟨⟨fun a ha => by rw [hf a (by omega)]; exact f1 a ha, fun j hj => by rw [hf 84 (by omega)]; exact f2 j hj⟩, ⟨fun r hr => ⟨by rw [hf 30 (by omega)]; exact (p1 r hr).1, by rw [hf 31 (by omega)]; exact (p1 r hr).2.1, by rw [hf 32 (by omega)]; exact (p1 r hr).2.2.1, fun j hj => by rw [hf (34 + r) (by omega)]; exact (p1 r hr).2.2.2 j hj⟩, fun h hh => by rw [hf 39 (by omega)]; exact p2 h hh⟩, by rw [hf 84 (by omega)]; exact f3, fun z => by rw [hf 84 (by omega)]; exact f4 z⟩
theorem lr_yes {M M2 M3 : hM} {hold : Nat → Bool} {k : Nat} (hk : k < 81) (hI : lrI M hold k M2) (hh : hold k = true) (h3 : kpP M2 (nI (5 * (k / 9))) (nI (5 * (k % 9))) M3) : lrI M hold (k + 1) M3 := by
  have hs := lnI_step hk hI.2.2 hh h3
  obtain ⟨⟨f1, f2⟩, ⟨p1, p2⟩, -⟩ := hI
  obtain ⟨g1, g2, -⟩ := h3
  exact ⟨⟨fun a ha => by rw [g1 a (by omega)]; exact f1 a ha, fun j hj => by rw [g2 j hj]; exact f2 j hj⟩, ⟨fun r hr => ⟨by rw [g1 30 (by omega)]; exact (p1 r hr).1, by rw [g1 31 (by omega)]; exact (p1 r hr).2.1, by rw [g1 32 (by omega)]; exact (p1 r hr).2.2.1, fun j hj => by rw [g1 (34 + r) (by omega)]; exact (p1 r hr).2.2.2 j hj⟩, fun h hh => by rw [g1 39 (by omega)]; exact p2 h hh⟩, hs⟩

set_option maxRecDepth 100000 in
set_option maxHeartbeats 4000000 in
theorem t_X2_size (M : hM) : Ct 1 mX2_size [.ref 84] M (pI (M 84 3) M) := by
  refine ct_of (lv := [some (.ref 84)]) (by decide +kernel) (fun _ _ hq => hq) rfl (fun _ => Nat.le_of_ble_eq_true rfl) (fun X h hr => ?_)
  refine j_aload_n h 1 rfl rfl dX2_size_0 ?_
  refine j_getI h 4 rfl glX2_21 sh_84 rfl dX2_size_1 ?_
  exact j_ret h hr rfl dX2_size_4 ⟨rfl, rfl⟩
set_option maxRecDepth 100000 in
set_option maxHeartbeats 4000000 in
theorem t_X2_laws (M : hM) : Ct 1 mX2_laws [.ref 84] M (pI (M 84 4) M) := by
  refine ct_of (lv := [some (.ref 84)]) (by decide +kernel) (fun _ _ hq => hq) rfl (fun _ => Nat.le_of_ble_eq_true rfl) (fun X h hr => ?_)
  refine j_aload_n h 1 rfl rfl dX2_laws_0 ?_
  refine j_getI h 4 rfl glX2_25 sh_84 rfl dX2_laws_1 ?_
  exact j_ret h hr rfl dX2_laws_4 ⟨rfl, rfl⟩
set_option maxRecDepth 100000 in
set_option maxHeartbeats 4000000 in
theorem t_X2_isFull (M : hM) (g : Nat) (hg : g ≤ 8) (eg : M 84 3 = nI g) : Ct 1 mX2_isFull [.ref 84] M (pI (hb (g = 8)) M) := by
  refine ct_of (lv := [some (.ref 84)]) (by decide +kernel) (fun _ _ hq => hq) rfl (fun _ => Nat.le_of_ble_eq_true rfl) (fun X h hr => ?_)
  refine j_aload_n h 1 rfl rfl dX2_isFull_0 ?_
  refine j_getI h 4 rfl glX2_21 sh_84 rfl dX2_isFull_1 ?_
  refine j_top eg ?_
  refine j_bipush h 6 rfl (nI 8) (by decide) dX2_isFull_4 ?_
  refine j_icmp_ltN h 13 9 (by omega) (by omega) dX2_isFull_6 (by decide) rfl (fun c_6 => ?_) (fun c_6 => ?_)
  · skip
    refine j_iconst h 14 rfl (nI 0) (by decide) dX2_isFull_13 ?_
    exact j_ret h hr (by decide) dX2_isFull_14 ⟨congrArg (fun z => some (Value.int z)) (by first | (rw [hb_t]; rfl; omega) | (rw [hb_f]; rfl; omega)), rfl⟩
  · skip
    refine j_iconst h 10 rfl (nI 1) (by decide) dX2_isFull_9 ?_
    refine j_goto h 14 dX2_isFull_10 (by decide) ?_
    exact j_ret h hr (by decide) dX2_isFull_14 ⟨congrArg (fun z => some (Value.int z)) (by first | (rw [hb_t]; rfl; omega) | (rw [hb_f]; rfl; omega)), rfl⟩
set_option maxRecDepth 100000 in
set_option maxHeartbeats 4000000 in
theorem t_X2_add (M : hM) (g : Nat) (hg : g < 8) (eg : M 84 3 = nI g) (r c s : Int32) : Ct 2 mX2_add [.ref 84, .int r, .int c, .int s] M (pX (fun x M2 => x = nI (g + 1) ∧ M2 = mu (mu (mu (mu M 85 g r) 86 g c) 87 g s) 84 3 (nI (g + 1)))) := by
  refine ct_of (lv := [some (.ref 84), some (.int r), some (.int c), some (.int s)]) (by decide +kernel) (fun _ _ hq => hq) rfl (fun _ => Nat.le_of_ble_eq_true rfl) (fun X h hr => ?_)
  refine j_aload_n h 1 rfl rfl dX2_add_0 ?_
  refine j_callVI h 4 rfl lkX2_28 sh_84 rfl rfl (t_X2_isFull _ g (by omega) eg) rfl rfl rfl dX2_add_1 ?_
  refine j_if_eqB h 10 7 dX2_add_4 (by decide) rfl (fun c_4 => ?_) (fun c_4 => by omega)
  refine j_aload_n h 11 rfl rfl dX2_add_10 ?_
  refine j_getR h 14 rfl glX2_11 sh_84 rfl dX2_add_11 ?_
  refine j_aload_n h 15 rfl rfl dX2_add_14 ?_
  refine j_getI h 18 rfl glX2_21 sh_84 rfl dX2_add_15 ?_
  refine j_top eg ?_
  refine j_iload_n h 19 rfl rfl dX2_add_18 ?_
  refine j_iast h 20 rfl sh_85 _ rfl (by omega) rfl dX2_add_19 ?_
  refine j_aload_n h 21 rfl rfl dX2_add_20 ?_
  refine j_getR h 24 rfl glX2_15 sh_84 rfl dX2_add_21 ?_
  refine j_aload_n h 25 rfl rfl dX2_add_24 ?_
  refine j_getI h 28 rfl glX2_21 sh_84 rfl dX2_add_25 ?_
  rw [mu_a (by decide)]
  refine j_top eg ?_
  refine j_iload_n h 29 rfl rfl dX2_add_28 ?_
  refine j_iast h 30 rfl sh_86 _ rfl (by omega) rfl dX2_add_29 ?_
  refine j_aload_n h 31 rfl rfl dX2_add_30 ?_
  refine j_getR h 34 rfl glX2_18 sh_84 rfl dX2_add_31 ?_
  refine j_aload_n h 35 rfl rfl dX2_add_34 ?_
  refine j_getI h 38 rfl glX2_21 sh_84 rfl dX2_add_35 ?_
  rw [mu_a (by decide), mu_a (by decide)]
  refine j_top eg ?_
  refine j_iload_n h 39 rfl rfl dX2_add_38 ?_
  refine j_iast h 40 rfl sh_87 _ rfl (by omega) rfl dX2_add_39 ?_
  refine j_aload_n h 41 rfl rfl dX2_add_40 ?_
  refine j_dup h 42 rfl rfl dX2_add_41 ?_
  refine j_getI h 45 rfl glX2_21 sh_84 rfl dX2_add_42 ?_
  rw [mu_a (by decide), mu_a (by decide), mu_a (by decide)]
  refine j_top eg ?_
  refine j_iconst h 46 rfl (nI 1) (by decide) dX2_add_45 ?_
  refine j_iaddN h 47 rfl dX2_add_46 ?_
  refine j_putI h 50 rfl plX2_21 sh_84 rfl rfl rfl rfl dX2_add_47 ?_
  refine j_aload_n h 51 rfl rfl dX2_add_50 ?_
  refine j_getI h 54 rfl glX2_21 sh_84 rfl dX2_add_51 ?_
  rw [mu_s]
  exact j_ret h hr rfl dX2_add_54 ⟨_, rfl, rfl, rfl⟩
set_option maxRecDepth 100000 in
set_option maxHeartbeats 4000000 in
theorem t_X2_bound (M : hM) (i : Nat) (hi : 1 ≤ i) (hi2 : i ≤ 4) : Ct 1 mX2_bound [.ref 84, .int (nI i)] M (pI (M 84 (4 + i)) M) := by
  refine ct_of (lv := [some (.ref 84), some (.int (nI i))]) (by decide +kernel) (fun _ _ hq => hq) rfl (fun _ => Nat.le_of_ble_eq_true rfl) (fun X h hr => ?_)
  refine j_iload_n h 1 rfl rfl dX2_bound_0 ?_
  refine j_tsw h 43 1 [28, 33, 38] dX2_bound_1 (by decide) (by decide) (by decide) (by decide) (by decide) (fun i9 t9 ht9 c_1 => ?_) (fun c_1 => ?_)
  · match i9, ht9 with
    | 0, ht9 =>
      cases ht9
      refine j_aload_n h 29 rfl rfl dX2_bound_28 ?_
      refine j_getI h 32 rfl glX2_71 sh_84 rfl dX2_bound_29 ?_
      exact j_ret h hr rfl dX2_bound_32 ⟨congrArg (fun z => some (Value.int z)) (by rw [show i = 1 from (nI_eq (by omega) (by omega)).mp c_1]), rfl⟩
    | 1, ht9 =>
      cases ht9
      refine j_aload_n h 34 rfl rfl dX2_bound_33 ?_
      refine j_getI h 37 rfl glX2_77 sh_84 rfl dX2_bound_34 ?_
      exact j_ret h hr rfl dX2_bound_37 ⟨congrArg (fun z => some (Value.int z)) (by rw [show i = 2 from (nI_eq (by omega) (by omega)).mp c_1]), rfl⟩
    | 2, ht9 =>
      cases ht9
      refine j_aload_n h 39 rfl rfl dX2_bound_38 ?_
      refine j_getI h 42 rfl glX2_83 sh_84 rfl dX2_bound_39 ?_
      exact j_ret h hr rfl dX2_bound_42 ⟨congrArg (fun z => some (Value.int z)) (by rw [show i = 3 from (nI_eq (by omega) (by omega)).mp c_1]), rfl⟩
    | n9 + 3, ht9 => cases ht9
  · skip
    refine j_aload_n h 44 rfl rfl dX2_bound_43 ?_
    refine j_getI h 47 rfl glX2_86 sh_84 rfl dX2_bound_44 ?_
    exact j_ret h hr rfl dX2_bound_47 ⟨congrArg (fun z => some (Value.int z)) (by rw [show i = 4 by have t := tsw_out (by decide) c_1; have t0 := t 0 (by decide); have t1 := t 1 (by decide); have t2 := t 2 (by decide); rw [nI_eq (by omega) (by omega)] at t0 t1 t2; omega]), rfl⟩
set_option maxRecDepth 100000 in
set_option maxHeartbeats 4000000 in
theorem t_X2_allHold (M : hM) (c g : Nat) (t : Int32) (rm hr0 : Nat → Nat) (hc : IsC c) (hg : g ≤ 8) (eg : M 84 3 = nI g) (hrow : ∀ i, i < g → M 85 i = nI (rm i) ∧ rm i < 5 ∧ M 86 i = nI (hr0 i) ∧ hr0 i < 96) : Ct 2 mX2_allHold [.ref 84, .int t, .ref 14, .ref c] M (pI (hb (ahB (M 15) (fun r k => M (c + 4 + r) k) t rm hr0 (M 87) g = true)) M) := by
  refine ct_of (lv := [some (.ref 84), some (.int t), some (.ref 14), some (.ref c), none]) (by decide +kernel) (fun _ _ hq => hq) rfl (fun _ => Nat.le_of_ble_eq_true rfl) (fun X h hr => ?_)
  refine j_iconst h 1 rfl (nI 0) (by decide) dX2_allHold_0 ?_
  refine j_istore h 3 rfl rfl dX2_allHold_1 ?_
  have L : ∀ (n i : Nat), g - i < n → i ≤ g → ahB (M 15) (fun r k => M (c + 4 + r) k) t rm hr0 (M 87) i = true → J X 3 [some (.ref 84), some (.int t), some (.ref 14), some (.ref c), some (.int (nI i))] [] M := by
    intro n
    induction n with
    | zero => intro i h1; omega
    | succ n ih =>
      intro i h1 h2 hI
      refine j_iload h 5 rfl rfl dX2_allHold_3 ?_
      refine j_aload_n h 6 rfl rfl dX2_allHold_5 ?_
      refine j_getI h 9 rfl glX2_21 sh_84 rfl dX2_allHold_6 ?_
      refine j_top eg ?_
      refine j_icmp_geN h 67 12 (by omega) (by omega) dX2_allHold_9 (by decide) rfl (fun c_9 => ?_) (fun c_9 => ?_)
      · skip
        refine j_iconst h 68 rfl (nI 1) (by decide) dX2_allHold_67 ?_
        exact j_ret h hr (by decide) dX2_allHold_68 ⟨congrArg (fun z => some (Value.int z)) (by first | (rw [hb_t]; rfl; (rw [show g = i by omega]; exact hI)) | (rw [hb_f]; rfl; (rw [show g = i by omega]; exact hI))), rfl⟩
      · skip
        obtain ⟨w1, w2, w3, w4⟩ := hrow i (by omega)
        refine j_aload_n h 13 rfl rfl dX2_allHold_12 ?_
        refine j_aload_n h 14 rfl rfl dX2_allHold_13 ?_
        refine j_getR h 17 rfl glX2_11 sh_84 rfl dX2_allHold_14 ?_
        refine j_iload h 19 rfl rfl dX2_allHold_17 ?_
        refine j_iald h 20 rfl sh_85 _ rfl (by omega) rfl dX2_allHold_19 ?_
        refine j_top w1 ?_
        refine j_callVI h 23 rfl lkX2_55 sh_14 rfl rfl (t_X3_isTold _ _ (by omega)) rfl rfl rfl dX2_allHold_20 ?_
        refine j_if_eqB h 59 26 dX2_allHold_23 (by decide) rfl (fun c_23 => ?_) (fun c_23 => ?_)
        · skip
          refine j_iconst h 60 rfl (nI 0) (by decide) dX2_allHold_59 ?_
          exact j_ret h hr (by decide) dX2_allHold_60 ⟨congrArg (fun z => some (Value.int z)) (by rw [hb_f]; rfl; intro z; rw [ahB_up (i := i + 1) (by rw [ahB, hI, Bool.true_and]; exact decide_eq_false (fun w => by first | exact w.1 c_23 | exact w.1 (Decidable.not_not.mp c_23) | exact w.2 (Int32.not_le.mp c_56))) g (by omega)] at z; cases z), rfl⟩
        · skip
          refine j_aload_n h 27 rfl rfl dX2_allHold_26 ?_
          refine j_aload_n h 28 rfl rfl dX2_allHold_27 ?_
          refine j_getR h 31 rfl glX2_11 sh_84 rfl dX2_allHold_28 ?_
          refine j_iload h 33 rfl rfl dX2_allHold_31 ?_
          refine j_iald h 34 rfl sh_85 _ rfl (by omega) rfl dX2_allHold_33 ?_
          refine j_top w1 ?_
          refine j_aload_n h 35 rfl rfl dX2_allHold_34 ?_
          refine j_getR h 38 rfl glX2_15 sh_84 rfl dX2_allHold_35 ?_
          refine j_iload h 40 rfl rfl dX2_allHold_38 ?_
          refine j_iald h 41 rfl sh_86 _ rfl (by omega) rfl dX2_allHold_40 ?_
          refine j_top w3 ?_
          refine j_callVI h 44 rfl lkX2_61 (hc_0 hc) rfl rfl (t_X1_airBehind _ _ _ _ hc (by omega) (by omega)) rfl rfl rfl dX2_allHold_41 ?_
          refine j_aload_n h 45 rfl rfl dX2_allHold_44 ?_
          refine j_getR h 48 rfl glX2_18 sh_84 rfl dX2_allHold_45 ?_
          refine j_iload h 50 rfl rfl dX2_allHold_48 ?_
          refine j_iald h 51 rfl sh_87 _ rfl (by omega) rfl dX2_allHold_50 ?_
          refine j_isub h 52 rfl dX2_allHold_51 ?_
          refine j_abs h 55 rfl mlX2_65 st_abs in_math co_abs rfl rfl dX2_allHold_52 ?_
          refine j_iload_n h 56 rfl rfl dX2_allHold_55 ?_
          refine j_icmp_le h 61 59 dX2_allHold_56 (by decide) rfl (fun c_56 => ?_) (fun c_56 => ?_)
          · skip
            refine j_iincN h 64 rfl rfl rfl dX2_allHold_61 ?_
            refine j_goto h 3 dX2_allHold_64 (by decide) ?_
            exact ih (i + 1) (by omega) (by omega) (by rw [ahB, hI, Bool.true_and]; exact decide_eq_true ⟨c_23, Int32.not_lt.mpr c_56⟩)
          · skip
            refine j_iconst h 60 rfl (nI 0) (by decide) dX2_allHold_59 ?_
            exact j_ret h hr (by decide) dX2_allHold_60 ⟨congrArg (fun z => some (Value.int z)) (by rw [hb_f]; rfl; intro z; rw [ahB_up (i := i + 1) (by rw [ahB, hI, Bool.true_and]; exact decide_eq_false (fun w => by first | exact w.1 c_23 | exact w.1 (Decidable.not_not.mp c_23) | exact w.2 (Int32.not_le.mp c_56))) g (by omega)] at z; cases z), rfl⟩
  exact L (g + 1) 0 (by omega) (by omega) rfl
set_option maxRecDepth 100000 in
set_option maxHeartbeats 4000000 in
theorem t_X2_keep_0 (M : hM) (g t : Int32) (h0 : M 84 4 = 0) : Ct 1 mX2_keep [.ref 84, .int g, .int t] M (pV (kpP M g t)) := by
  refine ct_of (lv := [some (.ref 84), some (.int g), some (.int t), none]) (by decide +kernel) (fun _ _ hq => hq) rfl (fun _ => Nat.le_of_ble_eq_true rfl) (fun X h hr => ?_)
  refine j_aload_n h 1 rfl rfl dX2_keep_0 ?_
  refine j_getI h 4 rfl glX2_25 sh_84 rfl dX2_keep_1 ?_
  refine j_if_ne h 11 7 dX2_keep_4 (by decide) rfl (fun c_4 => absurd h0 c_4) (fun c_4 => ?_)
  refine j_iconst h 8 rfl (nI 1) (by decide) dX2_keep_7 ?_
  refine j_goto h 12 dX2_keep_8 (by decide) ?_
  refine j_istore_n h 13 rfl rfl dX2_keep_12 ?_
  refine j_aload_n h 14 rfl rfl dX2_keep_13 ?_
  refine j_iload_n h 15 rfl rfl dX2_keep_14 ?_
  refine j_if_eqN h 22 18 (by omega) dX2_keep_15 (by decide) rfl (fun c_15 => by omega) (fun c_15 => ?_)
  refine j_iload_n h 19 rfl rfl dX2_keep_18 ?_
  refine j_goto h 30 dX2_keep_19 (by decide) ?_
  refine j_putI h 33 rfl plX2_71 sh_84 rfl rfl rfl rfl dX2_keep_30 ?_
  refine j_aload_n h 34 rfl rfl dX2_keep_33 ?_
  refine j_iload_n h 35 rfl rfl dX2_keep_34 ?_
  refine j_if_eqN h 42 38 (by omega) dX2_keep_35 (by decide) rfl (fun c_35 => by omega) (fun c_35 => ?_)
  refine j_iload_n h 39 rfl rfl dX2_keep_38 ?_
  refine j_goto h 50 dX2_keep_39 (by decide) ?_
  refine j_putI h 53 rfl plX2_77 sh_84 rfl rfl rfl rfl dX2_keep_50 ?_
  refine j_aload_n h 54 rfl rfl dX2_keep_53 ?_
  refine j_iload_n h 55 rfl rfl dX2_keep_54 ?_
  refine j_if_eqN h 62 58 (by omega) dX2_keep_55 (by decide) rfl (fun c_55 => by omega) (fun c_55 => ?_)
  refine j_iload_n h 59 rfl rfl dX2_keep_58 ?_
  refine j_goto h 70 dX2_keep_59 (by decide) ?_
  refine j_putI h 73 rfl plX2_83 sh_84 rfl rfl rfl rfl dX2_keep_70 ?_
  refine j_aload_n h 74 rfl rfl dX2_keep_73 ?_
  refine j_iload_n h 75 rfl rfl dX2_keep_74 ?_
  refine j_if_eqN h 82 78 (by omega) dX2_keep_75 (by decide) rfl (fun c_75 => by omega) (fun c_75 => ?_)
  refine j_iload_n h 79 rfl rfl dX2_keep_78 ?_
  refine j_goto h 90 dX2_keep_79 (by decide) ?_
  refine j_putI h 93 rfl plX2_86 sh_84 rfl rfl rfl rfl dX2_keep_90 ?_
  refine j_aload_n h 94 rfl rfl dX2_keep_93 ?_
  refine j_dup h 95 rfl rfl dX2_keep_94 ?_
  refine j_getI h 98 rfl glX2_25 sh_84 rfl dX2_keep_95 ?_
  refine j_iconst h 99 rfl (nI 1) (by decide) dX2_keep_98 ?_
  refine j_iadd h 100 rfl dX2_keep_99 ?_
  refine j_putI h 103 rfl plX2_25 sh_84 rfl rfl rfl rfl dX2_keep_100 ?_
  exact j_vret h hr dX2_keep_103 ⟨rfl, fun a ha => by simp only [mu_f ha], fun j hj => by rw [mu_k (by omega), mu_k (by omega), mu_k (by omega), mu_k (by omega), mu_k (by omega)], by rw [mu_s, mu_k (by decide), mu_k (by decide), mu_k (by decide), mu_k (by decide)], fun _ => ⟨by rw [mu_k (by decide), mu_k (by decide), mu_k (by decide), mu_k (by decide), mu_s], by rw [mu_k (by decide), mu_k (by decide), mu_k (by decide), mu_s], by rw [mu_k (by decide), mu_k (by decide), mu_s], by rw [mu_k (by decide), mu_s]⟩, fun z => absurd h0 z⟩
set_option maxRecDepth 100000 in
set_option maxHeartbeats 4000000 in
theorem t_X2_keep_1 (M : hM) (g t : Int32) (h0 : ¬ M 84 4 = 0) : Ct 1 mX2_keep [.ref 84, .int g, .int t] M (pV (kpP M g t)) := by
  refine ct_of (lv := [some (.ref 84), some (.int g), some (.int t), none]) (by decide +kernel) (fun _ _ hq => hq) rfl (fun _ => Nat.le_of_ble_eq_true rfl) (fun X h hr => ?_)
  refine j_aload_n h 1 rfl rfl dX2_keep_0 ?_
  refine j_getI h 4 rfl glX2_25 sh_84 rfl dX2_keep_1 ?_
  refine j_if_ne h 11 7 dX2_keep_4 (by decide) rfl (fun c_4 => ?_) (fun c_4 => absurd c_4 h0)
  refine j_iconst h 12 rfl (nI 0) (by decide) dX2_keep_11 ?_
  refine j_istore_n h 13 rfl rfl dX2_keep_12 ?_
  refine j_aload_n h 14 rfl rfl dX2_keep_13 ?_
  refine j_iload_n h 15 rfl rfl dX2_keep_14 ?_
  refine j_if_eqN h 22 18 (by omega) dX2_keep_15 (by decide) rfl (fun c_15 => ?_) (fun c_15 => by omega)
  refine j_aload_n h 23 rfl rfl dX2_keep_22 ?_
  refine j_getI h 26 rfl glX2_71 sh_84 rfl dX2_keep_23 ?_
  refine j_iload_n h 27 rfl rfl dX2_keep_26 ?_
  refine j_min h 30 rfl mlX2_74 st_min in_math co_min rfl rfl dX2_keep_27 ?_
  refine j_putI h 33 rfl plX2_71 sh_84 rfl rfl rfl rfl dX2_keep_30 ?_
  refine j_aload_n h 34 rfl rfl dX2_keep_33 ?_
  refine j_iload_n h 35 rfl rfl dX2_keep_34 ?_
  refine j_if_eqN h 42 38 (by omega) dX2_keep_35 (by decide) rfl (fun c_35 => ?_) (fun c_35 => by omega)
  refine j_aload_n h 43 rfl rfl dX2_keep_42 ?_
  refine j_getI h 46 rfl glX2_77 sh_84 rfl dX2_keep_43 ?_
  refine j_iload_n h 47 rfl rfl dX2_keep_46 ?_
  refine j_max h 50 rfl mlX2_80 st_max in_math co_max rfl rfl dX2_keep_47 ?_
  refine j_putI h 53 rfl plX2_77 sh_84 rfl rfl rfl rfl dX2_keep_50 ?_
  refine j_aload_n h 54 rfl rfl dX2_keep_53 ?_
  refine j_iload_n h 55 rfl rfl dX2_keep_54 ?_
  refine j_if_eqN h 62 58 (by omega) dX2_keep_55 (by decide) rfl (fun c_55 => ?_) (fun c_55 => by omega)
  refine j_aload_n h 63 rfl rfl dX2_keep_62 ?_
  refine j_getI h 66 rfl glX2_83 sh_84 rfl dX2_keep_63 ?_
  refine j_iload_n h 67 rfl rfl dX2_keep_66 ?_
  refine j_min h 70 rfl mlX2_74 st_min in_math co_min rfl rfl dX2_keep_67 ?_
  refine j_putI h 73 rfl plX2_83 sh_84 rfl rfl rfl rfl dX2_keep_70 ?_
  refine j_aload_n h 74 rfl rfl dX2_keep_73 ?_
  refine j_iload_n h 75 rfl rfl dX2_keep_74 ?_
  refine j_if_eqN h 82 78 (by omega) dX2_keep_75 (by decide) rfl (fun c_75 => ?_) (fun c_75 => by omega)
  refine j_aload_n h 83 rfl rfl dX2_keep_82 ?_
  refine j_getI h 86 rfl glX2_86 sh_84 rfl dX2_keep_83 ?_
  refine j_iload_n h 87 rfl rfl dX2_keep_86 ?_
  refine j_max h 90 rfl mlX2_80 st_max in_math co_max rfl rfl dX2_keep_87 ?_
  refine j_putI h 93 rfl plX2_86 sh_84 rfl rfl rfl rfl dX2_keep_90 ?_
  refine j_aload_n h 94 rfl rfl dX2_keep_93 ?_
  refine j_dup h 95 rfl rfl dX2_keep_94 ?_
  refine j_getI h 98 rfl glX2_25 sh_84 rfl dX2_keep_95 ?_
  refine j_iconst h 99 rfl (nI 1) (by decide) dX2_keep_98 ?_
  refine j_iadd h 100 rfl dX2_keep_99 ?_
  refine j_putI h 103 rfl plX2_25 sh_84 rfl rfl rfl rfl dX2_keep_100 ?_
  exact j_vret h hr dX2_keep_103 ⟨rfl, fun a ha => by simp only [mu_f ha], fun j hj => by rw [mu_k (by omega), mu_k (by omega), mu_k (by omega), mu_k (by omega), mu_k (by omega)], by rw [mu_s, mu_k (by decide), mu_k (by decide), mu_k (by decide), mu_k (by decide)], fun z => absurd z h0, fun _ => ⟨by rw [mu_k (by decide), mu_k (by decide), mu_k (by decide), mu_k (by decide), mu_s], by rw [mu_k (by decide), mu_k (by decide), mu_k (by decide), mu_s, mu_k (by decide)], by rw [mu_k (by decide), mu_k (by decide), mu_s, mu_k (by decide), mu_k (by decide)], by rw [mu_k (by decide), mu_s, mu_k (by decide), mu_k (by decide), mu_k (by decide)]⟩⟩
theorem t_X2_keep (M : hM) (g t : Int32) : Ct 1 mX2_keep [.ref 84, .int g, .int t] M (pV (kpP M g t)) := by
  by_cases h0 : M 84 4 = 0
  · exact t_X2_keep_0 M g t h0
  · exact t_X2_keep_1 M g t h0
set_option maxRecDepth 100000 in
set_option maxHeartbeats 4000000 in
theorem t_X2_learn (M : hM) (t : Int32) (g : Nat) (rm hr0 : Nat → Nat) (hg : g ≤ 8) (eg : M 84 3 = nI g) (hrow : ∀ i, i < g → M 85 i = nI (rm i) ∧ rm i < 5 ∧ M 86 i = nI (hr0 i) ∧ hr0 i < 96) : Ct 6 mX2_learn [.ref 84, .int t, .ref 14, .ref 29, .ref 59] M (pV (lrI M (fun k => hlB (lawP M (5 * (k / 9)) (5 * (k % 9))) t rm hr0 (M 87) g) 81)) := by
  refine ct_of (lv := [some (.ref 84), some (.int t), some (.ref 14), some (.ref 29), some (.ref 59), none, none]) (by decide +kernel) (fun _ _ hq => hq) rfl (fun _ => Nat.le_of_ble_eq_true rfl) (fun X h hr => ?_)
  have hc : IsC 59 := Or.inr rfl
  have eP : planOf (mu M 84 4 (nI 0)) = planOf M := planOf_cg (fun a _ _ => mu_f (by omega))
  refine j_aload_n h 1 rfl rfl dX2_learn_0 ?_
  refine j_iconst h 2 rfl (nI 0) (by decide) dX2_learn_1 ?_
  refine j_putI h 5 rfl plX2_25 sh_84 rfl rfl rfl rfl dX2_learn_2 ?_
  refine j_aload_n h 6 rfl rfl dX2_learn_5 ?_
  refine j_aload_n h 7 rfl rfl dX2_learn_6 ?_
  refine j_callVV h 10 rfl lkX2_32 sh_29 rfl rfl (t_X4_takeFrom _) rfl rfl rfl dX2_learn_7 (fun M9 hM9 => ?_)
  refine j_iconst h 11 rfl (nI 0) (by decide) dX2_learn_10 ?_
  refine j_istore h 13 rfl rfl dX2_learn_11 ?_
  have L1 : ∀ (n a : Nat) (M2 : hM) (z : Option Value), 9 - a < n → a ≤ 9 → lrI M (fun k => hlB (lawP M (5 * (k / 9)) (5 * (k % 9))) t rm hr0 (M 87) g) (9 * a) M2 → J X 13 [some (.ref 84), some (.int t), some (.ref 14), some (.ref 29), some (.ref 59), some (.int (nI (5 * a))), z] [] M2 := by
    intro n
    induction n with
    | zero => intro a M2 z h1; omega
    | succ n ih =>
      intro a M2 z h1 h2 hI
      refine j_iload h 15 rfl rfl dX2_learn_13 ?_
      refine j_bipush h 17 rfl (nI 40) (by decide) dX2_learn_15 ?_
      refine j_icmp_gtN h 76 20 (by omega) (by omega) dX2_learn_17 (by decide) rfl (fun c_17 => ?_) (fun c_17 => ?_)
      · skip
        exact j_vret h hr dX2_learn_76 ⟨rfl, by rw [show 81 = 9 * a by omega]; exact hI⟩
      · skip
        refine j_iconst h 21 rfl (nI 0) (by decide) dX2_learn_20 ?_
        refine j_istore h 23 rfl rfl dX2_learn_21 ?_
        have L2 : ∀ (n3 b : Nat) (M3 : hM), 9 - b < n3 → b ≤ 9 → lrI M (fun k => hlB (lawP M (5 * (k / 9)) (5 * (k % 9))) t rm hr0 (M 87) g) (9 * a + b) M3 → J X 23 [some (.ref 84), some (.int t), some (.ref 14), some (.ref 29), some (.ref 59), some (.int (nI (5 * a))), some (.int (nI (5 * b)))] [] M3 := by
          intro n3
          induction n3 with
          | zero => intro b M3 g1; omega
          | succ n3 ih3 =>
            intro b M3 g1 g2 hI3
            refine j_iload h 25 rfl rfl dX2_learn_23 ?_
            refine j_bipush h 27 rfl (nI 40) (by decide) dX2_learn_25 ?_
            refine j_icmp_gtN h 70 30 (by omega) (by omega) dX2_learn_27 (by decide) rfl (fun c_27 => ?_) (fun c_27 => ?_)
            · skip
              refine j_iincK h 73 rfl 5 (by decide) rfl rfl dX2_learn_70 ?_
              refine j_goto h 13 dX2_learn_73 (by decide) ?_
              exact ih (a + 1) _ _ (by omega) (by omega) (by rw [show 9 * (a + 1) = 9 * a + b by omega]; exact hI3)
            · skip
              refine j_aload_n h 31 rfl rfl dX2_learn_30 ?_
              refine j_iload h 33 rfl rfl dX2_learn_31 ?_
              refine j_iload h 35 rfl rfl dX2_learn_33 ?_
              refine j_callVV h 38 rfl lkX2_38 sh_29 rfl rfl (t_X4_putLaw _ _ _) rfl rfl rfl dX2_learn_35 (fun M7 hM7 => ?_)
              subst hM7
              refine j_aload h 40 rfl rfl dX2_learn_38 ?_
              refine j_aload_n h 41 rfl rfl dX2_learn_40 ?_
              refine j_aload_n h 42 rfl rfl dX2_learn_41 ?_
              refine j_callVV h 45 rfl lkX2_42 sh_59 rfl rfl (t_X1_run _ _ hc) rfl rfl rfl dX2_learn_42 (fun M5 hM5 => ?_)
              obtain ⟨e1, e2⟩ := lr_run hI3 hM5
              refine j_aload_n h 46 rfl rfl dX2_learn_45 ?_
              refine j_iload_n h 47 rfl rfl dX2_learn_46 ?_
              refine j_aload_n h 48 rfl rfl dX2_learn_47 ?_
              refine j_aload h 50 rfl rfl dX2_learn_48 ?_
              refine j_callVI h 53 rfl lkX2_48 sh_84 rfl rfl (t_X2_allHold _ 59 g t rm hr0 hc hg (by rw [e2 84 (by omega), hI3.1.2 3 (by decide)]; exact eg) (fun i9 hi9 => by rw [e2 85 (by omega), e2 86 (by omega), hI3.1.1 85 (by omega), hI3.1.1 86 (by omega)]; exact hrow i9 hi9)) rfl rfl rfl dX2_learn_50 ?_
              have e3 : ahB (M5 15) (fun r k => M5 (59 + 4 + r) k) t rm hr0 (M5 87) g = (fun k => hlB (lawP M (5 * (k / 9)) (5 * (k % 9))) t rm hr0 (M 87) g) (9 * a + b) := by
                show _ = hlB (lawP M (5 * ((9 * a + b) / 9)) (5 * ((9 * a + b) % 9))) t rm hr0 (M 87) g
                rw [show (9 * a + b) / 9 = a by omega, show (9 * a + b) % 9 = b by omega]
                refine ahB_cg g (fun i9 hi9 => ?_)
                obtain ⟨-, w2, -, w4⟩ := hrow i9 hi9
                have w5 : M5 15 = lawP M (5 * a) (5 * b) 15 := by
                  rw [e2 15 (by omega), hI3.1.1 15 (by omega)]; rfl
                exact ⟨by rw [e2 87 (by omega), hI3.1.1 87 (by omega)], congrFun w5 _, fun q => ((e1 (rm i9) w2 q).1 (hr0 i9 + 1) (by omega)).1⟩
              refine j_if_eqB h 64 56 dX2_learn_53 (by decide) rfl (fun c_53 => ?_) (fun c_53 => ?_)
              · skip
                refine j_iincK h 67 rfl 5 (by decide) rfl rfl dX2_learn_64 ?_
                refine j_goto h 23 dX2_learn_67 (by decide) ?_
                first
                  | exact ih3 (b + 1) _ (by omega) (by omega) (lr_yes (k := 9 * a + b) (by omega) (lr_fr hI3 e2) (e3.symm.trans c_53) (by rw [show (9 * a + b) / 9 = a by omega, show (9 * a + b) % 9 = b by omega]; exact hM4))
                  | exact ih3 (b + 1) _ (by omega) (by omega) ⟨(lr_fr hI3 e2).1, (lr_fr hI3 e2).2.1, lnI_no (k := 9 * a + b) (lr_fr hI3 e2).2.2 (fun w => c_53 (e3.trans w))⟩
              · skip
                refine j_aload_n h 57 rfl rfl dX2_learn_56 ?_
                refine j_iload h 59 rfl rfl dX2_learn_57 ?_
                refine j_iload h 61 rfl rfl dX2_learn_59 ?_
                refine j_callVV h 64 rfl lkX2_52 sh_84 rfl rfl (t_X2_keep _ _ _) rfl rfl rfl dX2_learn_61 (fun M4 hM4 => ?_)
                refine j_iincK h 67 rfl 5 (by decide) rfl rfl dX2_learn_64 ?_
                refine j_goto h 23 dX2_learn_67 (by decide) ?_
                first
                  | exact ih3 (b + 1) _ (by omega) (by omega) (lr_yes (k := 9 * a + b) (by omega) (lr_fr hI3 e2) (e3.symm.trans c_53) (by rw [show (9 * a + b) / 9 = a by omega, show (9 * a + b) % 9 = b by omega]; exact hM4))
                  | exact ih3 (b + 1) _ (by omega) (by omega) ⟨(lr_fr hI3 e2).1, (lr_fr hI3 e2).2.1, lnI_no (k := 9 * a + b) (lr_fr hI3 e2).2.2 (fun w => c_53 (e3.trans w))⟩
        exact L2 10 0 _ (by omega) (by omega) hI
  exact L1 10 0 _ _ (by omega) (by omega) ⟨⟨fun a ha => by rw [hM9.1 a (by omega), mu_f (by omega)], fun j hj => by rw [hM9.1 84 (by omega), mu_k (by omega)]⟩, ⟨fun r hr9 => by rw [← eP]; exact hM9.2.2.2.2.1 r hr9, fun h9 hh => by rw [← eP]; exact hM9.2.2.2.2.2 h9 hh⟩, by rw [hM9.1 84 (by omega), mu_s]; rfl, fun z => absurd z (Nat.lt_irrefl 0)⟩
