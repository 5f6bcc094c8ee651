/-! Street -/
def sdL (set : Int32) (i : Nat) : Nat := if 0 < i ∧ bitP set (nI (i - 1)) then 1 else 0
def sdR (set : Int32) (i n : Nat) : Nat := if i + 1 < n ∧ bitP set (nI (i + 1)) then 1 else 0
theorem sdR_t {set : Int32} {i n : Nat} (h1 : i + 1 < n) (h2 : bitP set (nI (i + 1))) : sdR set i n = 1 := if_pos ⟨h1, h2⟩
theorem sdR_f {set : Int32} {i n : Nat} (h : ¬ i + 1 < n ∨ ¬ bitP set (nI (i + 1))) : sdR set i n = 0 := if_neg (fun z => h.elim (fun w => w z.1) (fun w => w z.2))
def bsd (set : Int32) (i n : Nat) : Nat := sdL set i + sdR set i n
def hasS (c w p x set : Int32) (i n : Nat) : Int32 := if ¬ x = 0 then c - p - nI (bsd set i n) * w else -2 * nI (bsd set i n) * w
theorem hb_eq {P Q : Prop} [Decidable P] [Decidable Q] : hb P = hb Q ↔ (P ↔ Q) := by
  constructor
  · intro h
    constructor
    · intro p; rw [hb_t p] at h; exact hb_1.mp h.symm
    · intro q; rw [hb_t q] at h; exact hb_1.mp h
  · exact hb_c
def rsB (c w p set : Int32) (n : Nat) : Nat → Bool
  | 0 => true
  | i + 1 => rsB c w p set n i && decide (hasS c w p (nI 0) set i n < hasS c w p (nI 1) set i n ↔ bitP set (nI i))
theorem rsB_up {c w p set : Int32} {n i : Nat} (h : rsB c w p set n i = false) : ∀ g, i ≤ g → rsB c w p set n g = false := by
  intro g hg
  induction g with
  | zero => have : i = 0 := by omega
            subst this; exact h
  | succ g ih =>
    by_cases e : i = g + 1
    · subst e; exact h
    · rw [rsB, ih (by omega)]; rfl
def alS (c w p set : Int32) (n : Nat) : Nat → Int32
  | 0 => nI 0
  | i + 1 => alS c w p set n i + hasS c w p (hb (bitP set (nI i))) set i n
/-- RESTS, how many, the best, what all have by it; what all have at most -/
def skS (c w p : Int32) (n : Nat) : Nat → Nat × Int32 × Int32 × Int32
  | 0 => (0, -1, nI 0, nI 0)
  | k + 1 => let s := skS c w p n k
    let all := alS c w p (nI k) n n
    let top := if k = 0 ∨ s.2.2.2 < all then all else s.2.2.2
    if rsB c w p (nI k) n n = true then (s.1 + 1, if s.1 = 0 ∨ s.2.2.1 < all then nI k else s.2.1, if s.1 = 0 ∨ s.2.2.1 < all then all else s.2.2.1, top) else (s.1, s.2.1, s.2.2.1, top)
theorem skS_le {c w p : Int32} {n : Nat} : ∀ k, (skS c w p n k).1 ≤ k
  | 0 => Nat.le_refl 0
  | k + 1 => by
    have ih := skS_le (c := c) (w := w) (p := p) (n := n) k
    rw [skS]
    by_cases h : rsB c w p (nI k) n n = true
    · simp only [if_pos h]; omega
    · simp only [if_neg h]; omega
theorem pow_N {w : Nat} (hw : w ≤ 8) : ∃ W, W ≤ 256 ∧ 0 < W ∧ nI 1 <<< (nI w &&& 31) = nI W ∧ W = 2 ^ w := by
  rcases (by omega : w = 0 ∨ w = 1 ∨ w = 2 ∨ w = 3 ∨ w = 4 ∨ w = 5 ∨ w = 6 ∨ w = 7 ∨ w = 8) with rfl | rfl | rfl | rfl | rfl | rfl | rfl | rfl | rfl <;> exact ⟨_, by decide, by decide, by decide, rfl⟩
def stI (s : Nat × Int32 × Int32 × Int32) (k : Nat) (M2 : hM) : Prop := M2 92 4 = nI s.1 ∧ M2 92 5 = s.2.1 ∧ (0 < s.1 → M2 92 6 = s.2.2.1) ∧ (0 < k → M2 92 7 = s.2.2.2)
def lkI (M : hM) (n : Nat) (c w p : Int32) (k : Nat) (M2 : hM) : Prop := (∀ a, a ≠ 92 → M2 a = M a) ∧ (M2 92 0 = nI n ∧ M2 92 1 = c ∧ M2 92 2 = w ∧ M2 92 3 = p) ∧ stI (skS c w p n k) k M2
def krP (M : hM) (s all : Int32) (M2 : hM) : Prop := (∀ a, a ≠ 92 → M2 a = M a) ∧ (∀ j, j ≠ 4 → j ≠ 5 → j ≠ 6 → M2 92 j = M 92 j) ∧ M2 92 4 = M 92 4 + nI 1 ∧ ((M 92 4 = 0 ∨ M 92 6 < all) → M2 92 5 = s ∧ M2 92 6 = all) ∧ (¬ (M 92 4 = 0 ∨ M 92 6 < all) → M2 92 5 = M 92 5 ∧ M2 92 6 = M 92 6)
def tpI (M : hM) (n : Nat) (c w p : Int32) (k : Nat) (M2 : hM) : Prop := (∀ a, a ≠ 92 → M2 a = M a) ∧ (M2 92 0 = nI n ∧ M2 92 1 = c ∧ M2 92 2 = w ∧ M2 92 3 = p) ∧ M2 92 4 = nI (skS c w p n k).1 ∧ M2 92 5 = (skS c w p n k).2.1 ∧ (0 < (skS c w p n k).1 → M2 92 6 = (skS c w p n k).2.2.1) ∧ M2 92 7 = (if k = 0 ∨ (skS c w p n k).2.2.2 < alS c w p (nI k) n n then alS c w p (nI k) n n else (skS c w p n k).2.2.2)
theorem tpI_set {M M2 : hM} {n k : Nat} {c w p : Int32} (h : lkI M n c w p k M2) (hc : k = 0 ∨ M2 92 7 < alS c w p (nI k) n n) : tpI M n c w p k (mu M2 92 7 (alS c w p (nI k) n n)) := by
  obtain ⟨h1, ⟨h2, h3, h4, h5⟩, h6, h7, h8, h9⟩ := h
  have q : k = 0 ∨ (skS c w p n k).2.2.2 < alS c w p (nI k) n n := by
    rcases Nat.eq_zero_or_pos k with z | z
    · exact Or.inl z
    · rcases hc with q | q
      · exact Or.inl q
      · rw [h9 z] at q; exact Or.inr q
  refine ⟨fun a ha => by rw [mu_f ha]; exact h1 a ha, ⟨by rw [mu_k (by decide)]; exact h2, by rw [mu_k (by decide)]; exact h3, by rw [mu_k (by decide)]; exact h4, by rw [mu_k (by decide)]; exact h5⟩, by rw [mu_k (by decide)]; exact h6, by rw [mu_k (by decide)]; exact h7, fun z => by rw [mu_k (by decide)]; exact h8 z, ?_⟩
  rw [mu_s, if_pos q]
theorem tpI_keep {M M2 : hM} {n k : Nat} {c w p : Int32} (h : lkI M n c w p k M2) (h0 : ¬ k = 0) (hc : alS c w p (nI k) n n ≤ M2 92 7) : tpI M n c w p k M2 := by
  obtain ⟨h1, h2, h6, h7, h8, h9⟩ := h
  refine ⟨h1, h2, h6, h7, h8, ?_⟩
  have e := h9 (by omega)
  rw [if_neg, e]
  rintro (z | z)
  · exact h0 z
  · rw [e] at hc; exact absurd z (Int32.not_lt.mpr hc)
theorem lkI_no {M M2 : hM} {n k : Nat} {c w p : Int32} (h : tpI M n c w p k M2) (hr : ¬ rsB c w p (nI k) n n = true) : lkI M n c w p (k + 1) M2 := by
  obtain ⟨h1, h2, h6, h7, h8, h9⟩ := h
  refine ⟨h1, h2, ?_⟩
  unfold stI
  rw [skS]
  simp only [if_neg hr]
  exact ⟨h6, h7, h8, fun _ => h9⟩
theorem lkI_yes {M M2 M3 : hM} {n k : Nat} {c w p : Int32} (hk : k < 256) (h : tpI M n c w p k M2) (hr : rsB c w p (nI k) n n = true) (h3 : krP M2 (nI k) (alS c w p (nI k) n n) M3) : lkI M n c w p (k + 1) M3 := by
  obtain ⟨h1, ⟨a1, a2, a3, a4⟩, h6, h7, h8, h9⟩ := h
  obtain ⟨g1, g2, g3, g4, g5⟩ := h3
  have hle := skS_le (c := c) (w := w) (p := p) (n := n) k
  refine ⟨fun a ha => by rw [g1 a ha]; exact h1 a ha, ⟨by rw [g2 0 (by decide) (by decide) (by decide)]; exact a1, by rw [g2 1 (by decide) (by decide) (by decide)]; exact a2, by rw [g2 2 (by decide) (by decide) (by decide)]; exact a3, by rw [g2 3 (by decide) (by decide) (by decide)]; exact a4⟩, ?_⟩
  have hz : M2 92 4 = 0 ↔ (skS c w p n k).1 = 0 := by
    rw [h6]
    constructor
    · intro z
      rcases Nat.eq_zero_or_pos (skS c w p n k).1 with q | q
      · exact q
      · exact absurd z (nI_ne0 q (by omega))
    · intro z; rw [z]; rfl
  have hq : (M2 92 4 = 0 ∨ M2 92 6 < alS c w p (nI k) n n) ↔ ((skS c w p n k).1 = 0 ∨ (skS c w p n k).2.2.1 < alS c w p (nI k) n n) := by
    rcases Nat.eq_zero_or_pos (skS c w p n k).1 with q | q
    · exact ⟨fun _ => Or.inl q, fun _ => Or.inl (hz.mpr q)⟩
    · rw [h8 q, hz]
  unfold stI
  rw [skS]
  simp only [if_pos hr]
  refine ⟨by rw [g3, h6, nI_add], ?_, fun _ => ?_, fun _ => by rw [g2 7 (by decide) (by decide) (by decide)]; exact h9⟩
  · by_cases q : (skS c w p n k).1 = 0 ∨ (skS c w p n k).2.2.1 < alS c w p (nI k) n n
    · rw [(g4 (hq.mpr q)).1, if_pos q]
    · rw [(g5 (fun z => q (hq.mp z))).1, if_neg q, h7]
  · by_cases q : (skS c w p n k).1 = 0 ∨ (skS c w p n k).2.2.1 < alS c w p (nI k) n n
    · rw [(g4 (hq.mpr q)).2, if_pos q]
    · rw [(g5 (fun z => q (hq.mp z))).2, if_neg q]
      exact h8 (by omega)

set_option maxRecDepth 100000 in
set_option maxHeartbeats 4000000 in
theorem t_X7_rests (M : hM) : Ct 1 mX7_rests [.ref 92] M (pI (M 92 4) M) := by
  refine ct_of (lv := [some (.ref 92)]) (by decide +kernel) (fun _ _ hq => hq) rfl (fun _ => Nat.le_of_ble_eq_true rfl) (fun X h hr => ?_)
  refine j_aload_n h 1 rfl rfl dX7_rests_0 ?_
  refine j_getI h 4 rfl glX7_24 sh_92 rfl dX7_rests_1 ?_
  exact j_ret h hr rfl dX7_rests_4 ⟨rfl, rfl⟩
set_option maxRecDepth 100000 in
set_option maxHeartbeats 4000000 in
theorem t_X7_bestRest (M : hM) : Ct 1 mX7_bestRest [.ref 92] M (pI (M 92 5) M) := by
  refine ct_of (lv := [some (.ref 92)]) (by decide +kernel) (fun _ _ hq => hq) rfl (fun _ => Nat.le_of_ble_eq_true rfl) (fun X h hr => ?_)
  refine j_aload_n h 1 rfl rfl dX7_bestRest_0 ?_
  refine j_getI h 4 rfl glX7_27 sh_92 rfl dX7_bestRest_1 ?_
  exact j_ret h hr rfl dX7_bestRest_4 ⟨rfl, rfl⟩
set_option maxRecDepth 100000 in
set_option maxHeartbeats 4000000 in
theorem t_X7_mostByRest (M : hM) : Ct 1 mX7_mostByRest [.ref 92] M (pI (M 92 6) M) := by
  refine ct_of (lv := [some (.ref 92)]) (by decide +kernel) (fun _ _ hq => hq) rfl (fun _ => Nat.le_of_ble_eq_true rfl) (fun X h hr => ?_)
  refine j_aload_n h 1 rfl rfl dX7_mostByRest_0 ?_
  refine j_getI h 4 rfl glX7_45 sh_92 rfl dX7_mostByRest_1 ?_
  exact j_ret h hr rfl dX7_mostByRest_4 ⟨rfl, rfl⟩
set_option maxRecDepth 100000 in
set_option maxHeartbeats 4000000 in
theorem t_X7_mostByAny (M : hM) : Ct 1 mX7_mostByAny [.ref 92] M (pI (M 92 7) M) := by
  refine ct_of (lv := [some (.ref 92)]) (by decide +kernel) (fun _ _ hq => hq) rfl (fun _ => Nat.le_of_ble_eq_true rfl) (fun X h hr => ?_)
  refine j_aload_n h 1 rfl rfl dX7_mostByAny_0 ?_
  refine j_getI h 4 rfl glX7_34 sh_92 rfl dX7_mostByAny_1 ?_
  exact j_ret h hr rfl dX7_mostByAny_4 ⟨rfl, rfl⟩
set_option maxRecDepth 100000 in
set_option maxHeartbeats 4000000 in
theorem t_X7_has (M : hM) (n i : Nat) (x set : Int32) (en : M 92 0 = nI n) (hn : n ≤ 8) (hi : i < n) : Ct 2 mX7_has [.ref 92, .int (nI i), .int x, .int set] M (pI (hasS (M 92 1) (M 92 2) (M 92 3) x set i n) M) := by
  refine ct_of (lv := [some (.ref 92), some (.int (nI i)), some (.int x), some (.int set), none]) (by decide +kernel) (fun _ _ hq => hq) rfl (fun _ => Nat.le_of_ble_eq_true rfl) (fun X h hr => ?_)
  refine j_iconst h 1 rfl (nI 0) (by decide) dX7_has_0 ?_
  refine j_istore h 3 rfl rfl dX7_has_1 ?_
  have K20 : ∀ b9, b9 = sdL set i → J X 20 [some (.ref 92), some (.int (nI i)), some (.int x), some (.int set), some (.int (nI b9))] [] M := by
    intro b9 hb9
    have K43 : ∀ b9, b9 = bsd set i n → J X 43 [some (.ref 92), some (.int (nI i)), some (.int x), some (.int set), some (.int (nI b9))] [] M := by
      intro b8 hb8
      subst hb8
      refine j_iload_n h 44 rfl rfl dX7_has_43 ?_
      refine j_if_eq h 67 47 dX7_has_44 (by decide) rfl (fun c_44 => ?_) (fun c_44 => ?_)
      · skip
        refine j_bipush h 69 rfl (-2) (by decide) dX7_has_67 ?_
        refine j_iload h 71 rfl rfl dX7_has_69 ?_
        refine j_imul h 72 rfl dX7_has_71 ?_
        refine j_aload_n h 73 rfl rfl dX7_has_72 ?_
        refine j_getI h 76 rfl glX7_18 sh_92 rfl dX7_has_73 ?_
        refine j_imul h 77 rfl dX7_has_76 ?_
        exact j_ret h hr rfl dX7_has_77 ⟨congrArg (fun z => some (Value.int z)) (by unfold hasS; first | exact (if_pos c_44).symm | exact (if_neg (fun z => z c_44)).symm), rfl⟩
      · skip
        refine j_aload_n h 48 rfl rfl dX7_has_47 ?_
        refine j_getI h 51 rfl glX7_15 sh_92 rfl dX7_has_48 ?_
        refine j_aload_n h 52 rfl rfl dX7_has_51 ?_
        refine j_getI h 55 rfl glX7_21 sh_92 rfl dX7_has_52 ?_
        refine j_isub h 56 rfl dX7_has_55 ?_
        refine j_iload h 58 rfl rfl dX7_has_56 ?_
        refine j_aload_n h 59 rfl rfl dX7_has_58 ?_
        refine j_getI h 62 rfl glX7_18 sh_92 rfl dX7_has_59 ?_
        refine j_imul h 63 rfl dX7_has_62 ?_
        refine j_isub h 64 rfl dX7_has_63 ?_
        refine j_goto h 77 dX7_has_64 (by decide) ?_
        exact j_ret h hr rfl dX7_has_77 ⟨congrArg (fun z => some (Value.int z)) (by unfold hasS; first | exact (if_pos c_44).symm | exact (if_neg (fun z => z c_44)).symm), rfl⟩
    refine j_iload_n h 21 rfl rfl dX7_has_20 ?_
    refine j_iconst h 22 rfl (nI 1) (by decide) dX7_has_21 ?_
    refine j_iaddN h 23 rfl dX7_has_22 ?_
    refine j_aload_n h 24 rfl rfl dX7_has_23 ?_
    refine j_getI h 27 rfl glX7_9 sh_92 rfl dX7_has_24 ?_
    refine j_top en ?_
    refine j_icmp_geN h 43 30 (by omega) (by omega) dX7_has_27 (by decide) rfl (fun c_27 => ?_) (fun c_27 => ?_)
    · skip
      exact K43 _ (by unfold bsd; rw [← hb9]; first | exact (congrArg (fun z => b9 + z) (sdR_t c_27 c_37)).symm | exact (congrArg (fun z => b9 + z) (sdR_f (Or.inr c_37))).symm | exact (congrArg (fun z => b9 + z) (sdR_f (Or.inl (by omega)))).symm)
    · skip
      refine j_iload_n h 31 rfl rfl dX7_has_30 ?_
      refine j_iload_n h 32 rfl rfl dX7_has_31 ?_
      refine j_iconst h 33 rfl (nI 1) (by decide) dX7_has_32 ?_
      refine j_iaddN h 34 rfl dX7_has_33 ?_
      refine j_callNI h 37 rfl lkX7_48 rfl (t_X10_hasBit _ _ _) rfl rfl rfl dX7_has_34 ?_
      refine j_if_eqB h 43 40 dX7_has_37 (by decide) rfl (fun c_37 => ?_) (fun c_37 => ?_)
      · skip
        exact K43 _ (by unfold bsd; rw [← hb9]; first | exact (congrArg (fun z => b9 + z) (sdR_t c_27 c_37)).symm | exact (congrArg (fun z => b9 + z) (sdR_f (Or.inr c_37))).symm | exact (congrArg (fun z => b9 + z) (sdR_f (Or.inl (by omega)))).symm)
      · skip
        refine j_iincN h 43 rfl rfl rfl dX7_has_40 ?_
        exact K43 _ (by unfold bsd; rw [← hb9]; first | exact (congrArg (fun z => b9 + z) (sdR_t c_27 c_37)).symm | exact (congrArg (fun z => b9 + z) (sdR_f (Or.inr c_37))).symm | exact (congrArg (fun z => b9 + z) (sdR_f (Or.inl (by omega)))).symm)
  refine j_iload_n h 4 rfl rfl dX7_has_3 ?_
  refine j_if_leN h 20 7 (by omega) dX7_has_4 (by decide) rfl (fun c_4 => ?_) (fun c_4 => ?_)
  · skip
    exact K20 _ (by unfold sdL; first | exact (if_pos ⟨c_4, c_14⟩).symm | exact (if_neg (fun z => c_14 z.2)).symm | exact (if_neg (by omega)).symm)
  · skip
    refine j_iload_n h 8 rfl rfl dX7_has_7 ?_
    refine j_iload_n h 9 rfl rfl dX7_has_8 ?_
    refine j_iconst h 10 rfl (nI 1) (by decide) dX7_has_9 ?_
    refine j_isubN h 11 rfl (by omega) dX7_has_10 ?_
    refine j_callNI h 14 rfl lkX7_48 rfl (t_X10_hasBit _ _ _) rfl rfl rfl dX7_has_11 ?_
    refine j_if_eqB h 20 17 dX7_has_14 (by decide) rfl (fun c_14 => ?_) (fun c_14 => ?_)
    · skip
      exact K20 _ (by unfold sdL; first | exact (if_pos ⟨c_4, c_14⟩).symm | exact (if_neg (fun z => c_14 z.2)).symm | exact (if_neg (by omega)).symm)
    · skip
      refine j_iincN h 20 rfl rfl rfl dX7_has_17 ?_
      exact K20 _ (by unfold sdL; first | exact (if_pos ⟨c_4, c_14⟩).symm | exact (if_neg (fun z => c_14 z.2)).symm | exact (if_neg (by omega)).symm)
set_option maxRecDepth 100000 in
set_option maxHeartbeats 4000000 in
theorem t_X7_allHave (M : hM) (n : Nat) (set : Int32) (en : M 92 0 = nI n) (hn : n ≤ 8) : Ct 3 mX7_allHave [.ref 92, .int set] M (pI (alS (M 92 1) (M 92 2) (M 92 3) set n n) M) := by
  refine ct_of (lv := [some (.ref 92), some (.int set), none, none]) (by decide +kernel) (fun _ _ hq => hq) rfl (fun _ => Nat.le_of_ble_eq_true rfl) (fun X h hr => ?_)
  refine j_iconst h 1 rfl (nI 0) (by decide) dX7_allHave_0 ?_
  refine j_istore_n h 2 rfl rfl dX7_allHave_1 ?_
  refine j_iconst h 3 rfl (nI 0) (by decide) dX7_allHave_2 ?_
  refine j_istore_n h 4 rfl rfl dX7_allHave_3 ?_
  have L : ∀ (m i : Nat) (x : Int32), n - i < m → i ≤ n → x = alS (M 92 1) (M 92 2) (M 92 3) set n i → J X 4 [some (.ref 92), some (.int set), some (.int x), some (.int (nI i))] [] M := by
    intro m
    induction m with
    | zero => intro i x h1; omega
    | succ m ih =>
      intro i x h1 h2 hx
      subst hx
      refine j_iload_n h 5 rfl rfl dX7_allHave_4 ?_
      refine j_aload_n h 6 rfl rfl dX7_allHave_5 ?_
      refine j_getI h 9 rfl glX7_9 sh_92 rfl dX7_allHave_6 ?_
      refine j_top en ?_
      refine j_icmp_geN h 32 12 (by omega) (by omega) dX7_allHave_9 (by decide) rfl (fun c_9 => ?_) (fun c_9 => ?_)
      · skip
        refine j_iload_n h 33 rfl rfl dX7_allHave_32 ?_
        exact j_ret h hr rfl dX7_allHave_33 ⟨congrArg (fun z => some (Value.int z)) (by rw [show i = n by omega]), rfl⟩
      · skip
        refine j_iload_n h 13 rfl rfl dX7_allHave_12 ?_
        refine j_aload_n h 14 rfl rfl dX7_allHave_13 ?_
        refine j_iload_n h 15 rfl rfl dX7_allHave_14 ?_
        refine j_iload_n h 16 rfl rfl dX7_allHave_15 ?_
        refine j_iload_n h 17 rfl rfl dX7_allHave_16 ?_
        refine j_callNI h 20 rfl lkX7_48 rfl (t_X10_hasBit _ _ _) rfl rfl rfl dX7_allHave_17 ?_
        refine j_iload_n h 21 rfl rfl dX7_allHave_20 ?_
        refine j_callVI h 24 rfl lkX7_52 sh_92 rfl rfl (t_X7_has _ n i _ _ en hn (by omega)) rfl rfl rfl dX7_allHave_21 ?_
        refine j_iadd h 25 rfl dX7_allHave_24 ?_
        refine j_istore_n h 26 rfl rfl dX7_allHave_25 ?_
        refine j_iincN h 29 rfl rfl rfl dX7_allHave_26 ?_
        refine j_goto h 4 dX7_allHave_29 (by decide) ?_
        exact ih (i + 1) _ (by omega) (by omega) (by rw [alS])
  exact L (n + 1) 0 _ (by omega) (by omega) rfl
set_option maxRecDepth 100000 in
set_option maxHeartbeats 4000000 in
theorem t_X7_isRest (M : hM) (n : Nat) (set : Int32) (en : M 92 0 = nI n) (hn : n ≤ 8) : Ct 3 mX7_isRest [.ref 92, .int set] M (pI (hb (rsB (M 92 1) (M 92 2) (M 92 3) set n n = true)) M) := by
  refine ct_of (lv := [some (.ref 92), some (.int set), none, none]) (by decide +kernel) (fun _ _ hq => hq) rfl (fun _ => Nat.le_of_ble_eq_true rfl) (fun X h hr => ?_)
  refine j_iconst h 1 rfl (nI 0) (by decide) dX7_isRest_0 ?_
  refine j_istore_n h 2 rfl rfl dX7_isRest_1 ?_
  have L : ∀ (m i : Nat) (z : Option Value), n - i < m → i ≤ n → rsB (M 92 1) (M 92 2) (M 92 3) set n i = true → J X 2 [some (.ref 92), some (.int set), some (.int (nI i)), z] [] M := by
    intro m
    induction m with
    | zero => intro i z h1; omega
    | succ m ih =>
      intro i z h1 h2 hI
      refine j_iload_n h 3 rfl rfl dX7_isRest_2 ?_
      refine j_aload_n h 4 rfl rfl dX7_isRest_3 ?_
      refine j_getI h 7 rfl glX7_9 sh_92 rfl dX7_isRest_4 ?_
      refine j_top en ?_
      refine j_icmp_geN h 50 10 (by omega) (by omega) dX7_isRest_7 (by decide) rfl (fun c_7 => ?_) (fun c_7 => ?_)
      · skip
        refine j_iconst h 51 rfl (nI 1) (by decide) dX7_isRest_50 ?_
        exact j_ret h hr (by decide) dX7_isRest_51 ⟨congrArg (fun z => some (Value.int z)) (by first | (rw [hb_t]; rfl; (obtain rfl : i = n := by omega); exact hI) | (rw [hb_f]; rfl; (obtain rfl : i = n := by omega); exact hI)), rfl⟩
      · skip
        have K32 : ∀ x, x = hb (hasS (M 92 1) (M 92 2) (M 92 3) (nI 0) set i n < hasS (M 92 1) (M 92 2) (M 92 3) (nI 1) set i n) → J X 32 [some (.ref 92), some (.int set), some (.int (nI i)), z] [.int x] M := by
          intro x hx
          subst hx
          refine j_istore_n h 33 rfl rfl dX7_isRest_32 ?_
          refine j_iload_n h 34 rfl rfl dX7_isRest_33 ?_
          refine j_iload_n h 35 rfl rfl dX7_isRest_34 ?_
          refine j_iload_n h 36 rfl rfl dX7_isRest_35 ?_
          refine j_callNI h 39 rfl lkX7_48 rfl (t_X10_hasBit _ _ _) rfl rfl rfl dX7_isRest_36 ?_
          refine j_icmp_eq h 44 42 dX7_isRest_39 (by decide) rfl (fun c_39 => ?_) (fun c_39 => ?_)
          · skip
            refine j_iincN h 47 rfl rfl rfl dX7_isRest_44 ?_
            refine j_goto h 2 dX7_isRest_47 (by decide) ?_
            exact ih (i + 1) _ (by omega) (by omega) (by rw [rsB, hI, Bool.true_and]; exact decide_eq_true (hb_eq.mp c_39))
          · skip
            refine j_iconst h 43 rfl (nI 0) (by decide) dX7_isRest_42 ?_
            exact j_ret h hr (by decide) dX7_isRest_43 ⟨congrArg (fun z => some (Value.int z)) (by rw [hb_f]; rfl; intro z; rw [rsB_up (i := i + 1) (by rw [rsB, hI, Bool.true_and]; exact decide_eq_false (fun w => c_39 (hb_eq.mpr w))) n (by omega)] at z; cases z), rfl⟩
        refine j_aload_n h 11 rfl rfl dX7_isRest_10 ?_
        refine j_iload_n h 12 rfl rfl dX7_isRest_11 ?_
        refine j_iconst h 13 rfl (nI 1) (by decide) dX7_isRest_12 ?_
        refine j_iload_n h 14 rfl rfl dX7_isRest_13 ?_
        refine j_callVI h 17 rfl lkX7_52 sh_92 rfl rfl (t_X7_has _ n i _ _ en hn (by omega)) rfl rfl rfl dX7_isRest_14 ?_
        refine j_aload_n h 18 rfl rfl dX7_isRest_17 ?_
        refine j_iload_n h 19 rfl rfl dX7_isRest_18 ?_
        refine j_iconst h 20 rfl (nI 0) (by decide) dX7_isRest_19 ?_
        refine j_iload_n h 21 rfl rfl dX7_isRest_20 ?_
        refine j_callVI h 24 rfl lkX7_52 sh_92 rfl rfl (t_X7_has _ n i _ _ en hn (by omega)) rfl rfl rfl dX7_isRest_21 ?_
        refine j_icmp_le h 31 27 dX7_isRest_24 (by decide) rfl (fun c_24 => ?_) (fun c_24 => ?_)
        · skip
          refine j_iconst h 32 rfl (nI 0) (by decide) dX7_isRest_31 ?_
          exact K32 _ (by first | exact (hb_t (Int32.not_le.mp c_24)).symm | exact (hb_f (Int32.not_lt.mpr c_24)).symm)
        · skip
          refine j_iconst h 28 rfl (nI 1) (by decide) dX7_isRest_27 ?_
          refine j_goto h 32 dX7_isRest_28 (by decide) ?_
          exact K32 _ (by first | exact (hb_t (Int32.not_le.mp c_24)).symm | exact (hb_f (Int32.not_lt.mpr c_24)).symm)
  exact L (n + 1) 0 _ (by omega) (by omega) rfl
set_option maxRecDepth 100000 in
set_option maxHeartbeats 4000000 in
theorem t_X7_keepRest (M : hM) (s all : Int32) : Ct 1 mX7_keepRest [.ref 92, .int s, .int all] M (pV (krP M s all)) := by
  refine ct_of (lv := [some (.ref 92), some (.int s), some (.int all)]) (by decide +kernel) (fun _ _ hq => hq) rfl (fun _ => Nat.le_of_ble_eq_true rfl) (fun X h hr => ?_)
  refine j_aload_n h 1 rfl rfl dX7_keepRest_0 ?_
  refine j_getI h 4 rfl glX7_24 sh_92 rfl dX7_keepRest_1 ?_
  refine j_if_eq h 15 7 dX7_keepRest_4 (by decide) rfl (fun c_4 => ?_) (fun c_4 => ?_)
  · skip
    refine j_aload_n h 16 rfl rfl dX7_keepRest_15 ?_
    refine j_iload_n h 17 rfl rfl dX7_keepRest_16 ?_
    refine j_putI h 20 rfl plX7_27 sh_92 rfl rfl rfl rfl dX7_keepRest_17 ?_
    refine j_aload_n h 21 rfl rfl dX7_keepRest_20 ?_
    refine j_iload_n h 22 rfl rfl dX7_keepRest_21 ?_
    refine j_putI h 25 rfl plX7_45 sh_92 rfl rfl rfl rfl dX7_keepRest_22 ?_
    refine j_aload_n h 26 rfl rfl dX7_keepRest_25 ?_
    refine j_dup h 27 rfl rfl dX7_keepRest_26 ?_
    refine j_getI h 30 rfl glX7_24 sh_92 rfl dX7_keepRest_27 ?_
    refine j_iconst h 31 rfl (nI 1) (by decide) dX7_keepRest_30 ?_
    refine j_iadd h 32 rfl dX7_keepRest_31 ?_
    refine j_putI h 35 rfl plX7_24 sh_92 rfl rfl rfl rfl dX7_keepRest_32 ?_
    exact j_vret h hr dX7_keepRest_35 ⟨rfl, by
    first
      | exact ⟨fun a ha => by rw [mu_f ha, mu_f ha, mu_f ha], fun j q1 q2 q3 => by rw [mu_k q1, mu_k q3, mu_k q2], by rw [mu_s, mu_k (by decide), mu_k (by decide)], fun _ => ⟨by rw [mu_k (by decide), mu_k (by decide), mu_s], by rw [mu_k (by decide), mu_s]⟩, fun q => absurd (Or.inl c_4) q⟩
      | exact ⟨fun a ha => by rw [mu_f ha, mu_f ha, mu_f ha], fun j q1 q2 q3 => by rw [mu_k q1, mu_k q3, mu_k q2], by rw [mu_s, mu_k (by decide), mu_k (by decide)], fun _ => ⟨by rw [mu_k (by decide), mu_k (by decide), mu_s], by rw [mu_k (by decide), mu_s]⟩, fun q => absurd (Or.inr (Int32.not_le.mp c_12)) q⟩
      | exact ⟨fun a ha => by rw [mu_f ha], fun j q1 q2 q3 => by rw [mu_k q1], by rw [mu_s], fun q => q.elim (fun w => absurd w c_4) (fun w => absurd w (Int32.not_lt.mpr c_12)), fun _ => ⟨by rw [mu_k (by decide)], by rw [mu_k (by decide)]⟩⟩⟩
  · skip
    refine j_iload_n h 8 rfl rfl dX7_keepRest_7 ?_
    refine j_aload_n h 9 rfl rfl dX7_keepRest_8 ?_
    refine j_getI h 12 rfl glX7_45 sh_92 rfl dX7_keepRest_9 ?_
    refine j_icmp_le h 25 15 dX7_keepRest_12 (by decide) rfl (fun c_12 => ?_) (fun c_12 => ?_)
    · skip
      refine j_aload_n h 26 rfl rfl dX7_keepRest_25 ?_
      refine j_dup h 27 rfl rfl dX7_keepRest_26 ?_
      refine j_getI h 30 rfl glX7_24 sh_92 rfl dX7_keepRest_27 ?_
      refine j_iconst h 31 rfl (nI 1) (by decide) dX7_keepRest_30 ?_
      refine j_iadd h 32 rfl dX7_keepRest_31 ?_
      refine j_putI h 35 rfl plX7_24 sh_92 rfl rfl rfl rfl dX7_keepRest_32 ?_
      exact j_vret h hr dX7_keepRest_35 ⟨rfl, by
    first
      | exact ⟨fun a ha => by rw [mu_f ha, mu_f ha, mu_f ha], fun j q1 q2 q3 => by rw [mu_k q1, mu_k q3, mu_k q2], by rw [mu_s, mu_k (by decide), mu_k (by decide)], fun _ => ⟨by rw [mu_k (by decide), mu_k (by decide), mu_s], by rw [mu_k (by decide), mu_s]⟩, fun q => absurd (Or.inl c_4) q⟩
      | exact ⟨fun a ha => by rw [mu_f ha, mu_f ha, mu_f ha], fun j q1 q2 q3 => by rw [mu_k q1, mu_k q3, mu_k q2], by rw [mu_s, mu_k (by decide), mu_k (by decide)], fun _ => ⟨by rw [mu_k (by decide), mu_k (by decide), mu_s], by rw [mu_k (by decide), mu_s]⟩, fun q => absurd (Or.inr (Int32.not_le.mp c_12)) q⟩
      | exact ⟨fun a ha => by rw [mu_f ha], fun j q1 q2 q3 => by rw [mu_k q1], by rw [mu_s], fun q => q.elim (fun w => absurd w c_4) (fun w => absurd w (Int32.not_lt.mpr c_12)), fun _ => ⟨by rw [mu_k (by decide)], by rw [mu_k (by decide)]⟩⟩⟩
    · skip
      refine j_aload_n h 16 rfl rfl dX7_keepRest_15 ?_
      refine j_iload_n h 17 rfl rfl dX7_keepRest_16 ?_
      refine j_putI h 20 rfl plX7_27 sh_92 rfl rfl rfl rfl dX7_keepRest_17 ?_
      refine j_aload_n h 21 rfl rfl dX7_keepRest_20 ?_
      refine j_iload_n h 22 rfl rfl dX7_keepRest_21 ?_
      refine j_putI h 25 rfl plX7_45 sh_92 rfl rfl rfl rfl dX7_keepRest_22 ?_
      refine j_aload_n h 26 rfl rfl dX7_keepRest_25 ?_
      refine j_dup h 27 rfl rfl dX7_keepRest_26 ?_
      refine j_getI h 30 rfl glX7_24 sh_92 rfl dX7_keepRest_27 ?_
      refine j_iconst h 31 rfl (nI 1) (by decide) dX7_keepRest_30 ?_
      refine j_iadd h 32 rfl dX7_keepRest_31 ?_
      refine j_putI h 35 rfl plX7_24 sh_92 rfl rfl rfl rfl dX7_keepRest_32 ?_
      exact j_vret h hr dX7_keepRest_35 ⟨rfl, by
    first
      | exact ⟨fun a ha => by rw [mu_f ha, mu_f ha, mu_f ha], fun j q1 q2 q3 => by rw [mu_k q1, mu_k q3, mu_k q2], by rw [mu_s, mu_k (by decide), mu_k (by decide)], fun _ => ⟨by rw [mu_k (by decide), mu_k (by decide), mu_s], by rw [mu_k (by decide), mu_s]⟩, fun q => absurd (Or.inl c_4) q⟩
      | exact ⟨fun a ha => by rw [mu_f ha, mu_f ha, mu_f ha], fun j q1 q2 q3 => by rw [mu_k q1, mu_k q3, mu_k q2], by rw [mu_s, mu_k (by decide), mu_k (by decide)], fun _ => ⟨by rw [mu_k (by decide), mu_k (by decide), mu_s], by rw [mu_k (by decide), mu_s]⟩, fun q => absurd (Or.inr (Int32.not_le.mp c_12)) q⟩
      | exact ⟨fun a ha => by rw [mu_f ha], fun j q1 q2 q3 => by rw [mu_k q1], by rw [mu_s], fun q => q.elim (fun w => absurd w c_4) (fun w => absurd w (Int32.not_lt.mpr c_12)), fun _ => ⟨by rw [mu_k (by decide)], by rw [mu_k (by decide)]⟩⟩⟩
set_option maxRecDepth 100000 in
set_option maxHeartbeats 4000000 in
theorem t_X7_look (M : hM) (n : Nat) (c w p : Int32) (hn1 : 1 ≤ n) (hn : n ≤ 8) : Ct 4 mX7_look [.ref 92, .int (nI n), .int c, .int w, .int p] M (pV (lkI M n c w p (2 ^ n))) := by
  refine ct_of (lv := [some (.ref 92), some (.int (nI n)), some (.int c), some (.int w), some (.int p), none, none]) (by decide +kernel) (fun _ _ hq => hq) rfl (fun _ => Nat.le_of_ble_eq_true rfl) (fun X h hr => ?_)
  obtain ⟨W, hW1, hW2, hW3, hW4⟩ := pow_N hn
  refine j_aload_n h 1 rfl rfl dX7_look_0 ?_
  refine j_iload_n h 2 rfl rfl dX7_look_1 ?_
  refine j_putI h 5 rfl plX7_9 sh_92 rfl rfl rfl rfl dX7_look_2 ?_
  refine j_aload_n h 6 rfl rfl dX7_look_5 ?_
  refine j_iload_n h 7 rfl rfl dX7_look_6 ?_
  refine j_putI h 10 rfl plX7_15 sh_92 rfl rfl rfl rfl dX7_look_7 ?_
  refine j_aload_n h 11 rfl rfl dX7_look_10 ?_
  refine j_iload_n h 12 rfl rfl dX7_look_11 ?_
  refine j_putI h 15 rfl plX7_18 sh_92 rfl rfl rfl rfl dX7_look_12 ?_
  refine j_aload_n h 16 rfl rfl dX7_look_15 ?_
  refine j_iload h 18 rfl rfl dX7_look_16 ?_
  refine j_putI h 21 rfl plX7_21 sh_92 rfl rfl rfl rfl dX7_look_18 ?_
  refine j_aload_n h 22 rfl rfl dX7_look_21 ?_
  refine j_iconst h 23 rfl (nI 0) (by decide) dX7_look_22 ?_
  refine j_putI h 26 rfl plX7_24 sh_92 rfl rfl rfl rfl dX7_look_23 ?_
  refine j_aload_n h 27 rfl rfl dX7_look_26 ?_
  refine j_iconst h 28 rfl (-1) (by decide) dX7_look_27 ?_
  refine j_putI h 31 rfl plX7_27 sh_92 rfl rfl rfl rfl dX7_look_28 ?_
  refine j_iconst h 32 rfl (nI 0) (by decide) dX7_look_31 ?_
  refine j_istore h 34 rfl rfl dX7_look_32 ?_
  have L : ∀ (m i : Nat) (M2 : hM) (z : Option Value), W - i < m → i ≤ W → lkI M n c w p i M2 → J X 34 [some (.ref 92), some (.int (nI n)), some (.int c), some (.int w), some (.int p), some (.int (nI i)), z] [] M2 := by
    intro m
    induction m with
    | zero => intro i M2 z h1; omega
    | succ m ih =>
      intro i M2 z h1 h2 hI
      obtain ⟨e0, e1, e2, e3⟩ := hI.2.1
      refine j_iload h 36 rfl rfl dX7_look_34 ?_
      refine j_iconst h 37 rfl (nI 1) (by decide) dX7_look_36 ?_
      refine j_aload_n h 38 rfl rfl dX7_look_37 ?_
      refine j_getI h 41 rfl glX7_9 sh_92 rfl dX7_look_38 ?_
      refine j_top e0 ?_
      refine j_ishl h 42 rfl dX7_look_41 ?_
      refine j_top hW3 ?_
      refine j_icmp_geN h 96 45 (by omega) (by omega) dX7_look_42 (by decide) rfl (fun c_42 => ?_) (fun c_42 => ?_)
      · skip
        exact j_vret h hr dX7_look_96 ⟨rfl, by rw [← hW4, show W = i by omega]; exact hI⟩
      · skip
        refine j_aload_n h 46 rfl rfl dX7_look_45 ?_
        refine j_iload h 48 rfl rfl dX7_look_46 ?_
        refine j_callVI h 51 rfl lkX7_30 sh_92 rfl rfl (t_X7_allHave _ n _ e0 hn) rfl rfl rfl dX7_look_48 ?_
        rw [e1, e2, e3]
        refine j_istore h 53 rfl rfl dX7_look_51 ?_
        have K73 : ∀ M3, tpI M n c w p i M3 → J X 73 [some (.ref 92), some (.int (nI n)), some (.int c), some (.int w), some (.int p), some (.int (nI i)), some (.int (alS c w p (nI i) n n))] [] M3 := by
          intro M3 hT
          obtain ⟨u0, u1, u2, u3⟩ := hT.2.1
          refine j_aload_n h 74 rfl rfl dX7_look_73 ?_
          refine j_iload h 76 rfl rfl dX7_look_74 ?_
          refine j_callVI h 79 rfl lkX7_37 sh_92 rfl rfl (t_X7_isRest _ n _ u0 hn) rfl rfl rfl dX7_look_76 ?_
          rw [u1, u2, u3]
          refine j_if_eqB h 90 82 dX7_look_79 (by decide) rfl (fun c_79 => ?_) (fun c_79 => ?_)
          · skip
            refine j_iincN h 93 rfl rfl rfl dX7_look_90 ?_
            refine j_goto h 34 dX7_look_93 (by decide) ?_
            first
              | exact ih (i + 1) _ _ (by omega) (by omega) (lkI_yes (by omega) hT c_79 hM4)
              | exact ih (i + 1) _ _ (by omega) (by omega) (lkI_no hT c_79)
          · skip
            refine j_aload_n h 83 rfl rfl dX7_look_82 ?_
            refine j_iload h 85 rfl rfl dX7_look_83 ?_
            refine j_iload h 87 rfl rfl dX7_look_85 ?_
            refine j_callVV h 90 rfl lkX7_41 sh_92 rfl rfl (t_X7_keepRest _ _ _) rfl rfl rfl dX7_look_87 (fun M4 hM4 => ?_)
            refine j_iincN h 93 rfl rfl rfl dX7_look_90 ?_
            refine j_goto h 34 dX7_look_93 (by decide) ?_
            first
              | exact ih (i + 1) _ _ (by omega) (by omega) (lkI_yes (by omega) hT c_79 hM4)
              | exact ih (i + 1) _ _ (by omega) (by omega) (lkI_no hT c_79)
        refine j_iload h 55 rfl rfl dX7_look_53 ?_
        refine j_if_eqN h 67 58 (by omega) dX7_look_55 (by decide) rfl (fun c_55 => ?_) (fun c_55 => ?_)
        · skip
          refine j_aload_n h 68 rfl rfl dX7_look_67 ?_
          refine j_iload h 70 rfl rfl dX7_look_68 ?_
          refine j_putI h 73 rfl plX7_34 sh_92 rfl rfl rfl rfl dX7_look_70 ?_
          first
            | exact K73 _ (tpI_set hI (Or.inl (by assumption)))
            | exact K73 _ (tpI_set hI (Or.inr (Int32.not_le.mp (by assumption))))
            | exact K73 _ (tpI_keep hI (by assumption) (by assumption))
        · skip
          refine j_iload h 60 rfl rfl dX7_look_58 ?_
          refine j_aload_n h 61 rfl rfl dX7_look_60 ?_
          refine j_getI h 64 rfl glX7_34 sh_92 rfl dX7_look_61 ?_
          refine j_icmp_le h 73 67 dX7_look_64 (by decide) rfl (fun c_64 => ?_) (fun c_64 => ?_)
          · skip
            first
              | exact K73 _ (tpI_set hI (Or.inl (by assumption)))
              | exact K73 _ (tpI_set hI (Or.inr (Int32.not_le.mp (by assumption))))
              | exact K73 _ (tpI_keep hI (by assumption) (by assumption))
          · skip
            refine j_aload_n h 68 rfl rfl dX7_look_67 ?_
            refine j_iload h 70 rfl rfl dX7_look_68 ?_
            refine j_putI h 73 rfl plX7_34 sh_92 rfl rfl rfl rfl dX7_look_70 ?_
            first
              | exact K73 _ (tpI_set hI (Or.inl (by assumption)))
              | exact K73 _ (tpI_set hI (Or.inr (Int32.not_le.mp (by assumption))))
              | exact K73 _ (tpI_keep hI (by assumption) (by assumption))
  exact L (W + 1) 0 _ _ (by omega) (by omega) ⟨fun a ha => by simp only [mu_f ha], ⟨by rw [mu_k (by decide), mu_k (by decide), mu_k (by decide), mu_k (by decide), mu_k (by decide), mu_s], by rw [mu_k (by decide), mu_k (by decide), mu_k (by decide), mu_k (by decide), mu_s], by rw [mu_k (by decide), mu_k (by decide), mu_k (by decide), mu_s], by rw [mu_k (by decide), mu_k (by decide), mu_s]⟩, by rw [mu_k (by decide), mu_s]; rfl, by rw [mu_s]; rfl, fun z => absurd z (Nat.lt_irrefl 0), fun z => absurd z (Nat.lt_irrefl 0)⟩
