/-! words as numbers -/
def nL (n : Nat) : Int64 := Int64.ofNat n
theorem nL_toInt {n : Nat} (h : n < 2 ^ 63) : (nL n).toInt = n := by
  unfold nL
  exact Int64.toInt_ofNat_of_lt h
theorem nL_eq {a b : Nat} (ha : a < 2 ^ 63) (hb : b < 2 ^ 63) : nL a = nL b ↔ a = b := by
  constructor
  · intro h
    have e : (nL a).toInt = (nL b).toInt := by rw [h]
    rw [nL_toInt ha, nL_toInt hb] at e
    omega
  · intro h; rw [h]
theorem nL_neg {a : Nat} {x : Int64} (ha : a < 2 ^ 63) (hx : x.toInt < 0) : ¬ nL a = x := fun h => by
  have e : (nL a).toInt = x.toInt := by rw [h]
  rw [nL_toInt ha] at e
  omega
theorem nL_st {a c : Nat} (h1 : 96 ≤ c) : 27 * nL a + nL c - 96 = nL (27 * a + (c - 96)) := by
  have e : nL (27 * a + (c - 96)) + 96 = 27 * nL a + nL c := by
    unfold nL
    show _ + Int64.ofNat 96 = Int64.ofNat 27 * _ + _
    rw [← Int64.ofNat_add, ← Int64.ofNat_mul, ← Int64.ofNat_add]
    congr 1
    omega
  rw [← e]
  grind
theorem lc_64 : ∀ c, c < 123 → (nI c).toInt64 = nL c := by decide +kernel
theorem isL_n {x : Int32} (h : isL x = true) : x = nI (tn x) ∧ 97 ≤ tn x ∧ tn x ≤ 122 := by
  have a := of_decide_eq_true h
  obtain ⟨k, hk, rfl⟩ := (in_nat (n := 122) (by decide)).mp ⟨Int32.le_trans (by decide) a.1, a.2⟩
  have g := a.1
  rw [nI_leI (by decide) (by omega)] at g
  rw [tn_nI (by omega)]
  exact ⟨rfl, g, hk⟩
/-- a row of letters as a number -/
def wdN (b : Nat → Int32) (s : Nat) : Nat → Nat
  | 0 => 0
  | k + 1 => 27 * wdN b s k + (tn (b (s + k)) - 96)
theorem wd_LN {b : Nat → Int32} {s : Nat} : ∀ k, (∀ j, j < k → isL (b (s + j)) = true) → wdL b s k = nL (wdN b s k)
  | 0, _ => rfl
  | k + 1, h => by
    have ih := wd_LN (b := b) (s := s) k (fun j hj => h j (by omega))
    obtain ⟨h1, h2, h3⟩ := isL_n (h k (by omega))
    rw [wdL, ih, wdN]
    have e : (b (s + k)).toInt64 = nL (tn (b (s + k))) := by
      conv => lhs; rw [h1]
      exact lc_64 _ (by omega)
    rw [e]
    exact nL_st (by omega)
theorem wdN_b {b : Nat → Int32} {s : Nat} : ∀ k, (∀ j, j < k → isL (b (s + j)) = true) → wdN b s k < 27 ^ k
  | 0, _ => by show (0 : Nat) < 27 ^ 0; decide
  | k + 1, h => by
    have ih := wdN_b (b := b) (s := s) k (fun j hj => h j (by omega))
    obtain ⟨h1, h2, h3⟩ := isL_n (h k (by omega))
    rw [wdN, Nat.pow_succ]
    omega
theorem wdN_9 {b : Nat → Int32} {s k : Nat} (hk : k ≤ 9) (h : ∀ j, j < k → isL (b (s + j)) = true) : wdN b s k < 2 ^ 63 := by
  have h1 := wdN_b k h
  have h2 : 27 ^ k ≤ 27 ^ 9 := Nat.pow_le_pow_right (by decide) hk
  have h3 : 27 ^ 9 = 7625597484987 := by decide
  omega
/-- the words as numbers -/
def wN (i : Nat) : Nat → Nat
  | 0 => 0
  | k + 1 => 27 * wN i k + (tn (chW i k) - 96)
theorem ch_L : ∀ i, i < 10 → ∀ j, j < hLen.getD i 0 → isL (chW i j) = true := by decide +kernel
theorem wN_c : ∀ i, i < 10 → wN i (hLen.getD i 0) < 2 ^ 63 ∧ 1 ≤ hLen.getD i 0 ∧ hLen.getD i 0 ≤ 5 := by decide +kernel
theorem wd_eq {b : Nat → Int32} {s i : Nat} (hi : i < 10) : ∀ l, l ≤ hLen.getD i 0 → ∀ m, (∀ j, j < m → isL (b (s + j)) = true) → (wdN b s m = wN i l ↔ m = l ∧ spB b s i l = true)
  | 0, _, m, h => by
    cases m with
    | zero => exact ⟨fun _ => ⟨rfl, rfl⟩, fun _ => rfl⟩
    | succ m =>
      obtain ⟨h1, h2, h3⟩ := isL_n (h m (by omega))
      rw [wdN, wN]
      exact ⟨fun z => by omega, fun z => by omega⟩
  | l + 1, hl, m, h => by
    obtain ⟨c1, c2, c3⟩ := isL_n (ch_L i hi l (by omega))
    cases m with
    | zero =>
      rw [wdN, wN]
      exact ⟨fun z => by omega, fun z => by omega⟩
    | succ m =>
      obtain ⟨h1, h2, h3⟩ := isL_n (h m (by omega))
      have ih := wd_eq (b := b) (s := s) hi l (by omega) m (fun j hj => h j (by omega))
      rw [wdN, wN, spB, Bool.and_eq_true]
      constructor
      · intro z
        obtain ⟨i1, i2⟩ := ih.mp (by omega)
        subst i1
        refine ⟨rfl, i2, decide_eq_true ?_⟩
        rw [h1, c1, show tn (b (s + m)) = tn (chW i m) by omega]
      · rintro ⟨z1, z2, z3⟩
        have z4 := of_decide_eq_true z3
        obtain rfl : m = l := by omega
        have := ih.mpr ⟨rfl, z2⟩
        rw [z4, this]
theorem tk_all {b : Nat → Int32} {L s : Nat} (hs : s < L) (hl : isL (b s) = true) : ∀ j, j < tkE b L s - s → isL (b (s + j)) = true := fun j hj => by
  rw [tkE_L hs hl] at hj
  exact (rn_all (Q := isL) (b := b) (L := L) (L - s) s (s + j) (by omega) (by omega)).2
theorem mt_L {b : Nat → Int32} {s e k : Nat} (hk : k < 10) (h : mtB b s e k = true) : isL (b s) = true ∧ e - s = hLen.getD k 0 := by
  unfold mtB at h
  rw [Bool.and_eq_true] at h
  obtain ⟨h1, h2⟩ := h
  have h3 := of_decide_eq_true h1
  refine ⟨?_, h3⟩
  have h4 : spB b s k 1 = true := by
    cases q : spB b s k 1 with
    | true => rfl
    | false => rw [spB_up q _ (wN_c k hk).2.1] at h2; cases h2
  rw [spB, Bool.and_eq_true] at h4
  have h5 := of_decide_eq_true h4.2
  rw [Nat.add_zero] at h5
  rw [h5]
  exact ch_L k hk 0 (wN_c k hk).2.1
/-- the token is a word's number just if its letters are the word's -/
theorem tok_W {b : Nat → Int32} {L s k : Nat} (hk : k < 10) (hs : s ≤ L) : tokS b L s = nL (wN k (hLen.getD k 0)) ↔ mtB b s (tkE b L s) k = true := by
  obtain ⟨w1, w2, w3⟩ := wN_c k hk
  by_cases h0 : s = L
  · rw [tokS_0 h0]
    refine ⟨fun z => absurd z.symm (nL_neg w1 (by decide)), fun z => ?_⟩
    have := (mt_L hk z).2
    rw [tkE_0 (by omega)] at this
    omega
  · by_cases hl : isL (b s) = true
    · rw [tokS_1 h0 hl]
      have hall := tk_all (b := b) (L := L) (s := s) (by omega) hl
      unfold wtS
      by_cases h9 : tkE b L s - s ≤ 9
      · rw [if_pos h9, wd_LN _ hall, nL_eq (wdN_9 h9 hall) w1, wd_eq hk _ (Nat.le_refl _) _ hall]
        unfold mtB
        rw [Bool.and_eq_true]
        constructor
        · rintro ⟨z1, z2⟩; exact ⟨decide_eq_true z1, z2⟩
        · rintro ⟨z1, z2⟩; exact ⟨of_decide_eq_true z1, z2⟩
      · rw [if_neg h9]
        refine ⟨fun z => absurd z.symm (nL_neg w1 (by decide)), fun z => ?_⟩
        have := (mt_L hk z).2
        omega
    · refine ⟨fun z => ?_, fun z => absurd (mt_L hk z).1 hl⟩
      by_cases hd : isD (b s) = true
      · rw [tokS_2 h0 hl hd] at z
        by_cases h3 : tkE b L s - s ≤ 3
        · rw [if_pos h3] at z; exact absurd z.symm (nL_neg w1 (by decide))
        · rw [if_neg h3] at z; exact absurd z.symm (nL_neg w1 (by decide))
      · rw [tokS_3 h0 hl hd] at z
        by_cases h3 : b s = nI 59
        · rw [if_pos h3] at z; exact absurd z.symm (nL_neg w1 (by decide))
        · rw [if_neg h3] at z; exact absurd z.symm (nL_neg w1 (by decide))
theorem wt_neg {b : Nat → Int32} {L s : Nat} (hs : s < L) (hl : isL (b s) = true) : wtS b s (tkE b L s - s) = -4 ∨ ∃ n, n < 2 ^ 63 ∧ wtS b s (tkE b L s - s) = nL n := by
  have hall := tk_all (b := b) (L := L) hs hl
  unfold wtS
  by_cases h9 : tkE b L s - s ≤ 9
  · rw [if_pos h9]; exact Or.inr ⟨_, wdN_9 h9 hall, wd_LN _ hall⟩
  · rw [if_neg h9]; exact Or.inl rfl
theorem tok_2 {b : Nat → Int32} {L s : Nat} (hs : s ≤ L) : tokS b L s = -2 ↔ s = L := by
  refine ⟨fun z => Decidable.not_not.mp (fun h0 => ?_), fun h => tokS_0 h⟩
  by_cases hl : isL (b s) = true
  · rw [tokS_1 h0 hl] at z
    rcases wt_neg (b := b) (L := L) (s := s) (by omega) hl with q | ⟨n, h1, q⟩
    · rw [q] at z; exact absurd z (by decide)
    · rw [q] at z; exact nL_neg h1 (by decide) z
  · by_cases hd : isD (b s) = true
    · rw [tokS_2 h0 hl hd] at z
      by_cases h3 : tkE b L s - s ≤ 3
      · rw [if_pos h3] at z; exact absurd z (by decide)
      · rw [if_neg h3] at z; exact absurd z (by decide)
    · rw [tokS_3 h0 hl hd] at z
      by_cases h3 : b s = nI 59
      · rw [if_pos h3] at z; exact absurd z (by decide)
      · rw [if_neg h3] at z; exact absurd z (by decide)
theorem tok_3 {b : Nat → Int32} {L s : Nat} (hs : s ≤ L) : tokS b L s = -3 ↔ ¬ s = L ∧ b s = nI 59 := by
  constructor
  · intro z
    by_cases h0 : s = L
    · rw [tokS_0 h0] at z; exact absurd z (by decide)
    · refine ⟨h0, ?_⟩
      by_cases hl : isL (b s) = true
      · rw [tokS_1 h0 hl] at z
        rcases wt_neg (b := b) (L := L) (s := s) (by omega) hl with q | ⟨n, h1, q⟩
        · rw [q] at z; exact absurd z (by decide)
        · rw [q] at z; exact absurd z (nL_neg h1 (by decide))
      · by_cases hd : isD (b s) = true
        · rw [tokS_2 h0 hl hd] at z
          by_cases h3 : tkE b L s - s ≤ 3
          · rw [if_pos h3] at z; exact absurd z (by decide)
          · rw [if_neg h3] at z; exact absurd z (by decide)
        · rw [tokS_3 h0 hl hd] at z
          by_cases h3 : b s = nI 59
          · exact h3
          · rw [if_neg h3] at z; exact absurd z (by decide)
  · rintro ⟨h0, h3⟩
    rw [tokS_3 h0 (by rw [h3]; decide) (by rw [h3]; decide), if_pos h3]
theorem tkE_59 {b : Nat → Int32} {L s : Nat} (hs : s < L) (h : b s = nI 59) : tkE b L s = s + 1 := tkE_1 hs (by rw [h]; decide) (by rw [h]; decide)
theorem tok_1 {b : Nat → Int32} {L s : Nat} (hs : s ≤ L) : tokS b L s = -1 ↔ (1 ≤ tkE b L s - s ∧ tkE b L s - s ≤ 3 ∧ isD (b s) = true) := by
  constructor
  · intro z
    by_cases h0 : s = L
    · rw [tokS_0 h0] at z; exact absurd z (by decide)
    · by_cases hl : isL (b s) = true
      · rw [tokS_1 h0 hl] at z
        rcases wt_neg (b := b) (L := L) (s := s) (by omega) hl with q | ⟨n, h1, q⟩
        · rw [q] at z; exact absurd z (by decide)
        · rw [q] at z; exact absurd z (nL_neg h1 (by decide))
      · by_cases hd : isD (b s) = true
        · rw [tokS_2 h0 hl hd] at z
          have := (tkE_le (b := b) hs).2.2 (by omega)
          by_cases h3 : tkE b L s - s ≤ 3
          · exact ⟨by omega, h3, hd⟩
          · rw [if_neg h3] at z; exact absurd z (by decide)
        · rw [tokS_3 h0 hl hd] at z
          by_cases h3 : b s = nI 59
          · rw [if_pos h3] at z; exact absurd z (by decide)
          · rw [if_neg h3] at z; exact absurd z (by decide)
  · rintro ⟨h1, h2, h3⟩
    have h0 : ¬ s = L := fun z => by rw [tkE_0 (by omega)] at h1; omega
    rw [tokS_2 h0 (fun z => isL_D z h3) h3, if_pos h2]
theorem nm_eq {b : Nat → Int32} {s : Nat} : ∀ k, k ≤ 3 → nm3 b s k = nmS b s k
  | 0, _ => rfl
  | k + 1, h => by rw [nm3, nmS, if_pos (by omega), nm_eq k (by omega), Int32.mul_comm]
/-- a token's number, its fault -/
theorem nu_1 {b : Nat → Int32} {L s : Nat} (hs : s ≤ L) (h : tokS b L s = -1) : nm3 b s (tkE b L s - s) = nuI b s (tkE b L s) ∧ s < L ∧ isD (b s) = true := by
  obtain ⟨h1, h2, h3⟩ := (tok_1 hs).mp h
  refine ⟨?_, ?_, h3⟩
  · unfold nuI; rw [if_pos ⟨h1, h2, h3⟩]; exact nm_eq _ h2
  · exact Nat.lt_of_not_le (fun z => by rw [tkE_0 (by omega)] at h1; omega)
theorem nu_2 {b : Nat → Int32} {L s : Nat} (hs : s ≤ L) (h : ¬ tokS b L s = -1) (B : Int32) : ¬ inP (nuI b s (tkE b L s)) (nI 0) B := by
  unfold nuI
  rw [if_neg (fun z => h ((tok_1 hs).mpr z))]
  exact fun z => absurd z.1 (by decide)
/-- the kind of a line -/
def kdE (n : Nat) : Int32 := if n = 10 then -1 else nI n
def kA (m : Nat → Bool) : Int32 := if m 0 = true then nI 0 else if m 1 = true then nI 1 else if m 2 = true then nI 2 else if m 3 = true then nI 3 else if m 4 = true then nI 4 else -1
def kB (m : Nat → Bool) : Int32 := if m 5 = true then nI 5 else if m 6 = true then nI 6 else if m 7 = true then nI 7 else if m 8 = true then nI 8 else if m 9 = true then nI 9 else -1
theorem kd_ab (m : Nat → Bool) : (if kA m = -1 then kB m else kA m) = kdE (frs m 10 0) := by
  have d : ∀ n, n < 10 → ¬ nI n = -1 := fun n hn => nI_m1 (by omega)
  unfold kA kB kdE
  simp only [frs]
  by_cases h0 : m 0 = true
  · simp only [if_pos h0]; rw [if_neg (d 0 (by decide)), if_neg (by decide)]
  · simp only [if_neg h0]
    by_cases h1 : m 1 = true
    · simp only [if_pos h1]; rw [if_neg (d 1 (by decide)), if_neg (by decide)]
    · simp only [if_neg h1]
      by_cases h2 : m 2 = true
      · simp only [if_pos h2]; rw [if_neg (d 2 (by decide)), if_neg (by decide)]
      · simp only [if_neg h2]
        by_cases h3 : m 3 = true
        · simp only [if_pos h3]; rw [if_neg (d 3 (by decide)), if_neg (by decide)]
        · simp only [if_neg h3]
          by_cases h4 : m 4 = true
          · simp only [if_pos h4]; rw [if_neg (d 4 (by decide)), if_neg (by decide)]
          · simp only [if_neg h4, if_pos]
            by_cases h5 : m 5 = true
            · simp only [if_pos h5]; rw [if_neg (by decide)]
            · simp only [if_neg h5]
              by_cases h6 : m 6 = true
              · simp only [if_pos h6]; rw [if_neg (by decide)]
              · simp only [if_neg h6]
                by_cases h7 : m 7 = true
                · simp only [if_pos h7]; rw [if_neg (by decide)]
                · simp only [if_neg h7]
                  by_cases h8 : m 8 = true
                  · simp only [if_pos h8]; rw [if_neg (by decide)]
                  · simp only [if_neg h8]
                    by_cases h9 : m 9 = true
                    · simp only [if_pos h9]; rw [if_neg (by decide)]
                    · simp only [if_neg h9]; exact (if_pos trivial).symm
theorem wK_le {b : Nat → Int32} {L p : Nat} : wK b L p ≤ 10 := by
  have := (frs_le (f := mtB b (skB b L p) (wT b L p)) 10 0).2.1
  unfold wK kdS
  omega
theorem kd_k {n k : Nat} (hn : n ≤ 10) (hk : k < 10) (h : kdE n = nI k) : n = k := by
  unfold kdE at h
  by_cases e : n = 10
  · rw [if_pos e] at h; exact absurd h.symm (nI_m1 (by omega))
  · rw [if_neg e] at h; exact (nI_eq (by omega) (by omega)).mp h
theorem kd_o {n : Nat} (hn : n ≤ 10) (h : ∀ k, k < 10 → ¬ kdE n = nI k) : n = 10 := by
  refine Decidable.not_not.mp (fun e => h n (by omega) ?_)
  unfold kdE
  rw [if_neg e]
