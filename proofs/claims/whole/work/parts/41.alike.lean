/-! the class's house and the model's, line by line -/
def mix (C M : hM) : hM := fun a => if a < 93 then C a else M a
theorem mix_c {C M : hM} {a : Nat} (h : a < 93) : mix C M a = C a := if_pos h
theorem mix_m {C M : hM} {a : Nat} (h : ¬ a < 93) : mix C M a = M a := if_neg h
def mT (M : hM) : Prop := ∃ tb, tb < 32 ∧ M 93 0 = nI tb
theorem ob_t : ∀ tb, tb < 32 → ∀ a, a < 5 → (nI tb ||| (nI 1 <<< (nI a &&& 31)) = nI (tb ||| 2 ^ a) ∧ tb ||| 2 ^ a < 32 ∧ ∀ r, r < 5 → (bitP (nI (tb ||| 2 ^ a)) (nI r) ↔ (r = a ∨ bitP (nI tb) (nI r)))) := by decide +kernel
theorem ob_f : ∀ tb, tb < 32 → ∀ a, a < 5 → (nI tb &&& ((nI 1 <<< (nI a &&& 31)) ^^^ -1) = nI (tb &&& (31 ^^^ 2 ^ a)) ∧ tb &&& (31 ^^^ 2 ^ a) < 32 ∧ ∀ r, r < 5 → (bitP (nI (tb &&& (31 ^^^ 2 ^ a))) (nI r) ↔ (¬ r = a ∧ bitP (nI tb) (nI r)))) := by decide +kernel
section HC
variable {M N : hM}
theorem h1_cg (h : mH M) (e0 : N 93 0 = M 93 0) (e1 : N 15 = M 15) : ∀ r, r < 5 → (bitP (N 93 0) (nI r) ↔ ¬ N 15 r = 0) := by rw [e0, e1]; exact h.1
theorem h2_cg (h : mH M) (e : N 94 = M 94) (e1 : N 16 = M 16) (e2 : N 17 = M 17) (e3 : N 18 = M 18) (e4 : N 19 = M 19) : ∀ r, r < 5 → N 94 (4 * r) = N 16 r ∧ N 94 (4 * r + 1) = N 17 r ∧ N 94 (4 * r + 2) = N 18 r ∧ N 94 (4 * r + 3) = N 19 r := by rw [e, e1, e2, e3, e4]; exact h.2.1
theorem h3_cg (h : mH M) (e : N 95 = M 95) (e1 : N 96 = M 96) (e2 : N 97 = M 97) (e3 : N 20 = M 20) (e4 : N 21 = M 21) (e5 : N 22 = M 22) : ∀ r, r < 5 → N 95 r = N 20 r ∧ N 96 r = N 21 r ∧ N 97 r = N 22 r := by rw [e, e1, e2, e3, e4, e5]; exact h.2.2.1
theorem h4_cg (h : mH M) (e : N 98 = M 98) (e1 : ∀ r, r < 5 → N (24 + r) = M (24 + r)) : ∀ r q, r < 5 → q < 5 → N 98 (5 * r + q) = N (24 + r) q ∧ (0 : Int32) ≤ N (24 + r) q := fun r q hr hq => by rw [e, e1 r hr]; exact h.2.2.2.1 r q hr hq
theorem h5_cg (h : mH M) (e1 : ∀ r, r < 5 → N (24 + r) = M (24 + r)) : ∀ r, r < 5 → N (24 + r) r = 0 := fun r hr => by rw [e1 r hr]; exact h.2.2.2.2.1 r hr
theorem h6_cg (h : mH M) (e : ∀ j, 6 ≤ j → j < 15 → N 93 j = M 93 j) (e1 : N 14 = M 14) : N 93 6 = N 14 10 ∧ N 93 7 = N 14 11 ∧ N 93 8 = N 14 12 ∧ N 93 9 = N 14 13 ∧ N 93 10 = N 14 14 ∧ N 93 11 = N 14 15 ∧ N 93 12 = N 14 16 ∧ N 93 13 = N 14 17 ∧ N 93 14 = N 14 9 := by
  rw [e 6 (by decide) (by decide), e 7 (by decide) (by decide), e 8 (by decide) (by decide), e 9 (by decide) (by decide), e 10 (by decide) (by decide), e 11 (by decide) (by decide), e 12 (by decide) (by decide), e 13 (by decide) (by decide), e 14 (by decide) (by decide), e1]; exact h.2.2.2.2.2.1
theorem h7_cg (h : mH M) (e1 : N 14 = M 14) : (0 : Int32) ≤ N 14 16 := by rw [e1]; exact h.2.2.2.2.2.2
end HC
theorem nI_p {n : Nat} (h : n < 2 ^ 31) : (0 : Int32) ≤ nI n := nI_pos' h
set_option maxRecDepth 100000 in
set_option maxHeartbeats 4000000 in
theorem th_0 {C M : hM} {v : List Nat} (hok : okL 0 v) (h : mH (mix C M)) (hT : mT M) : mH (mix (tlM v C 0) (dmM v M 0)) ∧ mT (dmM v M 0) := by
  have o0 := (okL_i hok (i := 0) (n := 4) (by decide) (by decide +kernel) (by decide +kernel)).2
  have o1 := (okL_i hok (i := 1) (n := 600) (by decide) (by decide +kernel) (by decide +kernel)).2
  have o2 := (okL_i hok (i := 2) (n := 600) (by decide) (by decide +kernel) (by decide +kernel)).2
  have o3 := (okL_i hok (i := 3) (n := 3) (by decide) (by decide +kernel) (by decide +kernel)).2
  have o4 := (okL_i hok (i := 4) (n := 9) (by decide) (by decide +kernel) (by decide +kernel)).2
  have eC : tlM v C 0 = (mu (mu (mu (mu (mu C 15 (v.getD 0 0) (nI 1)) 16 (v.getD 0 0) (nI (v.getD 1 0))) 17 (v.getD 0 0) (nI (v.getD 2 0))) 18 (v.getD 0 0) (nI (v.getD 3 0))) 19 (v.getD 0 0) (nI (v.getD 4 0))) := rfl
  have eM : dmM v M 0 = (mu (mu (mu (mu (mu M 93 0 (M 93 0 ||| (nI 1 <<< (nI (v.getD 0 0) &&& 31)))) 94 (4 * (v.getD 0 0)) (nI (v.getD 1 0))) 94 (4 * (v.getD 0 0) + 1) (nI (v.getD 2 0))) 94 (4 * (v.getD 0 0) + 2) (nI (v.getD 3 0))) 94 (4 * (v.getD 0 0) + 3) (nI (v.getD 4 0))) := rfl
  rw [eC, eM]
  obtain ⟨tb, ht, et⟩ := hT
  obtain ⟨b1, b2, b3⟩ := ob_t tb ht (v.getD 0 0) (by omega)
  have e93 : (mu (mu (mu (mu (mu M 93 0 (M 93 0 ||| (nI 1 <<< (nI (v.getD 0 0) &&& 31)))) 94 (4 * (v.getD 0 0)) (nI (v.getD 1 0))) 94 (4 * (v.getD 0 0) + 1) (nI (v.getD 2 0))) 94 (4 * (v.getD 0 0) + 2) (nI (v.getD 3 0))) 94 (4 * (v.getD 0 0) + 3) (nI (v.getD 4 0))) 93 0 = nI (tb ||| 2 ^ v.getD 0 0) := by rw [mu_a (by decide), mu_a (by decide), mu_a (by decide), mu_a (by decide), mu_s, et, b1]
  have h1 := h.1
  rw [mix_m (by decide), mix_c (by decide), et] at h1
  refine ⟨⟨fun r hr => ?_, ?_, ?_, ?_, ?_, ?_, ?_⟩, ⟨_, b2, e93⟩⟩
  · rw [mix_m (by decide), mix_c (by decide), e93, b3 r hr, h1 r hr, mu_a (by decide), mu_a (by decide), mu_a (by decide), mu_a (by decide)]
    by_cases e : r = v.getD 0 0
    · subst e; rw [mu_s]; exact ⟨fun _ => by decide, fun _ => Or.inl rfl⟩
    · rw [mu_k e]; exact ⟨fun z => z.resolve_left e, Or.inr⟩
  · intro r hr
    obtain ⟨a1, a2, a3, a4⟩ := h.2.1 r hr
    rw [mix_m (by decide), mix_c (by decide)] at a1 a2 a3 a4
    rw [mix_m (by decide), mix_c (by decide), mix_c (by decide), mix_c (by decide), mix_c (by decide)]
    by_cases e : r = v.getD 0 0
    · subst e
      refine ⟨?_, ?_, ?_, ?_⟩
      · rw [mu_k (by omega), mu_k (by omega), mu_k (by omega), mu_s, mu_a (by decide), mu_a (by decide), mu_a (by decide), mu_s]
      · rw [mu_k (by omega), mu_k (by omega), mu_s, mu_a (by decide), mu_a (by decide), mu_s]
      · rw [mu_k (by omega), mu_s, mu_a (by decide), mu_s]
      · rw [mu_s, mu_s]
    · refine ⟨?_, ?_, ?_, ?_⟩
      · rw [mu_k (by omega), mu_k (by omega), mu_k (by omega), mu_k (by omega), mu_a (by decide), mu_a (by decide), mu_a (by decide), mu_a (by decide), mu_k e, mu_a (by decide)]; exact a1
      · rw [mu_k (by omega), mu_k (by omega), mu_k (by omega), mu_k (by omega), mu_a (by decide), mu_a (by decide), mu_a (by decide), mu_k e, mu_a (by decide), mu_a (by decide)]; exact a2
      · rw [mu_k (by omega), mu_k (by omega), mu_k (by omega), mu_k (by omega), mu_a (by decide), mu_a (by decide), mu_k e, mu_a (by decide), mu_a (by decide), mu_a (by decide)]; exact a3
      · rw [mu_k (by omega), mu_k (by omega), mu_k (by omega), mu_k (by omega), mu_a (by decide), mu_k e, mu_a (by decide), mu_a (by decide), mu_a (by decide), mu_a (by decide)]; exact a4
  · exact h3_cg h (by rw [mix_m (by decide), mix_m (by decide), mu_f (by decide), mu_f (by decide), mu_f (by decide), mu_f (by decide), mu_f (by decide)]) (by rw [mix_m (by decide), mix_m (by decide), mu_f (by decide), mu_f (by decide), mu_f (by decide), mu_f (by decide), mu_f (by decide)]) (by rw [mix_m (by decide), mix_m (by decide), mu_f (by decide), mu_f (by decide), mu_f (by decide), mu_f (by decide), mu_f (by decide)]) (by rw [mix_c (by decide), mix_c (by decide), mu_f (by omega), mu_f (by omega), mu_f (by omega), mu_f (by omega), mu_f (by omega)]) (by rw [mix_c (by decide), mix_c (by decide), mu_f (by omega), mu_f (by omega), mu_f (by omega), mu_f (by omega), mu_f (by omega)]) (by rw [mix_c (by decide), mix_c (by decide), mu_f (by omega), mu_f (by omega), mu_f (by omega), mu_f (by omega), mu_f (by omega)])
  · exact h4_cg h (by rw [mix_m (by decide), mix_m (by decide), mu_f (by decide), mu_f (by decide), mu_f (by decide), mu_f (by decide), mu_f (by decide)]) (fun r hr => by rw [mix_c (by omega), mix_c (by omega), mu_f (by omega), mu_f (by omega), mu_f (by omega), mu_f (by omega), mu_f (by omega)])
  · exact h5_cg h (fun r hr => by rw [mix_c (by omega), mix_c (by omega), mu_f (by omega), mu_f (by omega), mu_f (by omega), mu_f (by omega), mu_f (by omega)])
  · exact h6_cg h (fun j a b => (by rw [mix_m (by decide), mix_m (by decide), mu_a (by decide), mu_a (by decide), mu_a (by decide), mu_a (by decide), mu_k (by omega)])) (by rw [mix_c (by decide), mix_c (by decide), mu_f (by omega), mu_f (by omega), mu_f (by omega), mu_f (by omega), mu_f (by omega)])
  · exact h7_cg h (by rw [mix_c (by decide), mix_c (by decide), mu_f (by omega), mu_f (by omega), mu_f (by omega), mu_f (by omega), mu_f (by omega)])
set_option maxRecDepth 100000 in
set_option maxHeartbeats 4000000 in
theorem th_1 {C M : hM} {v : List Nat} (hok : okL 1 v) (h : mH (mix C M)) (hT : mT M) : mH (mix (tlM v C 1) (dmM v M 1)) ∧ mT (dmM v M 1) := by
  have o0 := (okL_i hok (i := 0) (n := 4) (by decide) (by decide +kernel) (by decide +kernel)).2
  have o1 := (okL_i hok (i := 1) (n := 4) (by decide) (by decide +kernel) (by decide +kernel)).2
  have o2 := (okL_i hok (i := 2) (n := 10) (by decide) (by decide +kernel) (by decide +kernel)).2
  have eC : tlM v C 1 = (mu (mu C (24 + (v.getD 0 0)) (v.getD 1 0) (nI (v.getD 2 0))) (24 + (v.getD 1 0)) (v.getD 0 0) (nI (v.getD 2 0))) := rfl
  have eM : dmM v M 1 = (mu (mu M 98 (5 * (v.getD 0 0) + (v.getD 1 0)) (nI (v.getD 2 0))) 98 (5 * (v.getD 1 0) + (v.getD 0 0)) (nI (v.getD 2 0))) := rfl
  rw [eC, eM]
  obtain ⟨tb, ht, et⟩ := hT
  refine ⟨⟨h1_cg h (by rw [mix_m (by decide), mix_m (by decide), mu_a (by decide), mu_a (by decide)]) (by rw [mix_c (by decide), mix_c (by decide), mu_f (by omega), mu_f (by omega)]), h2_cg h (by rw [mix_m (by decide), mix_m (by decide), mu_f (by decide), mu_f (by decide)]) (by rw [mix_c (by decide), mix_c (by decide), mu_f (by omega), mu_f (by omega)]) (by rw [mix_c (by decide), mix_c (by decide), mu_f (by omega), mu_f (by omega)]) (by rw [mix_c (by decide), mix_c (by decide), mu_f (by omega), mu_f (by omega)]) (by rw [mix_c (by decide), mix_c (by decide), mu_f (by omega), mu_f (by omega)]), h3_cg h (by rw [mix_m (by decide), mix_m (by decide), mu_f (by decide), mu_f (by decide)]) (by rw [mix_m (by decide), mix_m (by decide), mu_f (by decide), mu_f (by decide)]) (by rw [mix_m (by decide), mix_m (by decide), mu_f (by decide), mu_f (by decide)]) (by rw [mix_c (by decide), mix_c (by decide), mu_f (by omega), mu_f (by omega)]) (by rw [mix_c (by decide), mix_c (by decide), mu_f (by omega), mu_f (by omega)]) (by rw [mix_c (by decide), mix_c (by decide), mu_f (by omega), mu_f (by omega)]), ?_, ?_, h6_cg h (fun j a b => (by rw [mix_m (by decide), mix_m (by decide), mu_a (by decide), mu_a (by decide)])) (by rw [mix_c (by decide), mix_c (by decide), mu_f (by omega), mu_f (by omega)]), h7_cg h (by rw [mix_c (by decide), mix_c (by decide), mu_f (by omega), mu_f (by omega)])⟩, ⟨tb, ht, by rw [mu_a (by decide), mu_a (by decide)]; exact et⟩⟩
  · intro r q hr hq
    obtain ⟨a1, a2⟩ := h.2.2.2.1 r q hr hq
    rw [mix_m (by decide), mix_c (by omega)] at a1
    rw [mix_c (by omega)] at a2
    rw [mix_m (by decide), mix_c (by omega)]
    have hp : (0 : Int32) ≤ nI (v.getD 2 0) := nI_p (by omega)
    by_cases e1 : r = v.getD 1 0 ∧ q = v.getD 0 0
    · obtain ⟨rfl, rfl⟩ := e1
      rw [mu_s, mu_s]; exact ⟨rfl, hp⟩
    · by_cases e2 : r = v.getD 0 0 ∧ q = v.getD 1 0
      · obtain ⟨rfl, rfl⟩ := e2
        have hne := hok.2 rfl
        rw [mu_k (by omega), mu_s, mu_a (by omega), mu_s]; exact ⟨rfl, hp⟩
      · have g1 : ∀ x, mu (mu C (24 + v.getD 0 0) (v.getD 1 0) x) (24 + v.getD 1 0) (v.getD 0 0) x (24 + r) q = C (24 + r) q := fun x => by
          by_cases y1 : r = v.getD 1 0
          · have y2 : ¬ q = v.getD 0 0 := fun z => e1 ⟨y1, z⟩
            rw [mu_k y2]
            by_cases y3 : r = v.getD 0 0
            · rw [mu_k (fun z => e2 ⟨y3, z⟩)]
            · rw [mu_a (by omega)]
          · rw [mu_a (by omega)]
            by_cases y3 : r = v.getD 0 0
            · rw [mu_k (fun z => e2 ⟨y3, z⟩)]
            · rw [mu_a (by omega)]
        rw [g1, mu_k (by omega), mu_k (by omega)]; exact ⟨a1, a2⟩
  · intro r hr
    have a1 := h.2.2.2.2.1 r hr
    have hne := hok.2 rfl
    rw [mix_c (by omega)] at a1 ⊢
    by_cases y1 : r = v.getD 1 0
    · rw [mu_k (by omega)]; by_cases y3 : r = v.getD 0 0
      · omega
      · rw [mu_a (by omega)]; exact a1
    · rw [mu_a (by omega)]; by_cases y3 : r = v.getD 0 0
      · rw [mu_k (by omega)]; exact a1
      · rw [mu_a (by omega)]; exact a1
set_option maxRecDepth 100000 in
set_option maxHeartbeats 4000000 in
theorem th_2 {C M : hM} {v : List Nat} (hok : okL 2 v) (h : mH (mix C M)) (hT : mT M) : mH (mix (tlM v C 2) (dmM v M 2)) ∧ mT (dmM v M 2) := by
  have o0 := (okL_i hok (i := 0) (n := 500) (by decide) (by decide +kernel) (by decide +kernel)).2
  have o1 := (okL_i hok (i := 1) (n := 500) (by decide) (by decide +kernel) (by decide +kernel)).2
  have o2 := (okL_i hok (i := 2) (n := 50) (by decide) (by decide +kernel) (by decide +kernel)).2
  have eC : tlM v C 2 = (mu (mu (mu C 14 10 (nI (v.getD 0 0))) 14 11 (nI (v.getD 1 0))) 14 12 (nI (v.getD 2 0))) := rfl
  have eM : dmM v M 2 = (mu (mu (mu M 93 6 (nI (v.getD 0 0))) 93 7 (nI (v.getD 1 0))) 93 8 (nI (v.getD 2 0))) := rfl
  rw [eC, eM]
  obtain ⟨tb, ht, et⟩ := hT
  refine ⟨⟨h1_cg h (by rw [mix_m (by decide), mix_m (by decide), mu_k (by decide), mu_k (by decide), mu_k (by decide)]) (by rw [mix_c (by decide), mix_c (by decide), mu_f (by omega), mu_f (by omega), mu_f (by omega)]), h2_cg h (by rw [mix_m (by decide), mix_m (by decide), mu_f (by decide), mu_f (by decide), mu_f (by decide)]) (by rw [mix_c (by decide), mix_c (by decide), mu_f (by omega), mu_f (by omega), mu_f (by omega)]) (by rw [mix_c (by decide), mix_c (by decide), mu_f (by omega), mu_f (by omega), mu_f (by omega)]) (by rw [mix_c (by decide), mix_c (by decide), mu_f (by omega), mu_f (by omega), mu_f (by omega)]) (by rw [mix_c (by decide), mix_c (by decide), mu_f (by omega), mu_f (by omega), mu_f (by omega)]), h3_cg h (by rw [mix_m (by decide), mix_m (by decide), mu_f (by decide), mu_f (by decide), mu_f (by decide)]) (by rw [mix_m (by decide), mix_m (by decide), mu_f (by decide), mu_f (by decide), mu_f (by decide)]) (by rw [mix_m (by decide), mix_m (by decide), mu_f (by decide), mu_f (by decide), mu_f (by decide)]) (by rw [mix_c (by decide), mix_c (by decide), mu_f (by omega), mu_f (by omega), mu_f (by omega)]) (by rw [mix_c (by decide), mix_c (by decide), mu_f (by omega), mu_f (by omega), mu_f (by omega)]) (by rw [mix_c (by decide), mix_c (by decide), mu_f (by omega), mu_f (by omega), mu_f (by omega)]), h4_cg h (by rw [mix_m (by decide), mix_m (by decide), mu_f (by decide), mu_f (by decide), mu_f (by decide)]) (fun r hr => by rw [mix_c (by omega), mix_c (by omega), mu_f (by omega), mu_f (by omega), mu_f (by omega)]), h5_cg h (fun r hr => by rw [mix_c (by omega), mix_c (by omega), mu_f (by omega), mu_f (by omega), mu_f (by omega)]), ?_, ?_⟩, ⟨tb, ht, by rw [mu_k (by decide), mu_k (by decide), mu_k (by decide)]; exact et⟩⟩
  · obtain ⟨b1, b2, b3, b4, b5, b6, b7, b8, b9⟩ := h.2.2.2.2.2.1
    rw [mix_m (by decide), mix_c (by decide)] at b1 b2 b3 b4 b5 b6 b7 b8 b9
    rw [mix_m (by decide), mix_c (by decide)]
    refine ⟨?_, ?_, ?_, ?_, ?_, ?_, ?_, ?_, ?_⟩
    · rw [mu_k (by decide), mu_k (by decide), mu_s, mu_k (by decide), mu_k (by decide), mu_s]
    · rw [mu_k (by decide), mu_s, mu_k (by decide), mu_s]
    · rw [mu_s, mu_s]
    · rw [mu_k (by decide), mu_k (by decide), mu_k (by decide), mu_k (by decide), mu_k (by decide), mu_k (by decide)]; exact b4
    · rw [mu_k (by decide), mu_k (by decide), mu_k (by decide), mu_k (by decide), mu_k (by decide), mu_k (by decide)]; exact b5
    · rw [mu_k (by decide), mu_k (by decide), mu_k (by decide), mu_k (by decide), mu_k (by decide), mu_k (by decide)]; exact b6
    · rw [mu_k (by decide), mu_k (by decide), mu_k (by decide), mu_k (by decide), mu_k (by decide), mu_k (by decide)]; exact b7
    · rw [mu_k (by decide), mu_k (by decide), mu_k (by decide), mu_k (by decide), mu_k (by decide), mu_k (by decide)]; exact b8
    · rw [mu_k (by decide), mu_k (by decide), mu_k (by decide), mu_k (by decide), mu_k (by decide), mu_k (by decide)]; exact b9
  · have q := h.2.2.2.2.2.2
    rw [mix_c (by decide)] at q
    rw [mix_c (by decide), mu_k (by decide), mu_k (by decide), mu_k (by decide)]; exact q
set_option maxRecDepth 100000 in
set_option maxHeartbeats 4000000 in
theorem th_3 {C M : hM} {v : List Nat} (hok : okL 3 v) (h : mH (mix C M)) (hT : mT M) : mH (mix (tlM v C 3) (dmM v M 3)) ∧ mT (dmM v M 3) := by
  have o0 := (okL_i hok (i := 0) (n := 99) (by decide) (by decide +kernel) (by decide +kernel)).2
  have eC : tlM v C 3 = (mu C 14 13 (nI (v.getD 0 0))) := rfl
  have eM : dmM v M 3 = (mu M 93 9 (nI (v.getD 0 0))) := rfl
  rw [eC, eM]
  obtain ⟨tb, ht, et⟩ := hT
  refine ⟨⟨h1_cg h (by rw [mix_m (by decide), mix_m (by decide), mu_k (by decide)]) (by rw [mix_c (by decide), mix_c (by decide), mu_f (by omega)]), h2_cg h (by rw [mix_m (by decide), mix_m (by decide), mu_f (by decide)]) (by rw [mix_c (by decide), mix_c (by decide), mu_f (by omega)]) (by rw [mix_c (by decide), mix_c (by decide), mu_f (by omega)]) (by rw [mix_c (by decide), mix_c (by decide), mu_f (by omega)]) (by rw [mix_c (by decide), mix_c (by decide), mu_f (by omega)]), h3_cg h (by rw [mix_m (by decide), mix_m (by decide), mu_f (by decide)]) (by rw [mix_m (by decide), mix_m (by decide), mu_f (by decide)]) (by rw [mix_m (by decide), mix_m (by decide), mu_f (by decide)]) (by rw [mix_c (by decide), mix_c (by decide), mu_f (by omega)]) (by rw [mix_c (by decide), mix_c (by decide), mu_f (by omega)]) (by rw [mix_c (by decide), mix_c (by decide), mu_f (by omega)]), h4_cg h (by rw [mix_m (by decide), mix_m (by decide), mu_f (by decide)]) (fun r hr => by rw [mix_c (by omega), mix_c (by omega), mu_f (by omega)]), h5_cg h (fun r hr => by rw [mix_c (by omega), mix_c (by omega), mu_f (by omega)]), ?_, ?_⟩, ⟨tb, ht, by rw [mu_k (by decide)]; exact et⟩⟩
  · obtain ⟨b1, b2, b3, b4, b5, b6, b7, b8, b9⟩ := h.2.2.2.2.2.1
    rw [mix_m (by decide), mix_c (by decide)] at b1 b2 b3 b4 b5 b6 b7 b8 b9
    rw [mix_m (by decide), mix_c (by decide)]
    refine ⟨?_, ?_, ?_, ?_, ?_, ?_, ?_, ?_, ?_⟩
    · rw [mu_k (by decide), mu_k (by decide)]; exact b1
    · rw [mu_k (by decide), mu_k (by decide)]; exact b2
    · rw [mu_k (by decide), mu_k (by decide)]; exact b3
    · rw [mu_s, mu_s]
    · rw [mu_k (by decide), mu_k (by decide)]; exact b5
    · rw [mu_k (by decide), mu_k (by decide)]; exact b6
    · rw [mu_k (by decide), mu_k (by decide)]; exact b7
    · rw [mu_k (by decide), mu_k (by decide)]; exact b8
    · rw [mu_k (by decide), mu_k (by decide)]; exact b9
  · have q := h.2.2.2.2.2.2
    rw [mix_c (by decide)] at q
    rw [mix_c (by decide), mu_k (by decide)]; exact q
set_option maxRecDepth 100000 in
set_option maxHeartbeats 4000000 in
theorem th_4 {C M : hM} {v : List Nat} (hok : okL 4 v) (h : mH (mix C M)) (hT : mT M) : mH (mix (tlM v C 4) (dmM v M 4)) ∧ mT (dmM v M 4) := by
  have o0 := (okL_i hok (i := 0) (n := 40) (by decide) (by decide +kernel) (by decide +kernel)).2
  have o1 := (okL_i hok (i := 1) (n := 40) (by decide) (by decide +kernel) (by decide +kernel)).2
  have o2 := (okL_i hok (i := 2) (n := 20) (by decide) (by decide +kernel) (by decide +kernel)).2
  have o3 := (okL_i hok (i := 3) (n := 40) (by decide) (by decide +kernel) (by decide +kernel)).2
  have eC : tlM v C 4 = (mu (mu (mu (mu C 14 14 (nI (v.getD 0 0))) 14 15 (nI (v.getD 1 0))) 14 16 (nI (v.getD 2 0))) 14 17 (nI (v.getD 3 0))) := rfl
  have eM : dmM v M 4 = (mu (mu (mu (mu M 93 10 (nI (v.getD 0 0))) 93 11 (nI (v.getD 1 0))) 93 12 (nI (v.getD 2 0))) 93 13 (nI (v.getD 3 0))) := rfl
  rw [eC, eM]
  obtain ⟨tb, ht, et⟩ := hT
  refine ⟨⟨h1_cg h (by rw [mix_m (by decide), mix_m (by decide), mu_k (by decide), mu_k (by decide), mu_k (by decide), mu_k (by decide)]) (by rw [mix_c (by decide), mix_c (by decide), mu_f (by omega), mu_f (by omega), mu_f (by omega), mu_f (by omega)]), h2_cg h (by rw [mix_m (by decide), mix_m (by decide), mu_f (by decide), mu_f (by decide), mu_f (by decide), mu_f (by decide)]) (by rw [mix_c (by decide), mix_c (by decide), mu_f (by omega), mu_f (by omega), mu_f (by omega), mu_f (by omega)]) (by rw [mix_c (by decide), mix_c (by decide), mu_f (by omega), mu_f (by omega), mu_f (by omega), mu_f (by omega)]) (by rw [mix_c (by decide), mix_c (by decide), mu_f (by omega), mu_f (by omega), mu_f (by omega), mu_f (by omega)]) (by rw [mix_c (by decide), mix_c (by decide), mu_f (by omega), mu_f (by omega), mu_f (by omega), mu_f (by omega)]), h3_cg h (by rw [mix_m (by decide), mix_m (by decide), mu_f (by decide), mu_f (by decide), mu_f (by decide), mu_f (by decide)]) (by rw [mix_m (by decide), mix_m (by decide), mu_f (by decide), mu_f (by decide), mu_f (by decide), mu_f (by decide)]) (by rw [mix_m (by decide), mix_m (by decide), mu_f (by decide), mu_f (by decide), mu_f (by decide), mu_f (by decide)]) (by rw [mix_c (by decide), mix_c (by decide), mu_f (by omega), mu_f (by omega), mu_f (by omega), mu_f (by omega)]) (by rw [mix_c (by decide), mix_c (by decide), mu_f (by omega), mu_f (by omega), mu_f (by omega), mu_f (by omega)]) (by rw [mix_c (by decide), mix_c (by decide), mu_f (by omega), mu_f (by omega), mu_f (by omega), mu_f (by omega)]), h4_cg h (by rw [mix_m (by decide), mix_m (by decide), mu_f (by decide), mu_f (by decide), mu_f (by decide), mu_f (by decide)]) (fun r hr => by rw [mix_c (by omega), mix_c (by omega), mu_f (by omega), mu_f (by omega), mu_f (by omega), mu_f (by omega)]), h5_cg h (fun r hr => by rw [mix_c (by omega), mix_c (by omega), mu_f (by omega), mu_f (by omega), mu_f (by omega), mu_f (by omega)]), ?_, ?_⟩, ⟨tb, ht, by rw [mu_k (by decide), mu_k (by decide), mu_k (by decide), mu_k (by decide)]; exact et⟩⟩
  · obtain ⟨b1, b2, b3, b4, b5, b6, b7, b8, b9⟩ := h.2.2.2.2.2.1
    rw [mix_m (by decide), mix_c (by decide)] at b1 b2 b3 b4 b5 b6 b7 b8 b9
    rw [mix_m (by decide), mix_c (by decide)]
    refine ⟨?_, ?_, ?_, ?_, ?_, ?_, ?_, ?_, ?_⟩
    · rw [mu_k (by decide), mu_k (by decide), mu_k (by decide), mu_k (by decide), mu_k (by decide), mu_k (by decide), mu_k (by decide), mu_k (by decide)]; exact b1
    · rw [mu_k (by decide), mu_k (by decide), mu_k (by decide), mu_k (by decide), mu_k (by decide), mu_k (by decide), mu_k (by decide), mu_k (by decide)]; exact b2
    · rw [mu_k (by decide), mu_k (by decide), mu_k (by decide), mu_k (by decide), mu_k (by decide), mu_k (by decide), mu_k (by decide), mu_k (by decide)]; exact b3
    · rw [mu_k (by decide), mu_k (by decide), mu_k (by decide), mu_k (by decide), mu_k (by decide), mu_k (by decide), mu_k (by decide), mu_k (by decide)]; exact b4
    · rw [mu_k (by decide), mu_k (by decide), mu_k (by decide), mu_s, mu_k (by decide), mu_k (by decide), mu_k (by decide), mu_s]
    · rw [mu_k (by decide), mu_k (by decide), mu_s, mu_k (by decide), mu_k (by decide), mu_s]
    · rw [mu_k (by decide), mu_s, mu_k (by decide), mu_s]
    · rw [mu_s, mu_s]
    · rw [mu_k (by decide), mu_k (by decide), mu_k (by decide), mu_k (by decide), mu_k (by decide), mu_k (by decide), mu_k (by decide), mu_k (by decide)]; exact b9
  · rw [mix_c (by decide), mu_k (by decide), mu_s]; exact nI_p (by omega)
set_option maxRecDepth 100000 in
set_option maxHeartbeats 4000000 in
theorem th_5 {C M : hM} {v : List Nat} (hok : okL 5 v) (h : mH (mix C M)) (hT : mT M) : mH (mix (tlM v C 5) (dmM v M 5)) ∧ mT (dmM v M 5) := by
  have o0 := (okL_i hok (i := 0) (n := 4) (by decide) (by decide +kernel) (by decide +kernel)).2
  have o1 := (okL_i hok (i := 1) (n := 3) (by decide) (by decide +kernel) (by decide +kernel)).2
  have eC : tlM v C 5 = (mu C 20 (v.getD 0 0) (nI (v.getD 1 0))) := rfl
  have eM : dmM v M 5 = (mu M 95 (v.getD 0 0) (nI (v.getD 1 0))) := rfl
  rw [eC, eM]
  obtain ⟨tb, ht, et⟩ := hT
  refine ⟨⟨h1_cg h (by rw [mix_m (by decide), mix_m (by decide), mu_a (by decide)]) (by rw [mix_c (by decide), mix_c (by decide), mu_f (by omega)]), h2_cg h (by rw [mix_m (by decide), mix_m (by decide), mu_f (by decide)]) (by rw [mix_c (by decide), mix_c (by decide), mu_f (by omega)]) (by rw [mix_c (by decide), mix_c (by decide), mu_f (by omega)]) (by rw [mix_c (by decide), mix_c (by decide), mu_f (by omega)]) (by rw [mix_c (by decide), mix_c (by decide), mu_f (by omega)]), ?_, h4_cg h (by rw [mix_m (by decide), mix_m (by decide), mu_f (by decide)]) (fun r hr => by rw [mix_c (by omega), mix_c (by omega), mu_f (by omega)]), h5_cg h (fun r hr => by rw [mix_c (by omega), mix_c (by omega), mu_f (by omega)]), h6_cg h (fun j a b => (by rw [mix_m (by decide), mix_m (by decide), mu_a (by decide)])) (by rw [mix_c (by decide), mix_c (by decide), mu_f (by omega)]), h7_cg h (by rw [mix_c (by decide), mix_c (by decide), mu_f (by omega)])⟩, ⟨tb, ht, by rw [mu_a (by decide)]; exact et⟩⟩
  · intro r hr
    obtain ⟨a1, a2, a3⟩ := h.2.2.1 r hr
    rw [mix_m (by decide), mix_c (by decide)] at a1 a2 a3
    rw [mix_m (by decide), mix_c (by decide), mix_m (by decide), mix_c (by decide), mix_m (by decide), mix_c (by decide)]
    refine ⟨?_, ?_, ?_⟩
    · by_cases e : r = v.getD 0 0
      · subst e; rw [mu_s, mu_s]
      · rw [mu_k e, mu_k e]; exact a1
    · rw [mu_a (by decide), mu_a (by decide)]; exact a2
    · rw [mu_a (by decide), mu_a (by decide)]; exact a3
set_option maxRecDepth 100000 in
set_option maxHeartbeats 4000000 in
theorem th_6 {C M : hM} {v : List Nat} (hok : okL 6 v) (h : mH (mix C M)) (hT : mT M) : mH (mix (tlM v C 6) (dmM v M 6)) ∧ mT (dmM v M 6) := by
  have o0 := (okL_i hok (i := 0) (n := 4) (by decide) (by decide +kernel) (by decide +kernel)).2
  have o1 := (okL_i hok (i := 1) (n := 23) (by decide) (by decide +kernel) (by decide +kernel)).2
  have o2 := (okL_i hok (i := 2) (n := 23) (by decide) (by decide +kernel) (by decide +kernel)).2
  have eC : tlM v C 6 = (mu C 21 (v.getD 0 0) (hHrs (v.getD 1 0) (v.getD 2 0))) := rfl
  have eM : dmM v M 6 = (mu M 96 (v.getD 0 0) (hHrs (v.getD 1 0) (v.getD 2 0))) := rfl
  rw [eC, eM]
  obtain ⟨tb, ht, et⟩ := hT
  refine ⟨⟨h1_cg h (by rw [mix_m (by decide), mix_m (by decide), mu_a (by decide)]) (by rw [mix_c (by decide), mix_c (by decide), mu_f (by omega)]), h2_cg h (by rw [mix_m (by decide), mix_m (by decide), mu_f (by decide)]) (by rw [mix_c (by decide), mix_c (by decide), mu_f (by omega)]) (by rw [mix_c (by decide), mix_c (by decide), mu_f (by omega)]) (by rw [mix_c (by decide), mix_c (by decide), mu_f (by omega)]) (by rw [mix_c (by decide), mix_c (by decide), mu_f (by omega)]), ?_, h4_cg h (by rw [mix_m (by decide), mix_m (by decide), mu_f (by decide)]) (fun r hr => by rw [mix_c (by omega), mix_c (by omega), mu_f (by omega)]), h5_cg h (fun r hr => by rw [mix_c (by omega), mix_c (by omega), mu_f (by omega)]), h6_cg h (fun j a b => (by rw [mix_m (by decide), mix_m (by decide), mu_a (by decide)])) (by rw [mix_c (by decide), mix_c (by decide), mu_f (by omega)]), h7_cg h (by rw [mix_c (by decide), mix_c (by decide), mu_f (by omega)])⟩, ⟨tb, ht, by rw [mu_a (by decide)]; exact et⟩⟩
  · intro r hr
    obtain ⟨a1, a2, a3⟩ := h.2.2.1 r hr
    rw [mix_m (by decide), mix_c (by decide)] at a1 a2 a3
    rw [mix_m (by decide), mix_c (by decide), mix_m (by decide), mix_c (by decide), mix_m (by decide), mix_c (by decide)]
    refine ⟨?_, ?_, ?_⟩
    · rw [mu_a (by decide), mu_a (by decide)]; exact a1
    · by_cases e : r = v.getD 0 0
      · subst e; rw [mu_s, mu_s]
      · rw [mu_k e, mu_k e]; exact a2
    · rw [mu_a (by decide), mu_a (by decide)]; exact a3
set_option maxRecDepth 100000 in
set_option maxHeartbeats 4000000 in
theorem th_7 {C M : hM} {v : List Nat} (hok : okL 7 v) (h : mH (mix C M)) (hT : mT M) : mH (mix (tlM v C 7) (dmM v M 7)) ∧ mT (dmM v M 7) := by
  have o0 := (okL_i hok (i := 0) (n := 4) (by decide) (by decide +kernel) (by decide +kernel)).2
  have o1 := (okL_i hok (i := 1) (n := 23) (by decide) (by decide +kernel) (by decide +kernel)).2
  have o2 := (okL_i hok (i := 2) (n := 23) (by decide) (by decide +kernel) (by decide +kernel)).2
  have eC : tlM v C 7 = (mu C 22 (v.getD 0 0) (hHrs (v.getD 1 0) (v.getD 2 0))) := rfl
  have eM : dmM v M 7 = (mu M 97 (v.getD 0 0) (hHrs (v.getD 1 0) (v.getD 2 0))) := rfl
  rw [eC, eM]
  obtain ⟨tb, ht, et⟩ := hT
  refine ⟨⟨h1_cg h (by rw [mix_m (by decide), mix_m (by decide), mu_a (by decide)]) (by rw [mix_c (by decide), mix_c (by decide), mu_f (by omega)]), h2_cg h (by rw [mix_m (by decide), mix_m (by decide), mu_f (by decide)]) (by rw [mix_c (by decide), mix_c (by decide), mu_f (by omega)]) (by rw [mix_c (by decide), mix_c (by decide), mu_f (by omega)]) (by rw [mix_c (by decide), mix_c (by decide), mu_f (by omega)]) (by rw [mix_c (by decide), mix_c (by decide), mu_f (by omega)]), ?_, h4_cg h (by rw [mix_m (by decide), mix_m (by decide), mu_f (by decide)]) (fun r hr => by rw [mix_c (by omega), mix_c (by omega), mu_f (by omega)]), h5_cg h (fun r hr => by rw [mix_c (by omega), mix_c (by omega), mu_f (by omega)]), h6_cg h (fun j a b => (by rw [mix_m (by decide), mix_m (by decide), mu_a (by decide)])) (by rw [mix_c (by decide), mix_c (by decide), mu_f (by omega)]), h7_cg h (by rw [mix_c (by decide), mix_c (by decide), mu_f (by omega)])⟩, ⟨tb, ht, by rw [mu_a (by decide)]; exact et⟩⟩
  · intro r hr
    obtain ⟨a1, a2, a3⟩ := h.2.2.1 r hr
    rw [mix_m (by decide), mix_c (by decide)] at a1 a2 a3
    rw [mix_m (by decide), mix_c (by decide), mix_m (by decide), mix_c (by decide), mix_m (by decide), mix_c (by decide)]
    refine ⟨?_, ?_, ?_⟩
    · rw [mu_a (by decide), mu_a (by decide)]; exact a1
    · rw [mu_a (by decide), mu_a (by decide)]; exact a2
    · by_cases e : r = v.getD 0 0
      · subst e; rw [mu_s, mu_s]
      · rw [mu_k e, mu_k e]; exact a3
set_option maxRecDepth 100000 in
set_option maxHeartbeats 4000000 in
theorem th_8 {C M : hM} {v : List Nat} (hok : okL 8 v) (h : mH (mix C M)) (hT : mT M) : mH (mix (tlM v C 8) (dmM v M 8)) ∧ mT (dmM v M 8) := by
  have o0 := (okL_i hok (i := 0) (n := 23) (by decide) (by decide +kernel) (by decide +kernel)).2
  have o1 := (okL_i hok (i := 1) (n := 23) (by decide) (by decide +kernel) (by decide +kernel)).2
  have eC : tlM v C 8 = (mu C 14 9 (if (v.getD 0 0) = (v.getD 1 0) then nI 16777215 else hHrs (v.getD 0 0) (v.getD 1 0))) := rfl
  have eM : dmM v M 8 = (mu M 93 14 (if (v.getD 0 0) = (v.getD 1 0) then nI 16777215 else hHrs (v.getD 0 0) (v.getD 1 0))) := rfl
  rw [eC, eM]
  obtain ⟨tb, ht, et⟩ := hT
  refine ⟨⟨h1_cg h (by rw [mix_m (by decide), mix_m (by decide), mu_k (by decide)]) (by rw [mix_c (by decide), mix_c (by decide), mu_f (by omega)]), h2_cg h (by rw [mix_m (by decide), mix_m (by decide), mu_f (by decide)]) (by rw [mix_c (by decide), mix_c (by decide), mu_f (by omega)]) (by rw [mix_c (by decide), mix_c (by decide), mu_f (by omega)]) (by rw [mix_c (by decide), mix_c (by decide), mu_f (by omega)]) (by rw [mix_c (by decide), mix_c (by decide), mu_f (by omega)]), h3_cg h (by rw [mix_m (by decide), mix_m (by decide), mu_f (by decide)]) (by rw [mix_m (by decide), mix_m (by decide), mu_f (by decide)]) (by rw [mix_m (by decide), mix_m (by decide), mu_f (by decide)]) (by rw [mix_c (by decide), mix_c (by decide), mu_f (by omega)]) (by rw [mix_c (by decide), mix_c (by decide), mu_f (by omega)]) (by rw [mix_c (by decide), mix_c (by decide), mu_f (by omega)]), h4_cg h (by rw [mix_m (by decide), mix_m (by decide), mu_f (by decide)]) (fun r hr => by rw [mix_c (by omega), mix_c (by omega), mu_f (by omega)]), h5_cg h (fun r hr => by rw [mix_c (by omega), mix_c (by omega), mu_f (by omega)]), ?_, ?_⟩, ⟨tb, ht, by rw [mu_k (by decide)]; exact et⟩⟩
  · obtain ⟨b1, b2, b3, b4, b5, b6, b7, b8, b9⟩ := h.2.2.2.2.2.1
    rw [mix_m (by decide), mix_c (by decide)] at b1 b2 b3 b4 b5 b6 b7 b8 b9
    rw [mix_m (by decide), mix_c (by decide)]
    refine ⟨?_, ?_, ?_, ?_, ?_, ?_, ?_, ?_, ?_⟩
    · rw [mu_k (by decide), mu_k (by decide)]; exact b1
    · rw [mu_k (by decide), mu_k (by decide)]; exact b2
    · rw [mu_k (by decide), mu_k (by decide)]; exact b3
    · rw [mu_k (by decide), mu_k (by decide)]; exact b4
    · rw [mu_k (by decide), mu_k (by decide)]; exact b5
    · rw [mu_k (by decide), mu_k (by decide)]; exact b6
    · rw [mu_k (by decide), mu_k (by decide)]; exact b7
    · rw [mu_k (by decide), mu_k (by decide)]; exact b8
    · rw [mu_s, mu_s]
  · have q := h.2.2.2.2.2.2
    rw [mix_c (by decide)] at q
    rw [mix_c (by decide), mu_k (by decide)]; exact q
set_option maxRecDepth 100000 in
set_option maxHeartbeats 4000000 in
theorem th_9 {C M : hM} {v : List Nat} (hok : okL 9 v) (h : mH (mix C M)) (hT : mT M) : mH (mix (tlM v C 9) (dmM v M 9)) ∧ mT (dmM v M 9) := by
  have o0 := (okL_i hok (i := 0) (n := 4) (by decide) (by decide +kernel) (by decide +kernel)).2
  have eC : tlM v C 9 = (mu C 15 (v.getD 0 0) (nI 0)) := rfl
  have eM : dmM v M 9 = (mu M 93 0 (M 93 0 &&& ((nI 1 <<< (nI (v.getD 0 0) &&& 31)) ^^^ -1))) := rfl
  rw [eC, eM]
  obtain ⟨tb, ht, et⟩ := hT
  obtain ⟨b1, b2, b3⟩ := ob_f tb ht (v.getD 0 0) (by omega)
  have e93 : (mu M 93 0 (M 93 0 &&& ((nI 1 <<< (nI (v.getD 0 0) &&& 31)) ^^^ -1))) 93 0 = nI (tb &&& (31 ^^^ 2 ^ v.getD 0 0)) := by rw [mu_s, et, b1]
  have h1 := h.1
  rw [mix_m (by decide), mix_c (by decide), et] at h1
  refine ⟨⟨fun r hr => ?_, ?_, ?_, ?_, ?_, ?_, ?_⟩, ⟨_, b2, e93⟩⟩
  · rw [mix_m (by decide), mix_c (by decide), e93, b3 r hr, h1 r hr]
    by_cases e : r = v.getD 0 0
    · subst e; rw [mu_s]; exact ⟨fun z => absurd rfl z.1, fun z => absurd rfl z⟩
    · rw [mu_k e]; exact ⟨fun z => z.2, fun z => ⟨e, z⟩⟩
  · exact h2_cg h (by rw [mix_m (by decide), mix_m (by decide), mu_f (by decide)]) (by rw [mix_c (by decide), mix_c (by decide), mu_f (by omega)]) (by rw [mix_c (by decide), mix_c (by decide), mu_f (by omega)]) (by rw [mix_c (by decide), mix_c (by decide), mu_f (by omega)]) (by rw [mix_c (by decide), mix_c (by decide), mu_f (by omega)])
  · exact h3_cg h (by rw [mix_m (by decide), mix_m (by decide), mu_f (by decide)]) (by rw [mix_m (by decide), mix_m (by decide), mu_f (by decide)]) (by rw [mix_m (by decide), mix_m (by decide), mu_f (by decide)]) (by rw [mix_c (by decide), mix_c (by decide), mu_f (by omega)]) (by rw [mix_c (by decide), mix_c (by decide), mu_f (by omega)]) (by rw [mix_c (by decide), mix_c (by decide), mu_f (by omega)])
  · exact h4_cg h (by rw [mix_m (by decide), mix_m (by decide), mu_f (by decide)]) (fun r hr => by rw [mix_c (by omega), mix_c (by omega), mu_f (by omega)])
  · exact h5_cg h (fun r hr => by rw [mix_c (by omega), mix_c (by omega), mu_f (by omega)])
  · exact h6_cg h (fun j a b => (by rw [mix_m (by decide), mix_m (by decide), mu_k (by omega)])) (by rw [mix_c (by decide), mix_c (by decide), mu_f (by omega)])
  · exact h7_cg h (by rw [mix_c (by decide), mix_c (by decide), mu_f (by omega)])
theorem th_all {C M : hM} {k : Nat} {v : List Nat} (hk : k < 10) (hok : okL k v) (h : mH (mix C M)) (hT : mT M) : mH (mix (tlM v C k) (dmM v M k)) ∧ mT (dmM v M k) := by
  rcases (by omega : k = 0 ∨ k = 1 ∨ k = 2 ∨ k = 3 ∨ k = 4 ∨ k = 5 ∨ k = 6 ∨ k = 7 ∨ k = 8 ∨ k = 9) with rfl | rfl | rfl | rfl | rfl | rfl | rfl | rfl | rfl | rfl
  · exact th_0 hok h hT
  · exact th_1 hok h hT
  · exact th_2 hok h hT
  · exact th_3 hok h hT
  · exact th_4 hok h hT
  · exact th_5 hok h hT
  · exact th_6 hok h hT
  · exact th_7 hok h hT
  · exact th_8 hok h hT
  · exact th_9 hok h hT
theorem th_ls {C M : hM} {ls : List (Nat × List Nat)} (h : mH (mix C M)) (hT : mT M) : ∀ n, (∀ i, i < n → (ls.getD i (0, [])).1 < 10 ∧ okL (ls.getD i (0, [])).1 (ls.getD i (0, [])).2) → mH (mix (tlS ls C n) (dlS ls M n)) ∧ mT (dlS ls M n)
  | 0, _ => ⟨h, hT⟩
  | n + 1, hk => by
    obtain ⟨a, b⟩ := th_ls h hT n (fun i hi => hk i (by omega))
    obtain ⟨c, d⟩ := hk n (by omega)
    exact th_all c d a b
