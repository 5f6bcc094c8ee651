/-! BestClock, Works, Glasses -/
def setC (P : hM) (a : Nat) (f : Nat → Int32) : hM := fun b => if b = a then f else P b
theorem setC_s {P : hM} {a : Nat} {f : Nat → Int32} : setC P a f a = f := if_pos rfl
theorem setC_n {P : hM} {a b : Nat} {f : Nat → Int32} (h : b ≠ a) : setC P a f b = P b := if_neg h
def plE0 (N P : hM) : Prop := (∀ a, 14 ≤ a → a < 29 → N a = P a) ∧ N 29 5 = P 29 5 ∧ N 29 6 = P 29 6 ∧ (∀ r, r < 5 → N 32 r = P 32 r ∧ ∀ j, j < 24 → N (34 + r) j = P (34 + r) j) ∧ ∀ h, h < 96 → N 39 h = P 39 h
theorem plEq.E0 {N P : hM} (h : plEq N P) : plE0 N P := ⟨h.1, h.2.1, h.2.2.1, fun r hr => ⟨(h.2.2.2.1 r hr).2.2.1, (h.2.2.2.1 r hr).2.2.2⟩, h.2.2.2.2⟩
theorem pl_clk {N P N2 : hM} {w : Int32} (h : plE0 N P) (hp : pacP N w N2) : plEq N2 (setC (setC P 30 (fun _ => nI 0)) 31 (fun _ => w)) := by
  obtain ⟨f1, f2, f3⟩ := hp
  refine ⟨fun a ha hb => ?_, ?_, ?_, fun r hr => ⟨?_, ?_, ?_, fun j hj => ?_⟩, fun n hn => ?_⟩
  · rw [setC_n (by omega), setC_n (by omega), f1 a (by omega) (by omega)]; exact h.1 a ha hb
  · rw [setC_n (by omega), setC_n (by omega), f1 29 (by omega) (by omega)]; exact h.2.1
  · rw [setC_n (by omega), setC_n (by omega), f1 29 (by omega) (by omega)]; exact h.2.2.1
  · rw [setC_n (by omega), setC_s]; exact f2 r hr
  · rw [setC_s]; exact f3 r hr
  · rw [setC_n (by omega), setC_n (by omega), f1 32 (by omega) (by omega)]; exact (h.2.2.2.1 r hr).1
  · rw [setC_n (by omega), setC_n (by omega), f1 (34 + r) (by omega) (by omega)]; exact (h.2.2.2.1 r hr).2 j hj
  · rw [setC_n (by omega), setC_n (by omega), f1 39 (by omega) (by omega)]; exact h.2.2.2.2 n hn
theorem pl_gls {N P N2 : hM} (h : plEq N P) (hp : pagP N N2) : plEq N2 (setC P 30 (fun _ => nI 1)) := by
  obtain ⟨f1, f2⟩ := hp
  refine ⟨fun a ha hb => ?_, ?_, ?_, fun r hr => ⟨?_, ?_, ?_, fun j hj => ?_⟩, fun n hn => ?_⟩
  · rw [setC_n (by omega), f1 a (by omega)]; exact h.1 a ha hb
  · rw [setC_n (by omega), f1 29 (by omega)]; exact h.2.1
  · rw [setC_n (by omega), f1 29 (by omega)]; exact h.2.2.1
  · rw [setC_s]; exact f2 r hr
  · rw [setC_n (by omega), f1 31 (by omega)]; exact (h.2.2.2.1 r hr).2.1
  · rw [setC_n (by omega), f1 32 (by omega)]; exact (h.2.2.2.1 r hr).2.2.1
  · rw [setC_n (by omega), f1 (34 + r) (by omega)]; exact (h.2.2.2.1 r hr).2.2.2 j hj
  · rw [setC_n (by omega), f1 39 (by omega)]; exact h.2.2.2.2 n hn
/-- the first of the least -/
def bcS (f : Nat → Int32) : Nat → Nat × Int32
  | 0 => (0, nI 0)
  | n + 1 => if n = 0 ∨ f n < (bcS f n).2 then (n, f n) else bcS f n
theorem bcS_cg {f g : Nat → Int32} : ∀ n, (∀ k, k < n → f k = g k) → bcS f n = bcS g n
  | 0, _ => rfl
  | n + 1, h => by rw [bcS, bcS, bcS_cg n (fun k hk => h k (by omega)), h n (by omega)]
theorem bcS_lt {f : Nat → Int32} : ∀ n, (bcS f (n + 1)).1 ≤ n
  | 0 => Nat.le_refl 0
  | n + 1 => by
    rw [bcS]
    by_cases h : n + 1 = 0 ∨ f (n + 1) < (bcS f (n + 1)).2
    · rw [if_pos h]; exact Nat.le_refl _
    · rw [if_neg h]; exact Nat.le_succ_of_le (bcS_lt n)
def clkP (M : hM) (k : Nat) : hM := setC (setC (planOf M) 30 (fun _ => nI 0)) 31 (fun _ => hHrs (k / 24) (k % 24))
def glsP (M : hM) : hM := setC (planOf M) 30 (fun _ => nI 1)
def bstOk (M M2 : hM) : Prop := M2 78 4 = nAll (glsP M) ∧ M2 78 1 = nI ((bcS (fun k => nAll (clkP M k)) 576).1 / 24) ∧ M2 78 2 = nI ((bcS (fun k => nAll (clkP M k)) 576).1 % 24) ∧ M2 78 3 = (bcS (fun k => nAll (clkP M k)) 576).2
def fndP (M M2 : hM) : Prop := (∀ a, (a < 29 ∨ (39 < a ∧ a < 59) ∨ 78 < a) → M2 a = M a) ∧ M2 78 0 = nI 1 ∧ bstOk M M2
/-- ahead of clock k -/
def bcI (M : hM) (k : Nat) (M2 : hM) : Prop := (∀ a, (a < 29 ∨ (39 < a ∧ a < 59) ∨ 78 < a) → M2 a = M a) ∧ plE0 M2 (planOf M) ∧ M2 78 4 = nAll (glsP M) ∧ (0 < k → M2 78 1 = nI ((bcS (fun k => nAll (clkP M k)) k).1 / 24) ∧ M2 78 2 = nI ((bcS (fun k => nAll (clkP M k)) k).1 % 24) ∧ M2 78 3 = (bcS (fun k => nAll (clkP M k)) k).2)
def kbM (M : hM) (a b : Nat) (v : Int32) : hM := if (a = 0 ∧ b = 0) ∨ v < M 78 3 then mu (mu (mu M 78 1 (nI a)) 78 2 (nI b)) 78 3 v else M
theorem kbM_f {M : hM} {a b : Nat} {v : Int32} {c : Nat} (h : c ≠ 78) : kbM M a b v c = M c := by
  unfold kbM
  by_cases q : (a = 0 ∧ b = 0) ∨ v < M 78 3
  · rw [if_pos q, mu_f h, mu_f h, mu_f h]
  · rw [if_neg q]
theorem kbM_j {M : hM} {a b : Nat} {v : Int32} {j : Nat} (h1 : j ≠ 1) (h2 : j ≠ 2) (h3 : j ≠ 3) : kbM M a b v 78 j = M 78 j := by
  unfold kbM
  by_cases q : (a = 0 ∧ b = 0) ∨ v < M 78 3
  · rw [if_pos q, mu_k h3, mu_k h2, mu_k h1]
  · rw [if_neg q]
theorem bcI_step {M M2 M3 M4 : hM} {a b : Nat} (ha : a < 24) (hb : b < 24) (hI : bcI M (24 * a + b) M2) (hp : pacP M2 (hHrs a b) M3) (hr : runI M3 59 96 0 M4) : bcI M (24 * a + b + 1) (kbM M4 a b (naS (M4 15) (fun r => nS (M4 (59 + 4 + r)) 96) 5)) := by
  obtain ⟨f1, f2, f3, f4⟩ := hI
  have hpl := pl_clk f2 hp
  have hcr := run_crs hpl hr
  have hk : clkP M (24 * a + b) = setC (setC (planOf M) 30 (fun _ => nI 0)) 31 (fun _ => hHrs a b) := by
    unfold clkP
    rw [show (24 * a + b) / 24 = a by omega, show (24 * a + b) % 24 = b by omega]
  rw [← hk] at hpl hcr
  obtain ⟨p1, p2, p3⟩ := hp
  have r1 := hr.1
  have hv : naS (M4 15) (fun r => nS (M4 (59 + 4 + r)) 96) 5 = nAll (clkP M (24 * a + b)) := crs_all hcr (fun r hr9 => by rw [r1 15 (by omega)]; exact congrFun (hpl.1 15 (by decide) (by decide)) r)
  rw [hv]
  have hf : ∀ c, (c < 29 ∨ (39 < c ∧ c < 59) ∨ 78 < c) → M4 c = M c := fun c hc => by rw [r1 c (by omega), p1 c (by omega) (by omega)]; exact f1 c hc
  have h78 : ∀ j, M4 78 j = M2 78 j := fun j => by rw [r1 78 (by omega), p1 78 (by omega) (by omega)]
  refine ⟨fun c hc => ?_, ?_, ?_, fun _ => ?_⟩
  · rw [kbM_f (by omega)]; exact hf c hc
  · refine ⟨fun c hc hd => ?_, ?_, ?_, fun r hr9 => ⟨?_, fun j hj => ?_⟩, fun n hn => ?_⟩
    · rw [kbM_f (by omega), r1 c (by omega), p1 c (by omega) (by omega)]; exact f2.1 c hc hd
    · rw [kbM_f (by omega), r1 29 (by omega), p1 29 (by omega) (by omega)]; exact f2.2.1
    · rw [kbM_f (by omega), r1 29 (by omega), p1 29 (by omega) (by omega)]; exact f2.2.2.1
    · rw [kbM_f (by omega), r1 32 (by omega), p1 32 (by omega) (by omega)]; exact (f2.2.2.2.1 r hr9).1
    · rw [kbM_f (by omega), r1 (34 + r) (by omega), p1 (34 + r) (by omega) (by omega)]; exact (f2.2.2.2.1 r hr9).2 j hj
    · rw [kbM_f (by omega), r1 39 (by omega), p1 39 (by omega) (by omega)]; exact f2.2.2.2.2 n hn
  · rw [kbM_j (by decide) (by decide) (by decide), h78]; exact f3
  · unfold kbM
    by_cases q : (a = 0 ∧ b = 0) ∨ nAll (clkP M (24 * a + b)) < M4 78 3
    · have q2 : 24 * a + b = 0 ∨ nAll (clkP M (24 * a + b)) < (bcS (fun k => nAll (clkP M k)) (24 * a + b)).2 := by
        rcases Nat.eq_zero_or_pos (24 * a + b) with z | z
        · exact Or.inl z
        · rcases q with q | q
          · omega
          · right; rw [← (f4 z).2.2, ← h78]; exact q
      rw [if_pos q, bcS, if_pos q2]
      refine ⟨?_, ?_, mu_s⟩
      · rw [mu_k (by decide), mu_k (by decide), mu_s]; show nI a = nI ((24 * a + b) / 24); rw [show (24 * a + b) / 24 = a by omega]
      · rw [mu_k (by decide), mu_s]; show nI b = nI ((24 * a + b) % 24); rw [show (24 * a + b) % 24 = b by omega]
    · have z : 0 < 24 * a + b := by
        rcases Nat.eq_zero_or_pos (24 * a + b) with z | z
        · exact absurd (Or.inl ⟨by omega, by omega⟩) q
        · exact z
      obtain ⟨g1, g2, g3⟩ := f4 z
      have q2 : ¬ (24 * a + b = 0 ∨ nAll (clkP M (24 * a + b)) < (bcS (fun k => nAll (clkP M k)) (24 * a + b)).2) := by
        rintro (w | w)
        · omega
        · exact q (Or.inr (by rw [h78, g3]; exact w))
      rw [if_neg q, bcS, if_neg q2, h78, h78, h78]
      exact ⟨g1, g2, g3⟩

set_option maxRecDepth 100000 in
set_option maxHeartbeats 4000000 in
theorem t_X0_keepBetter (M : hM) (a b : Nat) (v : Int32) (ha : a < 24) (hb : b < 24) : Ct 1 mX0_keepBetter [.ref 78, .int (nI a), .int (nI b), .int v] M (pV (fun M2 => M2 = kbM M a b v)) := by
  refine ct_of (lv := [some (.ref 78), some (.int (nI a)), some (.int (nI b)), some (.int v), none]) (by decide +kernel) (fun _ _ hq => hq) rfl (fun _ => Nat.le_of_ble_eq_true rfl) (fun X h hr => ?_)
  refine j_iload_n h 1 rfl rfl dX0_keepBetter_0 ?_
  refine j_if_neN h 12 4 (by omega) dX0_keepBetter_1 (by decide) rfl (fun c_1 => ?_) (fun c_1 => ?_)
  · skip
    refine j_iconst h 13 rfl (nI 0) (by decide) dX0_keepBetter_12 ?_
    refine j_istore h 15 rfl rfl dX0_keepBetter_13 ?_
    refine j_iload h 17 rfl rfl dX0_keepBetter_15 ?_
    refine j_if_neN h 28 20 (by omega) dX0_keepBetter_17 (by decide) rfl (fun c_17 => ?_) (fun c_17 => ?_)
    · skip
      refine j_aload_n h 29 rfl rfl dX0_keepBetter_28 ?_
      refine j_iload_n h 30 rfl rfl dX0_keepBetter_29 ?_
      refine j_putI h 33 rfl plX0_52 sh_78 rfl rfl rfl rfl dX0_keepBetter_30 ?_
      refine j_aload_n h 34 rfl rfl dX0_keepBetter_33 ?_
      refine j_iload_n h 35 rfl rfl dX0_keepBetter_34 ?_
      refine j_putI h 38 rfl plX0_55 sh_78 rfl rfl rfl rfl dX0_keepBetter_35 ?_
      refine j_aload_n h 39 rfl rfl dX0_keepBetter_38 ?_
      refine j_iload_n h 40 rfl rfl dX0_keepBetter_39 ?_
      refine j_putI h 43 rfl plX0_50 sh_78 rfl rfl rfl rfl dX0_keepBetter_40 ?_
      exact j_vret h hr dX0_keepBetter_43 ⟨rfl, by show _ = kbM M a b v; unfold kbM; first | (exfalso; omega) | rw [if_pos (Or.inl ⟨by omega, by omega⟩)] | rw [if_pos (Or.inr (Int32.not_le.mp (by assumption)))] | (rw [if_neg]; rintro (z | z); omega; exact absurd z (Int32.not_lt.mpr (by assumption)))⟩
    · skip
      refine j_iload_n h 21 rfl rfl dX0_keepBetter_20 ?_
      refine j_aload_n h 22 rfl rfl dX0_keepBetter_21 ?_
      refine j_getI h 25 rfl glX0_50 sh_78 rfl dX0_keepBetter_22 ?_
      refine j_icmp_ge h 43 28 dX0_keepBetter_25 (by decide) rfl (fun c_25 => ?_) (fun c_25 => ?_)
      · skip
        exact j_vret h hr dX0_keepBetter_43 ⟨rfl, by show _ = kbM M a b v; unfold kbM; first | (exfalso; omega) | rw [if_pos (Or.inl ⟨by omega, by omega⟩)] | rw [if_pos (Or.inr (Int32.not_le.mp (by assumption)))] | (rw [if_neg]; rintro (z | z); omega; exact absurd z (Int32.not_lt.mpr (by assumption)))⟩
      · skip
        refine j_aload_n h 29 rfl rfl dX0_keepBetter_28 ?_
        refine j_iload_n h 30 rfl rfl dX0_keepBetter_29 ?_
        refine j_putI h 33 rfl plX0_52 sh_78 rfl rfl rfl rfl dX0_keepBetter_30 ?_
        refine j_aload_n h 34 rfl rfl dX0_keepBetter_33 ?_
        refine j_iload_n h 35 rfl rfl dX0_keepBetter_34 ?_
        refine j_putI h 38 rfl plX0_55 sh_78 rfl rfl rfl rfl dX0_keepBetter_35 ?_
        refine j_aload_n h 39 rfl rfl dX0_keepBetter_38 ?_
        refine j_iload_n h 40 rfl rfl dX0_keepBetter_39 ?_
        refine j_putI h 43 rfl plX0_50 sh_78 rfl rfl rfl rfl dX0_keepBetter_40 ?_
        exact j_vret h hr dX0_keepBetter_43 ⟨rfl, by show _ = kbM M a b v; unfold kbM; first | (exfalso; omega) | rw [if_pos (Or.inl ⟨by omega, by omega⟩)] | rw [if_pos (Or.inr (Int32.not_le.mp (by assumption)))] | (rw [if_neg]; rintro (z | z); omega; exact absurd z (Int32.not_lt.mpr (by assumption)))⟩
  · skip
    refine j_iload_n h 5 rfl rfl dX0_keepBetter_4 ?_
    refine j_if_neN h 12 8 (by omega) dX0_keepBetter_5 (by decide) rfl (fun c_5 => ?_) (fun c_5 => ?_)
    · skip
      refine j_iconst h 13 rfl (nI 0) (by decide) dX0_keepBetter_12 ?_
      refine j_istore h 15 rfl rfl dX0_keepBetter_13 ?_
      refine j_iload h 17 rfl rfl dX0_keepBetter_15 ?_
      refine j_if_neN h 28 20 (by omega) dX0_keepBetter_17 (by decide) rfl (fun c_17 => ?_) (fun c_17 => ?_)
      · skip
        refine j_aload_n h 29 rfl rfl dX0_keepBetter_28 ?_
        refine j_iload_n h 30 rfl rfl dX0_keepBetter_29 ?_
        refine j_putI h 33 rfl plX0_52 sh_78 rfl rfl rfl rfl dX0_keepBetter_30 ?_
        refine j_aload_n h 34 rfl rfl dX0_keepBetter_33 ?_
        refine j_iload_n h 35 rfl rfl dX0_keepBetter_34 ?_
        refine j_putI h 38 rfl plX0_55 sh_78 rfl rfl rfl rfl dX0_keepBetter_35 ?_
        refine j_aload_n h 39 rfl rfl dX0_keepBetter_38 ?_
        refine j_iload_n h 40 rfl rfl dX0_keepBetter_39 ?_
        refine j_putI h 43 rfl plX0_50 sh_78 rfl rfl rfl rfl dX0_keepBetter_40 ?_
        exact j_vret h hr dX0_keepBetter_43 ⟨rfl, by show _ = kbM M a b v; unfold kbM; first | (exfalso; omega) | rw [if_pos (Or.inl ⟨by omega, by omega⟩)] | rw [if_pos (Or.inr (Int32.not_le.mp (by assumption)))] | (rw [if_neg]; rintro (z | z); omega; exact absurd z (Int32.not_lt.mpr (by assumption)))⟩
      · skip
        refine j_iload_n h 21 rfl rfl dX0_keepBetter_20 ?_
        refine j_aload_n h 22 rfl rfl dX0_keepBetter_21 ?_
        refine j_getI h 25 rfl glX0_50 sh_78 rfl dX0_keepBetter_22 ?_
        refine j_icmp_ge h 43 28 dX0_keepBetter_25 (by decide) rfl (fun c_25 => ?_) (fun c_25 => ?_)
        · skip
          exact j_vret h hr dX0_keepBetter_43 ⟨rfl, by show _ = kbM M a b v; unfold kbM; first | (exfalso; omega) | rw [if_pos (Or.inl ⟨by omega, by omega⟩)] | rw [if_pos (Or.inr (Int32.not_le.mp (by assumption)))] | (rw [if_neg]; rintro (z | z); omega; exact absurd z (Int32.not_lt.mpr (by assumption)))⟩
        · skip
          refine j_aload_n h 29 rfl rfl dX0_keepBetter_28 ?_
          refine j_iload_n h 30 rfl rfl dX0_keepBetter_29 ?_
          refine j_putI h 33 rfl plX0_52 sh_78 rfl rfl rfl rfl dX0_keepBetter_30 ?_
          refine j_aload_n h 34 rfl rfl dX0_keepBetter_33 ?_
          refine j_iload_n h 35 rfl rfl dX0_keepBetter_34 ?_
          refine j_putI h 38 rfl plX0_55 sh_78 rfl rfl rfl rfl dX0_keepBetter_35 ?_
          refine j_aload_n h 39 rfl rfl dX0_keepBetter_38 ?_
          refine j_iload_n h 40 rfl rfl dX0_keepBetter_39 ?_
          refine j_putI h 43 rfl plX0_50 sh_78 rfl rfl rfl rfl dX0_keepBetter_40 ?_
          exact j_vret h hr dX0_keepBetter_43 ⟨rfl, by show _ = kbM M a b v; unfold kbM; first | (exfalso; omega) | rw [if_pos (Or.inl ⟨by omega, by omega⟩)] | rw [if_pos (Or.inr (Int32.not_le.mp (by assumption)))] | (rw [if_neg]; rintro (z | z); omega; exact absurd z (Int32.not_lt.mpr (by assumption)))⟩
    · skip
      refine j_iconst h 9 rfl (nI 1) (by decide) dX0_keepBetter_8 ?_
      refine j_goto h 13 dX0_keepBetter_9 (by decide) ?_
      refine j_istore h 15 rfl rfl dX0_keepBetter_13 ?_
      refine j_iload h 17 rfl rfl dX0_keepBetter_15 ?_
      refine j_if_neN h 28 20 (by omega) dX0_keepBetter_17 (by decide) rfl (fun c_17 => ?_) (fun c_17 => ?_)
      · skip
        refine j_aload_n h 29 rfl rfl dX0_keepBetter_28 ?_
        refine j_iload_n h 30 rfl rfl dX0_keepBetter_29 ?_
        refine j_putI h 33 rfl plX0_52 sh_78 rfl rfl rfl rfl dX0_keepBetter_30 ?_
        refine j_aload_n h 34 rfl rfl dX0_keepBetter_33 ?_
        refine j_iload_n h 35 rfl rfl dX0_keepBetter_34 ?_
        refine j_putI h 38 rfl plX0_55 sh_78 rfl rfl rfl rfl dX0_keepBetter_35 ?_
        refine j_aload_n h 39 rfl rfl dX0_keepBetter_38 ?_
        refine j_iload_n h 40 rfl rfl dX0_keepBetter_39 ?_
        refine j_putI h 43 rfl plX0_50 sh_78 rfl rfl rfl rfl dX0_keepBetter_40 ?_
        exact j_vret h hr dX0_keepBetter_43 ⟨rfl, by show _ = kbM M a b v; unfold kbM; first | (exfalso; omega) | rw [if_pos (Or.inl ⟨by omega, by omega⟩)] | rw [if_pos (Or.inr (Int32.not_le.mp (by assumption)))] | (rw [if_neg]; rintro (z | z); omega; exact absurd z (Int32.not_lt.mpr (by assumption)))⟩
      · skip
        refine j_iload_n h 21 rfl rfl dX0_keepBetter_20 ?_
        refine j_aload_n h 22 rfl rfl dX0_keepBetter_21 ?_
        refine j_getI h 25 rfl glX0_50 sh_78 rfl dX0_keepBetter_22 ?_
        refine j_icmp_ge h 43 28 dX0_keepBetter_25 (by decide) rfl (fun c_25 => ?_) (fun c_25 => ?_)
        · skip
          exact j_vret h hr dX0_keepBetter_43 ⟨rfl, by show _ = kbM M a b v; unfold kbM; first | (exfalso; omega) | rw [if_pos (Or.inl ⟨by omega, by omega⟩)] | rw [if_pos (Or.inr (Int32.not_le.mp (by assumption)))] | (rw [if_neg]; rintro (z | z); omega; exact absurd z (Int32.not_lt.mpr (by assumption)))⟩
        · skip
          refine j_aload_n h 29 rfl rfl dX0_keepBetter_28 ?_
          refine j_iload_n h 30 rfl rfl dX0_keepBetter_29 ?_
          refine j_putI h 33 rfl plX0_52 sh_78 rfl rfl rfl rfl dX0_keepBetter_30 ?_
          refine j_aload_n h 34 rfl rfl dX0_keepBetter_33 ?_
          refine j_iload_n h 35 rfl rfl dX0_keepBetter_34 ?_
          refine j_putI h 38 rfl plX0_55 sh_78 rfl rfl rfl rfl dX0_keepBetter_35 ?_
          refine j_aload_n h 39 rfl rfl dX0_keepBetter_38 ?_
          refine j_iload_n h 40 rfl rfl dX0_keepBetter_39 ?_
          refine j_putI h 43 rfl plX0_50 sh_78 rfl rfl rfl rfl dX0_keepBetter_40 ?_
          exact j_vret h hr dX0_keepBetter_43 ⟨rfl, by show _ = kbM M a b v; unfold kbM; first | (exfalso; omega) | rw [if_pos (Or.inl ⟨by omega, by omega⟩)] | rw [if_pos (Or.inr (Int32.not_le.mp (by assumption)))] | (rw [if_neg]; rintro (z | z); omega; exact absurd z (Int32.not_lt.mpr (by assumption)))⟩
set_option maxRecDepth 100000 in
set_option maxHeartbeats 4000000 in
theorem t_X0_forget (M : hM) : Ct 1 mX0_forget [.ref 78] M (pV (fun M2 => M2 = mu M 78 0 (nI 0))) := by
  refine ct_of (lv := [some (.ref 78)]) (by decide +kernel) (fun _ _ hq => hq) rfl (fun _ => Nat.le_of_ble_eq_true rfl) (fun X h hr => ?_)
  refine j_aload_n h 1 rfl rfl dX0_forget_0 ?_
  refine j_iconst h 2 rfl (nI 0) (by decide) dX0_forget_1 ?_
  refine j_putI h 5 rfl plX0_9 sh_78 rfl rfl (by decide) (by decide) dX0_forget_2 ?_
  exact j_vret h hr dX0_forget_5 ⟨rfl, rfl⟩
set_option maxRecDepth 100000 in
set_option maxHeartbeats 4000000 in
theorem t_X0_from (M : hM) : Ct 1 mX0_from [.ref 78] M (pI (M 78 1) M) := by
  refine ct_of (lv := [some (.ref 78)]) (by decide +kernel) (fun _ _ hq => hq) rfl (fun _ => Nat.le_of_ble_eq_true rfl) (fun X h hr => ?_)
  refine j_aload_n h 1 rfl rfl dX0_from_0 ?_
  refine j_getI h 4 rfl glX0_52 sh_78 rfl dX0_from_1 ?_
  exact j_ret h hr rfl dX0_from_4 ⟨rfl, rfl⟩
set_option maxRecDepth 100000 in
set_option maxHeartbeats 4000000 in
theorem t_X0_to (M : hM) : Ct 1 mX0_to [.ref 78] M (pI (M 78 2) M) := by
  refine ct_of (lv := [some (.ref 78)]) (by decide +kernel) (fun _ _ hq => hq) rfl (fun _ => Nat.le_of_ble_eq_true rfl) (fun X h hr => ?_)
  refine j_aload_n h 1 rfl rfl dX0_to_0 ?_
  refine j_getI h 4 rfl glX0_55 sh_78 rfl dX0_to_1 ?_
  exact j_ret h hr rfl dX0_to_4 ⟨rfl, rfl⟩
set_option maxRecDepth 100000 in
set_option maxHeartbeats 4000000 in
theorem t_X0_nightOfAll (M : hM) : Ct 1 mX0_nightOfAll [.ref 78] M (pI (M 78 3) M) := by
  refine ct_of (lv := [some (.ref 78)]) (by decide +kernel) (fun _ _ hq => hq) rfl (fun _ => Nat.le_of_ble_eq_true rfl) (fun X h hr => ?_)
  refine j_aload_n h 1 rfl rfl dX0_nightOfAll_0 ?_
  refine j_getI h 4 rfl glX0_50 sh_78 rfl dX0_nightOfAll_1 ?_
  exact j_ret h hr rfl dX0_nightOfAll_4 ⟨rfl, rfl⟩
set_option maxRecDepth 100000 in
set_option maxHeartbeats 4000000 in
theorem t_X0_near (M : hM) : Ct 1 mX0_near [.ref 78] M (pI (M 78 3 - M 78 4) M) := by
  refine ct_of (lv := [some (.ref 78)]) (by decide +kernel) (fun _ _ hq => hq) rfl (fun _ => Nat.le_of_ble_eq_true rfl) (fun X h hr => ?_)
  refine j_aload_n h 1 rfl rfl dX0_near_0 ?_
  refine j_getI h 4 rfl glX0_50 sh_78 rfl dX0_near_1 ?_
  refine j_aload_n h 5 rfl rfl dX0_near_4 ?_
  refine j_getI h 8 rfl glX0_34 sh_78 rfl dX0_near_5 ?_
  refine j_isub h 9 rfl dX0_near_8 ?_
  exact j_ret h hr rfl dX0_near_9 ⟨rfl, rfl⟩
set_option maxRecDepth 100000 in
set_option maxHeartbeats 4000000 in
theorem t_X0_find (M : hM) : Ct 6 mX0_find [.ref 78, .ref 14, .ref 29, .ref 59] M (pV (fun M2 => (¬ M 78 0 = 0 ∧ M2 = M) ∨ (M 78 0 = 0 ∧ fndP M M2))) := by
  refine ct_of (lv := [some (.ref 78), some (.ref 14), some (.ref 29), some (.ref 59), none, none]) (by decide +kernel) (fun _ _ hq => hq) rfl (fun _ => Nat.le_of_ble_eq_true rfl) (fun X h hr => ?_)
  have hc : IsC 59 := Or.inr rfl
  refine j_aload_n h 1 rfl rfl dX0_find_0 ?_
  refine j_getI h 4 rfl glX0_9 sh_78 rfl dX0_find_1 ?_
  refine j_if_eq h 8 7 dX0_find_4 (by decide) rfl (fun c_4 => ?_) (fun c_4 => ?_)
  · skip
    refine j_aload_n h 9 rfl rfl dX0_find_8 ?_
    refine j_aload_n h 10 rfl rfl dX0_find_9 ?_
    refine j_callVV h 13 rfl lkX0_15 sh_29 rfl rfl (t_X4_takeFrom _) rfl rfl rfl dX0_find_10 (fun M9 hM9 => ?_)
    refine j_aload_n h 14 rfl rfl dX0_find_13 ?_
    refine j_callVV h 17 rfl lkX0_21 sh_29 rfl rfl (t_X4_putAllByGlass _) rfl rfl rfl dX0_find_14 (fun M8 hM8 => ?_)
    refine j_aload_n h 18 rfl rfl dX0_find_17 ?_
    refine j_aload_n h 19 rfl rfl dX0_find_18 ?_
    refine j_aload_n h 20 rfl rfl dX0_find_19 ?_
    refine j_callVV h 23 rfl lkX0_24 sh_59 rfl rfl (t_X1_run _ _ hc) rfl rfl rfl dX0_find_20 (fun M7 hM7 => ?_)
    refine j_aload_n h 24 rfl rfl dX0_find_23 ?_
    refine j_aload_n h 25 rfl rfl dX0_find_24 ?_
    refine j_aload_n h 26 rfl rfl dX0_find_25 ?_
    refine j_callVI h 29 rfl lkX0_30 sh_59 rfl rfl (t_X1_nightOfAll _ _ hc) rfl rfl rfl dX0_find_26 ?_
    refine j_putI h 32 rfl plX0_34 sh_78 rfl rfl rfl rfl dX0_find_29 ?_
    refine j_iconst h 33 rfl (nI 0) (by decide) dX0_find_32 ?_
    refine j_istore h 35 rfl rfl dX0_find_33 ?_
    have L1 : ∀ (n a : Nat) (M2 : hM) (z : Option Value), 24 - a < n → a ≤ 24 → bcI M (24 * a) M2 → J X 35 [some (.ref 78), some (.ref 14), some (.ref 29), some (.ref 59), some (.int (nI a)), z] [] M2 := by
      intro n
      induction n with
      | zero => intro a M2 z h1; omega
      | succ n ih =>
        intro a M2 z h1 h2 hI
        refine j_iload h 37 rfl rfl dX0_find_35 ?_
        refine j_bipush h 39 rfl (nI 24) (by decide) dX0_find_37 ?_
        refine j_icmp_geN h 94 42 (by omega) (by omega) dX0_find_39 (by decide) rfl (fun c_39 => ?_) (fun c_39 => ?_)
        · skip
          refine j_aload_n h 95 rfl rfl dX0_find_94 ?_
          refine j_iconst h 96 rfl (nI 1) (by decide) dX0_find_95 ?_
          refine j_putI h 99 rfl plX0_9 sh_78 rfl rfl (by decide) (by decide) dX0_find_96 ?_
          exact j_vret h hr dX0_find_99 ⟨rfl, Or.inr ⟨c_4, by
      have e24 : a = 24 := by omega
      subst e24
      obtain ⟨g1, g2, g3, g4⟩ := hI
      obtain ⟨g5, g6, g7⟩ := g4 (by decide)
      refine ⟨fun c hc9 => ?_, mu_s, ?_, ?_, ?_, ?_⟩
      · rw [mu_f (by omega)]; exact g1 c hc9
      · rw [mu_k (by decide)]; exact g3
      · rw [mu_k (by decide)]; exact g5
      · rw [mu_k (by decide)]; exact g6
      · rw [mu_k (by decide)]; exact g7⟩⟩
        · skip
          refine j_iconst h 43 rfl (nI 0) (by decide) dX0_find_42 ?_
          refine j_istore h 45 rfl rfl dX0_find_43 ?_
          have L2 : ∀ (n3 b : Nat) (M3 : hM), 24 - b < n3 → b ≤ 24 → bcI M (24 * a + b) M3 → J X 45 [some (.ref 78), some (.ref 14), some (.ref 29), some (.ref 59), some (.int (nI a)), some (.int (nI b))] [] M3 := by
            intro n3
            induction n3 with
            | zero => intro b M3 g1; omega
            | succ n3 ih3 =>
              intro b M3 g1 g2 hI3
              refine j_iload h 47 rfl rfl dX0_find_45 ?_
              refine j_bipush h 49 rfl (nI 24) (by decide) dX0_find_47 ?_
              refine j_icmp_geN h 88 52 (by omega) (by omega) dX0_find_49 (by decide) rfl (fun c_49 => ?_) (fun c_49 => ?_)
              · skip
                refine j_iincN h 91 rfl rfl rfl dX0_find_88 ?_
                refine j_goto h 35 dX0_find_91 (by decide) ?_
                exact ih (a + 1) _ _ (by omega) (by omega) (by rw [show 24 * (a + 1) = 24 * a + b by omega]; exact hI3)
              · skip
                refine j_aload_n h 53 rfl rfl dX0_find_52 ?_
                refine j_iload h 55 rfl rfl dX0_find_53 ?_
                refine j_iload h 57 rfl rfl dX0_find_55 ?_
                refine j_callNI h 60 rfl lkX0_38 rfl (t_X10_hoursFrom _ _ _ (by omega) (by omega)) rfl rfl rfl dX0_find_57 ?_
                refine j_callVV h 63 rfl lkX0_42 sh_29 rfl rfl (t_X4_putAllByClock _ _) rfl rfl rfl dX0_find_60 (fun M6 hM6 => ?_)
                refine j_aload_n h 64 rfl rfl dX0_find_63 ?_
                refine j_aload_n h 65 rfl rfl dX0_find_64 ?_
                refine j_aload_n h 66 rfl rfl dX0_find_65 ?_
                refine j_callVV h 69 rfl lkX0_24 sh_59 rfl rfl (t_X1_run _ _ hc) rfl rfl rfl dX0_find_66 (fun M5 hM5 => ?_)
                refine j_aload_n h 70 rfl rfl dX0_find_69 ?_
                refine j_iload h 72 rfl rfl dX0_find_70 ?_
                refine j_iload h 74 rfl rfl dX0_find_72 ?_
                refine j_aload_n h 75 rfl rfl dX0_find_74 ?_
                refine j_aload_n h 76 rfl rfl dX0_find_75 ?_
                refine j_callVI h 79 rfl lkX0_30 sh_59 rfl rfl (t_X1_nightOfAll _ _ hc) rfl rfl rfl dX0_find_76 ?_
                refine j_callVV h 82 rfl lkX0_46 sh_78 rfl rfl (t_X0_keepBetter _ _ _ _ (by omega) (by omega)) rfl rfl rfl dX0_find_79 (fun M4 hM4 => ?_)
                subst hM4
                refine j_iincN h 85 rfl rfl rfl dX0_find_82 ?_
                refine j_goto h 45 dX0_find_85 (by decide) ?_
                exact ih3 (b + 1) _ (by omega) (by omega) (bcI_step (by omega) (by omega) hI3 hM6 hM5)
          exact L2 25 0 _ (by omega) (by omega) hI
    refine L1 25 0 _ _ (by omega) (by omega) ⟨fun a ha => ?_, ?_, ?_, fun z => by omega⟩
    · rw [mu_f (by omega), hM7.1 a (by omega), hM8.1 a (by omega)]; exact hM9.1 a (by omega)
    · have g0 := (pl_gls hM9.2 hM8)
      refine ⟨fun a ha hb => ?_, ?_, ?_, fun r hr9 => ⟨?_, fun j hj => ?_⟩, fun n hn => ?_⟩
      · rw [mu_f (by omega), hM7.1 a (by omega)]; exact (g0.1 a ha hb).trans (setC_n (by omega))
      · rw [mu_f (by omega), hM7.1 29 (by omega)]; exact g0.2.1
      · rw [mu_f (by omega), hM7.1 29 (by omega)]; exact g0.2.2.1
      · rw [mu_f (by omega), hM7.1 32 (by omega)]; exact (g0.2.2.2.1 r hr9).2.2.1
      · rw [mu_f (by omega), hM7.1 (34 + r) (by omega)]; exact ((g0.2.2.2.1 r hr9).2.2.2 j hj).trans (congrFun (setC_n (by omega)) j)
      · rw [mu_f (by omega), hM7.1 39 (by omega)]; exact g0.2.2.2.2 n hn
    · rw [mu_s]
      exact crs_all (run_crs (pl_gls hM9.2 hM8) hM7) (fun r hr9 => by rw [hM7.1 15 (by omega)]; exact congrFun ((pl_gls hM9.2 hM8).1 15 (by decide) (by decide)) r)
  · skip
    exact j_vret h hr dX0_find_7 ⟨rfl, Or.inl ⟨c_4, rfl⟩⟩
