/-! Rings -/
/-- a part of a set -/
def sb (s a : Nat) : Prop := s &&& a = s
theorem sb_bit {s a f : Nat} (h : sb s a) (hf : s.testBit f = true) : a.testBit f = true := by
  have e : (s &&& a).testBit f = s.testBit f := by rw [h]
  rw [Nat.testBit_and, hf, Bool.true_and] at e
  exact e
theorem sb_rem {s a f : Nat} (h : sb s a) (hf : s.testBit f = true) : sb (s ^^^ 2 ^ f) a := by
  apply Nat.eq_of_testBit_eq
  intro i
  rw [Nat.testBit_and, Nat.testBit_xor]
  by_cases e : f = i
  · subst e
    rw [hf, Nat.testBit_two_pow_self]; rfl
  · rw [Nat.testBit_two_pow_of_ne e, Bool.xor_false]
    cases h9 : s.testBit i with
    | false => rfl
    | true => rw [sb_bit h h9]; rfl
theorem sb_self (a : Nat) : sb a a := Nat.and_self a
/-- told flats as a set -/
def tsN (wt : Nat → Nat) : Nat → Nat
  | 0 => 0
  | f + 1 => if 0 < wt f then tsN wt f + 2 ^ f else tsN wt f
theorem tsN_lt {wt : Nat → Nat} : ∀ f, tsN wt f < 2 ^ f
  | 0 => by show (0 : Nat) < 2 ^ 0; decide
  | f + 1 => by
    have := tsN_lt (wt := wt) f
    rw [tsN, Nat.pow_succ]
    by_cases h : 0 < wt f
    · rw [if_pos h]; omega
    · rw [if_neg h]; omega
/-- the first of the least among a set's members; 8: none -/
def foS (c : Nat → Nat) (s : Nat) : Nat → Nat
  | 0 => 8
  | f + 1 => if s.testBit f = true ∧ (foS c s f = 8 ∨ c f < c (foS c s f)) then f else foS c s f
theorem foS_in {c : Nat → Nat} {s : Nat} : ∀ n, n ≤ 8 → foS c s n = 8 ∨ (foS c s n < n ∧ s.testBit (foS c s n) = true)
  | 0, _ => Or.inl rfl
  | n + 1, h => by
    rw [foS]
    by_cases q : s.testBit n = true ∧ (foS c s n = 8 ∨ c n < c (foS c s n))
    · rw [if_pos q]; exact Or.inr ⟨Nat.lt_succ_self n, q.1⟩
    · rw [if_neg q]
      rcases foS_in (c := c) (s := s) n (by omega) with z | z
      · exact Or.inl z
      · exact Or.inr ⟨by omega, z.2⟩
theorem foS_8 {c : Nat → Nat} {s : Nat} : ∀ n, n ≤ 8 → foS c s n = 8 → ∀ f, f < n → s.testBit f = false
  | 0, _, _, f, hf => absurd hf (Nat.not_lt_zero f)
  | n + 1, h, e, f, hf => by
    rw [foS] at e
    by_cases q : s.testBit n = true ∧ (foS c s n = 8 ∨ c n < c (foS c s n))
    · rw [if_pos q] at e; omega
    · rw [if_neg q] at e
      by_cases hfn : f = n
      · subst hfn
        cases z : s.testBit f with
        | false => rfl
        | true => exact absurd ⟨z, Or.inl e⟩ q
      · exact foS_8 n (by omega) e f (by omega)
theorem foS_ne {c : Nat → Nat} {s : Nat} (hs : s < 256) (h0 : ¬ s = 0) : foS c s 8 < 8 ∧ s.testBit (foS c s 8) = true := by
  rcases foS_in (c := c) (s := s) 8 (Nat.le_refl 8) with z | z
  · exact absurd (rb_none s hs (foS_8 8 (Nat.le_refl 8) z)) h0
  · exact z
theorem foS_cg {c d : Nat → Nat} {s : Nat} : ∀ n, n ≤ 8 → (∀ f, f < n → s.testBit f = true → c f = d f) → foS c s n = foS d s n
  | 0, _, _ => rfl
  | n + 1, h, hc => by
    have ih := foS_cg n (by omega) (fun f hf => hc f (by omega))
    rw [foS, foS, ih]
    by_cases hb : s.testBit n = true
    · have e1 := hc n (by omega) hb
      rcases foS_in (c := d) (s := s) n (by omega) with z | z
      · simp only [z, hb, true_or, and_self]
      · have e2 := hc (foS d s n) (by omega) z.2
        rw [e1, e2]
    · simp only [hb, false_and, if_false]; simp
def tmS (du : Nat → Nat) (f w : Nat) : Nat := if du f < w then w + 10 else w
/-- what is lost at least by the set s of n flats, if they are the last of a -/
def LL (wt du : Nat → Nat) (a : Nat) : Nat → Nat → Nat
  | 0, _ => 0
  | n + 1, s => wt (foS (fun f => wt f * tmS du f (pc a - pc s + 1) + LL wt du a n (s ^^^ 2 ^ f)) s 8) * tmS du (foS (fun f => wt f * tmS du f (pc a - pc s + 1) + LL wt du a n (s ^^^ 2 ^ f)) s 8) (pc a - pc s + 1) + LL wt du a n (s ^^^ 2 ^ (foS (fun f => wt f * tmS du f (pc a - pc s + 1) + LL wt du a n (s ^^^ 2 ^ f)) s 8))
/-- what is lost by s, if f goes first -/
def cF (wt du : Nat → Nat) (a s f : Nat) : Nat := wt f * tmS du f (pc a - pc s + 1) + LL wt du a (pc s - 1) (s ^^^ 2 ^ f)
def fO (wt du : Nat → Nat) (a s : Nat) : Nat := foS (cF wt du a s) s 8
theorem LL_eq {wt du : Nat → Nat} {a s : Nat} (hs : s < 256) (h0 : ¬ s = 0) : LL wt du a (pc s) s = cF wt du a s (fO wt du a s) := by
  have h1 := (rb_pc s hs).2
  have h2 : pc s = (pc s - 1) + 1 := by omega
  conv => lhs; rw [h2]
  rw [LL]
  rfl
theorem LL_b {wt du : Nat → Nat} {a : Nat} (ha : a < 256) (hw : ∀ f, f < 8 → wt f ≤ 99) : ∀ n s, s < 256 → pc s = n → LL wt du a n s ≤ 1800 * n
  | 0, _, _, _ => Nat.le_refl 0
  | n + 1, s, hs, hp => by
    have h0 : ¬ s = 0 := fun z => by have := (rb_pc s hs).2.mpr z; omega
    have e := LL_eq (wt := wt) (du := du) (a := a) hs h0
    rw [hp] at e
    rw [e]
    unfold cF
    have h1 := foS_ne (c := cF wt du a s) hs h0
    have h2 : fO wt du a s < 8 := h1.1
    obtain ⟨-, r2, r3⟩ := rb_rem s hs _ h1.1 h1.2
    have r2' : s ^^^ 2 ^ fO wt du a s < s := r2
    have r3' : pc (s ^^^ 2 ^ fO wt du a s) + 1 = pc s := r3
    have ih := LL_b (du := du) ha hw n (s ^^^ 2 ^ fO wt du a s) (by omega) (by omega)
    have hw2 := hw _ h2
    have hp8 := (rb_pc a ha).1
    have ht : tmS du (fO wt du a s) (pc a - pc s + 1) ≤ 18 := by
      unfold tmS
      by_cases q : du (fO wt du a s) < pc a - pc s + 1
      · rw [if_pos q]; omega
      · rw [if_neg q]; omega
    have hm : wt (fO wt du a s) * tmS du (fO wt du a s) (pc a - pc s + 1) ≤ 99 * 18 := Nat.mul_le_mul hw2 ht
    rw [show pc s - 1 = n by omega]
    omega
theorem cF_b {wt du : Nat → Nat} {a s f : Nat} (ha : a < 256) (hs : s < 256) (hf : f < 8) (hw : ∀ f, f < 8 → wt f ≤ 99) (hb : s.testBit f = true) : cF wt du a s f ≤ 18000 := by
  unfold cF
  obtain ⟨-, r2, r3⟩ := rb_rem s hs f hf hb
  have h1 := LL_b (du := du) ha hw (pc s - 1) (s ^^^ 2 ^ f) (by omega) (by omega)
  have h2 := (rb_pc s hs).1
  have hp8 := (rb_pc a ha).1
  have ht : tmS du f (pc a - pc s + 1) ≤ 18 := by
    unfold tmS
    by_cases q : du f < pc a - pc s + 1
    · rw [if_pos q]; omega
    · rw [if_neg q]; omega
  have hm : wt f * tmS du f (pc a - pc s + 1) ≤ 99 * 18 := Nat.mul_le_mul (hw f hf) ht
  have : 1800 * (pc s - 1) ≤ 1800 * 7 := Nat.mul_le_mul_left _ (by omega)
  omega
def bI (x : Nat) : Int32 := if x = 8 then -1 else nI x
/-- flats as they are told, in the class's cells -/
def flE (M : hM) (wt du : Nat → Nat) : Prop := ∀ f, f < 8 → M 89 f = nI (wt f) ∧ wt f ≤ 99 ∧ M 90 f = nI (du f) ∧ du f ≤ 8
def llE (M : hM) (wt du : Nat → Nat) (a n : Nat) : Prop := ∀ s, s < n → sb s a → M 91 s = nI (LL wt du a (pc s) s)

set_option maxRecDepth 100000 in
set_option maxHeartbeats 4000000 in
theorem t_J6_bitCount_0f7a4 (M : hM) (s : Nat) (hs : s < 256) : Ct 1 mJ6_bitCount_0f7a4 [.int (nI s)] M (pI (nI (pc s)) M) := by
  refine ct_of (lv := [some (.int (nI s))]) (by decide +kernel) (fun _ _ hq => hq) rfl (fun _ => Nat.le_of_ble_eq_true rfl) (fun X h hr => ?_)
  refine j_iload_n h 1 rfl rfl dJ6_bitCount_0f7a4_0 ?_
  refine j_iload_n h 2 rfl rfl dJ6_bitCount_0f7a4_1 ?_
  refine j_iconst h 3 rfl (nI 1) (by decide) dJ6_bitCount_0f7a4_2 ?_
  refine j_iushr h 4 rfl dJ6_bitCount_0f7a4_3 ?_
  refine j_ldcw h 7 rfl (nI 1431655765) cnJ6_265 dJ6_bitCount_0f7a4_4 ?_
  refine j_iand h 8 rfl dJ6_bitCount_0f7a4_7 ?_
  refine j_isub h 9 rfl dJ6_bitCount_0f7a4_8 ?_
  refine j_istore_n h 10 rfl rfl dJ6_bitCount_0f7a4_9 ?_
  refine j_iload_n h 11 rfl rfl dJ6_bitCount_0f7a4_10 ?_
  refine j_ldcw h 14 rfl (nI 858993459) cnJ6_266 dJ6_bitCount_0f7a4_11 ?_
  refine j_iand h 15 rfl dJ6_bitCount_0f7a4_14 ?_
  refine j_iload_n h 16 rfl rfl dJ6_bitCount_0f7a4_15 ?_
  refine j_iconst h 17 rfl (nI 2) (by decide) dJ6_bitCount_0f7a4_16 ?_
  refine j_iushr h 18 rfl dJ6_bitCount_0f7a4_17 ?_
  refine j_ldcw h 21 rfl (nI 858993459) cnJ6_266 dJ6_bitCount_0f7a4_18 ?_
  refine j_iand h 22 rfl dJ6_bitCount_0f7a4_21 ?_
  refine j_iadd h 23 rfl dJ6_bitCount_0f7a4_22 ?_
  refine j_istore_n h 24 rfl rfl dJ6_bitCount_0f7a4_23 ?_
  refine j_iload_n h 25 rfl rfl dJ6_bitCount_0f7a4_24 ?_
  refine j_iload_n h 26 rfl rfl dJ6_bitCount_0f7a4_25 ?_
  refine j_iconst h 27 rfl (nI 4) (by decide) dJ6_bitCount_0f7a4_26 ?_
  refine j_iushr h 28 rfl dJ6_bitCount_0f7a4_27 ?_
  refine j_iadd h 29 rfl dJ6_bitCount_0f7a4_28 ?_
  refine j_ldcw h 32 rfl (nI 252645135) cnJ6_267 dJ6_bitCount_0f7a4_29 ?_
  refine j_iand h 33 rfl dJ6_bitCount_0f7a4_32 ?_
  refine j_istore_n h 34 rfl rfl dJ6_bitCount_0f7a4_33 ?_
  refine j_iload_n h 35 rfl rfl dJ6_bitCount_0f7a4_34 ?_
  refine j_iload_n h 36 rfl rfl dJ6_bitCount_0f7a4_35 ?_
  refine j_bipush h 38 rfl (nI 8) (by decide) dJ6_bitCount_0f7a4_36 ?_
  refine j_iushr h 39 rfl dJ6_bitCount_0f7a4_38 ?_
  refine j_iadd h 40 rfl dJ6_bitCount_0f7a4_39 ?_
  refine j_istore_n h 41 rfl rfl dJ6_bitCount_0f7a4_40 ?_
  refine j_iload_n h 42 rfl rfl dJ6_bitCount_0f7a4_41 ?_
  refine j_iload_n h 43 rfl rfl dJ6_bitCount_0f7a4_42 ?_
  refine j_bipush h 45 rfl (nI 16) (by decide) dJ6_bitCount_0f7a4_43 ?_
  refine j_iushr h 46 rfl dJ6_bitCount_0f7a4_45 ?_
  refine j_iadd h 47 rfl dJ6_bitCount_0f7a4_46 ?_
  refine j_istore_n h 48 rfl rfl dJ6_bitCount_0f7a4_47 ?_
  refine j_iload_n h 49 rfl rfl dJ6_bitCount_0f7a4_48 ?_
  refine j_bipush h 51 rfl (nI 63) (by decide) dJ6_bitCount_0f7a4_49 ?_
  refine j_iand h 52 rfl dJ6_bitCount_0f7a4_51 ?_
  exact j_ret h hr rfl dJ6_bitCount_0f7a4_52 ⟨congrArg (fun z => some (Value.int z)) (by exact bcE_pc s hs), rfl⟩
set_option maxRecDepth 100000 in
set_option maxHeartbeats 4000000 in
theorem t_X6_tell (M : hM) (f : Nat) (w d : Int32) (hf : f < 8) : Ct 1 mX6_tell [.ref 88, .int (nI f), .int w, .int d] M (pV (fun M2 => M2 = mu (mu M 89 f w) 90 f d)) := by
  refine ct_of (lv := [some (.ref 88), some (.int (nI f)), some (.int w), some (.int d)]) (by decide +kernel) (fun _ _ hq => hq) rfl (fun _ => Nat.le_of_ble_eq_true rfl) (fun X h hr => ?_)
  refine j_aload_n h 1 rfl rfl dX6_tell_0 ?_
  refine j_getR h 4 rfl glX6_11 sh_88 rfl dX6_tell_1 ?_
  refine j_iload_n h 5 rfl rfl dX6_tell_4 ?_
  refine j_iload_n h 6 rfl rfl dX6_tell_5 ?_
  refine j_iast h 7 rfl sh_89 _ rfl (by omega) rfl dX6_tell_6 ?_
  refine j_aload_n h 8 rfl rfl dX6_tell_7 ?_
  refine j_getR h 11 rfl glX6_15 sh_88 rfl dX6_tell_8 ?_
  refine j_iload_n h 12 rfl rfl dX6_tell_11 ?_
  refine j_iload_n h 13 rfl rfl dX6_tell_12 ?_
  refine j_iast h 14 rfl sh_90 _ rfl (by omega) rfl dX6_tell_13 ?_
  exact j_vret h hr dX6_tell_14 ⟨rfl, rfl⟩
set_option maxRecDepth 100000 in
set_option maxHeartbeats 4000000 in
theorem t_X6_toldSet (M : hM) (wt du : Nat → Nat) (hfl : flE M wt du) : Ct 1 mX6_toldSet [.ref 88] M (pI (nI (tsN wt 8)) M) := by
  refine ct_of (lv := [some (.ref 88), none, none]) (by decide +kernel) (fun _ _ hq => hq) rfl (fun _ => Nat.le_of_ble_eq_true rfl) (fun X h hr => ?_)
  refine j_iconst h 1 rfl (nI 0) (by decide) dX6_toldSet_0 ?_
  refine j_istore_n h 2 rfl rfl dX6_toldSet_1 ?_
  refine j_iconst h 3 rfl (nI 0) (by decide) dX6_toldSet_2 ?_
  refine j_istore_n h 4 rfl rfl dX6_toldSet_3 ?_
  have L : ∀ (n i : Nat) (x : Int32), 8 - i < n → i ≤ 8 → x = nI (tsN wt i) → J X 4 [some (.ref 88), some (.int x), some (.int (nI i))] [] M := by
    intro n
    induction n with
    | zero => intro i x h1; omega
    | succ n ih =>
      intro i x h1 h2 hx
      subst hx
      refine j_iload_n h 5 rfl rfl dX6_toldSet_4 ?_
      refine j_bipush h 7 rfl (nI 8) (by decide) dX6_toldSet_5 ?_
      refine j_icmp_geN h 31 10 (by omega) (by omega) dX6_toldSet_7 (by decide) rfl (fun c_7 => ?_) (fun c_7 => ?_)
      · skip
        refine j_iload_n h 32 rfl rfl dX6_toldSet_31 ?_
        exact j_ret h hr rfl dX6_toldSet_32 ⟨congrArg (fun z => some (Value.int z)) (by rw [show i = 8 by omega]), rfl⟩
      · skip
        refine j_aload_n h 11 rfl rfl dX6_toldSet_10 ?_
        refine j_getR h 14 rfl glX6_11 sh_88 rfl dX6_toldSet_11 ?_
        refine j_iload_n h 15 rfl rfl dX6_toldSet_14 ?_
        refine j_iald h 16 rfl sh_89 _ rfl (by omega) rfl dX6_toldSet_15 ?_
        obtain ⟨w1, w2, -, -⟩ := hfl i (by omega)
        refine j_top w1 ?_
        refine j_if_leN h 25 19 (by omega) dX6_toldSet_16 (by decide) rfl (fun c_16 => ?_) (fun c_16 => ?_)
        · skip
          refine j_iincN h 28 rfl rfl rfl dX6_toldSet_25 ?_
          refine j_goto h 4 dX6_toldSet_28 (by decide) ?_
          exact ih (i + 1) _ (by omega) (by omega) (by first | (rw [tsN, if_pos (by omega)]; exact rb_or i (by omega) _ (tsN_lt i)) | rw [tsN, if_neg (by omega)])
        · skip
          refine j_iload_n h 20 rfl rfl dX6_toldSet_19 ?_
          refine j_iconst h 21 rfl (nI 1) (by decide) dX6_toldSet_20 ?_
          refine j_iload_n h 22 rfl rfl dX6_toldSet_21 ?_
          refine j_ishl h 23 rfl dX6_toldSet_22 ?_
          refine j_ior h 24 rfl dX6_toldSet_23 ?_
          refine j_istore_n h 25 rfl rfl dX6_toldSet_24 ?_
          refine j_iincN h 28 rfl rfl rfl dX6_toldSet_25 ?_
          refine j_goto h 4 dX6_toldSet_28 (by decide) ?_
          exact ih (i + 1) _ (by omega) (by omega) (by first | (rw [tsN, if_pos (by omega)]; exact rb_or i (by omega) _ (tsN_lt i)) | rw [tsN, if_neg (by omega)])
  exact L 9 0 _ (by omega) (by omega) rfl
set_option maxRecDepth 100000 in
set_option maxHeartbeats 4000000 in
theorem t_X6_toldFlats (M : hM) (wt du : Nat → Nat) (hfl : flE M wt du) : Ct 2 mX6_toldFlats [.ref 88] M (pI (nI (pc (tsN wt 8))) M) := by
  refine ct_of (lv := [some (.ref 88)]) (by decide +kernel) (fun _ _ hq => hq) rfl (fun _ => Nat.le_of_ble_eq_true rfl) (fun X h hr => ?_)
  have ht := tsN_lt (wt := wt) 8
  refine j_aload_n h 1 rfl rfl dX6_toldFlats_0 ?_
  refine j_callVI h 4 rfl lkX6_21 sh_88 rfl rfl (t_X6_toldSet _ wt du hfl) rfl rfl rfl dX6_toldFlats_1 ?_
  refine j_callSI h 7 rfl lkX6_25 rfl (t_J6_bitCount_0f7a4 _ _ (by omega)) rfl rfl rfl dX6_toldFlats_4 ?_
  exact j_ret h hr rfl dX6_toldFlats_7 ⟨rfl, rfl⟩
set_option maxRecDepth 100000 in
set_option maxHeartbeats 4000000 in
theorem t_X6_lostBy (M : hM) (wt du : Nat → Nat) (hfl : flE M wt du) (a s : Nat) (ha : a < 256) (hs : s < 256) (hsb : sb s a) (hll : llE M wt du a s) (f : Nat) (hf : f < 8) (hb : s.testBit f = true) : Ct 2 mX6_lostBy [.ref 88, .int (nI s), .int (nI f), .int (nI a)] M (pI (nI (cF wt du a s f)) M) := by
  refine ct_of (lv := [some (.ref 88), some (.int (nI s)), some (.int (nI f)), some (.int (nI a)), none, none]) (by decide +kernel) (fun _ _ hq => hq) rfl (fun _ => Nat.le_of_ble_eq_true rfl) (fun X h hr => ?_)
  have hp := sb_pc s hs a ha hsb
  have hp2 := (rb_pc a ha).1
  obtain ⟨w1, w2, w3, w4⟩ := hfl f hf
  obtain ⟨r1, r2, r3⟩ := rb_rem s hs f hf hb
  refine j_iload_n h 1 rfl rfl dX6_lostBy_0 ?_
  refine j_callSI h 4 rfl lkX6_25 rfl (t_J6_bitCount_0f7a4 _ _ ha) rfl rfl rfl dX6_lostBy_1 ?_
  refine j_iload_n h 5 rfl rfl dX6_lostBy_4 ?_
  refine j_callSI h 8 rfl lkX6_25 rfl (t_J6_bitCount_0f7a4 _ _ hs) rfl rfl rfl dX6_lostBy_5 ?_
  refine j_isubN h 9 rfl (by omega) dX6_lostBy_8 ?_
  refine j_iconst h 10 rfl (nI 1) (by decide) dX6_lostBy_9 ?_
  refine j_iaddN h 11 rfl dX6_lostBy_10 ?_
  refine j_istore h 13 rfl rfl dX6_lostBy_11 ?_
  have K34 : ∀ x, x = tmS du f (pc a - pc s + 1) → J X 34 [some (.ref 88), some (.int (nI s)), some (.int (nI f)), some (.int (nI a)), some (.int (nI (pc a - pc s + 1))), none] [.int (nI x)] M := by
    intro x hx
    subst hx
    refine j_istore h 36 rfl rfl dX6_lostBy_34 ?_
    refine j_aload_n h 37 rfl rfl dX6_lostBy_36 ?_
    refine j_getR h 40 rfl glX6_11 sh_88 rfl dX6_lostBy_37 ?_
    refine j_iload_n h 41 rfl rfl dX6_lostBy_40 ?_
    refine j_iald h 42 rfl sh_89 _ rfl (by omega) rfl dX6_lostBy_41 ?_
    refine j_top w1 ?_
    refine j_iload h 44 rfl rfl dX6_lostBy_42 ?_
    refine j_imulN h 45 rfl dX6_lostBy_44 ?_
    refine j_aload_n h 46 rfl rfl dX6_lostBy_45 ?_
    refine j_getR h 49 rfl glX6_18 sh_88 rfl dX6_lostBy_46 ?_
    refine j_iload_n h 50 rfl rfl dX6_lostBy_49 ?_
    refine j_iconst h 51 rfl (nI 1) (by decide) dX6_lostBy_50 ?_
    refine j_iload_n h 52 rfl rfl dX6_lostBy_51 ?_
    refine j_ishl h 53 rfl dX6_lostBy_52 ?_
    refine j_iconst h 54 rfl (-1) (by decide) dX6_lostBy_53 ?_
    refine j_ixor h 55 rfl dX6_lostBy_54 ?_
    refine j_iand h 56 rfl dX6_lostBy_55 ?_
    refine j_top r1 ?_
    refine j_iald h 57 rfl sh_91 (s ^^^ 2 ^ f) rfl (by omega) rfl dX6_lostBy_56 ?_
    rw [hll (s ^^^ 2 ^ f) r2 (sb_rem hsb hb)]
    refine j_iaddN h 58 rfl dX6_lostBy_57 ?_
    exact j_ret h hr rfl dX6_lostBy_58 ⟨congrArg (fun z => some (Value.int z)) (by unfold cF; rw [show pc s - 1 = pc (s ^^^ 2 ^ f) by omega]), rfl⟩
  refine j_iload h 15 rfl rfl dX6_lostBy_13 ?_
  refine j_aload_n h 16 rfl rfl dX6_lostBy_15 ?_
  refine j_getR h 19 rfl glX6_15 sh_88 rfl dX6_lostBy_16 ?_
  refine j_iload_n h 20 rfl rfl dX6_lostBy_19 ?_
  refine j_iald h 21 rfl sh_90 _ rfl (by omega) rfl dX6_lostBy_20 ?_
  refine j_top w3 ?_
  refine j_icmp_leN h 32 24 (by omega) (by omega) dX6_lostBy_21 (by decide) rfl (fun c_21 => ?_) (fun c_21 => ?_)
  · skip
    refine j_iload h 34 rfl rfl dX6_lostBy_32 ?_
    exact K34 _ (by unfold tmS; first | exact (if_pos (by omega)).symm | exact (if_neg (by omega)).symm)
  · skip
    refine j_iload h 26 rfl rfl dX6_lostBy_24 ?_
    refine j_bipush h 28 rfl (nI 10) (by decide) dX6_lostBy_26 ?_
    refine j_iaddN h 29 rfl dX6_lostBy_28 ?_
    refine j_goto h 34 dX6_lostBy_29 (by decide) ?_
    exact K34 _ (by unfold tmS; first | exact (if_pos (by omega)).symm | exact (if_neg (by omega)).symm)
set_option maxRecDepth 100000 in
set_option maxHeartbeats 4000000 in
theorem t_X6_firstOf (M : hM) (wt du : Nat → Nat) (hfl : flE M wt du) (a s : Nat) (ha : a < 256) (hs : s < 256) (hsb : sb s a) (hll : llE M wt du a s) : Ct 3 mX6_firstOf [.ref 88, .int (nI s), .int (nI a)] M (pI (bI (fO wt du a s)) M) := by
  refine ct_of (lv := [some (.ref 88), some (.int (nI s)), some (.int (nI a)), none, none]) (by decide +kernel) (fun _ _ hq => hq) rfl (fun _ => Nat.le_of_ble_eq_true rfl) (fun X h hr => ?_)
  refine j_iconst h 1 rfl (-1) (by decide) dX6_firstOf_0 ?_
  refine j_istore_n h 2 rfl rfl dX6_firstOf_1 ?_
  refine j_iconst h 3 rfl (nI 0) (by decide) dX6_firstOf_2 ?_
  refine j_istore h 5 rfl rfl dX6_firstOf_3 ?_
  have L : ∀ (n i : Nat), 8 - i < n → i ≤ 8 → J X 5 [some (.ref 88), some (.int (nI s)), some (.int (nI a)), some (.int (bI (foS (cF wt du a s) s i))), some (.int (nI i))] [] M := by
    intro n
    induction n with
    | zero => intro i h1; omega
    | succ n ih =>
      intro i h1 h2
      have hin := foS_in (c := cF wt du a s) (s := s) i h2
      refine j_iload h 7 rfl rfl dX6_firstOf_5 ?_
      refine j_bipush h 9 rfl (nI 8) (by decide) dX6_firstOf_7 ?_
      refine j_icmp_geN h 53 12 (by omega) (by omega) dX6_firstOf_9 (by decide) rfl (fun c_9 => ?_) (fun c_9 => ?_)
      · skip
        refine j_iload_n h 54 rfl rfl dX6_firstOf_53 ?_
        exact j_ret h hr rfl dX6_firstOf_54 ⟨congrArg (fun z => some (Value.int z)) (by rw [show i = 8 by omega]; rfl), rfl⟩
      · skip
        refine j_iload_n h 13 rfl rfl dX6_firstOf_12 ?_
        refine j_iload h 15 rfl rfl dX6_firstOf_13 ?_
        refine j_callNI h 18 rfl lkX6_39 rfl (t_X10_hasBit _ _ _) rfl rfl rfl dX6_firstOf_15 ?_
        refine j_if_eqB h 47 21 dX6_firstOf_18 (by decide) rfl (fun c_18 => ?_) (fun c_18 => ?_)
        · skip
          refine j_iincN h 50 rfl rfl rfl dX6_firstOf_47 ?_
          refine j_goto h 5 dX6_firstOf_50 (by decide) ?_
          have ih2 := ih (i + 1) (by omega) (by omega)
          rw [foS] at ih2
          first
            | (rw [if_neg (fun z => c_18 ((rb_bit s hs i (by omega)).mpr (And.left z)))] at ih2; exact ih2)
            | (rw [if_pos (And.intro ((rb_bit s hs i (by omega)).mp c_18) (Or.inl (e8 c_23)))] at ih2; unfold bI at ih2; rw [if_neg (by omega)] at ih2; exact ih2)
            | (rw [if_pos (And.intro ((rb_bit s hs i (by omega)).mp c_18) (Or.inr c_41))] at ih2; unfold bI at ih2; rw [if_neg (by omega)] at ih2; exact ih2)
            | (rw [if_neg (fun z => (And.right z).elim n8 (fun w => Nat.not_lt.mpr c_41 w))] at ih2; exact ih2)
        · skip
          refine j_iload_n h 22 rfl rfl dX6_firstOf_21 ?_
          refine j_iconst h 23 rfl (-1) (by decide) dX6_firstOf_22 ?_
          refine j_icmp_eq h 44 26 dX6_firstOf_23 (by decide) rfl (fun c_23 => ?_) (fun c_23 => ?_)
          · have e8 : bI (foS (cF wt du a s) s i) = -1 → foS (cF wt du a s) s i = 8 := fun z => by
              rcases hin with w | w
              · exact w
              · unfold bI at z; rw [if_neg (by omega)] at z; exact absurd (z.symm.trans rfl) (by have := nI_pos (show foS (cF wt du a s) s i < 2 ^ 31 by omega); intro q; rw [← q] at this; exact this (by decide))
            refine j_iload h 46 rfl rfl dX6_firstOf_44 ?_
            refine j_istore_n h 47 rfl rfl dX6_firstOf_46 ?_
            refine j_iincN h 50 rfl rfl rfl dX6_firstOf_47 ?_
            refine j_goto h 5 dX6_firstOf_50 (by decide) ?_
            have ih2 := ih (i + 1) (by omega) (by omega)
            rw [foS] at ih2
            first
              | (rw [if_neg (fun z => c_18 ((rb_bit s hs i (by omega)).mpr (And.left z)))] at ih2; exact ih2)
              | (rw [if_pos (And.intro ((rb_bit s hs i (by omega)).mp c_18) (Or.inl (e8 c_23)))] at ih2; unfold bI at ih2; rw [if_neg (by omega)] at ih2; exact ih2)
              | (rw [if_pos (And.intro ((rb_bit s hs i (by omega)).mp c_18) (Or.inr c_41))] at ih2; unfold bI at ih2; rw [if_neg (by omega)] at ih2; exact ih2)
              | (rw [if_neg (fun z => (And.right z).elim n8 (fun w => Nat.not_lt.mpr c_41 w))] at ih2; exact ih2)
          · have n8 : ¬ foS (cF wt du a s) s i = 8 := fun z => c_23 (by unfold bI; rw [if_pos z])
            have hin2 := hin.resolve_left n8
            have eI : bI (foS (cF wt du a s) s i) = nI (foS (cF wt du a s) s i) := by unfold bI; rw [if_neg n8]
            have bit_i := (rb_bit s hs i (by omega)).mp c_18
            have cb1 := cF_b (du := du) ha hs (show i < 8 by omega) (fun f hf => (hfl f hf).2.1) bit_i
            have cb2 := cF_b (du := du) ha hs (show foS (cF wt du a s) s i < 8 by omega) (fun f hf => (hfl f hf).2.1) hin2.2
            refine j_aload_n h 27 rfl rfl dX6_firstOf_26 ?_
            refine j_iload_n h 28 rfl rfl dX6_firstOf_27 ?_
            refine j_iload h 30 rfl rfl dX6_firstOf_28 ?_
            refine j_iload_n h 31 rfl rfl dX6_firstOf_30 ?_
            refine j_callVI h 34 rfl lkX6_35 sh_88 rfl rfl (t_X6_lostBy _ wt du hfl a s ha hs hsb hll i (by omega) bit_i) rfl rfl rfl dX6_firstOf_31 ?_
            refine j_aload_n h 35 rfl rfl dX6_firstOf_34 ?_
            refine j_iload_n h 36 rfl rfl dX6_firstOf_35 ?_
            refine j_iload_n h 37 rfl rfl dX6_firstOf_36 ?_
            refine j_top eI ?_
            refine j_iload_n h 38 rfl rfl dX6_firstOf_37 ?_
            refine j_callVI h 41 rfl lkX6_35 sh_88 rfl rfl (t_X6_lostBy _ wt du hfl a s ha hs hsb hll (foS (cF wt du a s) s i) (by omega) hin2.2) rfl rfl rfl dX6_firstOf_38 ?_
            refine j_icmp_geN h 47 44 (by omega) (by omega) dX6_firstOf_41 (by decide) rfl (fun c_41 => ?_) (fun c_41 => ?_)
            · skip
              refine j_iincN h 50 rfl rfl rfl dX6_firstOf_47 ?_
              refine j_goto h 5 dX6_firstOf_50 (by decide) ?_
              have ih2 := ih (i + 1) (by omega) (by omega)
              rw [foS] at ih2
              first
                | (rw [if_neg (fun z => c_18 ((rb_bit s hs i (by omega)).mpr (And.left z)))] at ih2; exact ih2)
                | (rw [if_pos (And.intro ((rb_bit s hs i (by omega)).mp c_18) (Or.inl (e8 c_23)))] at ih2; unfold bI at ih2; rw [if_neg (by omega)] at ih2; exact ih2)
                | (rw [if_pos (And.intro ((rb_bit s hs i (by omega)).mp c_18) (Or.inr c_41))] at ih2; unfold bI at ih2; rw [if_neg (by omega)] at ih2; exact ih2)
                | (rw [if_neg (fun z => (And.right z).elim n8 (fun w => Nat.not_lt.mpr c_41 w))] at ih2; exact ih2)
            · skip
              refine j_iload h 46 rfl rfl dX6_firstOf_44 ?_
              refine j_istore_n h 47 rfl rfl dX6_firstOf_46 ?_
              refine j_iincN h 50 rfl rfl rfl dX6_firstOf_47 ?_
              refine j_goto h 5 dX6_firstOf_50 (by decide) ?_
              have ih2 := ih (i + 1) (by omega) (by omega)
              rw [foS] at ih2
              first
                | (rw [if_neg (fun z => c_18 ((rb_bit s hs i (by omega)).mpr (And.left z)))] at ih2; exact ih2)
                | (rw [if_pos (And.intro ((rb_bit s hs i (by omega)).mp c_18) (Or.inl (e8 c_23)))] at ih2; unfold bI at ih2; rw [if_neg (by omega)] at ih2; exact ih2)
                | (rw [if_pos (And.intro ((rb_bit s hs i (by omega)).mp c_18) (Or.inr c_41))] at ih2; unfold bI at ih2; rw [if_neg (by omega)] at ih2; exact ih2)
                | (rw [if_neg (fun z => (And.right z).elim n8 (fun w => Nat.not_lt.mpr c_41 w))] at ih2; exact ih2)
  exact L 9 0 (by omega) (by omega)
