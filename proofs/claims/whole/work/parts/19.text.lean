/-! words, Text -/
theorem ws_len : ∀ i, i < 10 → nI (hLen.getD i 0) >>> ((0 : Int32) &&& 31) = nI (hLen.getD i 0) ∧ hLen.getD i 0 ≤ 5 := by decide +kernel
theorem ws_ch : ∀ i, i < 10 → ∀ k, k < 5 → ((((hByt.getD i []).getD k 0) &&& nI 255).toUInt32 % 65536).toInt32 = (hByt.getD i []).getD k 0 ∧ narrow .char (.int ((hByt.getD i []).getD k 0)) = .int ((hByt.getD i []).getD k 0) := by decide +kernel
def chW (i k : Nat) : Int32 := (hByt.getD i []).getD k 0
/-- on from p, as long as the bytes are such -/
def rn (Q : Int32 → Bool) (b : Nat → Int32) (L : Nat) : Nat → Nat → Nat
  | 0, p => p
  | n + 1, p => if p < L ∧ Q (b p) = true then rn Q b L n (p + 1) else p
theorem rn_stop {Q : Int32 → Bool} {b : Nat → Int32} {L p : Nat} (h : ¬ (p < L ∧ Q (b p) = true)) : ∀ n, rn Q b L n p = p
  | 0 => rfl
  | n + 1 => by rw [rn, if_neg h]
theorem rn_go {Q : Int32 → Bool} {b : Nat → Int32} {L p : Nat} (h1 : p < L) (h2 : Q (b p) = true) : rn Q b L (L - p) p = rn Q b L (L - (p + 1)) (p + 1) := by
  rw [show L - p = (L - (p + 1)) + 1 by omega, rn, if_pos ⟨h1, h2⟩]
theorem rn_le {Q : Int32 → Bool} {b : Nat → Int32} {L : Nat} : ∀ n p, p ≤ rn Q b L n p ∧ (p ≤ L → rn Q b L n p ≤ L)
  | 0, p => ⟨Nat.le_refl p, fun h => h⟩
  | n + 1, p => by
    rw [rn]
    by_cases h : p < L ∧ Q (b p) = true
    · rw [if_pos h]
      obtain ⟨h1, h2⟩ := rn_le (Q := Q) (b := b) (L := L) n (p + 1)
      exact ⟨by omega, fun _ => h2 (by omega)⟩
    · rw [if_neg h]; exact ⟨Nat.le_refl p, fun h => h⟩
theorem rn_end {Q : Int32 → Bool} {b : Nat → Int32} {L : Nat} : ∀ n p, L - p ≤ n → ¬ (rn Q b L n p < L ∧ Q (b (rn Q b L n p)) = true)
  | 0, p, h => by rw [rn]; omega
  | n + 1, p, h => by
    rw [rn]
    by_cases q : p < L ∧ Q (b p) = true
    · rw [if_pos q]; exact rn_end n (p + 1) (by omega)
    · rw [if_neg q]; exact q
theorem rn_all {Q : Int32 → Bool} {b : Nat → Int32} {L : Nat} : ∀ n p i, p ≤ i → i < rn Q b L n p → i < L ∧ Q (b i) = true
  | 0, p, i, h1, h2 => by rw [rn] at h2; omega
  | n + 1, p, i, h1, h2 => by
    rw [rn] at h2
    by_cases q : p < L ∧ Q (b p) = true
    · rw [if_pos q] at h2
      by_cases e : i = p
      · subst e; exact q
      · exact rn_all n (p + 1) i (by omega) h2
    · rw [if_neg q] at h2; omega
theorem rn_cg {Q : Int32 → Bool} {b c : Nat → Int32} {L : Nat} (h : ∀ i, i < L → b i = c i) : ∀ n p, rn Q b L n p = rn Q c L n p
  | 0, _ => rfl
  | n + 1, p => by
    rw [rn, rn]
    by_cases q : p < L
    · rw [h p q, rn_cg h n (p + 1)]
    · rw [if_neg (fun z => q z.1), if_neg (fun z => q z.1)]
def isB (x : Int32) : Bool := decide (x = nI 32)
def isL (x : Int32) : Bool := decide (inP x (nI 97) (nI 122))
def isD (x : Int32) : Bool := decide (inP x (nI 48) (nI 57))
def skB (b : Nat → Int32) (L p : Nat) : Nat := rn isB b L (L - p) p
def tkE (b : Nat → Int32) (L p : Nat) : Nat := if p < L then (if isL (b p) = true then rn isL b L (L - (p + 1)) (p + 1) else if isD (b p) = true then rn isD b L (L - (p + 1)) (p + 1) else p + 1) else p
theorem skB_le {b : Nat → Int32} {L p : Nat} (h : p ≤ L) : p ≤ skB b L p ∧ skB b L p ≤ L := ⟨(rn_le _ _).1, (rn_le _ _).2 h⟩
theorem tkE_le {b : Nat → Int32} {L p : Nat} (h : p ≤ L) : p ≤ tkE b L p ∧ tkE b L p ≤ L ∧ (p < L → p < tkE b L p) := by
  unfold tkE
  by_cases h1 : p < L
  · rw [if_pos h1]
    by_cases h2 : isL (b p) = true
    · rw [if_pos h2]
      have := rn_le (Q := isL) (b := b) (L := L) (L - (p + 1)) (p + 1)
      exact ⟨by omega, this.2 (by omega), fun _ => by omega⟩
    · rw [if_neg h2]
      by_cases h3 : isD (b p) = true
      · rw [if_pos h3]
        have := rn_le (Q := isD) (b := b) (L := L) (L - (p + 1)) (p + 1)
        exact ⟨by omega, this.2 (by omega), fun _ => by omega⟩
      · rw [if_neg h3]; exact ⟨by omega, by omega, fun _ => by omega⟩
  · rw [if_neg h1]; exact ⟨Nat.le_refl p, h, fun q => absurd q h1⟩
def spB (b : Nat → Int32) (f i : Nat) : Nat → Bool
  | 0 => true
  | k + 1 => spB b f i k && decide (b (f + k) = chW i k)
theorem spB_up {b : Nat → Int32} {f i k : Nat} (h : spB b f i k = false) : ∀ g, k ≤ g → spB b f i g = false := by
  intro g hg
  induction g with
  | zero => have : k = 0 := by omega
            subst this; exact h
  | succ g ih =>
    by_cases e : k = g + 1
    · subst e; exact h
    · rw [spB, ih (by omega)]; rfl
def mtB (b : Nat → Int32) (s e k : Nat) : Bool := decide (e - s = hLen.getD k 0) && spB b s k (hLen.getD k 0)
def nmS (b : Nat → Int32) (f : Nat) : Nat → Int32
  | 0 => nI 0
  | k + 1 => nmS b f k * nI 10 + b (f + k) - nI 48
def nuI (b : Nat → Int32) (f t : Nat) : Int32 := if 1 ≤ t - f ∧ t - f ≤ 3 ∧ isD (b f) = true then nmS b f (t - f) else -1

set_option maxRecDepth 100000 in
set_option maxHeartbeats 4000000 in
theorem t_J0_coder_7d493 (M : hM) (i : Nat) (hi : i < 10) : Ct 1 mJ0_coder_7d493 [.ref (500 + i)] M (pI (nI 0) M) := by
  refine ct_of (lv := [some (.ref (500 + i))]) (by decide +kernel) (fun _ _ hq => hq) rfl (fun _ => Nat.le_of_ble_eq_true rfl) (fun X h hr => ?_)
  refine j_cst h 3 rfl flJ0_38 dJ0_coder_7d493_0 ?_
  refine j_if_eq h 13 6 dJ0_coder_7d493_3 (by decide) rfl (fun c_3 => absurd c_3 (by decide)) (fun c_3 => ?_)
  refine j_aload_n h 7 rfl rfl dJ0_coder_7d493_6 ?_
  refine j_strC h 10 rfl hi flJ0_15 dJ0_coder_7d493_7 ?_
  refine j_goto h 14 dJ0_coder_7d493_10 (by decide) ?_
  exact j_ret h hr (by decide) dJ0_coder_7d493_14 ⟨rfl, rfl⟩
set_option maxRecDepth 100000 in
set_option maxHeartbeats 4000000 in
theorem t_J0_isLatin1_aae02 (M : hM) (i : Nat) (hi : i < 10) : Ct 1 mJ0_isLatin1_aae02 [.ref (500 + i)] M (pI (hb True) M) := by
  refine ct_of (lv := [some (.ref (500 + i))]) (by decide +kernel) (fun _ _ hq => hq) rfl (fun _ => Nat.le_of_ble_eq_true rfl) (fun X h hr => ?_)
  refine j_cst h 3 rfl flJ0_38 dJ0_isLatin1_aae02_0 ?_
  refine j_if_eq h 17 6 dJ0_isLatin1_aae02_3 (by decide) rfl (fun c_3 => absurd c_3 (by decide)) (fun c_3 => ?_)
  refine j_aload_n h 7 rfl rfl dJ0_isLatin1_aae02_6 ?_
  refine j_strC h 10 rfl hi flJ0_15 dJ0_isLatin1_aae02_7 ?_
  refine j_if_ne h 17 13 dJ0_isLatin1_aae02_10 (by decide) rfl (fun c_10 => absurd rfl c_10) (fun c_10 => ?_)
  refine j_iconst h 14 rfl (nI 1) (by decide) dJ0_isLatin1_aae02_13 ?_
  refine j_goto h 18 dJ0_isLatin1_aae02_14 (by decide) ?_
  exact j_ret h hr (by decide) dJ0_isLatin1_aae02_18 ⟨congrArg (fun z => some (Value.int z)) (by exact (hb_t trivial).symm), rfl⟩
set_option maxRecDepth 100000 in
set_option maxHeartbeats 4000000 in
theorem t_J0_length_8abf5 (M : hM) (i : Nat) (hi : i < 10) : Ct 2 mJ0_length_8abf5 [.ref (500 + i)] M (pI (nI (hLen.getD i 0)) M) := by
  refine ct_of (lv := [some (.ref (500 + i))]) (by decide +kernel) (fun _ _ hq => hq) rfl (fun _ => Nat.le_of_ble_eq_true rfl) (fun X h hr => ?_)
  refine j_aload_n h 1 rfl rfl dJ0_length_8abf5_0 ?_
  refine j_strV h 4 rfl hi flJ0_9 dJ0_length_8abf5_1 ?_
  refine j_strL h 5 rfl hi dJ0_length_8abf5_4 ?_
  refine j_aload_n h 6 rfl rfl dJ0_length_8abf5_5 ?_
  refine j_callTI h 9 rfl hi lkJ0_335 rfl rfl (t_J0_coder_7d493 _ _ hi) rfl rfl rfl dJ0_length_8abf5_6 ?_
  refine j_ishr h 10 rfl dJ0_length_8abf5_9 ?_
  exact j_ret h hr rfl dJ0_length_8abf5_10 ⟨congrArg (fun z => some (Value.int z)) (by exact (ws_len i hi).1), rfl⟩
set_option maxRecDepth 100000 in
set_option maxHeartbeats 4000000 in
theorem t_J3_checkIndex_8e157 (M : hM) (k n : Nat) (v : Value) (hv : v.category = 1) (hk : k < n) (hn : n < 2 ^ 31) : Ct 1 mJ3_checkIndex_8e157 [.int (nI k), .int (nI n), v] M (pI (nI k) M) := by
  refine ct_of (lv := [some (.int (nI k)), some (.int (nI n)), some (v)]) (by decide +kernel) (fun ρ q hq => by simpa [lvc, lv_args, cv, Value.category] using hq) rfl (fun ρ => by show (lg_sl [Value.int (nI k), Value.int (nI n), cv ρ v]).length ≤ 3; have e : (cv ρ v).category = 1 := (cv_cat ρ v).trans hv; generalize cv ρ v = u at e ⊢; cases u <;> first | exact Nat.le_of_ble_eq_true rfl | cases e) (fun X h hr => ?_)
  refine j_iload_n h 1 rfl rfl dJ3_checkIndex_8e157_0 ?_
  refine j_if_ltN h 9 4 (by omega) dJ3_checkIndex_8e157_1 (by decide) rfl (fun c_1 => c_1.elim) (fun c_1 => ?_)
  refine j_iload_n h 5 rfl rfl dJ3_checkIndex_8e157_4 ?_
  refine j_iload_n h 6 rfl rfl dJ3_checkIndex_8e157_5 ?_
  refine j_icmp_ltN h 16 9 (by omega) (by omega) dJ3_checkIndex_8e157_6 (by decide) rfl (fun c_6 => ?_) (fun c_6 => by omega)
  refine j_iload_n h 17 rfl rfl dJ3_checkIndex_8e157_16 ?_
  exact j_ret h hr rfl dJ3_checkIndex_8e157_17 ⟨rfl, rfl⟩
set_option maxRecDepth 100000 in
set_option maxHeartbeats 4000000 in
theorem t_J0_checkIndex_df160 (M : hM) (k n : Nat) (hk : k < n) (hn : n < 2 ^ 31) : Ct 2 mJ0_checkIndex_df160 [.int (nI k), .int (nI n)] M (pV (fun M2 => M2 = M)) := by
  refine ct_of (lv := [some (.int (nI k)), some (.int (nI n))]) (by decide +kernel) (fun _ _ hq => hq) rfl (fun _ => Nat.le_of_ble_eq_true rfl) (fun X h hr => ?_)
  refine j_iload_n h 1 rfl rfl dJ0_checkIndex_df160_0 ?_
  refine j_iload_n h 2 rfl rfl dJ0_checkIndex_df160_1 ?_
  refine j_fmt h 5 rfl flJ0_1053 dJ0_checkIndex_df160_2 (fun v9 hv9 => ?_)
  refine j_callSI h 8 rfl lkJ0_1059 rfl (t_J3_checkIndex_8e157 _ _ _ _ hv9 hk hn) rfl rfl rfl dJ0_checkIndex_df160_5 ?_
  refine j_pop h 9 rfl rfl dJ0_checkIndex_df160_8 ?_
  exact j_vret h hr dJ0_checkIndex_df160_9 ⟨rfl, rfl⟩
set_option maxRecDepth 100000 in
set_option maxHeartbeats 4000000 in
theorem t_J1_charAt_3b067 (M : hM) (i k : Nat) (hi : i < 10) (hk : k < hLen.getD i 0) : Ct 3 mJ1_charAt_3b067 [.ref (520 + i), .int (nI k)] M (pI (chW i k) M) := by
  refine ct_of (lv := [some (.ref (520 + i)), some (.int (nI k))]) (by decide +kernel) (fun _ _ hq => hq) rfl (fun _ => Nat.le_of_ble_eq_true rfl) (fun X h hr => ?_)
  have h5 := (ws_len i hi).2
  refine j_iload_n h 1 rfl rfl dJ1_charAt_3b067_0 ?_
  refine j_aload_n h 2 rfl rfl dJ1_charAt_3b067_1 ?_
  refine j_strL h 3 rfl hi dJ1_charAt_3b067_2 ?_
  refine j_callSV h 6 rfl lkJ1_9 rfl (t_J0_checkIndex_df160 _ _ _ hk (by omega)) rfl rfl rfl dJ1_charAt_3b067_3 (fun M9 hM9 => ?_)
  subst hM9
  refine j_aload_n h 7 rfl rfl dJ1_charAt_3b067_6 ?_
  refine j_iload_n h 8 rfl rfl dJ1_charAt_3b067_7 ?_
  refine j_strB h 9 rfl hi k rfl hk (by omega) dJ1_charAt_3b067_8 ?_
  refine j_sipush h 12 rfl (nI 255) (by decide) dJ1_charAt_3b067_9 ?_
  refine j_iand h 13 rfl dJ1_charAt_3b067_12 ?_
  refine j_i2c h 14 rfl dJ1_charAt_3b067_13 ?_
  refine j_top (ws_ch i hi k (by omega)).1 ?_
  exact j_ret h hr (ws_ch i hi k (by omega)).2 dJ1_charAt_3b067_14 ⟨rfl, rfl⟩
set_option maxRecDepth 100000 in
set_option maxHeartbeats 4000000 in
theorem t_J0_charAt_5068e (M : hM) (i k : Nat) (hi : i < 10) (hk : k < hLen.getD i 0) : Ct 5 mJ0_charAt_5068e [.ref (500 + i), .int (nI k)] M (pI (chW i k) M) := by
  refine ct_of (lv := [some (.ref (500 + i)), some (.int (nI k))]) (by decide +kernel) (fun _ _ hq => hq) rfl (fun _ => Nat.le_of_ble_eq_true rfl) (fun X h hr => ?_)
  have h5 := (ws_len i hi).2
  refine j_aload_n h 1 rfl rfl dJ0_charAt_5068e_0 ?_
  refine j_callTI h 4 rfl hi lkJ0_492 rfl rfl (t_J0_isLatin1_aae02 _ _ hi) rfl rfl rfl dJ0_charAt_5068e_1 ?_
  refine j_if_eqB h 16 7 dJ0_charAt_5068e_4 (by decide) rfl (fun c_4 => absurd trivial c_4) (fun c_4 => ?_)
  refine j_aload_n h 8 rfl rfl dJ0_charAt_5068e_7 ?_
  refine j_strV h 11 rfl hi flJ0_9 dJ0_charAt_5068e_8 ?_
  refine j_iload_n h 12 rfl rfl dJ0_charAt_5068e_11 ?_
  refine j_callSI h 15 rfl lkJ0_495 rfl (t_J1_charAt_3b067 _ _ _ hi hk) rfl rfl rfl dJ0_charAt_5068e_12 ?_
  exact j_ret h hr (ws_ch i hi k (by omega)).2 dJ0_charAt_5068e_15 ⟨rfl, rfl⟩
set_option maxRecDepth 100000 in
set_option maxHeartbeats 4000000 in
theorem t_X8_isLetter (M : hM) (x : Int32) : Ct 1 mX8_isLetter [.int x] M (pI (hb (inP x (nI 97) (nI 122))) M) := by
  refine ct_of (lv := [some (.int x)]) (by decide +kernel) (fun _ _ hq => hq) rfl (fun _ => Nat.le_of_ble_eq_true rfl) (fun X h hr => ?_)
  refine j_iload_n h 1 rfl rfl dX8_isLetter_0 ?_
  refine j_bipush h 3 rfl (nI 97) (by decide) dX8_isLetter_1 ?_
  refine j_icmp_lt h 16 6 dX8_isLetter_3 (by decide) rfl (fun c_3 => ?_) (fun c_3 => ?_)
  · skip
    refine j_iconst h 17 rfl (nI 0) (by decide) dX8_isLetter_16 ?_
    exact j_ret h hr (by decide) dX8_isLetter_17 ⟨congrArg (fun z => some (Value.int z)) (by first | (rw [hb_t]; rfl; (simp only [inP, Int32.lt_iff_toInt_lt, Int32.le_iff_toInt_le] at *; omega)) | (rw [hb_f]; rfl; (simp only [inP, Int32.lt_iff_toInt_lt, Int32.le_iff_toInt_le] at *; omega))), rfl⟩
  · skip
    refine j_iload_n h 7 rfl rfl dX8_isLetter_6 ?_
    refine j_bipush h 9 rfl (nI 122) (by decide) dX8_isLetter_7 ?_
    refine j_icmp_gt h 16 12 dX8_isLetter_9 (by decide) rfl (fun c_9 => ?_) (fun c_9 => ?_)
    · skip
      refine j_iconst h 17 rfl (nI 0) (by decide) dX8_isLetter_16 ?_
      exact j_ret h hr (by decide) dX8_isLetter_17 ⟨congrArg (fun z => some (Value.int z)) (by first | (rw [hb_t]; rfl; (simp only [inP, Int32.lt_iff_toInt_lt, Int32.le_iff_toInt_le] at *; omega)) | (rw [hb_f]; rfl; (simp only [inP, Int32.lt_iff_toInt_lt, Int32.le_iff_toInt_le] at *; omega))), rfl⟩
    · skip
      refine j_iconst h 13 rfl (nI 1) (by decide) dX8_isLetter_12 ?_
      refine j_goto h 17 dX8_isLetter_13 (by decide) ?_
      exact j_ret h hr (by decide) dX8_isLetter_17 ⟨congrArg (fun z => some (Value.int z)) (by first | (rw [hb_t]; rfl; (simp only [inP, Int32.lt_iff_toInt_lt, Int32.le_iff_toInt_le] at *; omega)) | (rw [hb_f]; rfl; (simp only [inP, Int32.lt_iff_toInt_lt, Int32.le_iff_toInt_le] at *; omega))), rfl⟩
set_option maxRecDepth 100000 in
set_option maxHeartbeats 4000000 in
theorem t_X8_isDigit (M : hM) (x : Int32) : Ct 1 mX8_isDigit [.int x] M (pI (hb (inP x (nI 48) (nI 57))) M) := by
  refine ct_of (lv := [some (.int x)]) (by decide +kernel) (fun _ _ hq => hq) rfl (fun _ => Nat.le_of_ble_eq_true rfl) (fun X h hr => ?_)
  refine j_iload_n h 1 rfl rfl dX8_isDigit_0 ?_
  refine j_bipush h 3 rfl (nI 48) (by decide) dX8_isDigit_1 ?_
  refine j_icmp_lt h 16 6 dX8_isDigit_3 (by decide) rfl (fun c_3 => ?_) (fun c_3 => ?_)
  · skip
    refine j_iconst h 17 rfl (nI 0) (by decide) dX8_isDigit_16 ?_
    exact j_ret h hr (by decide) dX8_isDigit_17 ⟨congrArg (fun z => some (Value.int z)) (by first | (rw [hb_t]; rfl; (simp only [inP, Int32.lt_iff_toInt_lt, Int32.le_iff_toInt_le] at *; omega)) | (rw [hb_f]; rfl; (simp only [inP, Int32.lt_iff_toInt_lt, Int32.le_iff_toInt_le] at *; omega))), rfl⟩
  · skip
    refine j_iload_n h 7 rfl rfl dX8_isDigit_6 ?_
    refine j_bipush h 9 rfl (nI 57) (by decide) dX8_isDigit_7 ?_
    refine j_icmp_gt h 16 12 dX8_isDigit_9 (by decide) rfl (fun c_9 => ?_) (fun c_9 => ?_)
    · skip
      refine j_iconst h 17 rfl (nI 0) (by decide) dX8_isDigit_16 ?_
      exact j_ret h hr (by decide) dX8_isDigit_17 ⟨congrArg (fun z => some (Value.int z)) (by first | (rw [hb_t]; rfl; (simp only [inP, Int32.lt_iff_toInt_lt, Int32.le_iff_toInt_le] at *; omega)) | (rw [hb_f]; rfl; (simp only [inP, Int32.lt_iff_toInt_lt, Int32.le_iff_toInt_le] at *; omega))), rfl⟩
    · skip
      refine j_iconst h 13 rfl (nI 1) (by decide) dX8_isDigit_12 ?_
      refine j_goto h 17 dX8_isDigit_13 (by decide) ?_
      exact j_ret h hr (by decide) dX8_isDigit_17 ⟨congrArg (fun z => some (Value.int z)) (by first | (rw [hb_t]; rfl; (simp only [inP, Int32.lt_iff_toInt_lt, Int32.le_iff_toInt_le] at *; omega)) | (rw [hb_f]; rfl; (simp only [inP, Int32.lt_iff_toInt_lt, Int32.le_iff_toInt_le] at *; omega))), rfl⟩
set_option maxRecDepth 100000 in
set_option maxHeartbeats 4000000 in
theorem t_X8_length (M : hM) : Ct 1 mX8_length [.ref 1] M (pI (M 1 1) M) := by
  refine ct_of (lv := [some (.ref 1)]) (by decide +kernel) (fun _ _ hq => hq) rfl (fun _ => Nat.le_of_ble_eq_true rfl) (fun X h hr => ?_)
  refine j_aload_n h 1 rfl rfl dX8_length_0 ?_
  refine j_getI h 4 rfl glX8_15 sh_1 rfl dX8_length_1 ?_
  exact j_ret h hr rfl dX8_length_4 ⟨rfl, rfl⟩
set_option maxRecDepth 100000 in
set_option maxHeartbeats 4000000 in
theorem t_X8_hasSpaceFor (M : hM) (n : Nat) (L : Nat) (hL : L ≤ 200) (eL : M 1 1 = nI L) (hn : n ≤ 8) : Ct 1 mX8_hasSpaceFor [.ref 1, .int (nI n)] M (pI (hb (L + n ≤ 200)) M) := by
  refine ct_of (lv := [some (.ref 1), some (.int (nI n))]) (by decide +kernel) (fun _ _ hq => hq) rfl (fun _ => Nat.le_of_ble_eq_true rfl) (fun X h hr => ?_)
  refine j_aload_n h 1 rfl rfl dX8_hasSpaceFor_0 ?_
  refine j_getI h 4 rfl glX8_15 sh_1 rfl dX8_hasSpaceFor_1 ?_
  refine j_top eL ?_
  refine j_iload_n h 5 rfl rfl dX8_hasSpaceFor_4 ?_
  refine j_iaddN h 6 rfl dX8_hasSpaceFor_5 ?_
  refine j_sipush h 9 rfl (nI 200) (by decide) dX8_hasSpaceFor_6 ?_
  refine j_icmp_gtN h 16 12 (by omega) (by omega) dX8_hasSpaceFor_9 (by decide) rfl (fun c_9 => ?_) (fun c_9 => ?_)
  · skip
    refine j_iconst h 17 rfl (nI 0) (by decide) dX8_hasSpaceFor_16 ?_
    exact j_ret h hr (by decide) dX8_hasSpaceFor_17 ⟨congrArg (fun z => some (Value.int z)) (by first | (rw [hb_t]; rfl; omega) | (rw [hb_f]; rfl; omega)), rfl⟩
  · skip
    refine j_iconst h 13 rfl (nI 1) (by decide) dX8_hasSpaceFor_12 ?_
    refine j_goto h 17 dX8_hasSpaceFor_13 (by decide) ?_
    exact j_ret h hr (by decide) dX8_hasSpaceFor_17 ⟨congrArg (fun z => some (Value.int z)) (by first | (rw [hb_t]; rfl; omega) | (rw [hb_f]; rfl; omega)), rfl⟩
set_option maxRecDepth 100000 in
set_option maxHeartbeats 4000000 in
theorem t_X8_add (M : hM) (x : Int32) (L : Nat) (hL : L ≤ 200) (eL : M 1 1 = nI L) (hL2 : L < 200) : Ct 1 mX8_add [.ref 1, .int x] M (pV (fun M2 => M2 = mu (mu M 1 1 (nI (L + 1))) 2 L x)) := by
  refine ct_of (lv := [some (.ref 1), some (.int x)]) (by decide +kernel) (fun _ _ hq => hq) rfl (fun _ => Nat.le_of_ble_eq_true rfl) (fun X h hr => ?_)
  refine j_aload_n h 1 rfl rfl dX8_add_0 ?_
  refine j_getI h 4 rfl glX8_15 sh_1 rfl dX8_add_1 ?_
  refine j_top eL ?_
  refine j_sipush h 7 rfl (nI 200) (by decide) dX8_add_4 ?_
  refine j_icmp_geN h 27 10 (by omega) (by omega) dX8_add_7 (by decide) rfl (fun c_7 => by omega) (fun c_7 => ?_)
  refine j_aload_n h 11 rfl rfl dX8_add_10 ?_
  refine j_getR h 14 rfl glX8_11 sh_1 rfl dX8_add_11 ?_
  refine j_aload_n h 15 rfl rfl dX8_add_14 ?_
  refine j_dup h 16 rfl rfl dX8_add_15 ?_
  refine j_getI h 19 rfl glX8_15 sh_1 rfl dX8_add_16 ?_
  refine j_top eL ?_
  refine j_dup_x1 h 20 rfl rfl rfl dX8_add_19 ?_
  refine j_iconst h 21 rfl (nI 1) (by decide) dX8_add_20 ?_
  refine j_iaddN h 22 rfl dX8_add_21 ?_
  refine j_putI h 25 rfl plX8_15 sh_1 rfl rfl rfl rfl dX8_add_22 ?_
  refine j_iload_n h 26 rfl rfl dX8_add_25 ?_
  refine j_iast h 27 rfl sh_2 _ rfl (by omega) rfl dX8_add_26 ?_
  exact j_vret h hr dX8_add_27 ⟨rfl, rfl⟩
set_option maxRecDepth 100000 in
set_option maxHeartbeats 4000000 in
theorem t_X8_clear (M : hM) : Ct 1 mX8_clear [.ref 1] M (pV (fun M2 => M2 = mu M 1 1 (nI 0))) := by
  refine ct_of (lv := [some (.ref 1)]) (by decide +kernel) (fun _ _ hq => hq) rfl (fun _ => Nat.le_of_ble_eq_true rfl) (fun X h hr => ?_)
  refine j_aload_n h 1 rfl rfl dX8_clear_0 ?_
  refine j_iconst h 2 rfl (nI 0) (by decide) dX8_clear_1 ?_
  refine j_putI h 5 rfl plX8_15 sh_1 rfl rfl rfl rfl dX8_clear_2 ?_
  exact j_vret h hr dX8_clear_5 ⟨rfl, rfl⟩
set_option maxRecDepth 100000 in
set_option maxHeartbeats 4000000 in
theorem t_X8_at (M : hM) (p : Nat) (L : Nat) (hL : L ≤ 200) (eL : M 1 1 = nI L) (hp : p < 2 ^ 31) : Ct 1 mX8_at [.ref 1, .int (nI p)] M (pI (if p < L then M 2 p else -1) M) := by
  refine ct_of (lv := [some (.ref 1), some (.int (nI p))]) (by decide +kernel) (fun _ _ hq => hq) rfl (fun _ => Nat.le_of_ble_eq_true rfl) (fun X h hr => ?_)
  refine j_iload_n h 1 rfl rfl dX8_at_0 ?_
  refine j_if_ltN h 21 4 (by omega) dX8_at_1 (by decide) rfl (fun c_1 => c_1.elim) (fun c_1 => ?_)
  refine j_iload_n h 5 rfl rfl dX8_at_4 ?_
  refine j_aload_n h 6 rfl rfl dX8_at_5 ?_
  refine j_getI h 9 rfl glX8_15 sh_1 rfl dX8_at_6 ?_
  refine j_top eL ?_
  refine j_icmp_geN h 21 12 (by omega) (by omega) dX8_at_9 (by decide) rfl (fun c_9 => ?_) (fun c_9 => ?_)
  · skip
    refine j_iconst h 22 rfl (-1) (by decide) dX8_at_21 ?_
    exact j_ret h hr rfl dX8_at_22 ⟨congrArg (fun z => some (Value.int z)) (by first | exact (if_pos (by omega)).symm | exact (if_neg (by omega)).symm), rfl⟩
  · skip
    refine j_aload_n h 13 rfl rfl dX8_at_12 ?_
    refine j_getR h 16 rfl glX8_11 sh_1 rfl dX8_at_13 ?_
    refine j_iload_n h 17 rfl rfl dX8_at_16 ?_
    refine j_iald h 18 rfl sh_2 _ rfl (by omega) rfl dX8_at_17 ?_
    refine j_goto h 22 dX8_at_18 (by decide) ?_
    exact j_ret h hr rfl dX8_at_22 ⟨congrArg (fun z => some (Value.int z)) (by first | exact (if_pos (by omega)).symm | exact (if_neg (by omega)).symm), rfl⟩
set_option maxRecDepth 100000 in
set_option maxHeartbeats 4000000 in
theorem t_X8_behindBlanks (M : hM) (p : Nat) (L : Nat) (hL : L ≤ 200) (eL : M 1 1 = nI L) (hp : p ≤ L) : Ct 2 mX8_behindBlanks [.ref 1, .int (nI p)] M (pI (nI (skB (M 2) L p)) M) := by
  refine ct_of (lv := [some (.ref 1), some (.int (nI p)), none]) (by decide +kernel) (fun _ _ hq => hq) rfl (fun _ => Nat.le_of_ble_eq_true rfl) (fun X h hr => ?_)
  refine j_iload_n h 1 rfl rfl dX8_behindBlanks_0 ?_
  refine j_istore_n h 2 rfl rfl dX8_behindBlanks_1 ?_
  have K : ∀ (n e : Nat), L - e < n → p ≤ e → e ≤ L → rn isB (M 2) L (L - e) e = skB (M 2) L p → J X 2 [some (.ref 1), some (.int (nI p)), some (.int (nI e))] [] M := by
    intro n
    induction n with
    | zero => intro e h1; omega
    | succ n ih =>
      intro e h1 h2 h3 h4
      refine j_iload_n h 3 rfl rfl dX8_behindBlanks_2 ?_
      refine j_aload_n h 4 rfl rfl dX8_behindBlanks_3 ?_
      refine j_getI h 7 rfl glX8_15 sh_1 rfl dX8_behindBlanks_4 ?_
      refine j_top eL ?_
      refine j_icmp_geN h 26 10 (by omega) (by omega) dX8_behindBlanks_7 (by decide) rfl (fun c_7 => ?_) (fun c_7 => ?_)
      · skip
        refine j_iload_n h 27 rfl rfl dX8_behindBlanks_26 ?_
        exact j_ret h hr rfl dX8_behindBlanks_27 ⟨congrArg (fun z => some (Value.int z)) (by rw [← h4, rn_stop (fun z => by first | omega | exact c_17 (of_decide_eq_true z.2))]), rfl⟩
      · skip
        refine j_aload_n h 11 rfl rfl dX8_behindBlanks_10 ?_
        refine j_iload_n h 12 rfl rfl dX8_behindBlanks_11 ?_
        refine j_callVI h 15 rfl lkX8_19 sh_1 rfl rfl (t_X8_at _ e L hL eL (by omega)) rfl rfl rfl dX8_behindBlanks_12 ?_
        refine j_top (if_pos (show e < L by omega)) ?_
        refine j_bipush h 17 rfl (nI 32) (by decide) dX8_behindBlanks_15 ?_
        refine j_icmp_ne h 26 20 dX8_behindBlanks_17 (by decide) rfl (fun c_17 => ?_) (fun c_17 => ?_)
        · skip
          refine j_iload_n h 27 rfl rfl dX8_behindBlanks_26 ?_
          exact j_ret h hr rfl dX8_behindBlanks_27 ⟨congrArg (fun z => some (Value.int z)) (by rw [← h4, rn_stop (fun z => by first | omega | exact c_17 (of_decide_eq_true z.2))]), rfl⟩
        · skip
          refine j_iincN h 23 rfl rfl rfl dX8_behindBlanks_20 ?_
          refine j_goto h 2 dX8_behindBlanks_23 (by decide) ?_
          exact ih (e + 1) (by omega) (by omega) (by omega) (by rw [← h4, rn_go c_7 (decide_eq_true c_17)])
  exact K (L + 1) p (by omega) (by omega) (by omega) rfl
set_option maxRecDepth 100000 in
set_option maxHeartbeats 4000000 in
theorem t_X8_endOfToken (M : hM) (p : Nat) (L : Nat) (hL : L ≤ 200) (eL : M 1 1 = nI L) (hp : p ≤ L) : Ct 2 mX8_endOfToken [.ref 1, .int (nI p)] M (pI (nI (tkE (M 2) L p)) M) := by
  refine ct_of (lv := [some (.ref 1), some (.int (nI p)), none]) (by decide +kernel) (fun _ _ hq => hq) rfl (fun _ => Nat.le_of_ble_eq_true rfl) (fun X h hr => ?_)
  refine j_iload_n h 1 rfl rfl dX8_endOfToken_0 ?_
  refine j_aload_n h 2 rfl rfl dX8_endOfToken_1 ?_
  refine j_getI h 5 rfl glX8_15 sh_1 rfl dX8_endOfToken_2 ?_
  refine j_top eL ?_
  refine j_icmp_ltN h 10 8 (by omega) (by omega) dX8_endOfToken_5 (by decide) rfl (fun c_5 => ?_) (fun c_5 => ?_)
  · skip
    refine j_iload_n h 11 rfl rfl dX8_endOfToken_10 ?_
    refine j_iconst h 12 rfl (nI 1) (by decide) dX8_endOfToken_11 ?_
    refine j_iaddN h 13 rfl dX8_endOfToken_12 ?_
    refine j_istore_n h 14 rfl rfl dX8_endOfToken_13 ?_
    refine j_aload_n h 15 rfl rfl dX8_endOfToken_14 ?_
    refine j_iload_n h 16 rfl rfl dX8_endOfToken_15 ?_
    refine j_callVI h 19 rfl lkX8_19 sh_1 rfl rfl (t_X8_at _ p L hL eL (by omega)) rfl rfl rfl dX8_endOfToken_16 ?_
    refine j_top (if_pos (show p < L by omega)) ?_
    refine j_callSI h 22 rfl lkX8_23 rfl (t_X8_isLetter _ _) rfl rfl rfl dX8_endOfToken_19 ?_
    refine j_if_eqB h 50 25 dX8_endOfToken_22 (by decide) rfl (fun c_22 => ?_) (fun c_22 => ?_)
    · skip
      refine j_aload_n h 51 rfl rfl dX8_endOfToken_50 ?_
      refine j_iload_n h 52 rfl rfl dX8_endOfToken_51 ?_
      refine j_callVI h 55 rfl lkX8_19 sh_1 rfl rfl (t_X8_at _ p L hL eL (by omega)) rfl rfl rfl dX8_endOfToken_52 ?_
      refine j_top (if_pos (show p < L by omega)) ?_
      refine j_callSI h 58 rfl lkX8_27 rfl (t_X8_isDigit _ _) rfl rfl rfl dX8_endOfToken_55 ?_
      refine j_if_eqB h 86 61 dX8_endOfToken_58 (by decide) rfl (fun c_58 => ?_) (fun c_58 => ?_)
      · skip
        refine j_iload_n h 87 rfl rfl dX8_endOfToken_86 ?_
        exact j_ret h hr rfl dX8_endOfToken_87 ⟨congrArg (fun z => some (Value.int z)) (by first | (rw [← h4, rn_stop (fun z => by first | omega | exact c_41 (of_decide_eq_true z.2) | exact c_77 (of_decide_eq_true z.2))]) | (unfold tkE; rw [if_pos c_5, if_neg (show ¬ isL (M 2 p) = true from fun z => c_22 (of_decide_eq_true z)), if_neg (show ¬ isD (M 2 p) = true from fun z => c_58 (of_decide_eq_true z))])), rfl⟩
      · skip
        have K61 : ∀ (n e : Nat), L - e < n → p < e → e ≤ L → rn isD (M 2) L (L - e) e = tkE (M 2) L p → J X 61 [some (.ref 1), some (.int (nI p)), some (.int (nI e))] [] M := by
          intro n
          induction n with
          | zero => intro e h1; omega
          | succ n ih =>
            intro e h1 h2 h3 h4
            refine j_iload_n h 62 rfl rfl dX8_endOfToken_61 ?_
            refine j_aload_n h 63 rfl rfl dX8_endOfToken_62 ?_
            refine j_getI h 66 rfl glX8_15 sh_1 rfl dX8_endOfToken_63 ?_
            refine j_top eL ?_
            refine j_icmp_geN h 86 69 (by omega) (by omega) dX8_endOfToken_66 (by decide) rfl (fun c_66 => ?_) (fun c_66 => ?_)
            · skip
              refine j_iload_n h 87 rfl rfl dX8_endOfToken_86 ?_
              exact j_ret h hr rfl dX8_endOfToken_87 ⟨congrArg (fun z => some (Value.int z)) (by first | (rw [← h4, rn_stop (fun z => by first | omega | exact c_41 (of_decide_eq_true z.2) | exact c_77 (of_decide_eq_true z.2))]) | (unfold tkE; rw [if_pos c_5, if_neg (show ¬ isL (M 2 p) = true from fun z => c_22 (of_decide_eq_true z)), if_neg (show ¬ isD (M 2 p) = true from fun z => c_58 (of_decide_eq_true z))])), rfl⟩
            · skip
              refine j_aload_n h 70 rfl rfl dX8_endOfToken_69 ?_
              refine j_iload_n h 71 rfl rfl dX8_endOfToken_70 ?_
              refine j_callVI h 74 rfl lkX8_19 sh_1 rfl rfl (t_X8_at _ e L hL eL (by omega)) rfl rfl rfl dX8_endOfToken_71 ?_
              refine j_top (if_pos (show e < L by omega)) ?_
              refine j_callSI h 77 rfl lkX8_27 rfl (t_X8_isDigit _ _) rfl rfl rfl dX8_endOfToken_74 ?_
              refine j_if_eqB h 86 80 dX8_endOfToken_77 (by decide) rfl (fun c_77 => ?_) (fun c_77 => ?_)
              · skip
                refine j_iload_n h 87 rfl rfl dX8_endOfToken_86 ?_
                exact j_ret h hr rfl dX8_endOfToken_87 ⟨congrArg (fun z => some (Value.int z)) (by first | (rw [← h4, rn_stop (fun z => by first | omega | exact c_41 (of_decide_eq_true z.2) | exact c_77 (of_decide_eq_true z.2))]) | (unfold tkE; rw [if_pos c_5, if_neg (show ¬ isL (M 2 p) = true from fun z => c_22 (of_decide_eq_true z)), if_neg (show ¬ isD (M 2 p) = true from fun z => c_58 (of_decide_eq_true z))])), rfl⟩
              · skip
                refine j_iincN h 83 rfl rfl rfl dX8_endOfToken_80 ?_
                refine j_goto h 61 dX8_endOfToken_83 (by decide) ?_
                exact ih (e + 1) (by omega) (by omega) (by omega) (by rw [← h4, rn_go c_66 (decide_eq_true c_77)])
        exact K61 (L + 1) (p + 1) (by omega) (by omega) (by omega) (by unfold tkE; rw [if_pos c_5, if_neg (show ¬ isL (M 2 p) = true from fun z => c_22 (of_decide_eq_true z)), if_pos (show isD (M 2 p) = true from decide_eq_true c_58)])
    · skip
      have K25 : ∀ (n e : Nat), L - e < n → p < e → e ≤ L → rn isL (M 2) L (L - e) e = tkE (M 2) L p → J X 25 [some (.ref 1), some (.int (nI p)), some (.int (nI e))] [] M := by
        intro n
        induction n with
        | zero => intro e h1; omega
        | succ n ih =>
          intro e h1 h2 h3 h4
          refine j_iload_n h 26 rfl rfl dX8_endOfToken_25 ?_
          refine j_aload_n h 27 rfl rfl dX8_endOfToken_26 ?_
          refine j_getI h 30 rfl glX8_15 sh_1 rfl dX8_endOfToken_27 ?_
          refine j_top eL ?_
          refine j_icmp_geN h 86 33 (by omega) (by omega) dX8_endOfToken_30 (by decide) rfl (fun c_30 => ?_) (fun c_30 => ?_)
          · skip
            refine j_iload_n h 87 rfl rfl dX8_endOfToken_86 ?_
            exact j_ret h hr rfl dX8_endOfToken_87 ⟨congrArg (fun z => some (Value.int z)) (by first | (rw [← h4, rn_stop (fun z => by first | omega | exact c_41 (of_decide_eq_true z.2) | exact c_77 (of_decide_eq_true z.2))]) | (unfold tkE; rw [if_pos c_5, if_neg (show ¬ isL (M 2 p) = true from fun z => c_22 (of_decide_eq_true z)), if_neg (show ¬ isD (M 2 p) = true from fun z => c_58 (of_decide_eq_true z))])), rfl⟩
          · skip
            refine j_aload_n h 34 rfl rfl dX8_endOfToken_33 ?_
            refine j_iload_n h 35 rfl rfl dX8_endOfToken_34 ?_
            refine j_callVI h 38 rfl lkX8_19 sh_1 rfl rfl (t_X8_at _ e L hL eL (by omega)) rfl rfl rfl dX8_endOfToken_35 ?_
            refine j_top (if_pos (show e < L by omega)) ?_
            refine j_callSI h 41 rfl lkX8_23 rfl (t_X8_isLetter _ _) rfl rfl rfl dX8_endOfToken_38 ?_
            refine j_if_eqB h 86 44 dX8_endOfToken_41 (by decide) rfl (fun c_41 => ?_) (fun c_41 => ?_)
            · skip
              refine j_iload_n h 87 rfl rfl dX8_endOfToken_86 ?_
              exact j_ret h hr rfl dX8_endOfToken_87 ⟨congrArg (fun z => some (Value.int z)) (by first | (rw [← h4, rn_stop (fun z => by first | omega | exact c_41 (of_decide_eq_true z.2) | exact c_77 (of_decide_eq_true z.2))]) | (unfold tkE; rw [if_pos c_5, if_neg (show ¬ isL (M 2 p) = true from fun z => c_22 (of_decide_eq_true z)), if_neg (show ¬ isD (M 2 p) = true from fun z => c_58 (of_decide_eq_true z))])), rfl⟩
            · skip
              refine j_iincN h 47 rfl rfl rfl dX8_endOfToken_44 ?_
              refine j_goto h 25 dX8_endOfToken_47 (by decide) ?_
              exact ih (e + 1) (by omega) (by omega) (by omega) (by rw [← h4, rn_go c_30 (decide_eq_true c_41)])
      exact K25 (L + 1) (p + 1) (by omega) (by omega) (by omega) (by unfold tkE; rw [if_pos c_5, if_pos (show isL (M 2 p) = true from decide_eq_true c_22)])
  · skip
    refine j_iload_n h 9 rfl rfl dX8_endOfToken_8 ?_
    exact j_ret h hr rfl dX8_endOfToken_9 ⟨congrArg (fun z => some (Value.int z)) (by unfold tkE; rw [if_neg (by omega)]), rfl⟩
set_option maxRecDepth 100000 in
set_option maxHeartbeats 4000000 in
theorem t_X8_spells (M : hM) (f t i : Nat) (L : Nat) (hL : L ≤ 200) (eL : M 1 1 = nI L) (hft : f ≤ t) (htL : t ≤ L) (hi : i < 10) : Ct 6 mX8_spells [.ref 1, .int (nI f), .int (nI t), .ref (500 + i)] M (pI (hb (mtB (M 2) f t i = true)) M) := by
  refine ct_of (lv := [some (.ref 1), some (.int (nI f)), some (.int (nI t)), some (.ref (500 + i)), none]) (by decide +kernel) (fun _ _ hq => hq) rfl (fun _ => Nat.le_of_ble_eq_true rfl) (fun X h hr => ?_)
  have h5 := (ws_len i hi).2
  refine j_iload_n h 1 rfl rfl dX8_spells_0 ?_
  refine j_iload_n h 2 rfl rfl dX8_spells_1 ?_
  refine j_isubN h 3 rfl (by omega) dX8_spells_2 ?_
  refine j_aload_n h 4 rfl rfl dX8_spells_3 ?_
  refine j_callTI h 7 rfl hi lkX8_30 rfl rfl (t_J0_length_8abf5 _ _ hi) rfl rfl rfl dX8_spells_4 ?_
  refine j_icmp_eqN h 12 10 (by omega) (by omega) dX8_spells_7 (by decide) rfl (fun c_7 => ?_) (fun c_7 => ?_)
  · skip
    refine j_iconst h 13 rfl (nI 0) (by decide) dX8_spells_12 ?_
    refine j_istore h 15 rfl rfl dX8_spells_13 ?_
    have K : ∀ (n k : Nat), hLen.getD i 0 - k < n → k ≤ hLen.getD i 0 → spB (M 2) f i k = true → J X 15 [some (.ref 1), some (.int (nI f)), some (.int (nI t)), some (.ref (500 + i)), some (.int (nI k))] [] M := by
      intro n
      induction n with
      | zero => intro k h1; omega
      | succ n ih =>
        intro k h1 h2 h3
        refine j_iload h 17 rfl rfl dX8_spells_15 ?_
        refine j_aload_n h 18 rfl rfl dX8_spells_17 ?_
        refine j_callTI h 21 rfl hi lkX8_30 rfl rfl (t_J0_length_8abf5 _ _ hi) rfl rfl rfl dX8_spells_18 ?_
        refine j_icmp_geN h 49 24 (by omega) (by omega) dX8_spells_21 (by decide) rfl (fun c_21 => ?_) (fun c_21 => ?_)
        · skip
          refine j_iconst h 50 rfl (nI 1) (by decide) dX8_spells_49 ?_
          exact j_ret h hr (by decide) dX8_spells_50 ⟨congrArg (fun z => some (Value.int z)) (by rw [hb_t]; rfl; unfold mtB; rw [Bool.and_eq_true]; exact ⟨decide_eq_true c_7, by rw [show hLen.getD i 0 = k by omega]; exact h3⟩), rfl⟩
        · skip
          refine j_aload_n h 25 rfl rfl dX8_spells_24 ?_
          refine j_iload_n h 26 rfl rfl dX8_spells_25 ?_
          refine j_iload h 28 rfl rfl dX8_spells_26 ?_
          refine j_iaddN h 29 rfl dX8_spells_28 ?_
          refine j_callVI h 32 rfl lkX8_19 sh_1 rfl rfl (t_X8_at _ (f + k) L hL eL (by omega)) rfl rfl rfl dX8_spells_29 ?_
          refine j_top (if_pos (show f + k < L by omega)) ?_
          refine j_aload_n h 33 rfl rfl dX8_spells_32 ?_
          refine j_iload h 35 rfl rfl dX8_spells_33 ?_
          refine j_callTI h 38 rfl hi lkX8_35 rfl rfl (t_J0_charAt_5068e _ _ _ hi (by omega)) rfl rfl rfl dX8_spells_35 ?_
          refine j_icmp_eq h 43 41 dX8_spells_38 (by decide) rfl (fun c_38 => ?_) (fun c_38 => ?_)
          · skip
            refine j_iincN h 46 rfl rfl rfl dX8_spells_43 ?_
            refine j_goto h 15 dX8_spells_46 (by decide) ?_
            exact ih (k + 1) (by omega) (by omega) (by rw [spB, h3, Bool.true_and]; exact decide_eq_true c_38)
          · skip
            refine j_iconst h 42 rfl (nI 0) (by decide) dX8_spells_41 ?_
            exact j_ret h hr (by decide) dX8_spells_42 ⟨congrArg (fun z => some (Value.int z)) (by rw [hb_f]; rfl; intro z; unfold mtB at z; rw [Bool.and_eq_true] at z; rw [spB_up (k := k + 1) (by rw [spB, h3, Bool.true_and]; exact decide_eq_false c_38) _ (by omega)] at z; cases z.2), rfl⟩
    exact K (hLen.getD i 0 + 1) 0 (by omega) (by omega) rfl
  · skip
    refine j_iconst h 11 rfl (nI 0) (by decide) dX8_spells_10 ?_
    exact j_ret h hr (by decide) dX8_spells_11 ⟨congrArg (fun z => some (Value.int z)) (by rw [hb_f]; rfl; intro z; unfold mtB at z; rw [Bool.and_eq_true, decide_eq_true_eq] at z; exact c_7 z.1), rfl⟩
set_option maxRecDepth 100000 in
set_option maxHeartbeats 4000000 in
theorem t_X8_numberIn (M : hM) (f t : Nat) (L : Nat) (hL : L ≤ 200) (eL : M 1 1 = nI L) (hft : f ≤ t) (htL : t ≤ L) : Ct 2 mX8_numberIn [.ref 1, .int (nI f), .int (nI t)] M (pI (nuI (M 2) f t) M) := by
  refine ct_of (lv := [some (.ref 1), some (.int (nI f)), some (.int (nI t)), none, none]) (by decide +kernel) (fun _ _ hq => hq) rfl (fun _ => Nat.le_of_ble_eq_true rfl) (fun X h hr => ?_)
  refine j_iload_n h 1 rfl rfl dX8_numberIn_0 ?_
  refine j_iload_n h 2 rfl rfl dX8_numberIn_1 ?_
  refine j_isubN h 3 rfl (by omega) dX8_numberIn_2 ?_
  refine j_iconst h 4 rfl (nI 1) (by decide) dX8_numberIn_3 ?_
  refine j_icmp_ltN h 25 7 (by omega) (by omega) dX8_numberIn_4 (by decide) rfl (fun c_4 => ?_) (fun c_4 => ?_)
  · skip
    refine j_iconst h 26 rfl (-1) (by decide) dX8_numberIn_25 ?_
    exact j_ret h hr rfl dX8_numberIn_26 ⟨congrArg (fun z => some (Value.int z)) (by unfold nuI; rw [if_neg]; rintro ⟨z1, z2, z3⟩; first | omega | exact c_22 (of_decide_eq_true z3)), rfl⟩
  · skip
    refine j_iload_n h 8 rfl rfl dX8_numberIn_7 ?_
    refine j_iload_n h 9 rfl rfl dX8_numberIn_8 ?_
    refine j_isubN h 10 rfl (by omega) dX8_numberIn_9 ?_
    refine j_iconst h 11 rfl (nI 3) (by decide) dX8_numberIn_10 ?_
    refine j_icmp_gtN h 25 14 (by omega) (by omega) dX8_numberIn_11 (by decide) rfl (fun c_11 => ?_) (fun c_11 => ?_)
    · skip
      refine j_iconst h 26 rfl (-1) (by decide) dX8_numberIn_25 ?_
      exact j_ret h hr rfl dX8_numberIn_26 ⟨congrArg (fun z => some (Value.int z)) (by unfold nuI; rw [if_neg]; rintro ⟨z1, z2, z3⟩; first | omega | exact c_22 (of_decide_eq_true z3)), rfl⟩
    · skip
      refine j_aload_n h 15 rfl rfl dX8_numberIn_14 ?_
      refine j_iload_n h 16 rfl rfl dX8_numberIn_15 ?_
      refine j_callVI h 19 rfl lkX8_19 sh_1 rfl rfl (t_X8_at _ f L hL eL (by omega)) rfl rfl rfl dX8_numberIn_16 ?_
      refine j_top (if_pos (show f < L by omega)) ?_
      refine j_callSI h 22 rfl lkX8_27 rfl (t_X8_isDigit _ _) rfl rfl rfl dX8_numberIn_19 ?_
      refine j_if_neB h 27 25 dX8_numberIn_22 (by decide) rfl (fun c_22 => ?_) (fun c_22 => ?_)
      · skip
        refine j_iconst h 28 rfl (nI 0) (by decide) dX8_numberIn_27 ?_
        refine j_istore_n h 29 rfl rfl dX8_numberIn_28 ?_
        refine j_iload_n h 30 rfl rfl dX8_numberIn_29 ?_
        refine j_istore h 32 rfl rfl dX8_numberIn_30 ?_
        have K : ∀ (n e : Nat) (x : Int32), t - e < n → f ≤ e → e ≤ t → x = nmS (M 2) f (e - f) → J X 32 [some (.ref 1), some (.int (nI f)), some (.int (nI t)), some (.int x), some (.int (nI e))] [] M := by
          intro n
          induction n with
          | zero => intro e x h1; omega
          | succ n ih =>
            intro e x h1 h2 h3 hx
            subst hx
            refine j_iload h 34 rfl rfl dX8_numberIn_32 ?_
            refine j_iload_n h 35 rfl rfl dX8_numberIn_34 ?_
            refine j_icmp_geN h 59 38 (by omega) (by omega) dX8_numberIn_35 (by decide) rfl (fun c_35 => ?_) (fun c_35 => ?_)
            · skip
              refine j_iload_n h 60 rfl rfl dX8_numberIn_59 ?_
              exact j_ret h hr rfl dX8_numberIn_60 ⟨congrArg (fun z => some (Value.int z)) (by unfold nuI; rw [if_pos ⟨by omega, by omega, decide_eq_true c_22⟩, show e = t by omega]), rfl⟩
            · skip
              refine j_iload_n h 39 rfl rfl dX8_numberIn_38 ?_
              refine j_bipush h 41 rfl (nI 10) (by decide) dX8_numberIn_39 ?_
              refine j_imul h 42 rfl dX8_numberIn_41 ?_
              refine j_aload_n h 43 rfl rfl dX8_numberIn_42 ?_
              refine j_iload h 45 rfl rfl dX8_numberIn_43 ?_
              refine j_callVI h 48 rfl lkX8_19 sh_1 rfl rfl (t_X8_at _ e L hL eL (by omega)) rfl rfl rfl dX8_numberIn_45 ?_
              refine j_top (if_pos (show e < L by omega)) ?_
              refine j_iadd h 49 rfl dX8_numberIn_48 ?_
              refine j_bipush h 51 rfl (nI 48) (by decide) dX8_numberIn_49 ?_
              refine j_isub h 52 rfl dX8_numberIn_51 ?_
              refine j_istore_n h 53 rfl rfl dX8_numberIn_52 ?_
              refine j_iincN h 56 rfl rfl rfl dX8_numberIn_53 ?_
              refine j_goto h 32 dX8_numberIn_56 (by decide) ?_
              exact ih (e + 1) _ (by omega) (by omega) (by omega) (by rw [show e + 1 - f = (e - f) + 1 by omega, nmS, show f + (e - f) = e by omega])
        exact K (t + 1) f _ (by omega) (by omega) (by omega) (by rw [Nat.sub_self]; rfl)
      · skip
        refine j_iconst h 26 rfl (-1) (by decide) dX8_numberIn_25 ?_
        exact j_ret h hr rfl dX8_numberIn_26 ⟨congrArg (fun z => some (Value.int z)) (by unfold nuI; rw [if_neg]; rintro ⟨z1, z2, z3⟩; first | omega | exact c_22 (of_decide_eq_true z3)), rfl⟩
