/-! the model: leaves -/
/-- has of a room -/
abbrev mTP (M : hM) (x : Int32) : Prop := inP x (nI 0) (nI 4) ∧ bitP (M 93 0) x
def mbS (x : Int32) : Nat → Int32
  | 0 => nI 0
  | k + 1 => mbS x k + ((x >>> (nI k &&& 31)) &&& nI 1)
theorem mb_pc : ∀ s, s < 256 → mbS (nI s) 24 = nI (pc s) := by decide +kernel

set_option maxRecDepth 100000 in
set_option maxHeartbeats 4000000 in
theorem t_X11_in (M : hM) (a b c : Int32) : Ct 1 mX11_in [.int a, .int b, .int c] M (pI (hb (inP a b c)) M) := by
  refine ct_of (lv := [some (.int a), some (.int b), some (.int c)]) (by decide +kernel) (fun _ _ hq => hq) rfl (fun _ => Nat.le_of_ble_eq_true rfl) (fun X h hr => ?_)
  refine j_iload_n h 1 rfl rfl dX11_in_0 ?_
  refine j_iload_n h 2 rfl rfl dX11_in_1 ?_
  refine j_icmp_lt h 14 5 dX11_in_2 (by decide) rfl (fun c_2 => ?_) (fun c_2 => ?_)
  · skip
    refine j_iconst h 15 rfl (nI 0) (by decide) dX11_in_14 ?_
    exact j_ret h hr (by decide) dX11_in_15 ⟨congrArg (fun z => some (Value.int z)) (by first | (rw [hb_t]; rfl; (simp only [inP, Int32.lt_iff_toInt_lt, Int32.le_iff_toInt_le] at *; omega)) | (rw [hb_f]; rfl; (simp only [inP, Int32.lt_iff_toInt_lt, Int32.le_iff_toInt_le] at *; omega))), rfl⟩
  · skip
    refine j_iload_n h 6 rfl rfl dX11_in_5 ?_
    refine j_iload_n h 7 rfl rfl dX11_in_6 ?_
    refine j_icmp_gt h 14 10 dX11_in_7 (by decide) rfl (fun c_7 => ?_) (fun c_7 => ?_)
    · skip
      refine j_iconst h 15 rfl (nI 0) (by decide) dX11_in_14 ?_
      exact j_ret h hr (by decide) dX11_in_15 ⟨congrArg (fun z => some (Value.int z)) (by first | (rw [hb_t]; rfl; (simp only [inP, Int32.lt_iff_toInt_lt, Int32.le_iff_toInt_le] at *; omega)) | (rw [hb_f]; rfl; (simp only [inP, Int32.lt_iff_toInt_lt, Int32.le_iff_toInt_le] at *; omega))), rfl⟩
    · skip
      refine j_iconst h 11 rfl (nI 1) (by decide) dX11_in_10 ?_
      refine j_goto h 15 dX11_in_11 (by decide) ?_
      exact j_ret h hr (by decide) dX11_in_15 ⟨congrArg (fun z => some (Value.int z)) (by first | (rw [hb_t]; rfl; (simp only [inP, Int32.lt_iff_toInt_lt, Int32.le_iff_toInt_le] at *; omega)) | (rw [hb_f]; rfl; (simp only [inP, Int32.lt_iff_toInt_lt, Int32.le_iff_toInt_le] at *; omega))), rfl⟩
set_option maxRecDepth 100000 in
set_option maxHeartbeats 4000000 in
theorem t_X11_has (M : hM) (a b : Int32) : Ct 1 mX11_has [.int a, .int b] M (pI (hb (bitP a b)) M) := by
  refine ct_of (lv := [some (.int a), some (.int b)]) (by decide +kernel) (fun _ _ hq => hq) rfl (fun _ => Nat.le_of_ble_eq_true rfl) (fun X h hr => ?_)
  refine j_iload_n h 1 rfl rfl dX11_has_0 ?_
  refine j_iload_n h 2 rfl rfl dX11_has_1 ?_
  refine j_ishr h 3 rfl dX11_has_2 ?_
  refine j_iconst h 4 rfl (nI 1) (by decide) dX11_has_3 ?_
  refine j_iand h 5 rfl dX11_has_4 ?_
  refine j_iconst h 6 rfl (nI 1) (by decide) dX11_has_5 ?_
  refine j_icmp_ne h 13 9 dX11_has_6 (by decide) rfl (fun c_6 => ?_) (fun c_6 => ?_)
  · skip
    refine j_iconst h 14 rfl (nI 0) (by decide) dX11_has_13 ?_
    exact j_ret h hr (by decide) dX11_has_14 ⟨congrArg (fun z => some (Value.int z)) (by first | (rw [hb_t]; rfl; first | assumption | exact Decidable.not_not.mp (by assumption) | exact fun z => z (by assumption)) | (rw [hb_f]; rfl; first | assumption | exact Decidable.not_not.mp (by assumption) | exact fun z => z (by assumption))), rfl⟩
  · skip
    refine j_iconst h 10 rfl (nI 1) (by decide) dX11_has_9 ?_
    refine j_goto h 14 dX11_has_10 (by decide) ?_
    exact j_ret h hr (by decide) dX11_has_14 ⟨congrArg (fun z => some (Value.int z)) (by first | (rw [hb_t]; rfl; first | assumption | exact Decidable.not_not.mp (by assumption) | exact fun z => z (by assumption)) | (rw [hb_f]; rfl; first | assumption | exact Decidable.not_not.mp (by assumption) | exact fun z => z (by assumption))), rfl⟩
set_option maxRecDepth 100000 in
set_option maxHeartbeats 4000000 in
theorem t_X11_bits (M : hM) (x : Int32) : Ct 1 mX11_bits [.int x] M (pI (mbS x 24) M) := by
  refine ct_of (lv := [some (.int x), none, none]) (by decide +kernel) (fun _ _ hq => hq) rfl (fun _ => Nat.le_of_ble_eq_true rfl) (fun X h hr => ?_)
  refine j_iconst h 1 rfl (nI 0) (by decide) dX11_bits_0 ?_
  refine j_istore_n h 2 rfl rfl dX11_bits_1 ?_
  refine j_iconst h 3 rfl (nI 0) (by decide) dX11_bits_2 ?_
  refine j_istore_n h 4 rfl rfl dX11_bits_3 ?_
  have L : ∀ (n i : Nat) , 24 - i < n → i ≤ 24 → J X 4 [some (.int x), some (.int (mbS x i)), some (.int (nI i))] [] M := by
    intro n
    induction n with
    | zero => intro i  h1; omega
    | succ n ih =>
      intro i  h1 h2
      refine j_iload_n h 5 rfl rfl dX11_bits_4 ?_
      refine j_bipush h 7 rfl (nI 24) (by decide) dX11_bits_5 ?_
      refine j_icmp_geN h 24 10 (by omega) (by omega) dX11_bits_7 (by decide) rfl (fun c_7 => ?_) (fun c_7 => ?_)
      · skip
        refine j_iload_n h 25 rfl rfl dX11_bits_24 ?_
        exact j_ret h hr rfl dX11_bits_25 ⟨congrArg (fun z => some (Value.int z)) (by rw [show i = 24 by omega]), rfl⟩
      · skip
        refine j_iload_n h 11 rfl rfl dX11_bits_10 ?_
        refine j_iload_n h 12 rfl rfl dX11_bits_11 ?_
        refine j_iload_n h 13 rfl rfl dX11_bits_12 ?_
        refine j_ishr h 14 rfl dX11_bits_13 ?_
        refine j_iconst h 15 rfl (nI 1) (by decide) dX11_bits_14 ?_
        refine j_iand h 16 rfl dX11_bits_15 ?_
        refine j_iadd h 17 rfl dX11_bits_16 ?_
        refine j_istore_n h 18 rfl rfl dX11_bits_17 ?_
        refine j_iincN h 21 rfl rfl rfl dX11_bits_18 ?_
        refine j_goto h 4 dX11_bits_21 (by decide) ?_
        exact ih (i + 1) (by omega) (by omega)
  exact L 25 0 (by omega) (by omega)
set_option maxRecDepth 100000 in
set_option maxHeartbeats 4000000 in
theorem t_X11_isRoom (M : hM) (x : Int32) : Ct 2 mX11_isRoom [.ref 93, .int x] M (pI (hb (mTP M x)) M) := by
  refine ct_of (lv := [some (.ref 93), some (.int x)]) (by decide +kernel) (fun _ _ hq => hq) rfl (fun _ => Nat.le_of_ble_eq_true rfl) (fun X h hr => ?_)
  refine j_iload_n h 1 rfl rfl dX11_isRoom_0 ?_
  refine j_iconst h 2 rfl (nI 0) (by decide) dX11_isRoom_1 ?_
  refine j_iconst h 3 rfl (nI 4) (by decide) dX11_isRoom_2 ?_
  refine j_callSI h 6 rfl lkX11_120 rfl (t_X11_in _ _ _ _) rfl rfl rfl dX11_isRoom_3 ?_
  refine j_if_eqB h 24 9 dX11_isRoom_6 (by decide) rfl (fun c_6 => ?_) (fun c_6 => ?_)
  · skip
    refine j_iconst h 25 rfl (nI 0) (by decide) dX11_isRoom_24 ?_
    exact j_ret h hr (by decide) dX11_isRoom_25 ⟨congrArg (fun z => some (Value.int z)) (by first | (rw [hb_t]; rfl; (first | exact And.intro (by assumption) (by assumption) | exact fun z => absurd z.1 (by assumption) | exact fun z => absurd z.2 (by assumption))) | (rw [hb_f]; rfl; (first | exact And.intro (by assumption) (by assumption) | exact fun z => absurd z.1 (by assumption) | exact fun z => absurd z.2 (by assumption)))), rfl⟩
  · skip
    refine j_aload_n h 10 rfl rfl dX11_isRoom_9 ?_
    refine j_getI h 13 rfl glX11_124 sh_93 rfl dX11_isRoom_10 ?_
    refine j_iload_n h 14 rfl rfl dX11_isRoom_13 ?_
    refine j_callSI h 17 rfl lkX11_127 rfl (t_X11_has _ _ _) rfl rfl rfl dX11_isRoom_14 ?_
    refine j_if_eqB h 24 20 dX11_isRoom_17 (by decide) rfl (fun c_17 => ?_) (fun c_17 => ?_)
    · skip
      refine j_iconst h 25 rfl (nI 0) (by decide) dX11_isRoom_24 ?_
      exact j_ret h hr (by decide) dX11_isRoom_25 ⟨congrArg (fun z => some (Value.int z)) (by first | (rw [hb_t]; rfl; (first | exact And.intro (by assumption) (by assumption) | exact fun z => absurd z.1 (by assumption) | exact fun z => absurd z.2 (by assumption))) | (rw [hb_f]; rfl; (first | exact And.intro (by assumption) (by assumption) | exact fun z => absurd z.1 (by assumption) | exact fun z => absurd z.2 (by assumption)))), rfl⟩
    · skip
      refine j_iconst h 21 rfl (nI 1) (by decide) dX11_isRoom_20 ?_
      refine j_goto h 25 dX11_isRoom_21 (by decide) ?_
      exact j_ret h hr (by decide) dX11_isRoom_25 ⟨congrArg (fun z => some (Value.int z)) (by first | (rw [hb_t]; rfl; (first | exact And.intro (by assumption) (by assumption) | exact fun z => absurd z.1 (by assumption) | exact fun z => absurd z.2 (by assumption))) | (rw [hb_f]; rfl; (first | exact And.intro (by assumption) (by assumption) | exact fun z => absurd z.1 (by assumption) | exact fun z => absurd z.2 (by assumption)))), rfl⟩
set_option maxRecDepth 100000 in
set_option maxHeartbeats 4000000 in
theorem t_X11_erase (M : hM) : Ct 1 mX11_erase [.ref 93] M (pX (fun y M2 => y = M 93 15 ∧ M2 = mu M 93 15 (nI 0))) := by
  refine ct_of (lv := [some (.ref 93), none]) (by decide +kernel) (fun _ _ hq => hq) rfl (fun _ => Nat.le_of_ble_eq_true rfl) (fun X h hr => ?_)
  refine j_aload_n h 1 rfl rfl dX11_erase_0 ?_
  refine j_getI h 4 rfl glX11_131 sh_93 rfl dX11_erase_1 ?_
  refine j_istore_n h 5 rfl rfl dX11_erase_4 ?_
  refine j_aload_n h 6 rfl rfl dX11_erase_5 ?_
  refine j_iconst h 7 rfl (nI 0) (by decide) dX11_erase_6 ?_
  refine j_putI h 10 rfl plX11_131 sh_93 rfl rfl rfl rfl dX11_erase_7 ?_
  refine j_iload_n h 11 rfl rfl dX11_erase_10 ?_
  exact j_ret h hr rfl dX11_erase_11 ⟨_, rfl, rfl, rfl⟩
set_option maxRecDepth 100000 in
set_option maxHeartbeats 4000000 in
theorem t_X11_fails (M : hM) : Ct 1 mX11_fails [.ref 93] M (pX (fun y M2 => y = nI 0 ∧ M2 = mu M 93 22 (M 93 18))) := by
  refine ct_of (lv := [some (.ref 93)]) (by decide +kernel) (fun _ _ hq => hq) rfl (fun _ => Nat.le_of_ble_eq_true rfl) (fun X h hr => ?_)
  refine j_aload_n h 1 rfl rfl dX11_fails_0 ?_
  refine j_aload_n h 2 rfl rfl dX11_fails_1 ?_
  refine j_getI h 5 rfl glX11_139 sh_93 rfl dX11_fails_2 ?_
  refine j_putI h 8 rfl plX11_164 sh_93 rfl rfl rfl rfl dX11_fails_5 ?_
  refine j_iconst h 9 rfl (nI 0) (by decide) dX11_fails_8 ?_
  exact j_ret h hr (by decide) dX11_fails_9 ⟨_, rfl, rfl, rfl⟩
/-- bytes written behind L -/
def wrN (x : Int64) (L : Nat) (M : hM) : Nat → hM
  | 0 => M
  | k + 1 => mu (wrN x L M k) 99 (L + k) (wrB x k)
theorem wrN_f {x : Int64} {L : Nat} {M : hM} {a : Nat} (h : a ≠ 99) : ∀ k, wrN x L M k a = M a
  | 0 => rfl
  | k + 1 => by rw [wrN, mu_f h]; exact wrN_f h k
theorem wr_eq {x : Int64} {L : Nat} {M N : hM} (h : N 99 = M 2) : ∀ k, wrN x L N k 99 = wrM x L M k 2
  | 0 => h
  | k + 1 => by
    funext j
    have ih := wr_eq (x := x) (L := L) h k
    rw [wrN, wrM]
    by_cases e : j = L + k
    · subst e; rw [mu_s, mu_s]
    · rw [mu_k e, mu_k e, mu_a (by decide), ih]
set_option maxRecDepth 100000 in
set_option maxHeartbeats 4000000 in
theorem t_X11_write (M : hM) (x : Int64) (z : Int32) (L : Nat) (hL : L ≤ 200) (eL : M 93 15 = nI L) : Ct 2 mX11_write [.ref 93, .long x, .int z] M (pX (fun y M2 => (¬ inP z (nI 1) (nI 8) ∧ y = -3 ∧ M2 = M) ∨ ((inP z (nI 1) (nI 8)) ∧ ¬ L + tn z ≤ 200 ∧ y = -5 ∧ M2 = M) ∨ (inP z (nI 1) (nI 8) ∧ L + tn z ≤ 200 ∧ y = nI (L + tn z) ∧ M2 = mu (wrN x L M (tn z)) 93 15 (nI (L + tn z))))) := by
  refine ct_of (lv := [some (.ref 93), some (.long x), none, some (.int z), none]) (by decide +kernel) (fun _ _ hq => hq) rfl (fun _ => Nat.le_of_ble_eq_true rfl) (fun X h hr => ?_)
  refine j_iload_n h 1 rfl rfl dX11_write_0 ?_
  refine j_iconst h 2 rfl (nI 1) (by decide) dX11_write_1 ?_
  refine j_bipush h 4 rfl (nI 8) (by decide) dX11_write_2 ?_
  refine j_callSI h 7 rfl lkX11_120 rfl (t_X11_in _ _ _ _) rfl rfl rfl dX11_write_4 ?_
  refine j_if_neB h 13 10 dX11_write_7 (by decide) rfl (fun c_7 => ?_) (fun c_7 => ?_)
  · obtain ⟨n, hn1, hn, rfl⟩ : ∃ k, 1 ≤ k ∧ k ≤ 8 ∧ z = nI k := in_18 c_7
    have etn : tn (nI n) = n := tn_nI (by omega)
    refine j_aload_n h 14 rfl rfl dX11_write_13 ?_
    refine j_getI h 17 rfl glX11_131 sh_93 rfl dX11_write_14 ?_
    refine j_top eL ?_
    refine j_iload_n h 18 rfl rfl dX11_write_17 ?_
    refine j_iaddN h 19 rfl dX11_write_18 ?_
    refine j_sipush h 22 rfl (nI 200) (by decide) dX11_write_19 ?_
    refine j_icmp_leN h 28 25 (by omega) (by omega) dX11_write_22 (by decide) rfl (fun c_22 => ?_) (fun c_22 => ?_)
    · skip
      refine j_iconst h 29 rfl (nI 0) (by decide) dX11_write_28 ?_
      refine j_istore h 31 rfl rfl dX11_write_29 ?_
      have K : ∀ (k i : Nat) , n - i < k → i ≤ n → J X 31 [some (.ref 93), some (.long x), none, some (.int (nI n)), some (.int (nI i))] [] (wrN x L M i) := by
        intro k
        induction k with
        | zero => intro i  h1; omega
        | succ k ih =>
          intro i  h1 h2
          have e1 : wrN x L M i 93 15 = nI L := by rw [wrN_f (by decide)]; exact eL
          refine j_iload h 33 rfl rfl dX11_write_31 ?_
          refine j_iload_n h 34 rfl rfl dX11_write_33 ?_
          refine j_icmp_geN h 67 37 (by omega) (by omega) dX11_write_34 (by decide) rfl (fun c_34 => ?_) (fun c_34 => ?_)
          · skip
            refine j_aload_n h 68 rfl rfl dX11_write_67 ?_
            refine j_dup h 69 rfl rfl dX11_write_68 ?_
            obtain rfl : i = n := by omega
            refine j_getI h 72 rfl glX11_131 sh_93 rfl dX11_write_69 ?_
            refine j_top e1 ?_
            refine j_iload_n h 73 rfl rfl dX11_write_72 ?_
            refine j_iaddN h 74 rfl dX11_write_73 ?_
            refine j_putI h 77 rfl plX11_131 sh_93 rfl rfl rfl rfl dX11_write_74 ?_
            refine j_aload_n h 78 rfl rfl dX11_write_77 ?_
            refine j_getI h 81 rfl glX11_131 sh_93 rfl dX11_write_78 ?_
            rw [mu_s]
            exact j_ret h hr rfl dX11_write_81 ⟨_, rfl, Or.inr (Or.inr ⟨c_7, by rw [etn]; omega, by rw [etn], by rw [etn]⟩)⟩
          · skip
            refine j_aload_n h 38 rfl rfl dX11_write_37 ?_
            refine j_getR h 41 rfl glX11_54 sh_93 rfl dX11_write_38 ?_
            refine j_aload_n h 42 rfl rfl dX11_write_41 ?_
            refine j_getI h 45 rfl glX11_131 sh_93 rfl dX11_write_42 ?_
            refine j_top e1 ?_
            refine j_iload h 47 rfl rfl dX11_write_45 ?_
            refine j_iaddN h 48 rfl dX11_write_47 ?_
            refine j_lload_n h 49 rfl rfl dX11_write_48 ?_
            refine j_bipush h 51 rfl (nI 8) (by decide) dX11_write_49 ?_
            refine j_iload h 53 rfl rfl dX11_write_51 ?_
            refine j_imulN h 54 rfl dX11_write_53 ?_
            refine j_lshr h 55 rfl dX11_write_54 ?_
            refine j_ldc2 h 58 rfl (255) cnX11_134 dX11_write_55 ?_
            refine j_land h 59 rfl dX11_write_58 ?_
            refine j_l2i h 60 rfl dX11_write_59 ?_
            refine j_iast h 61 rfl sh_99 _ rfl (by omega) rfl dX11_write_60 ?_
            refine j_iincN h 64 rfl rfl rfl dX11_write_61 ?_
            refine j_goto h 31 dX11_write_64 (by decide) ?_
            exact ih (i + 1) (by omega) (by omega)
      exact K (n + 1) 0 (by omega) (Nat.zero_le n)
    · skip
      refine j_bipush h 27 rfl (-5) (by decide) dX11_write_25 ?_
      exact j_ret h hr rfl dX11_write_27 ⟨_, rfl, Or.inr (Or.inl ⟨c_7, by rw [etn]; omega, rfl, rfl⟩)⟩
  · skip
    refine j_bipush h 12 rfl (-3) (by decide) dX11_write_10 ?_
    exact j_ret h hr rfl dX11_write_12 ⟨_, rfl, Or.inl ⟨c_7, rfl, rfl⟩⟩
theorem hm24 {h : Nat} (h1 : h < 2 ^ 31) : h % 24 < 24 := Nat.mod_lt _ (by decide)
set_option maxRecDepth 100000 in
set_option maxHeartbeats 4000000 in
theorem t_X11_hoursOf (M : hM) (a b : Nat) (ha : a < 24) (hb : b < 24) : Ct 1 mX11_hoursOf [.int (nI a), .int (nI b)] M (pI (hHrs a b) M) := by
  refine ct_of (lv := [some (.int (nI a)), some (.int (nI b)), none, none]) (by decide +kernel) (fun _ _ hq => hq) rfl (fun _ => Nat.le_of_ble_eq_true rfl) (fun X h hr => ?_)
  have e0 : (a + 0) % 24 = a := by omega
  refine j_iconst h 1 rfl (nI 0) (by decide) dX11_hoursOf_0 ?_
  refine j_istore_n h 2 rfl rfl dX11_hoursOf_1 ?_
  refine j_iload_n h 3 rfl rfl dX11_hoursOf_2 ?_
  refine j_istore_n h 4 rfl rfl dX11_hoursOf_3 ?_
  have L : ∀ (n i : Nat) (z : Option Value), 24 - i < n → i ≤ hCnt a b → J X 4 [some (.int (nI a)), some (.int (nI b)), some (.int (hOr a i)), some (.int (nI ((a + i) % 24)))] [] M := by
    intro n
    induction n with
    | zero => intro i z h1; omega
    | succ n ih =>
      intro i z h1 h2
      have h3 : hCnt a b < 24 := Nat.mod_lt _ (by decide)
      refine j_iload_n h 5 rfl rfl dX11_hoursOf_4 ?_
      refine j_iload_n h 6 rfl rfl dX11_hoursOf_5 ?_
      refine j_icmp_eqN h 25 9 (by omega) (by omega) dX11_hoursOf_6 (by decide) rfl (fun c_6 => ?_) (fun c_6 => ?_)
      · skip
        refine j_iload_n h 26 rfl rfl dX11_hoursOf_25 ?_
        exact j_ret h hr rfl dX11_hoursOf_26 ⟨by unfold hHrs; rw [show hCnt a b = i by unfold hCnt at *; omega], rfl⟩
      · skip
        refine j_iload_n h 10 rfl rfl dX11_hoursOf_9 ?_
        refine j_iconst h 11 rfl (nI 1) (by decide) dX11_hoursOf_10 ?_
        refine j_iload_n h 12 rfl rfl dX11_hoursOf_11 ?_
        refine j_ishl h 13 rfl dX11_hoursOf_12 ?_
        refine j_ior h 14 rfl dX11_hoursOf_13 ?_
        refine j_istore_n h 15 rfl rfl dX11_hoursOf_14 ?_
        refine j_iload_n h 16 rfl rfl dX11_hoursOf_15 ?_
        refine j_iconst h 17 rfl (nI 1) (by decide) dX11_hoursOf_16 ?_
        refine j_iaddN h 18 rfl dX11_hoursOf_17 ?_
        refine j_bipush h 20 rfl (nI 24) (by decide) dX11_hoursOf_18 ?_
        refine j_iremN h 21 rfl (by omega) (by omega) (by omega) dX11_hoursOf_20 ?_
        refine j_istore_n h 22 rfl rfl dX11_hoursOf_21 ?_
        refine j_goto h 4 dX11_hoursOf_22 (by decide) ?_
        have q := ih (i + 1) none (by omega) (by unfold hCnt at *; omega)
        rw [show (a + (i + 1)) % 24 = ((a + i) % 24 + 1) % 24 by omega] at q
        exact q
  have q := L 25 0 none (by omega) (Nat.zero_le _)
  rw [e0] at q
  exact q
abbrev mSky (M : hM) (n : Nat) : Int32 := skyC (fun j => M 93 (j - 4)) n
theorem rg_1 (h c m d : Int32) : (h + m * d) - (c + m * d) = h - c := by
  rw [Int32.sub_eq_add_neg, Int32.neg_add, Int32.sub_eq_add_neg, Int32.add_assoc, ← Int32.add_assoc (m * d), Int32.add_comm (m * d) (-c), Int32.add_assoc (-c), Int32.add_right_neg, Int32.add_zero, ← Int32.sub_eq_add_neg]
theorem rg_2 (x : Int32) : x - nI 1 = x + -1 := by rw [Int32.sub_eq_add_neg]; rfl
set_option maxRecDepth 100000 in
set_option maxHeartbeats 4000000 in
theorem t_X11_outAt (M : hM) (n : Nat) (hn : n < 96) : Ct 1 mX11_outAt [.ref 93, .int (nI n)] M (pI (mSky M n) M) := by
  refine ct_of (lv := [some (.ref 93), some (.int (nI n)), none, none, none, none, none]) (by decide +kernel) (fun _ _ hq => hq) rfl (fun _ => Nat.le_of_ble_eq_true rfl) (fun X h hr => ?_)
  refine j_iload_n h 1 rfl rfl dX11_outAt_0 ?_
  refine j_bipush h 3 rfl (nI 24) (by decide) dX11_outAt_1 ?_
  refine j_iremN h 4 rfl (by omega) (by omega) (by omega) dX11_outAt_3 ?_
  refine j_istore_n h 5 rfl rfl dX11_outAt_4 ?_
  refine j_iload_n h 6 rfl rfl dX11_outAt_5 ?_
  refine j_iconst h 7 rfl (nI 5) (by decide) dX11_outAt_6 ?_
  refine j_icmp_geN h 19 10 (by omega) (by omega) dX11_outAt_7 (by decide) rfl (fun c_7 => ?_) (fun c_7 => ?_)
  · skip
    refine j_iload_n h 20 rfl rfl dX11_outAt_19 ?_
    refine j_bipush h 22 rfl (nI 24) (by decide) dX11_outAt_20 ?_
    refine j_idivN h 23 rfl (by omega) (by omega) (by omega) dX11_outAt_22 ?_
    refine j_istore_n h 24 rfl rfl dX11_outAt_23 ?_
    refine j_aload_n h 25 rfl rfl dX11_outAt_24 ?_
    refine j_getI h 28 rfl glX11_25 sh_93 rfl dX11_outAt_25 ?_
    refine j_aload_n h 29 rfl rfl dX11_outAt_28 ?_
    refine j_getI h 32 rfl glX11_32 sh_93 rfl dX11_outAt_29 ?_
    refine j_iload_n h 33 rfl rfl dX11_outAt_32 ?_
    refine j_imul h 34 rfl dX11_outAt_33 ?_
    refine j_iadd h 35 rfl dX11_outAt_34 ?_
    refine j_istore h 37 rfl rfl dX11_outAt_35 ?_
    refine j_aload_n h 38 rfl rfl dX11_outAt_37 ?_
    refine j_getI h 41 rfl glX11_29 sh_93 rfl dX11_outAt_38 ?_
    refine j_aload_n h 42 rfl rfl dX11_outAt_41 ?_
    refine j_getI h 45 rfl glX11_32 sh_93 rfl dX11_outAt_42 ?_
    refine j_iload_n h 46 rfl rfl dX11_outAt_45 ?_
    refine j_imul h 47 rfl dX11_outAt_46 ?_
    refine j_iadd h 48 rfl dX11_outAt_47 ?_
    refine j_istore h 50 rfl rfl dX11_outAt_48 ?_
    refine j_iload_n h 51 rfl rfl dX11_outAt_50 ?_
    refine j_iconst h 52 rfl (nI 5) (by decide) dX11_outAt_51 ?_
    refine j_icmp_ltN h 77 55 (by omega) (by omega) dX11_outAt_52 (by decide) rfl (fun c_52 => ?_) (fun c_52 => ?_)
    · skip
      refine j_iload_n h 78 rfl rfl dX11_outAt_77 ?_
      refine j_iconst h 79 rfl (nI 5) (by decide) dX11_outAt_78 ?_
      refine j_icmp_geN h 89 82 (by omega) (by omega) dX11_outAt_79 (by decide) rfl (fun c_79 => ?_) (fun c_79 => ?_)
      · skip
        refine j_iload_n h 90 rfl rfl dX11_outAt_89 ?_
        refine j_bipush h 92 rfl (nI 15) (by decide) dX11_outAt_90 ?_
        refine j_isubN h 93 rfl (by omega) dX11_outAt_92 ?_
        refine j_istore h 95 rfl rfl dX11_outAt_93 ?_
        refine j_iload h 97 rfl rfl dX11_outAt_95 ?_
        refine j_iload h 99 rfl rfl dX11_outAt_97 ?_
        refine j_iload h 101 rfl rfl dX11_outAt_99 ?_
        refine j_isub h 102 rfl dX11_outAt_101 ?_
        refine j_iload h 104 rfl rfl dX11_outAt_102 ?_
        refine j_imul h 105 rfl dX11_outAt_104 ?_
        refine j_bipush h 107 rfl (nI 14) (by decide) dX11_outAt_105 ?_
        refine j_idiv h 108 rfl (by decide) dX11_outAt_107 ?_
        refine j_isub h 109 rfl dX11_outAt_108 ?_
        exact j_ret h hr rfl dX11_outAt_109 ⟨congrArg (fun z => some (Value.int z)) (by unfold mSky skyC; rw [rg_1]; first | (exfalso; omega) | (rw [if_pos (by omega), rg_2, Int32.mul_comm (M 93 8), show n % 24 + 24 - 15 = n % 24 + 9 by omega]) | (rw [if_neg (by omega), if_pos (by omega), Int32.mul_comm (M 93 8)]) | (rw [if_neg (by omega), if_neg (by omega), Int32.mul_comm (M 93 8)])), rfl⟩
      · skip
        refine j_iload_n h 83 rfl rfl dX11_outAt_82 ?_
        refine j_bipush h 85 rfl (nI 9) (by decide) dX11_outAt_83 ?_
        refine j_iaddN h 86 rfl dX11_outAt_85 ?_
        refine j_goto h 93 dX11_outAt_86 (by decide) ?_
        refine j_istore h 95 rfl rfl dX11_outAt_93 ?_
        refine j_iload h 97 rfl rfl dX11_outAt_95 ?_
        refine j_iload h 99 rfl rfl dX11_outAt_97 ?_
        refine j_iload h 101 rfl rfl dX11_outAt_99 ?_
        refine j_isub h 102 rfl dX11_outAt_101 ?_
        refine j_iload h 104 rfl rfl dX11_outAt_102 ?_
        refine j_imul h 105 rfl dX11_outAt_104 ?_
        refine j_bipush h 107 rfl (nI 14) (by decide) dX11_outAt_105 ?_
        refine j_idiv h 108 rfl (by decide) dX11_outAt_107 ?_
        refine j_isub h 109 rfl dX11_outAt_108 ?_
        exact j_ret h hr rfl dX11_outAt_109 ⟨congrArg (fun z => some (Value.int z)) (by unfold mSky skyC; rw [rg_1]; first | (exfalso; omega) | (rw [if_pos (by omega), rg_2, Int32.mul_comm (M 93 8), show n % 24 + 24 - 15 = n % 24 + 9 by omega]) | (rw [if_neg (by omega), if_pos (by omega), Int32.mul_comm (M 93 8)]) | (rw [if_neg (by omega), if_neg (by omega), Int32.mul_comm (M 93 8)])), rfl⟩
    · skip
      refine j_iload_n h 56 rfl rfl dX11_outAt_55 ?_
      refine j_bipush h 58 rfl (nI 15) (by decide) dX11_outAt_56 ?_
      refine j_icmp_gtN h 77 61 (by omega) (by omega) dX11_outAt_58 (by decide) rfl (fun c_58 => ?_) (fun c_58 => ?_)
      · skip
        refine j_iload_n h 78 rfl rfl dX11_outAt_77 ?_
        refine j_iconst h 79 rfl (nI 5) (by decide) dX11_outAt_78 ?_
        refine j_icmp_geN h 89 82 (by omega) (by omega) dX11_outAt_79 (by decide) rfl (fun c_79 => ?_) (fun c_79 => ?_)
        · skip
          refine j_iload_n h 90 rfl rfl dX11_outAt_89 ?_
          refine j_bipush h 92 rfl (nI 15) (by decide) dX11_outAt_90 ?_
          refine j_isubN h 93 rfl (by omega) dX11_outAt_92 ?_
          refine j_istore h 95 rfl rfl dX11_outAt_93 ?_
          refine j_iload h 97 rfl rfl dX11_outAt_95 ?_
          refine j_iload h 99 rfl rfl dX11_outAt_97 ?_
          refine j_iload h 101 rfl rfl dX11_outAt_99 ?_
          refine j_isub h 102 rfl dX11_outAt_101 ?_
          refine j_iload h 104 rfl rfl dX11_outAt_102 ?_
          refine j_imul h 105 rfl dX11_outAt_104 ?_
          refine j_bipush h 107 rfl (nI 14) (by decide) dX11_outAt_105 ?_
          refine j_idiv h 108 rfl (by decide) dX11_outAt_107 ?_
          refine j_isub h 109 rfl dX11_outAt_108 ?_
          exact j_ret h hr rfl dX11_outAt_109 ⟨congrArg (fun z => some (Value.int z)) (by unfold mSky skyC; rw [rg_1]; first | (exfalso; omega) | (rw [if_pos (by omega), rg_2, Int32.mul_comm (M 93 8), show n % 24 + 24 - 15 = n % 24 + 9 by omega]) | (rw [if_neg (by omega), if_pos (by omega), Int32.mul_comm (M 93 8)]) | (rw [if_neg (by omega), if_neg (by omega), Int32.mul_comm (M 93 8)])), rfl⟩
        · skip
          refine j_iload_n h 83 rfl rfl dX11_outAt_82 ?_
          refine j_bipush h 85 rfl (nI 9) (by decide) dX11_outAt_83 ?_
          refine j_iaddN h 86 rfl dX11_outAt_85 ?_
          refine j_goto h 93 dX11_outAt_86 (by decide) ?_
          refine j_istore h 95 rfl rfl dX11_outAt_93 ?_
          refine j_iload h 97 rfl rfl dX11_outAt_95 ?_
          refine j_iload h 99 rfl rfl dX11_outAt_97 ?_
          refine j_iload h 101 rfl rfl dX11_outAt_99 ?_
          refine j_isub h 102 rfl dX11_outAt_101 ?_
          refine j_iload h 104 rfl rfl dX11_outAt_102 ?_
          refine j_imul h 105 rfl dX11_outAt_104 ?_
          refine j_bipush h 107 rfl (nI 14) (by decide) dX11_outAt_105 ?_
          refine j_idiv h 108 rfl (by decide) dX11_outAt_107 ?_
          refine j_isub h 109 rfl dX11_outAt_108 ?_
          exact j_ret h hr rfl dX11_outAt_109 ⟨congrArg (fun z => some (Value.int z)) (by unfold mSky skyC; rw [rg_1]; first | (exfalso; omega) | (rw [if_pos (by omega), rg_2, Int32.mul_comm (M 93 8), show n % 24 + 24 - 15 = n % 24 + 9 by omega]) | (rw [if_neg (by omega), if_pos (by omega), Int32.mul_comm (M 93 8)]) | (rw [if_neg (by omega), if_neg (by omega), Int32.mul_comm (M 93 8)])), rfl⟩
      · skip
        refine j_iload h 63 rfl rfl dX11_outAt_61 ?_
        refine j_iload h 65 rfl rfl dX11_outAt_63 ?_
        refine j_iload h 67 rfl rfl dX11_outAt_65 ?_
        refine j_isub h 68 rfl dX11_outAt_67 ?_
        refine j_iload_n h 69 rfl rfl dX11_outAt_68 ?_
        refine j_iconst h 70 rfl (nI 5) (by decide) dX11_outAt_69 ?_
        refine j_isubN h 71 rfl (by omega) dX11_outAt_70 ?_
        refine j_imul h 72 rfl dX11_outAt_71 ?_
        refine j_bipush h 74 rfl (nI 10) (by decide) dX11_outAt_72 ?_
        refine j_idiv h 75 rfl (by decide) dX11_outAt_74 ?_
        refine j_iadd h 76 rfl dX11_outAt_75 ?_
        exact j_ret h hr rfl dX11_outAt_76 ⟨congrArg (fun z => some (Value.int z)) (by unfold mSky skyC; rw [rg_1]; first | (exfalso; omega) | (rw [if_pos (by omega), rg_2, Int32.mul_comm (M 93 8), show n % 24 + 24 - 15 = n % 24 + 9 by omega]) | (rw [if_neg (by omega), if_pos (by omega), Int32.mul_comm (M 93 8)]) | (rw [if_neg (by omega), if_neg (by omega), Int32.mul_comm (M 93 8)])), rfl⟩
  · skip
    refine j_iload_n h 11 rfl rfl dX11_outAt_10 ?_
    refine j_bipush h 13 rfl (nI 24) (by decide) dX11_outAt_11 ?_
    refine j_idivN h 14 rfl (by omega) (by omega) (by omega) dX11_outAt_13 ?_
    refine j_iconst h 15 rfl (nI 1) (by decide) dX11_outAt_14 ?_
    refine j_isub h 16 rfl dX11_outAt_15 ?_
    refine j_goto h 23 dX11_outAt_16 (by decide) ?_
    refine j_istore_n h 24 rfl rfl dX11_outAt_23 ?_
    refine j_aload_n h 25 rfl rfl dX11_outAt_24 ?_
    refine j_getI h 28 rfl glX11_25 sh_93 rfl dX11_outAt_25 ?_
    refine j_aload_n h 29 rfl rfl dX11_outAt_28 ?_
    refine j_getI h 32 rfl glX11_32 sh_93 rfl dX11_outAt_29 ?_
    refine j_iload_n h 33 rfl rfl dX11_outAt_32 ?_
    refine j_imul h 34 rfl dX11_outAt_33 ?_
    refine j_iadd h 35 rfl dX11_outAt_34 ?_
    refine j_istore h 37 rfl rfl dX11_outAt_35 ?_
    refine j_aload_n h 38 rfl rfl dX11_outAt_37 ?_
    refine j_getI h 41 rfl glX11_29 sh_93 rfl dX11_outAt_38 ?_
    refine j_aload_n h 42 rfl rfl dX11_outAt_41 ?_
    refine j_getI h 45 rfl glX11_32 sh_93 rfl dX11_outAt_42 ?_
    refine j_iload_n h 46 rfl rfl dX11_outAt_45 ?_
    refine j_imul h 47 rfl dX11_outAt_46 ?_
    refine j_iadd h 48 rfl dX11_outAt_47 ?_
    refine j_istore h 50 rfl rfl dX11_outAt_48 ?_
    refine j_iload_n h 51 rfl rfl dX11_outAt_50 ?_
    refine j_iconst h 52 rfl (nI 5) (by decide) dX11_outAt_51 ?_
    refine j_icmp_ltN h 77 55 (by omega) (by omega) dX11_outAt_52 (by decide) rfl (fun c_52 => ?_) (fun c_52 => ?_)
    · skip
      refine j_iload_n h 78 rfl rfl dX11_outAt_77 ?_
      refine j_iconst h 79 rfl (nI 5) (by decide) dX11_outAt_78 ?_
      refine j_icmp_geN h 89 82 (by omega) (by omega) dX11_outAt_79 (by decide) rfl (fun c_79 => ?_) (fun c_79 => ?_)
      · skip
        refine j_iload_n h 90 rfl rfl dX11_outAt_89 ?_
        refine j_bipush h 92 rfl (nI 15) (by decide) dX11_outAt_90 ?_
        refine j_isubN h 93 rfl (by omega) dX11_outAt_92 ?_
        refine j_istore h 95 rfl rfl dX11_outAt_93 ?_
        refine j_iload h 97 rfl rfl dX11_outAt_95 ?_
        refine j_iload h 99 rfl rfl dX11_outAt_97 ?_
        refine j_iload h 101 rfl rfl dX11_outAt_99 ?_
        refine j_isub h 102 rfl dX11_outAt_101 ?_
        refine j_iload h 104 rfl rfl dX11_outAt_102 ?_
        refine j_imul h 105 rfl dX11_outAt_104 ?_
        refine j_bipush h 107 rfl (nI 14) (by decide) dX11_outAt_105 ?_
        refine j_idiv h 108 rfl (by decide) dX11_outAt_107 ?_
        refine j_isub h 109 rfl dX11_outAt_108 ?_
        exact j_ret h hr rfl dX11_outAt_109 ⟨congrArg (fun z => some (Value.int z)) (by unfold mSky skyC; rw [rg_1]; first | (exfalso; omega) | (rw [if_pos (by omega), rg_2, Int32.mul_comm (M 93 8), show n % 24 + 24 - 15 = n % 24 + 9 by omega]) | (rw [if_neg (by omega), if_pos (by omega), Int32.mul_comm (M 93 8)]) | (rw [if_neg (by omega), if_neg (by omega), Int32.mul_comm (M 93 8)])), rfl⟩
      · skip
        refine j_iload_n h 83 rfl rfl dX11_outAt_82 ?_
        refine j_bipush h 85 rfl (nI 9) (by decide) dX11_outAt_83 ?_
        refine j_iaddN h 86 rfl dX11_outAt_85 ?_
        refine j_goto h 93 dX11_outAt_86 (by decide) ?_
        refine j_istore h 95 rfl rfl dX11_outAt_93 ?_
        refine j_iload h 97 rfl rfl dX11_outAt_95 ?_
        refine j_iload h 99 rfl rfl dX11_outAt_97 ?_
        refine j_iload h 101 rfl rfl dX11_outAt_99 ?_
        refine j_isub h 102 rfl dX11_outAt_101 ?_
        refine j_iload h 104 rfl rfl dX11_outAt_102 ?_
        refine j_imul h 105 rfl dX11_outAt_104 ?_
        refine j_bipush h 107 rfl (nI 14) (by decide) dX11_outAt_105 ?_
        refine j_idiv h 108 rfl (by decide) dX11_outAt_107 ?_
        refine j_isub h 109 rfl dX11_outAt_108 ?_
        exact j_ret h hr rfl dX11_outAt_109 ⟨congrArg (fun z => some (Value.int z)) (by unfold mSky skyC; rw [rg_1]; first | (exfalso; omega) | (rw [if_pos (by omega), rg_2, Int32.mul_comm (M 93 8), show n % 24 + 24 - 15 = n % 24 + 9 by omega]) | (rw [if_neg (by omega), if_pos (by omega), Int32.mul_comm (M 93 8)]) | (rw [if_neg (by omega), if_neg (by omega), Int32.mul_comm (M 93 8)])), rfl⟩
    · skip
      refine j_iload_n h 56 rfl rfl dX11_outAt_55 ?_
      refine j_bipush h 58 rfl (nI 15) (by decide) dX11_outAt_56 ?_
      refine j_icmp_gtN h 77 61 (by omega) (by omega) dX11_outAt_58 (by decide) rfl (fun c_58 => ?_) (fun c_58 => ?_)
      · skip
        refine j_iload_n h 78 rfl rfl dX11_outAt_77 ?_
        refine j_iconst h 79 rfl (nI 5) (by decide) dX11_outAt_78 ?_
        refine j_icmp_geN h 89 82 (by omega) (by omega) dX11_outAt_79 (by decide) rfl (fun c_79 => ?_) (fun c_79 => ?_)
        · skip
          refine j_iload_n h 90 rfl rfl dX11_outAt_89 ?_
          refine j_bipush h 92 rfl (nI 15) (by decide) dX11_outAt_90 ?_
          refine j_isubN h 93 rfl (by omega) dX11_outAt_92 ?_
          refine j_istore h 95 rfl rfl dX11_outAt_93 ?_
          refine j_iload h 97 rfl rfl dX11_outAt_95 ?_
          refine j_iload h 99 rfl rfl dX11_outAt_97 ?_
          refine j_iload h 101 rfl rfl dX11_outAt_99 ?_
          refine j_isub h 102 rfl dX11_outAt_101 ?_
          refine j_iload h 104 rfl rfl dX11_outAt_102 ?_
          refine j_imul h 105 rfl dX11_outAt_104 ?_
          refine j_bipush h 107 rfl (nI 14) (by decide) dX11_outAt_105 ?_
          refine j_idiv h 108 rfl (by decide) dX11_outAt_107 ?_
          refine j_isub h 109 rfl dX11_outAt_108 ?_
          exact j_ret h hr rfl dX11_outAt_109 ⟨congrArg (fun z => some (Value.int z)) (by unfold mSky skyC; rw [rg_1]; first | (exfalso; omega) | (rw [if_pos (by omega), rg_2, Int32.mul_comm (M 93 8), show n % 24 + 24 - 15 = n % 24 + 9 by omega]) | (rw [if_neg (by omega), if_pos (by omega), Int32.mul_comm (M 93 8)]) | (rw [if_neg (by omega), if_neg (by omega), Int32.mul_comm (M 93 8)])), rfl⟩
        · skip
          refine j_iload_n h 83 rfl rfl dX11_outAt_82 ?_
          refine j_bipush h 85 rfl (nI 9) (by decide) dX11_outAt_83 ?_
          refine j_iaddN h 86 rfl dX11_outAt_85 ?_
          refine j_goto h 93 dX11_outAt_86 (by decide) ?_
          refine j_istore h 95 rfl rfl dX11_outAt_93 ?_
          refine j_iload h 97 rfl rfl dX11_outAt_95 ?_
          refine j_iload h 99 rfl rfl dX11_outAt_97 ?_
          refine j_iload h 101 rfl rfl dX11_outAt_99 ?_
          refine j_isub h 102 rfl dX11_outAt_101 ?_
          refine j_iload h 104 rfl rfl dX11_outAt_102 ?_
          refine j_imul h 105 rfl dX11_outAt_104 ?_
          refine j_bipush h 107 rfl (nI 14) (by decide) dX11_outAt_105 ?_
          refine j_idiv h 108 rfl (by decide) dX11_outAt_107 ?_
          refine j_isub h 109 rfl dX11_outAt_108 ?_
          exact j_ret h hr rfl dX11_outAt_109 ⟨congrArg (fun z => some (Value.int z)) (by unfold mSky skyC; rw [rg_1]; first | (exfalso; omega) | (rw [if_pos (by omega), rg_2, Int32.mul_comm (M 93 8), show n % 24 + 24 - 15 = n % 24 + 9 by omega]) | (rw [if_neg (by omega), if_pos (by omega), Int32.mul_comm (M 93 8)]) | (rw [if_neg (by omega), if_neg (by omega), Int32.mul_comm (M 93 8)])), rfl⟩
      · skip
        refine j_iload h 63 rfl rfl dX11_outAt_61 ?_
        refine j_iload h 65 rfl rfl dX11_outAt_63 ?_
        refine j_iload h 67 rfl rfl dX11_outAt_65 ?_
        refine j_isub h 68 rfl dX11_outAt_67 ?_
        refine j_iload_n h 69 rfl rfl dX11_outAt_68 ?_
        refine j_iconst h 70 rfl (nI 5) (by decide) dX11_outAt_69 ?_
        refine j_isubN h 71 rfl (by omega) dX11_outAt_70 ?_
        refine j_imul h 72 rfl dX11_outAt_71 ?_
        refine j_bipush h 74 rfl (nI 10) (by decide) dX11_outAt_72 ?_
        refine j_idiv h 75 rfl (by decide) dX11_outAt_74 ?_
        refine j_iadd h 76 rfl dX11_outAt_75 ?_
        exact j_ret h hr rfl dX11_outAt_76 ⟨congrArg (fun z => some (Value.int z)) (by unfold mSky skyC; rw [rg_1]; first | (exfalso; omega) | (rw [if_pos (by omega), rg_2, Int32.mul_comm (M 93 8), show n % 24 + 24 - 15 = n % 24 + 9 by omega]) | (rw [if_neg (by omega), if_pos (by omega), Int32.mul_comm (M 93 8)]) | (rw [if_neg (by omega), if_neg (by omega), Int32.mul_comm (M 93 8)])), rfl⟩
set_option maxRecDepth 100000 in
set_option maxHeartbeats 4000000 in
theorem t_X11_out (M : hM) (x : Int32) : Ct 2 mX11_out [.ref 93, .int x] M (pI (if inP x (nI 0) (nI 95) then mSky M (tn x) else -2) M) := by
  refine ct_of (lv := [some (.ref 93), some (.int x)]) (by decide +kernel) (fun _ _ hq => hq) rfl (fun _ => Nat.le_of_ble_eq_true rfl) (fun X h hr => ?_)
  refine j_iload_n h 1 rfl rfl dX11_out_0 ?_
  refine j_iconst h 2 rfl (nI 0) (by decide) dX11_out_1 ?_
  refine j_bipush h 4 rfl (nI 95) (by decide) dX11_out_2 ?_
  refine j_callSI h 7 rfl lkX11_120 rfl (t_X11_in _ _ _ _) rfl rfl rfl dX11_out_4 ?_
  refine j_if_eqB h 18 10 dX11_out_7 (by decide) rfl (fun c_7 => ?_) (fun c_7 => ?_)
  · skip
    refine j_bipush h 20 rfl (-2) (by decide) dX11_out_18 ?_
    exact j_ret h hr rfl dX11_out_20 ⟨congrArg (fun z => some (Value.int z)) (by first | rw [if_pos c_7, tn_nI (by omega)] | rw [if_neg c_7]), rfl⟩
  · skip
    obtain ⟨k, hk, rfl⟩ := (in_nat (by decide)).mp c_7
    refine j_aload_n h 11 rfl rfl dX11_out_10 ?_
    refine j_iload_n h 12 rfl rfl dX11_out_11 ?_
    refine j_callVI h 15 rfl lkX11_225 sh_93 rfl rfl (t_X11_outAt _ _ (by omega)) rfl rfl rfl dX11_out_12 ?_
    refine j_goto h 20 dX11_out_15 (by decide) ?_
    exact j_ret h hr rfl dX11_out_20 ⟨congrArg (fun z => some (Value.int z)) (by first | rw [if_pos c_7, tn_nI (by omega)] | rw [if_neg c_7]), rfl⟩
