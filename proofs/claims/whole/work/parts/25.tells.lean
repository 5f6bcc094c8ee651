/-! HotWeek: what is told -/
theorem nI_m1 {k : Nat} (h : k < 2 ^ 31) : ¬ nI k = -1 := fun e => by
  have h1 := nI_toInt h
  rw [e] at h1
  have h2 : (-1 : Int32).toInt = -1 := by decide
  omega
abbrev wrB (x : Int64) (i : Nat) : Int32 := ((x >>> ((nI (8 * i)).toInt64 &&& 63)) &&& 255).toInt32
def wrM (x : Int64) (L : Nat) (M : hM) : Nat → hM
  | 0 => M
  | k + 1 => mu (mu (wrM x L M k) 1 1 (nI (L + k + 1))) 2 (L + k) (wrB x k)
theorem wrM_len {x : Int64} {L : Nat} {M : hM} (h : M 1 1 = nI L) : ∀ k, wrM x L M k 1 1 = nI (L + k)
  | 0 => h
  | k + 1 => by rw [wrM, mu_a (by decide), mu_s]; rfl

theorem in_18 {z : Int32} (h : inP z (nI 1) (nI 8)) : ∃ k, 1 ≤ k ∧ k ≤ 8 ∧ z = nI k := by
  obtain ⟨k, hk, e⟩ := (in_nat (n := 8) (by decide)).mp ⟨Int32.le_trans (by decide) h.1, h.2⟩
  refine ⟨k, ?_, hk, e⟩
  have g := h.1
  rw [e, nI_leI (by decide) (by omega)] at g
  exact g
theorem in_1n {z : Int32} {m : Nat} (hm : m < 1000) (h : inP z (nI 1) (nI m)) : ∃ k, 1 ≤ k ∧ k ≤ m ∧ z = nI k := by
  obtain ⟨k, hk, e⟩ := (in_nat (n := m) (by omega)).mp ⟨Int32.le_trans (by decide) h.1, h.2⟩
  refine ⟨k, ?_, hk, e⟩
  have g := h.1
  rw [e, nI_leI (by decide) (by omega)] at g
  exact g
set_option maxRecDepth 100000 in
set_option maxHeartbeats 4000000 in
theorem t_X10_write (M : hM) (x : Int64) (z : Int32) (L : Nat) (hL : L ≤ 200) (eL : M 1 1 = nI L) : Ct 2 mX10_write [.ref 0, .long x, .int z] M (pX (fun y M2 => (¬ inP z (nI 1) (nI 8) ∧ y = -3 ∧ M2 = M) ∨ ((inP z (nI 1) (nI 8)) ∧ ¬ L + tn z ≤ 200 ∧ y = -5 ∧ M2 = M) ∨ (inP z (nI 1) (nI 8) ∧ L + tn z ≤ 200 ∧ y = nI (L + tn z) ∧ M2 = wrM x L M (tn z)))) := by
  refine ct_of (lv := [some (.ref 0), some (.long x), none, some (.int z), none]) (by decide +kernel) (fun _ _ hq => hq) rfl (fun _ => Nat.le_of_ble_eq_true rfl) (fun X h hr => ?_)
  refine j_iload_n h 1 rfl rfl dX10_write_0 ?_
  refine j_iconst h 2 rfl (nI 1) (by decide) dX10_write_1 ?_
  refine j_bipush h 4 rfl (nI 8) (by decide) dX10_write_2 ?_
  refine j_callSI h 7 rfl lkX10_86 rfl (t_X10_isWithin _ _ _ _) rfl rfl rfl dX10_write_4 ?_
  refine j_if_neB h 13 10 dX10_write_7 (by decide) rfl (fun c_7 => ?_) (fun c_7 => ?_)
  · obtain ⟨n, hn1, hn, rfl⟩ : ∃ k, 1 ≤ k ∧ k ≤ 8 ∧ z = nI k := in_18 c_7
    have etn : tn (nI n) = n := tn_nI (by omega)
    refine j_aload_n h 14 rfl rfl dX10_write_13 ?_
    refine j_getR h 17 rfl glX10_12 sh_0 rfl dX10_write_14 ?_
    refine j_iload_n h 18 rfl rfl dX10_write_17 ?_
    refine j_callVI h 21 rfl lkX10_90 sh_1 rfl rfl (t_X8_hasSpaceFor _ n L hL eL (by omega)) rfl rfl rfl dX10_write_18 ?_
    refine j_if_neB h 27 24 dX10_write_21 (by decide) rfl (fun c_21 => ?_) (fun c_21 => ?_)
    · skip
      refine j_iconst h 28 rfl (nI 0) (by decide) dX10_write_27 ?_
      refine j_istore h 30 rfl rfl dX10_write_28 ?_
      have K : ∀ k i, n - i < k → i ≤ n → J X 30 [some (.ref 0), some (.long x), none, some (.int (nI n)), some (.int (nI i))] [] (wrM x L M i) := by
        intro k
        induction k with
        | zero => intro i h1; omega
        | succ k ih =>
          intro i h1 h2
          have e1 := wrM_len (x := x) eL i
          refine j_iload h 32 rfl rfl dX10_write_30 ?_
          refine j_iload_n h 33 rfl rfl dX10_write_32 ?_
          refine j_icmp_geN h 61 36 (by omega) (by omega) dX10_write_33 (by decide) rfl (fun c_33 => ?_) (fun c_33 => ?_)
          · skip
            refine j_aload_n h 62 rfl rfl dX10_write_61 ?_
            refine j_getR h 65 rfl glX10_12 sh_0 rfl dX10_write_62 ?_
            refine j_callVI h 68 rfl lkX10_100 sh_1 rfl rfl (t_X8_length _) rfl rfl rfl dX10_write_65 ?_
            exact j_ret h hr rfl dX10_write_68 ⟨_, rfl, Or.inr (Or.inr ⟨c_7, by rw [etn]; exact c_21, by rw [etn, e1, show i = n by omega], by rw [etn, show i = n by omega]⟩)⟩
          · skip
            refine j_aload_n h 37 rfl rfl dX10_write_36 ?_
            refine j_getR h 40 rfl glX10_12 sh_0 rfl dX10_write_37 ?_
            refine j_lload_n h 41 rfl rfl dX10_write_40 ?_
            refine j_bipush h 43 rfl (nI 8) (by decide) dX10_write_41 ?_
            refine j_iload h 45 rfl rfl dX10_write_43 ?_
            refine j_imulN h 46 rfl dX10_write_45 ?_
            refine j_lshr h 47 rfl dX10_write_46 ?_
            refine j_ldc2 h 50 rfl (255) cnX10_94 dX10_write_47 ?_
            refine j_land h 51 rfl dX10_write_50 ?_
            refine j_l2i h 52 rfl dX10_write_51 ?_
            refine j_callVV h 55 rfl lkX10_96 sh_1 rfl rfl (t_X8_add _ (wrB x i) (L + i) (by omega) e1 (by omega)) rfl rfl rfl dX10_write_52 (fun M9 hM9 => ?_)
            subst hM9
            refine j_iincN h 58 rfl rfl rfl dX10_write_55 ?_
            refine j_goto h 30 dX10_write_58 (by decide) ?_
            exact ih (i + 1) (by omega) (by omega)
      exact K (n + 1) 0 (by omega) (Nat.zero_le n)
    · skip
      refine j_bipush h 26 rfl (-5) (by decide) dX10_write_24 ?_
      exact j_ret h hr rfl dX10_write_26 ⟨_, rfl, Or.inr (Or.inl ⟨c_7, by rw [etn]; exact c_21, rfl, rfl⟩)⟩
  · skip
    refine j_bipush h 12 rfl (-3) (by decide) dX10_write_10 ?_
    exact j_ret h hr rfl dX10_write_12 ⟨_, rfl, Or.inl ⟨c_7, rfl, rfl⟩⟩
set_option maxRecDepth 100000 in
set_option maxHeartbeats 4000000 in
theorem t_X10_erase (M : hM) : Ct 2 mX10_erase [.ref 0] M (pX (fun y M2 => y = M 1 1 ∧ M2 = mu M 1 1 (nI 0))) := by
  refine ct_of (lv := [some (.ref 0), none]) (by decide +kernel) (fun _ _ hq => hq) rfl (fun _ => Nat.le_of_ble_eq_true rfl) (fun X h hr => ?_)
  refine j_aload_n h 1 rfl rfl dX10_erase_0 ?_
  refine j_getR h 4 rfl glX10_12 sh_0 rfl dX10_erase_1 ?_
  refine j_callVI h 7 rfl lkX10_100 sh_1 rfl rfl (t_X8_length _) rfl rfl rfl dX10_erase_4 ?_
  refine j_istore_n h 8 rfl rfl dX10_erase_7 ?_
  refine j_aload_n h 9 rfl rfl dX10_erase_8 ?_
  refine j_getR h 12 rfl glX10_12 sh_0 rfl dX10_erase_9 ?_
  refine j_callVV h 15 rfl lkX10_104 sh_1 rfl rfl (t_X8_clear _) rfl rfl rfl dX10_erase_12 (fun M9 hM9 => ?_)
  subst hM9
  refine j_iload_n h 16 rfl rfl dX10_erase_15 ?_
  exact j_ret h hr rfl dX10_erase_16 ⟨_, rfl, rfl, rfl⟩
set_option maxRecDepth 100000 in
set_option maxHeartbeats 4000000 in
theorem t_X10_fault (M : hM) (L : Nat) (hL : L ≤ 200) (eL : M 1 1 = nI L) : Ct 9 mX10_fault [.ref 0] M (pX (foP M L)) := by
  refine ct_of (lv := [some (.ref 0)]) (by decide +kernel) (fun _ _ hq => hq) rfl (fun _ => Nat.le_of_ble_eq_true rfl) (fun X h hr => ?_)
  refine j_aload_n h 1 rfl rfl dX10_fault_0 ?_
  refine j_getR h 4 rfl glX10_19 sh_0 rfl dX10_fault_1 ?_
  refine j_aload_n h 5 rfl rfl dX10_fault_4 ?_
  refine j_getR h 8 rfl glX10_12 sh_0 rfl dX10_fault_5 ?_
  refine j_callVX h 11 rfl lkX10_107 sh_3 rfl rfl (t_X5_faultOf _ L hL eL) rfl rfl rfl dX10_fault_8 (fun x9 M9 hM9 => ?_)
  exact j_ret h hr rfl dX10_fault_11 ⟨_, rfl, hM9⟩
/-- the lines told in their order -/
def tlS (ls : List (Nat × List Nat)) (M : hM) : Nat → hM
  | 0 => M
  | n + 1 => tlM (ls.getD n (0, [])).2 (tlS ls M n) (ls.getD n (0, [])).1
theorem tlM_f {v : List Nat} {M : hM} {k a : Nat} (h : a < 14 ∨ 28 < a) (h0 : (k = 1 → v.getD 0 0 ≤ 4 ∧ v.getD 1 0 ≤ 4)) : tlM v M k a = M a := by
  unfold tlM
  split
  all_goals first | (obtain ⟨x1, x2⟩ := h0 rfl) | skip
  all_goals (repeat rw [mu_f (by omega)])
theorem okL_1 {v : List Nat} (h : okL 1 v) : v.getD 0 0 ≤ 4 ∧ v.getD 1 0 ≤ 4 := by
  have h1 := h.1 0 (by decide) (by decide +kernel)
  have h2 := h.1 1 (by decide) (by decide +kernel)
  rw [show bdN 1 0 = 4 by decide +kernel] at h1
  rw [show bdN 1 1 = 4 by decide +kernel] at h2
  exact ⟨h1.2, h2.2⟩
theorem tlS_f {ls : List (Nat × List Nat)} {M : hM} {a : Nat} (h : a < 14 ∨ 28 < a) : ∀ n, (∀ i, i < n → okL (ls.getD i (0, [])).1 (ls.getD i (0, [])).2) → tlS ls M n a = M a
  | 0, _ => rfl
  | n + 1, hk => by
    rw [tlS, tlM_f h (fun e => by have := hk n (by omega); rw [e] at this; exact okL_1 this)]
    exact tlS_f h n (fun i hi => hk i (by omega))
/-- the week: what it answers and leaves -/
def wkP (M : hM) (L : Nat) (y : Int32) (M2 : hM) : Prop := match (prS (M 2) L 8 0).1 with
  | some _ => y = -4 ∧ ∀ a, (a < 3 ∨ 13 < a) → M2 a = M a
  | none => y = nI (prS (M 2) L 8 0).2.length ∧ (∀ a, 14 ≤ a → a < 29 → M2 a = tlS (prS (M 2) L 8 0).2 M (prS (M 2) L 8 0).2.length a) ∧ (∀ a, (a = 2 ∨ 28 < a) → ¬ a = 78 → M2 a = M a) ∧ M2 1 1 = nI 0 ∧ M2 0 11 = 0 ∧ M2 78 0 = 0
theorem prS_le {b : Nat → Int32} {L : Nat} : ∀ n p q, p ≤ L → (prS b L n p).1 = some q → q ≤ L
  | 0, p, q, h, e => by cases e; omega
  | n + 1, p, q, h, e => by
    have hT : wT b L p ≤ L := (tkE_le (skB_le h).2).2.1
    have hR : (wR b L p).2.1 ≤ L := rdN_le 5 0 _ 0 hT
    have hQ : wQ b L p ≤ L := (skB_le hR).2
    rw [prS] at e
    by_cases q1 : wK b L p = 10
    · rw [if_pos q1] at e; cases e; exact (skB_le h).2
    · rw [if_neg q1] at e
      by_cases q2 : (wR b L p).1 = false
      · rw [if_pos q2] at e; cases e; exact hR
      · rw [if_neg q2] at e
        by_cases q3 : wQ b L p = L
        · rw [if_pos q3] at e; cases e
        · rw [if_neg q3] at e
          by_cases q4 : ¬ b (wQ b L p) = nI 59
          · rw [if_pos q4] at e; cases e; exact hQ
          · rw [if_neg q4] at e; exact prS_le n _ q (by omega) e
theorem mu_cg {M N : hM} {a k b : Nat} {x : Int32} (h : M b = N b) : mu M a k x b = mu N a k x b := funext fun j => by
  by_cases e : b = a ∧ j = k
  · rw [mu, mu, if_pos e, if_pos e]
  · rw [mu, mu, if_neg e, if_neg e, h]
theorem tlM_cg {M N : hM} {v : List Nat} {k b : Nat} (h : M b = N b) : tlM v M k b = tlM v N k b := by
  unfold tlM
  split
  all_goals (repeat apply mu_cg)
  all_goals exact h
theorem tlS_cg {M N : hM} {ls : List (Nat × List Nat)} {b : Nat} (h : M b = N b) : ∀ n, tlS ls M n b = tlS ls N n b
  | 0 => h
  | n + 1 => tlM_cg (tlS_cg h n)
set_option maxRecDepth 100000 in
set_option maxHeartbeats 4000000 in
theorem t_X10_week (M : hM) (L : Nat) (hL : L ≤ 200) (eL : M 1 1 = nI L) : Ct 9 mX10_week [.ref 0] M (pX (wkP M L)) := by
  refine ct_of (lv := [some (.ref 0), none, none]) (by decide +kernel) (fun _ _ hq => hq) rfl (fun _ => Nat.le_of_ble_eq_true rfl) (fun X h hr => ?_)
  refine j_aload_n h 1 rfl rfl dX10_week_0 ?_
  refine j_getR h 4 rfl glX10_19 sh_0 rfl dX10_week_1 ?_
  refine j_aload_n h 5 rfl rfl dX10_week_4 ?_
  refine j_getR h 8 rfl glX10_12 sh_0 rfl dX10_week_5 ?_
  refine j_callVX h 11 rfl lkX10_107 sh_3 rfl rfl (t_X5_faultOf _ L hL eL) rfl rfl rfl dX10_week_8 (fun x9 M1 hM9 => ?_)
  obtain ⟨f1, f2, f3⟩ := hM9
  refine j_iconst h 12 rfl (-1) (by decide) dX10_week_11 ?_
  refine j_icmp_eq h 18 15 dX10_week_12 (by decide) rfl (fun c_12 => ?_) (fun c_12 => ?_)
  · have e0 : (prS (M 2) L 8 0).1 = none := by
      cases e : (prS (M 2) L 8 0).1 with
      | none => rfl
      | some q =>
        have hq := prS_le 8 0 q (Nat.zero_le L) e
        rw [e] at f1
        have f1 : x9 = nI q := f1
        rw [f1] at c_12
        exact absurd c_12 (nI_m1 (by omega))
    obtain ⟨f4, f5, f6⟩ := f3 e0
    have hok := prS_ok 8 0 e0
    have goal_is : ∀ M2, (∃ x, ((nI (prS (M 2) L 8 0).2.length : Int32) = x) ∧ (∀ a, 14 ≤ a → a < 29 → M2 a = tlS (prS (M 2) L 8 0).2 M (prS (M 2) L 8 0).2.length a) ∧ (∀ a, (a = 2 ∨ 28 < a) → ¬ a = 78 → M2 a = M a) ∧ M2 1 1 = nI 0 ∧ M2 0 11 = 0 ∧ M2 78 0 = 0) → wkP M L (nI (prS (M 2) L 8 0).2.length) M2 := fun M2 hh => by
      obtain ⟨x, hx, h1, h2, h3, h4, h5⟩ := hh
      unfold wkP; rw [e0]; exact ⟨rfl, h1, h2, h3, h4, h5⟩
    revert f4 f5 f6 hok goal_is
    generalize (prS (M 2) L 8 0).2 = ls
    intro f4 f5 f6 hok goal_is
    obtain ⟨len, hlen⟩ : ∃ n, n = ls.length := ⟨_, rfl⟩
    rw [← hlen] at f4 f5 hok goal_is
    have hfr : ∀ a, (a < 14 ∨ 28 < a) → ∀ n, n ≤ len → tlS ls M1 n a = M1 a := fun a ha n hn => tlS_f ha n (fun i hi => (hok i (by omega)).2)
    refine j_aload_n h 19 rfl rfl dX10_week_18 ?_
    refine j_getR h 22 rfl glX10_19 sh_0 rfl dX10_week_19 ?_
    refine j_callVI h 25 rfl lkX10_111 sh_3 rfl rfl (t_X5_lines _) rfl rfl rfl dX10_week_22 ?_
    refine j_top f4 ?_
    refine j_istore_n h 26 rfl rfl dX10_week_25 ?_
    refine j_iconst h 27 rfl (nI 0) (by decide) dX10_week_26 ?_
    refine j_istore_n h 28 rfl rfl dX10_week_27 ?_
    have K : ∀ n i, len - i < n → i ≤ len → J X 28 [some (.ref 0), some (.int (nI len)), some (.int (nI i))] [] (tlS ls M1 i) := by
      intro n
      induction n with
      | zero => intro i h1; omega
      | succ n ih =>
        intro i h1 h2
        refine j_iload_n h 29 rfl rfl dX10_week_28 ?_
        refine j_iload_n h 30 rfl rfl dX10_week_29 ?_
        refine j_icmp_geN h 62 33 (by omega) (by omega) dX10_week_30 (by decide) rfl (fun c_30 => ?_) (fun c_30 => ?_)
        · skip
          refine j_aload_n h 63 rfl rfl dX10_week_62 ?_
          refine j_getR h 66 rfl glX10_12 sh_0 rfl dX10_week_63 ?_
          refine j_callVV h 69 rfl lkX10_104 sh_1 rfl rfl (t_X8_clear _) rfl rfl rfl dX10_week_66 (fun M9 hM9 => ?_)
          subst hM9
          refine j_aload_n h 70 rfl rfl dX10_week_69 ?_
          refine j_iconst h 71 rfl (nI 0) (by decide) dX10_week_70 ?_
          refine j_putI h 74 rfl plX10_82 sh_0 rfl rfl (by decide) (by decide) dX10_week_71 ?_
          refine j_aload_n h 75 rfl rfl dX10_week_74 ?_
          refine j_getR h 78 rfl glX10_50 sh_0 rfl dX10_week_75 ?_
          refine j_callVV h 81 rfl lkX10_126 sh_78 rfl rfl (t_X0_forget _) rfl rfl rfl dX10_week_78 (fun M9 hM9 => ?_)
          subst hM9
          refine j_iload_n h 82 rfl rfl dX10_week_81 ?_
          exact j_ret h hr rfl dX10_week_82 ⟨_, rfl, by 
      obtain rfl : i = len := by omega
      exact goal_is _ ⟨_, rfl, fun a x y => by rw [mu_f (by omega), mu_f (by omega), mu_f (by omega)]; exact tlS_cg (f2 a (by omega)) _, fun a x y => by
        rw [mu_f (by omega), mu_f (by omega), mu_f (by omega), hfr a (by omega) i (Nat.le_refl i)]; exact f2 a (by omega), by rw [mu_a (by decide), mu_a (by decide), mu_s], by rw [mu_a (by decide), mu_s]; rfl, mu_s⟩⟩
        · skip
          refine j_aload_n h 34 rfl rfl dX10_week_33 ?_
          refine j_getR h 37 rfl glX10_26 sh_0 rfl dX10_week_34 ?_
          refine j_aload_n h 38 rfl rfl dX10_week_37 ?_
          refine j_getR h 41 rfl glX10_19 sh_0 rfl dX10_week_38 ?_
          refine j_iload_n h 42 rfl rfl dX10_week_41 ?_
          obtain ⟨hk, hkl⟩ := hok i (by omega)
          obtain ⟨g4, g6⟩ := f6 i (by omega)
          refine j_callVI h 45 rfl lkX10_114 sh_3 rfl rfl (t_X5_kindOf _ i (by omega)) rfl rfl rfl dX10_week_42 ?_
          rw [hfr 4 (by omega) i (by omega)]
          refine j_top g4 ?_
          refine j_aload_n h 46 rfl rfl dX10_week_45 ?_
          refine j_getR h 49 rfl glX10_19 sh_0 rfl dX10_week_46 ?_
          refine j_iload_n h 50 rfl rfl dX10_week_49 ?_
          refine j_callVR h 53 rfl lkX10_118 sh_3 rfl rfl (t_X5_numbersOf _ i (by omega)) rfl rfl rfl dX10_week_50 ?_
          refine j_callVV h 56 rfl lkX10_122 sh_14 rfl rfl (t_X3_tell _ _ _ i (by omega) (fun j hj => by rw [hfr (6 + i) (by omega) i (by omega)]; exact g6 j hj) hk hkl) rfl rfl rfl dX10_week_53 (fun M9 hM9 => ?_)
          subst hM9
          refine j_iincN h 59 rfl rfl rfl dX10_week_56 ?_
          refine j_goto h 28 dX10_week_59 (by decide) ?_
          exact ih (i + 1) (by omega) (by omega)
    exact K (len + 1) 0 (by omega) (Nat.zero_le len)
  · skip
    refine j_bipush h 17 rfl (-4) (by decide) dX10_week_15 ?_
    exact j_ret h hr rfl dX10_week_17 ⟨_, rfl, by 
      unfold wkP
      cases e : (prS (M 2) L 8 0).1 with
      | none => rw [e] at f1; exact absurd f1 c_12
      | some q => exact ⟨rfl, fun a ha => f2 a (by omega)⟩⟩
/-- a work told -/
def woP (M : hM) (n : Nat) (r c s l : Int32) (y : Int32) (M2 : hM) : Prop :=
  if ¬ inP r (nI 0) (nI 4) then y = -2 ∧ M2 = M else if ¬ (inP c (nI 1) (nI 999) ∧ inP s (nI 0) (nI 100) ∧ inP l (nI 0) (nI 20)) then y = -3 ∧ M2 = M
  else if n = 6 then y = -5 ∧ M2 = M else y = nI n ∧ M2 = mu (mu (mu (mu (mu M 80 n r) 81 n c) 82 n s) 83 n l) 79 4 (nI (n + 1))
def reP (M : hM) (g : Nat) (r h a : Int32) (y : Int32) (M2 : hM) : Prop :=
  if ¬ (inP r (nI 0) (nI 4) ∧ inP h (nI 0) (nI 95)) then y = -2 ∧ M2 = M else if ¬ inP a (-999) (nI 9999) then y = -3 ∧ M2 = M
  else if g = 8 then y = -5 ∧ M2 = M else y = nI (g + 1) ∧ M2 = mu (mu (mu (mu M 85 g r) 86 g h) 87 g a) 84 3 (nI (g + 1))
def ftP (M : hM) (f w d : Int32) (y : Int32) (M2 : hM) : Prop :=
  if ¬ inP f (nI 0) (nI 7) then y = -2 ∧ M2 = M else if ¬ (inP w (nI 0) (nI 99) ∧ inP d (nI 1) (nI 8)) then y = -3 ∧ M2 = M
  else y = 1 ∧ M2 = mu (mu M 89 (tn f) w) 90 (tn f) d
set_option maxRecDepth 100000 in
set_option maxHeartbeats 4000000 in
theorem t_X10_work (M : hM) (r c s l : Int32) (n : Nat) (hn : n ≤ 6) (en : M 79 4 = nI n) : Ct 3 mX10_work [.ref 0, .int r, .int c, .int s, .int l] M (pX (woP M n r c s l)) := by
  refine ct_of (lv := [some (.ref 0), some (.int r), some (.int c), some (.int s), some (.int l)]) (by decide +kernel) (fun _ _ hq => hq) rfl (fun _ => Nat.le_of_ble_eq_true rfl) (fun X h hr => ?_)
  refine j_iload_n h 1 rfl rfl dX10_work_0 ?_
  refine j_callSI h 4 rfl lkX10_153 rfl (t_X10_isRoom _ _) rfl rfl rfl dX10_work_1 ?_
  refine j_if_neB h 10 7 dX10_work_4 (by decide) rfl (fun c_4 => ?_) (fun c_4 => ?_)
  · skip
    refine j_iload_n h 11 rfl rfl dX10_work_10 ?_
    refine j_iconst h 12 rfl (nI 1) (by decide) dX10_work_11 ?_
    refine j_sipush h 15 rfl (nI 999) (by decide) dX10_work_12 ?_
    refine j_callSI h 18 rfl lkX10_86 rfl (t_X10_isWithin _ _ _ _) rfl rfl rfl dX10_work_15 ?_
    refine j_if_eqB h 42 21 dX10_work_18 (by decide) rfl (fun c_18 => ?_) (fun c_18 => ?_)
    · skip
      refine j_bipush h 44 rfl (-3) (by decide) dX10_work_42 ?_
      exact j_ret h hr rfl dX10_work_44 ⟨_, rfl, by unfold woP; rw [if_neg (fun z => z c_4), if_pos (by rintro ⟨z1, z2, z3⟩; first | exact c_18 z1 | exact c_28 z2 | exact c_39 z3)]; exact ⟨rfl, rfl⟩⟩
    · skip
      refine j_iload_n h 22 rfl rfl dX10_work_21 ?_
      refine j_iconst h 23 rfl (nI 0) (by decide) dX10_work_22 ?_
      refine j_bipush h 25 rfl (nI 100) (by decide) dX10_work_23 ?_
      refine j_callSI h 28 rfl lkX10_86 rfl (t_X10_isWithin _ _ _ _) rfl rfl rfl dX10_work_25 ?_
      refine j_if_eqB h 42 31 dX10_work_28 (by decide) rfl (fun c_28 => ?_) (fun c_28 => ?_)
      · skip
        refine j_bipush h 44 rfl (-3) (by decide) dX10_work_42 ?_
        exact j_ret h hr rfl dX10_work_44 ⟨_, rfl, by unfold woP; rw [if_neg (fun z => z c_4), if_pos (by rintro ⟨z1, z2, z3⟩; first | exact c_18 z1 | exact c_28 z2 | exact c_39 z3)]; exact ⟨rfl, rfl⟩⟩
      · skip
        refine j_iload h 33 rfl rfl dX10_work_31 ?_
        refine j_iconst h 34 rfl (nI 0) (by decide) dX10_work_33 ?_
        refine j_bipush h 36 rfl (nI 20) (by decide) dX10_work_34 ?_
        refine j_callSI h 39 rfl lkX10_86 rfl (t_X10_isWithin _ _ _ _) rfl rfl rfl dX10_work_36 ?_
        refine j_if_neB h 45 42 dX10_work_39 (by decide) rfl (fun c_39 => ?_) (fun c_39 => ?_)
        · skip
          refine j_aload_n h 46 rfl rfl dX10_work_45 ?_
          refine j_getR h 49 rfl glX10_57 sh_0 rfl dX10_work_46 ?_
          refine j_callVI h 52 rfl lkX10_217 sh_79 rfl rfl (t_X9_isFull _ n hn en) rfl rfl rfl dX10_work_49 ?_
          refine j_if_eqB h 60 55 dX10_work_52 (by decide) rfl (fun c_52 => ?_) (fun c_52 => ?_)
          · skip
            refine j_aload_n h 61 rfl rfl dX10_work_60 ?_
            refine j_getR h 64 rfl glX10_57 sh_0 rfl dX10_work_61 ?_
            refine j_iload_n h 65 rfl rfl dX10_work_64 ?_
            refine j_iload_n h 66 rfl rfl dX10_work_65 ?_
            refine j_iload_n h 67 rfl rfl dX10_work_66 ?_
            refine j_iload h 69 rfl rfl dX10_work_67 ?_
            refine j_callVX h 72 rfl lkX10_221 sh_79 rfl rfl (t_X9_add _ n (by omega) en r c s l) rfl rfl rfl dX10_work_69 (fun x9 M9 hM9 => ?_)
            exact j_ret h hr rfl dX10_work_72 ⟨_, rfl, by unfold woP; rw [if_neg (fun z => z c_4), if_neg (fun z => z ⟨c_18, c_28, c_39⟩)]; first | (rw [if_pos c_52]; exact ⟨rfl, rfl⟩) | (rw [if_neg c_52]; exact hM9)⟩
          · skip
            refine j_bipush h 57 rfl (-5) (by decide) dX10_work_55 ?_
            refine j_goto h 72 dX10_work_57 (by decide) ?_
            exact j_ret h hr rfl dX10_work_72 ⟨_, rfl, by unfold woP; rw [if_neg (fun z => z c_4), if_neg (fun z => z ⟨c_18, c_28, c_39⟩)]; first | (rw [if_pos c_52]; exact ⟨rfl, rfl⟩) | (rw [if_neg c_52]; exact hM9)⟩
        · skip
          refine j_bipush h 44 rfl (-3) (by decide) dX10_work_42 ?_
          exact j_ret h hr rfl dX10_work_44 ⟨_, rfl, by unfold woP; rw [if_neg (fun z => z c_4), if_pos (by rintro ⟨z1, z2, z3⟩; first | exact c_18 z1 | exact c_28 z2 | exact c_39 z3)]; exact ⟨rfl, rfl⟩⟩
  · skip
    refine j_bipush h 9 rfl (-2) (by decide) dX10_work_7 ?_
    exact j_ret h hr rfl dX10_work_9 ⟨_, rfl, by exact (by unfold woP; rw [if_pos c_4]; exact ⟨rfl, rfl⟩)⟩
set_option maxRecDepth 100000 in
set_option maxHeartbeats 4000000 in
theorem t_X10_read (M : hM) (r x a : Int32) (g : Nat) (hg : g ≤ 8) (eg : M 84 3 = nI g) : Ct 3 mX10_read [.ref 0, .int r, .int x, .int a] M (pX (reP M g r x a)) := by
  refine ct_of (lv := [some (.ref 0), some (.int r), some (.int x), some (.int a)]) (by decide +kernel) (fun _ _ hq => hq) rfl (fun _ => Nat.le_of_ble_eq_true rfl) (fun X h hr => ?_)
  refine j_iload_n h 1 rfl rfl dX10_read_0 ?_
  refine j_callSI h 4 rfl lkX10_153 rfl (t_X10_isRoom _ _) rfl rfl rfl dX10_read_1 ?_
  refine j_if_eqB h 14 7 dX10_read_4 (by decide) rfl (fun c_4 => ?_) (fun c_4 => ?_)
  · skip
    refine j_bipush h 16 rfl (-2) (by decide) dX10_read_14 ?_
    exact j_ret h hr rfl dX10_read_16 ⟨_, rfl, by unfold reP; rw [if_pos (by rintro ⟨z1, z2⟩; first | exact c_4 z1 | exact c_11 z2)]; exact ⟨rfl, rfl⟩⟩
  · skip
    refine j_iload_n h 8 rfl rfl dX10_read_7 ?_
    refine j_callSI h 11 rfl lkX10_160 rfl (t_X10_isHour _ _) rfl rfl rfl dX10_read_8 ?_
    refine j_if_neB h 17 14 dX10_read_11 (by decide) rfl (fun c_11 => ?_) (fun c_11 => ?_)
    · skip
      refine j_iload_n h 18 rfl rfl dX10_read_17 ?_
      refine j_sipush h 21 rfl (-999) (by decide) dX10_read_18 ?_
      refine j_sipush h 24 rfl (nI 9999) (by decide) dX10_read_21 ?_
      refine j_callSI h 27 rfl lkX10_86 rfl (t_X10_isWithin _ _ _ _) rfl rfl rfl dX10_read_24 ?_
      refine j_if_neB h 33 30 dX10_read_27 (by decide) rfl (fun c_27 => ?_) (fun c_27 => ?_)
      · skip
        refine j_aload_n h 34 rfl rfl dX10_read_33 ?_
        refine j_getR h 37 rfl glX10_64 sh_0 rfl dX10_read_34 ?_
        refine j_callVI h 40 rfl lkX10_234 sh_84 rfl rfl (t_X2_isFull _ g hg eg) rfl rfl rfl dX10_read_37 ?_
        refine j_if_eqB h 48 43 dX10_read_40 (by decide) rfl (fun c_40 => ?_) (fun c_40 => ?_)
        · skip
          refine j_aload_n h 49 rfl rfl dX10_read_48 ?_
          refine j_getR h 52 rfl glX10_64 sh_0 rfl dX10_read_49 ?_
          refine j_iload_n h 53 rfl rfl dX10_read_52 ?_
          refine j_iload_n h 54 rfl rfl dX10_read_53 ?_
          refine j_iload_n h 55 rfl rfl dX10_read_54 ?_
          refine j_callVX h 58 rfl lkX10_235 sh_84 rfl rfl (t_X2_add _ g (by omega) eg r x a) rfl rfl rfl dX10_read_55 (fun x9 M9 hM9 => ?_)
          exact j_ret h hr rfl dX10_read_58 ⟨_, rfl, by unfold reP; rw [if_neg (fun z => z ⟨c_4, c_11⟩), if_neg (fun z => z c_27)]; first | (rw [if_pos c_40]; exact ⟨rfl, rfl⟩) | (rw [if_neg c_40]; exact hM9)⟩
        · skip
          refine j_bipush h 45 rfl (-5) (by decide) dX10_read_43 ?_
          refine j_goto h 58 dX10_read_45 (by decide) ?_
          exact j_ret h hr rfl dX10_read_58 ⟨_, rfl, by unfold reP; rw [if_neg (fun z => z ⟨c_4, c_11⟩), if_neg (fun z => z c_27)]; first | (rw [if_pos c_40]; exact ⟨rfl, rfl⟩) | (rw [if_neg c_40]; exact hM9)⟩
      · skip
        refine j_bipush h 32 rfl (-3) (by decide) dX10_read_30 ?_
        exact j_ret h hr rfl dX10_read_32 ⟨_, rfl, by unfold reP; rw [if_neg (fun z => z ⟨c_4, c_11⟩), if_pos c_27]; exact ⟨rfl, rfl⟩⟩
    · skip
      refine j_bipush h 16 rfl (-2) (by decide) dX10_read_14 ?_
      exact j_ret h hr rfl dX10_read_16 ⟨_, rfl, by unfold reP; rw [if_pos (by rintro ⟨z1, z2⟩; first | exact c_4 z1 | exact c_11 z2)]; exact ⟨rfl, rfl⟩⟩
set_option maxRecDepth 100000 in
set_option maxHeartbeats 4000000 in
theorem t_X10_flat (M : hM) (x w d : Int32) : Ct 2 mX10_flat [.ref 0, .int x, .int w, .int d] M (pX (ftP M x w d)) := by
  refine ct_of (lv := [some (.ref 0), some (.int x), some (.int w), some (.int d)]) (by decide +kernel) (fun _ _ hq => hq) rfl (fun _ => Nat.le_of_ble_eq_true rfl) (fun X h hr => ?_)
  refine j_iload_n h 1 rfl rfl dX10_flat_0 ?_
  refine j_iconst h 2 rfl (nI 0) (by decide) dX10_flat_1 ?_
  refine j_bipush h 4 rfl (nI 7) (by decide) dX10_flat_2 ?_
  refine j_callSI h 7 rfl lkX10_86 rfl (t_X10_isWithin _ _ _ _) rfl rfl rfl dX10_flat_4 ?_
  refine j_if_neB h 13 10 dX10_flat_7 (by decide) rfl (fun c_7 => ?_) (fun c_7 => ?_)
  · obtain ⟨k, hk, rfl⟩ := (in_nat (by decide)).mp c_7
    have etn : tn (nI k) = k := tn_nI (by omega)
    refine j_iload_n h 14 rfl rfl dX10_flat_13 ?_
    refine j_iconst h 15 rfl (nI 0) (by decide) dX10_flat_14 ?_
    refine j_bipush h 17 rfl (nI 99) (by decide) dX10_flat_15 ?_
    refine j_callSI h 20 rfl lkX10_86 rfl (t_X10_isWithin _ _ _ _) rfl rfl rfl dX10_flat_17 ?_
    refine j_if_eqB h 33 23 dX10_flat_20 (by decide) rfl (fun c_20 => ?_) (fun c_20 => ?_)
    · skip
      refine j_bipush h 35 rfl (-3) (by decide) dX10_flat_33 ?_
      exact j_ret h hr rfl dX10_flat_35 ⟨_, rfl, by unfold ftP; rw [if_neg (fun z => z c_7), if_pos (by rintro ⟨z1, z2⟩; first | exact c_20 z1 | exact c_30 z2)]; exact ⟨rfl, rfl⟩⟩
    · skip
      refine j_iload_n h 24 rfl rfl dX10_flat_23 ?_
      refine j_iconst h 25 rfl (nI 1) (by decide) dX10_flat_24 ?_
      refine j_bipush h 27 rfl (nI 8) (by decide) dX10_flat_25 ?_
      refine j_callSI h 30 rfl lkX10_86 rfl (t_X10_isWithin _ _ _ _) rfl rfl rfl dX10_flat_27 ?_
      refine j_if_neB h 36 33 dX10_flat_30 (by decide) rfl (fun c_30 => ?_) (fun c_30 => ?_)
      · skip
        refine j_aload_n h 37 rfl rfl dX10_flat_36 ?_
        refine j_getR h 40 rfl glX10_71 sh_0 rfl dX10_flat_37 ?_
        refine j_iload_n h 41 rfl rfl dX10_flat_40 ?_
        refine j_iload_n h 42 rfl rfl dX10_flat_41 ?_
        refine j_iload_n h 43 rfl rfl dX10_flat_42 ?_
        refine j_callVV h 46 rfl lkX10_247 sh_88 rfl rfl (t_X6_tell _ k w d (by omega)) rfl rfl rfl dX10_flat_43 (fun M9 hM9 => ?_)
        subst hM9
        refine j_iconst h 47 rfl (nI 1) (by decide) dX10_flat_46 ?_
        exact j_ret h hr rfl dX10_flat_47 ⟨_, rfl, by unfold ftP; rw [if_neg (fun z => z c_7), if_neg (fun z => z ⟨c_20, c_30⟩), etn]; exact ⟨rfl, rfl⟩⟩
      · skip
        refine j_bipush h 35 rfl (-3) (by decide) dX10_flat_33 ?_
        exact j_ret h hr rfl dX10_flat_35 ⟨_, rfl, by unfold ftP; rw [if_neg (fun z => z c_7), if_pos (by rintro ⟨z1, z2⟩; first | exact c_20 z1 | exact c_30 z2)]; exact ⟨rfl, rfl⟩⟩
  · skip
    refine j_bipush h 12 rfl (-2) (by decide) dX10_flat_10 ?_
    exact j_ret h hr rfl dX10_flat_12 ⟨_, rfl, by unfold ftP; rw [if_pos c_7]; exact ⟨rfl, rfl⟩⟩
