/-! the model: a street -/
theorem fl_bit : ∀ k, k < 256 → ∀ i, i < 8 → ∀ j, j < 8 → (bitP (nI k ^^^ (nI 1 <<< (nI i &&& 31))) (nI j) ↔ if j = i then ¬ bitP (nI k) (nI j) else bitP (nI k) (nI j)) := by decide +kernel
theorem sdL_t {set : Int32} {i : Nat} (h1 : 0 < i) (h2 : bitP set (nI (i - 1))) : sdL set i = 1 := if_pos ⟨h1, h2⟩
theorem sdL_f {set : Int32} {i : Nat} (h : ¬ 0 < i ∨ ¬ bitP set (nI (i - 1))) : sdL set i = 0 := if_neg (fun z => h.elim (fun w => w z.1) (fun w => w z.2))
theorem hasS_x {c w p x y set : Int32} {i n : Nat} (h : x = 0 ↔ y = 0) : hasS c w p x set i n = hasS c w p y set i n := by
  unfold hasS
  by_cases q : x = 0
  · rw [if_neg (fun z => z q), if_neg (fun z => z (h.mp q))]
  · rw [if_pos q, if_pos (fun z => q (h.mpr z))]
def mWs (w set : Int32) (i : Nat) : Int32 := if bitP set (nI i) then w else nI 2 * w
def mHv (c p set : Int32) (i : Nat) : Int32 := if bitP set (nI i) then c - p else nI 0
theorem mh_e {c w p set : Int32} {i n : Nat} : mHv c p set i - nI (sdL set i) * mWs w set i - nI (sdR set i n) * mWs w set i = hasS c w p (hb (bitP set (nI i))) set i n := by
  unfold mHv mWs hasS bsd
  have hL : sdL set i = 0 ∨ sdL set i = 1 := by unfold sdL; split <;> simp
  have hR : sdR set i n = 0 ∨ sdR set i n = 1 := by unfold sdR; split <;> simp
  have n0 : nI 0 = 0 := rfl
  have n1 : nI 1 = 1 := rfl
  have n2 : nI 2 = 2 := rfl
  by_cases q : bitP set (nI i)
  · rw [if_pos q, if_pos q, if_pos (show ¬ hb (bitP set (nI i)) = 0 by rw [hb_t q]; decide)]
    rcases hL with e1 | e1 <;> rcases hR with e2 | e2 <;> rw [e1, e2]
    · show c - p - nI 0 * w - nI 0 * w = c - p - nI 0 * w; rw [n0]; grind
    · show c - p - nI 0 * w - nI 1 * w = c - p - nI 1 * w; rw [n0, n1]; grind
    · show c - p - nI 1 * w - nI 0 * w = c - p - nI 1 * w; rw [n0, n1]; grind
    · show c - p - nI 1 * w - nI 1 * w = c - p - nI 2 * w; rw [n1, n2]; grind
  · rw [if_neg q, if_neg q, if_neg (fun z => z (hb_f q))]
    rcases hL with e1 | e1 <;> rcases hR with e2 | e2 <;> rw [e1, e2]
    · show nI 0 - nI 0 * (nI 2 * w) - nI 0 * (nI 2 * w) = -2 * nI 0 * w; rw [n0, n2]; grind
    · show nI 0 - nI 0 * (nI 2 * w) - nI 1 * (nI 2 * w) = -2 * nI 1 * w; rw [n0, n1, n2]; grind
    · show nI 0 - nI 1 * (nI 2 * w) - nI 0 * (nI 2 * w) = -2 * nI 1 * w; rw [n0, n1, n2]; grind
    · show nI 0 - nI 1 * (nI 2 * w) - nI 1 * (nI 2 * w) = -2 * nI 2 * w; rw [n0, n1, n2]; grind
theorem m0 {a b : Int32} : a - nI 0 = a - nI 0 * b := by rw [nI_0, Int32.zero_mul]
theorem m1 {a b : Int32} : a - b = a - nI 1 * b := by rw [show nI 1 = 1 from rfl, Int32.one_mul]
theorem m00 {a b : Int32} : a = a - nI 0 * b := by rw [nI_0, Int32.zero_mul, Int32.sub_zero]
/-- a house's having, with its own machine the other way -/
theorem st_fl {c w p : Int32} {k i n : Nat} (hk : k < 256) (hi : i < n) (hn : n ≤ 8) : hasS c w p (hb (bitP (nI k ^^^ (nI 1 <<< (nI i &&& 31))) (nI i))) (nI k ^^^ (nI 1 <<< (nI i &&& 31))) i n = hasS c w p (hb (¬ bitP (nI k) (nI i))) (nI k) i n := by
  have e0 := fl_bit k hk i (by omega) i (by omega)
  rw [if_pos rfl] at e0
  have eL : sdL (nI k ^^^ (nI 1 <<< (nI i &&& 31))) i = sdL (nI k) i := by
    unfold sdL
    by_cases q : 0 < i
    · have e := fl_bit k hk i (by omega) (i - 1) (by omega)
      rw [if_neg (by omega)] at e
      simp only [e]
    · rw [if_neg (fun z => q z.1), if_neg (fun z => q z.1)]
  have eR : sdR (nI k ^^^ (nI 1 <<< (nI i &&& 31))) i n = sdR (nI k) i n := by
    unfold sdR
    by_cases q : i + 1 < n
    · have e := fl_bit k hk i (by omega) (i + 1) (by omega)
      rw [if_neg (by omega)] at e
      simp only [e]
    · rw [if_neg (fun z => q z.1), if_neg (fun z => q z.1)]
  unfold hasS bsd
  rw [eL, eR, hb_c e0]
theorem rs_dn {c w p set : Int32} {n i : Nat} (h : rsB c w p set n (i + 1) = true) : rsB c w p set n i = true := by
  cases q : rsB c w p set n i with
  | true => rfl
  | false => rw [rsB_up q (i + 1) (Nat.le_succ i)] at h; cases h
theorem rs_x {c w p set : Int32} {n i : Nat} (h : ¬ rsB c w p set n i = true) : nI 0 = hb (rsB c w p set n (i + 1) = true) := (hb_f (fun z => h (rs_dn z))).symm
theorem rs_1 {c w p set : Int32} {n i : Nat} (h : rsB c w p set n i = true) (q : hasS c w p (nI 0) set i n < hasS c w p (nI 1) set i n ↔ bitP set (nI i)) : nI 1 = hb (rsB c w p set n (i + 1) = true) := (hb_t (by rw [rsB, h, Bool.true_and]; exact decide_eq_true q)).symm
theorem rs_0 {c w p set : Int32} {n i : Nat} (q : ¬ (hasS c w p (nI 0) set i n < hasS c w p (nI 1) set i n ↔ bitP set (nI i))) : nI 0 = hb (rsB c w p set n (i + 1) = true) := (hb_f (fun z => by rw [rsB, Bool.and_eq_true] at z; exact q (of_decide_eq_true z.2))).symm
theorem ow_t {c w p set : Int32} {n i : Nat} (h : bitP set (nI i)) : hasS c w p (hb (bitP set (nI i))) set i n = hasS c w p (nI 1) set i n ∧ hasS c w p (hb (¬ bitP set (nI i))) set i n = hasS c w p (nI 0) set i n := by
  rw [hb_t h, hb_f (fun z => z h)]; exact ⟨rfl, rfl⟩
theorem ow_f {c w p set : Int32} {n i : Nat} (h : ¬ bitP set (nI i)) : hasS c w p (hb (bitP set (nI i))) set i n = hasS c w p (nI 0) set i n ∧ hasS c w p (hb (¬ bitP set (nI i))) set i n = hasS c w p (nI 1) set i n := by
  rw [hb_f h, hb_t h]; exact ⟨rfl, rfl⟩
theorem rs_a {c w p set : Int32} {n i : Nat} (h : rsB c w p set n i = true) (hb1 : bitP set (nI i)) (q : ¬ hasS c w p (hb (bitP set (nI i))) set i n ≤ hasS c w p (hb (¬ bitP set (nI i))) set i n) : nI 1 = hb (rsB c w p set n (i + 1) = true) := rs_1 h (by
  obtain ⟨e1, e2⟩ := ow_t (c := c) (w := w) (p := p) (n := n) hb1
  rw [e1, e2] at q
  exact ⟨fun _ => hb1, fun _ => Int32.not_le.mp q⟩)
theorem rs_b {c w p set : Int32} {n i : Nat} (hb1 : bitP set (nI i)) (q : hasS c w p (hb (bitP set (nI i))) set i n ≤ hasS c w p (hb (¬ bitP set (nI i))) set i n) : nI 0 = hb (rsB c w p set n (i + 1) = true) := rs_0 (by
  obtain ⟨e1, e2⟩ := ow_t (c := c) (w := w) (p := p) (n := n) hb1
  rw [e1, e2] at q
  exact fun z => absurd (z.mpr hb1) (Int32.not_lt.mpr q))
theorem rs_c {c w p set : Int32} {n i : Nat} (h : rsB c w p set n i = true) (hb1 : ¬ bitP set (nI i)) (q : ¬ hasS c w p (hb (bitP set (nI i))) set i n < hasS c w p (hb (¬ bitP set (nI i))) set i n) : nI 1 = hb (rsB c w p set n (i + 1) = true) := rs_1 h (by
  obtain ⟨e1, e2⟩ := ow_f (c := c) (w := w) (p := p) (n := n) hb1
  rw [e1, e2] at q
  exact ⟨fun z => absurd z q, fun z => absurd z hb1⟩)
theorem rs_d {c w p set : Int32} {n i : Nat} (hb1 : ¬ bitP set (nI i)) (q : hasS c w p (hb (bitP set (nI i))) set i n < hasS c w p (hb (¬ bitP set (nI i))) set i n) : nI 0 = hb (rsB c w p set n (i + 1) = true) := rs_0 (by
  obtain ⟨e1, e2⟩ := ow_f (c := c) (w := w) (p := p) (n := n) hb1
  rw [e1, e2] at q
  exact fun z => hb1 (z.mp q))
theorem skS_b {c w p : Int32} {n : Nat} : ∀ k, k ≤ 256 → ((skS c w p n k).1 = 0 ∧ (skS c w p n k).2.1 = -1) ∨ (0 < (skS c w p n k).1 ∧ ¬ (skS c w p n k).2.1 = -1)
  | 0, _ => Or.inl ⟨rfl, rfl⟩
  | k + 1, hk => by
    have ih := skS_b (c := c) (w := w) (p := p) (n := n) k (by omega)
    rw [skS]
    by_cases h : rsB c w p (nI k) n n = true
    · simp only [if_pos h]
      right
      refine ⟨by omega, ?_⟩
      by_cases q : (skS c w p n k).1 = 0 ∨ (skS c w p n k).2.2.1 < alS c w p (nI k) n n
      · rw [if_pos q]; exact nI_m1 (by omega)
      · rw [if_neg q]
        rcases ih with z | z
        · exact absurd (Or.inl z.1) q
        · exact z.2
    · simp only [if_neg h]; exact ih
def tpS (c w p : Int32) (n k : Nat) (u4 : Int32) : Int32 := if k = 0 ∨ u4 < alS c w p (nI k) n n then alS c w p (nI k) n n else u4
theorem sk_no {c w p : Int32} {n k u1 : Nat} {u2 u3 u4 : Int32} (e : skS c w p n k = (u1, u2, u3, u4)) (h : ¬ rsB c w p (nI k) n n = true) : skS c w p n (k + 1) = (u1, u2, u3, tpS c w p n k u4) := by
  rw [skS, e]; simp only [if_neg h]; rfl
theorem sk_new {c w p : Int32} {n k u1 : Nat} {u2 u3 u4 : Int32} (e : skS c w p n k = (u1, u2, u3, u4)) (h : rsB c w p (nI k) n n = true) (q : u1 = 0 ∨ u3 < alS c w p (nI k) n n) : skS c w p n (k + 1) = (u1 + 1, nI k, alS c w p (nI k) n n, tpS c w p n k u4) := by
  rw [skS, e]; simp only [if_pos h, if_pos q]; rfl
theorem sk_old {c w p : Int32} {n k u1 : Nat} {u2 u3 u4 : Int32} (e : skS c w p n k = (u1, u2, u3, u4)) (h : rsB c w p (nI k) n n = true) (q : ¬ (u1 = 0 ∨ u3 < alS c w p (nI k) n n)) : skS c w p n (k + 1) = (u1 + 1, u2, u3, tpS c w p n k u4) := by
  rw [skS, e]; simp only [if_pos h, if_neg q]; rfl
set_option maxRecDepth 100000 in
set_option maxHeartbeats 4000000 in
theorem t_X11_hasBy (M : hM) (set c w p : Int32) (i n : Nat) (hi : i < n) (hn : n ≤ 8) : Ct 2 mX11_hasBy [.int set, .int (nI i), .int (nI n), .int c, .int w, .int p] M (pI (hasS c w p (hb (bitP set (nI i))) set i n) M) := by
  refine ct_of (lv := [some (.int set), some (.int (nI i)), some (.int (nI n)), some (.int c), some (.int w), some (.int p), none, none]) (by decide +kernel) (fun _ _ hq => hq) rfl (fun _ => Nat.le_of_ble_eq_true rfl) (fun X h hr => ?_)
  have K16 : ∀ y, y = mHv c p set i → J X 16 [some (.int set), some (.int (nI i)), some (.int (nI n)), some (.int c), some (.int w), some (.int p), none, none] [.int y] M := by
    intro y hy
    subst hy
    refine j_istore h 18 rfl rfl dX11_hasBy_16 ?_
    have K35 : ∀ y, y = mWs w set i → J X 35 [some (.int set), some (.int (nI i)), some (.int (nI n)), some (.int c), some (.int w), some (.int p), some (.int (mHv c p set i)), none] [.int y] M := by
      intro y hy
      subst hy
      refine j_istore h 37 rfl rfl dX11_hasBy_35 ?_
      have K59 : ∀ y, (mHv c p set i) - y = (mHv c p set i - nI (sdL set i) * mWs w set i) → J X 59 [some (.int set), some (.int (nI i)), some (.int (nI n)), some (.int c), some (.int w), some (.int p), some (.int (mHv c p set i)), some (.int (mWs w set i))] [.int y, .int (mHv c p set i)] M := by
        intro y hy
        refine j_isub h 60 rfl dX11_hasBy_59 ?_
        refine j_top hy ?_
        refine j_istore h 62 rfl rfl dX11_hasBy_60 ?_
        refine j_iload_n h 63 rfl rfl dX11_hasBy_62 ?_
        refine j_iload_n h 64 rfl rfl dX11_hasBy_63 ?_
        refine j_iconst h 65 rfl (nI 1) (by decide) dX11_hasBy_64 ?_
        refine j_isubN h 66 rfl (by omega) dX11_hasBy_65 ?_
        refine j_icmp_geN h 87 69 (by omega) (by omega) dX11_hasBy_66 (by decide) rfl (fun c_66 => ?_) (fun c_66 => ?_)
        · skip
          refine j_iload h 89 rfl rfl dX11_hasBy_87 ?_
          exact j_ret h hr rfl dX11_hasBy_89 ⟨congrArg (fun z => some (Value.int z)) (by rw [← mh_e]; first | (rw [sdR_t (by omega) c_76]; exact m1) | (rw [sdR_f (Or.inr c_76)]; exact m00) | (rw [sdR_f (Or.inl (by omega))]; exact m00)), rfl⟩
        · skip
          refine j_iload_n h 70 rfl rfl dX11_hasBy_69 ?_
          refine j_iload_n h 71 rfl rfl dX11_hasBy_70 ?_
          refine j_iconst h 72 rfl (nI 1) (by decide) dX11_hasBy_71 ?_
          refine j_iaddN h 73 rfl dX11_hasBy_72 ?_
          refine j_callSI h 76 rfl lkX11_127 rfl (t_X11_has _ _ _) rfl rfl rfl dX11_hasBy_73 ?_
          refine j_if_eqB h 87 79 dX11_hasBy_76 (by decide) rfl (fun c_76 => ?_) (fun c_76 => ?_)
          · skip
            refine j_iload h 89 rfl rfl dX11_hasBy_87 ?_
            exact j_ret h hr rfl dX11_hasBy_89 ⟨congrArg (fun z => some (Value.int z)) (by rw [← mh_e]; first | (rw [sdR_t (by omega) c_76]; exact m1) | (rw [sdR_f (Or.inr c_76)]; exact m00) | (rw [sdR_f (Or.inl (by omega))]; exact m00)), rfl⟩
          · skip
            refine j_iload h 81 rfl rfl dX11_hasBy_79 ?_
            refine j_iload h 83 rfl rfl dX11_hasBy_81 ?_
            refine j_isub h 84 rfl dX11_hasBy_83 ?_
            refine j_goto h 89 dX11_hasBy_84 (by decide) ?_
            exact j_ret h hr rfl dX11_hasBy_89 ⟨congrArg (fun z => some (Value.int z)) (by rw [← mh_e]; first | (rw [sdR_t (by omega) c_76]; exact m1) | (rw [sdR_f (Or.inr c_76)]; exact m00) | (rw [sdR_f (Or.inl (by omega))]; exact m00)), rfl⟩
      refine j_iload h 39 rfl rfl dX11_hasBy_37 ?_
      refine j_iload_n h 40 rfl rfl dX11_hasBy_39 ?_
      refine j_if_leN h 58 43 (by omega) dX11_hasBy_40 (by decide) rfl (fun c_40 => ?_) (fun c_40 => ?_)
      · skip
        refine j_iconst h 59 rfl (nI 0) (by decide) dX11_hasBy_58 ?_
        exact K59 _ (by first | (rw [sdL_t c_40 c_50]; exact m1) | (rw [sdL_f (Or.inr c_50)]; exact m0) | (rw [sdL_f (Or.inl (by omega))]; exact m0))
      · skip
        refine j_iload_n h 44 rfl rfl dX11_hasBy_43 ?_
        refine j_iload_n h 45 rfl rfl dX11_hasBy_44 ?_
        refine j_iconst h 46 rfl (nI 1) (by decide) dX11_hasBy_45 ?_
        refine j_isubN h 47 rfl (by omega) dX11_hasBy_46 ?_
        refine j_callSI h 50 rfl lkX11_127 rfl (t_X11_has _ _ _) rfl rfl rfl dX11_hasBy_47 ?_
        refine j_if_eqB h 58 53 dX11_hasBy_50 (by decide) rfl (fun c_50 => ?_) (fun c_50 => ?_)
        · skip
          refine j_iconst h 59 rfl (nI 0) (by decide) dX11_hasBy_58 ?_
          exact K59 _ (by first | (rw [sdL_t c_40 c_50]; exact m1) | (rw [sdL_f (Or.inr c_50)]; exact m0) | (rw [sdL_f (Or.inl (by omega))]; exact m0))
        · skip
          refine j_iload h 55 rfl rfl dX11_hasBy_53 ?_
          refine j_goto h 59 dX11_hasBy_55 (by decide) ?_
          exact K59 _ (by first | (rw [sdL_t c_40 c_50]; exact m1) | (rw [sdL_f (Or.inr c_50)]; exact m0) | (rw [sdL_f (Or.inl (by omega))]; exact m0))
    refine j_iload_n h 19 rfl rfl dX11_hasBy_18 ?_
    refine j_iload_n h 20 rfl rfl dX11_hasBy_19 ?_
    refine j_callSI h 23 rfl lkX11_127 rfl (t_X11_has _ _ _) rfl rfl rfl dX11_hasBy_20 ?_
    refine j_if_eqB h 31 26 dX11_hasBy_23 (by decide) rfl (fun c_23 => ?_) (fun c_23 => ?_)
    · skip
      refine j_iconst h 32 rfl (nI 2) (by decide) dX11_hasBy_31 ?_
      refine j_iload h 34 rfl rfl dX11_hasBy_32 ?_
      refine j_imul h 35 rfl dX11_hasBy_34 ?_
      exact K35 _ (by unfold mWs; first | rw [if_pos c_23] | rw [if_neg c_23])
    · skip
      refine j_iload h 28 rfl rfl dX11_hasBy_26 ?_
      refine j_goto h 35 dX11_hasBy_28 (by decide) ?_
      exact K35 _ (by unfold mWs; first | rw [if_pos c_23] | rw [if_neg c_23])
  refine j_iload_n h 1 rfl rfl dX11_hasBy_0 ?_
  refine j_iload_n h 2 rfl rfl dX11_hasBy_1 ?_
  refine j_callSI h 5 rfl lkX11_127 rfl (t_X11_has _ _ _) rfl rfl rfl dX11_hasBy_2 ?_
  refine j_if_eqB h 15 8 dX11_hasBy_5 (by decide) rfl (fun c_5 => ?_) (fun c_5 => ?_)
  · skip
    refine j_iconst h 16 rfl (nI 0) (by decide) dX11_hasBy_15 ?_
    exact K16 _ (by unfold mHv; first | rw [if_pos c_5] | rw [if_neg c_5])
  · skip
    refine j_iload_n h 9 rfl rfl dX11_hasBy_8 ?_
    refine j_iload h 11 rfl rfl dX11_hasBy_9 ?_
    refine j_isub h 12 rfl dX11_hasBy_11 ?_
    refine j_goto h 16 dX11_hasBy_12 (by decide) ?_
    exact K16 _ (by unfold mHv; first | rw [if_pos c_5] | rw [if_neg c_5])
set_option maxRecDepth 100000 in
set_option maxHeartbeats 4000000 in
theorem t_X11_street (M : hM) (z c w p x : Int32) : Ct 3 mX11_street [.ref 93, .int z, .int c, .int w, .int p, .int x] M (pX (fun y M2 => y = sStreet z c w p x ∧ frM M M2)) := by
  refine ct_of (lv := [some (.ref 93), some (.int z), some (.int c), some (.int w), some (.int p), some (.int x), none, none, none, none, none, none, none, none, none, none]) (by decide +kernel) (fun _ _ hq => hq) rfl (fun _ => Nat.le_of_ble_eq_true rfl) (fun X h hr => ?_)
  refine j_iload_n h 1 rfl rfl dX11_street_0 ?_
  refine j_iconst h 2 rfl (nI 1) (by decide) dX11_street_1 ?_
  refine j_bipush h 4 rfl (nI 8) (by decide) dX11_street_2 ?_
  refine j_callSI h 7 rfl lkX11_120 rfl (t_X11_in _ _ _ _) rfl rfl rfl dX11_street_4 ?_
  refine j_if_eqB h 51 10 dX11_street_7 (by decide) rfl (fun c_7 => ?_) (fun c_7 => ?_)
  · skip
    refine j_bipush h 53 rfl (-3) (by decide) dX11_street_51 ?_
    exact j_ret h hr rfl dX11_street_53 ⟨_, rfl, by unfold sStreet; first | rw [if_neg (fun q => c_7 q.1)]; done | rw [if_neg (fun q => c_17 q.2.1)]; done | rw [if_neg (fun q => c_27 q.2.2.1)]; done | rw [if_neg (fun q => c_38 q.2.2.2.1)]; done | rw [if_neg (fun q => c_48 q.2.2.2.2)]; done, frM_r⟩
  · skip
    refine j_iload_n h 11 rfl rfl dX11_street_10 ?_
    refine j_iconst h 12 rfl (nI 0) (by decide) dX11_street_11 ?_
    refine j_bipush h 14 rfl (nI 99) (by decide) dX11_street_12 ?_
    refine j_callSI h 17 rfl lkX11_120 rfl (t_X11_in _ _ _ _) rfl rfl rfl dX11_street_14 ?_
    refine j_if_eqB h 51 20 dX11_street_17 (by decide) rfl (fun c_17 => ?_) (fun c_17 => ?_)
    · skip
      refine j_bipush h 53 rfl (-3) (by decide) dX11_street_51 ?_
      exact j_ret h hr rfl dX11_street_53 ⟨_, rfl, by unfold sStreet; first | rw [if_neg (fun q => c_7 q.1)]; done | rw [if_neg (fun q => c_17 q.2.1)]; done | rw [if_neg (fun q => c_27 q.2.2.1)]; done | rw [if_neg (fun q => c_38 q.2.2.2.1)]; done | rw [if_neg (fun q => c_48 q.2.2.2.2)]; done, frM_r⟩
    · skip
      refine j_iload_n h 21 rfl rfl dX11_street_20 ?_
      refine j_iconst h 22 rfl (nI 0) (by decide) dX11_street_21 ?_
      refine j_bipush h 24 rfl (nI 99) (by decide) dX11_street_22 ?_
      refine j_callSI h 27 rfl lkX11_120 rfl (t_X11_in _ _ _ _) rfl rfl rfl dX11_street_24 ?_
      refine j_if_eqB h 51 30 dX11_street_27 (by decide) rfl (fun c_27 => ?_) (fun c_27 => ?_)
      · skip
        refine j_bipush h 53 rfl (-3) (by decide) dX11_street_51 ?_
        exact j_ret h hr rfl dX11_street_53 ⟨_, rfl, by unfold sStreet; first | rw [if_neg (fun q => c_7 q.1)]; done | rw [if_neg (fun q => c_17 q.2.1)]; done | rw [if_neg (fun q => c_27 q.2.2.1)]; done | rw [if_neg (fun q => c_38 q.2.2.2.1)]; done | rw [if_neg (fun q => c_48 q.2.2.2.2)]; done, frM_r⟩
      · skip
        refine j_iload h 32 rfl rfl dX11_street_30 ?_
        refine j_iconst h 33 rfl (nI 0) (by decide) dX11_street_32 ?_
        refine j_bipush h 35 rfl (nI 99) (by decide) dX11_street_33 ?_
        refine j_callSI h 38 rfl lkX11_120 rfl (t_X11_in _ _ _ _) rfl rfl rfl dX11_street_35 ?_
        refine j_if_eqB h 51 41 dX11_street_38 (by decide) rfl (fun c_38 => ?_) (fun c_38 => ?_)
        · skip
          refine j_bipush h 53 rfl (-3) (by decide) dX11_street_51 ?_
          exact j_ret h hr rfl dX11_street_53 ⟨_, rfl, by unfold sStreet; first | rw [if_neg (fun q => c_7 q.1)]; done | rw [if_neg (fun q => c_17 q.2.1)]; done | rw [if_neg (fun q => c_27 q.2.2.1)]; done | rw [if_neg (fun q => c_38 q.2.2.2.1)]; done | rw [if_neg (fun q => c_48 q.2.2.2.2)]; done, frM_r⟩
        · skip
          refine j_iload h 43 rfl rfl dX11_street_41 ?_
          refine j_iconst h 44 rfl (nI 0) (by decide) dX11_street_43 ?_
          refine j_iconst h 45 rfl (nI 3) (by decide) dX11_street_44 ?_
          refine j_callSI h 48 rfl lkX11_120 rfl (t_X11_in _ _ _ _) rfl rfl rfl dX11_street_45 ?_
          refine j_if_neB h 54 51 dX11_street_48 (by decide) rfl (fun c_48 => ?_) (fun c_48 => ?_)
          · skip
            have hst : sStreet z c w p x = stV (skS c w p (tn z) (2 ^ tn z)) x := by unfold sStreet; rw [if_pos ⟨c_7, c_17, c_27, c_38, c_48⟩]
            obtain ⟨n, hn1, hn, rfl⟩ : ∃ k, 1 ≤ k ∧ k ≤ 8 ∧ z = nI k := in_18 c_7
            obtain ⟨W, hW1, hW2, hW3, hW4⟩ := pow_N hn
            rw [tn_nI (by omega), ← hW4] at hst
            refine j_iconst h 55 rfl (nI 0) (by decide) dX11_street_54 ?_
            refine j_istore h 57 rfl rfl dX11_street_55 ?_
            refine j_iconst h 58 rfl (-1) (by decide) dX11_street_57 ?_
            refine j_istore h 60 rfl rfl dX11_street_58 ?_
            refine j_iconst h 61 rfl (nI 0) (by decide) dX11_street_60 ?_
            refine j_istore h 63 rfl rfl dX11_street_61 ?_
            refine j_iconst h 64 rfl (nI 0) (by decide) dX11_street_63 ?_
            refine j_istore h 66 rfl rfl dX11_street_64 ?_
            refine j_iconst h 67 rfl (nI 0) (by decide) dX11_street_66 ?_
            refine j_istore h 69 rfl rfl dX11_street_67 ?_
            have L : ∀ (m k u1 : Nat) (u2 u3 u4 : Int32) (z1 z2 z3 z4 z5 : Option Value), W - k < m → k ≤ W → skS c w p n k = (u1, u2, u3, u4) → J X 69 [some (.ref 93), some (.int (nI n)), some (.int c), some (.int w), some (.int p), some (.int x), some (.int (nI u1)), some (.int u2), some (.int u3), some (.int u4), some (.int (nI k)), z1, z2, z3, z4, z5] [] M := by
              intro m
              induction m with
              | zero => intro k u1 u2 u3 u4 z1 z2 z3 z4 z5 h1; omega
              | succ m ih =>
                intro k u1 u2 u3 u4 z1 z2 z3 z4 z5 h1 h2 hs
                have hsb := skS_b (c := c) (w := w) (p := p) (n := n) k (by omega)
                rw [hs] at hsb
                have hsb : (u1 = 0 ∧ u2 = -1) ∨ (0 < u1 ∧ ¬ u2 = -1) := hsb
                have hsl : u1 ≤ k := by have := skS_le (c := c) (w := w) (p := p) (n := n) k; rw [hs] at this; exact this
                refine j_iload h 71 rfl rfl dX11_street_69 ?_
                refine j_iconst h 72 rfl (nI 1) (by decide) dX11_street_71 ?_
                refine j_iload_n h 73 rfl rfl dX11_street_72 ?_
                refine j_ishl h 74 rfl dX11_street_73 ?_
                refine j_top hW3 ?_
                refine j_icmp_geN h 233 77 (by omega) (by omega) dX11_street_74 (by decide) rfl (fun c_74 => ?_) (fun c_74 => ?_)
                · skip
                  obtain rfl : k = W := by omega
                  rw [hs] at hst
                  refine j_iload h 235 rfl rfl dX11_street_233 ?_
                  refine j_if_ne h 243 238 dX11_street_235 (by decide) rfl (fun c_235 => ?_) (fun c_235 => ?_)
                  · skip
                    refine j_iload h 245 rfl rfl dX11_street_243 ?_
                    refine j_iconst h 246 rfl (nI 3) (by decide) dX11_street_245 ?_
                    refine j_icmp_ne h 258 249 dX11_street_246 (by decide) rfl (fun c_246 => ?_) (fun c_246 => ?_)
                    · skip
                      refine j_iload h 260 rfl rfl dX11_street_258 ?_
                      refine j_iconst h 261 rfl (-1) (by decide) dX11_street_260 ?_
                      refine j_icmp_eq h 270 264 dX11_street_261 (by decide) rfl (fun c_261 => ?_) (fun c_261 => ?_)
                      · skip
                        refine j_iload h 272 rfl rfl dX11_street_270 ?_
                        refine j_goto h 281 dX11_street_272 (by decide) ?_
                        exact j_ret h hr rfl dX11_street_281 ⟨_, rfl, by
    rw [hst]
    unfold stV
    first
      | rw [if_pos (show x = nI 0 from c_235)]
      | (rw [c_246, if_neg (by decide), if_neg (by decide), if_neg (by decide)]; exact Int32.add_comm _ _)
      | (have h10 : u1 = 0 := (hsb.resolve_right (fun q => q.2 c_261)).1
         rw [if_neg (show ¬ x = nI 0 from c_235)]
         by_cases q : x = nI 1
         · rw [if_pos q]
         · by_cases q2 : x = nI 2
           · rw [if_neg q, if_pos q2, if_pos h10]; exact c_261
           · exact absurd (z_3 c_48 c_235 q q2) c_246)
      | rw [if_neg (show ¬ x = nI 0 from c_235), if_pos c_267]
      | (have q2 : x = nI 2 := Decidable.not_not.mp (fun q2 => c_246 (z_3 c_48 c_235 c_267 q2))
         have h10 : ¬ u1 = 0 := fun z => by rcases hsb with w | w; exact c_261 w.2; omega
         rw [q2, if_neg (by decide), if_neg (by decide), if_pos rfl, if_neg h10]; exact Int32.add_comm _ _), frM_r⟩
                      · skip
                        refine j_iload h 266 rfl rfl dX11_street_264 ?_
                        refine j_iconst h 267 rfl (nI 1) (by decide) dX11_street_266 ?_
                        refine j_icmp_ne h 275 270 dX11_street_267 (by decide) rfl (fun c_267 => ?_) (fun c_267 => ?_)
                        · skip
                          refine j_iload h 277 rfl rfl dX11_street_275 ?_
                          refine j_ldcw h 280 rfl (nI 100000) cnX11_292 dX11_street_277 ?_
                          refine j_iadd h 281 rfl dX11_street_280 ?_
                          exact j_ret h hr rfl dX11_street_281 ⟨_, rfl, by
    rw [hst]
    unfold stV
    first
      | rw [if_pos (show x = nI 0 from c_235)]
      | (rw [c_246, if_neg (by decide), if_neg (by decide), if_neg (by decide)]; exact Int32.add_comm _ _)
      | (have h10 : u1 = 0 := (hsb.resolve_right (fun q => q.2 c_261)).1
         rw [if_neg (show ¬ x = nI 0 from c_235)]
         by_cases q : x = nI 1
         · rw [if_pos q]
         · by_cases q2 : x = nI 2
           · rw [if_neg q, if_pos q2, if_pos h10]; exact c_261
           · exact absurd (z_3 c_48 c_235 q q2) c_246)
      | rw [if_neg (show ¬ x = nI 0 from c_235), if_pos c_267]
      | (have q2 : x = nI 2 := Decidable.not_not.mp (fun q2 => c_246 (z_3 c_48 c_235 c_267 q2))
         have h10 : ¬ u1 = 0 := fun z => by rcases hsb with w | w; exact c_261 w.2; omega
         rw [q2, if_neg (by decide), if_neg (by decide), if_pos rfl, if_neg h10]; exact Int32.add_comm _ _), frM_r⟩
                        · skip
                          refine j_iload h 272 rfl rfl dX11_street_270 ?_
                          refine j_goto h 281 dX11_street_272 (by decide) ?_
                          exact j_ret h hr rfl dX11_street_281 ⟨_, rfl, by
    rw [hst]
    unfold stV
    first
      | rw [if_pos (show x = nI 0 from c_235)]
      | (rw [c_246, if_neg (by decide), if_neg (by decide), if_neg (by decide)]; exact Int32.add_comm _ _)
      | (have h10 : u1 = 0 := (hsb.resolve_right (fun q => q.2 c_261)).1
         rw [if_neg (show ¬ x = nI 0 from c_235)]
         by_cases q : x = nI 1
         · rw [if_pos q]
         · by_cases q2 : x = nI 2
           · rw [if_neg q, if_pos q2, if_pos h10]; exact c_261
           · exact absurd (z_3 c_48 c_235 q q2) c_246)
      | rw [if_neg (show ¬ x = nI 0 from c_235), if_pos c_267]
      | (have q2 : x = nI 2 := Decidable.not_not.mp (fun q2 => c_246 (z_3 c_48 c_235 c_267 q2))
         have h10 : ¬ u1 = 0 := fun z => by rcases hsb with w | w; exact c_261 w.2; omega
         rw [q2, if_neg (by decide), if_neg (by decide), if_pos rfl, if_neg h10]; exact Int32.add_comm _ _), frM_r⟩
                    · skip
                      refine j_iload h 251 rfl rfl dX11_street_249 ?_
                      refine j_ldcw h 254 rfl (nI 100000) cnX11_292 dX11_street_251 ?_
                      refine j_iadd h 255 rfl dX11_street_254 ?_
                      refine j_goto h 281 dX11_street_255 (by decide) ?_
                      exact j_ret h hr rfl dX11_street_281 ⟨_, rfl, by
    rw [hst]
    unfold stV
    first
      | rw [if_pos (show x = nI 0 from c_235)]
      | (rw [c_246, if_neg (by decide), if_neg (by decide), if_neg (by decide)]; exact Int32.add_comm _ _)
      | (have h10 : u1 = 0 := (hsb.resolve_right (fun q => q.2 c_261)).1
         rw [if_neg (show ¬ x = nI 0 from c_235)]
         by_cases q : x = nI 1
         · rw [if_pos q]
         · by_cases q2 : x = nI 2
           · rw [if_neg q, if_pos q2, if_pos h10]; exact c_261
           · exact absurd (z_3 c_48 c_235 q q2) c_246)
      | rw [if_neg (show ¬ x = nI 0 from c_235), if_pos c_267]
      | (have q2 : x = nI 2 := Decidable.not_not.mp (fun q2 => c_246 (z_3 c_48 c_235 c_267 q2))
         have h10 : ¬ u1 = 0 := fun z => by rcases hsb with w | w; exact c_261 w.2; omega
         rw [q2, if_neg (by decide), if_neg (by decide), if_pos rfl, if_neg h10]; exact Int32.add_comm _ _), frM_r⟩
                  · skip
                    refine j_iload h 240 rfl rfl dX11_street_238 ?_
                    refine j_goto h 281 dX11_street_240 (by decide) ?_
                    exact j_ret h hr rfl dX11_street_281 ⟨_, rfl, by
    rw [hst]
    unfold stV
    first
      | rw [if_pos (show x = nI 0 from c_235)]
      | (rw [c_246, if_neg (by decide), if_neg (by decide), if_neg (by decide)]; exact Int32.add_comm _ _)
      | (have h10 : u1 = 0 := (hsb.resolve_right (fun q => q.2 c_261)).1
         rw [if_neg (show ¬ x = nI 0 from c_235)]
         by_cases q : x = nI 1
         · rw [if_pos q]
         · by_cases q2 : x = nI 2
           · rw [if_neg q, if_pos q2, if_pos h10]; exact c_261
           · exact absurd (z_3 c_48 c_235 q q2) c_246)
      | rw [if_neg (show ¬ x = nI 0 from c_235), if_pos c_267]
      | (have q2 : x = nI 2 := Decidable.not_not.mp (fun q2 => c_246 (z_3 c_48 c_235 c_267 q2))
         have h10 : ¬ u1 = 0 := fun z => by rcases hsb with w | w; exact c_261 w.2; omega
         rw [q2, if_neg (by decide), if_neg (by decide), if_pos rfl, if_neg h10]; exact Int32.add_comm _ _), frM_r⟩
                · skip
                  refine j_iconst h 78 rfl (nI 1) (by decide) dX11_street_77 ?_
                  refine j_istore h 80 rfl rfl dX11_street_78 ?_
                  refine j_iconst h 81 rfl (nI 0) (by decide) dX11_street_80 ?_
                  refine j_istore h 83 rfl rfl dX11_street_81 ?_
                  refine j_iconst h 84 rfl (nI 0) (by decide) dX11_street_83 ?_
                  refine j_istore h 86 rfl rfl dX11_street_84 ?_
                  have L2 : ∀ (m2 i : Nat) (z4 z5 : Option Value), n - i < m2 → i ≤ n → J X 86 [some (.ref 93), some (.int (nI n)), some (.int c), some (.int w), some (.int p), some (.int x), some (.int (nI u1)), some (.int u2), some (.int u3), some (.int u4), some (.int (nI k)), some (.int (hb (rsB c w p (nI k) n i = true))), some (.int (alS c w p (nI k) n i)), some (.int (nI i)), z4, z5] [] M := by
                    intro m2
                    induction m2 with
                    | zero => intro i z4 z5 g1; omega
                    | succ m2 ih2 =>
                      intro i z4 z5 g1 g2
                      refine j_iload h 88 rfl rfl dX11_street_86 ?_
                      refine j_iload_n h 89 rfl rfl dX11_street_88 ?_
                      refine j_icmp_geN h 177 92 (by omega) (by omega) dX11_street_89 (by decide) rfl (fun c_89 => ?_) (fun c_89 => ?_)
                      · skip
                        have K196 : ∀ y, y = tpS c w p n k u4 → J X 196 [some (.ref 93), some (.int (nI n)), some (.int c), some (.int w), some (.int p), some (.int x), some (.int (nI u1)), some (.int u2), some (.int u3), some (.int u4), some (.int (nI k)), some (.int (hb (rsB c w p (nI k) n n = true))), some (.int (alS c w p (nI k) n n)), some (.int (nI i)), z4, z5] [.int y] M := by
                          intro y hy
                          subst hy
                          refine j_istore h 198 rfl rfl dX11_street_196 ?_
                          refine j_iload h 200 rfl rfl dX11_street_198 ?_
                          refine j_if_eqB h 227 203 dX11_street_200 (by decide) rfl (fun c_200 => ?_) (fun c_200 => ?_)
                          · skip
                            refine j_iincN h 230 rfl rfl rfl dX11_street_227 ?_
                            refine j_goto h 69 dX11_street_230 (by decide) ?_
                            first
                              | exact ih (k + 1) _ _ _ _ _ _ _ _ _ (by omega) (by omega) (sk_no hs c_200)
                              | exact ih (k + 1) _ _ _ _ _ _ _ _ _ (by omega) (by omega) (sk_new hs c_200 (Or.inl (by omega)))
                              | exact ih (k + 1) _ _ _ _ _ _ _ _ _ (by omega) (by omega) (sk_new hs c_200 (Or.inr (Int32.not_le.mp c_216)))
                              | exact ih (k + 1) _ _ _ _ _ _ _ _ _ (by omega) (by omega) (sk_old hs c_200 (fun q => q.elim (fun z => c_209 (hsb.resolve_right (fun w => by omega)).2) (Int32.not_lt.mpr c_216)))
                          · skip
                            refine j_iincN h 206 rfl rfl rfl dX11_street_203 ?_
                            refine j_iload h 208 rfl rfl dX11_street_206 ?_
                            refine j_iconst h 209 rfl (-1) (by decide) dX11_street_208 ?_
                            refine j_icmp_eq h 219 212 dX11_street_209 (by decide) rfl (fun c_209 => ?_) (fun c_209 => ?_)
                            · have h10 : u1 = 0 := (hsb.resolve_right (fun q => q.2 c_209)).1
                              refine j_iload h 221 rfl rfl dX11_street_219 ?_
                              refine j_istore h 223 rfl rfl dX11_street_221 ?_
                              refine j_iload h 225 rfl rfl dX11_street_223 ?_
                              refine j_istore h 227 rfl rfl dX11_street_225 ?_
                              refine j_iincN h 230 rfl rfl rfl dX11_street_227 ?_
                              refine j_goto h 69 dX11_street_230 (by decide) ?_
                              first
                                | exact ih (k + 1) _ _ _ _ _ _ _ _ _ (by omega) (by omega) (sk_no hs c_200)
                                | exact ih (k + 1) _ _ _ _ _ _ _ _ _ (by omega) (by omega) (sk_new hs c_200 (Or.inl (by omega)))
                                | exact ih (k + 1) _ _ _ _ _ _ _ _ _ (by omega) (by omega) (sk_new hs c_200 (Or.inr (Int32.not_le.mp c_216)))
                                | exact ih (k + 1) _ _ _ _ _ _ _ _ _ (by omega) (by omega) (sk_old hs c_200 (fun q => q.elim (fun z => c_209 (hsb.resolve_right (fun w => by omega)).2) (Int32.not_lt.mpr c_216)))
                            · skip
                              refine j_iload h 214 rfl rfl dX11_street_212 ?_
                              refine j_iload h 216 rfl rfl dX11_street_214 ?_
                              refine j_icmp_le h 227 219 dX11_street_216 (by decide) rfl (fun c_216 => ?_) (fun c_216 => ?_)
                              · skip
                                refine j_iincN h 230 rfl rfl rfl dX11_street_227 ?_
                                refine j_goto h 69 dX11_street_230 (by decide) ?_
                                first
                                  | exact ih (k + 1) _ _ _ _ _ _ _ _ _ (by omega) (by omega) (sk_no hs c_200)
                                  | exact ih (k + 1) _ _ _ _ _ _ _ _ _ (by omega) (by omega) (sk_new hs c_200 (Or.inl (by omega)))
                                  | exact ih (k + 1) _ _ _ _ _ _ _ _ _ (by omega) (by omega) (sk_new hs c_200 (Or.inr (Int32.not_le.mp c_216)))
                                  | exact ih (k + 1) _ _ _ _ _ _ _ _ _ (by omega) (by omega) (sk_old hs c_200 (fun q => q.elim (fun z => c_209 (hsb.resolve_right (fun w => by omega)).2) (Int32.not_lt.mpr c_216)))
                              · skip
                                refine j_iload h 221 rfl rfl dX11_street_219 ?_
                                refine j_istore h 223 rfl rfl dX11_street_221 ?_
                                refine j_iload h 225 rfl rfl dX11_street_223 ?_
                                refine j_istore h 227 rfl rfl dX11_street_225 ?_
                                refine j_iincN h 230 rfl rfl rfl dX11_street_227 ?_
                                refine j_goto h 69 dX11_street_230 (by decide) ?_
                                first
                                  | exact ih (k + 1) _ _ _ _ _ _ _ _ _ (by omega) (by omega) (sk_no hs c_200)
                                  | exact ih (k + 1) _ _ _ _ _ _ _ _ _ (by omega) (by omega) (sk_new hs c_200 (Or.inl (by omega)))
                                  | exact ih (k + 1) _ _ _ _ _ _ _ _ _ (by omega) (by omega) (sk_new hs c_200 (Or.inr (Int32.not_le.mp c_216)))
                                  | exact ih (k + 1) _ _ _ _ _ _ _ _ _ (by omega) (by omega) (sk_old hs c_200 (fun q => q.elim (fun z => c_209 (hsb.resolve_right (fun w => by omega)).2) (Int32.not_lt.mpr c_216)))
                        obtain rfl : i = n := by omega
                        refine j_iload h 179 rfl rfl dX11_street_177 ?_
                        refine j_if_eqN h 189 182 (by omega) dX11_street_179 (by decide) rfl (fun c_179 => ?_) (fun c_179 => ?_)
                        · skip
                          refine j_iload h 191 rfl rfl dX11_street_189 ?_
                          refine j_goto h 196 dX11_street_191 (by decide) ?_
                          exact K196 _ (by unfold tpS; first | rw [if_pos (Or.inl c_179)] | rw [if_pos (Or.inr (Int32.not_le.mp c_186))] | rw [if_neg (fun q => q.elim (by omega) (Int32.not_lt.mpr c_186))])
                        · skip
                          refine j_iload h 184 rfl rfl dX11_street_182 ?_
                          refine j_iload h 186 rfl rfl dX11_street_184 ?_
                          refine j_icmp_le h 194 189 dX11_street_186 (by decide) rfl (fun c_186 => ?_) (fun c_186 => ?_)
                          · skip
                            refine j_iload h 196 rfl rfl dX11_street_194 ?_
                            exact K196 _ (by unfold tpS; first | rw [if_pos (Or.inl c_179)] | rw [if_pos (Or.inr (Int32.not_le.mp c_186))] | rw [if_neg (fun q => q.elim (by omega) (Int32.not_lt.mpr c_186))])
                          · skip
                            refine j_iload h 191 rfl rfl dX11_street_189 ?_
                            refine j_goto h 196 dX11_street_191 (by decide) ?_
                            exact K196 _ (by unfold tpS; first | rw [if_pos (Or.inl c_179)] | rw [if_pos (Or.inr (Int32.not_le.mp c_186))] | rw [if_neg (fun q => q.elim (by omega) (Int32.not_lt.mpr c_186))])
                      · skip
                        refine j_iload h 94 rfl rfl dX11_street_92 ?_
                        refine j_iload h 96 rfl rfl dX11_street_94 ?_
                        refine j_iload_n h 97 rfl rfl dX11_street_96 ?_
                        refine j_iload_n h 98 rfl rfl dX11_street_97 ?_
                        refine j_iload_n h 99 rfl rfl dX11_street_98 ?_
                        refine j_iload h 101 rfl rfl dX11_street_99 ?_
                        refine j_callSI h 104 rfl lkX11_288 rfl (t_X11_hasBy _ _ _ _ _ _ _ (by omega) hn) rfl rfl rfl dX11_street_101 ?_
                        refine j_istore h 106 rfl rfl dX11_street_104 ?_
                        refine j_iload h 108 rfl rfl dX11_street_106 ?_
                        refine j_iconst h 109 rfl (nI 1) (by decide) dX11_street_108 ?_
                        refine j_iload h 111 rfl rfl dX11_street_109 ?_
                        refine j_ishl h 112 rfl dX11_street_111 ?_
                        refine j_ixor h 113 rfl dX11_street_112 ?_
                        refine j_iload h 115 rfl rfl dX11_street_113 ?_
                        refine j_iload_n h 116 rfl rfl dX11_street_115 ?_
                        refine j_iload_n h 117 rfl rfl dX11_street_116 ?_
                        refine j_iload_n h 118 rfl rfl dX11_street_117 ?_
                        refine j_iload h 120 rfl rfl dX11_street_118 ?_
                        refine j_callSI h 123 rfl lkX11_288 rfl (t_X11_hasBy _ _ _ _ _ _ _ (by omega) hn) rfl rfl rfl dX11_street_120 ?_
                        refine j_top (st_fl (by omega) (by omega) hn) ?_
                        refine j_istore h 125 rfl rfl dX11_street_123 ?_
                        have K162 : ∀ y, y = hb (rsB c w p (nI k) n (i + 1) = true) → J X 162 [some (.ref 93), some (.int (nI n)), some (.int c), some (.int w), some (.int p), some (.int x), some (.int (nI u1)), some (.int u2), some (.int u3), some (.int u4), some (.int (nI k)), some (.int (hb (rsB c w p (nI k) n i = true))), some (.int (alS c w p (nI k) n i)), some (.int (nI i)), some (.int (hasS c w p (hb (bitP (nI k) (nI i))) (nI k) i n)), some (.int (hasS c w p (hb (¬ bitP (nI k) (nI i))) (nI k) i n))] [.int y] M := by
                          intro y hy
                          subst hy
                          refine j_istore h 164 rfl rfl dX11_street_162 ?_
                          refine j_iload h 166 rfl rfl dX11_street_164 ?_
                          refine j_iload h 168 rfl rfl dX11_street_166 ?_
                          refine j_iadd h 169 rfl dX11_street_168 ?_
                          refine j_istore h 171 rfl rfl dX11_street_169 ?_
                          refine j_iincN h 174 rfl rfl rfl dX11_street_171 ?_
                          refine j_goto h 86 dX11_street_174 (by decide) ?_
                          exact ih2 (i + 1) _ _ (by omega) (by omega)
                        refine j_iload h 127 rfl rfl dX11_street_125 ?_
                        refine j_if_eqB h 161 130 dX11_street_127 (by decide) rfl (fun c_127 => ?_) (fun c_127 => ?_)
                        · skip
                          refine j_iconst h 162 rfl (nI 0) (by decide) dX11_street_161 ?_
                          first
                            | exact K162 _ (rs_x c_127)
                            | exact K162 _ (rs_a c_127 c_137 c_144)
                            | exact K162 _ (rs_b c_137 c_144)
                            | exact K162 _ (rs_c c_127 c_137 c_154)
                            | exact K162 _ (rs_d c_137 c_154)
                        · skip
                          refine j_iload h 132 rfl rfl dX11_street_130 ?_
                          refine j_iload h 134 rfl rfl dX11_street_132 ?_
                          refine j_callSI h 137 rfl lkX11_127 rfl (t_X11_has _ _ _) rfl rfl rfl dX11_street_134 ?_
                          refine j_if_eqB h 150 140 dX11_street_137 (by decide) rfl (fun c_137 => ?_) (fun c_137 => ?_)
                          · skip
                            refine j_iload h 152 rfl rfl dX11_street_150 ?_
                            refine j_iload h 154 rfl rfl dX11_street_152 ?_
                            refine j_icmp_lt h 161 157 dX11_street_154 (by decide) rfl (fun c_154 => ?_) (fun c_154 => ?_)
                            · skip
                              refine j_iconst h 162 rfl (nI 0) (by decide) dX11_street_161 ?_
                              first
                                | exact K162 _ (rs_x c_127)
                                | exact K162 _ (rs_a c_127 c_137 c_144)
                                | exact K162 _ (rs_b c_137 c_144)
                                | exact K162 _ (rs_c c_127 c_137 c_154)
                                | exact K162 _ (rs_d c_137 c_154)
                            · skip
                              refine j_iconst h 158 rfl (nI 1) (by decide) dX11_street_157 ?_
                              refine j_goto h 162 dX11_street_158 (by decide) ?_
                              first
                                | exact K162 _ (rs_x c_127)
                                | exact K162 _ (rs_a c_127 c_137 c_144)
                                | exact K162 _ (rs_b c_137 c_144)
                                | exact K162 _ (rs_c c_127 c_137 c_154)
                                | exact K162 _ (rs_d c_137 c_154)
                          · skip
                            refine j_iload h 142 rfl rfl dX11_street_140 ?_
                            refine j_iload h 144 rfl rfl dX11_street_142 ?_
                            refine j_icmp_le h 161 147 dX11_street_144 (by decide) rfl (fun c_144 => ?_) (fun c_144 => ?_)
                            · skip
                              refine j_iconst h 162 rfl (nI 0) (by decide) dX11_street_161 ?_
                              first
                                | exact K162 _ (rs_x c_127)
                                | exact K162 _ (rs_a c_127 c_137 c_144)
                                | exact K162 _ (rs_b c_137 c_144)
                                | exact K162 _ (rs_c c_127 c_137 c_154)
                                | exact K162 _ (rs_d c_137 c_154)
                            · skip
                              refine j_goto h 157 dX11_street_147 (by decide) ?_
                              refine j_iconst h 158 rfl (nI 1) (by decide) dX11_street_157 ?_
                              refine j_goto h 162 dX11_street_158 (by decide) ?_
                              first
                                | exact K162 _ (rs_x c_127)
                                | exact K162 _ (rs_a c_127 c_137 c_144)
                                | exact K162 _ (rs_b c_137 c_144)
                                | exact K162 _ (rs_c c_127 c_137 c_154)
                                | exact K162 _ (rs_d c_137 c_154)
                  have q9 := L2 (n + 1) 0 z4 z5 (by omega) (by omega)
                  rw [hb_t (show rsB c w p (nI k) n 0 = true from rfl)] at q9
                  exact q9
            exact L (W + 1) 0 0 _ _ _ _ _ _ _ _ (by omega) (by omega) rfl
          · skip
            refine j_bipush h 53 rfl (-3) (by decide) dX11_street_51 ?_
            exact j_ret h hr rfl dX11_street_53 ⟨_, rfl, by unfold sStreet; first | rw [if_neg (fun q => c_7 q.1)]; done | rw [if_neg (fun q => c_17 q.2.1)]; done | rw [if_neg (fun q => c_27 q.2.2.1)]; done | rw [if_neg (fun q => c_38 q.2.2.2.1)]; done | rw [if_neg (fun q => c_48 q.2.2.2.2)]; done, frM_r⟩
