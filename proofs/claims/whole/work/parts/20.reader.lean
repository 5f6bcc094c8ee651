/-! Reader: what a text says -/
def frs (f : Nat → Bool) : Nat → Nat → Nat
  | 0, i => i
  | n + 1, i => if f i = true then i else frs f n (i + 1)
def kdS (b : Nat → Int32) (s e : Nat) : Nat := frs (mtB b s e) 10 0
theorem frs_le {f : Nat → Bool} : ∀ n i, i ≤ frs f n i ∧ frs f n i ≤ i + n ∧ (frs f n i < i + n → f (frs f n i) = true)
  | 0, i => ⟨Nat.le_refl i, Nat.le_refl i, fun h => absurd h (Nat.lt_irrefl _)⟩
  | n + 1, i => by
    rw [frs]
    by_cases h : f i = true
    · rw [if_pos h]; exact ⟨Nat.le_refl i, by omega, fun _ => h⟩
    · rw [if_neg h]
      obtain ⟨h1, h2, h3⟩ := frs_le (f := f) n (i + 1)
      exact ⟨by omega, by omega, fun q => h3 (by omega)⟩
def bdI (k i : Nat) : Int32 := hBnd.getD (5 * k + i) 0
/-- numbers of a line of kind k, from place p on: whether all stand, the place behind or of the fault, the numbers -/
def rdN (b : Nat → Int32) (L k : Nat) : Nat → Nat → Nat → Nat → Bool × Nat × List Nat
  | 0, _, p, _ => (true, p, [])
  | n + 1, i, p, f0 => if bdI k i = -1 then (true, p, []) else
    if inP (nuI b (skB b L p) (tkE b L (skB b L p))) (nI 0) (bdI k i) ∧ ¬ (k = 1 ∧ i = 1 ∧ nuI b (skB b L p) (tkE b L (skB b L p)) = nI f0)
    then ((rdN b L k n (i + 1) (tkE b L (skB b L p)) (if i = 0 then (nuI b (skB b L p) (tkE b L (skB b L p))).toNatClampNeg else f0)).1,
      (rdN b L k n (i + 1) (tkE b L (skB b L p)) (if i = 0 then (nuI b (skB b L p) (tkE b L (skB b L p))).toNatClampNeg else f0)).2.1,
      (nuI b (skB b L p) (tkE b L (skB b L p))).toNatClampNeg :: (rdN b L k n (i + 1) (tkE b L (skB b L p)) (if i = 0 then (nuI b (skB b L p) (tkE b L (skB b L p))).toNatClampNeg else f0)).2.2)
    else (false, skB b L p, [])
theorem rdN_le {b : Nat → Int32} {L k : Nat} : ∀ n i p f0, p ≤ L → (rdN b L k n i p f0).2.1 ≤ L
  | 0, _, p, _, h => h
  | n + 1, i, p, f0, h => by
    have h1 := skB_le (b := b) h
    have h2 := tkE_le (b := b) h1.2
    rw [rdN]
    by_cases q1 : bdI k i = -1
    · rw [if_pos q1]; exact h
    · rw [if_neg q1]
      by_cases q2 : inP (nuI b (skB b L p) (tkE b L (skB b L p))) (nI 0) (bdI k i) ∧ ¬ (k = 1 ∧ i = 1 ∧ nuI b (skB b L p) (tkE b L (skB b L p)) = nI f0)
      · rw [if_pos q2]; exact rdN_le n (i + 1) _ _ h2.2.1
      · rw [if_neg q2]; exact h1.2
theorem bd_ok : ∀ k, k < 10 → ∀ i, i < 5 → bdI k i = -1 ∨ ∃ n, n ≤ 600 ∧ bdI k i = nI n := by
  intro k hk i hi
  have h : ∀ k, k < 10 → ∀ i, i < 5 → bdI k i = -1 ∨ ((bdI k i).toNatClampNeg ≤ 600 ∧ bdI k i = nI (bdI k i).toNatClampNeg) := by decide +kernel
  rcases h k hk i hi with h | h
  · exact Or.inl h
  · exact Or.inr ⟨_, h.1, h.2⟩
theorem nat_of_in {x : Int32} {B : Int32} {n : Nat} (hn : n ≤ 600) (eB : B = nI n) (h : inP x (nI 0) B) : x = nI x.toNatClampNeg ∧ x.toNatClampNeg ≤ n := by
  subst eB
  obtain ⟨k, hk, rfl⟩ := (in_nat (by omega)).mp h
  rw [nI_clamp (by omega)]
  exact ⟨rfl, hk⟩
def wT (b : Nat → Int32) (L q : Nat) : Nat := tkE b L (skB b L q)
def wK (b : Nat → Int32) (L q : Nat) : Nat := kdS b (skB b L q) (wT b L q)
def wR (b : Nat → Int32) (L q : Nat) : Bool × Nat × List Nat := rdN b L (wK b L q) 5 0 (wT b L q) 0
def wQ (b : Nat → Int32) (L q : Nat) : Nat := skB b L (wR b L q).2.1
/-- a text: its fault, if there is one, its lines ahead of it -/
def prS (b : Nat → Int32) (L : Nat) : Nat → Nat → Option Nat × List (Nat × List Nat)
  | 0, p => (some (p - 1), [])
  | n + 1, p =>
    if wK b L p = 10 then (some (skB b L p), []) else
    if (wR b L p).1 = false then (some (wR b L p).2.1, []) else
    if wQ b L p = L then (none, [(wK b L p, (wR b L p).2.2)]) else
    if ¬ b (wQ b L p) = nI 59 then (some (wQ b L p), []) else
    ((prS b L n (wQ b L p + 1)).1, (wK b L p, (wR b L p).2.2) :: (prS b L n (wQ b L p + 1)).2)
/-- the reader's cells hold these lines -/
def lnE (M : hM) (ls : List (Nat × List Nat)) : Prop := ∀ i, i < ls.length → M 4 i = nI (ls.getD i (0, [])).1 ∧ ∀ k, k < (ls.getD i (0, [])).2.length → M (6 + i) k = nI ((ls.getD i (0, [])).2.getD k 0)

set_option maxRecDepth 100000 in
set_option maxHeartbeats 4000000 in
theorem t_X5_lines (M : hM) : Ct 1 mX5_lines [.ref 3] M (pI (M 3 2) M) := by
  refine ct_of (lv := [some (.ref 3)]) (by decide +kernel) (fun _ _ hq => hq) rfl (fun _ => Nat.le_of_ble_eq_true rfl) (fun X h hr => ?_)
  refine j_aload_n h 1 rfl rfl dX5_lines_0 ?_
  refine j_getI h 4 rfl glX5_20 sh_3 rfl dX5_lines_1 ?_
  exact j_ret h hr rfl dX5_lines_4 ⟨rfl, rfl⟩
set_option maxRecDepth 100000 in
set_option maxHeartbeats 4000000 in
theorem t_X5_kindOf (M : hM) (i : Nat) (hi : i < 8) : Ct 1 mX5_kindOf [.ref 3, .int (nI i)] M (pI (M 4 i) M) := by
  refine ct_of (lv := [some (.ref 3), some (.int (nI i))]) (by decide +kernel) (fun _ _ hq => hq) rfl (fun _ => Nat.le_of_ble_eq_true rfl) (fun X h hr => ?_)
  refine j_aload_n h 1 rfl rfl dX5_kindOf_0 ?_
  refine j_getR h 4 rfl glX5_11 sh_3 rfl dX5_kindOf_1 ?_
  refine j_iload_n h 5 rfl rfl dX5_kindOf_4 ?_
  refine j_iald h 6 rfl sh_4 _ rfl (by omega) rfl dX5_kindOf_5 ?_
  exact j_ret h hr rfl dX5_kindOf_6 ⟨rfl, rfl⟩
set_option maxRecDepth 100000 in
set_option maxHeartbeats 4000000 in
theorem t_X5_numbersOf (M : hM) (i : Nat) (hi : i < 8) : Ct 1 mX5_numbersOf [.ref 3, .int (nI i)] M (pR (6 + i) M) := by
  refine ct_of (lv := [some (.ref 3), some (.int (nI i))]) (by decide +kernel) (fun _ _ hq => hq) rfl (fun _ => Nat.le_of_ble_eq_true rfl) (fun X h hr => ?_)
  refine j_aload_n h 1 rfl rfl dX5_numbersOf_0 ?_
  refine j_getR h 4 rfl glX5_17 sh_3 rfl dX5_numbersOf_1 ?_
  refine j_iload_n h 5 rfl rfl dX5_numbersOf_4 ?_
  refine j_aald h 6 rfl sh_5 _ rfl (by omega) rfl dX5_numbersOf_5 ?_
  exact j_aret h hr (Or.inr ⟨_, rfl⟩) dX5_numbersOf_6 ⟨rfl, rfl⟩
set_option maxRecDepth 100000 in
set_option maxHeartbeats 4000000 in
theorem t_X3_wordOf (M : hM) (k : Nat) (hk : k < 10) : Ct 1 mX3_wordOf [.int (nI k)] M (pR (500 + k) M) := by
  refine ct_of (lv := [some (.int (nI k))]) (by decide +kernel) (fun _ _ hq => hq) rfl (fun _ => Nat.le_of_ble_eq_true rfl) (fun X h hr => ?_)
  refine j_iload_n h 1 rfl rfl dX3_wordOf_0 ?_
  refine j_tsw h 79 0 [52, 55, 58, 61, 64, 67, 70, 73, 76] dX3_wordOf_1 (by decide) (by decide) (by decide) (by decide) (by decide) (fun i9 t9 ht9 c_1 => ?_) (fun c_1 => ?_)
  · match i9, ht9 with
    | 0, ht9 =>
      cases ht9
      refine j_ldcS h 54 rfl 0 rfl rfl dX3_wordOf_52 ?_
      exact j_aret h hr (Or.inl ⟨_, rfl⟩) dX3_wordOf_54 ⟨by rw [show k = 0 from by have e := (nI_eq (show k < 2 ^ 31 by omega) (show 0 + 0 < 2 ^ 31 by decide)).mp c_1; omega], rfl⟩
    | 1, ht9 =>
      cases ht9
      refine j_ldcS h 57 rfl 1 rfl rfl dX3_wordOf_55 ?_
      exact j_aret h hr (Or.inl ⟨_, rfl⟩) dX3_wordOf_57 ⟨by rw [show k = 1 from by have e := (nI_eq (show k < 2 ^ 31 by omega) (show 0 + 1 < 2 ^ 31 by decide)).mp c_1; omega], rfl⟩
    | 2, ht9 =>
      cases ht9
      refine j_ldcS h 60 rfl 2 rfl rfl dX3_wordOf_58 ?_
      exact j_aret h hr (Or.inl ⟨_, rfl⟩) dX3_wordOf_60 ⟨by rw [show k = 2 from by have e := (nI_eq (show k < 2 ^ 31 by omega) (show 0 + 2 < 2 ^ 31 by decide)).mp c_1; omega], rfl⟩
    | 3, ht9 =>
      cases ht9
      refine j_ldcS h 63 rfl 3 rfl rfl dX3_wordOf_61 ?_
      exact j_aret h hr (Or.inl ⟨_, rfl⟩) dX3_wordOf_63 ⟨by rw [show k = 3 from by have e := (nI_eq (show k < 2 ^ 31 by omega) (show 0 + 3 < 2 ^ 31 by decide)).mp c_1; omega], rfl⟩
    | 4, ht9 =>
      cases ht9
      refine j_ldcS h 66 rfl 4 rfl rfl dX3_wordOf_64 ?_
      exact j_aret h hr (Or.inl ⟨_, rfl⟩) dX3_wordOf_66 ⟨by rw [show k = 4 from by have e := (nI_eq (show k < 2 ^ 31 by omega) (show 0 + 4 < 2 ^ 31 by decide)).mp c_1; omega], rfl⟩
    | 5, ht9 =>
      cases ht9
      refine j_ldcS h 69 rfl 5 rfl rfl dX3_wordOf_67 ?_
      exact j_aret h hr (Or.inl ⟨_, rfl⟩) dX3_wordOf_69 ⟨by rw [show k = 5 from by have e := (nI_eq (show k < 2 ^ 31 by omega) (show 0 + 5 < 2 ^ 31 by decide)).mp c_1; omega], rfl⟩
    | 6, ht9 =>
      cases ht9
      refine j_ldcS h 72 rfl 6 rfl rfl dX3_wordOf_70 ?_
      exact j_aret h hr (Or.inl ⟨_, rfl⟩) dX3_wordOf_72 ⟨by rw [show k = 6 from by have e := (nI_eq (show k < 2 ^ 31 by omega) (show 0 + 6 < 2 ^ 31 by decide)).mp c_1; omega], rfl⟩
    | 7, ht9 =>
      cases ht9
      refine j_ldcS h 75 rfl 7 rfl rfl dX3_wordOf_73 ?_
      exact j_aret h hr (Or.inl ⟨_, rfl⟩) dX3_wordOf_75 ⟨by rw [show k = 7 from by have e := (nI_eq (show k < 2 ^ 31 by omega) (show 0 + 7 < 2 ^ 31 by decide)).mp c_1; omega], rfl⟩
    | 8, ht9 =>
      cases ht9
      refine j_ldcS h 78 rfl 8 rfl rfl dX3_wordOf_76 ?_
      exact j_aret h hr (Or.inl ⟨_, rfl⟩) dX3_wordOf_78 ⟨by rw [show k = 8 from by have e := (nI_eq (show k < 2 ^ 31 by omega) (show 0 + 8 < 2 ^ 31 by decide)).mp c_1; omega], rfl⟩
    | n9 + 9, ht9 => cases ht9
  · skip
    refine j_ldcS h 81 rfl 9 rfl rfl dX3_wordOf_79 ?_
    exact j_aret h hr (Or.inl ⟨_, rfl⟩) dX3_wordOf_81 ⟨by rw [show k = 9 from by have t := tsw_out (by decide) c_1; have t0 : ¬ k = 0 := fun e => t 0 (by decide) (congrArg nI (e.trans (Nat.zero_add 0).symm)); have t1 : ¬ k = 1 := fun e => t 1 (by decide) (congrArg nI (e.trans (Nat.zero_add 1).symm)); have t2 : ¬ k = 2 := fun e => t 2 (by decide) (congrArg nI (e.trans (Nat.zero_add 2).symm)); have t3 : ¬ k = 3 := fun e => t 3 (by decide) (congrArg nI (e.trans (Nat.zero_add 3).symm)); have t4 : ¬ k = 4 := fun e => t 4 (by decide) (congrArg nI (e.trans (Nat.zero_add 4).symm)); have t5 : ¬ k = 5 := fun e => t 5 (by decide) (congrArg nI (e.trans (Nat.zero_add 5).symm)); have t6 : ¬ k = 6 := fun e => t 6 (by decide) (congrArg nI (e.trans (Nat.zero_add 6).symm)); have t7 : ¬ k = 7 := fun e => t 7 (by decide) (congrArg nI (e.trans (Nat.zero_add 7).symm)); have t8 : ¬ k = 8 := fun e => t 8 (by decide) (congrArg nI (e.trans (Nat.zero_add 8).symm)); omega], rfl⟩
def rwP (M : hM) (L p line : Nat) (x : Int32) (M2 : hM) : Prop := x = hb (¬ kdS (M 2) (skB (M 2) L p) (tkE (M 2) L (skB (M 2) L p)) = 10) ∧ (∀ a, a ≠ 3 → a ≠ 4 → M2 a = M a) ∧ (∀ j, j ≠ 3 → M2 3 j = M 3 j) ∧ (∀ j, j ≠ line → M2 4 j = M 4 j) ∧
  (kdS (M 2) (skB (M 2) L p) (tkE (M 2) L (skB (M 2) L p)) = 10 → M2 3 3 = nI (skB (M 2) L p)) ∧ (¬ kdS (M 2) (skB (M 2) L p) (tkE (M 2) L (skB (M 2) L p)) = 10 → M2 3 3 = nI (tkE (M 2) L (skB (M 2) L p)) ∧ M2 4 line = nI (kdS (M 2) (skB (M 2) L p) (tkE (M 2) L (skB (M 2) L p))))
set_option maxRecDepth 100000 in
set_option maxHeartbeats 4000000 in
theorem t_X5_readsWord (M : hM) (p : Nat) (line : Nat) (hli : line < 8) (L : Nat) (hL : L ≤ 200) (eL : M 1 1 = nI L) (hp : p ≤ L) (ep : M 3 3 = nI p) : Ct 7 mX5_readsWord [.ref 3, .ref 1, .int (nI line)] M (pX (rwP M L p line)) := by
  refine ct_of (lv := [some (.ref 3), some (.ref 1), some (.int (nI line)), none, none]) (by decide +kernel) (fun _ _ hq => hq) rfl (fun _ => Nat.le_of_ble_eq_true rfl) (fun X h hr => ?_)
  obtain ⟨a1, a2⟩ := skB_le (b := M 2) hp
  obtain ⟨a3, a4, a5⟩ := tkE_le (b := M 2) a2
  refine j_aload_n h 1 rfl rfl dX5_readsWord_0 ?_
  refine j_aload_n h 2 rfl rfl dX5_readsWord_1 ?_
  refine j_aload_n h 3 rfl rfl dX5_readsWord_2 ?_
  refine j_getI h 6 rfl glX5_24 sh_3 rfl dX5_readsWord_3 ?_
  refine j_top ep ?_
  refine j_callVI h 9 rfl lkX5_34 sh_1 rfl rfl (t_X8_behindBlanks _ _ L hL eL hp) rfl rfl rfl dX5_readsWord_6 ?_
  refine j_putI h 12 rfl plX5_24 sh_3 rfl rfl rfl rfl dX5_readsWord_9 ?_
  refine j_aload_n h 13 rfl rfl dX5_readsWord_12 ?_
  refine j_aload_n h 14 rfl rfl dX5_readsWord_13 ?_
  refine j_getI h 17 rfl glX5_24 sh_3 rfl dX5_readsWord_14 ?_
  rw [mu_s]
  refine j_callVI h 20 rfl lkX5_47 sh_1 rfl rfl (t_X8_endOfToken _ _ L hL (by rw [mu_a (by decide)]; exact eL) a2) rfl rfl rfl dX5_readsWord_17 ?_
  rw [mu_f (show (2 : Nat) ≠ 3 by decide)]
  refine j_istore_n h 21 rfl rfl dX5_readsWord_20 ?_
  refine j_iconst h 22 rfl (nI 0) (by decide) dX5_readsWord_21 ?_
  refine j_istore h 24 rfl rfl dX5_readsWord_22 ?_
  have K : ∀ (n i : Nat), 10 - i < n → i ≤ 10 → frs (mtB (M 2) (skB (M 2) L p) (tkE (M 2) L (skB (M 2) L p))) (10 - i) i = kdS (M 2) (skB (M 2) L p) (tkE (M 2) L (skB (M 2) L p)) → J X 24 [some (.ref 3), some (.ref 1), some (.int (nI line)), some (.int (nI (tkE (M 2) L (skB (M 2) L p)))), some (.int (nI i))] [] (mu M 3 3 (nI (skB (M 2) L p))) := by
    intro n
    induction n with
    | zero => intro i h1; omega
    | succ n ih =>
      intro i h1 h2 h3
      refine j_iload h 26 rfl rfl dX5_readsWord_24 ?_
      refine j_bipush h 28 rfl (nI 10) (by decide) dX5_readsWord_26 ?_
      refine j_icmp_geN h 69 31 (by omega) (by omega) dX5_readsWord_28 (by decide) rfl (fun c_28 => ?_) (fun c_28 => ?_)
      · skip
        refine j_iconst h 70 rfl (nI 0) (by decide) dX5_readsWord_69 ?_
        exact j_ret h hr (by decide) dX5_readsWord_70 ⟨_, rfl, by
    have hk : kdS (M 2) (skB (M 2) L p) (tkE (M 2) L (skB (M 2) L p)) = 10 := by rw [← h3, show 10 - i = 0 by omega, frs]; omega
    refine ⟨?_, fun a g1 g2 => by rw [mu_f g1], fun j g => by rw [mu_k g], fun j g => by rw [mu_a (by decide)], fun _ => mu_s, fun z => absurd hk z⟩
    rw [hb_f]; rfl; omega⟩
      · skip
        refine j_aload_n h 32 rfl rfl dX5_readsWord_31 ?_
        refine j_aload_n h 33 rfl rfl dX5_readsWord_32 ?_
        refine j_getI h 36 rfl glX5_24 sh_3 rfl dX5_readsWord_33 ?_
        rw [mu_s]
        refine j_iload_n h 37 rfl rfl dX5_readsWord_36 ?_
        refine j_iload h 39 rfl rfl dX5_readsWord_37 ?_
        refine j_callSR h 42 rfl lkX5_52 rfl (t_X3_wordOf _ _ (by omega)) rfl rfl rfl dX5_readsWord_39 ?_
        refine j_callVI h 45 rfl lkX5_56 sh_1 rfl rfl (t_X8_spells _ _ _ _ L hL (by rw [mu_a (by decide)]; exact eL) (by omega) (by omega) (by omega)) rfl rfl rfl dX5_readsWord_42 ?_
        rw [mu_f (show (2 : Nat) ≠ 3 by decide)]
        refine j_if_eqB h 63 48 dX5_readsWord_45 (by decide) rfl (fun c_45 => ?_) (fun c_45 => ?_)
        · skip
          refine j_iincN h 66 rfl rfl rfl dX5_readsWord_63 ?_
          refine j_goto h 24 dX5_readsWord_66 (by decide) ?_
          exact ih (i + 1) (by omega) (by omega) (by rw [← h3, show 10 - i = (10 - (i + 1)) + 1 by omega, frs, if_neg c_45])
        · skip
          refine j_aload_n h 49 rfl rfl dX5_readsWord_48 ?_
          refine j_getR h 52 rfl glX5_11 sh_3 rfl dX5_readsWord_49 ?_
          refine j_iload_n h 53 rfl rfl dX5_readsWord_52 ?_
          refine j_iload h 55 rfl rfl dX5_readsWord_53 ?_
          refine j_iast h 56 rfl sh_4 _ rfl (by omega) rfl dX5_readsWord_55 ?_
          refine j_aload_n h 57 rfl rfl dX5_readsWord_56 ?_
          refine j_iload_n h 58 rfl rfl dX5_readsWord_57 ?_
          refine j_putI h 61 rfl plX5_24 sh_3 rfl rfl rfl rfl dX5_readsWord_58 ?_
          refine j_iconst h 62 rfl (nI 1) (by decide) dX5_readsWord_61 ?_
          exact j_ret h hr (by decide) dX5_readsWord_62 ⟨_, rfl, by
    have hk : kdS (M 2) (skB (M 2) L p) (tkE (M 2) L (skB (M 2) L p)) = i := by rw [← h3, show 10 - i = (10 - (i + 1)) + 1 by omega, frs, if_pos c_45]
    refine ⟨?_, fun a g1 g2 => by rw [mu_f g1, mu_f g2, mu_f g1], fun j g => by rw [mu_k g, mu_a (by decide), mu_k g], fun j g => by rw [mu_a (by decide), mu_k g, mu_a (by decide)], fun z => by omega, fun _ => ⟨mu_s, by rw [mu_a (by decide), mu_s, hk]⟩⟩
    rw [hb_t]; rfl; omega⟩
  exact K 11 0 (by omega) (by omega) rfl
set_option maxRecDepth 100000 in
set_option maxHeartbeats 4000000 in
theorem t_X5_isDoorToItself (M : hM) (line : Nat) (hli : line < 8) (k i : Nat) (x : Int32) (hk : k < 10) (ek : M 4 line = nI k) (hi : i < 5) : Ct 1 mX5_isDoorToItself [.ref 3, .int (nI line), .int (nI i), .int x] M (pI (hb (k = 1 ∧ i = 1 ∧ x = M (6 + line) 0)) M) := by
  refine ct_of (lv := [some (.ref 3), some (.int (nI line)), some (.int (nI i)), some (.int x)]) (by decide +kernel) (fun _ _ hq => hq) rfl (fun _ => Nat.le_of_ble_eq_true rfl) (fun X h hr => ?_)
  refine j_aload_n h 1 rfl rfl dX5_isDoorToItself_0 ?_
  refine j_getR h 4 rfl glX5_11 sh_3 rfl dX5_isDoorToItself_1 ?_
  refine j_iload_n h 5 rfl rfl dX5_isDoorToItself_4 ?_
  refine j_iald h 6 rfl sh_4 _ rfl (by omega) rfl dX5_isDoorToItself_5 ?_
  refine j_top ek ?_
  refine j_iconst h 7 rfl (nI 1) (by decide) dX5_isDoorToItself_6 ?_
  refine j_icmp_neN h 31 10 (by omega) (by omega) dX5_isDoorToItself_7 (by decide) rfl (fun c_7 => ?_) (fun c_7 => ?_)
  · skip
    refine j_iconst h 32 rfl (nI 0) (by decide) dX5_isDoorToItself_31 ?_
    exact j_ret h hr (by decide) dX5_isDoorToItself_32 ⟨congrArg (fun z => some (Value.int z)) (by first | (rw [hb_t]; rfl; (first | exact ⟨by omega, by omega, by assumption⟩ | (rintro ⟨z1, z2, z3⟩; first | omega | contradiction))) | (rw [hb_f]; rfl; (first | exact ⟨by omega, by omega, by assumption⟩ | (rintro ⟨z1, z2, z3⟩; first | omega | contradiction)))), rfl⟩
  · skip
    refine j_iload_n h 11 rfl rfl dX5_isDoorToItself_10 ?_
    refine j_iconst h 12 rfl (nI 1) (by decide) dX5_isDoorToItself_11 ?_
    refine j_icmp_neN h 31 15 (by omega) (by omega) dX5_isDoorToItself_12 (by decide) rfl (fun c_12 => ?_) (fun c_12 => ?_)
    · skip
      refine j_iconst h 32 rfl (nI 0) (by decide) dX5_isDoorToItself_31 ?_
      exact j_ret h hr (by decide) dX5_isDoorToItself_32 ⟨congrArg (fun z => some (Value.int z)) (by first | (rw [hb_t]; rfl; (first | exact ⟨by omega, by omega, by assumption⟩ | (rintro ⟨z1, z2, z3⟩; first | omega | contradiction))) | (rw [hb_f]; rfl; (first | exact ⟨by omega, by omega, by assumption⟩ | (rintro ⟨z1, z2, z3⟩; first | omega | contradiction)))), rfl⟩
    · skip
      refine j_iload_n h 16 rfl rfl dX5_isDoorToItself_15 ?_
      refine j_aload_n h 17 rfl rfl dX5_isDoorToItself_16 ?_
      refine j_getR h 20 rfl glX5_17 sh_3 rfl dX5_isDoorToItself_17 ?_
      refine j_iload_n h 21 rfl rfl dX5_isDoorToItself_20 ?_
      refine j_aald h 22 rfl sh_5 _ rfl (by omega) rfl dX5_isDoorToItself_21 ?_
      refine j_iconst h 23 rfl (nI 0) (by decide) dX5_isDoorToItself_22 ?_
      refine j_iald h 24 rfl (shr_5 _ (by omega)) _ rfl (by omega) rfl dX5_isDoorToItself_23 ?_
      refine j_icmp_ne h 31 27 dX5_isDoorToItself_24 (by decide) rfl (fun c_24 => ?_) (fun c_24 => ?_)
      · skip
        refine j_iconst h 32 rfl (nI 0) (by decide) dX5_isDoorToItself_31 ?_
        exact j_ret h hr (by decide) dX5_isDoorToItself_32 ⟨congrArg (fun z => some (Value.int z)) (by first | (rw [hb_t]; rfl; (first | exact ⟨by omega, by omega, by assumption⟩ | (rintro ⟨z1, z2, z3⟩; first | omega | contradiction))) | (rw [hb_f]; rfl; (first | exact ⟨by omega, by omega, by assumption⟩ | (rintro ⟨z1, z2, z3⟩; first | omega | contradiction)))), rfl⟩
      · skip
        refine j_iconst h 28 rfl (nI 1) (by decide) dX5_isDoorToItself_27 ?_
        refine j_goto h 32 dX5_isDoorToItself_28 (by decide) ?_
        exact j_ret h hr (by decide) dX5_isDoorToItself_32 ⟨congrArg (fun z => some (Value.int z)) (by first | (rw [hb_t]; rfl; (first | exact ⟨by omega, by omega, by assumption⟩ | (rintro ⟨z1, z2, z3⟩; first | omega | contradiction))) | (rw [hb_f]; rfl; (first | exact ⟨by omega, by omega, by assumption⟩ | (rintro ⟨z1, z2, z3⟩; first | omega | contradiction)))), rfl⟩
def rnP (M : hM) (L k p line : Nat) (x : Int32) (M2 : hM) : Prop := x = hb ((rdN (M 2) L k 5 0 p 0).1 = true) ∧ (∀ a, a ≠ 3 → a ≠ 6 + line → M2 a = M a) ∧ (∀ j, j ≠ 3 → M2 3 j = M 3 j) ∧ M2 3 3 = nI (rdN (M 2) L k 5 0 p 0).2.1 ∧ ∀ j, j < (rdN (M 2) L k 5 0 p 0).2.2.length → M2 (6 + line) j = nI ((rdN (M 2) L k 5 0 p 0).2.2.getD j 0)
/-- ahead of the i-th number -/
def rnI (M : hM) (L k p line i q f0 : Nat) (pre : List Nat) (M2 : hM) : Prop := (∀ a, a ≠ 3 → a ≠ 6 + line → M2 a = M a) ∧ (∀ j, j ≠ 3 → M2 3 j = M 3 j) ∧ M2 3 3 = nI q ∧ q ≤ L ∧ pre.length = i ∧ (∀ j, j < i → M2 (6 + line) j = nI (pre.getD j 0)) ∧ (0 < i → M2 (6 + line) 0 = nI f0) ∧
  (rdN (M 2) L k 5 0 p 0).1 = (rdN (M 2) L k (5 - i) i q f0).1 ∧ (rdN (M 2) L k 5 0 p 0).2.1 = (rdN (M 2) L k (5 - i) i q f0).2.1 ∧ (rdN (M 2) L k 5 0 p 0).2.2 = pre ++ (rdN (M 2) L k (5 - i) i q f0).2.2
theorem rnI_end {M M2 : hM} {L k p line i q f0 : Nat} {pre : List Nat} (h : rnI M L k p line i q f0 pre M2) (hs : i = 5 ∨ (i < 5 ∧ bdI k i = -1)) : rnP M L k p line (nI 1) M2 := by
  obtain ⟨h1, h2, h3, h4, h5, h6, h7, h8, h9, h10⟩ := h
  have e : rdN (M 2) L k (5 - i) i q f0 = (true, q, []) := by
    rcases hs with hs | ⟨hs, hb⟩
    · rw [hs]; rfl
    · rw [show 5 - i = (5 - (i + 1)) + 1 by omega, rdN, if_pos hb]
  rw [e] at h8 h9 h10
  refine ⟨by rw [hb_t h8]; rfl, h1, h2, by rw [h9]; exact h3, fun j hj => ?_⟩
  rw [h10, List.append_nil] at hj ⊢
  exact h6 j (by omega)
theorem rnI_bad {M M2 : hM} {L k p line i q f0 : Nat} {pre : List Nat} (h : rnI M L k p line i q f0 pre M2) (hi : i < 5) (hb : ¬ bdI k i = -1) (hc : ¬ (inP (nuI (M 2) (skB (M 2) L q) (tkE (M 2) L (skB (M 2) L q))) (nI 0) (bdI k i) ∧ ¬ (k = 1 ∧ i = 1 ∧ nuI (M 2) (skB (M 2) L q) (tkE (M 2) L (skB (M 2) L q)) = nI f0))) : rnP M L k p line (nI 0) (mu M2 3 3 (nI (skB (M 2) L q))) := by
  obtain ⟨h1, h2, h3, h4, h5, h6, h7, h8, h9, h10⟩ := h
  have e : rdN (M 2) L k (5 - i) i q f0 = (false, skB (M 2) L q, []) := by
    rw [show 5 - i = (5 - (i + 1)) + 1 by omega, rdN, if_neg hb, if_neg hc]
  rw [e] at h8 h9 h10
  refine ⟨by rw [hb_f (by rw [h8]; exact Bool.false_ne_true)]; rfl, fun a g1 g2 => by rw [mu_f g1]; exact h1 a g1 g2, fun j g => by rw [mu_k g]; exact h2 j g, by rw [mu_s, h9], fun j hj => ?_⟩
  rw [h10, List.append_nil] at hj ⊢
  rw [mu_a (by omega)]
  exact h6 j (by omega)
theorem rnI_step {M M2 : hM} {L k p line i q f0 : Nat} {pre : List Nat} (hk : k < 10) (h : rnI M L k p line i q f0 pre M2) (hi : i < 5) (hb : ¬ bdI k i = -1) (hc : inP (nuI (M 2) (skB (M 2) L q) (tkE (M 2) L (skB (M 2) L q))) (nI 0) (bdI k i) ∧ ¬ (k = 1 ∧ i = 1 ∧ nuI (M 2) (skB (M 2) L q) (tkE (M 2) L (skB (M 2) L q)) = nI f0)) :
    rnI M L k p line (i + 1) (tkE (M 2) L (skB (M 2) L q)) (if i = 0 then (nuI (M 2) (skB (M 2) L q) (tkE (M 2) L (skB (M 2) L q))).toNatClampNeg else f0) (pre ++ [(nuI (M 2) (skB (M 2) L q) (tkE (M 2) L (skB (M 2) L q))).toNatClampNeg])
      (mu (mu (mu M2 3 3 (nI (skB (M 2) L q))) (6 + line) i (nuI (M 2) (skB (M 2) L q) (tkE (M 2) L (skB (M 2) L q)))) 3 3 (nI (tkE (M 2) L (skB (M 2) L q)))) := by
  obtain ⟨h1, h2, h3, h4, h5, h6, h7, h8, h9, h10⟩ := h
  obtain ⟨n, hn, eB⟩ := (bd_ok k hk i hi).resolve_left hb
  have hv := (nat_of_in hn eB hc.1).1
  have a1 := skB_le (b := M 2) h4
  have a2 := tkE_le (b := M 2) a1.2
  have e : rdN (M 2) L k (5 - i) i q f0 = ((rdN (M 2) L k (5 - (i + 1)) (i + 1) (tkE (M 2) L (skB (M 2) L q)) (if i = 0 then (nuI (M 2) (skB (M 2) L q) (tkE (M 2) L (skB (M 2) L q))).toNatClampNeg else f0)).1, (rdN (M 2) L k (5 - (i + 1)) (i + 1) (tkE (M 2) L (skB (M 2) L q)) (if i = 0 then (nuI (M 2) (skB (M 2) L q) (tkE (M 2) L (skB (M 2) L q))).toNatClampNeg else f0)).2.1, (nuI (M 2) (skB (M 2) L q) (tkE (M 2) L (skB (M 2) L q))).toNatClampNeg :: (rdN (M 2) L k (5 - (i + 1)) (i + 1) (tkE (M 2) L (skB (M 2) L q)) (if i = 0 then (nuI (M 2) (skB (M 2) L q) (tkE (M 2) L (skB (M 2) L q))).toNatClampNeg else f0)).2.2) := by
    rw [show 5 - i = (5 - (i + 1)) + 1 by omega, rdN, if_neg hb, if_pos hc]
  rw [e] at h8 h9 h10
  refine ⟨fun a g1 g2 => by rw [mu_f g1, mu_f g2, mu_f g1]; exact h1 a g1 g2, fun j g => by rw [mu_k g, mu_a (by omega), mu_k g]; exact h2 j g, mu_s, a2.2.1, by rw [List.length_append, h5]; rfl, fun j hj => ?_, fun _ => ?_, h8, h9, by rw [h10, List.append_assoc]; rfl⟩
  · rw [mu_a (by omega)]
    by_cases ej : j = i
    · subst ej
      rw [mu_s, List.getD_eq_getElem?_getD, List.getElem?_append_right (by omega), h5, Nat.sub_self]
      exact hv
    · rw [mu_k ej, mu_a (by omega), List.getD_eq_getElem?_getD, List.getElem?_append_left (by omega), ← List.getD_eq_getElem?_getD]
      exact h6 j (by omega)
  · rw [mu_a (by omega)]
    by_cases e0 : i = 0
    · subst e0
      rw [mu_s, if_pos rfl]
      exact hv
    · rw [mu_k (Ne.symm e0), mu_a (by omega), if_neg e0]
      exact h7 (by omega)
set_option maxRecDepth 100000 in
set_option maxHeartbeats 4000000 in
theorem t_X5_readsNumbers (M : hM) (k p : Nat) (line : Nat) (hli : line < 8) (L : Nat) (hL : L ≤ 200) (eL : M 1 1 = nI L) (hk : k < 10) (ek : M 4 line = nI k) (hp : p ≤ L) (ep : M 3 3 = nI p) : Ct 3 mX5_readsNumbers [.ref 3, .ref 1, .int (nI line)] M (pX (rnP M L k p line)) := by
  refine ct_of (lv := [some (.ref 3), some (.ref 1), some (.int (nI line)), none, none, none, none]) (by decide +kernel) (fun _ _ hq => hq) rfl (fun _ => Nat.le_of_ble_eq_true rfl) (fun X h hr => ?_)
  refine j_aload_n h 1 rfl rfl dX5_readsNumbers_0 ?_
  refine j_getR h 4 rfl glX5_11 sh_3 rfl dX5_readsNumbers_1 ?_
  refine j_iload_n h 5 rfl rfl dX5_readsNumbers_4 ?_
  refine j_iald h 6 rfl sh_4 _ rfl (by omega) rfl dX5_readsNumbers_5 ?_
  refine j_top ek ?_
  refine j_iconst h 7 rfl (nI 5) (by decide) dX5_readsNumbers_6 ?_
  refine j_imulN h 8 rfl dX5_readsNumbers_7 ?_
  refine j_istore_n h 9 rfl rfl dX5_readsNumbers_8 ?_
  refine j_iconst h 10 rfl (nI 0) (by decide) dX5_readsNumbers_9 ?_
  refine j_istore h 12 rfl rfl dX5_readsNumbers_10 ?_
  have K : ∀ (n i q f0 : Nat) (pre : List Nat) (M2 : hM) (z5 z6 : Option Value), 5 - i < n → i ≤ 5 → rnI M L k p line i q f0 pre M2 → J X 12 [some (.ref 3), some (.ref 1), some (.int (nI line)), some (.int (nI (k * 5))), some (.int (nI i)), z5, z6] [] M2 := by
    intro n
    induction n with
    | zero => intro i q f0 pre M2 z5 z6 h1; omega
    | succ n ih =>
      intro i q f0 pre M2 z5 z6 h1 h2 hI
      have e2 : M2 2 = M 2 := hI.1 2 (by decide) (by omega)
      have eL3 : M2 1 1 = nI L := by rw [hI.1 1 (by decide) (by omega)]; exact eL
      have hq := hI.2.2.2.1
      have eq3 := hI.2.2.1
      obtain ⟨a1, a2⟩ := skB_le (b := M 2) hq
      obtain ⟨a3, a4, a5⟩ := tkE_le (b := M 2) a2
      refine j_iload h 14 rfl rfl dX5_readsNumbers_12 ?_
      refine j_iconst h 15 rfl (nI 5) (by decide) dX5_readsNumbers_14 ?_
      refine j_icmp_geN h 118 18 (by omega) (by omega) dX5_readsNumbers_15 (by decide) rfl (fun c_15 => ?_) (fun c_15 => ?_)
      · skip
        refine j_iconst h 119 rfl (nI 1) (by decide) dX5_readsNumbers_118 ?_
        exact j_ret h hr (by decide) dX5_readsNumbers_119 ⟨_, rfl, rnI_end hI (by first | exact Or.inl (by omega) | exact Or.inr ⟨by omega, c_27⟩)⟩
      · skip
        refine j_bnd h 21 rfl flX5_60 dX5_readsNumbers_18 ?_
        refine j_iload_n h 22 rfl rfl dX5_readsNumbers_21 ?_
        refine j_iload h 24 rfl rfl dX5_readsNumbers_22 ?_
        refine j_iaddN h 25 rfl dX5_readsNumbers_24 ?_
        refine j_bndi h 26 rfl (k * 5 + i) rfl (by omega) dX5_readsNumbers_25 ?_
        refine j_top (show hBnd.getD (k * 5 + i) 0 = bdI k i from by unfold bdI; rw [Nat.mul_comm]) ?_
        refine j_iconst h 27 rfl (-1) (by decide) dX5_readsNumbers_26 ?_
        refine j_icmp_eq h 118 30 dX5_readsNumbers_27 (by decide) rfl (fun c_27 => ?_) (fun c_27 => ?_)
        · skip
          refine j_iconst h 119 rfl (nI 1) (by decide) dX5_readsNumbers_118 ?_
          exact j_ret h hr (by decide) dX5_readsNumbers_119 ⟨_, rfl, rnI_end hI (by first | exact Or.inl (by omega) | exact Or.inr ⟨by omega, c_27⟩)⟩
        · skip
          have hbd : ¬ bdI k i = -1 := c_27
          refine j_aload_n h 31 rfl rfl dX5_readsNumbers_30 ?_
          refine j_aload_n h 32 rfl rfl dX5_readsNumbers_31 ?_
          refine j_aload_n h 33 rfl rfl dX5_readsNumbers_32 ?_
          refine j_getI h 36 rfl glX5_24 sh_3 rfl dX5_readsNumbers_33 ?_
          refine j_top eq3 ?_
          refine j_callVI h 39 rfl lkX5_34 sh_1 rfl rfl (t_X8_behindBlanks _ _ L hL eL3 hq) rfl rfl rfl dX5_readsNumbers_36 ?_
          rw [e2]
          refine j_putI h 42 rfl plX5_24 sh_3 rfl rfl rfl rfl dX5_readsNumbers_39 ?_
          refine j_aload_n h 43 rfl rfl dX5_readsNumbers_42 ?_
          refine j_aload_n h 44 rfl rfl dX5_readsNumbers_43 ?_
          refine j_getI h 47 rfl glX5_24 sh_3 rfl dX5_readsNumbers_44 ?_
          rw [mu_s]
          refine j_callVI h 50 rfl lkX5_47 sh_1 rfl rfl (t_X8_endOfToken _ _ L hL (by rw [mu_a (by decide)]; exact eL3) a2) rfl rfl rfl dX5_readsNumbers_47 ?_
          rw [mu_f (show (2 : Nat) ≠ 3 by decide), e2]
          refine j_istore h 52 rfl rfl dX5_readsNumbers_50 ?_
          refine j_aload_n h 53 rfl rfl dX5_readsNumbers_52 ?_
          refine j_aload_n h 54 rfl rfl dX5_readsNumbers_53 ?_
          refine j_getI h 57 rfl glX5_24 sh_3 rfl dX5_readsNumbers_54 ?_
          rw [mu_s]
          refine j_iload h 59 rfl rfl dX5_readsNumbers_57 ?_
          refine j_callVI h 62 rfl lkX5_63 sh_1 rfl rfl (t_X8_numberIn _ _ _ L hL (by rw [mu_a (by decide)]; exact eL3) (by omega) (by omega)) rfl rfl rfl dX5_readsNumbers_59 ?_
          rw [mu_f (show (2 : Nat) ≠ 3 by decide), e2]
          refine j_istore h 64 rfl rfl dX5_readsNumbers_62 ?_
          refine j_iload h 66 rfl rfl dX5_readsNumbers_64 ?_
          refine j_iconst h 67 rfl (nI 0) (by decide) dX5_readsNumbers_66 ?_
          refine j_bnd h 70 rfl flX5_60 dX5_readsNumbers_67 ?_
          refine j_iload_n h 71 rfl rfl dX5_readsNumbers_70 ?_
          refine j_iload h 73 rfl rfl dX5_readsNumbers_71 ?_
          refine j_iaddN h 74 rfl dX5_readsNumbers_73 ?_
          refine j_bndi h 75 rfl (k * 5 + i) rfl (by omega) dX5_readsNumbers_74 ?_
          refine j_top (show hBnd.getD (k * 5 + i) 0 = bdI k i from by unfold bdI; rw [Nat.mul_comm]) ?_
          refine j_callNI h 78 rfl lkX5_67 rfl (t_X10_isWithin _ _ _ _) rfl rfl rfl dX5_readsNumbers_75 ?_
          refine j_if_eqB h 93 81 dX5_readsNumbers_78 (by decide) rfl (fun c_78 => ?_) (fun c_78 => ?_)
          · skip
            refine j_iconst h 94 rfl (nI 0) (by decide) dX5_readsNumbers_93 ?_
            exact j_ret h hr (by decide) dX5_readsNumbers_94 ⟨_, rfl, rnI_bad hI (by omega) hbd (fun z => by first | exact c_78 z.1 | exact z.2 ⟨c_90.1, c_90.2.1, by rw [← eM6 (by omega)]; exact c_90.2.2⟩)⟩
          · skip
            have eM6 : 0 < i → mu M2 3 3 (nI (skB (M 2) L q)) (6 + line) 0 = nI f0 := fun z => by rw [mu_a (by omega)]; exact hI.2.2.2.2.2.2.1 z
            refine j_aload_n h 82 rfl rfl dX5_readsNumbers_81 ?_
            refine j_iload_n h 83 rfl rfl dX5_readsNumbers_82 ?_
            refine j_iload h 85 rfl rfl dX5_readsNumbers_83 ?_
            refine j_iload h 87 rfl rfl dX5_readsNumbers_85 ?_
            refine j_callVI h 90 rfl lkX5_71 sh_3 rfl rfl (t_X5_isDoorToItself _ line hli k i _ hk (by rw [mu_a (by decide), hI.1 4 (by decide) (by omega)]; exact ek) (by omega)) rfl rfl rfl dX5_readsNumbers_87 ?_
            refine j_if_eqB h 95 93 dX5_readsNumbers_90 (by decide) rfl (fun c_90 => ?_) (fun c_90 => ?_)
            · skip
              refine j_aload_n h 96 rfl rfl dX5_readsNumbers_95 ?_
              refine j_getR h 99 rfl glX5_17 sh_3 rfl dX5_readsNumbers_96 ?_
              refine j_iload_n h 100 rfl rfl dX5_readsNumbers_99 ?_
              refine j_aald h 101 rfl sh_5 _ rfl (by omega) rfl dX5_readsNumbers_100 ?_
              refine j_iload h 103 rfl rfl dX5_readsNumbers_101 ?_
              refine j_iload h 105 rfl rfl dX5_readsNumbers_103 ?_
              refine j_iast h 106 rfl (shr_5 _ (by omega)) _ rfl (by omega) rfl dX5_readsNumbers_105 ?_
              refine j_aload_n h 107 rfl rfl dX5_readsNumbers_106 ?_
              refine j_iload h 109 rfl rfl dX5_readsNumbers_107 ?_
              refine j_putI h 112 rfl plX5_24 sh_3 rfl rfl rfl rfl dX5_readsNumbers_109 ?_
              refine j_iincN h 115 rfl rfl rfl dX5_readsNumbers_112 ?_
              refine j_goto h 12 dX5_readsNumbers_115 (by decide) ?_
              exact ih (i + 1) _ _ _ _ _ _ (by omega) (by omega) (rnI_step hk hI (by omega) hbd ⟨c_78, fun z => c_90 ⟨z.1, z.2.1, by rw [eM6 (by omega)]; exact z.2.2⟩⟩)
            · skip
              refine j_iconst h 94 rfl (nI 0) (by decide) dX5_readsNumbers_93 ?_
              exact j_ret h hr (by decide) dX5_readsNumbers_94 ⟨_, rfl, rnI_bad hI (by omega) hbd (fun z => by first | exact c_78 z.1 | exact z.2 ⟨c_90.1, c_90.2.1, by rw [← eM6 (by omega)]; exact c_90.2.2⟩)⟩
  exact K 6 0 p 0 [] M _ _ (by omega) (by omega) ⟨fun a _ _ => rfl, fun j _ => rfl, ep, hp, rfl, fun j hj => absurd hj (Nat.not_lt_zero j), fun h => absurd h (Nat.lt_irrefl 0), rfl, rfl, rfl⟩
