/-! Works -/
def csS (set : Int32) (cost : Nat → Int32) : Nat → Int32
  | 0 => nI 0
  | k + 1 => if bitP set (nI k) then csS set cost k + cost k else csS set cost k
def lkS (M : hM) (set : Int32) (r : Nat) : Nat → Int32
  | 0 => M 14 16
  | k + 1 => if bitP set (nI k) ∧ M 80 k = nI r then lkO (lkS M set r k) (M 83 k) else lkS M set r k
def snS (M : hM) (set : Int32) (r j : Nat) : Nat → Int32
  | 0 => sunC (M 14 13) (M 18 r) (M 22 r) j
  | k + 1 => if bitP set (nI k) ∧ M 80 k = nI r then snO (snS M set r j k) (M 82 k) else snS M set r j k
/-- the plan with a set of the first w works on it -/
def wksP (M : hM) (set : Int32) (w : Nat) : hM := fun a j => if a = 32 then lkS M set j w else if 34 ≤ a ∧ a < 39 then snS M set (a - 34) j w else planOf M a j
def wkE (M N : hM) : Prop := ∀ a, (a = 14 ∨ a = 18 ∨ a = 22 ∨ a = 80 ∨ a = 82 ∨ a = 83) → N a = M a
theorem lkS_cg {M N : hM} {set : Int32} {r : Nat} (h : wkE M N) : ∀ k, lkS N set r k = lkS M set r k
  | 0 => by rw [lkS, lkS, h 14 (by omega)]
  | k + 1 => by rw [lkS, lkS, lkS_cg h k, h 80 (by omega), h 83 (by omega)]
theorem snS_cg {M N : hM} {set : Int32} {r j : Nat} (h : wkE M N) : ∀ k, snS N set r j k = snS M set r j k
  | 0 => by rw [snS, snS, h 14 (by omega), h 18 (by omega), h 22 (by omega)]
  | k + 1 => by rw [snS, snS, snS_cg h k, h 80 (by omega), h 82 (by omega)]
def putI (M : hM) (set : Int32) (k : Nat) (M2 : hM) : Prop := (∀ a, (a < 32 ∨ 38 < a ∨ a = 33) → M2 a = M a) ∧ ∀ r, r < 5 → M2 32 r = lkS M set r k ∧ ∀ j, j < 24 → M2 (34 + r) j = snS M set r j k
theorem putI_f {M M2 : hM} {set : Int32} {k : Nat} (h : putI M set k M2) (hb : ¬ bitP set (nI k)) : putI M set (k + 1) M2 := by
  refine ⟨h.1, fun r hr => ?_⟩
  rw [lkS, if_neg (fun z => hb z.1)]
  refine ⟨(h.2 r hr).1, fun j hj => ?_⟩
  rw [snS, if_neg (fun z => hb z.1)]
  exact (h.2 r hr).2 j hj
theorem putI_t {M M2 M3 : hM} {set : Int32} {k r0 : Nat} (h : putI M set k M2) (hb : bitP set (nI k)) (hr0 : r0 < 5) (e0 : M 80 k = nI r0) (h3 : pwP M2 r0 (M 82 k) (M 83 k) M3) : putI M set (k + 1) M3 := by
  obtain ⟨g1, g2, g3, g4⟩ := h3
  refine ⟨fun a ha => ?_, fun r hr => ?_⟩
  · rw [g1 a (by omega) (by omega)]; exact h.1 a ha
  · by_cases e : r = r0
    · subst e
      rw [lkS, if_pos ⟨hb, e0⟩]
      refine ⟨by rw [g3, (h.2 r hr).1], fun j hj => ?_⟩
      rw [snS, if_pos ⟨hb, e0⟩, g4 j hj, (h.2 r hr).2 j hj]
    · have hne : ¬ (bitP set (nI k) ∧ M 80 k = nI r) := fun z => e ((nI_eq (by omega) (by omega)).mp (z.2.symm.trans e0))
      rw [lkS, if_neg hne]
      refine ⟨by rw [g2 r e]; exact (h.2 r hr).1, fun j hj => ?_⟩
      rw [snS, if_neg hne, g1 (34 + r) (by omega) (by omega)]
      exact (h.2 r hr).2 j hj
theorem csS_t {s : Int32} {c : Nat → Int32} {k : Nat} (h : bitP s (nI k)) : csS s c k + c k = csS s c (k + 1) := by rw [csS, if_pos h]
theorem csS_f {s : Int32} {c : Nat → Int32} {k : Nat} (h : ¬ bitP s (nI k)) : csS s c k = csS s c (k + 1) := by rw [csS, if_neg h]
/-- the first of the least among those that cost no more -/
def wbS (c f : Nat → Int32) (sum : Int32) : Nat → Nat × Int32
  | 0 => (0, nI 0)
  | n + 1 => if c n ≤ sum then (if n = 0 ∨ f n < (wbS c f sum n).2 then (n, f n) else wbS c f sum n) else wbS c f sum n
theorem pow_W {w : Nat} (hw : w ≤ 6) : ∃ W, W ≤ 64 ∧ 0 < W ∧ nI 1 <<< (nI w &&& 31) = nI W ∧ W = 2 ^ w := by
  rcases (by omega : w = 0 ∨ w = 1 ∨ w = 2 ∨ w = 3 ∨ w = 4 ∨ w = 5 ∨ w = 6) with rfl | rfl | rfl | rfl | rfl | rfl | rfl <;> exact ⟨_, by decide, by decide, by decide, rfl⟩
theorem bit0 : ∀ k, k < 6 → ¬ bitP (nI 0) (nI k) := by decide
theorem csS_0 {c : Nat → Int32} : ∀ k, k ≤ 6 → csS (nI 0) c k = nI 0
  | 0, _ => rfl
  | k + 1, h => by rw [csS, if_neg (bit0 k (by omega))]; exact csS_0 k (by omega)
def wkF (M : hM) (w : Nat) (n : Nat) : Int32 := nAll (wksP M (nI n) w)
def wkC (M : hM) (w : Nat) (n : Nat) : Int32 := csS (nI n) (M 81) w
def wkFr (M M2 : hM) : Prop := (∀ a, (a < 29 ∨ (39 < a ∧ a < 59) ∨ (77 < a ∧ a ≠ 79)) → M2 a = M a) ∧ ∀ j, j ≠ 5 → j ≠ 6 → M2 79 j = M 79 j
def ffI (M : hM) (w : Nat) (sum : Int32) (n : Nat) (M2 : hM) : Prop := wkFr M M2 ∧ (M2 29 5 = planOf M 29 5 ∧ M2 29 6 = planOf M 29 6 ∧ (∀ r, r < 5 → M2 30 r = planOf M 30 r ∧ M2 31 r = planOf M 31 r) ∧ ∀ h, h < 96 → M2 39 h = planOf M 39 h) ∧ (0 < n → M2 79 5 = nI (wbS (wkC M w) (wkF M w) sum n).1 ∧ M2 79 6 = (wbS (wkC M w) (wkF M w) sum n).2)
theorem ffI_no {M M2 : hM} {w n : Nat} {sum : Int32} (hI : ffI M w sum n M2) (hs : nI 0 ≤ sum) (hw : w ≤ 6) (h : ¬ wkC M w n ≤ sum) : ffI M w sum (n + 1) M2 := by
  refine ⟨hI.1, hI.2.1, fun _ => ?_⟩
  rw [wbS, if_neg h]
  refine hI.2.2 ?_
  rcases Nat.eq_zero_or_pos n with z | z
  · subst z
    exact absurd (by unfold wkC; rw [csS_0 w hw]; exact hs) h
  · exact z
/-- works off, works on, the week: behind them NIGHT of all is the set's -/
theorem ff_run {M M2 M3 M4 M5 : hM} {w n : Nat} {sum : Int32} (hI : ffI M w sum n M2) (h3 : offP M2 5 M3) (h4 : putI M3 (nI n) w M4) (h5 : runI M4 59 96 0 M5) :
    naS (M5 15) (fun r => nS (M5 (59 + 4 + r)) 96) 5 = wkF M w n ∧ (∀ a, (a < 32 ∨ (38 < a ∧ a < 63) ∨ 77 < a) → M5 a = M2 a) := by
  obtain ⟨⟨f1, f1'⟩, ⟨f2, f3, f4, f5⟩, -⟩ := hI
  obtain ⟨g1, g2⟩ := h3
  obtain ⟨k1, k2⟩ := h4
  have hE : wkE M M3 := fun a ha => by rw [g1 a (by omega)]; exact f1 a (by omega)
  have hpl : plEq M4 (wksP M (nI n) w) := by
    refine ⟨fun a ha hb => ?_, ?_, ?_, fun r hr => ⟨?_, ?_, ?_, fun j hj => ?_⟩, fun h hh => ?_⟩
    · rw [k1 a (by omega), g1 a (by omega), f1 a (by omega)]
      funext j
      unfold wksP planOf
      rw [if_neg (by omega), if_neg (by omega), if_neg (by omega), if_neg (by omega), if_neg (by omega), if_neg (by omega), if_neg (by omega), if_neg (by omega), if_pos ⟨ha, hb⟩]
    · rw [k1 29 (by omega), g1 29 (by omega)]; exact f2
    · rw [k1 29 (by omega), g1 29 (by omega)]; exact f3
    · rw [k1 30 (by omega), g1 30 (by omega)]; exact (f4 r hr).1
    · rw [k1 31 (by omega), g1 31 (by omega)]; exact (f4 r hr).2
    · rw [(k2 r hr).1, lkS_cg hE w]; rfl
    · rw [(k2 r hr).2 j hj, snS_cg hE w]
      unfold wksP
      rw [if_neg (by omega), if_pos (by omega), show 34 + r - 34 = r by omega]
    · rw [k1 39 (by omega), g1 39 (by omega)]; exact f5 h hh
  have r1 := h5.1
  refine ⟨crs_all (run_crs hpl h5) (fun r hr => by rw [r1 15 (by omega)]; exact congrFun (hpl.1 15 (by decide) (by decide)) r), fun a ha => ?_⟩
  rw [r1 a (by omega), k1 a (by omega), g1 a (by omega)]
theorem ffI_fr {M M2 M5 : hM} {w n : Nat} {sum : Int32} (hI : ffI M w sum n M2) (hf : ∀ a, (a < 32 ∨ (38 < a ∧ a < 63) ∨ 77 < a) → M5 a = M2 a) : ffI M w sum n M5 := by
  obtain ⟨⟨f1, f1'⟩, ⟨f2, f3, f4, f5⟩, f6⟩ := hI
  refine ⟨⟨fun a ha => by rw [hf a (by omega)]; exact f1 a ha, fun j a b => by rw [hf 79 (by omega)]; exact f1' j a b⟩, ⟨by rw [hf 29 (by omega)]; exact f2, by rw [hf 29 (by omega)]; exact f3, fun r hr => by rw [hf 30 (by omega), hf 31 (by omega)]; exact f4 r hr, fun h hh => by rw [hf 39 (by omega)]; exact f5 h hh⟩, fun z => by rw [hf 79 (by omega)]; exact f6 z⟩
theorem ffI_yes {M M2 : hM} {w n : Nat} {sum : Int32} (hI : ffI M w sum n M2) (h : wkC M w n ≤ sum) (hn : n = 0 ∨ wkF M w n < M2 79 6) : ffI M w sum (n + 1) (mu (mu M2 79 5 (nI n)) 79 6 (wkF M w n)) := by
  obtain ⟨⟨f1, f1'⟩, ⟨f2, f3, f4, f5⟩, f6⟩ := hI
  refine ⟨⟨fun a ha => by rw [mu_f (by omega), mu_f (by omega)]; exact f1 a ha, fun j a b => by rw [mu_k b, mu_k a]; exact f1' j a b⟩, ⟨by rw [mu_f (by omega), mu_f (by omega)]; exact f2, by rw [mu_f (by omega), mu_f (by omega)]; exact f3, fun r hr => by rw [mu_f (by omega), mu_f (by omega), mu_f (by omega), mu_f (by omega)]; exact f4 r hr, fun k hk => by rw [mu_f (by omega), mu_f (by omega)]; exact f5 k hk⟩, fun _ => ?_⟩
  have q : n = 0 ∨ wkF M w n < (wbS (wkC M w) (wkF M w) sum n).2 := by
    rcases Nat.eq_zero_or_pos n with z | z
    · exact Or.inl z
    · rcases hn with q | q
      · exact Or.inl q
      · rw [(f6 z).2] at q; exact Or.inr q
  rw [wbS, if_pos h, if_pos q]
  exact ⟨by rw [mu_k (by decide), mu_s], mu_s⟩
theorem ffI_keep {M M2 : hM} {w n : Nat} {sum : Int32} (hI : ffI M w sum n M2) (h : wkC M w n ≤ sum) (h0 : ¬ n = 0) (hn : M2 79 6 ≤ wkF M w n) : ffI M w sum (n + 1) M2 := by
  obtain ⟨a1, a2⟩ := hI.2.2 (by omega)
  refine ⟨hI.1, hI.2.1, fun _ => ?_⟩
  rw [wbS, if_pos h, if_neg]
  · exact ⟨a1, a2⟩
  · rintro (z | z)
    · exact h0 z
    · rw [a2] at hn; exact absurd z (Int32.not_lt.mpr hn)

set_option maxRecDepth 100000 in
set_option maxHeartbeats 4000000 in
theorem t_X9_size (M : hM) : Ct 1 mX9_size [.ref 79] M (pI (M 79 4) M) := by
  refine ct_of (lv := [some (.ref 79)]) (by decide +kernel) (fun _ _ hq => hq) rfl (fun _ => Nat.le_of_ble_eq_true rfl) (fun X h hr => ?_)
  refine j_aload_n h 1 rfl rfl dX9_size_0 ?_
  refine j_getI h 4 rfl glX9_24 sh_79 rfl dX9_size_1 ?_
  exact j_ret h hr rfl dX9_size_4 ⟨rfl, rfl⟩
set_option maxRecDepth 100000 in
set_option maxHeartbeats 4000000 in
theorem t_X9_bestSet (M : hM) : Ct 1 mX9_bestSet [.ref 79] M (pI (M 79 5) M) := by
  refine ct_of (lv := [some (.ref 79)]) (by decide +kernel) (fun _ _ hq => hq) rfl (fun _ => Nat.le_of_ble_eq_true rfl) (fun X h hr => ?_)
  refine j_aload_n h 1 rfl rfl dX9_bestSet_0 ?_
  refine j_getI h 4 rfl glX9_62 sh_79 rfl dX9_bestSet_1 ?_
  exact j_ret h hr rfl dX9_bestSet_4 ⟨rfl, rfl⟩
set_option maxRecDepth 100000 in
set_option maxHeartbeats 4000000 in
theorem t_X9_bestNight (M : hM) : Ct 1 mX9_bestNight [.ref 79] M (pI (M 79 6) M) := by
  refine ct_of (lv := [some (.ref 79)]) (by decide +kernel) (fun _ _ hq => hq) rfl (fun _ => Nat.le_of_ble_eq_true rfl) (fun X h hr => ?_)
  refine j_aload_n h 1 rfl rfl dX9_bestNight_0 ?_
  refine j_getI h 4 rfl glX9_59 sh_79 rfl dX9_bestNight_1 ?_
  exact j_ret h hr rfl dX9_bestNight_4 ⟨rfl, rfl⟩
set_option maxRecDepth 100000 in
set_option maxHeartbeats 4000000 in
theorem t_X9_isFull (M : hM) (w : Nat) (hw : w ≤ 6) (ew : M 79 4 = nI w) : Ct 1 mX9_isFull [.ref 79] M (pI (hb (w = 6)) M) := by
  refine ct_of (lv := [some (.ref 79)]) (by decide +kernel) (fun _ _ hq => hq) rfl (fun _ => Nat.le_of_ble_eq_true rfl) (fun X h hr => ?_)
  refine j_aload_n h 1 rfl rfl dX9_isFull_0 ?_
  refine j_getI h 4 rfl glX9_24 sh_79 rfl dX9_isFull_1 ?_
  refine j_top ew ?_
  refine j_bipush h 6 rfl (nI 6) (by decide) dX9_isFull_4 ?_
  refine j_icmp_ltN h 13 9 (by omega) (by omega) dX9_isFull_6 (by decide) rfl (fun c_6 => ?_) (fun c_6 => ?_)
  · skip
    refine j_iconst h 14 rfl (nI 0) (by decide) dX9_isFull_13 ?_
    exact j_ret h hr (by decide) dX9_isFull_14 ⟨congrArg (fun z => some (Value.int z)) (by first | (rw [hb_t]; rfl; omega) | (rw [hb_f]; rfl; omega)), rfl⟩
  · skip
    refine j_iconst h 10 rfl (nI 1) (by decide) dX9_isFull_9 ?_
    refine j_goto h 14 dX9_isFull_10 (by decide) ?_
    exact j_ret h hr (by decide) dX9_isFull_14 ⟨congrArg (fun z => some (Value.int z)) (by first | (rw [hb_t]; rfl; omega) | (rw [hb_f]; rfl; omega)), rfl⟩
set_option maxRecDepth 100000 in
set_option maxHeartbeats 4000000 in
theorem t_X9_costOf (M : hM) (s : Int32) (w : Nat) (hw : w ≤ 6) (ew : M 79 4 = nI w) : Ct 2 mX9_costOf [.ref 79, .int s] M (pI (csS s (M 81) w) M) := by
  refine ct_of (lv := [some (.ref 79), some (.int s), none, none]) (by decide +kernel) (fun _ _ hq => hq) rfl (fun _ => Nat.le_of_ble_eq_true rfl) (fun X h hr => ?_)
  refine j_iconst h 1 rfl (nI 0) (by decide) dX9_costOf_0 ?_
  refine j_istore_n h 2 rfl rfl dX9_costOf_1 ?_
  refine j_iconst h 3 rfl (nI 0) (by decide) dX9_costOf_2 ?_
  refine j_istore_n h 4 rfl rfl dX9_costOf_3 ?_
  have L : ∀ (n i : Nat) (x : Int32), w - i < n → i ≤ w → x = csS s (M 81) i → J X 4 [some (.ref 79), some (.int s), some (.int x), some (.int (nI i))] [] M := by
    intro n
    induction n with
    | zero => intro i x h1; omega
    | succ n ih =>
      intro i x h1 h2 hx
      subst hx
      refine j_iload_n h 5 rfl rfl dX9_costOf_4 ?_
      refine j_aload_n h 6 rfl rfl dX9_costOf_5 ?_
      refine j_getI h 9 rfl glX9_24 sh_79 rfl dX9_costOf_6 ?_
      refine j_top ew ?_
      refine j_icmp_geN h 35 12 (by omega) (by omega) dX9_costOf_9 (by decide) rfl (fun c_9 => ?_) (fun c_9 => ?_)
      · skip
        refine j_iload_n h 36 rfl rfl dX9_costOf_35 ?_
        exact j_ret h hr rfl dX9_costOf_36 ⟨congrArg (fun z => some (Value.int z)) (by rw [show i = w by omega]), rfl⟩
      · skip
        refine j_iload_n h 13 rfl rfl dX9_costOf_12 ?_
        refine j_iload_n h 14 rfl rfl dX9_costOf_13 ?_
        refine j_callNI h 17 rfl lkX9_65 rfl (t_X10_hasBit _ _ _) rfl rfl rfl dX9_costOf_14 ?_
        refine j_if_eqB h 29 20 dX9_costOf_17 (by decide) rfl (fun c_17 => ?_) (fun c_17 => ?_)
        · skip
          refine j_iincN h 32 rfl rfl rfl dX9_costOf_29 ?_
          refine j_goto h 4 dX9_costOf_32 (by decide) ?_
          exact ih (i + 1) _ (by omega) (by omega) (by first | exact csS_t c_17 | exact csS_f c_17)
        · skip
          refine j_iload_n h 21 rfl rfl dX9_costOf_20 ?_
          refine j_aload_n h 22 rfl rfl dX9_costOf_21 ?_
          refine j_getR h 25 rfl glX9_15 sh_79 rfl dX9_costOf_22 ?_
          refine j_iload_n h 26 rfl rfl dX9_costOf_25 ?_
          refine j_iald h 27 rfl sh_81 _ rfl (by omega) rfl dX9_costOf_26 ?_
          refine j_iadd h 28 rfl dX9_costOf_27 ?_
          refine j_istore_n h 29 rfl rfl dX9_costOf_28 ?_
          refine j_iincN h 32 rfl rfl rfl dX9_costOf_29 ?_
          refine j_goto h 4 dX9_costOf_32 (by decide) ?_
          exact ih (i + 1) _ (by omega) (by omega) (by first | exact csS_t c_17 | exact csS_f c_17)
  exact L (w + 1) 0 _ (by omega) (by omega) rfl
set_option maxRecDepth 100000 in
set_option maxHeartbeats 4000000 in
theorem t_X9_put (M : hM) (s : Int32) (w : Nat) (hw : w ≤ 6) (ew : M 79 4 = nI w) (hrm : ∀ i, i < w → ∃ r, r < 5 ∧ M 80 i = nI r) (h0 : ∀ r, r < 5 → M 32 r = lkS M s r 0 ∧ ∀ j, j < 24 → M (34 + r) j = snS M s r j 0) : Ct 2 mX9_put [.ref 79, .int s, .ref 29] M (pV (putI M s w)) := by
  refine ct_of (lv := [some (.ref 79), some (.int s), some (.ref 29), none]) (by decide +kernel) (fun _ _ hq => hq) rfl (fun _ => Nat.le_of_ble_eq_true rfl) (fun X h hr => ?_)
  refine j_iconst h 1 rfl (nI 0) (by decide) dX9_put_0 ?_
  refine j_istore_n h 2 rfl rfl dX9_put_1 ?_
  have L : ∀ (n i : Nat) (M2 : hM), w - i < n → i ≤ w → putI M s i M2 → J X 2 [some (.ref 79), some (.int s), some (.ref 29), some (.int (nI i))] [] M2 := by
    intro n
    induction n with
    | zero => intro i M2 h1; omega
    | succ n ih =>
      intro i M2 h1 h2 hI
      have ew2 : M2 79 4 = nI w := by rw [hI.1 79 (by omega)]; exact ew
      refine j_iload_n h 3 rfl rfl dX9_put_2 ?_
      refine j_aload_n h 4 rfl rfl dX9_put_3 ?_
      refine j_getI h 7 rfl glX9_24 sh_79 rfl dX9_put_4 ?_
      refine j_top ew2 ?_
      refine j_icmp_geN h 46 10 (by omega) (by omega) dX9_put_7 (by decide) rfl (fun c_7 => ?_) (fun c_7 => ?_)
      · skip
        exact j_vret h hr dX9_put_46 ⟨rfl, by rw [show w = i by omega]; exact hI⟩
      · skip
        refine j_iload_n h 11 rfl rfl dX9_put_10 ?_
        refine j_iload_n h 12 rfl rfl dX9_put_11 ?_
        refine j_callNI h 15 rfl lkX9_65 rfl (t_X10_hasBit _ _ _) rfl rfl rfl dX9_put_12 ?_
        refine j_if_eqB h 40 18 dX9_put_15 (by decide) rfl (fun c_15 => ?_) (fun c_15 => ?_)
        · skip
          refine j_iincN h 43 rfl rfl rfl dX9_put_40 ?_
          refine j_goto h 2 dX9_put_43 (by decide) ?_
          first
            | exact ih (i + 1) _ (by omega) (by omega) (putI_t hI c_15 hr9 er9 hM9)
            | exact ih (i + 1) _ (by omega) (by omega) (putI_f hI c_15)
        · skip
          refine j_aload_n h 19 rfl rfl dX9_put_18 ?_
          refine j_aload_n h 20 rfl rfl dX9_put_19 ?_
          refine j_getR h 23 rfl glX9_11 sh_79 rfl dX9_put_20 ?_
          refine j_iload_n h 24 rfl rfl dX9_put_23 ?_
          refine j_iald h 25 rfl sh_80 _ rfl (by omega) rfl dX9_put_24 ?_
          obtain ⟨r9, hr9, er9⟩ := hrm i (by omega)
          rw [hI.1 80 (by omega)]
          refine j_top er9 ?_
          refine j_aload_n h 26 rfl rfl dX9_put_25 ?_
          refine j_getR h 29 rfl glX9_18 sh_79 rfl dX9_put_26 ?_
          refine j_iload_n h 30 rfl rfl dX9_put_29 ?_
          refine j_iald h 31 rfl sh_82 _ rfl (by omega) rfl dX9_put_30 ?_
          rw [hI.1 82 (by omega)]
          refine j_aload_n h 32 rfl rfl dX9_put_31 ?_
          refine j_getR h 35 rfl glX9_21 sh_79 rfl dX9_put_32 ?_
          refine j_iload_n h 36 rfl rfl dX9_put_35 ?_
          refine j_iald h 37 rfl sh_83 _ rfl (by omega) rfl dX9_put_36 ?_
          rw [hI.1 83 (by omega)]
          refine j_callVV h 40 rfl lkX9_69 sh_29 rfl rfl (t_X4_putWork _ _ _ _ (by omega)) rfl rfl rfl dX9_put_37 (fun M9 hM9 => ?_)
          refine j_iincN h 43 rfl rfl rfl dX9_put_40 ?_
          refine j_goto h 2 dX9_put_43 (by decide) ?_
          first
            | exact ih (i + 1) _ (by omega) (by omega) (putI_t hI c_15 hr9 er9 hM9)
            | exact ih (i + 1) _ (by omega) (by omega) (putI_f hI c_15)
  exact L (w + 1) 0 _ (by omega) (by omega) ⟨fun a _ => rfl, h0⟩
set_option maxRecDepth 100000 in
set_option maxHeartbeats 4000000 in
theorem t_X9_add (M : hM) (w : Nat) (hw : w < 6) (ew : M 79 4 = nI w) (r c s l : Int32) : Ct 2 mX9_add [.ref 79, .int r, .int c, .int s, .int l] M (pX (fun x M2 => x = nI w ∧ M2 = mu (mu (mu (mu (mu M 80 w r) 81 w c) 82 w s) 83 w l) 79 4 (nI (w + 1)))) := by
  refine ct_of (lv := [some (.ref 79), some (.int r), some (.int c), some (.int s), some (.int l)]) (by decide +kernel) (fun _ _ hq => hq) rfl (fun _ => Nat.le_of_ble_eq_true rfl) (fun X h hr => ?_)
  refine j_aload_n h 1 rfl rfl dX9_add_0 ?_
  refine j_callVI h 4 rfl lkX9_28 sh_79 rfl rfl (t_X9_isFull _ w (by omega) ew) rfl rfl rfl dX9_add_1 ?_
  refine j_if_eqB h 10 7 dX9_add_4 (by decide) rfl (fun c_4 => ?_) (fun c_4 => by omega)
  refine j_aload_n h 11 rfl rfl dX9_add_10 ?_
  refine j_getR h 14 rfl glX9_11 sh_79 rfl dX9_add_11 ?_
  refine j_aload_n h 15 rfl rfl dX9_add_14 ?_
  refine j_getI h 18 rfl glX9_24 sh_79 rfl dX9_add_15 ?_
  refine j_top ew ?_
  refine j_iload_n h 19 rfl rfl dX9_add_18 ?_
  refine j_iast h 20 rfl sh_80 _ rfl (by omega) rfl dX9_add_19 ?_
  refine j_aload_n h 21 rfl rfl dX9_add_20 ?_
  refine j_getR h 24 rfl glX9_15 sh_79 rfl dX9_add_21 ?_
  refine j_aload_n h 25 rfl rfl dX9_add_24 ?_
  refine j_getI h 28 rfl glX9_24 sh_79 rfl dX9_add_25 ?_
  rw [mu_a (by decide)]
  refine j_top ew ?_
  refine j_iload_n h 29 rfl rfl dX9_add_28 ?_
  refine j_iast h 30 rfl sh_81 _ rfl (by omega) rfl dX9_add_29 ?_
  refine j_aload_n h 31 rfl rfl dX9_add_30 ?_
  refine j_getR h 34 rfl glX9_18 sh_79 rfl dX9_add_31 ?_
  refine j_aload_n h 35 rfl rfl dX9_add_34 ?_
  refine j_getI h 38 rfl glX9_24 sh_79 rfl dX9_add_35 ?_
  rw [mu_a (by decide), mu_a (by decide)]
  refine j_top ew ?_
  refine j_iload_n h 39 rfl rfl dX9_add_38 ?_
  refine j_iast h 40 rfl sh_82 _ rfl (by omega) rfl dX9_add_39 ?_
  refine j_aload_n h 41 rfl rfl dX9_add_40 ?_
  refine j_getR h 44 rfl glX9_21 sh_79 rfl dX9_add_41 ?_
  refine j_aload_n h 45 rfl rfl dX9_add_44 ?_
  refine j_getI h 48 rfl glX9_24 sh_79 rfl dX9_add_45 ?_
  rw [mu_a (by decide), mu_a (by decide), mu_a (by decide)]
  refine j_top ew ?_
  refine j_iload h 50 rfl rfl dX9_add_48 ?_
  refine j_iast h 51 rfl sh_83 _ rfl (by omega) rfl dX9_add_50 ?_
  refine j_aload_n h 52 rfl rfl dX9_add_51 ?_
  refine j_dup h 53 rfl rfl dX9_add_52 ?_
  refine j_getI h 56 rfl glX9_24 sh_79 rfl dX9_add_53 ?_
  rw [mu_a (by decide), mu_a (by decide), mu_a (by decide), mu_a (by decide)]
  refine j_top ew ?_
  refine j_dup_x1 h 57 rfl rfl rfl dX9_add_56 ?_
  refine j_iconst h 58 rfl (nI 1) (by decide) dX9_add_57 ?_
  refine j_iaddN h 59 rfl dX9_add_58 ?_
  refine j_putI h 62 rfl plX9_24 sh_79 rfl rfl rfl rfl dX9_add_59 ?_
  exact j_ret h hr rfl dX9_add_62 ⟨_, rfl, rfl, rfl⟩
set_option maxRecDepth 100000 in
set_option maxHeartbeats 4000000 in
theorem t_X9_findFor (M : hM) (sum : Int32) (w : Nat) (hs : nI 0 ≤ sum) (hw : w ≤ 6) (ew : M 79 4 = nI w) (hrm : ∀ i, i < w → ∃ r, r < 5 ∧ M 80 i = nI r) : Ct 6 mX9_findFor [.ref 79, .int sum, .ref 14, .ref 29, .ref 59] M (pV (ffI M w sum (2 ^ w))) := by
  refine ct_of (lv := [some (.ref 79), some (.int sum), some (.ref 14), some (.ref 29), some (.ref 59), none, none]) (by decide +kernel) (fun _ _ hq => hq) rfl (fun _ => Nat.le_of_ble_eq_true rfl) (fun X h hr => ?_)
  have hc : IsC 59 := Or.inr rfl
  obtain ⟨W, hW1, hW2, hW3, hW4⟩ := pow_W hw
  refine j_aload_n h 1 rfl rfl dX9_findFor_0 ?_
  refine j_aload_n h 2 rfl rfl dX9_findFor_1 ?_
  refine j_callVV h 5 rfl lkX9_32 sh_29 rfl rfl (t_X4_takeFrom _) rfl rfl rfl dX9_findFor_2 (fun M9 hM9 => ?_)
  refine j_iconst h 6 rfl (nI 0) (by decide) dX9_findFor_5 ?_
  refine j_istore h 8 rfl rfl dX9_findFor_6 ?_
  have L : ∀ (n i : Nat) (M2 : hM) (z : Option Value), W - i < n → i ≤ W → ffI M w sum i M2 → J X 8 [some (.ref 79), some (.int sum), some (.ref 14), some (.ref 29), some (.ref 59), some (.int (nI i)), z] [] M2 := by
    intro n
    induction n with
    | zero => intro i M2 z h1; omega
    | succ n ih =>
      intro i M2 z h1 h2 hI
      have ew2 : M2 79 4 = nI w := by rw [hI.1.2 4 (by decide) (by decide)]; exact ew
      have e81 : M2 81 = M 81 := hI.1.1 81 (by omega)
      refine j_iload h 10 rfl rfl dX9_findFor_8 ?_
      refine j_iconst h 11 rfl (nI 1) (by decide) dX9_findFor_10 ?_
      refine j_aload_n h 12 rfl rfl dX9_findFor_11 ?_
      refine j_getI h 15 rfl glX9_24 sh_79 rfl dX9_findFor_12 ?_
      refine j_top ew2 ?_
      refine j_ishl h 16 rfl dX9_findFor_15 ?_
      refine j_top hW3 ?_
      refine j_icmp_geN h 91 19 (by omega) (by omega) dX9_findFor_16 (by decide) rfl (fun c_16 => ?_) (fun c_16 => ?_)
      · skip
        exact j_vret h hr dX9_findFor_91 ⟨rfl, by rw [← hW4, show W = i by omega]; exact hI⟩
      · skip
        refine j_aload_n h 20 rfl rfl dX9_findFor_19 ?_
        refine j_iload h 22 rfl rfl dX9_findFor_20 ?_
        refine j_callVI h 25 rfl lkX9_38 sh_79 rfl rfl (t_X9_costOf _ _ w hw ew2) rfl rfl rfl dX9_findFor_22 ?_
        refine j_iload_n h 26 rfl rfl dX9_findFor_25 ?_
        refine j_icmp_le h 32 29 dX9_findFor_26 (by decide) rfl (fun c_26 => ?_) (fun c_26 => ?_)
        · skip
          have hcst : wkC M w i ≤ sum := by unfold wkC; rw [← e81]; exact c_26
          refine j_aload_n h 33 rfl rfl dX9_findFor_32 ?_
          refine j_aload_n h 34 rfl rfl dX9_findFor_33 ?_
          refine j_callVV h 37 rfl lkX9_42 sh_29 rfl rfl (t_X4_takeAllWorksOff _) rfl rfl rfl dX9_findFor_34 (fun M7 hM7 => ?_)
          refine j_aload_n h 38 rfl rfl dX9_findFor_37 ?_
          refine j_iload h 40 rfl rfl dX9_findFor_38 ?_
          refine j_aload_n h 41 rfl rfl dX9_findFor_40 ?_
          refine j_callVV h 44 rfl lkX9_45 sh_79 rfl rfl (t_X9_put _ _ w hw (by rw [hM7.1 79 (by omega)]; exact ew2) (fun i9 hi9 => by rw [hM7.1 80 (by omega), hI.1.1 80 (by omega)]; exact hrm i9 hi9) (fun r9 hr9 => ⟨by rw [lkS, (hM7.2 r9 hr9).1, hM7.1 14 (by omega)], fun j9 hj9 => by rw [snS, (hM7.2 r9 hr9).2 j9 hj9, hM7.1 14 (by omega), hM7.1 18 (by omega), hM7.1 22 (by omega)]⟩)) rfl rfl rfl dX9_findFor_41 (fun M6 hM6 => ?_)
          refine j_aload h 46 rfl rfl dX9_findFor_44 ?_
          refine j_aload_n h 47 rfl rfl dX9_findFor_46 ?_
          refine j_aload_n h 48 rfl rfl dX9_findFor_47 ?_
          refine j_callVV h 51 rfl lkX9_49 sh_59 rfl rfl (t_X1_run _ _ hc) rfl rfl rfl dX9_findFor_48 (fun M5 hM5 => ?_)
          obtain ⟨e1, e2⟩ := ff_run hI hM7 hM6 hM5
          refine j_aload h 53 rfl rfl dX9_findFor_51 ?_
          refine j_aload_n h 54 rfl rfl dX9_findFor_53 ?_
          refine j_callVI h 57 rfl lkX9_55 sh_59 rfl rfl (t_X1_nightOfAll _ _ hc) rfl rfl rfl dX9_findFor_54 ?_
          refine j_istore h 59 rfl rfl dX9_findFor_57 ?_
          refine j_iload h 61 rfl rfl dX9_findFor_59 ?_
          refine j_if_eqN h 73 64 (by omega) dX9_findFor_61 (by decide) rfl (fun c_61 => ?_) (fun c_61 => ?_)
          · skip
            refine j_aload_n h 74 rfl rfl dX9_findFor_73 ?_
            refine j_iload h 76 rfl rfl dX9_findFor_74 ?_
            refine j_putI h 79 rfl plX9_62 sh_79 rfl rfl rfl rfl dX9_findFor_76 ?_
            refine j_aload_n h 80 rfl rfl dX9_findFor_79 ?_
            refine j_iload h 82 rfl rfl dX9_findFor_80 ?_
            refine j_putI h 85 rfl plX9_59 sh_79 rfl rfl rfl rfl dX9_findFor_82 ?_
            refine j_iincN h 88 rfl rfl rfl dX9_findFor_85 ?_
            refine j_goto h 8 dX9_findFor_88 (by decide) ?_
            first
              | exact ih (i + 1) _ _ (by omega) (by omega) (ffI_no hI hs hw (by unfold wkC; rw [← e81]; exact c_26))
              | exact ih (i + 1) _ _ (by omega) (by omega) (by rw [e1]; exact ffI_yes (ffI_fr hI e2) hcst (Or.inl (by assumption)))
              | exact ih (i + 1) _ _ (by omega) (by omega) (by rw [e1]; exact ffI_yes (ffI_fr hI e2) hcst (Or.inr (by rw [← e1]; exact Int32.not_le.mp (by assumption))))
              | exact ih (i + 1) _ _ (by omega) (by omega) (ffI_keep (ffI_fr hI e2) hcst (by assumption) (by rw [← e1]; assumption))
          · skip
            refine j_iload h 66 rfl rfl dX9_findFor_64 ?_
            refine j_aload_n h 67 rfl rfl dX9_findFor_66 ?_
            refine j_getI h 70 rfl glX9_59 sh_79 rfl dX9_findFor_67 ?_
            refine j_icmp_ge h 85 73 dX9_findFor_70 (by decide) rfl (fun c_70 => ?_) (fun c_70 => ?_)
            · skip
              refine j_iincN h 88 rfl rfl rfl dX9_findFor_85 ?_
              refine j_goto h 8 dX9_findFor_88 (by decide) ?_
              first
                | exact ih (i + 1) _ _ (by omega) (by omega) (ffI_no hI hs hw (by unfold wkC; rw [← e81]; exact c_26))
                | exact ih (i + 1) _ _ (by omega) (by omega) (by rw [e1]; exact ffI_yes (ffI_fr hI e2) hcst (Or.inl (by assumption)))
                | exact ih (i + 1) _ _ (by omega) (by omega) (by rw [e1]; exact ffI_yes (ffI_fr hI e2) hcst (Or.inr (by rw [← e1]; exact Int32.not_le.mp (by assumption))))
                | exact ih (i + 1) _ _ (by omega) (by omega) (ffI_keep (ffI_fr hI e2) hcst (by assumption) (by rw [← e1]; assumption))
            · skip
              refine j_aload_n h 74 rfl rfl dX9_findFor_73 ?_
              refine j_iload h 76 rfl rfl dX9_findFor_74 ?_
              refine j_putI h 79 rfl plX9_62 sh_79 rfl rfl rfl rfl dX9_findFor_76 ?_
              refine j_aload_n h 80 rfl rfl dX9_findFor_79 ?_
              refine j_iload h 82 rfl rfl dX9_findFor_80 ?_
              refine j_putI h 85 rfl plX9_59 sh_79 rfl rfl rfl rfl dX9_findFor_82 ?_
              refine j_iincN h 88 rfl rfl rfl dX9_findFor_85 ?_
              refine j_goto h 8 dX9_findFor_88 (by decide) ?_
              first
                | exact ih (i + 1) _ _ (by omega) (by omega) (ffI_no hI hs hw (by unfold wkC; rw [← e81]; exact c_26))
                | exact ih (i + 1) _ _ (by omega) (by omega) (by rw [e1]; exact ffI_yes (ffI_fr hI e2) hcst (Or.inl (by assumption)))
                | exact ih (i + 1) _ _ (by omega) (by omega) (by rw [e1]; exact ffI_yes (ffI_fr hI e2) hcst (Or.inr (by rw [← e1]; exact Int32.not_le.mp (by assumption))))
                | exact ih (i + 1) _ _ (by omega) (by omega) (ffI_keep (ffI_fr hI e2) hcst (by assumption) (by rw [← e1]; assumption))
        · skip
          refine j_goto h 85 dX9_findFor_29 (by decide) ?_
          refine j_iincN h 88 rfl rfl rfl dX9_findFor_85 ?_
          refine j_goto h 8 dX9_findFor_88 (by decide) ?_
          first
            | exact ih (i + 1) _ _ (by omega) (by omega) (ffI_no hI hs hw (by unfold wkC; rw [← e81]; exact c_26))
            | exact ih (i + 1) _ _ (by omega) (by omega) (by rw [e1]; exact ffI_yes (ffI_fr hI e2) hcst (Or.inl (by assumption)))
            | exact ih (i + 1) _ _ (by omega) (by omega) (by rw [e1]; exact ffI_yes (ffI_fr hI e2) hcst (Or.inr (by rw [← e1]; exact Int32.not_le.mp (by assumption))))
            | exact ih (i + 1) _ _ (by omega) (by omega) (ffI_keep (ffI_fr hI e2) hcst (by assumption) (by rw [← e1]; assumption))
  exact L (W + 1) 0 _ _ (by omega) (by omega) ⟨⟨fun a ha => hM9.1 a (by omega), fun j _ _ => by rw [hM9.1 79 (by omega)]⟩, ⟨hM9.2.2.1, hM9.2.2.2.1, fun r hr9 => ⟨(hM9.2.2.2.2.1 r hr9).1, (hM9.2.2.2.2.1 r hr9).2.1⟩, hM9.2.2.2.2.2⟩, fun z => by omega⟩
