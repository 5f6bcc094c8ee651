/-! leaves: HotWeek's statics, House -/
abbrev bitP (s b : Int32) : Prop := (s >>> (b &&& 31)) &&& nI 1 = nI 1
abbrev inP (x a b : Int32) : Prop := a ≤ x ∧ x ≤ b
theorem in_nat {x : Int32} {n : Nat} (hn : n < 2 ^ 31) : inP x (nI 0) (nI n) ↔ ∃ k, k ≤ n ∧ x = nI k := by
  constructor
  · rintro ⟨h1, h2⟩
    have g1 := Int32.le_iff_toInt_le.mp h1
    have g2 := Int32.le_iff_toInt_le.mp h2
    rw [nI_toInt (by decide)] at g1
    rw [nI_toInt hn] at g2
    refine ⟨x.toInt.toNat, by omega, ?_⟩
    apply Int32.toInt_inj.mp
    rw [nI_toInt (by omega)]
    omega
  · rintro ⟨k, hk, rfl⟩
    exact ⟨(nI_leI (by decide) (by omega)).mpr (by omega), (nI_leI (by omega) hn).mpr hk⟩
/-- hours of the day, the first n from a on -/
def hOr (a : Nat) : Nat → Int32
  | 0 => nI 0
  | n + 1 => hOr a n ||| (nI 1 <<< (nI ((a + n) % 24) &&& 31))
def hCnt (a b : Nat) : Nat := (b + 24 - a) % 24
def hHrs (a b : Nat) : Int32 := hOr a (hCnt a b)
theorem shr_5 (i : Nat) (h : i < 8) : hT[6 + i]? = some (1, 5, []) := by
  rcases (by omega : i = 0 ∨ i = 1 ∨ i = 2 ∨ i = 3 ∨ i = 4 ∨ i = 5 ∨ i = 6 ∨ i = 7) with rfl | rfl | rfl | rfl | rfl | rfl | rfl | rfl <;> rfl
theorem shr_23 (i : Nat) (h : i < 5) : hT[24 + i]? = some (1, 5, []) := by
  rcases (by omega : i = 0 ∨ i = 1 ∨ i = 2 ∨ i = 3 ∨ i = 4) with rfl | rfl | rfl | rfl | rfl <;> rfl
theorem shr_33 (i : Nat) (h : i < 5) : hT[34 + i]? = some (1, 24, []) := by
  rcases (by omega : i = 0 ∨ i = 1 ∨ i = 2 ∨ i = 3 ∨ i = 4) with rfl | rfl | rfl | rfl | rfl <;> rfl

set_option maxRecDepth 100000 in
set_option maxHeartbeats 4000000 in
theorem t_X10_isWithin (M : hM) (a b c : Int32) : Ct 1 mX10_isWithin [.int a, .int b, .int c] M (pI (hb (inP a b c)) M) := by
  refine ct_of (lv := [some (.int a), some (.int b), some (.int c)]) (by decide +kernel) (fun _ _ hq => hq) rfl (fun _ => Nat.le_of_ble_eq_true rfl) (fun X h hr => ?_)
  refine j_iload_n h 1 rfl rfl dX10_isWithin_0 ?_
  refine j_iload_n h 2 rfl rfl dX10_isWithin_1 ?_
  refine j_icmp_lt h 14 5 dX10_isWithin_2 (by decide) rfl (fun c_2 => ?_) (fun c_2 => ?_)
  · skip
    refine j_iconst h 15 rfl (nI 0) (by decide) dX10_isWithin_14 ?_
    exact j_ret h hr (by decide) dX10_isWithin_15 ⟨congrArg (fun z => some (Value.int z)) (by first | (rw [hb_t]; rfl; (simp only [inP, Int32.lt_iff_toInt_lt, Int32.le_iff_toInt_le] at *; omega)) | (rw [hb_f]; rfl; (simp only [inP, Int32.lt_iff_toInt_lt, Int32.le_iff_toInt_le] at *; omega))), rfl⟩
  · skip
    refine j_iload_n h 6 rfl rfl dX10_isWithin_5 ?_
    refine j_iload_n h 7 rfl rfl dX10_isWithin_6 ?_
    refine j_icmp_gt h 14 10 dX10_isWithin_7 (by decide) rfl (fun c_7 => ?_) (fun c_7 => ?_)
    · skip
      refine j_iconst h 15 rfl (nI 0) (by decide) dX10_isWithin_14 ?_
      exact j_ret h hr (by decide) dX10_isWithin_15 ⟨congrArg (fun z => some (Value.int z)) (by first | (rw [hb_t]; rfl; (simp only [inP, Int32.lt_iff_toInt_lt, Int32.le_iff_toInt_le] at *; omega)) | (rw [hb_f]; rfl; (simp only [inP, Int32.lt_iff_toInt_lt, Int32.le_iff_toInt_le] at *; omega))), rfl⟩
    · skip
      refine j_iconst h 11 rfl (nI 1) (by decide) dX10_isWithin_10 ?_
      refine j_goto h 15 dX10_isWithin_11 (by decide) ?_
      exact j_ret h hr (by decide) dX10_isWithin_15 ⟨congrArg (fun z => some (Value.int z)) (by first | (rw [hb_t]; rfl; (simp only [inP, Int32.lt_iff_toInt_lt, Int32.le_iff_toInt_le] at *; omega)) | (rw [hb_f]; rfl; (simp only [inP, Int32.lt_iff_toInt_lt, Int32.le_iff_toInt_le] at *; omega))), rfl⟩
set_option maxRecDepth 100000 in
set_option maxHeartbeats 4000000 in
theorem t_X10_hasBit (M : hM) (a b : Int32) : Ct 1 mX10_hasBit [.int a, .int b] M (pI (hb (bitP a b)) M) := by
  refine ct_of (lv := [some (.int a), some (.int b)]) (by decide +kernel) (fun _ _ hq => hq) rfl (fun _ => Nat.le_of_ble_eq_true rfl) (fun X h hr => ?_)
  refine j_iload_n h 1 rfl rfl dX10_hasBit_0 ?_
  refine j_iload_n h 2 rfl rfl dX10_hasBit_1 ?_
  refine j_ishr h 3 rfl dX10_hasBit_2 ?_
  refine j_iconst h 4 rfl (nI 1) (by decide) dX10_hasBit_3 ?_
  refine j_iand h 5 rfl dX10_hasBit_4 ?_
  refine j_iconst h 6 rfl (nI 1) (by decide) dX10_hasBit_5 ?_
  refine j_icmp_ne h 13 9 dX10_hasBit_6 (by decide) rfl (fun c_6 => ?_) (fun c_6 => ?_)
  · skip
    refine j_iconst h 14 rfl (nI 0) (by decide) dX10_hasBit_13 ?_
    exact j_ret h hr (by decide) dX10_hasBit_14 ⟨congrArg (fun z => some (Value.int z)) (by first | (rw [hb_t]; rfl; first | assumption | exact Decidable.not_not.mp (by assumption) | exact fun z => z (by assumption)) | (rw [hb_f]; rfl; first | assumption | exact Decidable.not_not.mp (by assumption) | exact fun z => z (by assumption))), rfl⟩
  · skip
    refine j_iconst h 10 rfl (nI 1) (by decide) dX10_hasBit_9 ?_
    refine j_goto h 14 dX10_hasBit_10 (by decide) ?_
    exact j_ret h hr (by decide) dX10_hasBit_14 ⟨congrArg (fun z => some (Value.int z)) (by first | (rw [hb_t]; rfl; first | assumption | exact Decidable.not_not.mp (by assumption) | exact fun z => z (by assumption)) | (rw [hb_f]; rfl; first | assumption | exact Decidable.not_not.mp (by assumption) | exact fun z => z (by assumption))), rfl⟩
set_option maxRecDepth 100000 in
set_option maxHeartbeats 4000000 in
theorem t_X10_isRoom (M : hM) (a : Int32) : Ct 2 mX10_isRoom [.int a] M (pI (hb (inP a (nI 0) (nI 4))) M) := by
  refine ct_of (lv := [some (.int a)]) (by decide +kernel) (fun _ _ hq => hq) rfl (fun _ => Nat.le_of_ble_eq_true rfl) (fun X h hr => ?_)
  refine j_iload_n h 1 rfl rfl dX10_isRoom_0 ?_
  refine j_iconst h 2 rfl (nI 0) (by decide) dX10_isRoom_1 ?_
  refine j_iconst h 3 rfl (nI 4) (by decide) dX10_isRoom_2 ?_
  refine j_callSI h 6 rfl lkX10_86 rfl (t_X10_isWithin _ _ _ _) rfl rfl rfl dX10_isRoom_3 ?_
  exact j_ret h hr hb_nar dX10_isRoom_6 ⟨rfl, rfl⟩
set_option maxRecDepth 100000 in
set_option maxHeartbeats 4000000 in
theorem t_X10_isHour (M : hM) (a : Int32) : Ct 2 mX10_isHour [.int a] M (pI (hb (inP a (nI 0) (nI 95))) M) := by
  refine ct_of (lv := [some (.int a)]) (by decide +kernel) (fun _ _ hq => hq) rfl (fun _ => Nat.le_of_ble_eq_true rfl) (fun X h hr => ?_)
  refine j_iload_n h 1 rfl rfl dX10_isHour_0 ?_
  refine j_iconst h 2 rfl (nI 0) (by decide) dX10_isHour_1 ?_
  refine j_bipush h 4 rfl (nI 95) (by decide) dX10_isHour_2 ?_
  refine j_callSI h 7 rfl lkX10_86 rfl (t_X10_isWithin _ _ _ _) rfl rfl rfl dX10_isHour_4 ?_
  exact j_ret h hr hb_nar dX10_isHour_7 ⟨rfl, rfl⟩
set_option maxRecDepth 100000 in
set_option maxHeartbeats 4000000 in
theorem t_X10_hoursFrom (M : hM) (a b : Nat) (ha : a < 24) (hb : b < 24) : Ct 1 mX10_hoursFrom [.int (nI a), .int (nI b)] M (pI (hHrs a b) M) := by
  refine ct_of (lv := [some (.int (nI a)), some (.int (nI b)), none, none, none]) (by decide +kernel) (fun _ _ hq => hq) rfl (fun _ => Nat.le_of_ble_eq_true rfl) (fun X h hr => ?_)
  refine j_iconst h 1 rfl (nI 0) (by decide) dX10_hoursFrom_0 ?_
  refine j_istore_n h 2 rfl rfl dX10_hoursFrom_1 ?_
  refine j_iconst h 3 rfl (nI 0) (by decide) dX10_hoursFrom_2 ?_
  refine j_istore_n h 4 rfl rfl dX10_hoursFrom_3 ?_
  have L : ∀ (n i : Nat) (z : Option Value), 24 - i < n → i ≤ hCnt a b → J X 4 [some (.int (nI a)), some (.int (nI b)), some (.int (hOr a i)), some (.int (nI i)), z] [] M := by
    intro n
    induction n with
    | zero => intro i z h1; omega
    | succ n ih =>
      intro i z h1 h2
      have h3 : hCnt a b < 24 := Nat.mod_lt _ (by decide)
      refine j_iload_n h 5 rfl rfl dX10_hoursFrom_4 ?_
      refine j_bipush h 7 rfl (nI 24) (by decide) dX10_hoursFrom_5 ?_
      refine j_icmp_geN h 40 10 (by omega) (by omega) dX10_hoursFrom_7 (by decide) rfl (fun c_7 => by omega) (fun c_7 => ?_)
      refine j_iload_n h 11 rfl rfl dX10_hoursFrom_10 ?_
      refine j_iload_n h 12 rfl rfl dX10_hoursFrom_11 ?_
      refine j_iaddN h 13 rfl dX10_hoursFrom_12 ?_
      refine j_bipush h 15 rfl (nI 24) (by decide) dX10_hoursFrom_13 ?_
      refine j_iremN h 16 rfl (by omega) (by omega) (by omega) dX10_hoursFrom_15 ?_
      refine j_istore h 18 rfl rfl dX10_hoursFrom_16 ?_
      refine j_iload h 20 rfl rfl dX10_hoursFrom_18 ?_
      refine j_iload_n h 21 rfl rfl dX10_hoursFrom_20 ?_
      refine j_icmp_neN h 27 24 (by omega) (by omega) dX10_hoursFrom_21 (by decide) rfl (fun c_21 => ?_) (fun c_21 => ?_)
      · skip
        refine j_iload_n h 28 rfl rfl dX10_hoursFrom_27 ?_
        refine j_iconst h 29 rfl (nI 1) (by decide) dX10_hoursFrom_28 ?_
        refine j_iload h 31 rfl rfl dX10_hoursFrom_29 ?_
        refine j_ishl h 32 rfl dX10_hoursFrom_31 ?_
        refine j_ior h 33 rfl dX10_hoursFrom_32 ?_
        refine j_istore_n h 34 rfl rfl dX10_hoursFrom_33 ?_
        refine j_iincN h 37 rfl rfl rfl dX10_hoursFrom_34 ?_
        refine j_goto h 4 dX10_hoursFrom_37 (by decide) ?_
        exact ih (i + 1) _ (by omega) (by unfold hCnt at *; omega)
      · skip
        refine j_goto h 40 dX10_hoursFrom_24 (by decide) ?_
        refine j_iload_n h 41 rfl rfl dX10_hoursFrom_40 ?_
        exact j_ret h hr rfl dX10_hoursFrom_41 ⟨by unfold hHrs; rw [show hCnt a b = i by unfold hCnt at *; omega], rfl⟩
  exact L 25 0 _ (by omega) (Nat.zero_le _)
set_option maxRecDepth 100000 in
set_option maxHeartbeats 4000000 in
theorem t_X3_homeHours (M : hM) : Ct 1 mX3_homeHours [.ref 14] M (pI (M 14 9) M) := by
  refine ct_of (lv := [some (.ref 14)]) (by decide +kernel) (fun _ _ hq => hq) rfl (fun _ => Nat.le_of_ble_eq_true rfl) (fun X h hr => ?_)
  refine j_aload_n h 1 rfl rfl dX3_homeHours_0 ?_
  refine j_getI h 4 rfl glX3_43 sh_14 rfl dX3_homeHours_1 ?_
  exact j_ret h hr rfl dX3_homeHours_4 ⟨rfl, rfl⟩
set_option maxRecDepth 100000 in
set_option maxHeartbeats 4000000 in
theorem t_X3_takes (M : hM) : Ct 1 mX3_takes [.ref 14] M (pI (M 14 14) M) := by
  refine ct_of (lv := [some (.ref 14)]) (by decide +kernel) (fun _ _ hq => hq) rfl (fun _ => Nat.le_of_ble_eq_true rfl) (fun X h hr => ?_)
  refine j_aload_n h 1 rfl rfl dX3_takes_0 ?_
  refine j_getI h 4 rfl glX3_59 sh_14 rfl dX3_takes_1 ?_
  exact j_ret h hr rfl dX3_takes_4 ⟨rfl, rfl⟩
set_option maxRecDepth 100000 in
set_option maxHeartbeats 4000000 in
theorem t_X3_gives (M : hM) : Ct 1 mX3_gives [.ref 14] M (pI (M 14 15) M) := by
  refine ct_of (lv := [some (.ref 14)]) (by decide +kernel) (fun _ _ hq => hq) rfl (fun _ => Nat.le_of_ble_eq_true rfl) (fun X h hr => ?_)
  refine j_aload_n h 1 rfl rfl dX3_gives_0 ?_
  refine j_getI h 4 rfl glX3_62 sh_14 rfl dX3_gives_1 ?_
  exact j_ret h hr rfl dX3_gives_4 ⟨rfl, rfl⟩
set_option maxRecDepth 100000 in
set_option maxHeartbeats 4000000 in
theorem t_X3_leaks (M : hM) : Ct 1 mX3_leaks [.ref 14] M (pI (M 14 16) M) := by
  refine ct_of (lv := [some (.ref 14)]) (by decide +kernel) (fun _ _ hq => hq) rfl (fun _ => Nat.le_of_ble_eq_true rfl) (fun X h hr => ?_)
  refine j_aload_n h 1 rfl rfl dX3_leaks_0 ?_
  refine j_getI h 4 rfl glX3_65 sh_14 rfl dX3_leaks_1 ?_
  exact j_ret h hr rfl dX3_leaks_4 ⟨rfl, rfl⟩
set_option maxRecDepth 100000 in
set_option maxHeartbeats 4000000 in
theorem t_X3_window (M : hM) : Ct 1 mX3_window [.ref 14] M (pI (M 14 17) M) := by
  refine ct_of (lv := [some (.ref 14)]) (by decide +kernel) (fun _ _ hq => hq) rfl (fun _ => Nat.le_of_ble_eq_true rfl) (fun X h hr => ?_)
  refine j_aload_n h 1 rfl rfl dX3_window_0 ?_
  refine j_getI h 4 rfl glX3_68 sh_14 rfl dX3_window_1 ?_
  exact j_ret h hr rfl dX3_window_4 ⟨rfl, rfl⟩
set_option maxRecDepth 100000 in
set_option maxHeartbeats 4000000 in
theorem t_X3_firstAir (M : hM) (r : Nat) (hr5 : r < 5) : Ct 1 mX3_firstAir [.ref 14, .int (nI r)] M (pI (M 16 r) M) := by
  refine ct_of (lv := [some (.ref 14), some (.int (nI r))]) (by decide +kernel) (fun _ _ hq => hq) rfl (fun _ => Nat.le_of_ble_eq_true rfl) (fun X h hr => ?_)
  refine j_aload_n h 1 rfl rfl dX3_firstAir_0 ?_
  refine j_getR h 4 rfl glX3_15 sh_14 rfl dX3_firstAir_1 ?_
  refine j_iload_n h 5 rfl rfl dX3_firstAir_4 ?_
  refine j_iald h 6 rfl sh_16 _ rfl (by omega) rfl dX3_firstAir_5 ?_
  exact j_ret h hr rfl dX3_firstAir_6 ⟨rfl, rfl⟩
set_option maxRecDepth 100000 in
set_option maxHeartbeats 4000000 in
theorem t_X3_firstWall (M : hM) (r : Nat) (hr5 : r < 5) : Ct 1 mX3_firstWall [.ref 14, .int (nI r)] M (pI (M 17 r) M) := by
  refine ct_of (lv := [some (.ref 14), some (.int (nI r))]) (by decide +kernel) (fun _ _ hq => hq) rfl (fun _ => Nat.le_of_ble_eq_true rfl) (fun X h hr => ?_)
  refine j_aload_n h 1 rfl rfl dX3_firstWall_0 ?_
  refine j_getR h 4 rfl glX3_19 sh_14 rfl dX3_firstWall_1 ?_
  refine j_iload_n h 5 rfl rfl dX3_firstWall_4 ?_
  refine j_iald h 6 rfl sh_17 _ rfl (by omega) rfl dX3_firstWall_5 ?_
  exact j_ret h hr rfl dX3_firstWall_6 ⟨rfl, rfl⟩
set_option maxRecDepth 100000 in
set_option maxHeartbeats 4000000 in
theorem t_X3_side (M : hM) (r : Nat) (hr5 : r < 5) : Ct 1 mX3_side [.ref 14, .int (nI r)] M (pI (M 18 r) M) := by
  refine ct_of (lv := [some (.ref 14), some (.int (nI r))]) (by decide +kernel) (fun _ _ hq => hq) rfl (fun _ => Nat.le_of_ble_eq_true rfl) (fun X h hr => ?_)
  refine j_aload_n h 1 rfl rfl dX3_side_0 ?_
  refine j_getR h 4 rfl glX3_22 sh_14 rfl dX3_side_1 ?_
  refine j_iload_n h 5 rfl rfl dX3_side_4 ?_
  refine j_iald h 6 rfl sh_18 _ rfl (by omega) rfl dX3_side_5 ?_
  exact j_ret h hr rfl dX3_side_6 ⟨rfl, rfl⟩
set_option maxRecDepth 100000 in
set_option maxHeartbeats 4000000 in
theorem t_X3_folk (M : hM) (r : Nat) (hr5 : r < 5) : Ct 1 mX3_folk [.ref 14, .int (nI r)] M (pI (M 19 r) M) := by
  refine ct_of (lv := [some (.ref 14), some (.int (nI r))]) (by decide +kernel) (fun _ _ hq => hq) rfl (fun _ => Nat.le_of_ble_eq_true rfl) (fun X h hr => ?_)
  refine j_aload_n h 1 rfl rfl dX3_folk_0 ?_
  refine j_getR h 4 rfl glX3_25 sh_14 rfl dX3_folk_1 ?_
  refine j_iload_n h 5 rfl rfl dX3_folk_4 ?_
  refine j_iald h 6 rfl sh_19 _ rfl (by omega) rfl dX3_folk_5 ?_
  exact j_ret h hr rfl dX3_folk_6 ⟨rfl, rfl⟩
set_option maxRecDepth 100000 in
set_option maxHeartbeats 4000000 in
theorem t_X3_habit (M : hM) (r : Nat) (hr5 : r < 5) : Ct 1 mX3_habit [.ref 14, .int (nI r)] M (pI (M 20 r) M) := by
  refine ct_of (lv := [some (.ref 14), some (.int (nI r))]) (by decide +kernel) (fun _ _ hq => hq) rfl (fun _ => Nat.le_of_ble_eq_true rfl) (fun X h hr => ?_)
  refine j_aload_n h 1 rfl rfl dX3_habit_0 ?_
  refine j_getR h 4 rfl glX3_28 sh_14 rfl dX3_habit_1 ?_
  refine j_iload_n h 5 rfl rfl dX3_habit_4 ?_
  refine j_iald h 6 rfl sh_20 _ rfl (by omega) rfl dX3_habit_5 ?_
  exact j_ret h hr rfl dX3_habit_6 ⟨rfl, rfl⟩
set_option maxRecDepth 100000 in
set_option maxHeartbeats 4000000 in
theorem t_X3_openHours (M : hM) (r : Nat) (hr5 : r < 5) : Ct 1 mX3_openHours [.ref 14, .int (nI r)] M (pI (M 21 r) M) := by
  refine ct_of (lv := [some (.ref 14), some (.int (nI r))]) (by decide +kernel) (fun _ _ hq => hq) rfl (fun _ => Nat.le_of_ble_eq_true rfl) (fun X h hr => ?_)
  refine j_aload_n h 1 rfl rfl dX3_openHours_0 ?_
  refine j_getR h 4 rfl glX3_31 sh_14 rfl dX3_openHours_1 ?_
  refine j_iload_n h 5 rfl rfl dX3_openHours_4 ?_
  refine j_iald h 6 rfl sh_21 _ rfl (by omega) rfl dX3_openHours_5 ?_
  exact j_ret h hr rfl dX3_openHours_6 ⟨rfl, rfl⟩
set_option maxRecDepth 100000 in
set_option maxHeartbeats 4000000 in
theorem t_X3_shutHours (M : hM) (r : Nat) (hr5 : r < 5) : Ct 1 mX3_shutHours [.ref 14, .int (nI r)] M (pI (M 22 r) M) := by
  refine ct_of (lv := [some (.ref 14), some (.int (nI r))]) (by decide +kernel) (fun _ _ hq => hq) rfl (fun _ => Nat.le_of_ble_eq_true rfl) (fun X h hr => ?_)
  refine j_aload_n h 1 rfl rfl dX3_shutHours_0 ?_
  refine j_getR h 4 rfl glX3_34 sh_14 rfl dX3_shutHours_1 ?_
  refine j_iload_n h 5 rfl rfl dX3_shutHours_4 ?_
  refine j_iald h 6 rfl sh_22 _ rfl (by omega) rfl dX3_shutHours_5 ?_
  exact j_ret h hr rfl dX3_shutHours_6 ⟨rfl, rfl⟩
set_option maxRecDepth 100000 in
set_option maxHeartbeats 4000000 in
theorem t_X3_passes (M : hM) (r q : Nat) (hr5 : r < 5) (hq5 : q < 5) : Ct 1 mX3_passes [.ref 14, .int (nI r), .int (nI q)] M (pI (M (24 + r) q) M) := by
  refine ct_of (lv := [some (.ref 14), some (.int (nI r)), some (.int (nI q))]) (by decide +kernel) (fun _ _ hq => hq) rfl (fun _ => Nat.le_of_ble_eq_true rfl) (fun X h hr => ?_)
  refine j_aload_n h 1 rfl rfl dX3_passes_0 ?_
  refine j_getR h 4 rfl glX3_39 sh_14 rfl dX3_passes_1 ?_
  refine j_iload_n h 5 rfl rfl dX3_passes_4 ?_
  refine j_aald h 6 rfl sh_23 _ rfl (by omega) rfl dX3_passes_5 ?_
  refine j_iload_n h 7 rfl rfl dX3_passes_6 ?_
  refine j_iald h 8 rfl (shr_23 _ (by omega)) _ rfl (by omega) rfl dX3_passes_7 ?_
  exact j_ret h hr rfl dX3_passes_8 ⟨rfl, rfl⟩
set_option maxRecDepth 100000 in
set_option maxHeartbeats 4000000 in
theorem t_X3_isTold (M : hM) (r : Nat) (hr5 : r < 5) : Ct 1 mX3_isTold [.ref 14, .int (nI r)] M (pI (hb (¬ M 15 r = 0)) M) := by
  refine ct_of (lv := [some (.ref 14), some (.int (nI r))]) (by decide +kernel) (fun _ _ hq => hq) rfl (fun _ => Nat.le_of_ble_eq_true rfl) (fun X h hr => ?_)
  refine j_iload_n h 1 rfl rfl dX3_isTold_0 ?_
  refine j_if_ltN h 22 4 (by omega) dX3_isTold_1 (by decide) rfl (fun c_1 => c_1.elim) (fun c_1 => ?_)
  refine j_iload_n h 5 rfl rfl dX3_isTold_4 ?_
  refine j_iconst h 6 rfl (nI 5) (by decide) dX3_isTold_5 ?_
  refine j_icmp_geN h 22 9 (by omega) (by omega) dX3_isTold_6 (by decide) rfl (fun c_6 => by omega) (fun c_6 => ?_)
  refine j_aload_n h 10 rfl rfl dX3_isTold_9 ?_
  refine j_getR h 13 rfl glX3_9 sh_14 rfl dX3_isTold_10 ?_
  refine j_iload_n h 14 rfl rfl dX3_isTold_13 ?_
  refine j_zald h 15 rfl sh_15 _ rfl (by omega) rfl dX3_isTold_14 ?_
  refine j_if_eq h 22 18 dX3_isTold_15 (by decide) rfl (fun c_15 => ?_) (fun c_15 => ?_)
  · skip
    refine j_iconst h 23 rfl (nI 0) (by decide) dX3_isTold_22 ?_
    exact j_ret h hr (by decide) dX3_isTold_23 ⟨congrArg (fun z => some (Value.int z)) (by first | (rw [hb_t]; rfl; first | assumption | exact Decidable.not_not.mp (by assumption) | exact fun z => z (by assumption)) | (rw [hb_f]; rfl; first | assumption | exact Decidable.not_not.mp (by assumption) | exact fun z => z (by assumption))), rfl⟩
  · skip
    refine j_iconst h 19 rfl (nI 1) (by decide) dX3_isTold_18 ?_
    refine j_goto h 23 dX3_isTold_19 (by decide) ?_
    exact j_ret h hr (by decide) dX3_isTold_23 ⟨congrArg (fun z => some (Value.int z)) (by first | (rw [hb_t]; rfl; first | assumption | exact Decidable.not_not.mp (by assumption) | exact fun z => z (by assumption)) | (rw [hb_f]; rfl; first | assumption | exact Decidable.not_not.mp (by assumption) | exact fun z => z (by assumption))), rfl⟩
set_option maxRecDepth 100000 in
set_option maxHeartbeats 4000000 in
theorem t_X3_isTold_out (M : hM) (x : Int32) (hx : ¬ (inP x (nI 0) (nI 4))) : Ct 1 mX3_isTold [.ref 14, .int x] M (pI (nI 0) M) := by
  refine ct_of (lv := [some (.ref 14), some (.int x)]) (by decide +kernel) (fun _ _ hq => hq) rfl (fun _ => Nat.le_of_ble_eq_true rfl) (fun X h hr => ?_)
  refine j_iload_n h 1 rfl rfl dX3_isTold_0 ?_
  refine j_if_lt h 22 4 dX3_isTold_1 (by decide) rfl (fun c_1 => ?_) (fun c_1 => ?_)
  · skip
    refine j_iconst h 23 rfl (nI 0) (by decide) dX3_isTold_22 ?_
    exact j_ret h hr (by decide) dX3_isTold_23 ⟨rfl, rfl⟩
  · skip
    refine j_iload_n h 5 rfl rfl dX3_isTold_4 ?_
    refine j_iconst h 6 rfl (nI 5) (by decide) dX3_isTold_5 ?_
    refine j_icmp_ge h 22 9 dX3_isTold_6 (by decide) rfl (fun c_6 => ?_) (fun c_6 => absurd ⟨Int32.not_lt.mp c_1, by simp only [Int32.lt_iff_toInt_lt, Int32.le_iff_toInt_le, nI_toInt (show 5 < 2 ^ 31 by decide), nI_toInt (show 4 < 2 ^ 31 by decide)] at *; omega⟩ hx)
    refine j_iconst h 23 rfl (nI 0) (by decide) dX3_isTold_22 ?_
    exact j_ret h hr (by decide) dX3_isTold_23 ⟨rfl, rfl⟩
