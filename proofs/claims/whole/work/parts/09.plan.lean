/-! House's sky and sun; Plan -/
def skyC (H : Nat → Int32) (h : Nat) : Int32 :=
  if h % 24 < 5 then H 11 + (nI (h / 24) + -1) * H 12 - (H 11 - H 10) * nI (h % 24 + 24 - 15) / nI 14
  else if h % 24 ≤ 15 then H 10 + nI (h / 24) * H 12 + (H 11 - H 10) * nI (h % 24 - 5) / nI 10
  else H 11 + nI (h / 24) * H 12 - (H 11 - H 10) * nI (h % 24 - 15) / nI 14
abbrev shineP (s hd : Int32) : Prop := (s = nI 1 ∧ inP hd (nI 6) (nI 10)) ∨ (s = nI 2 ∧ inP hd (nI 10) (nI 15)) ∨ (s = nI 3 ∧ inP hd (nI 15) (nI 19))
def sunC (v side shut : Int32) (hd : Nat) : Int32 := if shineP side (nI hd) then (if bitP shut (nI hd) then v / nI 4 else v) else nI 0
abbrev wdP (M : hM) (r h : Nat) (a : Int32) : Prop := (M 30 r = nI 0 ∧ bitP (M 31 r) (nI (h % 24))) ∨ (M 30 r = nI 1 ∧ M 39 h < a) ∨ M 30 r = nI 2
theorem tsw_out {x : Int32} {l n : Nat} (hn : l + n < 2 ^ 31) (h : ¬ (nI l ≤ x ∧ x < nI (l + n))) (i : Nat) (hi : i < n) : ¬ x = nI (l + i) := by
  intro e
  subst e
  exact h ⟨(nI_leI (by omega) (by omega)).mpr (by omega), (nI_ltI (by omega) (by omega)).mpr (by omega)⟩

set_option maxRecDepth 100000 in
set_option maxHeartbeats 4000000 in
theorem t_X3_skyAt (M : hM) (n : Nat) (hn : n < 96) : Ct 1 mX3_skyAt [.ref 14, .int (nI n)] M (pI (skyC (M 14) n) M) := by
  refine ct_of (lv := [some (.ref 14), some (.int (nI n)), none, none, none]) (by decide +kernel) (fun _ _ hq => hq) rfl (fun _ => Nat.le_of_ble_eq_true rfl) (fun X h hr => ?_)
  refine j_iload_n h 1 rfl rfl dX3_skyAt_0 ?_
  refine j_bipush h 3 rfl (nI 24) (by decide) dX3_skyAt_1 ?_
  refine j_idivN h 4 rfl (by omega) (by omega) (by omega) dX3_skyAt_3 ?_
  refine j_istore_n h 5 rfl rfl dX3_skyAt_4 ?_
  refine j_iload_n h 6 rfl rfl dX3_skyAt_5 ?_
  refine j_bipush h 8 rfl (nI 24) (by decide) dX3_skyAt_6 ?_
  refine j_iremN h 9 rfl (by omega) (by omega) (by omega) dX3_skyAt_8 ?_
  refine j_istore_n h 10 rfl rfl dX3_skyAt_9 ?_
  refine j_iload_n h 11 rfl rfl dX3_skyAt_10 ?_
  refine j_iconst h 12 rfl (nI 5) (by decide) dX3_skyAt_11 ?_
  refine j_icmp_geN h 21 15 (by omega) (by omega) dX3_skyAt_12 (by decide) rfl (fun c_12 => ?_) (fun c_12 => ?_)
  · skip
    refine j_aload_n h 22 rfl rfl dX3_skyAt_21 ?_
    refine j_getI h 25 rfl glX3_50 sh_14 rfl dX3_skyAt_22 ?_
    refine j_aload_n h 26 rfl rfl dX3_skyAt_25 ?_
    refine j_getI h 29 rfl glX3_47 sh_14 rfl dX3_skyAt_26 ?_
    refine j_isub h 30 rfl dX3_skyAt_29 ?_
    refine j_istore h 32 rfl rfl dX3_skyAt_30 ?_
    refine j_iload_n h 33 rfl rfl dX3_skyAt_32 ?_
    refine j_bipush h 35 rfl (nI 15) (by decide) dX3_skyAt_33 ?_
    refine j_icmp_gtN h 60 38 (by omega) (by omega) dX3_skyAt_35 (by decide) rfl (fun c_35 => ?_) (fun c_35 => ?_)
    · skip
      refine j_aload_n h 61 rfl rfl dX3_skyAt_60 ?_
      refine j_getI h 64 rfl glX3_50 sh_14 rfl dX3_skyAt_61 ?_
      refine j_iload_n h 65 rfl rfl dX3_skyAt_64 ?_
      refine j_aload_n h 66 rfl rfl dX3_skyAt_65 ?_
      refine j_getI h 69 rfl glX3_53 sh_14 rfl dX3_skyAt_66 ?_
      refine j_imul h 70 rfl dX3_skyAt_69 ?_
      refine j_iadd h 71 rfl dX3_skyAt_70 ?_
      refine j_iload h 73 rfl rfl dX3_skyAt_71 ?_
      refine j_iload_n h 74 rfl rfl dX3_skyAt_73 ?_
      refine j_bipush h 76 rfl (nI 15) (by decide) dX3_skyAt_74 ?_
      refine j_isubN h 77 rfl (by omega) dX3_skyAt_76 ?_
      refine j_imul h 78 rfl dX3_skyAt_77 ?_
      refine j_bipush h 80 rfl (nI 14) (by decide) dX3_skyAt_78 ?_
      refine j_idiv h 81 rfl (by decide) dX3_skyAt_80 ?_
      refine j_isub h 82 rfl dX3_skyAt_81 ?_
      exact j_ret h hr rfl dX3_skyAt_82 ⟨congrArg (fun z => some (Value.int z)) (by unfold skyC; first | (exfalso; omega) | rw [if_pos (by omega)] | rw [if_neg (by omega), if_pos (by omega)] | rw [if_neg (by omega), if_neg (by omega)]), rfl⟩
    · have := c_35
      refine j_aload_n h 39 rfl rfl dX3_skyAt_38 ?_
      refine j_getI h 42 rfl glX3_47 sh_14 rfl dX3_skyAt_39 ?_
      refine j_iload_n h 43 rfl rfl dX3_skyAt_42 ?_
      refine j_aload_n h 44 rfl rfl dX3_skyAt_43 ?_
      refine j_getI h 47 rfl glX3_53 sh_14 rfl dX3_skyAt_44 ?_
      refine j_imul h 48 rfl dX3_skyAt_47 ?_
      refine j_iadd h 49 rfl dX3_skyAt_48 ?_
      refine j_iload h 51 rfl rfl dX3_skyAt_49 ?_
      refine j_iload_n h 52 rfl rfl dX3_skyAt_51 ?_
      refine j_iconst h 53 rfl (nI 5) (by decide) dX3_skyAt_52 ?_
      refine j_isubN h 54 rfl (by omega) dX3_skyAt_53 ?_
      refine j_imul h 55 rfl dX3_skyAt_54 ?_
      refine j_bipush h 57 rfl (nI 10) (by decide) dX3_skyAt_55 ?_
      refine j_idiv h 58 rfl (by decide) dX3_skyAt_57 ?_
      refine j_iadd h 59 rfl dX3_skyAt_58 ?_
      exact j_ret h hr rfl dX3_skyAt_59 ⟨congrArg (fun z => some (Value.int z)) (by unfold skyC; first | (exfalso; omega) | rw [if_pos (by omega)] | rw [if_neg (by omega), if_pos (by omega)] | rw [if_neg (by omega), if_neg (by omega)]), rfl⟩
  · skip
    refine j_iinc h 18 rfl (-1) (by decide) rfl rfl dX3_skyAt_15 ?_
    refine j_iincK h 21 rfl 24 (by decide) rfl rfl dX3_skyAt_18 ?_
    refine j_aload_n h 22 rfl rfl dX3_skyAt_21 ?_
    refine j_getI h 25 rfl glX3_50 sh_14 rfl dX3_skyAt_22 ?_
    refine j_aload_n h 26 rfl rfl dX3_skyAt_25 ?_
    refine j_getI h 29 rfl glX3_47 sh_14 rfl dX3_skyAt_26 ?_
    refine j_isub h 30 rfl dX3_skyAt_29 ?_
    refine j_istore h 32 rfl rfl dX3_skyAt_30 ?_
    refine j_iload_n h 33 rfl rfl dX3_skyAt_32 ?_
    refine j_bipush h 35 rfl (nI 15) (by decide) dX3_skyAt_33 ?_
    refine j_icmp_gtN h 60 38 (by omega) (by omega) dX3_skyAt_35 (by decide) rfl (fun c_35 => ?_) (fun c_35 => ?_)
    · skip
      refine j_aload_n h 61 rfl rfl dX3_skyAt_60 ?_
      refine j_getI h 64 rfl glX3_50 sh_14 rfl dX3_skyAt_61 ?_
      refine j_iload_n h 65 rfl rfl dX3_skyAt_64 ?_
      refine j_aload_n h 66 rfl rfl dX3_skyAt_65 ?_
      refine j_getI h 69 rfl glX3_53 sh_14 rfl dX3_skyAt_66 ?_
      refine j_imul h 70 rfl dX3_skyAt_69 ?_
      refine j_iadd h 71 rfl dX3_skyAt_70 ?_
      refine j_iload h 73 rfl rfl dX3_skyAt_71 ?_
      refine j_iload_n h 74 rfl rfl dX3_skyAt_73 ?_
      refine j_bipush h 76 rfl (nI 15) (by decide) dX3_skyAt_74 ?_
      refine j_isubN h 77 rfl (by omega) dX3_skyAt_76 ?_
      refine j_imul h 78 rfl dX3_skyAt_77 ?_
      refine j_bipush h 80 rfl (nI 14) (by decide) dX3_skyAt_78 ?_
      refine j_idiv h 81 rfl (by decide) dX3_skyAt_80 ?_
      refine j_isub h 82 rfl dX3_skyAt_81 ?_
      exact j_ret h hr rfl dX3_skyAt_82 ⟨congrArg (fun z => some (Value.int z)) (by unfold skyC; first | (exfalso; omega) | rw [if_pos (by omega)] | rw [if_neg (by omega), if_pos (by omega)] | rw [if_neg (by omega), if_neg (by omega)]), rfl⟩
    · have := c_35
      refine j_aload_n h 39 rfl rfl dX3_skyAt_38 ?_
      refine j_getI h 42 rfl glX3_47 sh_14 rfl dX3_skyAt_39 ?_
      refine j_iload_n h 43 rfl rfl dX3_skyAt_42 ?_
      refine j_aload_n h 44 rfl rfl dX3_skyAt_43 ?_
      refine j_getI h 47 rfl glX3_53 sh_14 rfl dX3_skyAt_44 ?_
      refine j_imul h 48 rfl dX3_skyAt_47 ?_
      refine j_iadd h 49 rfl dX3_skyAt_48 ?_
      refine j_iload h 51 rfl rfl dX3_skyAt_49 ?_
      refine j_iload_n h 52 rfl rfl dX3_skyAt_51 ?_
      refine j_iconst h 53 rfl (nI 5) (by decide) dX3_skyAt_52 ?_
      refine j_isubN h 54 rfl (by omega) dX3_skyAt_53 ?_
      refine j_imul h 55 rfl dX3_skyAt_54 ?_
      refine j_bipush h 57 rfl (nI 10) (by decide) dX3_skyAt_55 ?_
      refine j_idiv h 58 rfl (by decide) dX3_skyAt_57 ?_
      refine j_iadd h 59 rfl dX3_skyAt_58 ?_
      exact j_ret h hr rfl dX3_skyAt_59 ⟨congrArg (fun z => some (Value.int z)) (by unfold skyC; first | (exfalso; omega) | rw [if_pos (by omega)] | rw [if_neg (by omega), if_pos (by omega)] | rw [if_neg (by omega), if_neg (by omega)]), rfl⟩
set_option maxRecDepth 100000 in
set_option maxHeartbeats 4000000 in
theorem t_X3_shinesOn (M : hM) (s e : Int32) : Ct 2 mX3_shinesOn [.int s, .int e] M (pI (hb (shineP s e)) M) := by
  refine ct_of (lv := [some (.int s), some (.int e)]) (by decide +kernel) (fun _ _ hq => hq) rfl (fun _ => Nat.le_of_ble_eq_true rfl) (fun X h hr => ?_)
  refine j_iload_n h 1 rfl rfl dX3_shinesOn_0 ?_
  refine j_tsw h 55 1 [28, 37, 46] dX3_shinesOn_1 (by decide) (by decide) (by decide) (by decide) (by decide) (fun i9 t9 ht9 c_1 => ?_) (fun c_1 => ?_)
  · match i9, ht9 with
    | 0, ht9 =>
      cases ht9
      refine j_iload_n h 29 rfl rfl dX3_shinesOn_28 ?_
      refine j_bipush h 31 rfl (nI 6) (by decide) dX3_shinesOn_29 ?_
      refine j_bipush h 33 rfl (nI 10) (by decide) dX3_shinesOn_31 ?_
      refine j_callNI h 36 rfl lkX3_104 rfl (t_X10_isWithin _ _ _ _) rfl rfl rfl dX3_shinesOn_33 ?_
      exact j_ret h hr hb_nar dX3_shinesOn_36 ⟨congrArg (fun z => some (Value.int z)) (by refine hb_c ⟨fun z => Or.inl ⟨c_1, z⟩, fun z => ?_⟩; rcases z with ⟨q, z⟩ | ⟨q, z⟩ | ⟨q, z⟩ <;> first | exact z | exact absurd (c_1.symm.trans q) (by decide)), rfl⟩
    | 1, ht9 =>
      cases ht9
      refine j_iload_n h 38 rfl rfl dX3_shinesOn_37 ?_
      refine j_bipush h 40 rfl (nI 10) (by decide) dX3_shinesOn_38 ?_
      refine j_bipush h 42 rfl (nI 15) (by decide) dX3_shinesOn_40 ?_
      refine j_callNI h 45 rfl lkX3_104 rfl (t_X10_isWithin _ _ _ _) rfl rfl rfl dX3_shinesOn_42 ?_
      exact j_ret h hr hb_nar dX3_shinesOn_45 ⟨congrArg (fun z => some (Value.int z)) (by refine hb_c ⟨fun z => Or.inr (Or.inl ⟨c_1, z⟩), fun z => ?_⟩; rcases z with ⟨q, z⟩ | ⟨q, z⟩ | ⟨q, z⟩ <;> first | exact z | exact absurd (c_1.symm.trans q) (by decide)), rfl⟩
    | 2, ht9 =>
      cases ht9
      refine j_iload_n h 47 rfl rfl dX3_shinesOn_46 ?_
      refine j_bipush h 49 rfl (nI 15) (by decide) dX3_shinesOn_47 ?_
      refine j_bipush h 51 rfl (nI 19) (by decide) dX3_shinesOn_49 ?_
      refine j_callNI h 54 rfl lkX3_104 rfl (t_X10_isWithin _ _ _ _) rfl rfl rfl dX3_shinesOn_51 ?_
      exact j_ret h hr hb_nar dX3_shinesOn_54 ⟨congrArg (fun z => some (Value.int z)) (by refine hb_c ⟨fun z => Or.inr (Or.inr ⟨c_1, z⟩), fun z => ?_⟩; rcases z with ⟨q, z⟩ | ⟨q, z⟩ | ⟨q, z⟩ <;> first | exact z | exact absurd (c_1.symm.trans q) (by decide)), rfl⟩
    | n9 + 3, ht9 => cases ht9
  · skip
    refine j_iconst h 56 rfl (nI 0) (by decide) dX3_shinesOn_55 ?_
    exact j_ret h hr (by decide) dX3_shinesOn_56 ⟨congrArg (fun z => some (Value.int z)) (by rw [hb_f]; rfl; intro z; have t := tsw_out (by decide) c_1; rcases z with ⟨q, z⟩ | ⟨q, z⟩ | ⟨q, z⟩; exact t 0 (by decide) q; exact t 1 (by decide) q; exact t 2 (by decide) q), rfl⟩
set_option maxRecDepth 100000 in
set_option maxHeartbeats 4000000 in
theorem t_X3_sunIn (M : hM) (r n : Nat) (hr5 : r < 5) (hn : n < 24) : Ct 3 mX3_sunIn [.ref 14, .int (nI r), .int (nI n)] M (pI (sunC (M 14 13) (M 18 r) (M 22 r) n) M) := by
  refine ct_of (lv := [some (.ref 14), some (.int (nI r)), some (.int (nI n))]) (by decide +kernel) (fun _ _ hq => hq) rfl (fun _ => Nat.le_of_ble_eq_true rfl) (fun X h hr => ?_)
  refine j_aload_n h 1 rfl rfl dX3_sunIn_0 ?_
  refine j_getR h 4 rfl glX3_22 sh_14 rfl dX3_sunIn_1 ?_
  refine j_iload_n h 5 rfl rfl dX3_sunIn_4 ?_
  refine j_iald h 6 rfl sh_18 _ rfl (by omega) rfl dX3_sunIn_5 ?_
  refine j_iload_n h 7 rfl rfl dX3_sunIn_6 ?_
  refine j_callSI h 10 rfl lkX3_97 rfl (t_X3_shinesOn _ _ _) rfl rfl rfl dX3_sunIn_7 ?_
  refine j_if_neB h 15 13 dX3_sunIn_10 (by decide) rfl (fun c_10 => ?_) (fun c_10 => ?_)
  · skip
    refine j_aload_n h 16 rfl rfl dX3_sunIn_15 ?_
    refine j_getR h 19 rfl glX3_34 sh_14 rfl dX3_sunIn_16 ?_
    refine j_iload_n h 20 rfl rfl dX3_sunIn_19 ?_
    refine j_iald h 21 rfl sh_22 _ rfl (by omega) rfl dX3_sunIn_20 ?_
    refine j_iload_n h 22 rfl rfl dX3_sunIn_21 ?_
    refine j_callNI h 25 rfl lkX3_101 rfl (t_X10_hasBit _ _ _) rfl rfl rfl dX3_sunIn_22 ?_
    refine j_if_eqB h 37 28 dX3_sunIn_25 (by decide) rfl (fun c_25 => ?_) (fun c_25 => ?_)
    · skip
      refine j_aload_n h 38 rfl rfl dX3_sunIn_37 ?_
      refine j_getI h 41 rfl glX3_56 sh_14 rfl dX3_sunIn_38 ?_
      exact j_ret h hr rfl dX3_sunIn_41 ⟨congrArg (fun z => some (Value.int z)) (by unfold sunC; first | rw [if_neg c_10] | rw [if_pos c_10, if_pos c_25] | rw [if_pos c_10, if_neg c_25]), rfl⟩
    · skip
      refine j_aload_n h 29 rfl rfl dX3_sunIn_28 ?_
      refine j_getI h 32 rfl glX3_56 sh_14 rfl dX3_sunIn_29 ?_
      refine j_iconst h 33 rfl (nI 4) (by decide) dX3_sunIn_32 ?_
      refine j_idiv h 34 rfl (by decide) dX3_sunIn_33 ?_
      refine j_goto h 41 dX3_sunIn_34 (by decide) ?_
      exact j_ret h hr rfl dX3_sunIn_41 ⟨congrArg (fun z => some (Value.int z)) (by unfold sunC; first | rw [if_neg c_10] | rw [if_pos c_10, if_pos c_25] | rw [if_pos c_10, if_neg c_25]), rfl⟩
  · skip
    refine j_iconst h 14 rfl (nI 0) (by decide) dX3_sunIn_13 ?_
    exact j_ret h hr rfl dX3_sunIn_14 ⟨congrArg (fun z => some (Value.int z)) (by unfold sunC; first | rw [if_neg c_10] | rw [if_pos c_10, if_pos c_25] | rw [if_pos c_10, if_neg c_25]), rfl⟩
set_option maxRecDepth 100000 in
set_option maxHeartbeats 4000000 in
theorem t_X4_skyAt (M : hM) (n : Nat) (hn : n < 96) : Ct 1 mX4_skyAt [.ref 29, .int (nI n)] M (pI (M 39 n) M) := by
  refine ct_of (lv := [some (.ref 29), some (.int (nI n))]) (by decide +kernel) (fun _ _ hq => hq) rfl (fun _ => Nat.le_of_ble_eq_true rfl) (fun X h hr => ?_)
  refine j_aload_n h 1 rfl rfl dX4_skyAt_0 ?_
  refine j_getR h 4 rfl glX4_26 sh_29 rfl dX4_skyAt_1 ?_
  refine j_iload_n h 5 rfl rfl dX4_skyAt_4 ?_
  refine j_iald h 6 rfl sh_39 _ rfl (by omega) rfl dX4_skyAt_5 ?_
  exact j_ret h hr rfl dX4_skyAt_6 ⟨rfl, rfl⟩
set_option maxRecDepth 100000 in
set_option maxHeartbeats 4000000 in
theorem t_X4_sunIn (M : hM) (r n : Nat) (hr5 : r < 5) (hn : n < 24) : Ct 1 mX4_sunIn [.ref 29, .int (nI r), .int (nI n)] M (pI (M (34 + r) n) M) := by
  refine ct_of (lv := [some (.ref 29), some (.int (nI r)), some (.int (nI n))]) (by decide +kernel) (fun _ _ hq => hq) rfl (fun _ => Nat.le_of_ble_eq_true rfl) (fun X h hr => ?_)
  refine j_aload_n h 1 rfl rfl dX4_sunIn_0 ?_
  refine j_getR h 4 rfl glX4_23 sh_29 rfl dX4_sunIn_1 ?_
  refine j_iload_n h 5 rfl rfl dX4_sunIn_4 ?_
  refine j_aald h 6 rfl sh_33 _ rfl (by omega) rfl dX4_sunIn_5 ?_
  refine j_iload_n h 7 rfl rfl dX4_sunIn_6 ?_
  refine j_iald h 8 rfl (shr_33 _ (by omega)) _ rfl (by omega) rfl dX4_sunIn_7 ?_
  exact j_ret h hr rfl dX4_sunIn_8 ⟨rfl, rfl⟩
set_option maxRecDepth 100000 in
set_option maxHeartbeats 4000000 in
theorem t_X4_leaks (M : hM) (r : Nat) (hr5 : r < 5) : Ct 1 mX4_leaks [.ref 29, .int (nI r)] M (pI (M 32 r) M) := by
  refine ct_of (lv := [some (.ref 29), some (.int (nI r))]) (by decide +kernel) (fun _ _ hq => hq) rfl (fun _ => Nat.le_of_ble_eq_true rfl) (fun X h hr => ?_)
  refine j_aload_n h 1 rfl rfl dX4_leaks_0 ?_
  refine j_getR h 4 rfl glX4_18 sh_29 rfl dX4_leaks_1 ?_
  refine j_iload_n h 5 rfl rfl dX4_leaks_4 ?_
  refine j_iald h 6 rfl sh_32 _ rfl (by omega) rfl dX4_leaks_5 ?_
  exact j_ret h hr rfl dX4_leaks_6 ⟨rfl, rfl⟩
set_option maxRecDepth 100000 in
set_option maxHeartbeats 4000000 in
theorem t_X4_takes (M : hM) : Ct 1 mX4_takes [.ref 29] M (pI (M 29 5) M) := by
  refine ct_of (lv := [some (.ref 29)]) (by decide +kernel) (fun _ _ hq => hq) rfl (fun _ => Nat.le_of_ble_eq_true rfl) (fun X h hr => ?_)
  refine j_aload_n h 1 rfl rfl dX4_takes_0 ?_
  refine j_getI h 4 rfl glX4_29 sh_29 rfl dX4_takes_1 ?_
  exact j_ret h hr rfl dX4_takes_4 ⟨rfl, rfl⟩
set_option maxRecDepth 100000 in
set_option maxHeartbeats 4000000 in
theorem t_X4_gives (M : hM) : Ct 1 mX4_gives [.ref 29] M (pI (M 29 6) M) := by
  refine ct_of (lv := [some (.ref 29)]) (by decide +kernel) (fun _ _ hq => hq) rfl (fun _ => Nat.le_of_ble_eq_true rfl) (fun X h hr => ?_)
  refine j_aload_n h 1 rfl rfl dX4_gives_0 ?_
  refine j_getI h 4 rfl glX4_33 sh_29 rfl dX4_gives_1 ?_
  exact j_ret h hr rfl dX4_gives_4 ⟨rfl, rfl⟩
set_option maxRecDepth 100000 in
set_option maxHeartbeats 4000000 in
theorem t_X4_wouldOpen (M : hM) (r n : Nat) (a : Int32) (hr5 : r < 5) (hn : n < 96) : Ct 2 mX4_wouldOpen [.ref 29, .int (nI r), .int (nI n), .int a] M (pI (hb (wdP M r n a)) M) := by
  refine ct_of (lv := [some (.ref 29), some (.int (nI r)), some (.int (nI n)), some (.int a)]) (by decide +kernel) (fun _ _ hq => hq) rfl (fun _ => Nat.le_of_ble_eq_true rfl) (fun X h hr => ?_)
  refine j_aload_n h 1 rfl rfl dX4_wouldOpen_0 ?_
  refine j_getR h 4 rfl glX4_9 sh_29 rfl dX4_wouldOpen_1 ?_
  refine j_iload_n h 5 rfl rfl dX4_wouldOpen_4 ?_
  refine j_iald h 6 rfl sh_30 _ rfl (by omega) rfl dX4_wouldOpen_5 ?_
  refine j_tsw h 64 0 [32, 46, 62] dX4_wouldOpen_6 (by decide) (by decide) (by decide) (by decide) (by decide) (fun i9 t9 ht9 c_6 => ?_) (fun c_6 => ?_)
  · match i9, ht9 with
    | 0, ht9 =>
      cases ht9
      refine j_aload_n h 33 rfl rfl dX4_wouldOpen_32 ?_
      refine j_getR h 36 rfl glX4_15 sh_29 rfl dX4_wouldOpen_33 ?_
      refine j_iload_n h 37 rfl rfl dX4_wouldOpen_36 ?_
      refine j_iald h 38 rfl sh_31 _ rfl (by omega) rfl dX4_wouldOpen_37 ?_
      refine j_iload_n h 39 rfl rfl dX4_wouldOpen_38 ?_
      refine j_bipush h 41 rfl (nI 24) (by decide) dX4_wouldOpen_39 ?_
      refine j_iremN h 42 rfl (by omega) (by omega) (by omega) dX4_wouldOpen_41 ?_
      refine j_callNI h 45 rfl lkX4_70 rfl (t_X10_hasBit _ _ _) rfl rfl rfl dX4_wouldOpen_42 ?_
      exact j_ret h hr hb_nar dX4_wouldOpen_45 ⟨congrArg (fun z => some (Value.int z)) (by refine hb_c ⟨fun z => Or.inl ⟨c_6, z⟩, fun z => ?_⟩; rcases z with ⟨q, z⟩ | ⟨q, z⟩ | q <;> first | exact z | exact absurd (c_6.symm.trans q) (by decide)), rfl⟩
    | 1, ht9 =>
      cases ht9
      refine j_aload_n h 47 rfl rfl dX4_wouldOpen_46 ?_
      refine j_getR h 50 rfl glX4_26 sh_29 rfl dX4_wouldOpen_47 ?_
      refine j_iload_n h 51 rfl rfl dX4_wouldOpen_50 ?_
      refine j_iald h 52 rfl sh_39 _ rfl (by omega) rfl dX4_wouldOpen_51 ?_
      refine j_iload_n h 53 rfl rfl dX4_wouldOpen_52 ?_
      refine j_icmp_ge h 60 56 dX4_wouldOpen_53 (by decide) rfl (fun c_53 => ?_) (fun c_53 => ?_)
      · skip
        refine j_iconst h 61 rfl (nI 0) (by decide) dX4_wouldOpen_60 ?_
        exact j_ret h hr (by decide) dX4_wouldOpen_61 ⟨congrArg (fun z => some (Value.int z)) (by first | (rw [hb_t]; rfl; (first | exact Or.inr (Or.inl ⟨c_6, Int32.not_le.mp c_53⟩) | (intro z; rcases z with ⟨q, z⟩ | ⟨q, z⟩ | q <;> first | exact absurd z (by assumption) | exact absurd z (Int32.not_lt.mpr (by assumption)) | exact absurd (c_6.symm.trans q) (by decide)))) | (rw [hb_f]; rfl; (first | exact Or.inr (Or.inl ⟨c_6, Int32.not_le.mp c_53⟩) | (intro z; rcases z with ⟨q, z⟩ | ⟨q, z⟩ | q <;> first | exact absurd z (by assumption) | exact absurd z (Int32.not_lt.mpr (by assumption)) | exact absurd (c_6.symm.trans q) (by decide))))), rfl⟩
      · skip
        refine j_iconst h 57 rfl (nI 1) (by decide) dX4_wouldOpen_56 ?_
        refine j_goto h 61 dX4_wouldOpen_57 (by decide) ?_
        exact j_ret h hr (by decide) dX4_wouldOpen_61 ⟨congrArg (fun z => some (Value.int z)) (by first | (rw [hb_t]; rfl; (first | exact Or.inr (Or.inl ⟨c_6, Int32.not_le.mp c_53⟩) | (intro z; rcases z with ⟨q, z⟩ | ⟨q, z⟩ | q <;> first | exact absurd z (by assumption) | exact absurd z (Int32.not_lt.mpr (by assumption)) | exact absurd (c_6.symm.trans q) (by decide)))) | (rw [hb_f]; rfl; (first | exact Or.inr (Or.inl ⟨c_6, Int32.not_le.mp c_53⟩) | (intro z; rcases z with ⟨q, z⟩ | ⟨q, z⟩ | q <;> first | exact absurd z (by assumption) | exact absurd z (Int32.not_lt.mpr (by assumption)) | exact absurd (c_6.symm.trans q) (by decide))))), rfl⟩
    | 2, ht9 =>
      cases ht9
      refine j_iconst h 63 rfl (nI 1) (by decide) dX4_wouldOpen_62 ?_
      exact j_ret h hr (by decide) dX4_wouldOpen_63 ⟨congrArg (fun z => some (Value.int z)) (by first | (rw [hb_t]; rfl; exact Or.inr (Or.inr c_6)) | (rw [hb_f]; rfl; exact Or.inr (Or.inr c_6))), rfl⟩
    | n9 + 3, ht9 => cases ht9
  · skip
    refine j_iconst h 65 rfl (nI 0) (by decide) dX4_wouldOpen_64 ?_
    exact j_ret h hr (by decide) dX4_wouldOpen_65 ⟨congrArg (fun z => some (Value.int z)) (by rw [hb_f]; rfl; intro z; have t := tsw_out (by decide) c_6; rcases z with ⟨q, z⟩ | ⟨q, z⟩ | q; exact t 0 (by decide) q; exact t 1 (by decide) q; exact t 2 (by decide) q), rfl⟩
set_option maxRecDepth 100000 in
set_option maxHeartbeats 4000000 in
theorem t_X4_putLaw (M : hM) (g t : Int32) : Ct 1 mX4_putLaw [.ref 29, .int g, .int t] M (pV (fun M2 => M2 = mu (mu M 29 6 g) 29 5 t)) := by
  refine ct_of (lv := [some (.ref 29), some (.int g), some (.int t)]) (by decide +kernel) (fun _ _ hq => hq) rfl (fun _ => Nat.le_of_ble_eq_true rfl) (fun X h hr => ?_)
  refine j_aload_n h 1 rfl rfl dX4_putLaw_0 ?_
  refine j_iload_n h 2 rfl rfl dX4_putLaw_1 ?_
  refine j_putI h 5 rfl plX4_33 sh_29 rfl rfl rfl rfl dX4_putLaw_2 ?_
  refine j_aload_n h 6 rfl rfl dX4_putLaw_5 ?_
  refine j_iload_n h 7 rfl rfl dX4_putLaw_6 ?_
  refine j_putI h 10 rfl plX4_29 sh_29 rfl rfl rfl rfl dX4_putLaw_7 ?_
  exact j_vret h hr dX4_putLaw_10 ⟨rfl, rfl⟩
set_option maxRecDepth 100000 in
set_option maxHeartbeats 4000000 in
theorem t_X4_putHabit (M : hM) (r : Nat) (x : Int32) (hr5 : r < 5) : Ct 1 mX4_putHabit [.ref 29, .int (nI r), .int x] M (pV (fun M2 => M2 = mu M 30 r x)) := by
  refine ct_of (lv := [some (.ref 29), some (.int (nI r)), some (.int x)]) (by decide +kernel) (fun _ _ hq => hq) rfl (fun _ => Nat.le_of_ble_eq_true rfl) (fun X h hr => ?_)
  refine j_aload_n h 1 rfl rfl dX4_putHabit_0 ?_
  refine j_getR h 4 rfl glX4_9 sh_29 rfl dX4_putHabit_1 ?_
  refine j_iload_n h 5 rfl rfl dX4_putHabit_4 ?_
  refine j_iload_n h 6 rfl rfl dX4_putHabit_5 ?_
  refine j_iast h 7 rfl sh_30 _ rfl (by omega) rfl dX4_putHabit_6 ?_
  exact j_vret h hr dX4_putHabit_7 ⟨rfl, rfl⟩
def twoP (M : hM) (r : Nat) (M2 : hM) : Prop := (∀ a, a ≠ 32 → a ≠ 34 + r → M2 a = M a) ∧ (∀ j, j ≠ r → M2 32 j = M 32 j) ∧ M2 32 r = M 14 16 ∧ ∀ j, j < 24 → M2 (34 + r) j = sunC (M 14 13) (M 18 r) (M 22 r) j
set_option maxRecDepth 100000 in
set_option maxHeartbeats 4000000 in
theorem t_X4_takeWorksOff (M : hM) (r : Nat) (hr5 : r < 5) : Ct 4 mX4_takeWorksOff [.ref 29, .int (nI r), .ref 14] M (pV (twoP M r)) := by
  refine ct_of (lv := [some (.ref 29), some (.int (nI r)), some (.ref 14), none]) (by decide +kernel) (fun _ _ hq => hq) rfl (fun _ => Nat.le_of_ble_eq_true rfl) (fun X h hr => ?_)
  refine j_aload_n h 1 rfl rfl dX4_takeWorksOff_0 ?_
  refine j_getR h 4 rfl glX4_18 sh_29 rfl dX4_takeWorksOff_1 ?_
  refine j_iload_n h 5 rfl rfl dX4_takeWorksOff_4 ?_
  refine j_aload_n h 6 rfl rfl dX4_takeWorksOff_5 ?_
  refine j_callVI h 9 rfl lkX4_59 sh_14 rfl rfl (t_X3_leaks _) rfl rfl rfl dX4_takeWorksOff_6 ?_
  refine j_iast h 10 rfl sh_32 _ rfl (by omega) rfl dX4_takeWorksOff_9 ?_
  refine j_iconst h 11 rfl (nI 0) (by decide) dX4_takeWorksOff_10 ?_
  refine j_istore_n h 12 rfl rfl dX4_takeWorksOff_11 ?_
  have L : ∀ (n i : Nat) (M2 : hM), 24 - i < n → i ≤ 24 → (∀ a, a ≠ 32 → a ≠ 34 + r → M2 a = M a) → (∀ j, j ≠ r → M2 32 j = M 32 j) → M2 32 r = M 14 16 → (∀ j, j < i → M2 (34 + r) j = sunC (M 14 13) (M 18 r) (M 22 r) j) → J X 12 [some (.ref 29), some (.int (nI r)), some (.ref 14), some (.int (nI i))] [] M2 := by
    intro n
    induction n with
    | zero => intro i M2 h1; omega
    | succ n ih =>
      intro i M2 h1 h2 f1 f2 f3 f4
      refine j_iload_n h 13 rfl rfl dX4_takeWorksOff_12 ?_
      refine j_bipush h 15 rfl (nI 24) (by decide) dX4_takeWorksOff_13 ?_
      refine j_icmp_geN h 38 18 (by omega) (by omega) dX4_takeWorksOff_15 (by decide) rfl (fun c_15 => ?_) (fun c_15 => ?_)
      · skip
        exact j_vret h hr dX4_takeWorksOff_38 ⟨rfl, f1, f2, f3, fun j hj => f4 j (by omega)⟩
      · skip
        refine j_aload_n h 19 rfl rfl dX4_takeWorksOff_18 ?_
        refine j_getR h 22 rfl glX4_23 sh_29 rfl dX4_takeWorksOff_19 ?_
        refine j_iload_n h 23 rfl rfl dX4_takeWorksOff_22 ?_
        refine j_aald h 24 rfl sh_33 _ rfl (by omega) rfl dX4_takeWorksOff_23 ?_
        refine j_iload_n h 25 rfl rfl dX4_takeWorksOff_24 ?_
        refine j_aload_n h 26 rfl rfl dX4_takeWorksOff_25 ?_
        refine j_iload_n h 27 rfl rfl dX4_takeWorksOff_26 ?_
        refine j_iload_n h 28 rfl rfl dX4_takeWorksOff_27 ?_
        refine j_callVI h 31 rfl lkX4_61 sh_14 rfl rfl (t_X3_sunIn _ _ _ (by omega) (by omega)) rfl rfl rfl dX4_takeWorksOff_28 ?_
        refine j_iast h 32 rfl (shr_33 _ (by omega)) _ rfl (by omega) rfl dX4_takeWorksOff_31 ?_
        refine j_iincN h 35 rfl rfl rfl dX4_takeWorksOff_32 ?_
        refine j_goto h 12 dX4_takeWorksOff_35 (by decide) ?_
        exact ih (i + 1) _ (by omega) (by omega) (fun a g1 g2 => (mu_f g2).trans (f1 a g1 g2)) (fun j g1 => (mu_a (by omega)).trans (f2 j g1)) ((mu_a (by omega)).trans f3) (mu_ext f4 (by rw [f1 14 (by omega) (by omega), f1 18 (by omega) (by omega), f1 22 (by omega) (by omega)]))
  exact L 25 0 _ (by omega) (by omega) (fun a g1 g2 => mu_f g1) (fun j g1 => mu_k g1) mu_s (fun j hj => absurd hj (Nat.not_lt_zero j))
def pacP (M : hM) (w : Int32) (M2 : hM) : Prop := (∀ a, a ≠ 30 → a ≠ 31 → M2 a = M a) ∧ (∀ j, j < 5 → M2 30 j = nI 0) ∧ ∀ j, j < 5 → M2 31 j = w
set_option maxRecDepth 100000 in
set_option maxHeartbeats 4000000 in
theorem t_X4_putAllByClock (M : hM) (w : Int32) : Ct 1 mX4_putAllByClock [.ref 29, .int w] M (pV (pacP M w)) := by
  refine ct_of (lv := [some (.ref 29), some (.int w), none]) (by decide +kernel) (fun _ _ hq => hq) rfl (fun _ => Nat.le_of_ble_eq_true rfl) (fun X h hr => ?_)
  refine j_iconst h 1 rfl (nI 0) (by decide) dX4_putAllByClock_0 ?_
  refine j_istore_n h 2 rfl rfl dX4_putAllByClock_1 ?_
  have L : ∀ (n i : Nat) (M2 : hM), 5 - i < n → i ≤ 5 → (∀ a, a ≠ 30 → a ≠ 31 → M2 a = M a) → (∀ j, j < i → M2 30 j = nI 0) → (∀ j, j < i → M2 31 j = w) → J X 2 [some (.ref 29), some (.int w), some (.int (nI i))] [] M2 := by
    intro n
    induction n with
    | zero => intro i M2 h1; omega
    | succ n ih =>
      intro i M2 h1 h2 f1 f2 f3
      refine j_iload_n h 3 rfl rfl dX4_putAllByClock_2 ?_
      refine j_iconst h 4 rfl (nI 5) (by decide) dX4_putAllByClock_3 ?_
      refine j_icmp_geN h 27 7 (by omega) (by omega) dX4_putAllByClock_4 (by decide) rfl (fun c_4 => ?_) (fun c_4 => ?_)
      · skip
        exact j_vret h hr dX4_putAllByClock_27 ⟨rfl, f1, fun j hj => f2 j (by omega), fun j hj => f3 j (by omega)⟩
      · skip
        refine j_aload_n h 8 rfl rfl dX4_putAllByClock_7 ?_
        refine j_getR h 11 rfl glX4_9 sh_29 rfl dX4_putAllByClock_8 ?_
        refine j_iload_n h 12 rfl rfl dX4_putAllByClock_11 ?_
        refine j_iconst h 13 rfl (nI 0) (by decide) dX4_putAllByClock_12 ?_
        refine j_iast h 14 rfl sh_30 _ rfl (by omega) rfl dX4_putAllByClock_13 ?_
        refine j_aload_n h 15 rfl rfl dX4_putAllByClock_14 ?_
        refine j_getR h 18 rfl glX4_15 sh_29 rfl dX4_putAllByClock_15 ?_
        refine j_iload_n h 19 rfl rfl dX4_putAllByClock_18 ?_
        refine j_iload_n h 20 rfl rfl dX4_putAllByClock_19 ?_
        refine j_iast h 21 rfl sh_31 _ rfl (by omega) rfl dX4_putAllByClock_20 ?_
        refine j_iincN h 24 rfl rfl rfl dX4_putAllByClock_21 ?_
        refine j_goto h 2 dX4_putAllByClock_24 (by decide) ?_
        exact ih (i + 1) _ (by omega) (by omega) (fun a g1 g2 => (mu_f g2).trans ((mu_f g1).trans (f1 a g1 g2))) (fun j hj => (mu_a (by decide)).trans (mu_ext (f := fun _ => nI 0) f2 rfl j hj)) (mu_ext (f := fun _ => w) (fun j hj => (mu_a (by decide)).trans (f3 j hj)) rfl)
  exact L 6 0 _ (by omega) (by omega) (fun a g1 g2 => rfl) (fun j hj => absurd hj (Nat.not_lt_zero j)) (fun j hj => absurd hj (Nat.not_lt_zero j))
def pagP (M : hM) (M2 : hM) : Prop := (∀ a, a ≠ 30 → M2 a = M a) ∧ ∀ j, j < 5 → M2 30 j = nI 1
set_option maxRecDepth 100000 in
set_option maxHeartbeats 4000000 in
theorem t_X4_putAllByGlass (M : hM) : Ct 1 mX4_putAllByGlass [.ref 29] M (pV (pagP M)) := by
  refine ct_of (lv := [some (.ref 29), none]) (by decide +kernel) (fun _ _ hq => hq) rfl (fun _ => Nat.le_of_ble_eq_true rfl) (fun X h hr => ?_)
  refine j_iconst h 1 rfl (nI 0) (by decide) dX4_putAllByGlass_0 ?_
  refine j_istore_n h 2 rfl rfl dX4_putAllByGlass_1 ?_
  have L : ∀ (n i : Nat) (M2 : hM), 5 - i < n → i ≤ 5 → (∀ a, a ≠ 30 → M2 a = M a) → (∀ j, j < i → M2 30 j = nI 1) → J X 2 [some (.ref 29), some (.int (nI i))] [] M2 := by
    intro n
    induction n with
    | zero => intro i M2 h1; omega
    | succ n ih =>
      intro i M2 h1 h2 f1 f2
      refine j_iload_n h 3 rfl rfl dX4_putAllByGlass_2 ?_
      refine j_iconst h 4 rfl (nI 5) (by decide) dX4_putAllByGlass_3 ?_
      refine j_icmp_geN h 20 7 (by omega) (by omega) dX4_putAllByGlass_4 (by decide) rfl (fun c_4 => ?_) (fun c_4 => ?_)
      · skip
        exact j_vret h hr dX4_putAllByGlass_20 ⟨rfl, f1, fun j hj => f2 j (by omega)⟩
      · skip
        refine j_aload_n h 8 rfl rfl dX4_putAllByGlass_7 ?_
        refine j_getR h 11 rfl glX4_9 sh_29 rfl dX4_putAllByGlass_8 ?_
        refine j_iload_n h 12 rfl rfl dX4_putAllByGlass_11 ?_
        refine j_iconst h 13 rfl (nI 1) (by decide) dX4_putAllByGlass_12 ?_
        refine j_iast h 14 rfl sh_30 _ rfl (by omega) rfl dX4_putAllByGlass_13 ?_
        refine j_iincN h 17 rfl rfl rfl dX4_putAllByGlass_14 ?_
        refine j_goto h 2 dX4_putAllByGlass_17 (by decide) ?_
        exact ih (i + 1) _ (by omega) (by omega) (fun a g1 => (mu_f g1).trans (f1 a g1)) (mu_ext (f := fun _ => nI 1) f2 rfl)
  exact L 6 0 _ (by omega) (by omega) (fun a g1 => rfl) (fun j hj => absurd hj (Nat.not_lt_zero j))
