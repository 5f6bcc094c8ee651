/-! HotWeek's own methods; the answers as functions of the class's cells -/
def tn (x : Int32) : Nat := x.toNatClampNeg
theorem tn_nI {k : Nat} (h : k < 2 ^ 31) : tn (nI k) = k := nI_clamp h
abbrev tldP (M : hM) (x : Int32) : Prop := inP x (nI 0) (nI 4) ∧ ¬ M 15 (tn x) = 0
theorem t_isTold (M : hM) (x : Int32) : Ct 1 mX3_isTold [.ref 14, .int x] M (pI (hb (tldP M x)) M) := by
  by_cases h : inP x (nI 0) (nI 4)
  · obtain ⟨k, hk, rfl⟩ := (in_nat (by decide)).mp h
    have e : hb (¬ M 15 k = 0) = hb (tldP M (nI k)) := hb_c ⟨fun z => ⟨h, by rw [tn_nI (by omega)]; exact z⟩, fun z => by have := z.2; rw [tn_nI (by omega)] at this; exact this⟩
    rw [← e]
    exact t_X3_isTold M k (by omega)
  · have e : nI 0 = hb (tldP M x) := (hb_f (fun z => h z.1)).symm
    rw [← e]
    exact t_X3_isTold_out M x h
def pers (a : Nat) : Prop := a = 1 ∨ a = 2 ∨ (14 ≤ a ∧ a < 29) ∨ (80 ≤ a ∧ a < 84) ∨ (85 ≤ a ∧ a < 88) ∨ a = 89 ∨ a = 90 ∨ 93 ≤ a
/-- what the class keeps between calls is right -/
def caO (M : hM) : Prop := (¬ M 0 11 = 0 → M 0 11 = nI 1 ∧ toldOk M) ∧ (¬ M 78 0 = 0 → bstOk M M)
/-- a call that only asks -/
def frC (M M2 : hM) : Prop := (∀ a, pers a → M2 a = M a) ∧ M2 79 4 = M 79 4 ∧ M2 84 3 = M 84 3 ∧ caO M2
theorem bst_cg {M N M2 N2 : hM} (h : ∀ a, 14 ≤ a → a < 29 → N a = M a) (h2 : N2 78 = M2 78) (hb : bstOk M M2) : bstOk N N2 := by
  have e := planOf_cg h
  unfold bstOk glsP clkP at *
  rw [h2, e]
  exact hb
theorem toldOk_cg {M N : hM} (h : ∀ a, 14 ≤ a → a < 29 → N a = M a) (h2 : ∀ a, 40 ≤ a → a < 59 → N a = M a) (hb : toldOk M) : toldOk N := by
  have e := planOf_cg h
  unfold toldOk at *
  rw [e]
  intro r hr ht
  obtain ⟨a, b⟩ := hb r hr ht
  exact ⟨fun k hk => by rw [h2 (40 + 4 + r) (by omega) (by omega), h2 (40 + 9 + r) (by omega) (by omega)]; exact a k hk, fun k hk => by rw [h2 (40 + 14 + r) (by omega) (by omega)]; exact b k hk⟩
theorem frC_of {M M2 : hM} (hc : caO M) (h1 : ∀ a, pers a → M2 a = M a) (h2 : M2 79 4 = M 79 4) (h3 : M2 84 3 = M 84 3) (h4 : M2 0 11 = M 0 11) (h5 : ∀ a, 40 ≤ a → a < 59 → M2 a = M a) (h6 : M2 78 = M 78) : frC M M2 := by
  have hh : ∀ a, 14 ≤ a → a < 29 → M2 a = M a := fun a x y => h1 a (by unfold pers; omega)
  refine ⟨h1, h2, h3, fun z => ?_, fun z => ?_⟩
  · rw [h4] at z ⊢
    exact ⟨(hc.1 z).1, toldOk_cg hh h5 (hc.1 z).2⟩
  · rw [h6] at z
    exact bst_cg hh h6 (hc.2 z)
theorem frC_same {M : hM} (hc : caO M) : frC M M := frC_of hc (fun _ _ => rfl) rfl rfl rfl (fun _ _ _ => rfl) rfl
theorem frC_cat {M M2 : hM} (hc : caO M) (h : catP M M2) : frC M M2 ∧ planOf M2 = planOf M := by
  obtain ⟨h1, h2, h3, h4⟩ := h
  have f : ∀ a, ¬ a = 0 → ¬ (29 ≤ a ∧ a < 59) → M2 a = M a := fun a x y => ((h1 a).resolve_left x).resolve_left y
  have hh : ∀ a, 14 ≤ a → a < 29 → M2 a = M a := fun a x y => f a (by omega) (by omega)
  have e := planOf_cg hh
  refine ⟨⟨fun a ha => f a (by unfold pers at ha; omega) (by unfold pers at ha; omega), by rw [f 79 (by omega) (by omega)], by rw [f 84 (by omega) (by omega)], fun _ => ⟨h4, ?_⟩, fun z => ?_⟩, e⟩
  · unfold toldOk; rw [e]; exact h3
  · rw [f 78 (by omega) (by omega)] at z
    exact bst_cg hh (f 78 (by omega) (by omega)) (hc.2 z)
/-- the answers -/
def rmV (M : hM) (k : Nat) (w : Int32) : Int32 := if w = nI 0 then M 16 k else if w = nI 1 then M 17 k else if w = nI 2 then M 18 k else if w = nI 3 then M 19 k else if w = nI 4 then M 20 k else if w = nI 5 then M 21 k else if w = nI 6 then M 22 k else -3
def sRoom (M : hM) (x w : Int32) : Int32 := if tldP M x then rmV M (tn x) w else -2
def sDoor (M : hM) (a b : Int32) : Int32 := if inP a (nI 0) (nI 4) ∧ inP b (nI 0) (nI 4) ∧ ¬ a = b then M (24 + tn a) (tn b) else -2
def sOut (M : hM) (h : Int32) : Int32 := if inP h (nI 0) (nI 95) then skyC (M 14) (tn h) else -2
def wmV (P : hM) (r h : Nat) (w : Int32) : Int32 := if w = nI 0 then (wk P (h + 1) r).1 else if w = nI 1 then (wk P (h + 1) r).2 else if w = nI 2 then hb (opP P r h (wk P h r).1) else -3
def sWarm (M : hM) (r h w : Int32) : Int32 := if tldP M r ∧ inP h (nI 0) (nI 95) then wmV (planOf M) (tn r) (tn h) w else -2
def sNight (M : hM) (r : Int32) : Int32 := if r = -1 then nAll (planOf M) else if tldP M r then nT (planOf M) (tn r) else -2
def sAbove (M : hM) (r x : Int32) : Int32 := if tldP M r then (if inP x (-999) (nI 9999) then (lgS (fun h => (wk (planOf M) h (tn r)).1) x 96).1 else -3) else -2
def sCosts (M : hM) (r : Int32) : Int32 := if tldP M r then nI 10000000 + nAll (planOf M) - nAll (mu (planOf M) 30 (tn r) (nI 1)) else -2
def ckV (M : hM) (w : Int32) : Int32 := if w = nI 0 then nI ((bcS (fun k => nAll (clkP M k)) 576).1 / 24) else if w = nI 1 then nI ((bcS (fun k => nAll (clkP M k)) 576).1 % 24) else if w = nI 2 then (bcS (fun k => nAll (clkP M k)) 576).2 else nI 10000000 + ((bcS (fun k => nAll (clkP M k)) 576).2 - nAll (glsP M))
def sClock (M : hM) (w : Int32) : Int32 := if inP w (nI 0) (nI 3) then ckV M w else -3
def sWorks (M : hM) (n : Nat) (sum w : Int32) : Int32 := if inP sum (nI 0) (nI 9999) ∧ inP w (nI 0) (nI 1) then (if w = 0 then nI (wbS (wkC M n) (wkF M n) sum (2 ^ n)).1 else (wbS (wkC M n) (wkF M n) sum (2 ^ n)).2) else -3
def lnH (M : hM) (g : Nat) (rm hr : Nat → Nat) (t : Int32) : Nat × Nat × Nat × Nat × Nat := lnS (fun k => hlB (lawP M (5 * (k / 9)) (5 * (k % 9))) t rm hr (M 87) g) 81
def lnV (s : Nat × Nat × Nat × Nat × Nat) (w : Int32) : Int32 := if w = 0 then nI s.1 else if s.1 = 0 then -1 else if w = nI 1 then nI s.2.1 else if w = nI 2 then nI s.2.2.1 else if w = nI 3 then nI s.2.2.2.1 else nI s.2.2.2.2
def sLearnt (M : hM) (g : Nat) (rm hr : Nat → Nat) (t w : Int32) : Int32 := if inP t (nI 0) (nI 999) ∧ inP w (nI 0) (nI 4) then lnV (lnH M g rm hr t) w else -3
def sRing (wt du : Nat → Nat) (x : Int32) : Int32 := if ¬ (-1 : Int32) ≤ x then -3 else if x = -1 then nI (LL wt du (tsN wt 8) (pc (tsN wt 8)) (tsN wt 8)) else rgS wt du (tsN wt 8) (tn x)
def stV (s : Nat × Int32 × Int32 × Int32) (x : Int32) : Int32 := if x = nI 0 then nI s.1 else if x = nI 1 then s.2.1 else if x = nI 2 then (if s.1 = 0 then -1 else nI 100000 + s.2.2.1) else nI 100000 + s.2.2.2
def sStreet (n c w p x : Int32) : Int32 := if inP n (nI 1) (nI 8) ∧ inP c (nI 0) (nI 99) ∧ inP w (nI 0) (nI 99) ∧ inP p (nI 0) (nI 99) ∧ inP x (nI 0) (nI 3) then stV (skS c w p (tn n) (2 ^ tn n)) x else -3
def sCount (M : hM) (L w g : Nat) (wt : Nat → Nat) (x : Int32) : Int32 := if x = nI 0 then nI (tldS (M 15) 5) else if x = nI 1 then nI L else if x = nI 2 then nI w else if x = nI 3 then nI g else if x = nI 4 then nI (pc (tsN wt 8)) else if x = nI 5 then M 14 9 else -3

set_option maxRecDepth 100000 in
set_option maxHeartbeats 4000000 in
theorem t_X10_room (M : hM) (x w : Int32) (hca : caO M) : Ct 2 mX10_room [.ref 0, .int x, .int w] M (pX (fun y M2 => y = sRoom M x w ∧ frC M M2)) := by
  refine ct_of (lv := [some (.ref 0), some (.int x), some (.int w)]) (by decide +kernel) (fun _ _ hq => hq) rfl (fun _ => Nat.le_of_ble_eq_true rfl) (fun X h hr => ?_)
  refine j_aload_n h 1 rfl rfl dX10_room_0 ?_
  refine j_getR h 4 rfl glX10_26 sh_0 rfl dX10_room_1 ?_
  refine j_iload_n h 5 rfl rfl dX10_room_4 ?_
  refine j_callVI h 8 rfl lkX10_129 sh_14 rfl rfl (t_isTold _ _) rfl rfl rfl dX10_room_5 ?_
  refine j_if_neB h 14 11 dX10_room_8 (by decide) rfl (fun c_8 => ?_) (fun c_8 => ?_)
  · obtain ⟨k, hk, rfl⟩ := (in_nat (by decide)).mp c_8.1
    have etn : tn (nI k) = k := tn_nI (by omega)
    refine j_iload_n h 15 rfl rfl dX10_room_14 ?_
    refine j_tsw h 119 0 [56, 65, 74, 83, 92, 101, 110] dX10_room_15 (by decide) (by decide) (by decide) (by decide) (by decide) (fun i9 t9 ht9 c_15 => ?_) (fun c_15 => ?_)
    · match i9, ht9 with
      | 0, ht9 =>
        cases ht9
        refine j_aload_n h 57 rfl rfl dX10_room_56 ?_
        refine j_getR h 60 rfl glX10_26 sh_0 rfl dX10_room_57 ?_
        refine j_iload_n h 61 rfl rfl dX10_room_60 ?_
        refine j_callVI h 64 rfl lkX10_132 sh_14 rfl rfl (t_X3_firstAir _ _ (by omega)) rfl rfl rfl dX10_room_61 ?_
        exact j_ret h hr rfl dX10_room_64 ⟨_, rfl, by exact ⟨by unfold sRoom; rw [if_pos c_8, etn, c_15]; rfl, frC_same hca⟩⟩
      | 1, ht9 =>
        cases ht9
        refine j_aload_n h 66 rfl rfl dX10_room_65 ?_
        refine j_getR h 69 rfl glX10_26 sh_0 rfl dX10_room_66 ?_
        refine j_iload_n h 70 rfl rfl dX10_room_69 ?_
        refine j_callVI h 73 rfl lkX10_135 sh_14 rfl rfl (t_X3_firstWall _ _ (by omega)) rfl rfl rfl dX10_room_70 ?_
        exact j_ret h hr rfl dX10_room_73 ⟨_, rfl, by exact ⟨by unfold sRoom; rw [if_pos c_8, etn, c_15]; rfl, frC_same hca⟩⟩
      | 2, ht9 =>
        cases ht9
        refine j_aload_n h 75 rfl rfl dX10_room_74 ?_
        refine j_getR h 78 rfl glX10_26 sh_0 rfl dX10_room_75 ?_
        refine j_iload_n h 79 rfl rfl dX10_room_78 ?_
        refine j_callVI h 82 rfl lkX10_138 sh_14 rfl rfl (t_X3_side _ _ (by omega)) rfl rfl rfl dX10_room_79 ?_
        exact j_ret h hr rfl dX10_room_82 ⟨_, rfl, by exact ⟨by unfold sRoom; rw [if_pos c_8, etn, c_15]; rfl, frC_same hca⟩⟩
      | 3, ht9 =>
        cases ht9
        refine j_aload_n h 84 rfl rfl dX10_room_83 ?_
        refine j_getR h 87 rfl glX10_26 sh_0 rfl dX10_room_84 ?_
        refine j_iload_n h 88 rfl rfl dX10_room_87 ?_
        refine j_callVI h 91 rfl lkX10_141 sh_14 rfl rfl (t_X3_folk _ _ (by omega)) rfl rfl rfl dX10_room_88 ?_
        exact j_ret h hr rfl dX10_room_91 ⟨_, rfl, by exact ⟨by unfold sRoom; rw [if_pos c_8, etn, c_15]; rfl, frC_same hca⟩⟩
      | 4, ht9 =>
        cases ht9
        refine j_aload_n h 93 rfl rfl dX10_room_92 ?_
        refine j_getR h 96 rfl glX10_26 sh_0 rfl dX10_room_93 ?_
        refine j_iload_n h 97 rfl rfl dX10_room_96 ?_
        refine j_callVI h 100 rfl lkX10_144 sh_14 rfl rfl (t_X3_habit _ _ (by omega)) rfl rfl rfl dX10_room_97 ?_
        exact j_ret h hr rfl dX10_room_100 ⟨_, rfl, by exact ⟨by unfold sRoom; rw [if_pos c_8, etn, c_15]; rfl, frC_same hca⟩⟩
      | 5, ht9 =>
        cases ht9
        refine j_aload_n h 102 rfl rfl dX10_room_101 ?_
        refine j_getR h 105 rfl glX10_26 sh_0 rfl dX10_room_102 ?_
        refine j_iload_n h 106 rfl rfl dX10_room_105 ?_
        refine j_callVI h 109 rfl lkX10_147 sh_14 rfl rfl (t_X3_openHours _ _ (by omega)) rfl rfl rfl dX10_room_106 ?_
        exact j_ret h hr rfl dX10_room_109 ⟨_, rfl, by exact ⟨by unfold sRoom; rw [if_pos c_8, etn, c_15]; rfl, frC_same hca⟩⟩
      | 6, ht9 =>
        cases ht9
        refine j_aload_n h 111 rfl rfl dX10_room_110 ?_
        refine j_getR h 114 rfl glX10_26 sh_0 rfl dX10_room_111 ?_
        refine j_iload_n h 115 rfl rfl dX10_room_114 ?_
        refine j_callVI h 118 rfl lkX10_150 sh_14 rfl rfl (t_X3_shutHours _ _ (by omega)) rfl rfl rfl dX10_room_115 ?_
        exact j_ret h hr rfl dX10_room_118 ⟨_, rfl, by exact ⟨by unfold sRoom; rw [if_pos c_8, etn, c_15]; rfl, frC_same hca⟩⟩
      | n9 + 7, ht9 => cases ht9
    · skip
      refine j_bipush h 121 rfl (-3) (by decide) dX10_room_119 ?_
      exact j_ret h hr rfl dX10_room_121 ⟨_, rfl, by exact ⟨by have t0 := tsw_out (by decide) c_15 0 (by decide); have t1 := tsw_out (by decide) c_15 1 (by decide); have t2 := tsw_out (by decide) c_15 2 (by decide); have t3 := tsw_out (by decide) c_15 3 (by decide); have t4 := tsw_out (by decide) c_15 4 (by decide); have t5 := tsw_out (by decide) c_15 5 (by decide); have t6 := tsw_out (by decide) c_15 6 (by decide); unfold sRoom; rw [if_pos c_8, etn]; unfold rmV; rw [if_neg t0, if_neg t1, if_neg t2, if_neg t3, if_neg t4, if_neg t5, if_neg t6], frC_same hca⟩⟩
  · skip
    refine j_bipush h 13 rfl (-2) (by decide) dX10_room_11 ?_
    exact j_ret h hr rfl dX10_room_13 ⟨_, rfl, by exact ⟨(if_neg c_8).symm, frC_same hca⟩⟩
set_option maxRecDepth 100000 in
set_option maxHeartbeats 4000000 in
theorem t_X10_door (M : hM) (a b : Int32) (hca : caO M) : Ct 3 mX10_door [.ref 0, .int a, .int b] M (pX (fun y M2 => y = sDoor M a b ∧ frC M M2)) := by
  refine ct_of (lv := [some (.ref 0), some (.int a), some (.int b)]) (by decide +kernel) (fun _ _ hq => hq) rfl (fun _ => Nat.le_of_ble_eq_true rfl) (fun X h hr => ?_)
  refine j_iload_n h 1 rfl rfl dX10_door_0 ?_
  refine j_callSI h 4 rfl lkX10_153 rfl (t_X10_isRoom _ _) rfl rfl rfl dX10_door_1 ?_
  refine j_if_eqB h 19 7 dX10_door_4 (by decide) rfl (fun c_4 => ?_) (fun c_4 => ?_)
  · skip
    refine j_bipush h 21 rfl (-2) (by decide) dX10_door_19 ?_
    exact j_ret h hr rfl dX10_door_21 ⟨_, rfl, by exact ⟨by unfold sDoor; rw [if_neg]; rintro ⟨z1, z2, z3⟩; first | exact c_4 z1 | exact c_11 z2 | exact z3 c_16 | exact z3 (Decidable.not_not.mp c_16), frC_same hca⟩⟩
  · skip
    refine j_iload_n h 8 rfl rfl dX10_door_7 ?_
    refine j_callSI h 11 rfl lkX10_153 rfl (t_X10_isRoom _ _) rfl rfl rfl dX10_door_8 ?_
    refine j_if_eqB h 19 14 dX10_door_11 (by decide) rfl (fun c_11 => ?_) (fun c_11 => ?_)
    · skip
      refine j_bipush h 21 rfl (-2) (by decide) dX10_door_19 ?_
      exact j_ret h hr rfl dX10_door_21 ⟨_, rfl, by exact ⟨by unfold sDoor; rw [if_neg]; rintro ⟨z1, z2, z3⟩; first | exact c_4 z1 | exact c_11 z2 | exact z3 c_16 | exact z3 (Decidable.not_not.mp c_16), frC_same hca⟩⟩
    · skip
      refine j_iload_n h 15 rfl rfl dX10_door_14 ?_
      refine j_iload_n h 16 rfl rfl dX10_door_15 ?_
      refine j_icmp_ne h 22 19 dX10_door_16 (by decide) rfl (fun c_16 => ?_) (fun c_16 => ?_)
      · skip
        obtain ⟨k, hk, rfl⟩ := (in_nat (by decide)).mp c_4
        obtain ⟨j, hj, rfl⟩ := (in_nat (by decide)).mp c_11
        refine j_aload_n h 23 rfl rfl dX10_door_22 ?_
        refine j_getR h 26 rfl glX10_26 sh_0 rfl dX10_door_23 ?_
        refine j_iload_n h 27 rfl rfl dX10_door_26 ?_
        refine j_iload_n h 28 rfl rfl dX10_door_27 ?_
        refine j_callVI h 31 rfl lkX10_156 sh_14 rfl rfl (t_X3_passes _ _ _ (by omega) (by omega)) rfl rfl rfl dX10_door_28 ?_
        exact j_ret h hr rfl dX10_door_31 ⟨_, rfl, by exact ⟨by unfold sDoor; rw [if_pos ⟨c_4, c_11, c_16⟩, tn_nI (by omega), tn_nI (by omega)], frC_same hca⟩⟩
      · skip
        refine j_bipush h 21 rfl (-2) (by decide) dX10_door_19 ?_
        exact j_ret h hr rfl dX10_door_21 ⟨_, rfl, by exact ⟨by unfold sDoor; rw [if_neg]; rintro ⟨z1, z2, z3⟩; first | exact c_4 z1 | exact c_11 z2 | exact z3 c_16 | exact z3 (Decidable.not_not.mp c_16), frC_same hca⟩⟩
set_option maxRecDepth 100000 in
set_option maxHeartbeats 4000000 in
theorem t_X10_out (M : hM) (x : Int32) (hca : caO M) : Ct 3 mX10_out [.ref 0, .int x] M (pX (fun y M2 => y = sOut M x ∧ frC M M2)) := by
  refine ct_of (lv := [some (.ref 0), some (.int x)]) (by decide +kernel) (fun _ _ hq => hq) rfl (fun _ => Nat.le_of_ble_eq_true rfl) (fun X h hr => ?_)
  refine j_iload_n h 1 rfl rfl dX10_out_0 ?_
  refine j_callSI h 4 rfl lkX10_160 rfl (t_X10_isHour _ _) rfl rfl rfl dX10_out_1 ?_
  refine j_if_eqB h 18 7 dX10_out_4 (by decide) rfl (fun c_4 => ?_) (fun c_4 => ?_)
  · skip
    refine j_bipush h 20 rfl (-2) (by decide) dX10_out_18 ?_
    exact j_ret h hr rfl dX10_out_20 ⟨_, rfl, by first | exact ⟨by unfold sOut; rw [if_pos c_4, tn_nI (by omega)], frC_same hca⟩ | exact ⟨(if_neg c_4).symm, frC_same hca⟩⟩
  · skip
    obtain ⟨k, hk, rfl⟩ := (in_nat (by decide)).mp c_4
    refine j_aload_n h 8 rfl rfl dX10_out_7 ?_
    refine j_getR h 11 rfl glX10_26 sh_0 rfl dX10_out_8 ?_
    refine j_iload_n h 12 rfl rfl dX10_out_11 ?_
    refine j_callVI h 15 rfl lkX10_163 sh_14 rfl rfl (t_X3_skyAt _ _ (by omega)) rfl rfl rfl dX10_out_12 ?_
    refine j_goto h 20 dX10_out_15 (by decide) ?_
    exact j_ret h hr rfl dX10_out_20 ⟨_, rfl, by first | exact ⟨by unfold sOut; rw [if_pos c_4, tn_nI (by omega)], frC_same hca⟩ | exact ⟨(if_neg c_4).symm, frC_same hca⟩⟩
theorem pl15 {M : hM} {r : Nat} : planOf M 15 r = M 15 r := rfl
set_option maxRecDepth 100000 in
set_option maxHeartbeats 4000000 in
theorem t_X10_warm (M : hM) (x y w : Int32) (hca : caO M) : Ct 7 mX10_warm [.ref 0, .int x, .int y, .int w] M (pX (fun z M2 => z = sWarm M x y w ∧ frC M M2)) := by
  refine ct_of (lv := [some (.ref 0), some (.int x), some (.int y), some (.int w)]) (by decide +kernel) (fun _ _ hq => hq) rfl (fun _ => Nat.le_of_ble_eq_true rfl) (fun X h hr => ?_)
  refine j_aload_n h 1 rfl rfl dX10_warm_0 ?_
  refine j_getR h 4 rfl glX10_26 sh_0 rfl dX10_warm_1 ?_
  refine j_iload_n h 5 rfl rfl dX10_warm_4 ?_
  refine j_callVI h 8 rfl lkX10_129 sh_14 rfl rfl (t_isTold _ _) rfl rfl rfl dX10_warm_5 ?_
  refine j_if_eqB h 18 11 dX10_warm_8 (by decide) rfl (fun c_8 => ?_) (fun c_8 => ?_)
  · skip
    refine j_bipush h 20 rfl (-2) (by decide) dX10_warm_18 ?_
    exact j_ret h hr rfl dX10_warm_20 ⟨_, rfl, by exact ⟨by unfold sWarm; rw [if_neg]; rintro ⟨z1, z2⟩; first | exact c_8 z1 | exact c_15 z2, frC_same hca⟩⟩
  · obtain ⟨k, hk, rfl⟩ := (in_nat (by decide)).mp c_8.1
    have etn : tn (nI k) = k := tn_nI (by omega)
    refine j_iload_n h 12 rfl rfl dX10_warm_11 ?_
    refine j_callSI h 15 rfl lkX10_160 rfl (t_X10_isHour _ _) rfl rfl rfl dX10_warm_12 ?_
    refine j_if_neB h 21 18 dX10_warm_15 (by decide) rfl (fun c_15 => ?_) (fun c_15 => ?_)
    · skip
      obtain ⟨n, hn, rfl⟩ := (in_nat (by decide)).mp c_15
      have etm : tn (nI n) = n := tn_nI (by omega)
      have htd : ¬ planOf M 15 k = 0 := by have := c_8.2; rw [etn] at this; exact this
      refine j_iload_n h 22 rfl rfl dX10_warm_21 ?_
      refine j_tsw h 78 0 [48, 58, 68] dX10_warm_22 (by decide) (by decide) (by decide) (by decide) (by decide) (fun i9 t9 ht9 c_22 => ?_) (fun c_22 => ?_)
      · match i9, ht9 with
        | 0, ht9 =>
          cases ht9
          refine j_aload_n h 49 rfl rfl dX10_warm_48 ?_
          refine j_callVY h 52 rfl lkX10_166 sh_0 rfl rfl (t_X10_courseAsTold _ hca.1) rfl rfl rfl dX10_warm_49 (fun x9 M9 hM9 => ?_)
          obtain ⟨rfl, hcat⟩ := hM9
          obtain ⟨hfr, epl⟩ := frC_cat hca hcat
          have hc : IsC 40 := Or.inl rfl
          have h15 : ∀ r, M9 15 r = planOf M 15 r := fun r => congrFun (hfr.1 15 (by unfold pers; omega)) r
          refine j_iload_n h 53 rfl rfl dX10_warm_52 ?_
          refine j_iload_n h 54 rfl rfl dX10_warm_53 ?_
          refine j_callVI h 57 rfl lkX10_170 sh_40 rfl rfl (t_X1_airBehind _ 40 k n hc (by omega) (by omega)) rfl rfl rfl dX10_warm_54 ?_
          exact j_ret h hr rfl dX10_warm_57 ⟨_, rfl, by exact ⟨by unfold sWarm; rw [if_pos ⟨c_8, c_15⟩, etn, etm, c_22]; exact ((hcat.2.2.1 k (by omega) htd).1 (n + 1) (by omega)).1, hfr⟩⟩
        | 1, ht9 =>
          cases ht9
          refine j_aload_n h 59 rfl rfl dX10_warm_58 ?_
          refine j_callVY h 62 rfl lkX10_166 sh_0 rfl rfl (t_X10_courseAsTold _ hca.1) rfl rfl rfl dX10_warm_59 (fun x9 M9 hM9 => ?_)
          obtain ⟨rfl, hcat⟩ := hM9
          obtain ⟨hfr, epl⟩ := frC_cat hca hcat
          have hc : IsC 40 := Or.inl rfl
          have h15 : ∀ r, M9 15 r = planOf M 15 r := fun r => congrFun (hfr.1 15 (by unfold pers; omega)) r
          refine j_iload_n h 63 rfl rfl dX10_warm_62 ?_
          refine j_iload_n h 64 rfl rfl dX10_warm_63 ?_
          refine j_callVI h 67 rfl lkX10_173 sh_40 rfl rfl (t_X1_wallBehind _ 40 k n hc (by omega) (by omega)) rfl rfl rfl dX10_warm_64 ?_
          exact j_ret h hr rfl dX10_warm_67 ⟨_, rfl, by exact ⟨by unfold sWarm; rw [if_pos ⟨c_8, c_15⟩, etn, etm, c_22]; exact ((hcat.2.2.1 k (by omega) htd).1 (n + 1) (by omega)).2, hfr⟩⟩
        | 2, ht9 =>
          cases ht9
          refine j_aload_n h 69 rfl rfl dX10_warm_68 ?_
          refine j_callVY h 72 rfl lkX10_166 sh_0 rfl rfl (t_X10_courseAsTold _ hca.1) rfl rfl rfl dX10_warm_69 (fun x9 M9 hM9 => ?_)
          obtain ⟨rfl, hcat⟩ := hM9
          obtain ⟨hfr, epl⟩ := frC_cat hca hcat
          have hc : IsC 40 := Or.inl rfl
          have h15 : ∀ r, M9 15 r = planOf M 15 r := fun r => congrFun (hfr.1 15 (by unfold pers; omega)) r
          refine j_iload_n h 73 rfl rfl dX10_warm_72 ?_
          refine j_iload_n h 74 rfl rfl dX10_warm_73 ?_
          refine j_callVI h 77 rfl lkX10_176 sh_40 rfl rfl (t_X1_openIn _ 40 k n hc (by omega) (by omega)) rfl rfl rfl dX10_warm_74 ?_
          exact j_ret h hr rfl dX10_warm_77 ⟨_, rfl, by exact ⟨by unfold sWarm; rw [if_pos ⟨c_8, c_15⟩, etn, etm, c_22]; exact (hcat.2.2.1 k (by omega) htd).2 n (by omega), hfr⟩⟩
        | n9 + 3, ht9 => cases ht9
      · skip
        refine j_bipush h 80 rfl (-3) (by decide) dX10_warm_78 ?_
        exact j_ret h hr rfl dX10_warm_80 ⟨_, rfl, by exact ⟨by have t0 := tsw_out (by decide) c_22 0 (by decide); have t1 := tsw_out (by decide) c_22 1 (by decide); have t2 := tsw_out (by decide) c_22 2 (by decide); unfold sWarm; rw [if_pos ⟨c_8, c_15⟩]; unfold wmV; rw [if_neg t0, if_neg t1, if_neg t2], frC_same hca⟩⟩
    · skip
      refine j_bipush h 20 rfl (-2) (by decide) dX10_warm_18 ?_
      exact j_ret h hr rfl dX10_warm_20 ⟨_, rfl, by exact ⟨by unfold sWarm; rw [if_neg]; rintro ⟨z1, z2⟩; first | exact c_8 z1 | exact c_15 z2, frC_same hca⟩⟩
set_option maxRecDepth 100000 in
set_option maxHeartbeats 4000000 in
theorem t_X10_night (M : hM) (x : Int32) (hca : caO M) : Ct 7 mX10_night [.ref 0, .int x] M (pX (fun z M2 => z = sNight M x ∧ frC M M2)) := by
  refine ct_of (lv := [some (.ref 0), some (.int x)]) (by decide +kernel) (fun _ _ hq => hq) rfl (fun _ => Nat.le_of_ble_eq_true rfl) (fun X h hr => ?_)
  refine j_iload_n h 1 rfl rfl dX10_night_0 ?_
  refine j_iconst h 2 rfl (-1) (by decide) dX10_night_1 ?_
  refine j_icmp_ne h 17 5 dX10_night_2 (by decide) rfl (fun c_2 => ?_) (fun c_2 => ?_)
  · skip
    refine j_aload_n h 18 rfl rfl dX10_night_17 ?_
    refine j_getR h 21 rfl glX10_26 sh_0 rfl dX10_night_18 ?_
    refine j_iload_n h 22 rfl rfl dX10_night_21 ?_
    refine j_callVI h 25 rfl lkX10_129 sh_14 rfl rfl (t_isTold _ _) rfl rfl rfl dX10_night_22 ?_
    refine j_if_eqB h 39 28 dX10_night_25 (by decide) rfl (fun c_25 => ?_) (fun c_25 => ?_)
    · skip
      refine j_bipush h 41 rfl (-2) (by decide) dX10_night_39 ?_
      exact j_ret h hr rfl dX10_night_41 ⟨_, rfl, by first | exact ⟨by unfold sNight; rw [if_neg c_2, if_pos c_25, etn]; exact crs_night hcat.2.2.1 (by omega) htd, hfr⟩ | exact ⟨by unfold sNight; rw [if_neg c_2, if_neg c_25], frC_same hca⟩⟩
    · obtain ⟨k, hk, rfl⟩ := (in_nat (by decide)).mp c_25.1
      have etn : tn (nI k) = k := tn_nI (by omega)
      have htd : ¬ planOf M 15 k = 0 := by have := c_25.2; rw [etn] at this; exact this
      refine j_aload_n h 29 rfl rfl dX10_night_28 ?_
      refine j_callVY h 32 rfl lkX10_166 sh_0 rfl rfl (t_X10_courseAsTold _ hca.1) rfl rfl rfl dX10_night_29 (fun x9 M9 hM9 => ?_)
      obtain ⟨rfl, hcat⟩ := hM9
      obtain ⟨hfr, epl⟩ := frC_cat hca hcat
      have hc : IsC 40 := Or.inl rfl
      have h15 : ∀ r, M9 15 r = planOf M 15 r := fun r => congrFun (hfr.1 15 (by unfold pers; omega)) r
      refine j_iload_n h 33 rfl rfl dX10_night_32 ?_
      refine j_callVI h 36 rfl lkX10_183 sh_40 rfl rfl (t_X1_nightOf _ 40 k hc (by omega)) rfl rfl rfl dX10_night_33 ?_
      refine j_goto h 41 dX10_night_36 (by decide) ?_
      exact j_ret h hr rfl dX10_night_41 ⟨_, rfl, by first | exact ⟨by unfold sNight; rw [if_neg c_2, if_pos c_25, etn]; exact crs_night hcat.2.2.1 (by omega) htd, hfr⟩ | exact ⟨by unfold sNight; rw [if_neg c_2, if_neg c_25], frC_same hca⟩⟩
  · skip
    refine j_aload_n h 6 rfl rfl dX10_night_5 ?_
    refine j_callVY h 9 rfl lkX10_166 sh_0 rfl rfl (t_X10_courseAsTold _ hca.1) rfl rfl rfl dX10_night_6 (fun x9 M9 hM9 => ?_)
    obtain ⟨rfl, hcat⟩ := hM9
    obtain ⟨hfr, epl⟩ := frC_cat hca hcat
    have hc : IsC 40 := Or.inl rfl
    have h15 : ∀ r, M9 15 r = planOf M 15 r := fun r => congrFun (hfr.1 15 (by unfold pers; omega)) r
    refine j_aload_n h 10 rfl rfl dX10_night_9 ?_
    refine j_getR h 13 rfl glX10_26 sh_0 rfl dX10_night_10 ?_
    refine j_callVI h 16 rfl lkX10_179 sh_40 rfl rfl (t_X1_nightOfAll _ 40 hc) rfl rfl rfl dX10_night_13 ?_
    exact j_ret h hr rfl dX10_night_16 ⟨_, rfl, by exact ⟨by unfold sNight; rw [if_pos c_2]; exact crs_all hcat.2.2.1 (fun r _ => h15 r), hfr⟩⟩
theorem lgS_cg {A B : Nat → Int32} {x : Int32} : ∀ n, (∀ k, 1 ≤ k → k ≤ n → A k = B k) → lgS A x n = lgS B x n
  | 0, _ => rfl
  | n + 1, h => by rw [lgS, lgS, lgS_cg n (fun k a b => h k a (by omega)), h (n + 1) (by omega) (by omega)]
set_option maxRecDepth 100000 in
set_option maxHeartbeats 4000000 in
theorem t_X10_above (M : hM) (x w : Int32) (hca : caO M) : Ct 7 mX10_above [.ref 0, .int x, .int w] M (pX (fun z M2 => z = sAbove M x w ∧ frC M M2)) := by
  refine ct_of (lv := [some (.ref 0), some (.int x), some (.int w)]) (by decide +kernel) (fun _ _ hq => hq) rfl (fun _ => Nat.le_of_ble_eq_true rfl) (fun X h hr => ?_)
  refine j_aload_n h 1 rfl rfl dX10_above_0 ?_
  refine j_getR h 4 rfl glX10_26 sh_0 rfl dX10_above_1 ?_
  refine j_iload_n h 5 rfl rfl dX10_above_4 ?_
  refine j_callVI h 8 rfl lkX10_129 sh_14 rfl rfl (t_isTold _ _) rfl rfl rfl dX10_above_5 ?_
  refine j_if_neB h 14 11 dX10_above_8 (by decide) rfl (fun c_8 => ?_) (fun c_8 => ?_)
  · obtain ⟨k, hk, rfl⟩ := (in_nat (by decide)).mp c_8.1
    have etn : tn (nI k) = k := tn_nI (by omega)
    have htd : ¬ planOf M 15 k = 0 := by have := c_8.2; rw [etn] at this; exact this
    refine j_iload_n h 15 rfl rfl dX10_above_14 ?_
    refine j_sipush h 18 rfl (-999) (by decide) dX10_above_15 ?_
    refine j_sipush h 21 rfl (nI 9999) (by decide) dX10_above_18 ?_
    refine j_callSI h 24 rfl lkX10_86 rfl (t_X10_isWithin _ _ _ _) rfl rfl rfl dX10_above_21 ?_
    refine j_if_neB h 30 27 dX10_above_24 (by decide) rfl (fun c_24 => ?_) (fun c_24 => ?_)
    · skip
      refine j_aload_n h 31 rfl rfl dX10_above_30 ?_
      refine j_callVY h 34 rfl lkX10_166 sh_0 rfl rfl (t_X10_courseAsTold _ hca.1) rfl rfl rfl dX10_above_31 (fun x9 M9 hM9 => ?_)
      obtain ⟨rfl, hcat⟩ := hM9
      obtain ⟨hfr, epl⟩ := frC_cat hca hcat
      have hc : IsC 40 := Or.inl rfl
      have h15 : ∀ r, M9 15 r = planOf M 15 r := fun r => congrFun (hfr.1 15 (by unfold pers; omega)) r
      refine j_iload_n h 35 rfl rfl dX10_above_34 ?_
      refine j_iload_n h 36 rfl rfl dX10_above_35 ?_
      refine j_callVI h 39 rfl lkX10_186 sh_40 rfl rfl (t_X1_longestAbove _ 40 k _ hc (by omega)) rfl rfl rfl dX10_above_36 ?_
      exact j_ret h hr rfl dX10_above_39 ⟨_, rfl, by exact ⟨by unfold sAbove; rw [if_pos c_8, if_pos c_24, etn]; exact congrArg Prod.fst (lgS_cg 96 (fun j _ hj => ((hcat.2.2.1 k (by omega) htd).1 j hj).1)), hfr⟩⟩
    · skip
      refine j_bipush h 29 rfl (-3) (by decide) dX10_above_27 ?_
      exact j_ret h hr rfl dX10_above_29 ⟨_, rfl, by exact ⟨by unfold sAbove; rw [if_pos c_8, if_neg c_24], frC_same hca⟩⟩
  · skip
    refine j_bipush h 13 rfl (-2) (by decide) dX10_above_11 ?_
    exact j_ret h hr rfl dX10_above_13 ⟨_, rfl, by exact ⟨(if_neg c_8).symm, frC_same hca⟩⟩
