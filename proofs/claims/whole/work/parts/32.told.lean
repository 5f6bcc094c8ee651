/-! the model: works, rows, flats told; rooms, doors, counts -/
def woN (M : hM) (n : Nat) (r c s l : Int32) (y : Int32) (M2 : hM) : Prop :=
  if ¬ inP r (nI 0) (nI 4) then y = -2 ∧ M2 = M else if ¬ (inP c (nI 1) (nI 999) ∧ inP s (nI 0) (nI 100) ∧ inP l (nI 0) (nI 20)) then y = -3 ∧ M2 = M
  else if n = 6 then y = -5 ∧ M2 = M else y = nI n ∧ M2 = mu (mu (mu (mu (mu M 110 n r) 111 n c) 112 n s) 113 n l) 93 35 (nI (n + 1))
def reN (M : hM) (g : Nat) (r h a : Int32) (y : Int32) (M2 : hM) : Prop :=
  if ¬ (inP r (nI 0) (nI 4) ∧ inP h (nI 0) (nI 95)) then y = -2 ∧ M2 = M else if ¬ inP a (-999) (nI 9999) then y = -3 ∧ M2 = M
  else if g = 8 then y = -5 ∧ M2 = M else y = nI (g + 1) ∧ M2 = mu (mu (mu (mu M 114 g r) 115 g h) 116 g a) 93 40 (nI (g + 1))
def ftN (M : hM) (f w d : Int32) (y : Int32) (M2 : hM) : Prop :=
  if ¬ inP f (nI 0) (nI 7) then y = -2 ∧ M2 = M else if ¬ (inP w (nI 0) (nI 99) ∧ inP d (nI 1) (nI 8)) then y = -3 ∧ M2 = M
  else y = 1 ∧ M2 = mu (mu M 117 (tn f) w) 118 (tn f) d
/-- flats as they are told, in the model's cells -/
def mF (M : hM) (wt du : Nat → Nat) : Prop := ∀ f, f < 8 → M 117 f = nI (wt f) ∧ wt f ≤ 99 ∧ M 118 f = nI (du f) ∧ du f ≤ 8
theorem tld_32 : ∀ s, s < 32 → pc s = tldS (fun r => if s.testBit r = true then nI 1 else nI 0) 5 := by decide +kernel
theorem tldS_cg {T U : Nat → Int32} : ∀ n, (∀ r, r < n → (T r = 0 ↔ U r = 0)) → tldS T n = tldS U n
  | 0, _ => rfl
  | n + 1, h => by
    rw [tldS, tldS, tldS_cg n (fun r hr => h r (by omega))]
    have := h n (by omega)
    by_cases e : T n = 0
    · rw [if_neg (fun z => z e), if_neg (fun z => z (this.mp e))]
    · rw [if_pos e, if_pos (fun z => e (this.mpr z))]
theorem tld_pc {T : Nat → Int32} {tb : Nat} (ht : tb < 32) (h : ∀ r, r < 5 → (bitP (nI tb) (nI r) ↔ ¬ T r = 0)) : pc tb = tldS T 5 := by
  rw [tld_32 tb ht]
  refine tldS_cg 5 (fun r hr => ?_)
  have e := (rb_bit tb (by omega) r (by omega)).symm.trans (h r hr)
  by_cases q : tb.testBit r = true
  · rw [if_pos q]
    exact ⟨fun z => absurd z (by decide), fun z => absurd z (e.mp q)⟩
  · rw [if_neg q]
    exact ⟨fun _ => Decidable.not_not.mp (fun z => q (e.mpr z)), fun _ => rfl⟩
theorem tmS_m {wt du : Nat → Nat} {f n : Nat} (h : du f < n) : wt f * n + 10 * wt f = wt f * tmS du f n := by unfold tmS; rw [if_pos h, Nat.mul_add, Nat.mul_comm 10]
theorem tmS_k {wt du : Nat → Nat} {f n : Nat} (h : ¬ du f < n) : wt f * n + 0 = wt f * tmS du f n := by unfold tmS; rw [if_neg h, Nat.add_zero]
set_option maxRecDepth 100000 in
set_option maxHeartbeats 4000000 in
theorem t_X11_work (M : hM) (r c s l : Int32) (w : Nat) (hw : w ≤ 6) (ew : M 93 35 = nI w) : Ct 2 mX11_work [.ref 93, .int r, .int c, .int s, .int l] M (pX (woN M w r c s l)) := by
  refine ct_of (lv := [some (.ref 93), some (.int r), some (.int c), some (.int s), some (.int l)]) (by decide +kernel) (fun _ _ hq => hq) rfl (fun _ => Nat.le_of_ble_eq_true rfl) (fun X h hr => ?_)
  refine j_iload_n h 1 rfl rfl dX11_work_0 ?_
  refine j_iconst h 2 rfl (nI 0) (by decide) dX11_work_1 ?_
  refine j_iconst h 3 rfl (nI 4) (by decide) dX11_work_2 ?_
  refine j_callSI h 6 rfl lkX11_120 rfl (t_X11_in _ _ _ _) rfl rfl rfl dX11_work_3 ?_
  refine j_if_neB h 12 9 dX11_work_6 (by decide) rfl (fun c_6 => ?_) (fun c_6 => ?_)
  · skip
    refine j_iload_n h 13 rfl rfl dX11_work_12 ?_
    refine j_iconst h 14 rfl (nI 1) (by decide) dX11_work_13 ?_
    refine j_sipush h 17 rfl (nI 999) (by decide) dX11_work_14 ?_
    refine j_callSI h 20 rfl lkX11_120 rfl (t_X11_in _ _ _ _) rfl rfl rfl dX11_work_17 ?_
    refine j_if_eqB h 44 23 dX11_work_20 (by decide) rfl (fun c_20 => ?_) (fun c_20 => ?_)
    · skip
      refine j_bipush h 46 rfl (-3) (by decide) dX11_work_44 ?_
      exact j_ret h hr rfl dX11_work_46 ⟨_, rfl, by unfold woN; rw [if_neg (fun q => q c_6), if_pos (fun q => by first | exact c_20 q.1 | exact c_30 q.2.1 | exact c_41 q.2.2)]; exact ⟨rfl, rfl⟩⟩
    · skip
      refine j_iload_n h 24 rfl rfl dX11_work_23 ?_
      refine j_iconst h 25 rfl (nI 0) (by decide) dX11_work_24 ?_
      refine j_bipush h 27 rfl (nI 100) (by decide) dX11_work_25 ?_
      refine j_callSI h 30 rfl lkX11_120 rfl (t_X11_in _ _ _ _) rfl rfl rfl dX11_work_27 ?_
      refine j_if_eqB h 44 33 dX11_work_30 (by decide) rfl (fun c_30 => ?_) (fun c_30 => ?_)
      · skip
        refine j_bipush h 46 rfl (-3) (by decide) dX11_work_44 ?_
        exact j_ret h hr rfl dX11_work_46 ⟨_, rfl, by unfold woN; rw [if_neg (fun q => q c_6), if_pos (fun q => by first | exact c_20 q.1 | exact c_30 q.2.1 | exact c_41 q.2.2)]; exact ⟨rfl, rfl⟩⟩
      · skip
        refine j_iload h 35 rfl rfl dX11_work_33 ?_
        refine j_iconst h 36 rfl (nI 0) (by decide) dX11_work_35 ?_
        refine j_bipush h 38 rfl (nI 20) (by decide) dX11_work_36 ?_
        refine j_callSI h 41 rfl lkX11_120 rfl (t_X11_in _ _ _ _) rfl rfl rfl dX11_work_38 ?_
        refine j_if_neB h 47 44 dX11_work_41 (by decide) rfl (fun c_41 => ?_) (fun c_41 => ?_)
        · skip
          refine j_aload_n h 48 rfl rfl dX11_work_47 ?_
          refine j_getI h 51 rfl glX11_229 sh_93 rfl dX11_work_48 ?_
          refine j_top (ew) ?_
          refine j_bipush h 53 rfl (nI 6) (by decide) dX11_work_51 ?_
          refine j_icmp_neN h 59 56 (by omega) (by omega) dX11_work_53 (by decide) rfl (fun c_53 => ?_) (fun c_53 => ?_)
          · skip
            refine j_aload_n h 60 rfl rfl dX11_work_59 ?_
            refine j_getR h 63 rfl glX11_87 sh_93 rfl dX11_work_60 ?_
            refine j_aload_n h 64 rfl rfl dX11_work_63 ?_
            refine j_getI h 67 rfl glX11_229 sh_93 rfl dX11_work_64 ?_
            refine j_top (ew) ?_
            refine j_iload_n h 68 rfl rfl dX11_work_67 ?_
            refine j_iast h 69 rfl sh_110 _ rfl (by omega) rfl dX11_work_68 ?_
            refine j_aload_n h 70 rfl rfl dX11_work_69 ?_
            refine j_getR h 73 rfl glX11_90 sh_93 rfl dX11_work_70 ?_
            refine j_aload_n h 74 rfl rfl dX11_work_73 ?_
            refine j_getI h 77 rfl glX11_229 sh_93 rfl dX11_work_74 ?_
            refine j_top ((mu_a (by decide)).trans (ew)) ?_
            refine j_iload_n h 78 rfl rfl dX11_work_77 ?_
            refine j_iast h 79 rfl sh_111 _ rfl (by omega) rfl dX11_work_78 ?_
            refine j_aload_n h 80 rfl rfl dX11_work_79 ?_
            refine j_getR h 83 rfl glX11_93 sh_93 rfl dX11_work_80 ?_
            refine j_aload_n h 84 rfl rfl dX11_work_83 ?_
            refine j_getI h 87 rfl glX11_229 sh_93 rfl dX11_work_84 ?_
            refine j_top ((mu_a (by decide)).trans ((mu_a (by decide)).trans (ew))) ?_
            refine j_iload_n h 88 rfl rfl dX11_work_87 ?_
            refine j_iast h 89 rfl sh_112 _ rfl (by omega) rfl dX11_work_88 ?_
            refine j_aload_n h 90 rfl rfl dX11_work_89 ?_
            refine j_getR h 93 rfl glX11_96 sh_93 rfl dX11_work_90 ?_
            refine j_aload_n h 94 rfl rfl dX11_work_93 ?_
            refine j_getI h 97 rfl glX11_229 sh_93 rfl dX11_work_94 ?_
            refine j_top ((mu_a (by decide)).trans ((mu_a (by decide)).trans ((mu_a (by decide)).trans (ew)))) ?_
            refine j_iload h 99 rfl rfl dX11_work_97 ?_
            refine j_iast h 100 rfl sh_113 _ rfl (by omega) rfl dX11_work_99 ?_
            refine j_aload_n h 101 rfl rfl dX11_work_100 ?_
            refine j_dup h 102 rfl rfl dX11_work_101 ?_
            refine j_getI h 105 rfl glX11_229 sh_93 rfl dX11_work_102 ?_
            refine j_top ((mu_a (by decide)).trans ((mu_a (by decide)).trans ((mu_a (by decide)).trans ((mu_a (by decide)).trans (ew))))) ?_
            refine j_iconst h 106 rfl (nI 1) (by decide) dX11_work_105 ?_
            refine j_iaddN h 107 rfl dX11_work_106 ?_
            refine j_putI h 110 rfl plX11_229 sh_93 rfl rfl rfl rfl dX11_work_107 ?_
            refine j_aload_n h 111 rfl rfl dX11_work_110 ?_
            refine j_getI h 114 rfl glX11_229 sh_93 rfl dX11_work_111 ?_
            refine j_top mu_s ?_
            refine j_iconst h 115 rfl (nI 1) (by decide) dX11_work_114 ?_
            refine j_isubN h 116 rfl (by omega) dX11_work_115 ?_
            exact j_ret h hr rfl dX11_work_116 ⟨_, rfl, by unfold woN; rw [if_neg (fun q => q c_6), if_neg (fun q => q ⟨c_20, c_30, c_41⟩), if_neg c_53]; exact ⟨rfl, rfl⟩⟩
          · skip
            refine j_bipush h 58 rfl (-5) (by decide) dX11_work_56 ?_
            exact j_ret h hr rfl dX11_work_58 ⟨_, rfl, by unfold woN; rw [if_neg (fun q => q c_6), if_neg (fun q => q ⟨c_20, c_30, c_41⟩), if_pos c_53]; exact ⟨rfl, rfl⟩⟩
        · skip
          refine j_bipush h 46 rfl (-3) (by decide) dX11_work_44 ?_
          exact j_ret h hr rfl dX11_work_46 ⟨_, rfl, by unfold woN; rw [if_neg (fun q => q c_6), if_pos (fun q => by first | exact c_20 q.1 | exact c_30 q.2.1 | exact c_41 q.2.2)]; exact ⟨rfl, rfl⟩⟩
  · skip
    refine j_bipush h 11 rfl (-2) (by decide) dX11_work_9 ?_
    exact j_ret h hr rfl dX11_work_11 ⟨_, rfl, by unfold woN; rw [if_pos c_6]; exact ⟨rfl, rfl⟩⟩
set_option maxRecDepth 100000 in
set_option maxHeartbeats 4000000 in
theorem t_X11_read (M : hM) (r x a : Int32) (g : Nat) (hg : g ≤ 8) (eg : M 93 40 = nI g) : Ct 2 mX11_read [.ref 93, .int r, .int x, .int a] M (pX (reN M g r x a)) := by
  refine ct_of (lv := [some (.ref 93), some (.int r), some (.int x), some (.int a)]) (by decide +kernel) (fun _ _ hq => hq) rfl (fun _ => Nat.le_of_ble_eq_true rfl) (fun X h hr => ?_)
  refine j_iload_n h 1 rfl rfl dX11_read_0 ?_
  refine j_iconst h 2 rfl (nI 0) (by decide) dX11_read_1 ?_
  refine j_iconst h 3 rfl (nI 4) (by decide) dX11_read_2 ?_
  refine j_callSI h 6 rfl lkX11_120 rfl (t_X11_in _ _ _ _) rfl rfl rfl dX11_read_3 ?_
  refine j_if_eqB h 19 9 dX11_read_6 (by decide) rfl (fun c_6 => ?_) (fun c_6 => ?_)
  · skip
    refine j_bipush h 21 rfl (-2) (by decide) dX11_read_19 ?_
    exact j_ret h hr rfl dX11_read_21 ⟨_, rfl, by unfold reN; rw [if_pos (fun q => by first | exact c_6 q.1 | exact c_16 q.2)]; exact ⟨rfl, rfl⟩⟩
  · skip
    refine j_iload_n h 10 rfl rfl dX11_read_9 ?_
    refine j_iconst h 11 rfl (nI 0) (by decide) dX11_read_10 ?_
    refine j_bipush h 13 rfl (nI 95) (by decide) dX11_read_11 ?_
    refine j_callSI h 16 rfl lkX11_120 rfl (t_X11_in _ _ _ _) rfl rfl rfl dX11_read_13 ?_
    refine j_if_neB h 22 19 dX11_read_16 (by decide) rfl (fun c_16 => ?_) (fun c_16 => ?_)
    · skip
      refine j_iload_n h 23 rfl rfl dX11_read_22 ?_
      refine j_sipush h 26 rfl (-999) (by decide) dX11_read_23 ?_
      refine j_sipush h 29 rfl (nI 9999) (by decide) dX11_read_26 ?_
      refine j_callSI h 32 rfl lkX11_120 rfl (t_X11_in _ _ _ _) rfl rfl rfl dX11_read_29 ?_
      refine j_if_neB h 38 35 dX11_read_32 (by decide) rfl (fun c_32 => ?_) (fun c_32 => ?_)
      · skip
        refine j_aload_n h 39 rfl rfl dX11_read_38 ?_
        refine j_getI h 42 rfl glX11_270 sh_93 rfl dX11_read_39 ?_
        refine j_top (eg) ?_
        refine j_bipush h 44 rfl (nI 8) (by decide) dX11_read_42 ?_
        refine j_icmp_neN h 50 47 (by omega) (by omega) dX11_read_44 (by decide) rfl (fun c_44 => ?_) (fun c_44 => ?_)
        · skip
          refine j_aload_n h 51 rfl rfl dX11_read_50 ?_
          refine j_getR h 54 rfl glX11_99 sh_93 rfl dX11_read_51 ?_
          refine j_aload_n h 55 rfl rfl dX11_read_54 ?_
          refine j_getI h 58 rfl glX11_270 sh_93 rfl dX11_read_55 ?_
          refine j_top (eg) ?_
          refine j_iload_n h 59 rfl rfl dX11_read_58 ?_
          refine j_iast h 60 rfl sh_114 _ rfl (by omega) rfl dX11_read_59 ?_
          refine j_aload_n h 61 rfl rfl dX11_read_60 ?_
          refine j_getR h 64 rfl glX11_102 sh_93 rfl dX11_read_61 ?_
          refine j_aload_n h 65 rfl rfl dX11_read_64 ?_
          refine j_getI h 68 rfl glX11_270 sh_93 rfl dX11_read_65 ?_
          refine j_top ((mu_a (by decide)).trans (eg)) ?_
          refine j_iload_n h 69 rfl rfl dX11_read_68 ?_
          refine j_iast h 70 rfl sh_115 _ rfl (by omega) rfl dX11_read_69 ?_
          refine j_aload_n h 71 rfl rfl dX11_read_70 ?_
          refine j_getR h 74 rfl glX11_105 sh_93 rfl dX11_read_71 ?_
          refine j_aload_n h 75 rfl rfl dX11_read_74 ?_
          refine j_getI h 78 rfl glX11_270 sh_93 rfl dX11_read_75 ?_
          refine j_top ((mu_a (by decide)).trans ((mu_a (by decide)).trans (eg))) ?_
          refine j_iload_n h 79 rfl rfl dX11_read_78 ?_
          refine j_iast h 80 rfl sh_116 _ rfl (by omega) rfl dX11_read_79 ?_
          refine j_aload_n h 81 rfl rfl dX11_read_80 ?_
          refine j_dup h 82 rfl rfl dX11_read_81 ?_
          refine j_getI h 85 rfl glX11_270 sh_93 rfl dX11_read_82 ?_
          refine j_top ((mu_a (by decide)).trans ((mu_a (by decide)).trans ((mu_a (by decide)).trans (eg)))) ?_
          refine j_iconst h 86 rfl (nI 1) (by decide) dX11_read_85 ?_
          refine j_iaddN h 87 rfl dX11_read_86 ?_
          refine j_putI h 90 rfl plX11_270 sh_93 rfl rfl rfl rfl dX11_read_87 ?_
          refine j_aload_n h 91 rfl rfl dX11_read_90 ?_
          refine j_getI h 94 rfl glX11_270 sh_93 rfl dX11_read_91 ?_
          refine j_top mu_s ?_
          exact j_ret h hr rfl dX11_read_94 ⟨_, rfl, by unfold reN; rw [if_neg (fun q => q ⟨c_6, c_16⟩), if_neg (fun q => q c_32), if_neg c_44]; exact ⟨rfl, rfl⟩⟩
        · skip
          refine j_bipush h 49 rfl (-5) (by decide) dX11_read_47 ?_
          exact j_ret h hr rfl dX11_read_49 ⟨_, rfl, by unfold reN; rw [if_neg (fun q => q ⟨c_6, c_16⟩), if_neg (fun q => q c_32), if_pos c_44]; exact ⟨rfl, rfl⟩⟩
      · skip
        refine j_bipush h 37 rfl (-3) (by decide) dX11_read_35 ?_
        exact j_ret h hr rfl dX11_read_37 ⟨_, rfl, by unfold reN; rw [if_neg (fun q => q ⟨c_6, c_16⟩), if_pos c_32]; exact ⟨rfl, rfl⟩⟩
    · skip
      refine j_bipush h 21 rfl (-2) (by decide) dX11_read_19 ?_
      exact j_ret h hr rfl dX11_read_21 ⟨_, rfl, by unfold reN; rw [if_pos (fun q => by first | exact c_6 q.1 | exact c_16 q.2)]; exact ⟨rfl, rfl⟩⟩
set_option maxRecDepth 100000 in
set_option maxHeartbeats 4000000 in
theorem t_X11_flat (M : hM) (x w d : Int32) : Ct 2 mX11_flat [.ref 93, .int x, .int w, .int d] M (pX (ftN M x w d)) := by
  refine ct_of (lv := [some (.ref 93), some (.int x), some (.int w), some (.int d)]) (by decide +kernel) (fun _ _ hq => hq) rfl (fun _ => Nat.le_of_ble_eq_true rfl) (fun X h hr => ?_)
  refine j_iload_n h 1 rfl rfl dX11_flat_0 ?_
  refine j_iconst h 2 rfl (nI 0) (by decide) dX11_flat_1 ?_
  refine j_bipush h 4 rfl (nI 7) (by decide) dX11_flat_2 ?_
  refine j_callSI h 7 rfl lkX11_120 rfl (t_X11_in _ _ _ _) rfl rfl rfl dX11_flat_4 ?_
  refine j_if_neB h 13 10 dX11_flat_7 (by decide) rfl (fun c_7 => ?_) (fun c_7 => ?_)
  · skip
    refine j_iload_n h 14 rfl rfl dX11_flat_13 ?_
    refine j_iconst h 15 rfl (nI 0) (by decide) dX11_flat_14 ?_
    refine j_bipush h 17 rfl (nI 99) (by decide) dX11_flat_15 ?_
    refine j_callSI h 20 rfl lkX11_120 rfl (t_X11_in _ _ _ _) rfl rfl rfl dX11_flat_17 ?_
    refine j_if_eqB h 33 23 dX11_flat_20 (by decide) rfl (fun c_20 => ?_) (fun c_20 => ?_)
    · skip
      refine j_bipush h 35 rfl (-3) (by decide) dX11_flat_33 ?_
      exact j_ret h hr rfl dX11_flat_35 ⟨_, rfl, by unfold ftN; rw [if_neg (fun q => q c_7), if_pos (fun q => by first | exact c_20 q.1 | exact c_30 q.2)]; exact ⟨rfl, rfl⟩⟩
    · skip
      refine j_iload_n h 24 rfl rfl dX11_flat_23 ?_
      refine j_iconst h 25 rfl (nI 1) (by decide) dX11_flat_24 ?_
      refine j_bipush h 27 rfl (nI 8) (by decide) dX11_flat_25 ?_
      refine j_callSI h 30 rfl lkX11_120 rfl (t_X11_in _ _ _ _) rfl rfl rfl dX11_flat_27 ?_
      refine j_if_neB h 36 33 dX11_flat_30 (by decide) rfl (fun c_30 => ?_) (fun c_30 => ?_)
      · skip
        obtain ⟨f, hf, rfl⟩ := (in_nat (by decide)).mp c_7
        refine j_aload_n h 37 rfl rfl dX11_flat_36 ?_
        refine j_getR h 40 rfl glX11_108 sh_93 rfl dX11_flat_37 ?_
        refine j_iload_n h 41 rfl rfl dX11_flat_40 ?_
        refine j_iload_n h 42 rfl rfl dX11_flat_41 ?_
        refine j_iast h 43 rfl sh_117 _ rfl (by omega) rfl dX11_flat_42 ?_
        refine j_aload_n h 44 rfl rfl dX11_flat_43 ?_
        refine j_getR h 47 rfl glX11_111 sh_93 rfl dX11_flat_44 ?_
        refine j_iload_n h 48 rfl rfl dX11_flat_47 ?_
        refine j_iload_n h 49 rfl rfl dX11_flat_48 ?_
        refine j_iast h 50 rfl sh_118 _ rfl (by omega) rfl dX11_flat_49 ?_
        refine j_iconst h 51 rfl (nI 1) (by decide) dX11_flat_50 ?_
        exact j_ret h hr rfl dX11_flat_51 ⟨_, rfl, by unfold ftN; rw [if_neg (fun q => q c_7), if_neg (fun q => q ⟨c_20, c_30⟩), tn_nI (by omega)]; exact ⟨rfl, rfl⟩⟩
      · skip
        refine j_bipush h 35 rfl (-3) (by decide) dX11_flat_33 ?_
        exact j_ret h hr rfl dX11_flat_35 ⟨_, rfl, by unfold ftN; rw [if_neg (fun q => q c_7), if_pos (fun q => by first | exact c_20 q.1 | exact c_30 q.2)]; exact ⟨rfl, rfl⟩⟩
  · skip
    refine j_bipush h 12 rfl (-2) (by decide) dX11_flat_10 ?_
    exact j_ret h hr rfl dX11_flat_12 ⟨_, rfl, by unfold ftN; rw [if_pos c_7]; exact ⟨rfl, rfl⟩⟩
set_option maxRecDepth 100000 in
set_option maxHeartbeats 4000000 in
theorem t_X11_door (M : hM) (a b : Int32) (hH : mH M) : Ct 2 mX11_door [.ref 93, .int a, .int b] M (pX (fun y M2 => y = sDoor M a b ∧ frM M M2)) := by
  refine ct_of (lv := [some (.ref 93), some (.int a), some (.int b)]) (by decide +kernel) (fun _ _ hq => hq) rfl (fun _ => Nat.le_of_ble_eq_true rfl) (fun X h hr => ?_)
  refine j_iload_n h 1 rfl rfl dX11_door_0 ?_
  refine j_iconst h 2 rfl (nI 0) (by decide) dX11_door_1 ?_
  refine j_iconst h 3 rfl (nI 4) (by decide) dX11_door_2 ?_
  refine j_callSI h 6 rfl lkX11_120 rfl (t_X11_in _ _ _ _) rfl rfl rfl dX11_door_3 ?_
  refine j_if_eqB h 36 9 dX11_door_6 (by decide) rfl (fun c_6 => ?_) (fun c_6 => ?_)
  · skip
    refine j_bipush h 38 rfl (-2) (by decide) dX11_door_36 ?_
    exact j_ret h hr rfl dX11_door_38 ⟨_, rfl, by
    unfold sDoor
    first
      | (rw [if_pos ⟨c_6, c_15, c_20⟩, tn_nI (by omega), tn_nI (by omega)]; exact hd)
      | rw [if_neg (fun q => c_6 q.1)]
      | rw [if_neg (fun q => c_15 q.2.1)]
      | rw [if_neg (fun q => q.2.2 c_20)], frM_r⟩
  · skip
    refine j_iload_n h 10 rfl rfl dX11_door_9 ?_
    refine j_iconst h 11 rfl (nI 0) (by decide) dX11_door_10 ?_
    refine j_iconst h 12 rfl (nI 4) (by decide) dX11_door_11 ?_
    refine j_callSI h 15 rfl lkX11_120 rfl (t_X11_in _ _ _ _) rfl rfl rfl dX11_door_12 ?_
    refine j_if_eqB h 36 18 dX11_door_15 (by decide) rfl (fun c_15 => ?_) (fun c_15 => ?_)
    · skip
      refine j_bipush h 38 rfl (-2) (by decide) dX11_door_36 ?_
      exact j_ret h hr rfl dX11_door_38 ⟨_, rfl, by
    unfold sDoor
    first
      | (rw [if_pos ⟨c_6, c_15, c_20⟩, tn_nI (by omega), tn_nI (by omega)]; exact hd)
      | rw [if_neg (fun q => c_6 q.1)]
      | rw [if_neg (fun q => c_15 q.2.1)]
      | rw [if_neg (fun q => q.2.2 c_20)], frM_r⟩
    · skip
      refine j_iload_n h 19 rfl rfl dX11_door_18 ?_
      refine j_iload_n h 20 rfl rfl dX11_door_19 ?_
      refine j_icmp_eq h 36 23 dX11_door_20 (by decide) rfl (fun c_20 => ?_) (fun c_20 => ?_)
      · skip
        refine j_bipush h 38 rfl (-2) (by decide) dX11_door_36 ?_
        exact j_ret h hr rfl dX11_door_38 ⟨_, rfl, by
    unfold sDoor
    first
      | (rw [if_pos ⟨c_6, c_15, c_20⟩, tn_nI (by omega), tn_nI (by omega)]; exact hd)
      | rw [if_neg (fun q => c_6 q.1)]
      | rw [if_neg (fun q => c_15 q.2.1)]
      | rw [if_neg (fun q => q.2.2 c_20)], frM_r⟩
      · skip
        obtain ⟨i, hi, rfl⟩ := (in_nat (by decide)).mp c_6
        obtain ⟨k, hk, rfl⟩ := (in_nat (by decide)).mp c_15
        have hd := (hH.2.2.2.1 i k (by omega) (by omega)).1
        refine j_aload_n h 24 rfl rfl dX11_door_23 ?_
        refine j_getR h 27 rfl glX11_22 sh_93 rfl dX11_door_24 ?_
        refine j_iconst h 28 rfl (nI 5) (by decide) dX11_door_27 ?_
        refine j_iload_n h 29 rfl rfl dX11_door_28 ?_
        refine j_imulN h 30 rfl dX11_door_29 ?_
        refine j_iload_n h 31 rfl rfl dX11_door_30 ?_
        refine j_iaddN h 32 rfl dX11_door_31 ?_
        refine j_iald h 33 rfl sh_98 _ rfl (by omega) rfl dX11_door_32 ?_
        refine j_goto h 38 dX11_door_33 (by decide) ?_
        exact j_ret h hr rfl dX11_door_38 ⟨_, rfl, by
    unfold sDoor
    first
      | (rw [if_pos ⟨c_6, c_15, c_20⟩, tn_nI (by omega), tn_nI (by omega)]; exact hd)
      | rw [if_neg (fun q => c_6 q.1)]
      | rw [if_neg (fun q => c_15 q.2.1)]
      | rw [if_neg (fun q => q.2.2 c_20)], frM_r⟩
set_option maxRecDepth 100000 in
set_option maxHeartbeats 4000000 in
theorem t_X11_room (M : hM) (x w : Int32) (hH : mH M) : Ct 3 mX11_room [.ref 93, .int x, .int w] M (pX (fun y M2 => y = sRoom M x w ∧ frM M M2)) := by
  refine ct_of (lv := [some (.ref 93), some (.int x), some (.int w)]) (by decide +kernel) (fun _ _ hq => hq) rfl (fun _ => Nat.le_of_ble_eq_true rfl) (fun X h hr => ?_)
  refine j_aload_n h 1 rfl rfl dX11_room_0 ?_
  refine j_iload_n h 2 rfl rfl dX11_room_1 ?_
  refine j_callVI h 5 rfl lkX11_222 sh_93 rfl rfl (t_X11_isRoom _ _) rfl rfl rfl dX11_room_2 ?_
  refine j_top (hb_c (mT_iff hH)) ?_
  refine j_if_neB h 11 8 dX11_room_5 (by decide) rfl (fun c_5 => ?_) (fun c_5 => ?_)
  · skip
    obtain ⟨r, hr9, rfl⟩ := (in_nat (by decide)).mp c_5.1
    have hsr : sRoom M (nI r) w = rmV M r w := by unfold sRoom; rw [if_pos c_5, tn_nI (by omega)]
    refine j_iload_n h 12 rfl rfl dX11_room_11 ?_
    refine j_tsw h 88 0 [56, 56, 56, 56, 67, 74, 81] dX11_room_12 (by decide) (by decide) (by decide) (by decide) (by decide) (fun i9 t9 ht9 c_12 => ?_) (fun c_12 => ?_)
    · match i9, ht9 with
      | 0, ht9 =>
        cases ht9
        obtain ⟨k9, hk9, rfl⟩ : ∃ k9, k9 < 4 ∧ w = nI k9 := ⟨0, by decide, c_12⟩
        refine j_aload_n h 57 rfl rfl dX11_room_56 ?_
        refine j_getR h 60 rfl glX11_7 sh_93 rfl dX11_room_57 ?_
        refine j_iconst h 61 rfl (nI 4) (by decide) dX11_room_60 ?_
        refine j_iload_n h 62 rfl rfl dX11_room_61 ?_
        refine j_imulN h 63 rfl dX11_room_62 ?_
        refine j_iload_n h 64 rfl rfl dX11_room_63 ?_
        refine j_iaddN h 65 rfl dX11_room_64 ?_
        refine j_iald h 66 rfl sh_94 _ rfl (by omega) rfl dX11_room_65 ?_
        exact j_ret h hr rfl dX11_room_66 ⟨_, rfl, by
    rw [hsr]
    obtain ⟨a0, a1, a2, a3⟩ := hH.2.1 r (by omega)
    unfold rmV
    rcases (by omega : k9 = 0 ∨ k9 = 1 ∨ k9 = 2 ∨ k9 = 3) with rfl | rfl | rfl | rfl
    · rw [if_pos rfl]; exact a0
    · rw [if_neg (by decide), if_pos rfl]; exact a1
    · rw [if_neg (by decide), if_neg (by decide), if_pos rfl]; exact a2
    · rw [if_neg (by decide), if_neg (by decide), if_neg (by decide), if_pos rfl]; exact a3, frM_r⟩
      | 1, ht9 =>
        cases ht9
        obtain ⟨k9, hk9, rfl⟩ : ∃ k9, k9 < 4 ∧ w = nI k9 := ⟨1, by decide, c_12⟩
        refine j_aload_n h 57 rfl rfl dX11_room_56 ?_
        refine j_getR h 60 rfl glX11_7 sh_93 rfl dX11_room_57 ?_
        refine j_iconst h 61 rfl (nI 4) (by decide) dX11_room_60 ?_
        refine j_iload_n h 62 rfl rfl dX11_room_61 ?_
        refine j_imulN h 63 rfl dX11_room_62 ?_
        refine j_iload_n h 64 rfl rfl dX11_room_63 ?_
        refine j_iaddN h 65 rfl dX11_room_64 ?_
        refine j_iald h 66 rfl sh_94 _ rfl (by omega) rfl dX11_room_65 ?_
        exact j_ret h hr rfl dX11_room_66 ⟨_, rfl, by
    rw [hsr]
    obtain ⟨a0, a1, a2, a3⟩ := hH.2.1 r (by omega)
    unfold rmV
    rcases (by omega : k9 = 0 ∨ k9 = 1 ∨ k9 = 2 ∨ k9 = 3) with rfl | rfl | rfl | rfl
    · rw [if_pos rfl]; exact a0
    · rw [if_neg (by decide), if_pos rfl]; exact a1
    · rw [if_neg (by decide), if_neg (by decide), if_pos rfl]; exact a2
    · rw [if_neg (by decide), if_neg (by decide), if_neg (by decide), if_pos rfl]; exact a3, frM_r⟩
      | 2, ht9 =>
        cases ht9
        obtain ⟨k9, hk9, rfl⟩ : ∃ k9, k9 < 4 ∧ w = nI k9 := ⟨2, by decide, c_12⟩
        refine j_aload_n h 57 rfl rfl dX11_room_56 ?_
        refine j_getR h 60 rfl glX11_7 sh_93 rfl dX11_room_57 ?_
        refine j_iconst h 61 rfl (nI 4) (by decide) dX11_room_60 ?_
        refine j_iload_n h 62 rfl rfl dX11_room_61 ?_
        refine j_imulN h 63 rfl dX11_room_62 ?_
        refine j_iload_n h 64 rfl rfl dX11_room_63 ?_
        refine j_iaddN h 65 rfl dX11_room_64 ?_
        refine j_iald h 66 rfl sh_94 _ rfl (by omega) rfl dX11_room_65 ?_
        exact j_ret h hr rfl dX11_room_66 ⟨_, rfl, by
    rw [hsr]
    obtain ⟨a0, a1, a2, a3⟩ := hH.2.1 r (by omega)
    unfold rmV
    rcases (by omega : k9 = 0 ∨ k9 = 1 ∨ k9 = 2 ∨ k9 = 3) with rfl | rfl | rfl | rfl
    · rw [if_pos rfl]; exact a0
    · rw [if_neg (by decide), if_pos rfl]; exact a1
    · rw [if_neg (by decide), if_neg (by decide), if_pos rfl]; exact a2
    · rw [if_neg (by decide), if_neg (by decide), if_neg (by decide), if_pos rfl]; exact a3, frM_r⟩
      | 3, ht9 =>
        cases ht9
        obtain ⟨k9, hk9, rfl⟩ : ∃ k9, k9 < 4 ∧ w = nI k9 := ⟨3, by decide, c_12⟩
        refine j_aload_n h 57 rfl rfl dX11_room_56 ?_
        refine j_getR h 60 rfl glX11_7 sh_93 rfl dX11_room_57 ?_
        refine j_iconst h 61 rfl (nI 4) (by decide) dX11_room_60 ?_
        refine j_iload_n h 62 rfl rfl dX11_room_61 ?_
        refine j_imulN h 63 rfl dX11_room_62 ?_
        refine j_iload_n h 64 rfl rfl dX11_room_63 ?_
        refine j_iaddN h 65 rfl dX11_room_64 ?_
        refine j_iald h 66 rfl sh_94 _ rfl (by omega) rfl dX11_room_65 ?_
        exact j_ret h hr rfl dX11_room_66 ⟨_, rfl, by
    rw [hsr]
    obtain ⟨a0, a1, a2, a3⟩ := hH.2.1 r (by omega)
    unfold rmV
    rcases (by omega : k9 = 0 ∨ k9 = 1 ∨ k9 = 2 ∨ k9 = 3) with rfl | rfl | rfl | rfl
    · rw [if_pos rfl]; exact a0
    · rw [if_neg (by decide), if_pos rfl]; exact a1
    · rw [if_neg (by decide), if_neg (by decide), if_pos rfl]; exact a2
    · rw [if_neg (by decide), if_neg (by decide), if_neg (by decide), if_pos rfl]; exact a3, frM_r⟩
      | 4, ht9 =>
        cases ht9
        refine j_aload_n h 68 rfl rfl dX11_room_67 ?_
        refine j_getR h 71 rfl glX11_13 sh_93 rfl dX11_room_68 ?_
        refine j_iload_n h 72 rfl rfl dX11_room_71 ?_
        refine j_iald h 73 rfl sh_95 _ rfl (by omega) rfl dX11_room_72 ?_
        exact j_ret h hr rfl dX11_room_73 ⟨_, rfl, by rw [hsr, c_12]; unfold rmV; rw [if_neg (by decide), if_neg (by decide), if_neg (by decide), if_neg (by decide), if_pos rfl]; exact (hH.2.2.1 r (by omega)).1, frM_r⟩
      | 5, ht9 =>
        cases ht9
        refine j_aload_n h 75 rfl rfl dX11_room_74 ?_
        refine j_getR h 78 rfl glX11_16 sh_93 rfl dX11_room_75 ?_
        refine j_iload_n h 79 rfl rfl dX11_room_78 ?_
        refine j_iald h 80 rfl sh_96 _ rfl (by omega) rfl dX11_room_79 ?_
        exact j_ret h hr rfl dX11_room_80 ⟨_, rfl, by rw [hsr, c_12]; unfold rmV; rw [if_neg (by decide), if_neg (by decide), if_neg (by decide), if_neg (by decide), if_neg (by decide), if_pos rfl]; exact (hH.2.2.1 r (by omega)).2.1, frM_r⟩
      | 6, ht9 =>
        cases ht9
        refine j_aload_n h 82 rfl rfl dX11_room_81 ?_
        refine j_getR h 85 rfl glX11_19 sh_93 rfl dX11_room_82 ?_
        refine j_iload_n h 86 rfl rfl dX11_room_85 ?_
        refine j_iald h 87 rfl sh_97 _ rfl (by omega) rfl dX11_room_86 ?_
        exact j_ret h hr rfl dX11_room_87 ⟨_, rfl, by rw [hsr, c_12]; unfold rmV; rw [if_neg (by decide), if_neg (by decide), if_neg (by decide), if_neg (by decide), if_neg (by decide), if_neg (by decide), if_pos rfl]; exact (hH.2.2.1 r (by omega)).2.2, frM_r⟩
      | n9 + 7, ht9 => cases ht9
    · skip
      refine j_bipush h 90 rfl (-3) (by decide) dX11_room_88 ?_
      exact j_ret h hr rfl dX11_room_90 ⟨_, rfl, by rw [hsr]; have t := tsw_out (by decide) c_12; unfold rmV; rw [if_neg (t 0 (by decide)), if_neg (t 1 (by decide)), if_neg (t 2 (by decide)), if_neg (t 3 (by decide)), if_neg (t 4 (by decide)), if_neg (t 5 (by decide)), if_neg (t 6 (by decide))], frM_r⟩
  · skip
    refine j_bipush h 10 rfl (-2) (by decide) dX11_room_8 ?_
    exact j_ret h hr rfl dX11_room_10 ⟨_, rfl, by unfold sRoom; rw [if_neg c_5], frM_r⟩
set_option maxRecDepth 100000 in
set_option maxHeartbeats 4000000 in
theorem t_X11_toldFlats (M : hM) (wt du : Nat → Nat) (hF : mF M wt du) : Ct 1 mX11_toldFlats [.ref 93] M (pI (nI (tsN wt 8)) M) := by
  refine ct_of (lv := [some (.ref 93), none, none]) (by decide +kernel) (fun _ _ hq => hq) rfl (fun _ => Nat.le_of_ble_eq_true rfl) (fun X h hr => ?_)
  refine j_iconst h 1 rfl (nI 0) (by decide) dX11_toldFlats_0 ?_
  refine j_istore_n h 2 rfl rfl dX11_toldFlats_1 ?_
  refine j_iconst h 3 rfl (nI 0) (by decide) dX11_toldFlats_2 ?_
  refine j_istore_n h 4 rfl rfl dX11_toldFlats_3 ?_
  have L : ∀ (n i : Nat), 8 - i < n → i ≤ 8 → J X 4 [some (.ref 93), some (.int (nI (tsN wt i))), some (.int (nI i))] [] M := by
    intro n
    induction n with
    | zero => intro i h1; omega
    | succ n ih =>
      intro i h1 h2
      refine j_iload_n h 5 rfl rfl dX11_toldFlats_4 ?_
      refine j_bipush h 7 rfl (nI 8) (by decide) dX11_toldFlats_5 ?_
      refine j_icmp_geN h 35 10 (by omega) (by omega) dX11_toldFlats_7 (by decide) rfl (fun c_7 => ?_) (fun c_7 => ?_)
      · skip
        refine j_iload_n h 36 rfl rfl dX11_toldFlats_35 ?_
        exact j_ret h hr rfl dX11_toldFlats_36 ⟨congrArg (fun z => some (Value.int z)) (by rw [show i = 8 by omega]), rfl⟩
      · skip
        have K27 : ∀ y, nI (tsN wt i) ||| y = nI (tsN wt (i + 1)) → J X 27 [some (.ref 93), some (.int (nI (tsN wt i))), some (.int (nI i))] [.int y, .int (nI (tsN wt i))] M := by
          intro y hy
          refine j_ior h 28 rfl dX11_toldFlats_27 ?_
          refine j_istore_n h 29 rfl rfl dX11_toldFlats_28 ?_
          refine j_iincN h 32 rfl rfl rfl dX11_toldFlats_29 ?_
          refine j_goto h 4 dX11_toldFlats_32 (by decide) ?_
          have q9 := ih (i + 1) (by omega) (by omega)
          rw [← hy] at q9
          exact q9
        refine j_iload_n h 11 rfl rfl dX11_toldFlats_10 ?_
        refine j_aload_n h 12 rfl rfl dX11_toldFlats_11 ?_
        refine j_getR h 15 rfl glX11_108 sh_93 rfl dX11_toldFlats_12 ?_
        refine j_iload_n h 16 rfl rfl dX11_toldFlats_15 ?_
        refine j_iald h 17 rfl sh_117 _ rfl (by omega) rfl dX11_toldFlats_16 ?_
        refine j_top (hF i (by omega)).1 ?_
        have hw9 := (hF i (by omega)).2.1
        refine j_if_leN h 26 20 (by omega) dX11_toldFlats_17 (by decide) rfl (fun c_17 => ?_) (fun c_17 => ?_)
        · skip
          refine j_iconst h 27 rfl (nI 0) (by decide) dX11_toldFlats_26 ?_
          exact K27 _ (by rw [tsN]; first | (rw [if_pos c_17]; exact rb_or i (by omega) _ (tsN_lt i)) | (rw [if_neg (by omega), nI_0, Int32.or_zero]))
        · skip
          refine j_iconst h 21 rfl (nI 1) (by decide) dX11_toldFlats_20 ?_
          refine j_iload_n h 22 rfl rfl dX11_toldFlats_21 ?_
          refine j_ishl h 23 rfl dX11_toldFlats_22 ?_
          refine j_goto h 27 dX11_toldFlats_23 (by decide) ?_
          exact K27 _ (by rw [tsN]; first | (rw [if_pos c_17]; exact rb_or i (by omega) _ (tsN_lt i)) | (rw [if_neg (by omega), nI_0, Int32.or_zero]))
  exact L 9 0 (by omega) (by omega)
set_option maxRecDepth 100000 in
set_option maxHeartbeats 4000000 in
theorem t_X11_lostBy (M : hM) (wt du : Nat → Nat) (hF : mF M wt du) (f n : Nat) (hf : f < 8) (hn : n < 100) : Ct 1 mX11_lostBy [.ref 93, .int (nI f), .int (nI n)] M (pI (nI (wt f * tmS du f n)) M) := by
  refine ct_of (lv := [some (.ref 93), some (.int (nI f)), some (.int (nI n))]) (by decide +kernel) (fun _ _ hq => hq) rfl (fun _ => Nat.le_of_ble_eq_true rfl) (fun X h hr => ?_)
  obtain ⟨h1, h2, h3, h4⟩ := hF f hf
  refine j_aload_n h 1 rfl rfl dX11_lostBy_0 ?_
  refine j_getR h 4 rfl glX11_108 sh_93 rfl dX11_lostBy_1 ?_
  refine j_iload_n h 5 rfl rfl dX11_lostBy_4 ?_
  refine j_iald h 6 rfl sh_117 _ rfl (by omega) rfl dX11_lostBy_5 ?_
  refine j_top h1 ?_
  refine j_iload_n h 7 rfl rfl dX11_lostBy_6 ?_
  refine j_imulN h 8 rfl dX11_lostBy_7 ?_
  have K31 : ∀ y, wt f * n + y = wt f * tmS du f n → J X 31 [some (.ref 93), some (.int (nI f)), some (.int (nI n))] [.int (nI y), .int (nI (wt f * n))] M := by
    intro y hy
    refine j_iaddN h 32 rfl dX11_lostBy_31 ?_
    exact j_ret h hr rfl dX11_lostBy_32 ⟨congrArg (fun z => some (Value.int z)) (by rw [hy]), rfl⟩
  refine j_iload_n h 9 rfl rfl dX11_lostBy_8 ?_
  refine j_aload_n h 10 rfl rfl dX11_lostBy_9 ?_
  refine j_getR h 13 rfl glX11_111 sh_93 rfl dX11_lostBy_10 ?_
  refine j_iload_n h 14 rfl rfl dX11_lostBy_13 ?_
  refine j_iald h 15 rfl sh_118 _ rfl (by omega) rfl dX11_lostBy_14 ?_
  refine j_top h3 ?_
  refine j_icmp_leN h 30 18 (by omega) (by omega) dX11_lostBy_15 (by decide) rfl (fun c_15 => ?_) (fun c_15 => ?_)
  · skip
    refine j_iconst h 31 rfl (nI 0) (by decide) dX11_lostBy_30 ?_
    exact K31 _ (by first | exact tmS_m c_15 | exact tmS_k (by omega))
  · skip
    refine j_bipush h 20 rfl (nI 10) (by decide) dX11_lostBy_18 ?_
    refine j_aload_n h 21 rfl rfl dX11_lostBy_20 ?_
    refine j_getR h 24 rfl glX11_108 sh_93 rfl dX11_lostBy_21 ?_
    refine j_iload_n h 25 rfl rfl dX11_lostBy_24 ?_
    refine j_iald h 26 rfl sh_117 _ rfl (by omega) rfl dX11_lostBy_25 ?_
    refine j_top h1 ?_
    refine j_imulN h 27 rfl dX11_lostBy_26 ?_
    refine j_goto h 31 dX11_lostBy_27 (by decide) ?_
    exact K31 _ (by first | exact tmS_m c_15 | exact tmS_k (by omega))
set_option maxRecDepth 100000 in
set_option maxHeartbeats 4000000 in
theorem t_X11_count (M : hM) (x : Int32) (hH : mH M) (L w g tb : Nat) (eL : M 93 15 = nI L) (ew : M 93 35 = nI w) (eg : M 93 40 = nI g) (htb : tb < 32) (etb : M 93 0 = nI tb) (wt du : Nat → Nat) (hF : mF M wt du) : Ct 2 mX11_count [.ref 93, .int x] M (pX (fun y M2 => y = sCount M L w g wt x ∧ frM M M2)) := by
  refine ct_of (lv := [some (.ref 93), some (.int x)]) (by decide +kernel) (fun _ _ hq => hq) rfl (fun _ => Nat.le_of_ble_eq_true rfl) (fun X h hr => ?_)
  refine j_iload_n h 1 rfl rfl dX11_count_0 ?_
  refine j_tsw h 76 0 [40, 48, 53, 58, 63, 71] dX11_count_1 (by decide) (by decide) (by decide) (by decide) (by decide) (fun i9 t9 ht9 c_1 => ?_) (fun c_1 => ?_)
  · match i9, ht9 with
    | 0, ht9 =>
      cases ht9
      refine j_aload_n h 41 rfl rfl dX11_count_40 ?_
      refine j_getI h 44 rfl glX11_124 sh_93 rfl dX11_count_41 ?_
      refine j_callSI h 47 rfl lkX11_276 rfl (t_X11_bits _ _) rfl rfl rfl dX11_count_44 ?_
      refine j_top (show _ = nI (tldS (M 15) 5) by rw [etb, mb_pc tb (by omega), tld_pc htb (fun r hr => by rw [← etb]; exact hH.1 r hr)]) ?_
      exact j_ret h hr rfl dX11_count_47 ⟨_, rfl, by rw [c_1]; unfold sCount; rw [if_pos rfl], frM_r⟩
    | 1, ht9 =>
      cases ht9
      refine j_aload_n h 49 rfl rfl dX11_count_48 ?_
      refine j_getI h 52 rfl glX11_131 sh_93 rfl dX11_count_49 ?_
      exact j_ret h hr rfl dX11_count_52 ⟨_, rfl, by rw [c_1]; unfold sCount; rw [if_neg (by decide), if_pos rfl]; exact eL, frM_r⟩
    | 2, ht9 =>
      cases ht9
      refine j_aload_n h 54 rfl rfl dX11_count_53 ?_
      refine j_getI h 57 rfl glX11_229 sh_93 rfl dX11_count_54 ?_
      exact j_ret h hr rfl dX11_count_57 ⟨_, rfl, by rw [c_1]; unfold sCount; rw [if_neg (by decide), if_neg (by decide), if_pos rfl]; exact ew, frM_r⟩
    | 3, ht9 =>
      cases ht9
      refine j_aload_n h 59 rfl rfl dX11_count_58 ?_
      refine j_getI h 62 rfl glX11_270 sh_93 rfl dX11_count_59 ?_
      exact j_ret h hr rfl dX11_count_62 ⟨_, rfl, by rw [c_1]; unfold sCount; rw [if_neg (by decide), if_neg (by decide), if_neg (by decide), if_pos rfl]; exact eg, frM_r⟩
    | 4, ht9 =>
      cases ht9
      refine j_aload_n h 64 rfl rfl dX11_count_63 ?_
      refine j_callVI h 67 rfl lkX11_282 sh_93 rfl rfl (t_X11_toldFlats _ wt du hF) rfl rfl rfl dX11_count_64 ?_
      refine j_callSI h 70 rfl lkX11_276 rfl (t_X11_bits _ _) rfl rfl rfl dX11_count_67 ?_
      refine j_top (mb_pc _ (tsN_lt (wt := wt) 8)) ?_
      exact j_ret h hr rfl dX11_count_70 ⟨_, rfl, by rw [c_1]; unfold sCount; rw [if_neg (by decide), if_neg (by decide), if_neg (by decide), if_neg (by decide), if_pos rfl], frM_r⟩
    | 5, ht9 =>
      cases ht9
      refine j_aload_n h 72 rfl rfl dX11_count_71 ?_
      refine j_getI h 75 rfl glX11_51 sh_93 rfl dX11_count_72 ?_
      exact j_ret h hr rfl dX11_count_75 ⟨_, rfl, by rw [c_1]; unfold sCount; rw [if_neg (by decide), if_neg (by decide), if_neg (by decide), if_neg (by decide), if_neg (by decide), if_pos rfl]; exact hH.2.2.2.2.2.1.2.2.2.2.2.2.2.2, frM_r⟩
    | n9 + 6, ht9 => cases ht9
  · skip
    refine j_bipush h 78 rfl (-3) (by decide) dX11_count_76 ?_
    exact j_ret h hr rfl dX11_count_78 ⟨_, rfl, by have t := tsw_out (by decide) c_1; unfold sCount; rw [if_neg (t 0 (by decide)), if_neg (t 1 (by decide)), if_neg (t 2 (by decide)), if_neg (t 3 (by decide)), if_neg (t 4 (by decide)), if_neg (t 5 (by decide))], frM_r⟩
