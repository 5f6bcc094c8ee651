/-! the model: lines done -/
def dm0 (v : List Nat) (M : hM) : Nat → hM
  | 0 => mu M 93 0 (M 93 0 ||| (nI 1 <<< (nI (v.getD 0 0) &&& 31)))
  | i + 1 => mu (dm0 v M i) 94 (4 * v.getD 0 0 + i) (nI (v.getD (i + 1) 0))
def dmM (v : List Nat) (M : hM) : Nat → hM
  | 0 => dm0 v M 4
  | 1 => mu (mu M 98 (5 * v.getD 0 0 + v.getD 1 0) (nI (v.getD 2 0))) 98 (5 * v.getD 1 0 + v.getD 0 0) (nI (v.getD 2 0))
  | 2 => mu (mu (mu M 93 6 (nI (v.getD 0 0))) 93 7 (nI (v.getD 1 0))) 93 8 (nI (v.getD 2 0))
  | 3 => mu M 93 9 (nI (v.getD 0 0))
  | 4 => mu (mu (mu (mu M 93 10 (nI (v.getD 0 0))) 93 11 (nI (v.getD 1 0))) 93 12 (nI (v.getD 2 0))) 93 13 (nI (v.getD 3 0))
  | 5 => mu M 95 (v.getD 0 0) (nI (v.getD 1 0))
  | 6 => mu M 96 (v.getD 0 0) (hHrs (v.getD 1 0) (v.getD 2 0))
  | 7 => mu M 97 (v.getD 0 0) (hHrs (v.getD 1 0) (v.getD 2 0))
  | 8 => mu M 93 14 (if v.getD 0 0 = v.getD 1 0 then nI 16777215 else hHrs (v.getD 0 0) (v.getD 1 0))
  | _ => mu M 93 0 (M 93 0 &&& ((nI 1 <<< (nI (v.getD 0 0) &&& 31)) ^^^ -1))
theorem dm0_f {v : List Nat} {M : hM} {a : Nat} (h : a ≠ 93) (h2 : a ≠ 94) : ∀ i, dm0 v M i a = M a
  | 0 => mu_f h
  | i + 1 => by rw [dm0, mu_f h2]; exact dm0_f h h2 i
theorem dm0_j {v : List Nat} {M : hM} {j : Nat} (h : j ≠ 0) : ∀ i, dm0 v M i 93 j = M 93 j
  | 0 => mu_k h
  | i + 1 => by rw [dm0, mu_a (by decide)]; exact dm0_j h i
theorem dmM_f {v : List Nat} {M : hM} {k a : Nat} (h : a < 93 ∨ 98 < a) : dmM v M k a = M a := by
  unfold dmM
  split
  · exact dm0_f (by omega) (by omega) 4
  all_goals (repeat rw [mu_f (by omega)])
theorem dmM_j {v : List Nat} {M : hM} {k j : Nat} (h : 14 < j) : dmM v M k 93 j = M 93 j := by
  unfold dmM
  split
  · exact dm0_j (by omega) 4
  all_goals (repeat first | rw [mu_k (by omega)] | rw [mu_a (by decide)])
def dlS (ls : List (Nat × List Nat)) (M : hM) : Nat → hM
  | 0 => M
  | n + 1 => dmM (ls.getD n (0, [])).2 (dlS ls M n) (ls.getD n (0, [])).1
theorem dlS_f {ls : List (Nat × List Nat)} {M : hM} {a : Nat} (h : a < 93 ∨ 98 < a) : ∀ n, dlS ls M n a = M a
  | 0 => rfl
  | n + 1 => by rw [dlS, dmM_f h]; exact dlS_f h n
theorem dlS_j {ls : List (Nat × List Nat)} {M : hM} {j : Nat} (h : 14 < j) : ∀ n, dlS ls M n 93 j = M 93 j
  | 0 => rfl
  | n + 1 => by rw [dlS, dmM_j h]; exact dlS_j h n
theorem okL_i {k : Nat} {v : List Nat} (h : okL k v) {i n : Nat} (hi : i < 5) (hb : ¬ bdI k i = -1) (hn : bdN k i = n) : i < v.length ∧ v.getD i 0 ≤ n := by
  have := h.1 i hi hb
  rw [hn] at this
  exact this
set_option maxRecDepth 100000 in
set_option maxHeartbeats 4000000 in
theorem t_X11_doHours (M : hM) (w : Nat) (hw : w < 43) (k : Nat) (v : List Nat) (hk : k < 10) (hok : okL k v) (ek : M 100 w = nI k) (hv : ∀ j, j < v.length → M 100 (w + 1 + j) = nI (v.getD j 0)) (h5 : 5 ≤ k) (y : Int32) (hy : ¬ k = 9 → y = nI (v.getD 1 0)) : Ct 2 mX11_doHours [.ref 93, .int (nI w), .int (nI (v.getD 0 0)), .int y] M (pV (fun M2 => M2 = dmM v M k)) := by
  refine ct_of (lv := [some (.ref 93), some (.int (nI w)), some (.int (nI (v.getD 0 0))), some (.int y)]) (by decide +kernel) (fun _ _ hq => hq) rfl (fun _ => Nat.le_of_ble_eq_true rfl) (fun X h hr => ?_)
  have o0 : v.getD 0 0 ≤ 23 := by
    rcases (by omega : k = 5 ∨ k = 6 ∨ k = 7 ∨ k = 8 ∨ k = 9) with rfl | rfl | rfl | rfl | rfl
    · have := (okL_i hok (i := 0) (n := 4) (by decide) (by decide +kernel) (by decide +kernel)).2; omega
    · have := (okL_i hok (i := 0) (n := 4) (by decide) (by decide +kernel) (by decide +kernel)).2; omega
    · have := (okL_i hok (i := 0) (n := 4) (by decide) (by decide +kernel) (by decide +kernel)).2; omega
    · have := (okL_i hok (i := 0) (n := 23) (by decide) (by decide +kernel) (by decide +kernel)).2; omega
    · have := (okL_i hok (i := 0) (n := 4) (by decide) (by decide +kernel) (by decide +kernel)).2; omega
  refine j_aload_n h 1 rfl rfl dX11_doHours_0 ?_
  refine j_getR h 4 rfl glX11_57 sh_93 rfl dX11_doHours_1 ?_
  refine j_iload_n h 5 rfl rfl dX11_doHours_4 ?_
  refine j_iald h 6 rfl sh_100 _ rfl (by omega) rfl dX11_doHours_5 ?_
  refine j_top ek ?_
  refine j_iconst h 7 rfl (nI 5) (by decide) dX11_doHours_6 ?_
  refine j_icmp_neN h 20 10 (by omega) (by omega) dX11_doHours_7 (by decide) rfl (fun c_7 => ?_) (fun c_7 => ?_)
  · skip
    refine j_aload_n h 21 rfl rfl dX11_doHours_20 ?_
    refine j_getR h 24 rfl glX11_57 sh_93 rfl dX11_doHours_21 ?_
    refine j_iload_n h 25 rfl rfl dX11_doHours_24 ?_
    refine j_iald h 26 rfl sh_100 _ rfl (by omega) rfl dX11_doHours_25 ?_
    refine j_top ek ?_
    refine j_bipush h 28 rfl (nI 6) (by decide) dX11_doHours_26 ?_
    refine j_icmp_neN h 52 31 (by omega) (by omega) dX11_doHours_28 (by decide) rfl (fun c_28 => ?_) (fun c_28 => ?_)
    · skip
      refine j_aload_n h 53 rfl rfl dX11_doHours_52 ?_
      refine j_getR h 56 rfl glX11_57 sh_93 rfl dX11_doHours_53 ?_
      refine j_iload_n h 57 rfl rfl dX11_doHours_56 ?_
      refine j_iald h 58 rfl sh_100 _ rfl (by omega) rfl dX11_doHours_57 ?_
      refine j_top ek ?_
      refine j_bipush h 60 rfl (nI 7) (by decide) dX11_doHours_58 ?_
      refine j_icmp_neN h 84 63 (by omega) (by omega) dX11_doHours_60 (by decide) rfl (fun c_60 => ?_) (fun c_60 => ?_)
      · skip
        refine j_aload_n h 85 rfl rfl dX11_doHours_84 ?_
        refine j_getR h 88 rfl glX11_57 sh_93 rfl dX11_doHours_85 ?_
        refine j_iload_n h 89 rfl rfl dX11_doHours_88 ?_
        refine j_iald h 90 rfl sh_100 _ rfl (by omega) rfl dX11_doHours_89 ?_
        refine j_top ek ?_
        refine j_bipush h 92 rfl (nI 8) (by decide) dX11_doHours_90 ?_
        refine j_icmp_neN h 117 95 (by omega) (by omega) dX11_doHours_92 (by decide) rfl (fun c_92 => ?_) (fun c_92 => ?_)
        · obtain rfl : k = 9 := by omega
          have o0 := okL_i hok (i := 0) (n := 4) (by decide) (by decide +kernel) (by decide +kernel)
          refine j_aload_n h 118 rfl rfl dX11_doHours_117 ?_
          refine j_aload_n h 119 rfl rfl dX11_doHours_118 ?_
          refine j_getI h 122 rfl glX11_124 sh_93 rfl dX11_doHours_119 ?_
          refine j_iconst h 123 rfl (nI 1) (by decide) dX11_doHours_122 ?_
          refine j_iload_n h 124 rfl rfl dX11_doHours_123 ?_
          refine j_ishl h 125 rfl dX11_doHours_124 ?_
          refine j_iconst h 126 rfl (-1) (by decide) dX11_doHours_125 ?_
          refine j_ixor h 127 rfl dX11_doHours_126 ?_
          refine j_iand h 128 rfl dX11_doHours_127 ?_
          refine j_putI h 131 rfl plX11_124 sh_93 rfl rfl rfl rfl dX11_doHours_128 ?_
          exact j_vret h hr dX11_doHours_131 ⟨rfl, rfl⟩
        · obtain rfl : k = 8 := by omega
          have o0 := okL_i hok (i := 0) (n := 23) (by decide) (by decide +kernel) (by decide +kernel)
          have o1 := okL_i hok (i := 1) (n := 23) (by decide) (by decide +kernel) (by decide +kernel)
          have hy1 := hy (by decide)
          have K111 : ∀ x, x = (if v.getD 0 0 = v.getD 1 0 then nI 16777215 else hHrs (v.getD 0 0) (v.getD 1 0)) → J X 111 [some (.ref 93), some (.int (nI w)), some (.int (nI (v.getD 0 0))), some (.int y)] [.int x, .ref 93] M := by
            intro x hx
            subst hx
            refine j_putI h 114 rfl plX11_51 sh_93 rfl rfl rfl rfl dX11_doHours_111 ?_
            refine j_goto h 131 dX11_doHours_114 (by decide) ?_
            exact j_vret h hr dX11_doHours_131 ⟨rfl, rfl⟩
          refine j_aload_n h 96 rfl rfl dX11_doHours_95 ?_
          refine j_iload_n h 97 rfl rfl dX11_doHours_96 ?_
          refine j_iload_n h 98 rfl rfl dX11_doHours_97 ?_
          refine j_top hy1 ?_
          refine j_icmp_neN h 106 101 (by omega) (by omega) dX11_doHours_98 (by decide) rfl (fun c_98 => ?_) (fun c_98 => ?_)
          · skip
            refine j_iload_n h 107 rfl rfl dX11_doHours_106 ?_
            refine j_iload_n h 108 rfl rfl dX11_doHours_107 ?_
            refine j_top hy1 ?_
            refine j_callSI h 111 rfl lkX11_214 rfl (t_X11_hoursOf _ _ _ (by omega) (by omega)) rfl rfl rfl dX11_doHours_108 ?_
            exact K111 _ (by first | rw [if_neg c_98] | rw [if_pos c_98])
          · skip
            refine j_ldc h 103 rfl (nI 16777215) cnX11_50 dX11_doHours_101 ?_
            refine j_goto h 111 dX11_doHours_103 (by decide) ?_
            exact K111 _ (by first | rw [if_neg c_98] | rw [if_pos c_98])
      · obtain rfl : k = 7 := by omega
        have o0 := okL_i hok (i := 0) (n := 4) (by decide) (by decide +kernel) (by decide +kernel)
        have o1 := okL_i hok (i := 1) (n := 23) (by decide) (by decide +kernel) (by decide +kernel)
        have o2 := okL_i hok (i := 2) (n := 23) (by decide) (by decide +kernel) (by decide +kernel)
        have hy1 := hy (by decide)
        have e3 := hv 2 o2.1
        refine j_aload_n h 64 rfl rfl dX11_doHours_63 ?_
        refine j_getR h 67 rfl glX11_19 sh_93 rfl dX11_doHours_64 ?_
        refine j_iload_n h 68 rfl rfl dX11_doHours_67 ?_
        refine j_iload_n h 69 rfl rfl dX11_doHours_68 ?_
        refine j_top hy1 ?_
        refine j_aload_n h 70 rfl rfl dX11_doHours_69 ?_
        refine j_getR h 73 rfl glX11_57 sh_93 rfl dX11_doHours_70 ?_
        refine j_iload_n h 74 rfl rfl dX11_doHours_73 ?_
        refine j_iconst h 75 rfl (nI 3) (by decide) dX11_doHours_74 ?_
        refine j_iaddN h 76 rfl dX11_doHours_75 ?_
        refine j_iald h 77 rfl sh_100 _ rfl (by omega) rfl dX11_doHours_76 ?_
        refine j_top e3 ?_
        refine j_callSI h 80 rfl lkX11_214 rfl (t_X11_hoursOf _ _ _ (by omega) (by omega)) rfl rfl rfl dX11_doHours_77 ?_
        refine j_iast h 81 rfl sh_97 _ rfl (by omega) rfl dX11_doHours_80 ?_
        refine j_goto h 131 dX11_doHours_81 (by decide) ?_
        exact j_vret h hr dX11_doHours_131 ⟨rfl, rfl⟩
    · obtain rfl : k = 6 := by omega
      have o0 := okL_i hok (i := 0) (n := 4) (by decide) (by decide +kernel) (by decide +kernel)
      have o1 := okL_i hok (i := 1) (n := 23) (by decide) (by decide +kernel) (by decide +kernel)
      have o2 := okL_i hok (i := 2) (n := 23) (by decide) (by decide +kernel) (by decide +kernel)
      have hy1 := hy (by decide)
      have e3 := hv 2 o2.1
      refine j_aload_n h 32 rfl rfl dX11_doHours_31 ?_
      refine j_getR h 35 rfl glX11_16 sh_93 rfl dX11_doHours_32 ?_
      refine j_iload_n h 36 rfl rfl dX11_doHours_35 ?_
      refine j_iload_n h 37 rfl rfl dX11_doHours_36 ?_
      refine j_top hy1 ?_
      refine j_aload_n h 38 rfl rfl dX11_doHours_37 ?_
      refine j_getR h 41 rfl glX11_57 sh_93 rfl dX11_doHours_38 ?_
      refine j_iload_n h 42 rfl rfl dX11_doHours_41 ?_
      refine j_iconst h 43 rfl (nI 3) (by decide) dX11_doHours_42 ?_
      refine j_iaddN h 44 rfl dX11_doHours_43 ?_
      refine j_iald h 45 rfl sh_100 _ rfl (by omega) rfl dX11_doHours_44 ?_
      refine j_top e3 ?_
      refine j_callSI h 48 rfl lkX11_214 rfl (t_X11_hoursOf _ _ _ (by omega) (by omega)) rfl rfl rfl dX11_doHours_45 ?_
      refine j_iast h 49 rfl sh_96 _ rfl (by omega) rfl dX11_doHours_48 ?_
      refine j_goto h 131 dX11_doHours_49 (by decide) ?_
      exact j_vret h hr dX11_doHours_131 ⟨rfl, rfl⟩
  · obtain rfl : k = 5 := by omega
    have o0 := okL_i hok (i := 0) (n := 4) (by decide) (by decide +kernel) (by decide +kernel)
    have o1 := okL_i hok (i := 1) (n := 3) (by decide) (by decide +kernel) (by decide +kernel)
    have hy1 := hy (by decide)
    refine j_aload_n h 11 rfl rfl dX11_doHours_10 ?_
    refine j_getR h 14 rfl glX11_13 sh_93 rfl dX11_doHours_11 ?_
    refine j_iload_n h 15 rfl rfl dX11_doHours_14 ?_
    refine j_iload_n h 16 rfl rfl dX11_doHours_15 ?_
    refine j_top hy1 ?_
    refine j_iast h 17 rfl sh_95 _ rfl (by omega) rfl dX11_doHours_16 ?_
    refine j_goto h 131 dX11_doHours_17 (by decide) ?_
    exact j_vret h hr dX11_doHours_131 ⟨rfl, rfl⟩
set_option maxRecDepth 100000 in
set_option maxHeartbeats 4000000 in
theorem t_X11_doLine (M : hM) (w : Nat) (hw : w < 43) (k : Nat) (v : List Nat) (hk : k < 10) (hok : okL k v) (ek : M 100 w = nI k) (hv : ∀ j, j < v.length → M 100 (w + 1 + j) = nI (v.getD j 0)) : Ct 3 mX11_doLine [.ref 93, .int (nI w)] M (pV (fun M2 => M2 = dmM v M k)) := by
  refine ct_of (lv := [some (.ref 93), some (.int (nI w)), none, none, none]) (by decide +kernel) (fun _ _ hq => hq) rfl (fun _ => Nat.le_of_ble_eq_true rfl) (fun X h hr => ?_)
  have q0 : 0 < v.length ∧ v.getD 0 0 ≤ 500 := by
    rcases (by omega : k = 0 ∨ k = 1 ∨ k = 2 ∨ k = 3 ∨ k = 4 ∨ k = 5 ∨ k = 6 ∨ k = 7 ∨ k = 8 ∨ k = 9) with rfl | rfl | rfl | rfl | rfl | rfl | rfl | rfl | rfl | rfl
    · have q := okL_i hok (i := 0) (n := 4) (by decide) (by decide +kernel) (by decide +kernel); exact ⟨q.1, by omega⟩
    · have q := okL_i hok (i := 0) (n := 4) (by decide) (by decide +kernel) (by decide +kernel); exact ⟨q.1, by omega⟩
    · have q := okL_i hok (i := 0) (n := 500) (by decide) (by decide +kernel) (by decide +kernel); exact ⟨q.1, by omega⟩
    · have q := okL_i hok (i := 0) (n := 99) (by decide) (by decide +kernel) (by decide +kernel); exact ⟨q.1, by omega⟩
    · have q := okL_i hok (i := 0) (n := 40) (by decide) (by decide +kernel) (by decide +kernel); exact ⟨q.1, by omega⟩
    · have q := okL_i hok (i := 0) (n := 4) (by decide) (by decide +kernel) (by decide +kernel); exact ⟨q.1, by omega⟩
    · have q := okL_i hok (i := 0) (n := 4) (by decide) (by decide +kernel) (by decide +kernel); exact ⟨q.1, by omega⟩
    · have q := okL_i hok (i := 0) (n := 4) (by decide) (by decide +kernel) (by decide +kernel); exact ⟨q.1, by omega⟩
    · have q := okL_i hok (i := 0) (n := 23) (by decide) (by decide +kernel) (by decide +kernel); exact ⟨q.1, by omega⟩
    · have q := okL_i hok (i := 0) (n := 4) (by decide) (by decide +kernel) (by decide +kernel); exact ⟨q.1, by omega⟩
  have hv0 := hv 0 q0.1
  refine j_aload_n h 1 rfl rfl dX11_doLine_0 ?_
  refine j_getR h 4 rfl glX11_57 sh_93 rfl dX11_doLine_1 ?_
  refine j_iload_n h 5 rfl rfl dX11_doLine_4 ?_
  refine j_iconst h 6 rfl (nI 1) (by decide) dX11_doLine_5 ?_
  refine j_iaddN h 7 rfl dX11_doLine_6 ?_
  refine j_iald h 8 rfl sh_100 _ rfl (by omega) rfl dX11_doLine_7 ?_
  refine j_top hv0 ?_
  refine j_istore_n h 9 rfl rfl dX11_doLine_8 ?_
  refine j_aload_n h 10 rfl rfl dX11_doLine_9 ?_
  refine j_getR h 13 rfl glX11_57 sh_93 rfl dX11_doLine_10 ?_
  refine j_iload_n h 14 rfl rfl dX11_doLine_13 ?_
  refine j_iconst h 15 rfl (nI 2) (by decide) dX11_doLine_14 ?_
  refine j_iaddN h 16 rfl dX11_doLine_15 ?_
  refine j_iald h 17 rfl sh_100 _ rfl (by omega) rfl dX11_doLine_16 ?_
  refine j_istore_n h 18 rfl rfl dX11_doLine_17 ?_
  refine j_aload_n h 19 rfl rfl dX11_doLine_18 ?_
  refine j_getR h 22 rfl glX11_57 sh_93 rfl dX11_doLine_19 ?_
  refine j_iload_n h 23 rfl rfl dX11_doLine_22 ?_
  refine j_iald h 24 rfl sh_100 _ rfl (by omega) rfl dX11_doLine_23 ?_
  refine j_top ek ?_
  refine j_tsw h 221 0 [60, 112, 151, 176, 184] dX11_doLine_24 (by decide) (by decide) (by decide) (by decide) (by decide) (fun i9 t9 ht9 c_24 => ?_) (fun c_24 => ?_)
  · match i9, ht9 with
    | 0, ht9 =>
      cases ht9
      obtain rfl : k = 0 := by have q := (nI_eq (by omega) (by omega)).mp c_24; omega
      have o0 := okL_i hok (i := 0) (n := 4) (by decide) (by decide +kernel) (by decide +kernel)
      have o1 := okL_i hok (i := 1) (n := 600) (by decide) (by decide +kernel) (by decide +kernel)
      have o2 := okL_i hok (i := 2) (n := 600) (by decide) (by decide +kernel) (by decide +kernel)
      have o3 := okL_i hok (i := 3) (n := 3) (by decide) (by decide +kernel) (by decide +kernel)
      have o4 := okL_i hok (i := 4) (n := 9) (by decide) (by decide +kernel) (by decide +kernel)
      have e2 : M 100 (w + 2) = nI (v.getD 1 0) := hv 1 o1.1
      have hv4 : ∀ j, j < 4 → M 100 (w + 1 + (j + 1)) = nI (v.getD (j + 1) 0) := fun j hj => hv (j + 1) (by omega)
      refine j_aload_n h 61 rfl rfl dX11_doLine_60 ?_
      refine j_aload_n h 62 rfl rfl dX11_doLine_61 ?_
      refine j_getI h 65 rfl glX11_124 sh_93 rfl dX11_doLine_62 ?_
      refine j_iconst h 66 rfl (nI 1) (by decide) dX11_doLine_65 ?_
      refine j_iload_n h 67 rfl rfl dX11_doLine_66 ?_
      refine j_ishl h 68 rfl dX11_doLine_67 ?_
      refine j_ior h 69 rfl dX11_doLine_68 ?_
      refine j_putI h 72 rfl plX11_124 sh_93 rfl rfl rfl rfl dX11_doLine_69 ?_
      refine j_iconst h 73 rfl (nI 0) (by decide) dX11_doLine_72 ?_
      refine j_istore h 75 rfl rfl dX11_doLine_73 ?_
      have L : ∀ (n i : Nat), 4 - i < n → i ≤ 4 → J X 75 [some (.ref 93), some (.int (nI w)), some (.int (nI (v.getD 0 0))), some (.int (M 100 (w + 2))), some (.int (nI i))] [] (dm0 v M i) := by
        intro n
        induction n with
        | zero => intro i h1; omega
        | succ n ih =>
          intro i h1 h2
          refine j_iload h 77 rfl rfl dX11_doLine_75 ?_
          refine j_iconst h 78 rfl (nI 4) (by decide) dX11_doLine_77 ?_
          refine j_icmp_geN h 109 81 (by omega) (by omega) dX11_doLine_78 (by decide) rfl (fun c_78 => ?_) (fun c_78 => ?_)
          · skip
            refine j_goto h 228 dX11_doLine_109 (by decide) ?_
            exact j_vret h hr dX11_doLine_228 ⟨rfl, by first | exact hM9 | (rw [show (4 : Nat) = i by omega]; rfl) | (obtain rfl : i = 4 := (by omega); rfl) | rfl⟩
          · skip
            refine j_aload_n h 82 rfl rfl dX11_doLine_81 ?_
            refine j_getR h 85 rfl glX11_7 sh_93 rfl dX11_doLine_82 ?_
            refine j_iconst h 86 rfl (nI 4) (by decide) dX11_doLine_85 ?_
            refine j_iload_n h 87 rfl rfl dX11_doLine_86 ?_
            refine j_imulN h 88 rfl dX11_doLine_87 ?_
            refine j_iload h 90 rfl rfl dX11_doLine_88 ?_
            refine j_iaddN h 91 rfl dX11_doLine_90 ?_
            refine j_aload_n h 92 rfl rfl dX11_doLine_91 ?_
            refine j_getR h 95 rfl glX11_57 sh_93 rfl dX11_doLine_92 ?_
            refine j_iload_n h 96 rfl rfl dX11_doLine_95 ?_
            refine j_iconst h 97 rfl (nI 2) (by decide) dX11_doLine_96 ?_
            refine j_iaddN h 98 rfl dX11_doLine_97 ?_
            refine j_iload h 100 rfl rfl dX11_doLine_98 ?_
            refine j_iaddN h 101 rfl dX11_doLine_100 ?_
            refine j_iald h 102 rfl sh_100 _ rfl (by omega) rfl dX11_doLine_101 ?_
            refine j_top ((congrFun (dm0_f (v := v) (M := M) (by decide) (by decide) i) (w + 2 + i)).trans (show M 100 (w + 2 + i) = nI (v.getD (i + 1) 0) by rw [show w + 2 + i = w + 1 + (i + 1) by omega]; exact hv4 i (by omega))) ?_
            refine j_iast h 103 rfl sh_94 _ rfl (by omega) rfl dX11_doLine_102 ?_
            refine j_iincN h 106 rfl rfl rfl dX11_doLine_103 ?_
            refine j_goto h 75 dX11_doLine_106 (by decide) ?_
            exact ih (i + 1) (by omega) (by omega)
      exact L 5 0 (by omega) (by omega)
    | 1, ht9 =>
      cases ht9
      obtain rfl : k = 1 := by have q := (nI_eq (by omega) (by omega)).mp c_24; omega
      have o0 := okL_i hok (i := 0) (n := 4) (by decide) (by decide +kernel) (by decide +kernel)
      have o1 := okL_i hok (i := 1) (n := 4) (by decide) (by decide +kernel) (by decide +kernel)
      have o2 := okL_i hok (i := 2) (n := 10) (by decide) (by decide +kernel) (by decide +kernel)
      have e2 : M 100 (w + 2) = nI (v.getD 1 0) := hv 1 o1.1
      refine j_aload_n h 113 rfl rfl dX11_doLine_112 ?_
      refine j_getR h 116 rfl glX11_22 sh_93 rfl dX11_doLine_113 ?_
      refine j_iconst h 117 rfl (nI 5) (by decide) dX11_doLine_116 ?_
      refine j_iload_n h 118 rfl rfl dX11_doLine_117 ?_
      refine j_imulN h 119 rfl dX11_doLine_118 ?_
      refine j_iload_n h 120 rfl rfl dX11_doLine_119 ?_
      refine j_top e2 ?_
      refine j_iaddN h 121 rfl dX11_doLine_120 ?_
      refine j_aload_n h 122 rfl rfl dX11_doLine_121 ?_
      refine j_getR h 125 rfl glX11_57 sh_93 rfl dX11_doLine_122 ?_
      refine j_iload_n h 126 rfl rfl dX11_doLine_125 ?_
      refine j_iconst h 127 rfl (nI 3) (by decide) dX11_doLine_126 ?_
      refine j_iaddN h 128 rfl dX11_doLine_127 ?_
      refine j_iald h 129 rfl sh_100 _ rfl (by omega) rfl dX11_doLine_128 ?_
      refine j_top (hv 2 o2.1) ?_
      refine j_iast h 130 rfl sh_98 _ rfl (by omega) rfl dX11_doLine_129 ?_
      refine j_aload_n h 131 rfl rfl dX11_doLine_130 ?_
      refine j_getR h 134 rfl glX11_22 sh_93 rfl dX11_doLine_131 ?_
      refine j_iconst h 135 rfl (nI 5) (by decide) dX11_doLine_134 ?_
      refine j_iload_n h 136 rfl rfl dX11_doLine_135 ?_
      refine j_top e2 ?_
      refine j_imulN h 137 rfl dX11_doLine_136 ?_
      refine j_iload_n h 138 rfl rfl dX11_doLine_137 ?_
      refine j_iaddN h 139 rfl dX11_doLine_138 ?_
      refine j_aload_n h 140 rfl rfl dX11_doLine_139 ?_
      refine j_getR h 143 rfl glX11_57 sh_93 rfl dX11_doLine_140 ?_
      refine j_iload_n h 144 rfl rfl dX11_doLine_143 ?_
      refine j_iconst h 145 rfl (nI 3) (by decide) dX11_doLine_144 ?_
      refine j_iaddN h 146 rfl dX11_doLine_145 ?_
      refine j_iald h 147 rfl sh_100 _ rfl (by omega) rfl dX11_doLine_146 ?_
      refine j_top ((mu_a (by decide)).trans (hv 2 o2.1)) ?_
      refine j_iast h 148 rfl sh_98 _ rfl (by omega) rfl dX11_doLine_147 ?_
      refine j_goto h 228 dX11_doLine_148 (by decide) ?_
      exact j_vret h hr dX11_doLine_228 ⟨rfl, by first | exact hM9 | (rw [show (4 : Nat) = i by omega]; rfl) | (obtain rfl : i = 4 := (by omega); rfl) | rfl⟩
    | 2, ht9 =>
      cases ht9
      obtain rfl : k = 2 := by have q := (nI_eq (by omega) (by omega)).mp c_24; omega
      have o0 := okL_i hok (i := 0) (n := 500) (by decide) (by decide +kernel) (by decide +kernel)
      have o1 := okL_i hok (i := 1) (n := 500) (by decide) (by decide +kernel) (by decide +kernel)
      have o2 := okL_i hok (i := 2) (n := 50) (by decide) (by decide +kernel) (by decide +kernel)
      have e2 : M 100 (w + 2) = nI (v.getD 1 0) := hv 1 o1.1
      refine j_aload_n h 152 rfl rfl dX11_doLine_151 ?_
      refine j_iload_n h 153 rfl rfl dX11_doLine_152 ?_
      refine j_putI h 156 rfl plX11_25 sh_93 rfl rfl rfl rfl dX11_doLine_153 ?_
      refine j_aload_n h 157 rfl rfl dX11_doLine_156 ?_
      refine j_iload_n h 158 rfl rfl dX11_doLine_157 ?_
      refine j_top e2 ?_
      refine j_putI h 161 rfl plX11_29 sh_93 rfl rfl rfl rfl dX11_doLine_158 ?_
      refine j_aload_n h 162 rfl rfl dX11_doLine_161 ?_
      refine j_aload_n h 163 rfl rfl dX11_doLine_162 ?_
      refine j_getR h 166 rfl glX11_57 sh_93 rfl dX11_doLine_163 ?_
      refine j_iload_n h 167 rfl rfl dX11_doLine_166 ?_
      refine j_iconst h 168 rfl (nI 3) (by decide) dX11_doLine_167 ?_
      refine j_iaddN h 169 rfl dX11_doLine_168 ?_
      refine j_iald h 170 rfl sh_100 _ rfl (by omega) rfl dX11_doLine_169 ?_
      refine j_top ((mu_a (by decide)).trans ((mu_a (by decide)).trans (hv 2 o2.1))) ?_
      refine j_putI h 173 rfl plX11_32 sh_93 rfl rfl rfl rfl dX11_doLine_170 ?_
      refine j_goto h 228 dX11_doLine_173 (by decide) ?_
      exact j_vret h hr dX11_doLine_228 ⟨rfl, by first | exact hM9 | (rw [show (4 : Nat) = i by omega]; rfl) | (obtain rfl : i = 4 := (by omega); rfl) | rfl⟩
    | 3, ht9 =>
      cases ht9
      obtain rfl : k = 3 := by have q := (nI_eq (by omega) (by omega)).mp c_24; omega
      have o0 := okL_i hok (i := 0) (n := 99) (by decide) (by decide +kernel) (by decide +kernel)
      refine j_aload_n h 177 rfl rfl dX11_doLine_176 ?_
      refine j_iload_n h 178 rfl rfl dX11_doLine_177 ?_
      refine j_putI h 181 rfl plX11_35 sh_93 rfl rfl rfl rfl dX11_doLine_178 ?_
      refine j_goto h 228 dX11_doLine_181 (by decide) ?_
      exact j_vret h hr dX11_doLine_228 ⟨rfl, by first | exact hM9 | (rw [show (4 : Nat) = i by omega]; rfl) | (obtain rfl : i = 4 := (by omega); rfl) | rfl⟩
    | 4, ht9 =>
      cases ht9
      obtain rfl : k = 4 := by have q := (nI_eq (by omega) (by omega)).mp c_24; omega
      have o0 := okL_i hok (i := 0) (n := 40) (by decide) (by decide +kernel) (by decide +kernel)
      have o1 := okL_i hok (i := 1) (n := 40) (by decide) (by decide +kernel) (by decide +kernel)
      have o2 := okL_i hok (i := 2) (n := 20) (by decide) (by decide +kernel) (by decide +kernel)
      have o3 := okL_i hok (i := 3) (n := 40) (by decide) (by decide +kernel) (by decide +kernel)
      have e2 : M 100 (w + 2) = nI (v.getD 1 0) := hv 1 o1.1
      refine j_aload_n h 185 rfl rfl dX11_doLine_184 ?_
      refine j_iload_n h 186 rfl rfl dX11_doLine_185 ?_
      refine j_putI h 189 rfl plX11_38 sh_93 rfl rfl rfl rfl dX11_doLine_186 ?_
      refine j_aload_n h 190 rfl rfl dX11_doLine_189 ?_
      refine j_iload_n h 191 rfl rfl dX11_doLine_190 ?_
      refine j_top e2 ?_
      refine j_putI h 194 rfl plX11_41 sh_93 rfl rfl rfl rfl dX11_doLine_191 ?_
      refine j_aload_n h 195 rfl rfl dX11_doLine_194 ?_
      refine j_aload_n h 196 rfl rfl dX11_doLine_195 ?_
      refine j_getR h 199 rfl glX11_57 sh_93 rfl dX11_doLine_196 ?_
      refine j_iload_n h 200 rfl rfl dX11_doLine_199 ?_
      refine j_iconst h 201 rfl (nI 3) (by decide) dX11_doLine_200 ?_
      refine j_iaddN h 202 rfl dX11_doLine_201 ?_
      refine j_iald h 203 rfl sh_100 _ rfl (by omega) rfl dX11_doLine_202 ?_
      refine j_top ((mu_a (by decide)).trans ((mu_a (by decide)).trans (hv 2 o2.1))) ?_
      refine j_putI h 206 rfl plX11_44 sh_93 rfl rfl rfl rfl dX11_doLine_203 ?_
      refine j_aload_n h 207 rfl rfl dX11_doLine_206 ?_
      refine j_aload_n h 208 rfl rfl dX11_doLine_207 ?_
      refine j_getR h 211 rfl glX11_57 sh_93 rfl dX11_doLine_208 ?_
      refine j_iload_n h 212 rfl rfl dX11_doLine_211 ?_
      refine j_iconst h 213 rfl (nI 4) (by decide) dX11_doLine_212 ?_
      refine j_iaddN h 214 rfl dX11_doLine_213 ?_
      refine j_iald h 215 rfl sh_100 _ rfl (by omega) rfl dX11_doLine_214 ?_
      refine j_top ((mu_a (by decide)).trans ((mu_a (by decide)).trans ((mu_a (by decide)).trans (hv 3 o3.1)))) ?_
      refine j_putI h 218 rfl plX11_47 sh_93 rfl rfl rfl rfl dX11_doLine_215 ?_
      refine j_goto h 228 dX11_doLine_218 (by decide) ?_
      exact j_vret h hr dX11_doLine_228 ⟨rfl, by first | exact hM9 | (rw [show (4 : Nat) = i by omega]; rfl) | (obtain rfl : i = 4 := (by omega); rfl) | rfl⟩
    | n9 + 5, ht9 => cases ht9
  · have h5 : 5 ≤ k := by
      refine Nat.le_of_not_lt (fun z => c_24 ⟨?_, ?_⟩)
      · exact (nI_leI (by decide) (by omega)).mpr (Nat.zero_le k)
      · exact (nI_ltI (by omega) (by decide)).mpr (by simpa using z)
    refine j_aload_n h 222 rfl rfl dX11_doLine_221 ?_
    refine j_iload_n h 223 rfl rfl dX11_doLine_222 ?_
    refine j_iload_n h 224 rfl rfl dX11_doLine_223 ?_
    refine j_iload_n h 225 rfl rfl dX11_doLine_224 ?_
    have hy9 : ¬ k = 9 → M 100 (w + 2) = nI (v.getD 1 0) := fun z => by
      have q : 1 < v.length := by
        rcases (by omega : k = 5 ∨ k = 6 ∨ k = 7 ∨ k = 8) with rfl | rfl | rfl | rfl
        · exact (okL_i hok (i := 1) (n := 3) (by decide) (by decide +kernel) (by decide +kernel)).1
        · exact (okL_i hok (i := 1) (n := 23) (by decide) (by decide +kernel) (by decide +kernel)).1
        · exact (okL_i hok (i := 1) (n := 23) (by decide) (by decide +kernel) (by decide +kernel)).1
        · exact (okL_i hok (i := 1) (n := 23) (by decide) (by decide +kernel) (by decide +kernel)).1
      exact hv 1 q
    refine j_callVV h 228 rfl lkX11_210 sh_93 rfl rfl (t_X11_doHours _ _ (by omega) k v hk hok ek hv h5 _ hy9) rfl rfl rfl dX11_doLine_225 (fun M9 hM9 => ?_)
    exact j_vret h hr dX11_doLine_228 ⟨rfl, by first | exact hM9 | (rw [show (4 : Nat) = i by omega]; rfl) | (obtain rfl : i = 4 := (by omega); rfl) | rfl⟩
/-- the model's week -/
def wkN (M : hM) (L : Nat) (y : Int32) (M2 : hM) : Prop := ((∃ f, (prS (M 99) L 8 0).1 = some f) ∧ y = -4 ∧ frR M M2) ∨ ((prS (M 99) L 8 0).1 = none ∧ y = nI (prS (M 99) L 8 0).2.length ∧ ∃ M9, frR M M9 ∧ M2 = mu (dlS (prS (M 99) L 8 0).2 M9 (prS (M 99) L 8 0).2.length) 93 15 (nI 0))
set_option maxRecDepth 100000 in
set_option maxHeartbeats 4000000 in
theorem t_X11_week (M : hM) (L : Nat) (hL : L ≤ 200) (eL : M 93 15 = nI L) : Ct 7 mX11_week [.ref 93] M (pX (wkN M L)) := by
  refine ct_of (lv := [some (.ref 93), none]) (by decide +kernel) (fun _ _ hq => hq) rfl (fun _ => Nat.le_of_ble_eq_true rfl) (fun X h hr => ?_)
  refine j_aload_n h 1 rfl rfl dX11_week_0 ?_
  refine j_callVX h 4 rfl lkX11_207 sh_93 rfl rfl (t_X11_isRead _ L hL eL) rfl rfl rfl dX11_week_1 (fun x9 M9 hM9 => ?_)
  refine j_top hM9.1 ?_
  refine j_if_neB h 10 7 dX11_week_4 (by decide) rfl (fun c_4 => ?_) (fun c_4 => ?_)
  · obtain ⟨hl8, h23, hln⟩ := hM9.2.2.2 c_4
    have hok := prS_ok 8 0 c_4
    have hwn : wkN M L (nI (prS (M 99) L 8 0).2.length) (mu (dlS (prS (M 99) L 8 0).2 M9 (prS (M 99) L 8 0).2.length) 93 15 (nI 0)) := Or.inr ⟨c_4, rfl, M9, hM9.2.1, rfl⟩
    generalize (prS (M 99) L 8 0).2 = ls at hl8 h23 hln hok hwn
    refine j_iconst h 11 rfl (nI 0) (by decide) dX11_week_10 ?_
    refine j_istore_n h 12 rfl rfl dX11_week_11 ?_
    have L1 : ∀ (n i : Nat), ls.length - i < n → i ≤ ls.length → J X 12 [some (.ref 93), some (.int (nI i))] [] (dlS ls M9 i) := by
      intro n
      induction n with
      | zero => intro i h1; omega
      | succ n ih =>
        intro i h1 h2
        refine j_iload_n h 13 rfl rfl dX11_week_12 ?_
        refine j_aload_n h 14 rfl rfl dX11_week_13 ?_
        refine j_getI h 17 rfl glX11_201 sh_93 rfl dX11_week_14 ?_
        refine j_top ((dlS_j (by decide) i).trans h23) ?_
        refine j_icmp_geN h 34 20 (by omega) (by omega) dX11_week_17 (by decide) rfl (fun c_17 => ?_) (fun c_17 => ?_)
        · skip
          refine j_aload_n h 35 rfl rfl dX11_week_34 ?_
          refine j_iconst h 36 rfl (nI 0) (by decide) dX11_week_35 ?_
          refine j_putI h 39 rfl plX11_131 sh_93 rfl rfl rfl rfl dX11_week_36 ?_
          refine j_aload_n h 40 rfl rfl dX11_week_39 ?_
          refine j_getI h 43 rfl glX11_201 sh_93 rfl dX11_week_40 ?_
          refine j_top ((mu_k (by decide)).trans ((dlS_j (by decide) i).trans h23)) ?_
          exact j_ret h hr rfl dX11_week_43 ⟨_, rfl, by rw [show i = ls.length by omega]; exact hwn⟩
        · skip
          refine j_aload_n h 21 rfl rfl dX11_week_20 ?_
          refine j_bipush h 23 rfl (nI 6) (by decide) dX11_week_21 ?_
          refine j_iload_n h 24 rfl rfl dX11_week_23 ?_
          refine j_imulN h 25 rfl dX11_week_24 ?_
          refine j_callVV h 28 rfl lkX11_218 sh_93 rfl rfl (t_X11_doLine _ _ (by omega) (ls.getD i (0, [])).1 (ls.getD i (0, [])).2 (hok i (by omega)).1 (hok i (by omega)).2 (by rw [dlS_f (by decide)]; exact (hln i (by omega)).1) (fun j hj => by rw [dlS_f (by decide)]; exact (hln i (by omega)).2 j hj)) rfl rfl rfl dX11_week_25 (fun M8 hM8 => ?_)
          subst hM8
          refine j_iincN h 31 rfl rfl rfl dX11_week_28 ?_
          refine j_goto h 12 dX11_week_31 (by decide) ?_
          exact ih (i + 1) (by omega) (by omega)
    exact L1 (ls.length + 1) 0 (by omega) (by omega)
  · obtain ⟨f, hf⟩ : ∃ f, (prS (M 99) L 8 0).1 = some f := by
      cases q : (prS (M 99) L 8 0).1 with
      | none => exact absurd q c_4
      | some f => exact ⟨f, rfl⟩
    refine j_bipush h 9 rfl (-4) (by decide) dX11_week_7 ?_
    exact j_ret h hr rfl dX11_week_9 ⟨_, rfl, Or.inl ⟨⟨f, hf⟩, rfl, hM9.2.1⟩⟩
