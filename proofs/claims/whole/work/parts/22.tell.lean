/-! House.tell -/
def bdN (k i : Nat) : Nat := (bdI k i).toNatClampNeg
def okL (k : Nat) (v : List Nat) : Prop := (∀ i, i < 5 → ¬ bdI k i = -1 → i < v.length ∧ v.getD i 0 ≤ bdN k i) ∧ (k = 1 → ¬ v.getD 0 0 = v.getD 1 0)
theorem bd_end : ∀ k, k < 10 → ∀ i, i < 5 → bdI k i = -1 → ∀ j, j < 5 → i ≤ j → bdI k j = -1 := by decide +kernel
theorem bd_nI : ∀ k, k < 10 → ∀ i, i < 5 → ¬ bdI k i = -1 → bdI k i = nI (bdN k i) ∧ bdN k i ≤ 600 := by decide +kernel
theorem rdN_ok {b : Nat → Int32} {L k : Nat} (hk : k < 10) : ∀ n i p f0, i + n = 5 → (rdN b L k n i p f0).1 = true → ∀ j, j < n → ¬ bdI k (i + j) = -1 → j < (rdN b L k n i p f0).2.2.length ∧ (rdN b L k n i p f0).2.2.getD j 0 ≤ bdN k (i + j)
  | 0, _, _, _, _, _, j, hj, _ => absurd hj (Nat.not_lt_zero j)
  | n + 1, i, p, f0, hn, h1, j, hj, hb => by
    have hb0 : ¬ bdI k i = -1 := fun z => hb (bd_end k hk i (by omega) z (i + j) (by omega) (by omega))
    rw [rdN, if_neg hb0] at h1 ⊢
    by_cases q : inP (nuI b (skB b L p) (tkE b L (skB b L p))) (nI 0) (bdI k i) ∧ ¬ (k = 1 ∧ i = 1 ∧ nuI b (skB b L p) (tkE b L (skB b L p)) = nI f0)
    · rw [if_pos q] at h1 ⊢
      obtain ⟨e1, e2⟩ := bd_nI k hk i (by omega) hb0
      have hv := (nat_of_in e2 e1 q.1).2
      match j, hj, hb with
      | 0, _, _ => exact ⟨Nat.succ_pos _, hv⟩
      | j + 1, hj, hb =>
        have ih := rdN_ok hk n (i + 1) _ _ (by omega) h1 j (by omega) (by rw [show i + 1 + j = i + (j + 1) by omega]; exact hb)
        rw [show i + 1 + j = i + (j + 1) by omega] at ih
        exact ⟨Nat.succ_lt_succ ih.1, ih.2⟩
    · rw [if_neg q] at h1; cases h1
theorem rdN_door {b : Nat → Int32} {L p : Nat} (h : (rdN b L 1 5 0 p 0).1 = true) : ¬ (rdN b L 1 5 0 p 0).2.2.getD 0 0 = (rdN b L 1 5 0 p 0).2.2.getD 1 0 := by
  have hb0 : ¬ bdI 1 0 = -1 := by decide +kernel
  have hb1 : ¬ bdI 1 1 = -1 := by decide +kernel
  rw [rdN, if_neg hb0] at h ⊢
  by_cases q : inP (nuI b (skB b L p) (tkE b L (skB b L p))) (nI 0) (bdI 1 0) ∧ ¬ (1 = 1 ∧ 0 = 1 ∧ nuI b (skB b L p) (tkE b L (skB b L p)) = nI 0)
  · rw [if_pos q] at h ⊢
    simp only [if_true] at h ⊢
    generalize tkE b L (skB b L p) = p2 at *
    generalize (nuI b (skB b L p) p2).toNatClampNeg = v0 at *
    rw [rdN, if_neg hb1] at h ⊢
    by_cases q2 : inP (nuI b (skB b L p2) (tkE b L (skB b L p2))) (nI 0) (bdI 1 (0 + 1)) ∧ ¬ (1 = 1 ∧ 0 + 1 = 1 ∧ nuI b (skB b L p2) (tkE b L (skB b L p2)) = nI v0)
    · rw [if_pos q2] at h ⊢
      obtain ⟨e1, e2⟩ := bd_nI 1 (by decide) 1 (by decide) hb1
      have hv := (nat_of_in e2 e1 q2.1).1
      intro z
      have z : v0 = (nuI b (skB b L p2) (tkE b L (skB b L p2))).toNatClampNeg := z
      exact q2.2 ⟨rfl, rfl, by rw [z]; exact hv⟩
    · rw [if_neg q2] at h; cases h
  · rw [if_neg q] at h; cases h
theorem prS_ok {b : Nat → Int32} {L : Nat} : ∀ n p, (prS b L n p).1 = none → ∀ i, i < (prS b L n p).2.length → ((prS b L n p).2.getD i (0, [])).1 < 10 ∧ okL ((prS b L n p).2.getD i (0, [])).1 ((prS b L n p).2.getD i (0, [])).2
  | 0, p, h, _, _ => by cases h
  | n + 1, p, h, i, hi => by
    rw [prS] at h hi ⊢
    by_cases q1 : wK b L p = 10
    · rw [if_pos q1] at h; cases h
    · rw [if_neg q1] at h hi ⊢
      by_cases q2 : (wR b L p).1 = false
      · rw [if_pos q2] at h; cases h
      · rw [if_neg q2] at h hi ⊢
        have hk : wK b L p < 10 := by
          have := (frs_le (f := mtB b (skB b L p) (wT b L p)) 10 0).2.1
          unfold wK kdS at q1 ⊢; omega
        have hr : (wR b L p).1 = true := by cases e : (wR b L p).1 <;> simp_all
        have hok : okL (wK b L p) (wR b L p).2.2 := by
          refine ⟨fun j hj hb => ?_, fun h1 => ?_⟩
          · have := rdN_ok hk 5 0 (wT b L p) 0 rfl hr j hj (by rw [Nat.zero_add]; exact hb)
            rw [Nat.zero_add] at this
            exact this
          · unfold wR at hr ⊢; rw [h1] at hr ⊢; exact rdN_door hr
        by_cases q3 : wQ b L p = L
        · rw [if_pos q3] at hi ⊢
          have hi0 : i = 0 := by have : i < 1 := hi
                                 omega
          subst hi0
          exact ⟨hk, hok⟩
        · rw [if_neg q3] at h hi ⊢
          by_cases q4 : ¬ b (wQ b L p) = nI 59
          · rw [if_pos q4] at h; cases h
          · rw [if_neg q4] at h hi ⊢
            match i, hi with
            | 0, _ => exact ⟨hk, hok⟩
            | i + 1, hi => exact prS_ok n _ h i (Nat.lt_of_succ_lt_succ hi)
/-- a line told, over the class's cells -/
def tlM (v : List Nat) (M : hM) : Nat → hM
  | 0 => mu (mu (mu (mu (mu M 15 (v.getD 0 0) (nI 1)) 16 (v.getD 0 0) (nI (v.getD 1 0))) 17 (v.getD 0 0) (nI (v.getD 2 0))) 18 (v.getD 0 0) (nI (v.getD 3 0))) 19 (v.getD 0 0) (nI (v.getD 4 0))
  | 1 => mu (mu M (24 + v.getD 0 0) (v.getD 1 0) (nI (v.getD 2 0))) (24 + v.getD 1 0) (v.getD 0 0) (nI (v.getD 2 0))
  | 2 => mu (mu (mu M 14 10 (nI (v.getD 0 0))) 14 11 (nI (v.getD 1 0))) 14 12 (nI (v.getD 2 0))
  | 3 => mu M 14 13 (nI (v.getD 0 0))
  | 4 => mu (mu (mu (mu M 14 14 (nI (v.getD 0 0))) 14 15 (nI (v.getD 1 0))) 14 16 (nI (v.getD 2 0))) 14 17 (nI (v.getD 3 0))
  | 5 => mu M 20 (v.getD 0 0) (nI (v.getD 1 0))
  | 6 => mu M 21 (v.getD 0 0) (hHrs (v.getD 1 0) (v.getD 2 0))
  | 7 => mu M 22 (v.getD 0 0) (hHrs (v.getD 1 0) (v.getD 2 0))
  | 8 => mu M 14 9 (if v.getD 0 0 = v.getD 1 0 then nI 16777215 else hHrs (v.getD 0 0) (v.getD 1 0))
  | _ => mu M 15 (v.getD 0 0) (nI 0)

set_option maxRecDepth 100000 in
set_option maxHeartbeats 4000000 in
theorem t_X3_tellRoom (M : hM) (v : List Nat) (line : Nat) (hli : line < 8) (hv : ∀ j, j < v.length → M (6 + line) j = nI (v.getD j 0)) (o0 : 0 < v.length ∧ v.getD 0 0 ≤ 4) (o1 : 1 < v.length) (o2 : 2 < v.length) (o3 : 3 < v.length) (o4 : 4 < v.length) : Ct 1 mX3_tellRoom [.ref 14, .ref (6 + line)] M (pV (fun M2 => M2 = tlM v M 0)) := by
  refine ct_of (lv := [some (.ref 14), some (.ref (6 + line)), none]) (by decide +kernel) (fun _ _ hq => hq) rfl (fun _ => Nat.le_of_ble_eq_true rfl) (fun X h hr => ?_)
  refine j_aload_n h 1 rfl rfl dX3_tellRoom_0 ?_
  refine j_iconst h 2 rfl (nI 0) (by decide) dX3_tellRoom_1 ?_
  refine j_iald h 3 rfl (shr_5 _ (by omega)) _ rfl (by omega) rfl dX3_tellRoom_2 ?_
  refine j_top (show _ = nI (v.getD 0 0) from by exact hv 0 o0.1) ?_
  refine j_istore_n h 4 rfl rfl dX3_tellRoom_3 ?_
  refine j_aload_n h 5 rfl rfl dX3_tellRoom_4 ?_
  refine j_getR h 8 rfl glX3_9 sh_14 rfl dX3_tellRoom_5 ?_
  refine j_iload_n h 9 rfl rfl dX3_tellRoom_8 ?_
  refine j_iconst h 10 rfl (nI 1) (by decide) dX3_tellRoom_9 ?_
  refine j_zast h 11 rfl sh_15 _ rfl (by omega) rfl (by decide) dX3_tellRoom_10 ?_
  refine j_aload_n h 12 rfl rfl dX3_tellRoom_11 ?_
  refine j_getR h 15 rfl glX3_15 sh_14 rfl dX3_tellRoom_12 ?_
  refine j_iload_n h 16 rfl rfl dX3_tellRoom_15 ?_
  refine j_aload_n h 17 rfl rfl dX3_tellRoom_16 ?_
  refine j_iconst h 18 rfl (nI 1) (by decide) dX3_tellRoom_17 ?_
  refine j_iald h 19 rfl (shr_5 _ (by omega)) _ rfl (by omega) rfl dX3_tellRoom_18 ?_
  refine j_top (show _ = nI (v.getD 1 0) from by rw [mu_a (by omega)]; exact hv 1 o1) ?_
  refine j_iast h 20 rfl sh_16 _ rfl (by omega) rfl dX3_tellRoom_19 ?_
  refine j_aload_n h 21 rfl rfl dX3_tellRoom_20 ?_
  refine j_getR h 24 rfl glX3_19 sh_14 rfl dX3_tellRoom_21 ?_
  refine j_iload_n h 25 rfl rfl dX3_tellRoom_24 ?_
  refine j_aload_n h 26 rfl rfl dX3_tellRoom_25 ?_
  refine j_iconst h 27 rfl (nI 2) (by decide) dX3_tellRoom_26 ?_
  refine j_iald h 28 rfl (shr_5 _ (by omega)) _ rfl (by omega) rfl dX3_tellRoom_27 ?_
  refine j_top (show _ = nI (v.getD 2 0) from by rw [mu_a (by omega)]; rw [mu_a (by omega)]; exact hv 2 o2) ?_
  refine j_iast h 29 rfl sh_17 _ rfl (by omega) rfl dX3_tellRoom_28 ?_
  refine j_aload_n h 30 rfl rfl dX3_tellRoom_29 ?_
  refine j_getR h 33 rfl glX3_22 sh_14 rfl dX3_tellRoom_30 ?_
  refine j_iload_n h 34 rfl rfl dX3_tellRoom_33 ?_
  refine j_aload_n h 35 rfl rfl dX3_tellRoom_34 ?_
  refine j_iconst h 36 rfl (nI 3) (by decide) dX3_tellRoom_35 ?_
  refine j_iald h 37 rfl (shr_5 _ (by omega)) _ rfl (by omega) rfl dX3_tellRoom_36 ?_
  refine j_top (show _ = nI (v.getD 3 0) from by rw [mu_a (by omega)]; rw [mu_a (by omega)]; rw [mu_a (by omega)]; exact hv 3 o3) ?_
  refine j_iast h 38 rfl sh_18 _ rfl (by omega) rfl dX3_tellRoom_37 ?_
  refine j_aload_n h 39 rfl rfl dX3_tellRoom_38 ?_
  refine j_getR h 42 rfl glX3_25 sh_14 rfl dX3_tellRoom_39 ?_
  refine j_iload_n h 43 rfl rfl dX3_tellRoom_42 ?_
  refine j_aload_n h 44 rfl rfl dX3_tellRoom_43 ?_
  refine j_iconst h 45 rfl (nI 4) (by decide) dX3_tellRoom_44 ?_
  refine j_iald h 46 rfl (shr_5 _ (by omega)) _ rfl (by omega) rfl dX3_tellRoom_45 ?_
  refine j_top (show _ = nI (v.getD 4 0) from by rw [mu_a (by omega)]; rw [mu_a (by omega)]; rw [mu_a (by omega)]; rw [mu_a (by omega)]; exact hv 4 o4) ?_
  refine j_iast h 47 rfl sh_19 _ rfl (by omega) rfl dX3_tellRoom_46 ?_
  exact j_vret h hr dX3_tellRoom_47 ⟨rfl, rfl⟩
set_option maxRecDepth 100000 in
set_option maxHeartbeats 4000000 in
theorem t_X3_tell (M : hM) (k : Nat) (v : List Nat) (line : Nat) (hli : line < 8) (hv : ∀ j, j < v.length → M (6 + line) j = nI (v.getD j 0)) (hk : k < 10) (hok : okL k v) : Ct 2 mX3_tell [.ref 14, .int (nI k), .ref (6 + line)] M (pV (fun M2 => M2 = tlM v M k)) := by
  refine ct_of (lv := [some (.ref 14), some (.int (nI k)), some (.ref (6 + line))]) (by decide +kernel) (fun _ _ hq => hq) rfl (fun _ => Nat.le_of_ble_eq_true rfl) (fun X h hr => ?_)
  refine j_iload_n h 1 rfl rfl dX3_tell_0 ?_
  refine j_tsw h 258 0 [56, 64, 97, 121, 131, 162, 176, 196, 216, 246] dX3_tell_1 (by decide) (by decide) (by decide) (by decide) (by decide) (fun i9 t9 ht9 c_1 => ?_) (fun c_1 => ?_)
  · match i9, ht9 with
    | 0, ht9 =>
      cases ht9
      obtain rfl : k = 0 := by have e := (nI_eq (show k < 2 ^ 31 by omega) (show 0 + 0 < 2 ^ 31 by decide)).mp c_1; omega
      have o0 : 0 < v.length ∧ v.getD 0 0 ≤ 4 := by have := hok.1 0 (by decide) (by decide +kernel); rw [show bdN 0 0 = 4 by decide +kernel] at this; exact this
      have o1 : 1 < v.length ∧ v.getD 1 0 ≤ 600 := by have := hok.1 1 (by decide) (by decide +kernel); rw [show bdN 0 1 = 600 by decide +kernel] at this; exact this
      have o2 : 2 < v.length ∧ v.getD 2 0 ≤ 600 := by have := hok.1 2 (by decide) (by decide +kernel); rw [show bdN 0 2 = 600 by decide +kernel] at this; exact this
      have o3 : 3 < v.length ∧ v.getD 3 0 ≤ 3 := by have := hok.1 3 (by decide) (by decide +kernel); rw [show bdN 0 3 = 3 by decide +kernel] at this; exact this
      have o4 : 4 < v.length ∧ v.getD 4 0 ≤ 9 := by have := hok.1 4 (by decide) (by decide +kernel); rw [show bdN 0 4 = 9 by decide +kernel] at this; exact this
      refine j_aload_n h 57 rfl rfl dX3_tell_56 ?_
      refine j_aload_n h 58 rfl rfl dX3_tell_57 ?_
      refine j_callVV h 61 rfl lkX3_89 sh_14 rfl rfl (t_X3_tellRoom _ v line hli hv o0 o1.1 o2.1 o3.1 o4.1) rfl rfl rfl dX3_tell_58 (fun M9 hM9 => ?_)
      subst hM9
      refine j_goto h 258 dX3_tell_61 (by decide) ?_
      exact j_vret h hr dX3_tell_258 ⟨rfl, by first | rfl | (show _ = mu M 14 9 _; rw [if_pos (by assumption)]) | (show _ = mu M 14 9 _; rw [if_neg (by assumption)])⟩
    | 1, ht9 =>
      cases ht9
      obtain rfl : k = 1 := by have e := (nI_eq (show k < 2 ^ 31 by omega) (show 0 + 1 < 2 ^ 31 by decide)).mp c_1; omega
      have o0 : 0 < v.length ∧ v.getD 0 0 ≤ 4 := by have := hok.1 0 (by decide) (by decide +kernel); rw [show bdN 1 0 = 4 by decide +kernel] at this; exact this
      have o1 : 1 < v.length ∧ v.getD 1 0 ≤ 4 := by have := hok.1 1 (by decide) (by decide +kernel); rw [show bdN 1 1 = 4 by decide +kernel] at this; exact this
      have o2 : 2 < v.length ∧ v.getD 2 0 ≤ 10 := by have := hok.1 2 (by decide) (by decide +kernel); rw [show bdN 1 2 = 10 by decide +kernel] at this; exact this
      refine j_aload_n h 65 rfl rfl dX3_tell_64 ?_
      refine j_getR h 68 rfl glX3_39 sh_14 rfl dX3_tell_65 ?_
      refine j_aload_n h 69 rfl rfl dX3_tell_68 ?_
      refine j_iconst h 70 rfl (nI 0) (by decide) dX3_tell_69 ?_
      refine j_iald h 71 rfl (shr_5 _ (by omega)) _ rfl (by omega) rfl dX3_tell_70 ?_
      refine j_top (show _ = nI (v.getD 0 0) from by exact hv 0 o0.1) ?_
      refine j_aald h 72 rfl sh_23 _ rfl (by omega) rfl dX3_tell_71 ?_
      refine j_aload_n h 73 rfl rfl dX3_tell_72 ?_
      refine j_iconst h 74 rfl (nI 1) (by decide) dX3_tell_73 ?_
      refine j_iald h 75 rfl (shr_5 _ (by omega)) _ rfl (by omega) rfl dX3_tell_74 ?_
      refine j_top (show _ = nI (v.getD 1 0) from by exact hv 1 o1.1) ?_
      refine j_aload_n h 76 rfl rfl dX3_tell_75 ?_
      refine j_iconst h 77 rfl (nI 2) (by decide) dX3_tell_76 ?_
      refine j_iald h 78 rfl (shr_5 _ (by omega)) _ rfl (by omega) rfl dX3_tell_77 ?_
      refine j_top (show _ = nI (v.getD 2 0) from by exact hv 2 o2.1) ?_
      refine j_iast h 79 rfl (shr_23 _ (by omega)) _ rfl (by omega) rfl dX3_tell_78 ?_
      refine j_aload_n h 80 rfl rfl dX3_tell_79 ?_
      refine j_getR h 83 rfl glX3_39 sh_14 rfl dX3_tell_80 ?_
      refine j_aload_n h 84 rfl rfl dX3_tell_83 ?_
      refine j_iconst h 85 rfl (nI 1) (by decide) dX3_tell_84 ?_
      refine j_iald h 86 rfl (shr_5 _ (by omega)) _ rfl (by omega) rfl dX3_tell_85 ?_
      refine j_top (show _ = nI (v.getD 1 0) from by rw [mu_a (by omega)]; exact hv 1 o1.1) ?_
      refine j_aald h 87 rfl sh_23 _ rfl (by omega) rfl dX3_tell_86 ?_
      refine j_aload_n h 88 rfl rfl dX3_tell_87 ?_
      refine j_iconst h 89 rfl (nI 0) (by decide) dX3_tell_88 ?_
      refine j_iald h 90 rfl (shr_5 _ (by omega)) _ rfl (by omega) rfl dX3_tell_89 ?_
      refine j_top (show _ = nI (v.getD 0 0) from by rw [mu_a (by omega)]; exact hv 0 o0.1) ?_
      refine j_aload_n h 91 rfl rfl dX3_tell_90 ?_
      refine j_iconst h 92 rfl (nI 2) (by decide) dX3_tell_91 ?_
      refine j_iald h 93 rfl (shr_5 _ (by omega)) _ rfl (by omega) rfl dX3_tell_92 ?_
      refine j_top (show _ = nI (v.getD 2 0) from by rw [mu_a (by omega)]; exact hv 2 o2.1) ?_
      refine j_iast h 94 rfl (shr_23 _ (by omega)) _ rfl (by omega) rfl dX3_tell_93 ?_
      refine j_goto h 258 dX3_tell_94 (by decide) ?_
      exact j_vret h hr dX3_tell_258 ⟨rfl, by first | rfl | (show _ = mu M 14 9 _; rw [if_pos (by assumption)]) | (show _ = mu M 14 9 _; rw [if_neg (by assumption)])⟩
    | 2, ht9 =>
      cases ht9
      obtain rfl : k = 2 := by have e := (nI_eq (show k < 2 ^ 31 by omega) (show 0 + 2 < 2 ^ 31 by decide)).mp c_1; omega
      have o0 : 0 < v.length ∧ v.getD 0 0 ≤ 500 := by have := hok.1 0 (by decide) (by decide +kernel); rw [show bdN 2 0 = 500 by decide +kernel] at this; exact this
      have o1 : 1 < v.length ∧ v.getD 1 0 ≤ 500 := by have := hok.1 1 (by decide) (by decide +kernel); rw [show bdN 2 1 = 500 by decide +kernel] at this; exact this
      have o2 : 2 < v.length ∧ v.getD 2 0 ≤ 50 := by have := hok.1 2 (by decide) (by decide +kernel); rw [show bdN 2 2 = 50 by decide +kernel] at this; exact this
      refine j_aload_n h 98 rfl rfl dX3_tell_97 ?_
      refine j_aload_n h 99 rfl rfl dX3_tell_98 ?_
      refine j_iconst h 100 rfl (nI 0) (by decide) dX3_tell_99 ?_
      refine j_iald h 101 rfl (shr_5 _ (by omega)) _ rfl (by omega) rfl dX3_tell_100 ?_
      refine j_top (show _ = nI (v.getD 0 0) from by exact hv 0 o0.1) ?_
      refine j_putI h 104 rfl plX3_47 sh_14 rfl rfl rfl rfl dX3_tell_101 ?_
      refine j_aload_n h 105 rfl rfl dX3_tell_104 ?_
      refine j_aload_n h 106 rfl rfl dX3_tell_105 ?_
      refine j_iconst h 107 rfl (nI 1) (by decide) dX3_tell_106 ?_
      refine j_iald h 108 rfl (shr_5 _ (by omega)) _ rfl (by omega) rfl dX3_tell_107 ?_
      refine j_top (show _ = nI (v.getD 1 0) from by rw [mu_a (by omega)]; exact hv 1 o1.1) ?_
      refine j_putI h 111 rfl plX3_50 sh_14 rfl rfl rfl rfl dX3_tell_108 ?_
      refine j_aload_n h 112 rfl rfl dX3_tell_111 ?_
      refine j_aload_n h 113 rfl rfl dX3_tell_112 ?_
      refine j_iconst h 114 rfl (nI 2) (by decide) dX3_tell_113 ?_
      refine j_iald h 115 rfl (shr_5 _ (by omega)) _ rfl (by omega) rfl dX3_tell_114 ?_
      refine j_top (show _ = nI (v.getD 2 0) from by rw [mu_a (by omega)]; rw [mu_a (by omega)]; exact hv 2 o2.1) ?_
      refine j_putI h 118 rfl plX3_53 sh_14 rfl rfl rfl rfl dX3_tell_115 ?_
      refine j_goto h 258 dX3_tell_118 (by decide) ?_
      exact j_vret h hr dX3_tell_258 ⟨rfl, by first | rfl | (show _ = mu M 14 9 _; rw [if_pos (by assumption)]) | (show _ = mu M 14 9 _; rw [if_neg (by assumption)])⟩
    | 3, ht9 =>
      cases ht9
      obtain rfl : k = 3 := by have e := (nI_eq (show k < 2 ^ 31 by omega) (show 0 + 3 < 2 ^ 31 by decide)).mp c_1; omega
      have o0 : 0 < v.length ∧ v.getD 0 0 ≤ 99 := by have := hok.1 0 (by decide) (by decide +kernel); rw [show bdN 3 0 = 99 by decide +kernel] at this; exact this
      refine j_aload_n h 122 rfl rfl dX3_tell_121 ?_
      refine j_aload_n h 123 rfl rfl dX3_tell_122 ?_
      refine j_iconst h 124 rfl (nI 0) (by decide) dX3_tell_123 ?_
      refine j_iald h 125 rfl (shr_5 _ (by omega)) _ rfl (by omega) rfl dX3_tell_124 ?_
      refine j_top (show _ = nI (v.getD 0 0) from by exact hv 0 o0.1) ?_
      refine j_putI h 128 rfl plX3_56 sh_14 rfl rfl rfl rfl dX3_tell_125 ?_
      refine j_goto h 258 dX3_tell_128 (by decide) ?_
      exact j_vret h hr dX3_tell_258 ⟨rfl, by first | rfl | (show _ = mu M 14 9 _; rw [if_pos (by assumption)]) | (show _ = mu M 14 9 _; rw [if_neg (by assumption)])⟩
    | 4, ht9 =>
      cases ht9
      obtain rfl : k = 4 := by have e := (nI_eq (show k < 2 ^ 31 by omega) (show 0 + 4 < 2 ^ 31 by decide)).mp c_1; omega
      have o0 : 0 < v.length ∧ v.getD 0 0 ≤ 40 := by have := hok.1 0 (by decide) (by decide +kernel); rw [show bdN 4 0 = 40 by decide +kernel] at this; exact this
      have o1 : 1 < v.length ∧ v.getD 1 0 ≤ 40 := by have := hok.1 1 (by decide) (by decide +kernel); rw [show bdN 4 1 = 40 by decide +kernel] at this; exact this
      have o2 : 2 < v.length ∧ v.getD 2 0 ≤ 20 := by have := hok.1 2 (by decide) (by decide +kernel); rw [show bdN 4 2 = 20 by decide +kernel] at this; exact this
      have o3 : 3 < v.length ∧ v.getD 3 0 ≤ 40 := by have := hok.1 3 (by decide) (by decide +kernel); rw [show bdN 4 3 = 40 by decide +kernel] at this; exact this
      refine j_aload_n h 132 rfl rfl dX3_tell_131 ?_
      refine j_aload_n h 133 rfl rfl dX3_tell_132 ?_
      refine j_iconst h 134 rfl (nI 0) (by decide) dX3_tell_133 ?_
      refine j_iald h 135 rfl (shr_5 _ (by omega)) _ rfl (by omega) rfl dX3_tell_134 ?_
      refine j_top (show _ = nI (v.getD 0 0) from by exact hv 0 o0.1) ?_
      refine j_putI h 138 rfl plX3_59 sh_14 rfl rfl rfl rfl dX3_tell_135 ?_
      refine j_aload_n h 139 rfl rfl dX3_tell_138 ?_
      refine j_aload_n h 140 rfl rfl dX3_tell_139 ?_
      refine j_iconst h 141 rfl (nI 1) (by decide) dX3_tell_140 ?_
      refine j_iald h 142 rfl (shr_5 _ (by omega)) _ rfl (by omega) rfl dX3_tell_141 ?_
      refine j_top (show _ = nI (v.getD 1 0) from by rw [mu_a (by omega)]; exact hv 1 o1.1) ?_
      refine j_putI h 145 rfl plX3_62 sh_14 rfl rfl rfl rfl dX3_tell_142 ?_
      refine j_aload_n h 146 rfl rfl dX3_tell_145 ?_
      refine j_aload_n h 147 rfl rfl dX3_tell_146 ?_
      refine j_iconst h 148 rfl (nI 2) (by decide) dX3_tell_147 ?_
      refine j_iald h 149 rfl (shr_5 _ (by omega)) _ rfl (by omega) rfl dX3_tell_148 ?_
      refine j_top (show _ = nI (v.getD 2 0) from by rw [mu_a (by omega)]; rw [mu_a (by omega)]; exact hv 2 o2.1) ?_
      refine j_putI h 152 rfl plX3_65 sh_14 rfl rfl rfl rfl dX3_tell_149 ?_
      refine j_aload_n h 153 rfl rfl dX3_tell_152 ?_
      refine j_aload_n h 154 rfl rfl dX3_tell_153 ?_
      refine j_iconst h 155 rfl (nI 3) (by decide) dX3_tell_154 ?_
      refine j_iald h 156 rfl (shr_5 _ (by omega)) _ rfl (by omega) rfl dX3_tell_155 ?_
      refine j_top (show _ = nI (v.getD 3 0) from by rw [mu_a (by omega)]; rw [mu_a (by omega)]; rw [mu_a (by omega)]; exact hv 3 o3.1) ?_
      refine j_putI h 159 rfl plX3_68 sh_14 rfl rfl rfl rfl dX3_tell_156 ?_
      refine j_goto h 258 dX3_tell_159 (by decide) ?_
      exact j_vret h hr dX3_tell_258 ⟨rfl, by first | rfl | (show _ = mu M 14 9 _; rw [if_pos (by assumption)]) | (show _ = mu M 14 9 _; rw [if_neg (by assumption)])⟩
    | 5, ht9 =>
      cases ht9
      obtain rfl : k = 5 := by have e := (nI_eq (show k < 2 ^ 31 by omega) (show 0 + 5 < 2 ^ 31 by decide)).mp c_1; omega
      have o0 : 0 < v.length ∧ v.getD 0 0 ≤ 4 := by have := hok.1 0 (by decide) (by decide +kernel); rw [show bdN 5 0 = 4 by decide +kernel] at this; exact this
      have o1 : 1 < v.length ∧ v.getD 1 0 ≤ 3 := by have := hok.1 1 (by decide) (by decide +kernel); rw [show bdN 5 1 = 3 by decide +kernel] at this; exact this
      refine j_aload_n h 163 rfl rfl dX3_tell_162 ?_
      refine j_getR h 166 rfl glX3_28 sh_14 rfl dX3_tell_163 ?_
      refine j_aload_n h 167 rfl rfl dX3_tell_166 ?_
      refine j_iconst h 168 rfl (nI 0) (by decide) dX3_tell_167 ?_
      refine j_iald h 169 rfl (shr_5 _ (by omega)) _ rfl (by omega) rfl dX3_tell_168 ?_
      refine j_top (show _ = nI (v.getD 0 0) from by exact hv 0 o0.1) ?_
      refine j_aload_n h 170 rfl rfl dX3_tell_169 ?_
      refine j_iconst h 171 rfl (nI 1) (by decide) dX3_tell_170 ?_
      refine j_iald h 172 rfl (shr_5 _ (by omega)) _ rfl (by omega) rfl dX3_tell_171 ?_
      refine j_top (show _ = nI (v.getD 1 0) from by exact hv 1 o1.1) ?_
      refine j_iast h 173 rfl sh_20 _ rfl (by omega) rfl dX3_tell_172 ?_
      refine j_goto h 258 dX3_tell_173 (by decide) ?_
      exact j_vret h hr dX3_tell_258 ⟨rfl, by first | rfl | (show _ = mu M 14 9 _; rw [if_pos (by assumption)]) | (show _ = mu M 14 9 _; rw [if_neg (by assumption)])⟩
    | 6, ht9 =>
      cases ht9
      obtain rfl : k = 6 := by have e := (nI_eq (show k < 2 ^ 31 by omega) (show 0 + 6 < 2 ^ 31 by decide)).mp c_1; omega
      have o0 : 0 < v.length ∧ v.getD 0 0 ≤ 4 := by have := hok.1 0 (by decide) (by decide +kernel); rw [show bdN 6 0 = 4 by decide +kernel] at this; exact this
      have o1 : 1 < v.length ∧ v.getD 1 0 ≤ 23 := by have := hok.1 1 (by decide) (by decide +kernel); rw [show bdN 6 1 = 23 by decide +kernel] at this; exact this
      have o2 : 2 < v.length ∧ v.getD 2 0 ≤ 23 := by have := hok.1 2 (by decide) (by decide +kernel); rw [show bdN 6 2 = 23 by decide +kernel] at this; exact this
      refine j_aload_n h 177 rfl rfl dX3_tell_176 ?_
      refine j_getR h 180 rfl glX3_31 sh_14 rfl dX3_tell_177 ?_
      refine j_aload_n h 181 rfl rfl dX3_tell_180 ?_
      refine j_iconst h 182 rfl (nI 0) (by decide) dX3_tell_181 ?_
      refine j_iald h 183 rfl (shr_5 _ (by omega)) _ rfl (by omega) rfl dX3_tell_182 ?_
      refine j_top (show _ = nI (v.getD 0 0) from by exact hv 0 o0.1) ?_
      refine j_aload_n h 184 rfl rfl dX3_tell_183 ?_
      refine j_iconst h 185 rfl (nI 1) (by decide) dX3_tell_184 ?_
      refine j_iald h 186 rfl (shr_5 _ (by omega)) _ rfl (by omega) rfl dX3_tell_185 ?_
      refine j_top (show _ = nI (v.getD 1 0) from by exact hv 1 o1.1) ?_
      refine j_aload_n h 187 rfl rfl dX3_tell_186 ?_
      refine j_iconst h 188 rfl (nI 2) (by decide) dX3_tell_187 ?_
      refine j_iald h 189 rfl (shr_5 _ (by omega)) _ rfl (by omega) rfl dX3_tell_188 ?_
      refine j_top (show _ = nI (v.getD 2 0) from by exact hv 2 o2.1) ?_
      refine j_callNI h 192 rfl lkX3_93 rfl (t_X10_hoursFrom _ _ _ (by omega) (by omega)) rfl rfl rfl dX3_tell_189 ?_
      refine j_iast h 193 rfl sh_21 _ rfl (by omega) rfl dX3_tell_192 ?_
      refine j_goto h 258 dX3_tell_193 (by decide) ?_
      exact j_vret h hr dX3_tell_258 ⟨rfl, by first | rfl | (show _ = mu M 14 9 _; rw [if_pos (by assumption)]) | (show _ = mu M 14 9 _; rw [if_neg (by assumption)])⟩
    | 7, ht9 =>
      cases ht9
      obtain rfl : k = 7 := by have e := (nI_eq (show k < 2 ^ 31 by omega) (show 0 + 7 < 2 ^ 31 by decide)).mp c_1; omega
      have o0 : 0 < v.length ∧ v.getD 0 0 ≤ 4 := by have := hok.1 0 (by decide) (by decide +kernel); rw [show bdN 7 0 = 4 by decide +kernel] at this; exact this
      have o1 : 1 < v.length ∧ v.getD 1 0 ≤ 23 := by have := hok.1 1 (by decide) (by decide +kernel); rw [show bdN 7 1 = 23 by decide +kernel] at this; exact this
      have o2 : 2 < v.length ∧ v.getD 2 0 ≤ 23 := by have := hok.1 2 (by decide) (by decide +kernel); rw [show bdN 7 2 = 23 by decide +kernel] at this; exact this
      refine j_aload_n h 197 rfl rfl dX3_tell_196 ?_
      refine j_getR h 200 rfl glX3_34 sh_14 rfl dX3_tell_197 ?_
      refine j_aload_n h 201 rfl rfl dX3_tell_200 ?_
      refine j_iconst h 202 rfl (nI 0) (by decide) dX3_tell_201 ?_
      refine j_iald h 203 rfl (shr_5 _ (by omega)) _ rfl (by omega) rfl dX3_tell_202 ?_
      refine j_top (show _ = nI (v.getD 0 0) from by exact hv 0 o0.1) ?_
      refine j_aload_n h 204 rfl rfl dX3_tell_203 ?_
      refine j_iconst h 205 rfl (nI 1) (by decide) dX3_tell_204 ?_
      refine j_iald h 206 rfl (shr_5 _ (by omega)) _ rfl (by omega) rfl dX3_tell_205 ?_
      refine j_top (show _ = nI (v.getD 1 0) from by exact hv 1 o1.1) ?_
      refine j_aload_n h 207 rfl rfl dX3_tell_206 ?_
      refine j_iconst h 208 rfl (nI 2) (by decide) dX3_tell_207 ?_
      refine j_iald h 209 rfl (shr_5 _ (by omega)) _ rfl (by omega) rfl dX3_tell_208 ?_
      refine j_top (show _ = nI (v.getD 2 0) from by exact hv 2 o2.1) ?_
      refine j_callNI h 212 rfl lkX3_93 rfl (t_X10_hoursFrom _ _ _ (by omega) (by omega)) rfl rfl rfl dX3_tell_209 ?_
      refine j_iast h 213 rfl sh_22 _ rfl (by omega) rfl dX3_tell_212 ?_
      refine j_goto h 258 dX3_tell_213 (by decide) ?_
      exact j_vret h hr dX3_tell_258 ⟨rfl, by first | rfl | (show _ = mu M 14 9 _; rw [if_pos (by assumption)]) | (show _ = mu M 14 9 _; rw [if_neg (by assumption)])⟩
    | 8, ht9 =>
      cases ht9
      obtain rfl : k = 8 := by have e := (nI_eq (show k < 2 ^ 31 by omega) (show 0 + 8 < 2 ^ 31 by decide)).mp c_1; omega
      have o0 : 0 < v.length ∧ v.getD 0 0 ≤ 23 := by have := hok.1 0 (by decide) (by decide +kernel); rw [show bdN 8 0 = 23 by decide +kernel] at this; exact this
      have o1 : 1 < v.length ∧ v.getD 1 0 ≤ 23 := by have := hok.1 1 (by decide) (by decide +kernel); rw [show bdN 8 1 = 23 by decide +kernel] at this; exact this
      refine j_aload_n h 217 rfl rfl dX3_tell_216 ?_
      refine j_aload_n h 218 rfl rfl dX3_tell_217 ?_
      refine j_iconst h 219 rfl (nI 0) (by decide) dX3_tell_218 ?_
      refine j_iald h 220 rfl (shr_5 _ (by omega)) _ rfl (by omega) rfl dX3_tell_219 ?_
      refine j_top (show _ = nI (v.getD 0 0) from by exact hv 0 o0.1) ?_
      refine j_aload_n h 221 rfl rfl dX3_tell_220 ?_
      refine j_iconst h 222 rfl (nI 1) (by decide) dX3_tell_221 ?_
      refine j_iald h 223 rfl (shr_5 _ (by omega)) _ rfl (by omega) rfl dX3_tell_222 ?_
      refine j_top (show _ = nI (v.getD 1 0) from by exact hv 1 o1.1) ?_
      refine j_icmp_neN h 231 226 (by omega) (by omega) dX3_tell_223 (by decide) rfl (fun c_223 => ?_) (fun c_223 => ?_)
      · skip
        refine j_aload_n h 232 rfl rfl dX3_tell_231 ?_
        refine j_iconst h 233 rfl (nI 0) (by decide) dX3_tell_232 ?_
        refine j_iald h 234 rfl (shr_5 _ (by omega)) _ rfl (by omega) rfl dX3_tell_233 ?_
        refine j_top (show _ = nI (v.getD 0 0) from by exact hv 0 o0.1) ?_
        refine j_aload_n h 235 rfl rfl dX3_tell_234 ?_
        refine j_iconst h 236 rfl (nI 1) (by decide) dX3_tell_235 ?_
        refine j_iald h 237 rfl (shr_5 _ (by omega)) _ rfl (by omega) rfl dX3_tell_236 ?_
        refine j_top (show _ = nI (v.getD 1 0) from by exact hv 1 o1.1) ?_
        refine j_callNI h 240 rfl lkX3_93 rfl (t_X10_hoursFrom _ _ _ (by omega) (by omega)) rfl rfl rfl dX3_tell_237 ?_
        refine j_putI h 243 rfl plX3_43 sh_14 rfl rfl rfl rfl dX3_tell_240 ?_
        refine j_goto h 258 dX3_tell_243 (by decide) ?_
        exact j_vret h hr dX3_tell_258 ⟨rfl, by first | rfl | (show _ = mu M 14 9 _; rw [if_pos (by assumption)]) | (show _ = mu M 14 9 _; rw [if_neg (by assumption)])⟩
      · skip
        refine j_ldc h 228 rfl (nI 16777215) cnX3_42 dX3_tell_226 ?_
        refine j_goto h 240 dX3_tell_228 (by decide) ?_
        refine j_putI h 243 rfl plX3_43 sh_14 rfl rfl rfl rfl dX3_tell_240 ?_
        refine j_goto h 258 dX3_tell_243 (by decide) ?_
        exact j_vret h hr dX3_tell_258 ⟨rfl, by first | rfl | (show _ = mu M 14 9 _; rw [if_pos (by assumption)]) | (show _ = mu M 14 9 _; rw [if_neg (by assumption)])⟩
    | 9, ht9 =>
      cases ht9
      obtain rfl : k = 9 := by have e := (nI_eq (show k < 2 ^ 31 by omega) (show 0 + 9 < 2 ^ 31 by decide)).mp c_1; omega
      have o0 : 0 < v.length ∧ v.getD 0 0 ≤ 4 := by have := hok.1 0 (by decide) (by decide +kernel); rw [show bdN 9 0 = 4 by decide +kernel] at this; exact this
      refine j_aload_n h 247 rfl rfl dX3_tell_246 ?_
      refine j_getR h 250 rfl glX3_9 sh_14 rfl dX3_tell_247 ?_
      refine j_aload_n h 251 rfl rfl dX3_tell_250 ?_
      refine j_iconst h 252 rfl (nI 0) (by decide) dX3_tell_251 ?_
      refine j_iald h 253 rfl (shr_5 _ (by omega)) _ rfl (by omega) rfl dX3_tell_252 ?_
      refine j_top (show _ = nI (v.getD 0 0) from by exact hv 0 o0.1) ?_
      refine j_iconst h 254 rfl (nI 0) (by decide) dX3_tell_253 ?_
      refine j_zast h 255 rfl sh_15 _ rfl (by omega) rfl (by decide) dX3_tell_254 ?_
      refine j_goto h 258 dX3_tell_255 (by decide) ?_
      exact j_vret h hr dX3_tell_258 ⟨rfl, by first | rfl | (show _ = mu M 14 9 _; rw [if_pos (by assumption)]) | (show _ = mu M 14 9 _; rw [if_neg (by assumption)])⟩
    | n9 + 10, ht9 => cases ht9
  · exact absurd ⟨(nI_leI (by decide) (by omega)).mpr (by omega), (nI_ltI (by omega) (by decide)).mpr (by show k < 0 + 10; omega)⟩ c_1
