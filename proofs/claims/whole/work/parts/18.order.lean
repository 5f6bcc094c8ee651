/-! Rings: the table of what is lost, the order -/
theorem flE_cg {M N : hM} {wt du : Nat → Nat} (h : flE M wt du) (h1 : N 89 = M 89) (h2 : N 90 = M 90) : flE N wt du := fun f hf => by rw [h1, h2]; exact h f hf
theorem llE_step {M : hM} {wt du : Nat → Nat} {a i : Nat} {x : Int32} (h : llE M wt du a i) (hx : sb i a → x = nI (LL wt du a (pc i) i)) : llE (mu M 91 i x) wt du a (i + 1) := fun s hs hsb => by
  by_cases e : s = i
  · subst e; rw [mu_s]; exact hx hsb
  · rw [mu_k e]; exact h s (by omega) hsb
theorem llE_skip {M : hM} {wt du : Nat → Nat} {a i : Nat} (h : llE M wt du a i) (hx : ¬ sb i a) : llE M wt du a (i + 1) := fun s hs hsb => by
  by_cases e : s = i
  · subst e; exact absurd hsb hx
  · exact h s (by omega) hsb
theorem fO_bI {wt du : Nat → Nat} {a s : Nat} (hs : s < 256) (h0 : ¬ s = 0) : bI (fO wt du a s) = nI (fO wt du a s) := by
  have h1 := (foS_ne (c := cF wt du a s) hs h0).1
  unfold bI fO
  rw [if_neg (by omega)]
/-- what is left behind k rings -/
def flS (wt du : Nat → Nat) (a : Nat) : Nat → Nat
  | 0 => a
  | k + 1 => if flS wt du a k = 0 then 0 else flS wt du a k ^^^ 2 ^ fO wt du a (flS wt du a k)
theorem flS_ok {wt du : Nat → Nat} {a : Nat} (ha : a < 256) : ∀ k, flS wt du a k < 256 ∧ sb (flS wt du a k) a
  | 0 => ⟨ha, sb_self a⟩
  | k + 1 => by
    obtain ⟨h1, h2⟩ := flS_ok (wt := wt) (du := du) ha k
    rw [flS]
    by_cases h : flS wt du a k = 0
    · rw [if_pos h]; exact ⟨by decide, Nat.zero_and a⟩
    · rw [if_neg h]
      obtain ⟨g1, g2⟩ := foS_ne (c := cF wt du a (flS wt du a k)) h1 h
      have r := (rb_rem _ h1 _ g1 g2).2.1
      have r' : flS wt du a k ^^^ 2 ^ fO wt du a (flS wt du a k) < flS wt du a k := r
      exact ⟨by omega, sb_rem h2 g2⟩
theorem flS_0 {wt du : Nat → Nat} {a k : Nat} (h : flS wt du a k = 0) : ∀ j, k ≤ j → flS wt du a j = 0 := by
  intro j hj
  induction j with
  | zero => have : k = 0 := by omega
            subst this; exact h
  | succ j ih =>
    by_cases e : k = j + 1
    · subst e; exact h
    · rw [flS, if_pos (ih (by omega))]
/-- the i-th flat that is rung -/
def rgS (wt du : Nat → Nat) (a i : Nat) : Int32 := if i < 8 ∧ ¬ flS wt du a i = 0 then nI (fO wt du a (flS wt du a i)) else -1

set_option maxRecDepth 100000 in
set_option maxHeartbeats 4000000 in
theorem t_X6_weigh (M : hM) (wt du : Nat → Nat) (hfl : flE M wt du) : Ct 4 mX6_weigh [.ref 88] M (pV (fun M2 => (∀ a, a ≠ 91 → M2 a = M a) ∧ llE M2 wt du (tsN wt 8) 256)) := by
  refine ct_of (lv := [some (.ref 88), none, none]) (by decide +kernel) (fun _ _ hq => hq) rfl (fun _ => Nat.le_of_ble_eq_true rfl) (fun X h hr => ?_)
  have ht := tsN_lt (wt := wt) 8
  refine j_aload_n h 1 rfl rfl dX6_weigh_0 ?_
  refine j_callVI h 4 rfl lkX6_21 sh_88 rfl rfl (t_X6_toldSet _ wt du hfl) rfl rfl rfl dX6_weigh_1 ?_
  refine j_istore_n h 5 rfl rfl dX6_weigh_4 ?_
  refine j_aload_n h 6 rfl rfl dX6_weigh_5 ?_
  refine j_getR h 9 rfl glX6_18 sh_88 rfl dX6_weigh_6 ?_
  refine j_iconst h 10 rfl (nI 0) (by decide) dX6_weigh_9 ?_
  refine j_iconst h 11 rfl (nI 0) (by decide) dX6_weigh_10 ?_
  refine j_iast h 12 rfl sh_91 _ rfl (by omega) rfl dX6_weigh_11 ?_
  refine j_iconst h 13 rfl (nI 1) (by decide) dX6_weigh_12 ?_
  refine j_istore_n h 14 rfl rfl dX6_weigh_13 ?_
  have L : ∀ (n i : Nat) (M2 : hM), 256 - i < n → i ≤ 256 → 1 ≤ i → (∀ a, a ≠ 91 → M2 a = M a) → llE M2 wt du (tsN wt 8) i → J X 14 [some (.ref 88), some (.int (nI (tsN wt 8))), some (.int (nI i))] [] M2 := by
    intro n
    induction n with
    | zero => intro i M2 h1; omega
    | succ n ih =>
      intro i M2 h1 h2 h0 hF hI
      have hfl2 := flE_cg hfl (hF 89 (by decide)) (hF 90 (by decide))
      refine j_iload_n h 15 rfl rfl dX6_weigh_14 ?_
      refine j_sipush h 18 rfl (nI 256) (by decide) dX6_weigh_15 ?_
      refine j_icmp_geN h 53 21 (by omega) (by omega) dX6_weigh_18 (by decide) rfl (fun c_18 => ?_) (fun c_18 => ?_)
      · skip
        exact j_vret h hr dX6_weigh_53 ⟨rfl, hF, by rw [show 256 = i by omega]; exact hI⟩
      · skip
        refine j_iload_n h 22 rfl rfl dX6_weigh_21 ?_
        refine j_iload_n h 23 rfl rfl dX6_weigh_22 ?_
        refine j_iconst h 24 rfl (-1) (by decide) dX6_weigh_23 ?_
        refine j_ixor h 25 rfl dX6_weigh_24 ?_
        refine j_iand h 26 rfl dX6_weigh_25 ?_
        refine j_if_ne h 47 29 dX6_weigh_26 (by decide) rfl (fun c_26 => ?_) (fun c_26 => ?_)
        · skip
          refine j_iincN h 50 rfl rfl rfl dX6_weigh_47 ?_
          refine j_goto h 14 dX6_weigh_50 (by decide) ?_
          first
            | exact ih (i + 1) _ (by omega) (by omega) (by omega) (fun a g => (mu_f g).trans (hF a g)) (llE_step hI (fun _ => by rw [LL_eq (by omega) (by omega)]))
            | exact ih (i + 1) _ (by omega) (by omega) (by omega) hF (llE_skip hI (fun z => c_26 ((rb_sub i (by omega) _ (by omega)).mpr z)))
        · skip
          have hsb : sb i (tsN wt 8) := (rb_sub i (by omega) _ (by omega)).mp c_26
          have fne := foS_ne (c := cF wt du (tsN wt 8) i) (show i < 256 by omega) (by omega)
          refine j_aload_n h 30 rfl rfl dX6_weigh_29 ?_
          refine j_getR h 33 rfl glX6_18 sh_88 rfl dX6_weigh_30 ?_
          refine j_iload_n h 34 rfl rfl dX6_weigh_33 ?_
          refine j_aload_n h 35 rfl rfl dX6_weigh_34 ?_
          refine j_iload_n h 36 rfl rfl dX6_weigh_35 ?_
          refine j_aload_n h 37 rfl rfl dX6_weigh_36 ?_
          refine j_iload_n h 38 rfl rfl dX6_weigh_37 ?_
          refine j_iload_n h 39 rfl rfl dX6_weigh_38 ?_
          refine j_callVI h 42 rfl lkX6_31 sh_88 rfl rfl (t_X6_firstOf _ wt du hfl2 (tsN wt 8) i (by omega) (by omega) hsb hI) rfl rfl rfl dX6_weigh_39 ?_
          refine j_top (fO_bI (by omega) (by omega)) ?_
          refine j_iload_n h 43 rfl rfl dX6_weigh_42 ?_
          refine j_callVI h 46 rfl lkX6_35 sh_88 rfl rfl (t_X6_lostBy _ wt du hfl2 (tsN wt 8) i (by omega) (by omega) hsb hI (fO wt du (tsN wt 8) i) fne.1 fne.2) rfl rfl rfl dX6_weigh_43 ?_
          refine j_iast h 47 rfl sh_91 _ rfl (by omega) rfl dX6_weigh_46 ?_
          refine j_iincN h 50 rfl rfl rfl dX6_weigh_47 ?_
          refine j_goto h 14 dX6_weigh_50 (by decide) ?_
          first
            | exact ih (i + 1) _ (by omega) (by omega) (by omega) (fun a g => (mu_f g).trans (hF a g)) (llE_step hI (fun _ => by rw [LL_eq (by omega) (by omega)]))
            | exact ih (i + 1) _ (by omega) (by omega) (by omega) hF (llE_skip hI (fun z => c_26 ((rb_sub i (by omega) _ (by omega)).mpr z)))
  exact L 256 1 _ (by omega) (by omega) (by omega) (fun a g => mu_f g) (fun s hs _ => by rw [show s = 0 by omega, mu_s]; rfl)
set_option maxRecDepth 100000 in
set_option maxHeartbeats 4000000 in
theorem t_X6_lost (M : hM) (wt du : Nat → Nat) (hfl : flE M wt du) (hll : llE M wt du (tsN wt 8) 256) : Ct 2 mX6_lost [.ref 88] M (pI (nI (LL wt du (tsN wt 8) (pc (tsN wt 8)) (tsN wt 8))) M) := by
  refine ct_of (lv := [some (.ref 88)]) (by decide +kernel) (fun _ _ hq => hq) rfl (fun _ => Nat.le_of_ble_eq_true rfl) (fun X h hr => ?_)
  have ht := tsN_lt (wt := wt) 8
  refine j_aload_n h 1 rfl rfl dX6_lost_0 ?_
  refine j_getR h 4 rfl glX6_18 sh_88 rfl dX6_lost_1 ?_
  refine j_aload_n h 5 rfl rfl dX6_lost_4 ?_
  refine j_callVI h 8 rfl lkX6_21 sh_88 rfl rfl (t_X6_toldSet _ wt du hfl) rfl rfl rfl dX6_lost_5 ?_
  refine j_iald h 9 rfl sh_91 _ rfl (by omega) rfl dX6_lost_8 ?_
  exact j_ret h hr rfl dX6_lost_9 ⟨congrArg (fun z => some (Value.int z)) (by rw [hll _ (by omega) (sb_self _)]), rfl⟩
set_option maxRecDepth 100000 in
set_option maxHeartbeats 4000000 in
theorem t_X6_flatAt (M : hM) (wt du : Nat → Nat) (hfl : flE M wt du) (hll : llE M wt du (tsN wt 8) 256) (i : Nat) (hi : i < 2 ^ 31) : Ct 4 mX6_flatAt [.ref 88, .int (nI i)] M (pI (rgS wt du (tsN wt 8) i) M) := by
  refine ct_of (lv := [some (.ref 88), some (.int (nI i)), none, none, none, none]) (by decide +kernel) (fun _ _ hq => hq) rfl (fun _ => Nat.le_of_ble_eq_true rfl) (fun X h hr => ?_)
  have ht := tsN_lt (wt := wt) 8
  refine j_aload_n h 1 rfl rfl dX6_flatAt_0 ?_
  refine j_callVI h 4 rfl lkX6_21 sh_88 rfl rfl (t_X6_toldSet _ wt du hfl) rfl rfl rfl dX6_flatAt_1 ?_
  refine j_istore_n h 5 rfl rfl dX6_flatAt_4 ?_
  refine j_iload_n h 6 rfl rfl dX6_flatAt_5 ?_
  refine j_istore_n h 7 rfl rfl dX6_flatAt_6 ?_
  refine j_iconst h 8 rfl (nI 0) (by decide) dX6_flatAt_7 ?_
  refine j_istore h 10 rfl rfl dX6_flatAt_8 ?_
  have L : ∀ (n k : Nat) (z : Option Value), 8 - k < n → k ≤ 8 → k ≤ i → J X 10 [some (.ref 88), some (.int (nI i)), some (.int (nI (tsN wt 8))), some (.int (nI (flS wt du (tsN wt 8) k))), some (.int (nI k)), z] [] M := by
    intro n
    induction n with
    | zero => intro k z h1; omega
    | succ n ih =>
      intro k z h1 h2 h3
      obtain ⟨f1, f2⟩ := flS_ok (wt := wt) (du := du) (show tsN wt 8 < 256 by omega) k
      refine j_iload h 12 rfl rfl dX6_flatAt_10 ?_
      refine j_bipush h 14 rfl (nI 8) (by decide) dX6_flatAt_12 ?_
      refine j_icmp_geN h 53 17 (by omega) (by omega) dX6_flatAt_14 (by decide) rfl (fun c_14 => ?_) (fun c_14 => ?_)
      · skip
        refine j_iconst h 54 rfl (-1) (by decide) dX6_flatAt_53 ?_
        exact j_ret h hr rfl dX6_flatAt_54 ⟨congrArg (fun z => some (Value.int z)) (by unfold rgS; rw [if_neg]; rintro ⟨z1, z2⟩; first | omega | exact z2 (flS_0 (by assumption) i (by omega))), rfl⟩
      · skip
        refine j_iload_n h 18 rfl rfl dX6_flatAt_17 ?_
        refine j_if_eqN h 53 21 (by omega) dX6_flatAt_18 (by decide) rfl (fun c_18 => ?_) (fun c_18 => ?_)
        · skip
          refine j_iconst h 54 rfl (-1) (by decide) dX6_flatAt_53 ?_
          exact j_ret h hr rfl dX6_flatAt_54 ⟨congrArg (fun z => some (Value.int z)) (by unfold rgS; rw [if_neg]; rintro ⟨z1, z2⟩; first | omega | exact z2 (flS_0 (by assumption) i (by omega))), rfl⟩
        · skip
          obtain ⟨g1, g2⟩ := foS_ne (c := cF wt du (tsN wt 8) (flS wt du (tsN wt 8) k)) f1 c_18
          refine j_aload_n h 22 rfl rfl dX6_flatAt_21 ?_
          refine j_iload_n h 23 rfl rfl dX6_flatAt_22 ?_
          refine j_iload_n h 24 rfl rfl dX6_flatAt_23 ?_
          refine j_callVI h 27 rfl lkX6_31 sh_88 rfl rfl (t_X6_firstOf _ wt du hfl (tsN wt 8) (flS wt du (tsN wt 8) k) (by omega) (by omega) f2 (fun s hs hsb => hll s (by omega) hsb)) rfl rfl rfl dX6_flatAt_24 ?_
          refine j_top (fO_bI f1 c_18) ?_
          refine j_istore h 29 rfl rfl dX6_flatAt_27 ?_
          refine j_iload h 31 rfl rfl dX6_flatAt_29 ?_
          refine j_iload_n h 32 rfl rfl dX6_flatAt_31 ?_
          refine j_icmp_neN h 38 35 (by omega) (by omega) dX6_flatAt_32 (by decide) rfl (fun c_32 => ?_) (fun c_32 => ?_)
          · skip
            refine j_iload_n h 39 rfl rfl dX6_flatAt_38 ?_
            refine j_iconst h 40 rfl (nI 1) (by decide) dX6_flatAt_39 ?_
            refine j_iload h 42 rfl rfl dX6_flatAt_40 ?_
            refine j_ishl h 43 rfl dX6_flatAt_42 ?_
            refine j_iconst h 44 rfl (-1) (by decide) dX6_flatAt_43 ?_
            refine j_ixor h 45 rfl dX6_flatAt_44 ?_
            refine j_iand h 46 rfl dX6_flatAt_45 ?_
            refine j_top (show _ = nI (flS wt du (tsN wt 8) (k + 1)) from ?_) ?_
            · rw [flS, if_neg c_18]; exact (rb_rem _ f1 _ g1 g2).1
            refine j_istore_n h 47 rfl rfl dX6_flatAt_46 ?_
            refine j_iincN h 50 rfl rfl rfl dX6_flatAt_47 ?_
            refine j_goto h 10 dX6_flatAt_50 (by decide) ?_
            exact ih (k + 1) _ (by omega) (by omega) (by omega)
          · skip
            refine j_iload h 37 rfl rfl dX6_flatAt_35 ?_
            exact j_ret h hr rfl dX6_flatAt_37 ⟨congrArg (fun z => some (Value.int z)) (by unfold rgS; rw [if_pos (And.intro (show i < 8 by omega) (by rw [← c_32]; exact c_18)), c_32]), rfl⟩
  exact L 9 0 _ (by omega) (by omega) (by omega)
