/-! the model: rings -/
theorem nI_pr (s : Nat) : nI (s + 1) + -1 = nI s := by
  rw [← rg_2, nI_sub (by omega)]; rfl
theorem dn_f {n : Nat} {x : Int32} (hn : n ≤ 1000) (hx : x = nI n + -1) (h : ¬ x < 0) : ∃ s, n = s + 1 ∧ x = nI s := by
  cases n with
  | zero => exact absurd (show x < 0 by rw [hx]; decide) h
  | succ s => exact ⟨s, rfl, by rw [hx, nI_pr]⟩
theorem dn_t {n : Nat} {x : Int32} (hn : n ≤ 1000) (hx : x = nI n + -1) (h : x < 0) : n = 0 := by
  cases n with
  | zero => rfl
  | succ s =>
    rw [hx, nI_pr, ← nI_0, nI_ltI (by omega) (by decide)] at h
    omega
theorem rb_add : ∀ s, s < 256 → ∀ f, f < 8 → s.testBit f = false → (nI s ||| (nI 1 <<< (nI f &&& 31)) = nI (s ^^^ 2 ^ f) ∧ s < s ^^^ 2 ^ f ∧ s ^^^ 2 ^ f < 256) := by decide +kernel
theorem rb_dif : ∀ s, s < 256 → ∀ a, a < 256 → s &&& a = s → (nI a &&& (nI s ^^^ -1) = nI (a ^^^ s) ∧ a ^^^ s < 256 ∧ pc s + pc (a ^^^ s) = pc a) := by decide +kernel
theorem sb_add {s a f : Nat} (h : sb s a) (hf : a.testBit f = true) (hs : s.testBit f = false) : sb (s ^^^ 2 ^ f) a := by
  apply Nat.eq_of_testBit_eq
  intro i
  rw [Nat.testBit_and, Nat.testBit_xor]
  by_cases e : f = i
  · subst e
    rw [hf, hs, Nat.testBit_two_pow_self]; rfl
  · rw [Nat.testBit_two_pow_of_ne e, Bool.xor_false]
    cases h9 : s.testBit i with
    | false => rfl
    | true => rw [sb_bit h h9]; rfl
theorem lf_bit {s a f : Nat} (h : sb s a) (hf : (a ^^^ s).testBit f = true) : a.testBit f = true ∧ s.testBit f = false := by
  rw [Nat.testBit_xor] at hf
  cases h9 : s.testBit f with
  | false => rw [h9, Bool.xor_false] at hf; exact ⟨hf, rfl⟩
  | true => rw [h9, sb_bit h h9] at hf; cases hf
/-- all that a flat more among those rung on means -/
theorem lf_all {s a f : Nat} (hs : s < 256) (ha : a < 256) (h : sb s a) (hf8 : f < 8) (hf : (a ^^^ s).testBit f = true) : nI s ||| (nI 1 <<< (nI f &&& 31)) = nI (s ^^^ 2 ^ f) ∧ s < s ^^^ 2 ^ f ∧ s ^^^ 2 ^ f < 256 ∧ sb (s ^^^ 2 ^ f) a ∧ a ^^^ (s ^^^ 2 ^ f) = (a ^^^ s) ^^^ 2 ^ f ∧ pc ((a ^^^ s) ^^^ 2 ^ f) = pc (a ^^^ s) - 1 ∧ pc s + 1 = pc a - pc (a ^^^ s) + 1 := by
  obtain ⟨b1, b2⟩ := lf_bit h hf
  obtain ⟨r1, r2, r3⟩ := rb_add s hs f hf8 b2
  obtain ⟨-, l1, l2⟩ := rb_dif s hs a ha h
  obtain ⟨-, -, q3⟩ := rb_rem (a ^^^ s) l1 f hf8 hf
  exact ⟨r1, r2, r3, sb_add h b1 b2, (Nat.xor_assoc _ _ _).symm, by omega, by omega⟩
/-- the model's table: what is lost from s on, for each s from n on -/
def rlE (M : hM) (wt du : Nat → Nat) (a n : Nat) : Prop := ∀ s, n ≤ s → s < 256 → sb s a → M 119 s = nI (LL wt du a (pc (a ^^^ s)) (a ^^^ s))
theorem rlE_step {M : hM} {wt du : Nat → Nat} {a s : Nat} {x : Int32} (h : rlE M wt du a (s + 1)) (hx : x = nI (LL wt du a (pc (a ^^^ s)) (a ^^^ s))) : rlE (mu M 119 s x) wt du a s := fun k hk h2 hsb => by
  by_cases e : k = s
  · subst e; rw [mu_s]; exact hx
  · rw [mu_k e]; exact h k (by omega) h2 hsb
theorem rlE_skip {M : hM} {wt du : Nat → Nat} {a s : Nat} (h : rlE M wt du a (s + 1)) (hx : ¬ sb s a) : rlE M wt du a s := fun k hk h2 hsb => by
  by_cases e : k = s
  · subst e; exact absurd hsb hx
  · exact h k (by omega) h2 hsb
theorem rlE_at {M : hM} {wt du : Nat → Nat} {a s f n : Nat} (h : rlE M wt du a n) (hs : s < 256) (ha : a < 256) (hsb : sb s a) (hf8 : f < 8) (hf : (a ^^^ s).testBit f = true) (hn : n ≤ s + 1) : M 119 (s ^^^ 2 ^ f) = nI (LL wt du a (pc (a ^^^ s) - 1) ((a ^^^ s) ^^^ 2 ^ f)) := by
  obtain ⟨-, r2, r3, r4, r5, r6, -⟩ := lf_all hs ha hsb hf8 hf
  rw [h (s ^^^ 2 ^ f) (by omega) r3 r4, r5, r6]
theorem cF_at {wt du : Nat → Nat} {a s f : Nat} (hs : s < 256) (ha : a < 256) (hsb : sb s a) (hf8 : f < 8) (hf : (a ^^^ s).testBit f = true) : wt f * tmS du f (pc s + 1) + LL wt du a (pc (a ^^^ s) - 1) ((a ^^^ s) ^^^ 2 ^ f) = cF wt du a (a ^^^ s) f := by
  obtain ⟨-, -, -, -, -, -, r7⟩ := lf_all hs ha hsb hf8 hf
  unfold cF
  rw [← r7]
/-- the least so far -/
def rbI (wt du : Nat → Nat) (a s f : Nat) : Int32 := if foS (cF wt du a (a ^^^ s)) (a ^^^ s) f = 8 then (if s = a then nI 0 else -1) else nI (cF wt du a (a ^^^ s) (foS (cF wt du a (a ^^^ s)) (a ^^^ s) f))
theorem rb_no {wt du : Nat → Nat} {a s f : Nat} (hf : ¬ (a ^^^ s).testBit f = true) : rbI wt du a s (f + 1) = rbI wt du a s f := by
  have e : foS (cF wt du a (a ^^^ s)) (a ^^^ s) (f + 1) = foS (cF wt du a (a ^^^ s)) (a ^^^ s) f := by rw [foS, if_neg (fun z => hf z.1)]
  unfold rbI
  rw [e]
theorem rb_new {wt du : Nat → Nat} {a s f : Nat} (hf8 : f < 8) (hf : (a ^^^ s).testBit f = true) (h : foS (cF wt du a (a ^^^ s)) (a ^^^ s) f = 8 ∨ cF wt du a (a ^^^ s) f < cF wt du a (a ^^^ s) (foS (cF wt du a (a ^^^ s)) (a ^^^ s) f)) : rbI wt du a s (f + 1) = nI (cF wt du a (a ^^^ s) f) := by
  have e : foS (cF wt du a (a ^^^ s)) (a ^^^ s) (f + 1) = f := by rw [foS, if_pos ⟨hf, h⟩]
  unfold rbI
  rw [e, if_neg (by omega)]
theorem rb_old {wt du : Nat → Nat} {a s f : Nat} (h : ¬ (foS (cF wt du a (a ^^^ s)) (a ^^^ s) f = 8 ∨ cF wt du a (a ^^^ s) f < cF wt du a (a ^^^ s) (foS (cF wt du a (a ^^^ s)) (a ^^^ s) f))) : rbI wt du a s (f + 1) = rbI wt du a s f := by
  have e : foS (cF wt du a (a ^^^ s)) (a ^^^ s) (f + 1) = foS (cF wt du a (a ^^^ s)) (a ^^^ s) f := by rw [foS, if_neg (fun z => h z.2)]
  unfold rbI
  rw [e]
theorem rb_1 {wt du : Nat → Nat} {a s f : Nat} (hs : s < 256) (ha : a < 256) (hsb : sb s a) (hw : ∀ f, f < 8 → wt f ≤ 99) (hf8 : f < 8) (hf : (a ^^^ s).testBit f = true) (h : rbI wt du a s f = -1 ∨ ¬ rbI wt du a s f ≤ nI (cF wt du a (a ^^^ s) f)) : nI (cF wt du a (a ^^^ s) f) = rbI wt du a s (f + 1) := by
  obtain ⟨-, l1, -⟩ := rb_dif s hs a ha hsb
  refine (rb_new hf8 hf ?_).symm
  rcases foS_in (c := cF wt du a (a ^^^ s)) (s := a ^^^ s) f (by omega) with z | z
  · exact Or.inl z
  · right
    have e : rbI wt du a s f = nI (cF wt du a (a ^^^ s) (foS (cF wt du a (a ^^^ s)) (a ^^^ s) f)) := by unfold rbI; rw [if_neg (by omega)]
    have g1 := cF_b (du := du) ha l1 hf8 hw hf
    have g2 := cF_b (du := du) ha l1 (by omega : foS (cF wt du a (a ^^^ s)) (a ^^^ s) f < 8) hw z.2
    rw [e] at h
    rcases h with h | h
    · exact absurd h (nI_m1 (by omega))
    · rw [nI_leI (by omega) (by omega)] at h; omega
theorem rb_2 {wt du : Nat → Nat} {a s f : Nat} (hs : s < 256) (ha : a < 256) (hsb : sb s a) (hw : ∀ f, f < 8 → wt f ≤ 99) (hf8 : f < 8) (hf : (a ^^^ s).testBit f = true) (h1 : ¬ rbI wt du a s f = -1) (h2 : rbI wt du a s f ≤ nI (cF wt du a (a ^^^ s) f)) : rbI wt du a s f = rbI wt du a s (f + 1) := by
  obtain ⟨-, l1, -⟩ := rb_dif s hs a ha hsb
  refine (rb_old ?_).symm
  rcases foS_in (c := cF wt du a (a ^^^ s)) (s := a ^^^ s) f (by omega) with z | z
  · exfalso
    refine h1 ?_
    unfold rbI
    rw [if_pos z, if_neg]
    intro e
    subst e
    rw [Nat.xor_self, Nat.zero_testBit] at hf
    cases hf
  · have e : rbI wt du a s f = nI (cF wt du a (a ^^^ s) (foS (cF wt du a (a ^^^ s)) (a ^^^ s) f)) := by unfold rbI; rw [if_neg (by omega)]
    have g1 := cF_b (du := du) ha l1 hf8 hw hf
    have g2 := cF_b (du := du) ha l1 (by omega : foS (cF wt du a (a ^^^ s)) (a ^^^ s) f < 8) hw z.2
    rw [e, nI_leI (by omega) (by omega)] at h2
    rintro (q | q)
    · omega
    · omega
theorem xor_ne {a s : Nat} (h : ¬ s = a) : ¬ a ^^^ s = 0 := fun e => h (by
  have : a ^^^ (a ^^^ s) = a ^^^ 0 := by rw [e]
  rw [← Nat.xor_assoc, Nat.xor_self, Nat.zero_xor, Nat.xor_zero] at this
  exact this)
theorem rb_8 {wt du : Nat → Nat} {a s : Nat} (hs : s < 256) (ha : a < 256) (hsb : sb s a) : rbI wt du a s 8 = nI (LL wt du a (pc (a ^^^ s)) (a ^^^ s)) := by
  obtain ⟨-, l1, -⟩ := rb_dif s hs a ha hsb
  unfold rbI
  by_cases e : s = a
  · subst e
    rw [Nat.xor_self]
    have z : foS (cF wt du s 0) 0 8 = 8 := by
      rcases foS_in (c := cF wt du s 0) (s := 0) 8 (Nat.le_refl 8) with z | z
      · exact z
      · have := z.2; rw [Nat.zero_testBit] at this; cases this
    rw [if_pos z, if_pos rfl]
    rfl
  · have h0 := xor_ne e
    have h1 := foS_ne (c := cF wt du a (a ^^^ s)) l1 h0
    rw [if_neg (by omega), LL_eq l1 h0]
    rfl
set_option maxRecDepth 100000 in
set_option maxHeartbeats 4000000 in
theorem t_X11_layRest (M : hM) (wt du : Nat → Nat) (hF : mF M wt du) (a : Nat) (ha : a < 256) : Ct 2 mX11_layRest [.ref 93, .int (nI a)] M (pV (fun M2 => (∀ b, b ≠ 119 → M2 b = M b) ∧ rlE M2 wt du a 0)) := by
  refine ct_of (lv := [some (.ref 93), some (.int (nI a)), none, none, none, none]) (by decide +kernel) (fun _ _ hq => hq) rfl (fun _ => Nat.le_of_ble_eq_true rfl) (fun X h hr => ?_)
  have hw9 : ∀ f, f < 8 → wt f ≤ 99 := fun f hf => (hF f hf).2.1
  refine j_sipush h 3 rfl (nI 255) (by decide) dX11_layRest_0 ?_
  refine j_istore_n h 4 rfl rfl dX11_layRest_3 ?_
  have L1 : ∀ (m n : Nat) (M2 : hM) (x2 : Int32) (z3 z4 z5 : Option Value), n < m → n ≤ 256 → x2 = nI n + -1 → (∀ b, b ≠ 119 → M2 b = M b) → rlE M2 wt du a n → J X 4 [some (.ref 93), some (.int (nI a)), some (.int x2), z3, z4, z5] [] M2 := by
    intro m
    induction m with
    | zero => intro n M2 x2 z3 z4 z5 h1; omega
    | succ m ih =>
      intro n M2 x2 z3 z4 z5 h1 h2 hx hfr hrl
      have hF2 : mF M2 wt du := fun f hf => by rw [hfr 117 (by decide), hfr 118 (by decide)]; exact hF f hf
      refine j_iload_n h 5 rfl rfl dX11_layRest_4 ?_
      refine j_if_lt h 113 8 dX11_layRest_5 (by decide) rfl (fun c_5 => ?_) (fun c_5 => ?_)
      · obtain rfl := dn_t (by omega) hx c_5
        exact j_vret h hr dX11_layRest_113 ⟨rfl, hfr, hrl⟩
      · obtain ⟨s, rfl, rfl⟩ := dn_f (by omega) hx c_5
        refine j_iload_n h 9 rfl rfl dX11_layRest_8 ?_
        refine j_iload_n h 10 rfl rfl dX11_layRest_9 ?_
        refine j_iconst h 11 rfl (-1) (by decide) dX11_layRest_10 ?_
        refine j_ixor h 12 rfl dX11_layRest_11 ?_
        refine j_iand h 13 rfl dX11_layRest_12 ?_
        refine j_if_ne h 107 16 dX11_layRest_13 (by decide) rfl (fun c_13 => ?_) (fun c_13 => ?_)
        · skip
          refine j_iinc h 110 rfl (-1) (by decide) rfl rfl dX11_layRest_107 ?_
          refine j_goto h 4 dX11_layRest_110 (by decide) ?_
          first
            | exact ih s _ _ _ _ _ (by omega) (by omega) rfl hfr (rlE_skip hrl (fun q => c_13 ((rb_sub s (by omega) a ha).mpr q)))
            | exact ih s _ _ _ _ _ (by omega) (by omega) rfl (fun b hb => by rw [mu_f hb]; exact hfr b hb) (rlE_step hrl (by rw [hy, show f = 8 by omega]; exact rb_8 (by omega) ha hsb))
        · have hsb : sb s a := (rb_sub s (by omega) a ha).mp c_13
          have K26 : ∀ y, y = rbI wt du a s 0 → J X 26 [some (.ref 93), some (.int (nI a)), some (.int (nI s)), z3, z4, z5] [.int y] M2 := by
            intro y hy
            refine j_istore_n h 27 rfl rfl dX11_layRest_26 ?_
            refine j_iconst h 28 rfl (nI 0) (by decide) dX11_layRest_27 ?_
            refine j_istore h 30 rfl rfl dX11_layRest_28 ?_
            have L2 : ∀ (m2 f : Nat) (y : Int32) (z5 : Option Value), 8 - f < m2 → f ≤ 8 → y = rbI wt du a s f → J X 30 [some (.ref 93), some (.int (nI a)), some (.int (nI s)), some (.int y), some (.int (nI f)), z5] [] M2 := by
              intro m2
              induction m2 with
              | zero => intro f y z5 h1; omega
              | succ m2 ih2 =>
                intro f y z5 g1 g2 hy
                refine j_iload h 32 rfl rfl dX11_layRest_30 ?_
                refine j_bipush h 34 rfl (nI 8) (by decide) dX11_layRest_32 ?_
                refine j_icmp_geN h 100 37 (by omega) (by omega) dX11_layRest_34 (by decide) rfl (fun c_34 => ?_) (fun c_34 => ?_)
                · skip
                  refine j_aload_n h 101 rfl rfl dX11_layRest_100 ?_
                  refine j_getR h 104 rfl glX11_114 sh_93 rfl dX11_layRest_101 ?_
                  refine j_iload_n h 105 rfl rfl dX11_layRest_104 ?_
                  refine j_iload_n h 106 rfl rfl dX11_layRest_105 ?_
                  refine j_iast h 107 rfl sh_119 _ rfl (by omega) rfl dX11_layRest_106 ?_
                  refine j_iinc h 110 rfl (-1) (by decide) rfl rfl dX11_layRest_107 ?_
                  refine j_goto h 4 dX11_layRest_110 (by decide) ?_
                  first
                    | exact ih s _ _ _ _ _ (by omega) (by omega) rfl hfr (rlE_skip hrl (fun q => c_13 ((rb_sub s (by omega) a ha).mpr q)))
                    | exact ih s _ _ _ _ _ (by omega) (by omega) rfl (fun b hb => by rw [mu_f hb]; exact hfr b hb) (rlE_step hrl (by rw [hy, show f = 8 by omega]; exact rb_8 (by omega) ha hsb))
                · skip
                  refine j_iload_n h 38 rfl rfl dX11_layRest_37 ?_
                  refine j_iload_n h 39 rfl rfl dX11_layRest_38 ?_
                  refine j_iconst h 40 rfl (-1) (by decide) dX11_layRest_39 ?_
                  refine j_ixor h 41 rfl dX11_layRest_40 ?_
                  refine j_iand h 42 rfl dX11_layRest_41 ?_
                  refine j_iload h 44 rfl rfl dX11_layRest_42 ?_
                  refine j_callSI h 47 rfl lkX11_127 rfl (t_X11_has _ _ _) rfl rfl rfl dX11_layRest_44 ?_
                  refine j_top (show _ = hb ((a ^^^ s).testBit f = true) by rw [(rb_dif s (by omega) a ha hsb).1]; exact hb_c (rb_bit _ (rb_dif s (by omega) a ha hsb).2.1 f (by omega))) ?_
                  refine j_if_eqB h 94 50 dX11_layRest_47 (by decide) rfl (fun c_47 => ?_) (fun c_47 => ?_)
                  · skip
                    refine j_iincN h 97 rfl rfl rfl dX11_layRest_94 ?_
                    refine j_goto h 30 dX11_layRest_97 (by decide) ?_
                    first
                      | exact ih2 (f + 1) _ _ (by omega) (by omega) (hy.trans (rb_no c_47).symm)
                      | exact ih2 (f + 1) _ _ (by omega) (by omega) hy2
                  · obtain ⟨r1, r2, r3, r4, r5, r6, r7⟩ := lf_all (by omega) ha hsb (by omega) c_47
                    refine j_aload_n h 51 rfl rfl dX11_layRest_50 ?_
                    refine j_iload h 53 rfl rfl dX11_layRest_51 ?_
                    refine j_iload_n h 54 rfl rfl dX11_layRest_53 ?_
                    refine j_callSI h 57 rfl lkX11_276 rfl (t_X11_bits _ _) rfl rfl rfl dX11_layRest_54 ?_
                    refine j_top (mb_pc s (by omega)) ?_
                    have hps := (rb_pc s (by omega)).1
                    refine j_iconst h 58 rfl (nI 1) (by decide) dX11_layRest_57 ?_
                    refine j_iaddN h 59 rfl dX11_layRest_58 ?_
                    refine j_callVI h 62 rfl lkX11_279 sh_93 rfl rfl (t_X11_lostBy _ wt du hF2 _ _ (by omega) (by omega)) rfl rfl rfl dX11_layRest_59 ?_
                    refine j_aload_n h 63 rfl rfl dX11_layRest_62 ?_
                    refine j_getR h 66 rfl glX11_114 sh_93 rfl dX11_layRest_63 ?_
                    refine j_iload_n h 67 rfl rfl dX11_layRest_66 ?_
                    refine j_iconst h 68 rfl (nI 1) (by decide) dX11_layRest_67 ?_
                    refine j_iload h 70 rfl rfl dX11_layRest_68 ?_
                    refine j_ishl h 71 rfl dX11_layRest_70 ?_
                    refine j_ior h 72 rfl dX11_layRest_71 ?_
                    refine j_top r1 ?_
                    refine j_iald h 73 rfl sh_119 _ rfl (by omega) rfl dX11_layRest_72 ?_
                    refine j_top (rlE_at hrl (by omega) ha hsb (by omega) c_47 (Nat.le_refl _)) ?_
                    refine j_iaddN h 74 rfl dX11_layRest_73 ?_
                    refine j_top (show _ = nI (cF wt du a (a ^^^ s) f) by rw [cF_at (by omega) ha hsb (by omega) c_47]) ?_
                    refine j_istore h 76 rfl rfl dX11_layRest_74 ?_
                    have K93 : ∀ y2, y2 = rbI wt du a s (f + 1) → J X 93 [some (.ref 93), some (.int (nI a)), some (.int (nI s)), some (.int y), some (.int (nI f)), some (.int (nI (cF wt du a (a ^^^ s) f)))] [.int y2] M2 := by
                      intro y2 hy2
                      refine j_istore_n h 94 rfl rfl dX11_layRest_93 ?_
                      refine j_iincN h 97 rfl rfl rfl dX11_layRest_94 ?_
                      refine j_goto h 30 dX11_layRest_97 (by decide) ?_
                      first
                        | exact ih2 (f + 1) _ _ (by omega) (by omega) (hy.trans (rb_no c_47).symm)
                        | exact ih2 (f + 1) _ _ (by omega) (by omega) hy2
                    refine j_iload_n h 77 rfl rfl dX11_layRest_76 ?_
                    refine j_iconst h 78 rfl (-1) (by decide) dX11_layRest_77 ?_
                    refine j_icmp_eq h 87 81 dX11_layRest_78 (by decide) rfl (fun c_78 => ?_) (fun c_78 => ?_)
                    · skip
                      refine j_iload h 89 rfl rfl dX11_layRest_87 ?_
                      refine j_goto h 93 dX11_layRest_89 (by decide) ?_
                      exact K93 _ (by first | exact rb_1 (by omega) ha hsb hw9 (by omega) c_47 (Or.inl (hy.symm.trans c_78)) | exact rb_1 (by omega) ha hsb hw9 (by omega) c_47 (Or.inr (fun q => c_84 (by rw [hy]; exact q))) | exact hy.trans (rb_2 (by omega) ha hsb hw9 (by omega) c_47 (fun q => c_78 (hy.trans q)) (by rw [← hy]; exact c_84)))
                    · skip
                      refine j_iload h 83 rfl rfl dX11_layRest_81 ?_
                      refine j_iload_n h 84 rfl rfl dX11_layRest_83 ?_
                      refine j_icmp_ge h 92 87 dX11_layRest_84 (by decide) rfl (fun c_84 => ?_) (fun c_84 => ?_)
                      · skip
                        refine j_iload_n h 93 rfl rfl dX11_layRest_92 ?_
                        exact K93 _ (by first | exact rb_1 (by omega) ha hsb hw9 (by omega) c_47 (Or.inl (hy.symm.trans c_78)) | exact rb_1 (by omega) ha hsb hw9 (by omega) c_47 (Or.inr (fun q => c_84 (by rw [hy]; exact q))) | exact hy.trans (rb_2 (by omega) ha hsb hw9 (by omega) c_47 (fun q => c_78 (hy.trans q)) (by rw [← hy]; exact c_84)))
                      · skip
                        refine j_iload h 89 rfl rfl dX11_layRest_87 ?_
                        refine j_goto h 93 dX11_layRest_89 (by decide) ?_
                        exact K93 _ (by first | exact rb_1 (by omega) ha hsb hw9 (by omega) c_47 (Or.inl (hy.symm.trans c_78)) | exact rb_1 (by omega) ha hsb hw9 (by omega) c_47 (Or.inr (fun q => c_84 (by rw [hy]; exact q))) | exact hy.trans (rb_2 (by omega) ha hsb hw9 (by omega) c_47 (fun q => c_78 (hy.trans q)) (by rw [← hy]; exact c_84)))
            exact L2 9 0 _ _ (by omega) (by omega) hy
          refine j_iload_n h 17 rfl rfl dX11_layRest_16 ?_
          refine j_iload_n h 18 rfl rfl dX11_layRest_17 ?_
          refine j_icmp_neN h 25 21 (by omega) (by omega) dX11_layRest_18 (by decide) rfl (fun c_18 => ?_) (fun c_18 => ?_)
          · skip
            refine j_iconst h 26 rfl (-1) (by decide) dX11_layRest_25 ?_
            exact K26 _ (by show _ = (if s = a then nI 0 else -1); first | rw [if_neg c_18] | rw [if_pos c_18])
          · skip
            refine j_iconst h 22 rfl (nI 0) (by decide) dX11_layRest_21 ?_
            refine j_goto h 26 dX11_layRest_22 (by decide) ?_
            exact K26 _ (by show _ = (if s = a then nI 0 else -1); first | rw [if_neg c_18] | rw [if_pos c_18])
  exact L1 257 256 M _ _ _ _ (by omega) (by omega) (by decide) (fun _ _ => rfl) (fun s q1 q2 _ => by omega)
/-! the order -/
theorem foS_min {c : Nat → Nat} {s : Nat} : ∀ n, n ≤ 8 → foS c s n = 8 ∨ ∀ f, f < n → s.testBit f = true → c (foS c s n) ≤ c f ∧ (f < foS c s n → c (foS c s n) < c f)
  | 0, _ => Or.inl rfl
  | n + 1, h => by
    rw [foS]
    by_cases q : s.testBit n = true ∧ (foS c s n = 8 ∨ c n < c (foS c s n))
    · rw [if_pos q]
      right
      intro f hf hb
      by_cases e : f = n
      · subst e; exact ⟨Nat.le_refl _, fun z => absurd z (Nat.lt_irrefl _)⟩
      · rcases q.2 with z | z
        · have := foS_8 n (by omega) z f (by omega); rw [this] at hb; cases hb
        · rcases foS_min (c := c) (s := s) n (by omega) with z2 | z2
          · have := foS_8 n (by omega) z2 f (by omega); rw [this] at hb; cases hb
          · have := (z2 f (by omega) hb).1; exact ⟨by omega, fun _ => by omega⟩
    · rw [if_neg q]
      rcases foS_min (c := c) (s := s) n (by omega) with z | z
      · exact Or.inl z
      · right
        intro f hf hb
        by_cases e : f = n
        · subst e
          rcases foS_in (c := c) (s := s) f (by omega) with z2 | z2
          · exact absurd ⟨hb, Or.inl z2⟩ q
          · refine ⟨Nat.le_of_not_lt (fun w => q ⟨hb, Or.inr w⟩), fun w => by omega⟩
        · exact z f (by omega) hb
theorem fO_min {wt du : Nat → Nat} {a l f : Nat} (hl : l < 256) (h0 : ¬ l = 0) (hf : f < 8) (hb : l.testBit f = true) (hc : cF wt du a l f = LL wt du a (pc l) l) (hlo : ∀ k, k < f → l.testBit k = true → ¬ cF wt du a l k = LL wt du a (pc l) l) : f = fO wt du a l := by
  have e := LL_eq (wt := wt) (du := du) (a := a) hl h0
  obtain ⟨g1, g2⟩ := foS_ne (c := cF wt du a l) hl h0
  rcases foS_min (c := cF wt du a l) (s := l) 8 (Nat.le_refl 8) with z | z
  · omega
  · obtain ⟨z1, z2⟩ := z f hf hb
    have e2 : cF wt du a l (foS (cF wt du a l) l 8) = LL wt du a (pc l) l := e.symm
    by_cases q : f < foS (cF wt du a l) l 8
    · have := z2 q; omega
    · by_cases q2 : foS (cF wt du a l) l 8 < f
      · exact absurd e2 (hlo _ q2 g2)
      · show f = foS (cF wt du a l) l 8
        omega
theorem fO_has {wt du : Nat → Nat} {a l : Nat} (hl : l < 256) (h0 : ¬ l = 0) : fO wt du a l < 8 ∧ l.testBit (fO wt du a l) = true ∧ cF wt du a l (fO wt du a l) = LL wt du a (pc l) l := by
  obtain ⟨g1, g2⟩ := foS_ne (c := cF wt du a l) hl h0
  exact ⟨g1, g2, (LL_eq hl h0).symm⟩
/-- the flat that is rung when l is left -/
def rgN (wt du : Nat → Nat) (a l : Nat) : Int32 := if l = 0 then -1 else nI (fO wt du a l)
/-- the search from behind: the first from n on, if any -/
def fdP (wt du : Nat → Nat) (a l n : Nat) (y : Int32) : Prop := (y = -1 ∧ ∀ f, n ≤ f → f < 8 → ¬ (l.testBit f = true ∧ cF wt du a l f = LL wt du a (pc l) l)) ∨ ∃ f, n ≤ f ∧ f < 8 ∧ y = nI f ∧ (l.testBit f = true ∧ cF wt du a l f = LL wt du a (pc l) l) ∧ ∀ k, n ≤ k → k < f → ¬ (l.testBit k = true ∧ cF wt du a l k = LL wt du a (pc l) l)
theorem fd_no {wt du : Nat → Nat} {a l n : Nat} {y : Int32} (h : fdP wt du a l (n + 1) y) (hq : ¬ (l.testBit n = true ∧ cF wt du a l n = LL wt du a (pc l) l)) : fdP wt du a l n y := by
  rcases h with ⟨h1, h2⟩ | ⟨f, h1, h2, h3, h4, h5⟩
  · refine Or.inl ⟨h1, fun f hf h8 => ?_⟩
    by_cases e : f = n
    · subst e; exact hq
    · exact h2 f (by omega) h8
  · refine Or.inr ⟨f, by omega, h2, h3, h4, fun k hk h8 => ?_⟩
    by_cases e : k = n
    · subst e; exact hq
    · exact h5 k (by omega) h8
theorem fd_yes {wt du : Nat → Nat} {a l n : Nat} (h8 : n < 8) (hq : l.testBit n = true ∧ cF wt du a l n = LL wt du a (pc l) l) : fdP wt du a l n (nI n) := Or.inr ⟨n, Nat.le_refl n, h8, rfl, hq, fun k h1 h2 => by omega⟩
theorem fd_end {wt du : Nat → Nat} {a l : Nat} {y : Int32} (hl : l < 256) (h : fdP wt du a l 0 y) : y = rgN wt du a l := by
  unfold rgN
  by_cases e : l = 0
  · rw [if_pos e]
    rcases h with ⟨h1, -⟩ | ⟨f, -, -, -, h4, -⟩
    · exact h1
    · have := h4.1; rw [e, Nat.zero_testBit] at this; cases this
  · rw [if_neg e]
    rcases h with ⟨-, h2⟩ | ⟨f, -, h2, h3, h4, h5⟩
    · obtain ⟨g1, g2, g3⟩ := fO_has (wt := wt) (du := du) (a := a) hl e
      exact absurd ⟨g2, g3⟩ (h2 _ (Nat.zero_le _) g1)
    · rw [h3, fO_min hl e h2 h4.1 h4.2 (fun k hk hb hc => h5 k (Nat.zero_le k) hk ⟨hb, hc⟩)]
theorem flS_pc {wt du : Nat → Nat} {a : Nat} (ha : a < 256) : ∀ k, ¬ flS wt du a k = 0 → pc (flS wt du a k) + k = pc a
  | 0, _ => rfl
  | k + 1, h => by
    obtain ⟨h1, h2⟩ := flS_ok (wt := wt) (du := du) ha k
    have h0 : ¬ flS wt du a k = 0 := fun z => h (flS_0 z (k + 1) (by omega))
    have ih := flS_pc ha k h0
    obtain ⟨g1, g2, -⟩ := fO_has (wt := wt) (du := du) (a := a) h1 h0
    have r := (rb_rem _ h1 _ g1 g2).2.2
    rw [flS, if_neg h0]
    omega
theorem flS_8 {wt du : Nat → Nat} {a k : Nat} (ha : a < 256) (hk : 8 ≤ k) : flS wt du a k = 0 := by
  have h8 : flS wt du a 8 = 0 := Decidable.not_not.mp (fun h => by
    have := flS_pc (wt := wt) (du := du) ha 8 h
    have h1 := (rb_pc _ (flS_ok (wt := wt) (du := du) ha 8).1).2
    have h2 := (rb_pc a ha).1
    exact h (h1.mp (by omega)))
  exact flS_0 h8 k hk
theorem sb_xor {l a : Nat} (h : sb l a) : sb (a ^^^ l) a := by
  apply Nat.eq_of_testBit_eq
  intro i
  rw [Nat.testBit_and, Nat.testBit_xor]
  cases h9 : l.testBit i with
  | false => cases a.testBit i <;> rfl
  | true => rw [sb_bit h h9]; rfl
theorem xor_lt : ∀ s, s < 256 → ∀ a, a < 256 → a ^^^ s < 256 := fun s hs a ha => Nat.xor_lt_two_pow (n := 8) ha hs
theorem xor_xor {a l : Nat} : a ^^^ (a ^^^ l) = l := by rw [← Nat.xor_assoc, Nat.xor_self, Nat.zero_xor]
/-- found behind k rings -/
def fnI (wt du : Nat → Nat) (a : Nat) : Nat → Int32
  | 0 => -1
  | k + 1 => rgN wt du a (flS wt du a k)
theorem fn_end {wt du : Nat → Nat} {a i k : Nat} (ha : a < 256) (hk : k = i + 1 ∨ (k = 9 ∧ 8 < i)) : fnI wt du a k = rgS wt du a i := by
  obtain ⟨j, rfl⟩ : ∃ j, k = j + 1 := ⟨k - 1, by omega⟩
  show rgN wt du a (flS wt du a j) = _
  unfold rgN rgS
  rcases hk with hk | ⟨hk, h8⟩
  · obtain rfl : j = i := by omega
    by_cases e : flS wt du a j = 0
    · rw [if_pos e, if_neg (fun z => z.2 e)]
    · rw [if_neg e, if_pos ⟨Nat.lt_of_not_le (fun w => e (flS_8 ha w)), e⟩]
  · rw [if_pos (flS_8 ha (by omega)), if_neg (fun z => by omega)]
theorem ge_nat {x : Int32} (h1 : (-1 : Int32) ≤ x) (h2 : ¬ x = -1) : ∃ k, k < 2 ^ 31 ∧ x = nI k := by
  have e1 := Int32.le_iff_toInt_le.mp h1
  have e2 : (-1 : Int32).toInt = -1 := by decide
  have e3 := Int32.toInt_lt x
  have e4 : x.toInt ≠ -1 := fun z => h2 (Int32.toInt_inj.mp (z.trans e2.symm))
  refine ⟨x.toInt.toNat, by omega, ?_⟩
  apply Int32.toInt_inj.mp
  rw [nI_toInt (by omega)]
  omega
theorem rg_s0 {wt du : Nat → Nat} {a k : Nat} {y : Int32} (hl : flS wt du a k < 256) (h : fdP wt du a (flS wt du a k) 0 y) (hy : y = -1) : nI (a ^^^ flS wt du a k) = nI (a ^^^ flS wt du a (k + 1)) := by
  have e := (fd_end hl h).symm.trans hy
  unfold rgN at e
  by_cases q : flS wt du a k = 0
  · rw [flS_0 q (k + 1) (by omega), q]
  · rw [if_neg q] at e
    have := (fO_has (wt := wt) (du := du) (a := a) hl q).1
    exact absurd e (nI_m1 (by omega))
theorem rg_s1 {wt du : Nat → Nat} {a k : Nat} {y : Int32} (ha : a < 256) (hl : flS wt du a k < 256) (hl2 : sb (flS wt du a k) a) (h : fdP wt du a (flS wt du a k) 0 y) (hy : ¬ y = -1) : nI (a ^^^ flS wt du a k) ||| (nI 1 <<< (y &&& 31)) = nI (a ^^^ flS wt du a (k + 1)) := by
  have e := fd_end hl h
  unfold rgN at e
  by_cases q : flS wt du a k = 0
  · rw [if_pos q] at e; exact absurd e hy
  · rw [if_neg q] at e
    obtain ⟨g1, g2, -⟩ := fO_has (wt := wt) (du := du) (a := a) hl q
    have g3 : (a ^^^ (a ^^^ flS wt du a k)).testBit (fO wt du a (flS wt du a k)) = true := by rw [xor_xor]; exact g2
    obtain ⟨r1, -⟩ := lf_all (xor_lt _ hl _ ha) ha (sb_xor hl2) g1 g3
    rw [e, r1, flS, if_neg q, Nat.xor_assoc]
set_option maxRecDepth 100000 in
set_option maxHeartbeats 4000000 in
theorem t_X11_ring (M : hM) (x : Int32) (wt du : Nat → Nat) (hF : mF M wt du) : Ct 3 mX11_ring [.ref 93, .int x] M (pX (fun y M2 => y = sRing wt du x ∧ frM M M2)) := by
  refine ct_of (lv := [some (.ref 93), some (.int x), none, none, none, none, none]) (by decide +kernel) (fun _ _ hq => hq) rfl (fun _ => Nat.le_of_ble_eq_true rfl) (fun X h hr => ?_)
  refine j_iload_n h 1 rfl rfl dX11_ring_0 ?_
  refine j_iconst h 2 rfl (-1) (by decide) dX11_ring_1 ?_
  refine j_icmp_ge h 8 5 dX11_ring_2 (by decide) rfl (fun c_2 => ?_) (fun c_2 => ?_)
  · skip
    refine j_aload_n h 9 rfl rfl dX11_ring_8 ?_
    refine j_callVI h 12 rfl lkX11_282 sh_93 rfl rfl (t_X11_toldFlats _ wt du hF) rfl rfl rfl dX11_ring_9 ?_
    have ha : tsN wt 8 < 256 := tsN_lt (wt := wt) 8
    generalize ha9 : tsN wt 8 = a at ha ⊢
    refine j_istore_n h 13 rfl rfl dX11_ring_12 ?_
    refine j_aload_n h 14 rfl rfl dX11_ring_13 ?_
    refine j_iload_n h 15 rfl rfl dX11_ring_14 ?_
    refine j_callVV h 18 rfl lkX11_285 sh_93 rfl rfl (t_X11_layRest _ wt du hF _ ha) rfl rfl rfl dX11_ring_15 (fun M9 hM9 => ?_)
    have hF9 : mF M9 wt du := fun f hf => by rw [hM9.1 117 (by decide), hM9.1 118 (by decide)]; exact hF f hf
    have hfr : frM M M9 := ⟨fun b hb => hM9.1 b (by omega), fun j _ => congrFun (hM9.1 93 (by decide)) j⟩
    refine j_iload_n h 19 rfl rfl dX11_ring_18 ?_
    refine j_iconst h 20 rfl (-1) (by decide) dX11_ring_19 ?_
    refine j_icmp_ne h 30 23 dX11_ring_20 (by decide) rfl (fun c_20 => ?_) (fun c_20 => ?_)
    · obtain ⟨i, hi, rfl⟩ := ge_nat c_2 c_20
      refine j_iconst h 31 rfl (nI 0) (by decide) dX11_ring_30 ?_
      refine j_istore_n h 32 rfl rfl dX11_ring_31 ?_
      refine j_iconst h 33 rfl (-1) (by decide) dX11_ring_32 ?_
      refine j_istore h 35 rfl rfl dX11_ring_33 ?_
      refine j_iconst h 36 rfl (nI 0) (by decide) dX11_ring_35 ?_
      refine j_istore h 38 rfl rfl dX11_ring_36 ?_
      have L : ∀ (n k : Nat) (y : Int32) (z : Option Value), 9 - k < n → k ≤ 9 → k ≤ i + 1 → y = fnI wt du a k → J X 38 [some (.ref 93), some (.int (nI i)), some (.int (nI a)), some (.int (nI (a ^^^ flS wt du a k))), some (.int y), some (.int (nI k)), z] [] M9 := by
        intro n
        induction n with
        | zero => intro k y z h1; omega
        | succ n ih =>
          intro k y z h1 h2 h3 hy
          obtain ⟨hl1, hl2⟩ := flS_ok (wt := wt) (du := du) ha k
          have hs := xor_lt _ hl1 _ ha
          have hsb := sb_xor hl2
          refine j_iload h 40 rfl rfl dX11_ring_38 ?_
          refine j_iload_n h 41 rfl rfl dX11_ring_40 ?_
          refine j_icmp_gtN h 145 44 (by omega) (by omega) dX11_ring_41 (by decide) rfl (fun c_41 => ?_) (fun c_41 => ?_)
          · skip
            refine j_iload h 147 rfl rfl dX11_ring_145 ?_
            exact j_ret h hr rfl dX11_ring_147 ⟨_, rfl, by unfold sRing; rw [if_neg (fun q => q c_2), if_neg c_20, ha9, tn_nI hi, hy]; exact fn_end ha (by omega), hfr⟩
          · skip
            refine j_iload h 46 rfl rfl dX11_ring_44 ?_
            refine j_bipush h 48 rfl (nI 8) (by decide) dX11_ring_46 ?_
            refine j_icmp_gtN h 145 51 (by omega) (by omega) dX11_ring_48 (by decide) rfl (fun c_48 => ?_) (fun c_48 => ?_)
            · skip
              refine j_iload h 147 rfl rfl dX11_ring_145 ?_
              exact j_ret h hr rfl dX11_ring_147 ⟨_, rfl, by unfold sRing; rw [if_neg (fun q => q c_2), if_neg c_20, ha9, tn_nI hi, hy]; exact fn_end ha (by omega), hfr⟩
            · skip
              refine j_iconst h 52 rfl (-1) (by decide) dX11_ring_51 ?_
              refine j_istore h 54 rfl rfl dX11_ring_52 ?_
              refine j_bipush h 56 rfl (nI 7) (by decide) dX11_ring_54 ?_
              refine j_istore h 58 rfl rfl dX11_ring_56 ?_
              have L2 : ∀ (n2 m : Nat) (x6 y : Int32), m < n2 → m ≤ 8 → x6 = nI m + -1 → fdP wt du a (flS wt du a k) m y → J X 58 [some (.ref 93), some (.int (nI i)), some (.int (nI a)), some (.int (nI (a ^^^ flS wt du a k))), some (.int y), some (.int (nI k)), some (.int x6)] [] M9 := by
                intro n2
                induction n2 with
                | zero => intro m x6 y g1; omega
                | succ n2 ih2 =>
                  intro m x6 y g1 g2 hx hfd
                  refine j_iload h 60 rfl rfl dX11_ring_58 ?_
                  refine j_if_lt h 122 63 dX11_ring_60 (by decide) rfl (fun c_60 => ?_) (fun c_60 => ?_)
                  · obtain rfl := dn_t (by omega) hx c_60
                    have K138 : ∀ u, u = nI (a ^^^ flS wt du a (k + 1)) → J X 138 [some (.ref 93), some (.int (nI i)), some (.int (nI a)), some (.int (nI (a ^^^ flS wt du a k))), some (.int y), some (.int (nI k)), some (.int x6)] [.int u] M9 := by
                      intro u hu
                      subst hu
                      refine j_istore_n h 139 rfl rfl dX11_ring_138 ?_
                      refine j_iincN h 142 rfl rfl rfl dX11_ring_139 ?_
                      refine j_goto h 38 dX11_ring_142 (by decide) ?_
                      exact ih (k + 1) _ _ (by omega) (by omega) (by omega) (fd_end hl1 hfd)
                    refine j_iload h 124 rfl rfl dX11_ring_122 ?_
                    refine j_iconst h 125 rfl (-1) (by decide) dX11_ring_124 ?_
                    refine j_icmp_ne h 132 128 dX11_ring_125 (by decide) rfl (fun c_125 => ?_) (fun c_125 => ?_)
                    · skip
                      refine j_iload_n h 133 rfl rfl dX11_ring_132 ?_
                      refine j_iconst h 134 rfl (nI 1) (by decide) dX11_ring_133 ?_
                      refine j_iload h 136 rfl rfl dX11_ring_134 ?_
                      refine j_ishl h 137 rfl dX11_ring_136 ?_
                      refine j_ior h 138 rfl dX11_ring_137 ?_
                      exact K138 _ (by first | exact rg_s0 hl1 hfd c_125 | exact rg_s1 ha hl1 hl2 hfd c_125)
                    · skip
                      refine j_iload_n h 129 rfl rfl dX11_ring_128 ?_
                      refine j_goto h 138 dX11_ring_129 (by decide) ?_
                      exact K138 _ (by first | exact rg_s0 hl1 hfd c_125 | exact rg_s1 ha hl1 hl2 hfd c_125)
                  · obtain ⟨f, rfl, rfl⟩ := dn_f (by omega) hx c_60
                    have K114 : ∀ y2, fdP wt du a (flS wt du a k) f y2 → J X 114 [some (.ref 93), some (.int (nI i)), some (.int (nI a)), some (.int (nI (a ^^^ flS wt du a k))), some (.int y), some (.int (nI k)), some (.int (nI f))] [.int y2] M9 := by
                      intro y2 hy2
                      refine j_istore h 116 rfl rfl dX11_ring_114 ?_
                      refine j_iinc h 119 rfl (-1) (by decide) rfl rfl dX11_ring_116 ?_
                      refine j_goto h 58 dX11_ring_119 (by decide) ?_
                      exact ih2 f _ _ (by omega) (by omega) rfl hy2
                    refine j_iload_n h 64 rfl rfl dX11_ring_63 ?_
                    refine j_iload_n h 65 rfl rfl dX11_ring_64 ?_
                    refine j_iconst h 66 rfl (-1) (by decide) dX11_ring_65 ?_
                    refine j_ixor h 67 rfl dX11_ring_66 ?_
                    refine j_iand h 68 rfl dX11_ring_67 ?_
                    refine j_iload h 70 rfl rfl dX11_ring_68 ?_
                    refine j_callSI h 73 rfl lkX11_127 rfl (t_X11_has _ _ _) rfl rfl rfl dX11_ring_70 ?_
                    refine j_top (show _ = hb ((flS wt du a k).testBit f = true) by rw [(rb_dif _ hs a ha hsb).1, xor_xor]; exact hb_c (rb_bit _ hl1 f (by omega))) ?_
                    refine j_if_eqB h 112 76 dX11_ring_73 (by decide) rfl (fun c_73 => ?_) (fun c_73 => ?_)
                    · skip
                      refine j_iload h 114 rfl rfl dX11_ring_112 ?_
                      first
                        | exact K114 _ (fd_no hfd (fun q => c_73 q.1))
                        | exact K114 _ (fd_no hfd (fun q => c_104 q.2))
                        | exact K114 _ (fd_yes (by omega) ⟨c_73, c_104⟩)
                    · have h0 : ¬ flS wt du a k = 0 := fun q => by rw [q, Nat.zero_testBit] at c_73; cases c_73
                      have c_74 : (a ^^^ (a ^^^ flS wt du a k)).testBit f = true := by rw [xor_xor]; exact c_73
                      obtain ⟨r1, r2, r3, r4, r5, r6, r7⟩ := lf_all hs ha hsb (by omega) c_74
                      have hpk := flS_pc (wt := wt) (du := du) ha k h0
                      have hpd := (rb_dif _ hs a ha hsb).2.2
                      rw [xor_xor] at hpd
                      have hcf := cF_at (wt := wt) (du := du) hs ha hsb (by omega) c_74
                      rw [show pc (a ^^^ flS wt du a k) + 1 = k + 1 by omega, xor_xor] at hcf
                      have hat := rlE_at hM9.2 hs ha hsb (by omega) c_74 (Nat.zero_le _)
                      rw [xor_xor] at hat
                      have hll := hM9.2 _ (Nat.zero_le _) hs hsb
                      rw [xor_xor] at hll
                      have hcb := cF_b (du := du) ha hl1 (by omega : f < 8) (fun f hf => (hF f hf).2.1) c_73
                      have hlb := LL_b (du := du) (a := a) ha (fun f hf => (hF f hf).2.1) _ _ hl1 rfl
                      have hp8 := (rb_pc _ hl1).1
                      refine j_aload_n h 77 rfl rfl dX11_ring_76 ?_
                      refine j_iload h 79 rfl rfl dX11_ring_77 ?_
                      refine j_iload h 81 rfl rfl dX11_ring_79 ?_
                      refine j_iconst h 82 rfl (nI 1) (by decide) dX11_ring_81 ?_
                      refine j_iaddN h 83 rfl dX11_ring_82 ?_
                      refine j_callVI h 86 rfl lkX11_279 sh_93 rfl rfl (t_X11_lostBy _ wt du hF9 _ _ (by omega) (by omega)) rfl rfl rfl dX11_ring_83 ?_
                      refine j_aload_n h 87 rfl rfl dX11_ring_86 ?_
                      refine j_getR h 90 rfl glX11_114 sh_93 rfl dX11_ring_87 ?_
                      refine j_iload_n h 91 rfl rfl dX11_ring_90 ?_
                      refine j_iconst h 92 rfl (nI 1) (by decide) dX11_ring_91 ?_
                      refine j_iload h 94 rfl rfl dX11_ring_92 ?_
                      refine j_ishl h 95 rfl dX11_ring_94 ?_
                      refine j_ior h 96 rfl dX11_ring_95 ?_
                      refine j_top r1 ?_
                      refine j_iald h 97 rfl sh_119 _ rfl (by omega) rfl dX11_ring_96 ?_
                      refine j_top hat ?_
                      refine j_iaddN h 98 rfl dX11_ring_97 ?_
                      refine j_top (show _ = nI (cF wt du a (flS wt du a k) f) by rw [hcf]) ?_
                      refine j_aload_n h 99 rfl rfl dX11_ring_98 ?_
                      refine j_getR h 102 rfl glX11_114 sh_93 rfl dX11_ring_99 ?_
                      refine j_iload_n h 103 rfl rfl dX11_ring_102 ?_
                      refine j_iald h 104 rfl sh_119 _ rfl (by omega) rfl dX11_ring_103 ?_
                      refine j_top hll ?_
                      refine j_icmp_neN h 112 107 (by omega) (by omega) dX11_ring_104 (by decide) rfl (fun c_104 => ?_) (fun c_104 => ?_)
                      · skip
                        refine j_iload h 114 rfl rfl dX11_ring_112 ?_
                        first
                          | exact K114 _ (fd_no hfd (fun q => c_73 q.1))
                          | exact K114 _ (fd_no hfd (fun q => c_104 q.2))
                          | exact K114 _ (fd_yes (by omega) ⟨c_73, c_104⟩)
                      · skip
                        refine j_iload h 109 rfl rfl dX11_ring_107 ?_
                        refine j_goto h 114 dX11_ring_109 (by decide) ?_
                        first
                          | exact K114 _ (fd_no hfd (fun q => c_73 q.1))
                          | exact K114 _ (fd_no hfd (fun q => c_104 q.2))
                          | exact K114 _ (fd_yes (by omega) ⟨c_73, c_104⟩)
              exact L2 9 8 _ _ (by omega) (by omega) (by decide) (Or.inl ⟨rfl, fun f q1 q2 => by omega⟩)
      have q9 := L 10 0 _ none (by omega) (by omega) (by omega) rfl
      rw [show a ^^^ flS wt du a 0 = 0 from Nat.xor_self a] at q9
      exact q9
    · skip
      refine j_aload_n h 24 rfl rfl dX11_ring_23 ?_
      refine j_getR h 27 rfl glX11_114 sh_93 rfl dX11_ring_24 ?_
      refine j_iconst h 28 rfl (nI 0) (by decide) dX11_ring_27 ?_
      refine j_iald h 29 rfl sh_119 _ rfl (by omega) rfl dX11_ring_28 ?_
      refine j_top (hM9.2 0 (by omega) (by decide) (Nat.zero_and a)) ?_
      exact j_ret h hr rfl dX11_ring_29 ⟨_, rfl, by unfold sRing; rw [if_neg (fun q => q c_2), if_pos c_20, ha9, Nat.xor_zero], hfr⟩
  · skip
    refine j_bipush h 7 rfl (-3) (by decide) dX11_ring_5 ?_
    exact j_ret h hr rfl dX11_ring_7 ⟨_, rfl, by unfold sRing; rw [if_pos c_2], frM_r⟩
