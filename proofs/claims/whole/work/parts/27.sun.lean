/-! the model: a week by rows of air and wall -/
def msS (M : hM) (r n : Nat) : Nat → Int32
  | 0 => sunC (M 93 9) (M 94 (4 * r + 2)) (M 97 r) n
  | k + 1 => if bitP (M 93 32) (nI k) ∧ M 110 k = nI r then snO (msS M r n k) (M 112 k) else msS M r n k
def mlO (v : Int32) : Int32 := if v < 0 then nI 0 else v
def mlS (M : hM) (r : Nat) : Nat → Int32
  | 0 => M 93 12
  | k + 1 => if bitP (M 93 32) (nI k) ∧ M 110 k = nI r then mlO (mlS M r k - M 113 k) else mlO (mlS M r k)
theorem msS_t {M : hM} {r n k : Nat} (h1 : bitP (M 93 32) (nI k)) (h2 : M 110 k = nI r) : msS M r n k * (nI 100 - M 112 k) / nI 100 = msS M r n (k + 1) := by rw [msS, if_pos ⟨h1, h2⟩]; rfl
theorem msS_f {M : hM} {r n k : Nat} (h : ¬ bitP (M 93 32) (nI k) ∨ ¬ M 110 k = nI r) : msS M r n k = msS M r n (k + 1) := by rw [msS, if_neg (fun z => h.elim (fun w => w z.1) (fun w => w z.2))]
theorem mlS_t {M : hM} {r k : Nat} (h1 : bitP (M 93 32) (nI k)) (h2 : M 110 k = nI r) : mlO (mlS M r k - M 113 k) = mlS M r (k + 1) := by rw [mlS, if_pos ⟨h1, h2⟩]
theorem mlS_f {M : hM} {r k : Nat} (h : ¬ bitP (M 93 32) (nI k) ∨ ¬ M 110 k = nI r) : mlO (mlS M r k) = mlS M r (k + 1) := by rw [mlS, if_neg (fun z => h.elim (fun w => w z.1) (fun w => w z.2))]
theorem mlO_t {v : Int32} (h : v < 0) : nI 0 = mlO v := (if_pos h).symm
theorem mlO_f {v : Int32} (h : ¬ v < 0) : v = mlO v := (if_neg h).symm
theorem dv0 : (nI 0 : Int32) / nI 4 = nI 0 := by decide
theorem nlt {a b : Int32} (h : b ≤ a) : ¬ a < b := Int32.not_lt.mpr h

set_option maxRecDepth 100000 in
set_option maxHeartbeats 4000000 in
theorem t_X11_sunAt (M : hM) (r n : Nat) (hr5 : r < 5) (hn : n < 24) (w : Nat) (hw : w ≤ 6) (ew : M 93 35 = nI w) : Ct 2 mX11_sunAt [.ref 93, .int (nI r), .int (nI n)] M (pI (msS M r n w) M) := by
  refine ct_of (lv := [some (.ref 93), some (.int (nI r)), some (.int (nI n)), none, none, none, none]) (by decide +kernel) (fun _ _ hq => hq) rfl (fun _ => Nat.le_of_ble_eq_true rfl) (fun X h hr => ?_)
  refine j_aload_n h 1 rfl rfl dX11_sunAt_0 ?_
  refine j_getR h 4 rfl glX11_7 sh_93 rfl dX11_sunAt_1 ?_
  refine j_iconst h 5 rfl (nI 4) (by decide) dX11_sunAt_4 ?_
  refine j_iload_n h 6 rfl rfl dX11_sunAt_5 ?_
  refine j_imulN h 7 rfl dX11_sunAt_6 ?_
  refine j_iconst h 8 rfl (nI 2) (by decide) dX11_sunAt_7 ?_
  refine j_iaddN h 9 rfl dX11_sunAt_8 ?_
  refine j_iald h 10 rfl sh_94 _ rfl (by omega) rfl dX11_sunAt_9 ?_
  refine j_istore_n h 11 rfl rfl dX11_sunAt_10 ?_
  have K64 : ∀ x, x = hb (shineP (M 94 (4 * r + 2)) (nI n)) → J X 64 [some (.ref 93), some (.int (nI r)), some (.int (nI n)), some (.int (M 94 (4 * r + 2))), none, none, none] [.int x] M := by
    intro x hx
    subst hx
    refine j_istore h 66 rfl rfl dX11_sunAt_64 ?_
    have K105 : ∀ x, x = msS M r n 0 → J X 105 [some (.ref 93), some (.int (nI r)), some (.int (nI n)), some (.int (M 94 (4 * r + 2))), some (.int (hb (shineP (M 94 (4 * r + 2)) (nI n)))), some (.int x), none] [] M := by
      intro x hx
      subst hx
      refine j_iconst h 106 rfl (nI 0) (by decide) dX11_sunAt_105 ?_
      refine j_istore h 108 rfl rfl dX11_sunAt_106 ?_
      have L : ∀ (n9 i : Nat) , 6 - i < n9 → i ≤ w → J X 108 [some (.ref 93), some (.int (nI r)), some (.int (nI n)), some (.int (M 94 (4 * r + 2))), some (.int (hb (shineP (M 94 (4 * r + 2)) (nI n)))), some (.int (msS M r n i)), some (.int (nI i))] [] M := by
        intro n9
        induction n9 with
        | zero => intro i  h1; omega
        | succ n9 ih =>
          intro i  h1 h2
          refine j_iload h 110 rfl rfl dX11_sunAt_108 ?_
          refine j_aload_n h 111 rfl rfl dX11_sunAt_110 ?_
          refine j_getI h 114 rfl glX11_229 sh_93 rfl dX11_sunAt_111 ?_
          refine j_top ew ?_
          refine j_icmp_geN h 169 117 (by omega) (by omega) dX11_sunAt_114 (by decide) rfl (fun c_114 => ?_) (fun c_114 => ?_)
          · skip
            refine j_iload h 171 rfl rfl dX11_sunAt_169 ?_
            exact j_ret h hr rfl dX11_sunAt_171 ⟨congrArg (fun z => some (Value.int z)) (by rw [show i = w by omega]), rfl⟩
          · skip
            refine j_aload_n h 118 rfl rfl dX11_sunAt_117 ?_
            refine j_getI h 121 rfl glX11_232 sh_93 rfl dX11_sunAt_118 ?_
            refine j_iload h 123 rfl rfl dX11_sunAt_121 ?_
            refine j_callSI h 126 rfl lkX11_127 rfl (t_X11_has _ _ _) rfl rfl rfl dX11_sunAt_123 ?_
            refine j_if_eqB h 159 129 dX11_sunAt_126 (by decide) rfl (fun c_126 => ?_) (fun c_126 => ?_)
            · skip
              refine j_iload h 161 rfl rfl dX11_sunAt_159 ?_
              refine j_istore h 163 rfl rfl dX11_sunAt_161 ?_
              refine j_iincN h 166 rfl rfl rfl dX11_sunAt_163 ?_
              refine j_goto h 108 dX11_sunAt_166 (by decide) ?_
              have e9 : _ = msS M r n (i + 1) := (by first | exact msS_t c_126 c_137 | exact msS_f (Or.inl c_126) | exact msS_f (Or.inr c_137))
              have q9 := ih (i + 1) (by omega) (by omega)
              rw [← e9] at q9
              exact q9
            · skip
              refine j_aload_n h 130 rfl rfl dX11_sunAt_129 ?_
              refine j_getR h 133 rfl glX11_87 sh_93 rfl dX11_sunAt_130 ?_
              refine j_iload h 135 rfl rfl dX11_sunAt_133 ?_
              refine j_iald h 136 rfl sh_110 _ rfl (by omega) rfl dX11_sunAt_135 ?_
              refine j_iload_n h 137 rfl rfl dX11_sunAt_136 ?_
              refine j_icmp_ne h 159 140 dX11_sunAt_137 (by decide) rfl (fun c_137 => ?_) (fun c_137 => ?_)
              · skip
                refine j_iload h 161 rfl rfl dX11_sunAt_159 ?_
                refine j_istore h 163 rfl rfl dX11_sunAt_161 ?_
                refine j_iincN h 166 rfl rfl rfl dX11_sunAt_163 ?_
                refine j_goto h 108 dX11_sunAt_166 (by decide) ?_
                have e9 : _ = msS M r n (i + 1) := (by first | exact msS_t c_126 c_137 | exact msS_f (Or.inl c_126) | exact msS_f (Or.inr c_137))
                have q9 := ih (i + 1) (by omega) (by omega)
                rw [← e9] at q9
                exact q9
              · skip
                refine j_iload h 142 rfl rfl dX11_sunAt_140 ?_
                refine j_bipush h 144 rfl (nI 100) (by decide) dX11_sunAt_142 ?_
                refine j_aload_n h 145 rfl rfl dX11_sunAt_144 ?_
                refine j_getR h 148 rfl glX11_93 sh_93 rfl dX11_sunAt_145 ?_
                refine j_iload h 150 rfl rfl dX11_sunAt_148 ?_
                refine j_iald h 151 rfl sh_112 _ rfl (by omega) rfl dX11_sunAt_150 ?_
                refine j_isub h 152 rfl dX11_sunAt_151 ?_
                refine j_imul h 153 rfl dX11_sunAt_152 ?_
                refine j_bipush h 155 rfl (nI 100) (by decide) dX11_sunAt_153 ?_
                refine j_idiv h 156 rfl (by decide) dX11_sunAt_155 ?_
                refine j_goto h 161 dX11_sunAt_156 (by decide) ?_
                refine j_istore h 163 rfl rfl dX11_sunAt_161 ?_
                refine j_iincN h 166 rfl rfl rfl dX11_sunAt_163 ?_
                refine j_goto h 108 dX11_sunAt_166 (by decide) ?_
                have e9 : _ = msS M r n (i + 1) := (by first | exact msS_t c_126 c_137 | exact msS_f (Or.inl c_126) | exact msS_f (Or.inr c_137))
                have q9 := ih (i + 1) (by omega) (by omega)
                rw [← e9] at q9
                exact q9
      exact L 7 0 (by omega) (by omega)
    refine j_iload h 68 rfl rfl dX11_sunAt_66 ?_
    refine j_if_eqB h 78 71 dX11_sunAt_68 (by decide) rfl (fun c_68 => ?_) (fun c_68 => ?_)
    · skip
      refine j_iconst h 79 rfl (nI 0) (by decide) dX11_sunAt_78 ?_
      refine j_istore h 81 rfl rfl dX11_sunAt_79 ?_
      refine j_aload_n h 82 rfl rfl dX11_sunAt_81 ?_
      refine j_getR h 85 rfl glX11_19 sh_93 rfl dX11_sunAt_82 ?_
      refine j_iload_n h 86 rfl rfl dX11_sunAt_85 ?_
      refine j_iald h 87 rfl sh_97 _ rfl (by omega) rfl dX11_sunAt_86 ?_
      refine j_iload_n h 88 rfl rfl dX11_sunAt_87 ?_
      refine j_callSI h 91 rfl lkX11_127 rfl (t_X11_has _ _ _) rfl rfl rfl dX11_sunAt_88 ?_
      refine j_if_eqB h 101 94 dX11_sunAt_91 (by decide) rfl (fun c_91 => ?_) (fun c_91 => ?_)
      · skip
        refine j_iload h 103 rfl rfl dX11_sunAt_101 ?_
        refine j_istore h 105 rfl rfl dX11_sunAt_103 ?_
        exact K105 _ (by show _ = sunC _ _ _ _; unfold sunC; first | rw [if_pos c_68, if_pos c_91] | rw [if_pos c_68, if_neg c_91] | rw [if_neg c_68, dv0] | rw [if_neg c_68])
      · skip
        refine j_iload h 96 rfl rfl dX11_sunAt_94 ?_
        refine j_iconst h 97 rfl (nI 4) (by decide) dX11_sunAt_96 ?_
        refine j_idivN h 98 rfl (by omega) (by omega) (by omega) dX11_sunAt_97 ?_
        refine j_goto h 103 dX11_sunAt_98 (by decide) ?_
        refine j_istore h 105 rfl rfl dX11_sunAt_103 ?_
        exact K105 _ (by show _ = sunC _ _ _ _; unfold sunC; first | rw [if_pos c_68, if_pos c_91] | rw [if_pos c_68, if_neg c_91] | rw [if_neg c_68, dv0] | rw [if_neg c_68])
    · skip
      refine j_aload_n h 72 rfl rfl dX11_sunAt_71 ?_
      refine j_getI h 75 rfl glX11_35 sh_93 rfl dX11_sunAt_72 ?_
      refine j_goto h 79 dX11_sunAt_75 (by decide) ?_
      refine j_istore h 81 rfl rfl dX11_sunAt_79 ?_
      refine j_aload_n h 82 rfl rfl dX11_sunAt_81 ?_
      refine j_getR h 85 rfl glX11_19 sh_93 rfl dX11_sunAt_82 ?_
      refine j_iload_n h 86 rfl rfl dX11_sunAt_85 ?_
      refine j_iald h 87 rfl sh_97 _ rfl (by omega) rfl dX11_sunAt_86 ?_
      refine j_iload_n h 88 rfl rfl dX11_sunAt_87 ?_
      refine j_callSI h 91 rfl lkX11_127 rfl (t_X11_has _ _ _) rfl rfl rfl dX11_sunAt_88 ?_
      refine j_if_eqB h 101 94 dX11_sunAt_91 (by decide) rfl (fun c_91 => ?_) (fun c_91 => ?_)
      · skip
        refine j_iload h 103 rfl rfl dX11_sunAt_101 ?_
        refine j_istore h 105 rfl rfl dX11_sunAt_103 ?_
        exact K105 _ (by show _ = sunC _ _ _ _; unfold sunC; first | rw [if_pos c_68, if_pos c_91] | rw [if_pos c_68, if_neg c_91] | rw [if_neg c_68, dv0] | rw [if_neg c_68])
      · skip
        refine j_iload h 96 rfl rfl dX11_sunAt_94 ?_
        refine j_iconst h 97 rfl (nI 4) (by decide) dX11_sunAt_96 ?_
        refine j_idiv h 98 rfl (by decide) dX11_sunAt_97 ?_
        refine j_goto h 103 dX11_sunAt_98 (by decide) ?_
        refine j_istore h 105 rfl rfl dX11_sunAt_103 ?_
        exact K105 _ (by show _ = sunC _ _ _ _; unfold sunC; first | rw [if_pos c_68, if_pos c_91] | rw [if_pos c_68, if_neg c_91] | rw [if_neg c_68, dv0] | rw [if_neg c_68])
  refine j_iload_n h 12 rfl rfl dX11_sunAt_11 ?_
  refine j_iconst h 13 rfl (nI 1) (by decide) dX11_sunAt_12 ?_
  refine j_icmp_ne h 27 16 dX11_sunAt_13 (by decide) rfl (fun c_13 => ?_) (fun c_13 => ?_)
  · skip
    refine j_iload_n h 28 rfl rfl dX11_sunAt_27 ?_
    refine j_iconst h 29 rfl (nI 2) (by decide) dX11_sunAt_28 ?_
    refine j_icmp_ne h 43 32 dX11_sunAt_29 (by decide) rfl (fun c_29 => ?_) (fun c_29 => ?_)
    · skip
      refine j_iload_n h 44 rfl rfl dX11_sunAt_43 ?_
      refine j_iconst h 45 rfl (nI 3) (by decide) dX11_sunAt_44 ?_
      refine j_icmp_ne h 63 48 dX11_sunAt_45 (by decide) rfl (fun c_45 => ?_) (fun c_45 => ?_)
      · skip
        refine j_iconst h 64 rfl (nI 0) (by decide) dX11_sunAt_63 ?_
        exact K64 _ (by first | exact hb_c ⟨fun z => Or.inl ⟨c_13, z⟩, fun z => by rcases z with ⟨q, z⟩ | ⟨q, z⟩ | ⟨q, z⟩ <;> first | exact z | exact absurd (c_13.symm.trans q) (by decide)⟩ | exact hb_c ⟨fun z => Or.inr (Or.inl ⟨c_29, z⟩), fun z => by rcases z with ⟨q, z⟩ | ⟨q, z⟩ | ⟨q, z⟩ <;> first | exact z | exact absurd (c_29.symm.trans q) (by decide)⟩ | exact (hb_t (Or.inr (Or.inr ⟨c_45, c_56⟩))).symm | exact (hb_f (fun z => by rcases z with ⟨q, z⟩ | ⟨q, z⟩ | ⟨q, z⟩ <;> first | exact c_13 q | exact c_29 q | exact c_45 q | exact c_56 z)).symm)
      · skip
        refine j_iload_n h 49 rfl rfl dX11_sunAt_48 ?_
        refine j_bipush h 51 rfl (nI 15) (by decide) dX11_sunAt_49 ?_
        refine j_bipush h 53 rfl (nI 19) (by decide) dX11_sunAt_51 ?_
        refine j_callSI h 56 rfl lkX11_120 rfl (t_X11_in _ _ _ _) rfl rfl rfl dX11_sunAt_53 ?_
        refine j_if_eqB h 63 59 dX11_sunAt_56 (by decide) rfl (fun c_56 => ?_) (fun c_56 => ?_)
        · skip
          refine j_iconst h 64 rfl (nI 0) (by decide) dX11_sunAt_63 ?_
          exact K64 _ (by first | exact hb_c ⟨fun z => Or.inl ⟨c_13, z⟩, fun z => by rcases z with ⟨q, z⟩ | ⟨q, z⟩ | ⟨q, z⟩ <;> first | exact z | exact absurd (c_13.symm.trans q) (by decide)⟩ | exact hb_c ⟨fun z => Or.inr (Or.inl ⟨c_29, z⟩), fun z => by rcases z with ⟨q, z⟩ | ⟨q, z⟩ | ⟨q, z⟩ <;> first | exact z | exact absurd (c_29.symm.trans q) (by decide)⟩ | exact (hb_t (Or.inr (Or.inr ⟨c_45, c_56⟩))).symm | exact (hb_f (fun z => by rcases z with ⟨q, z⟩ | ⟨q, z⟩ | ⟨q, z⟩ <;> first | exact c_13 q | exact c_29 q | exact c_45 q | exact c_56 z)).symm)
        · skip
          refine j_iconst h 60 rfl (nI 1) (by decide) dX11_sunAt_59 ?_
          refine j_goto h 64 dX11_sunAt_60 (by decide) ?_
          exact K64 _ (by first | exact hb_c ⟨fun z => Or.inl ⟨c_13, z⟩, fun z => by rcases z with ⟨q, z⟩ | ⟨q, z⟩ | ⟨q, z⟩ <;> first | exact z | exact absurd (c_13.symm.trans q) (by decide)⟩ | exact hb_c ⟨fun z => Or.inr (Or.inl ⟨c_29, z⟩), fun z => by rcases z with ⟨q, z⟩ | ⟨q, z⟩ | ⟨q, z⟩ <;> first | exact z | exact absurd (c_29.symm.trans q) (by decide)⟩ | exact (hb_t (Or.inr (Or.inr ⟨c_45, c_56⟩))).symm | exact (hb_f (fun z => by rcases z with ⟨q, z⟩ | ⟨q, z⟩ | ⟨q, z⟩ <;> first | exact c_13 q | exact c_29 q | exact c_45 q | exact c_56 z)).symm)
    · skip
      refine j_iload_n h 33 rfl rfl dX11_sunAt_32 ?_
      refine j_bipush h 35 rfl (nI 10) (by decide) dX11_sunAt_33 ?_
      refine j_bipush h 37 rfl (nI 15) (by decide) dX11_sunAt_35 ?_
      refine j_callSI h 40 rfl lkX11_120 rfl (t_X11_in _ _ _ _) rfl rfl rfl dX11_sunAt_37 ?_
      refine j_goto h 64 dX11_sunAt_40 (by decide) ?_
      exact K64 _ (by first | exact hb_c ⟨fun z => Or.inl ⟨c_13, z⟩, fun z => by rcases z with ⟨q, z⟩ | ⟨q, z⟩ | ⟨q, z⟩ <;> first | exact z | exact absurd (c_13.symm.trans q) (by decide)⟩ | exact hb_c ⟨fun z => Or.inr (Or.inl ⟨c_29, z⟩), fun z => by rcases z with ⟨q, z⟩ | ⟨q, z⟩ | ⟨q, z⟩ <;> first | exact z | exact absurd (c_29.symm.trans q) (by decide)⟩ | exact (hb_t (Or.inr (Or.inr ⟨c_45, c_56⟩))).symm | exact (hb_f (fun z => by rcases z with ⟨q, z⟩ | ⟨q, z⟩ | ⟨q, z⟩ <;> first | exact c_13 q | exact c_29 q | exact c_45 q | exact c_56 z)).symm)
  · skip
    refine j_iload_n h 17 rfl rfl dX11_sunAt_16 ?_
    refine j_bipush h 19 rfl (nI 6) (by decide) dX11_sunAt_17 ?_
    refine j_bipush h 21 rfl (nI 10) (by decide) dX11_sunAt_19 ?_
    refine j_callSI h 24 rfl lkX11_120 rfl (t_X11_in _ _ _ _) rfl rfl rfl dX11_sunAt_21 ?_
    refine j_goto h 64 dX11_sunAt_24 (by decide) ?_
    exact K64 _ (by first | exact hb_c ⟨fun z => Or.inl ⟨c_13, z⟩, fun z => by rcases z with ⟨q, z⟩ | ⟨q, z⟩ | ⟨q, z⟩ <;> first | exact z | exact absurd (c_13.symm.trans q) (by decide)⟩ | exact hb_c ⟨fun z => Or.inr (Or.inl ⟨c_29, z⟩), fun z => by rcases z with ⟨q, z⟩ | ⟨q, z⟩ | ⟨q, z⟩ <;> first | exact z | exact absurd (c_29.symm.trans q) (by decide)⟩ | exact (hb_t (Or.inr (Or.inr ⟨c_45, c_56⟩))).symm | exact (hb_f (fun z => by rcases z with ⟨q, z⟩ | ⟨q, z⟩ | ⟨q, z⟩ <;> first | exact c_13 q | exact c_29 q | exact c_45 q | exact c_56 z)).symm)
set_option maxRecDepth 100000 in
set_option maxHeartbeats 4000000 in
theorem t_X11_leaksOf (M : hM) (r : Nat) (hr5 : r < 5) (w : Nat) (hw : w ≤ 6) (ew : M 93 35 = nI w) : Ct 2 mX11_leaksOf [.ref 93, .int (nI r)] M (pI (mlS M r w) M) := by
  refine ct_of (lv := [some (.ref 93), some (.int (nI r)), none, none]) (by decide +kernel) (fun _ _ hq => hq) rfl (fun _ => Nat.le_of_ble_eq_true rfl) (fun X h hr => ?_)
  refine j_aload_n h 1 rfl rfl dX11_leaksOf_0 ?_
  refine j_getI h 4 rfl glX11_44 sh_93 rfl dX11_leaksOf_1 ?_
  refine j_istore_n h 5 rfl rfl dX11_leaksOf_4 ?_
  refine j_iconst h 6 rfl (nI 0) (by decide) dX11_leaksOf_5 ?_
  refine j_istore_n h 7 rfl rfl dX11_leaksOf_6 ?_
  have L : ∀ (n9 i : Nat) , 6 - i < n9 → i ≤ w → J X 7 [some (.ref 93), some (.int (nI r)), some (.int (mlS M r i)), some (.int (nI i))] [] M := by
    intro n9
    induction n9 with
    | zero => intro i  h1; omega
    | succ n9 ih =>
      intro i  h1 h2
      refine j_iload_n h 8 rfl rfl dX11_leaksOf_7 ?_
      refine j_aload_n h 9 rfl rfl dX11_leaksOf_8 ?_
      refine j_getI h 12 rfl glX11_229 sh_93 rfl dX11_leaksOf_9 ?_
      refine j_top ew ?_
      refine j_icmp_geN h 65 15 (by omega) (by omega) dX11_leaksOf_12 (by decide) rfl (fun c_12 => ?_) (fun c_12 => ?_)
      · skip
        refine j_iload_n h 66 rfl rfl dX11_leaksOf_65 ?_
        exact j_ret h hr rfl dX11_leaksOf_66 ⟨congrArg (fun z => some (Value.int z)) (by rw [show i = w by omega]), rfl⟩
      · skip
        refine j_aload_n h 16 rfl rfl dX11_leaksOf_15 ?_
        refine j_getI h 19 rfl glX11_232 sh_93 rfl dX11_leaksOf_16 ?_
        refine j_iload_n h 20 rfl rfl dX11_leaksOf_19 ?_
        refine j_callSI h 23 rfl lkX11_127 rfl (t_X11_has _ _ _) rfl rfl rfl dX11_leaksOf_20 ?_
        refine j_if_eqB h 47 26 dX11_leaksOf_23 (by decide) rfl (fun c_23 => ?_) (fun c_23 => ?_)
        · skip
          refine j_iload_n h 48 rfl rfl dX11_leaksOf_47 ?_
          refine j_istore_n h 49 rfl rfl dX11_leaksOf_48 ?_
          refine j_iload_n h 50 rfl rfl dX11_leaksOf_49 ?_
          refine j_if_ge h 57 53 dX11_leaksOf_50 (by decide) rfl (fun c_50 => ?_) (fun c_50 => ?_)
          · skip
            refine j_iload_n h 58 rfl rfl dX11_leaksOf_57 ?_
            refine j_istore_n h 59 rfl rfl dX11_leaksOf_58 ?_
            refine j_iincN h 62 rfl rfl rfl dX11_leaksOf_59 ?_
            refine j_goto h 7 dX11_leaksOf_62 (by decide) ?_
            have q9 := ih (i + 1) (by omega) (by omega)
            first
              | (rw [← mlS_t c_23 c_33] at q9; first | (rw [← mlO_t (Int32.not_le.mp c_50)] at q9; exact q9) | (rw [← mlO_f c_50] at q9; exact q9) | (rw [← mlO_f (nlt c_50)] at q9; exact q9))
              | (rw [← mlS_f (Or.inl c_23)] at q9; first | (rw [← mlO_t (Int32.not_le.mp c_50)] at q9; exact q9) | (rw [← mlO_f c_50] at q9; exact q9) | (rw [← mlO_f (nlt c_50)] at q9; exact q9))
              | (rw [← mlS_f (Or.inr c_33)] at q9; first | (rw [← mlO_t (Int32.not_le.mp c_50)] at q9; exact q9) | (rw [← mlO_f c_50] at q9; exact q9) | (rw [← mlO_f (nlt c_50)] at q9; exact q9))
          · skip
            refine j_iconst h 54 rfl (nI 0) (by decide) dX11_leaksOf_53 ?_
            refine j_goto h 58 dX11_leaksOf_54 (by decide) ?_
            refine j_istore_n h 59 rfl rfl dX11_leaksOf_58 ?_
            refine j_iincN h 62 rfl rfl rfl dX11_leaksOf_59 ?_
            refine j_goto h 7 dX11_leaksOf_62 (by decide) ?_
            have q9 := ih (i + 1) (by omega) (by omega)
            first
              | (rw [← mlS_t c_23 c_33] at q9; first | (rw [← mlO_t (Int32.not_le.mp c_50)] at q9; exact q9) | (rw [← mlO_f c_50] at q9; exact q9) | (rw [← mlO_f (nlt c_50)] at q9; exact q9))
              | (rw [← mlS_f (Or.inl c_23)] at q9; first | (rw [← mlO_t (Int32.not_le.mp c_50)] at q9; exact q9) | (rw [← mlO_f c_50] at q9; exact q9) | (rw [← mlO_f (nlt c_50)] at q9; exact q9))
              | (rw [← mlS_f (Or.inr c_33)] at q9; first | (rw [← mlO_t (Int32.not_le.mp c_50)] at q9; exact q9) | (rw [← mlO_f c_50] at q9; exact q9) | (rw [← mlO_f (nlt c_50)] at q9; exact q9))
        · skip
          refine j_aload_n h 27 rfl rfl dX11_leaksOf_26 ?_
          refine j_getR h 30 rfl glX11_87 sh_93 rfl dX11_leaksOf_27 ?_
          refine j_iload_n h 31 rfl rfl dX11_leaksOf_30 ?_
          refine j_iald h 32 rfl sh_110 _ rfl (by omega) rfl dX11_leaksOf_31 ?_
          refine j_iload_n h 33 rfl rfl dX11_leaksOf_32 ?_
          refine j_icmp_ne h 47 36 dX11_leaksOf_33 (by decide) rfl (fun c_33 => ?_) (fun c_33 => ?_)
          · skip
            refine j_iload_n h 48 rfl rfl dX11_leaksOf_47 ?_
            refine j_istore_n h 49 rfl rfl dX11_leaksOf_48 ?_
            refine j_iload_n h 50 rfl rfl dX11_leaksOf_49 ?_
            refine j_if_ge h 57 53 dX11_leaksOf_50 (by decide) rfl (fun c_50 => ?_) (fun c_50 => ?_)
            · skip
              refine j_iload_n h 58 rfl rfl dX11_leaksOf_57 ?_
              refine j_istore_n h 59 rfl rfl dX11_leaksOf_58 ?_
              refine j_iincN h 62 rfl rfl rfl dX11_leaksOf_59 ?_
              refine j_goto h 7 dX11_leaksOf_62 (by decide) ?_
              have q9 := ih (i + 1) (by omega) (by omega)
              first
                | (rw [← mlS_t c_23 c_33] at q9; first | (rw [← mlO_t (Int32.not_le.mp c_50)] at q9; exact q9) | (rw [← mlO_f c_50] at q9; exact q9) | (rw [← mlO_f (nlt c_50)] at q9; exact q9))
                | (rw [← mlS_f (Or.inl c_23)] at q9; first | (rw [← mlO_t (Int32.not_le.mp c_50)] at q9; exact q9) | (rw [← mlO_f c_50] at q9; exact q9) | (rw [← mlO_f (nlt c_50)] at q9; exact q9))
                | (rw [← mlS_f (Or.inr c_33)] at q9; first | (rw [← mlO_t (Int32.not_le.mp c_50)] at q9; exact q9) | (rw [← mlO_f c_50] at q9; exact q9) | (rw [← mlO_f (nlt c_50)] at q9; exact q9))
            · skip
              refine j_iconst h 54 rfl (nI 0) (by decide) dX11_leaksOf_53 ?_
              refine j_goto h 58 dX11_leaksOf_54 (by decide) ?_
              refine j_istore_n h 59 rfl rfl dX11_leaksOf_58 ?_
              refine j_iincN h 62 rfl rfl rfl dX11_leaksOf_59 ?_
              refine j_goto h 7 dX11_leaksOf_62 (by decide) ?_
              have q9 := ih (i + 1) (by omega) (by omega)
              first
                | (rw [← mlS_t c_23 c_33] at q9; first | (rw [← mlO_t (Int32.not_le.mp c_50)] at q9; exact q9) | (rw [← mlO_f c_50] at q9; exact q9) | (rw [← mlO_f (nlt c_50)] at q9; exact q9))
                | (rw [← mlS_f (Or.inl c_23)] at q9; first | (rw [← mlO_t (Int32.not_le.mp c_50)] at q9; exact q9) | (rw [← mlO_f c_50] at q9; exact q9) | (rw [← mlO_f (nlt c_50)] at q9; exact q9))
                | (rw [← mlS_f (Or.inr c_33)] at q9; first | (rw [← mlO_t (Int32.not_le.mp c_50)] at q9; exact q9) | (rw [← mlO_f c_50] at q9; exact q9) | (rw [← mlO_f (nlt c_50)] at q9; exact q9))
          · skip
            refine j_iload_n h 37 rfl rfl dX11_leaksOf_36 ?_
            refine j_aload_n h 38 rfl rfl dX11_leaksOf_37 ?_
            refine j_getR h 41 rfl glX11_96 sh_93 rfl dX11_leaksOf_38 ?_
            refine j_iload_n h 42 rfl rfl dX11_leaksOf_41 ?_
            refine j_iald h 43 rfl sh_113 _ rfl (by omega) rfl dX11_leaksOf_42 ?_
            refine j_isub h 44 rfl dX11_leaksOf_43 ?_
            refine j_goto h 48 dX11_leaksOf_44 (by decide) ?_
            refine j_istore_n h 49 rfl rfl dX11_leaksOf_48 ?_
            refine j_iload_n h 50 rfl rfl dX11_leaksOf_49 ?_
            refine j_if_ge h 57 53 dX11_leaksOf_50 (by decide) rfl (fun c_50 => ?_) (fun c_50 => ?_)
            · skip
              refine j_iload_n h 58 rfl rfl dX11_leaksOf_57 ?_
              refine j_istore_n h 59 rfl rfl dX11_leaksOf_58 ?_
              refine j_iincN h 62 rfl rfl rfl dX11_leaksOf_59 ?_
              refine j_goto h 7 dX11_leaksOf_62 (by decide) ?_
              have q9 := ih (i + 1) (by omega) (by omega)
              first
                | (rw [← mlS_t c_23 c_33] at q9; first | (rw [← mlO_t (Int32.not_le.mp c_50)] at q9; exact q9) | (rw [← mlO_f c_50] at q9; exact q9) | (rw [← mlO_f (nlt c_50)] at q9; exact q9))
                | (rw [← mlS_f (Or.inl c_23)] at q9; first | (rw [← mlO_t (Int32.not_le.mp c_50)] at q9; exact q9) | (rw [← mlO_f c_50] at q9; exact q9) | (rw [← mlO_f (nlt c_50)] at q9; exact q9))
                | (rw [← mlS_f (Or.inr c_33)] at q9; first | (rw [← mlO_t (Int32.not_le.mp c_50)] at q9; exact q9) | (rw [← mlO_f c_50] at q9; exact q9) | (rw [← mlO_f (nlt c_50)] at q9; exact q9))
            · skip
              refine j_iconst h 54 rfl (nI 0) (by decide) dX11_leaksOf_53 ?_
              refine j_goto h 58 dX11_leaksOf_54 (by decide) ?_
              refine j_istore_n h 59 rfl rfl dX11_leaksOf_58 ?_
              refine j_iincN h 62 rfl rfl rfl dX11_leaksOf_59 ?_
              refine j_goto h 7 dX11_leaksOf_62 (by decide) ?_
              have q9 := ih (i + 1) (by omega) (by omega)
              first
                | (rw [← mlS_t c_23 c_33] at q9; first | (rw [← mlO_t (Int32.not_le.mp c_50)] at q9; exact q9) | (rw [← mlO_f c_50] at q9; exact q9) | (rw [← mlO_f (nlt c_50)] at q9; exact q9))
                | (rw [← mlS_f (Or.inl c_23)] at q9; first | (rw [← mlO_t (Int32.not_le.mp c_50)] at q9; exact q9) | (rw [← mlO_f c_50] at q9; exact q9) | (rw [← mlO_f (nlt c_50)] at q9; exact q9))
                | (rw [← mlS_f (Or.inr c_33)] at q9; first | (rw [← mlO_t (Int32.not_le.mp c_50)] at q9; exact q9) | (rw [← mlO_f c_50] at q9; exact q9) | (rw [← mlO_f (nlt c_50)] at q9; exact q9))
  exact L 7 0 (by omega) (by omega)
/-- a plan that the model's cells hold -/
def mP (M : hM) (w : Nat) (P : hM) : Prop :=
  (∀ r, r < 5 → (bitP (M 93 0) (nI r) ↔ ¬ P 15 r = 0)) ∧
  (∀ r, r < 5 → M 94 (4 * r) = P 16 r) ∧
  (∀ r, r < 5 → M 94 (4 * r + 1) = P 17 r) ∧
  (∀ r, r < 5 → M 94 (4 * r + 3) = P 19 r) ∧
  (∀ r, r < 5 → M 108 r = P 30 r) ∧
  (∀ r, r < 5 → M 109 r = P 31 r) ∧
  (∀ r q, r < 5 → q < 5 → M 98 (5 * r + q) = P (24 + r) q ∧ (0 : Int32) ≤ P (24 + r) q) ∧
  (∀ r, r < 5 → P (24 + r) r = 0) ∧
  (∀ r h, r < 5 → h < 24 → msS M r h w = P (34 + r) h) ∧
  (∀ r, r < 5 → mlS M r w = P 32 r) ∧
  (M 93 14 = P 14 9) ∧
  (M 93 13 = P 14 17) ∧
  (M 93 11 = P 29 6) ∧
  (M 93 10 = P 29 5) ∧
  (∀ h, h < 96 → mSky M h = P 39 h) ∧
  (M 93 35 = nI w)
theorem mP.told {M P : hM} {w : Nat} (h : mP M w P) : ∀ r, r < 5 → (bitP (M 93 0) (nI r) ↔ ¬ P 15 r = 0) := h.1
theorem mP.air0 {M P : hM} {w : Nat} (h : mP M w P) : ∀ r, r < 5 → M 94 (4 * r) = P 16 r := h.2.1
theorem mP.wall0 {M P : hM} {w : Nat} (h : mP M w P) : ∀ r, r < 5 → M 94 (4 * r + 1) = P 17 r := h.2.2.1
theorem mP.folk {M P : hM} {w : Nat} (h : mP M w P) : ∀ r, r < 5 → M 94 (4 * r + 3) = P 19 r := h.2.2.2.1
theorem mP.hab {M P : hM} {w : Nat} (h : mP M w P) : ∀ r, r < 5 → M 108 r = P 30 r := h.2.2.2.2.1
theorem mP.opn {M P : hM} {w : Nat} (h : mP M w P) : ∀ r, r < 5 → M 109 r = P 31 r := h.2.2.2.2.2.1
theorem mP.door {M P : hM} {w : Nat} (h : mP M w P) : ∀ r q, r < 5 → q < 5 → M 98 (5 * r + q) = P (24 + r) q ∧ (0 : Int32) ≤ P (24 + r) q := h.2.2.2.2.2.2.1
theorem mP.self {M P : hM} {w : Nat} (h : mP M w P) : ∀ r, r < 5 → P (24 + r) r = 0 := h.2.2.2.2.2.2.2.1
theorem mP.sun {M P : hM} {w : Nat} (h : mP M w P) : ∀ r h, r < 5 → h < 24 → msS M r h w = P (34 + r) h := h.2.2.2.2.2.2.2.2.1
theorem mP.lk {M P : hM} {w : Nat} (h : mP M w P) : ∀ r, r < 5 → mlS M r w = P 32 r := h.2.2.2.2.2.2.2.2.2.1
theorem mP.home {M P : hM} {w : Nat} (h : mP M w P) : M 93 14 = P 14 9 := h.2.2.2.2.2.2.2.2.2.2.1
theorem mP.win {M P : hM} {w : Nat} (h : mP M w P) : M 93 13 = P 14 17 := h.2.2.2.2.2.2.2.2.2.2.2.1
theorem mP.gives {M P : hM} {w : Nat} (h : mP M w P) : M 93 11 = P 29 6 := h.2.2.2.2.2.2.2.2.2.2.2.2.1
theorem mP.takes {M P : hM} {w : Nat} (h : mP M w P) : M 93 10 = P 29 5 := h.2.2.2.2.2.2.2.2.2.2.2.2.2.1
theorem mP.sky {M P : hM} {w : Nat} (h : mP M w P) : ∀ h, h < 96 → mSky M h = P 39 h := h.2.2.2.2.2.2.2.2.2.2.2.2.2.2.1
theorem mP.works {M P : hM} {w : Nat} (h : mP M w P) : M 93 35 = nI w := h.2.2.2.2.2.2.2.2.2.2.2.2.2.2.2
def frW (M M2 : hM) : Prop := ∀ a, (a < 101 ∨ 107 < a) → M2 a = M a
theorem msS_cg {M N : hM} {r n : Nat} (h : ∀ a, (a = 93 ∨ a = 94 ∨ a = 97 ∨ a = 110 ∨ a = 112) → N a = M a) : ∀ k, msS N r n k = msS M r n k
  | 0 => by rw [msS, msS, h 93 (by omega), h 94 (by omega), h 97 (by omega)]
  | k + 1 => by rw [msS, msS, msS_cg h k, h 93 (by omega), h 110 (by omega), h 112 (by omega)]
theorem mlS_cg {M N : hM} {r : Nat} (h : ∀ a, (a = 93 ∨ a = 110 ∨ a = 113) → N a = M a) : ∀ k, mlS N r k = mlS M r k
  | 0 => by rw [mlS, mlS, h 93 (by omega)]
  | k + 1 => by rw [mlS, mlS, mlS_cg h k, h 93 (by omega), h 110 (by omega), h 113 (by omega)]
theorem mP_cg {M N P : hM} {w : Nat} (h : frW M N) (hP : mP M w P) : mP N w P :=
  ⟨(by rw [h 93 (by omega)]; exact hP.told),
  (by rw [h 94 (by omega)]; exact hP.air0),
  (by rw [h 94 (by omega)]; exact hP.wall0),
  (by rw [h 94 (by omega)]; exact hP.folk),
  (by rw [h 108 (by omega)]; exact hP.hab),
  (by rw [h 109 (by omega)]; exact hP.opn),
  (by rw [h 98 (by omega)]; exact hP.door),
  hP.self,
  fun r k a b => by rw [msS_cg (fun a ha => h a (by omega))]; exact hP.sun r k a b,
  fun r a => by rw [mlS_cg (fun a ha => h a (by omega))]; exact hP.lk r a,
  (by rw [h 93 (by omega)]; exact hP.home),
  (by rw [h 93 (by omega)]; exact hP.win),
  (by rw [h 93 (by omega)]; exact hP.gives),
  (by rw [h 93 (by omega)]; exact hP.takes),
  fun k a => by rw [← hP.sky k a]; unfold mSky; rw [h 93 (by omega)],
  (by rw [h 93 (by omega)]; exact hP.works)⟩
theorem hb_tld {M P : hM} {w r : Nat} (hP : mP M w P) (hr : r < 5) : hb (mTP M (nI r)) = hb (¬ P 15 r = 0) := hb_c ⟨fun z => (hP.told r hr).mp z.2, fun z => ⟨(in_nat (by decide)).mpr ⟨r, by omega, rfl⟩, (hP.told r hr).mpr z⟩⟩
set_option maxRecDepth 100000 in
set_option maxHeartbeats 4000000 in
theorem t_X11_isOpenAt (M : hM) (P : hM) (w : Nat) (hw : w ≤ 6) (hP : mP M w P) (r n : Nat) (hr5 : r < 5) (hn : n < 96) : Ct 2 mX11_isOpenAt [.ref 93, .int (nI r), .int (nI n)] M (pI (hb (opP P r n (M 104 r))) M) := by
  refine ct_of (lv := [some (.ref 93), some (.int (nI r)), some (.int (nI n)), none]) (by decide +kernel) (fun _ _ hq => hq) rfl (fun _ => Nat.le_of_ble_eq_true rfl) (fun X h hr => ?_)
  refine j_iload_n h 1 rfl rfl dX11_isOpenAt_0 ?_
  refine j_bipush h 3 rfl (nI 24) (by decide) dX11_isOpenAt_1 ?_
  refine j_iremN h 4 rfl (by omega) (by omega) (by omega) dX11_isOpenAt_3 ?_
  refine j_istore_n h 5 rfl rfl dX11_isOpenAt_4 ?_
  refine j_aload_n h 6 rfl rfl dX11_isOpenAt_5 ?_
  refine j_getI h 9 rfl glX11_51 sh_93 rfl dX11_isOpenAt_6 ?_
  refine j_top (hP.home) ?_
  refine j_iload_n h 10 rfl rfl dX11_isOpenAt_9 ?_
  refine j_callSI h 13 rfl lkX11_127 rfl (t_X11_has _ _ _) rfl rfl rfl dX11_isOpenAt_10 ?_
  refine j_if_neB h 18 16 dX11_isOpenAt_13 (by decide) rfl (fun c_13 => ?_) (fun c_13 => ?_)
  · skip
    refine j_aload_n h 19 rfl rfl dX11_isOpenAt_18 ?_
    refine j_getR h 22 rfl glX11_81 sh_93 rfl dX11_isOpenAt_19 ?_
    refine j_iload_n h 23 rfl rfl dX11_isOpenAt_22 ?_
    refine j_iald h 24 rfl sh_108 _ rfl (by omega) rfl dX11_isOpenAt_23 ?_
    refine j_top (hP.hab r hr5) ?_
    refine j_if_ne h 40 27 dX11_isOpenAt_24 (by decide) rfl (fun c_24 => ?_) (fun c_24 => ?_)
    · skip
      refine j_aload_n h 41 rfl rfl dX11_isOpenAt_40 ?_
      refine j_getR h 44 rfl glX11_81 sh_93 rfl dX11_isOpenAt_41 ?_
      refine j_iload_n h 45 rfl rfl dX11_isOpenAt_44 ?_
      refine j_iald h 46 rfl sh_108 _ rfl (by omega) rfl dX11_isOpenAt_45 ?_
      refine j_top (hP.hab r hr5) ?_
      refine j_iconst h 47 rfl (nI 1) (by decide) dX11_isOpenAt_46 ?_
      refine j_icmp_ne h 72 50 dX11_isOpenAt_47 (by decide) rfl (fun c_47 => ?_) (fun c_47 => ?_)
      · skip
        refine j_aload_n h 73 rfl rfl dX11_isOpenAt_72 ?_
        refine j_getR h 76 rfl glX11_81 sh_93 rfl dX11_isOpenAt_73 ?_
        refine j_iload_n h 77 rfl rfl dX11_isOpenAt_76 ?_
        refine j_iald h 78 rfl sh_108 _ rfl (by omega) rfl dX11_isOpenAt_77 ?_
        refine j_top (hP.hab r hr5) ?_
        refine j_iconst h 79 rfl (nI 2) (by decide) dX11_isOpenAt_78 ?_
        refine j_icmp_ne h 86 82 dX11_isOpenAt_79 (by decide) rfl (fun c_79 => ?_) (fun c_79 => ?_)
        · skip
          refine j_iconst h 87 rfl (nI 0) (by decide) dX11_isOpenAt_86 ?_
          exact j_ret h hr (by first | exact hb_nar | decide) dX11_isOpenAt_87 ⟨congrArg (fun z => some (Value.int z)) (by 
      first
        | exact hb_c ⟨fun z => ⟨c_13, Or.inl ⟨c_24, z⟩⟩, fun z => by rcases z.2 with ⟨q, z⟩ | ⟨q, z⟩ | q <;> first | exact z | exact absurd (c_24.symm.trans q) (by decide)⟩
        | (refine (hb_t ?_).symm; refine ⟨c_13, Or.inr (Or.inr ?_)⟩; exact c_79)
        | (refine (hb_t ?_).symm; refine ⟨c_13, Or.inr (Or.inl ⟨?_, ?_⟩)⟩; exact c_47; exact Int32.not_le.mp c_61)
        | (refine (hb_f ?_).symm; intro z; rcases z.2 with ⟨q, z⟩ | ⟨q, z⟩ | q <;> first | exact c_24 q | exact nlt c_61 z | exact c_47 q | exact c_79 q | exact absurd (c_47.symm.trans q) (by decide) | exact absurd (c_79.symm.trans q) (by decide))), rfl⟩
        · skip
          refine j_iconst h 83 rfl (nI 1) (by decide) dX11_isOpenAt_82 ?_
          refine j_goto h 87 dX11_isOpenAt_83 (by decide) ?_
          exact j_ret h hr (by first | exact hb_nar | decide) dX11_isOpenAt_87 ⟨congrArg (fun z => some (Value.int z)) (by 
      first
        | exact hb_c ⟨fun z => ⟨c_13, Or.inl ⟨c_24, z⟩⟩, fun z => by rcases z.2 with ⟨q, z⟩ | ⟨q, z⟩ | q <;> first | exact z | exact absurd (c_24.symm.trans q) (by decide)⟩
        | (refine (hb_t ?_).symm; refine ⟨c_13, Or.inr (Or.inr ?_)⟩; exact c_79)
        | (refine (hb_t ?_).symm; refine ⟨c_13, Or.inr (Or.inl ⟨?_, ?_⟩)⟩; exact c_47; exact Int32.not_le.mp c_61)
        | (refine (hb_f ?_).symm; intro z; rcases z.2 with ⟨q, z⟩ | ⟨q, z⟩ | q <;> first | exact c_24 q | exact nlt c_61 z | exact c_47 q | exact c_79 q | exact absurd (c_47.symm.trans q) (by decide) | exact absurd (c_79.symm.trans q) (by decide))), rfl⟩
      · skip
        refine j_aload_n h 51 rfl rfl dX11_isOpenAt_50 ?_
        refine j_iload_n h 52 rfl rfl dX11_isOpenAt_51 ?_
        refine j_callVI h 55 rfl lkX11_225 sh_93 rfl rfl (t_X11_outAt _ _ (by omega)) rfl rfl rfl dX11_isOpenAt_52 ?_
        refine j_top (hP.sky n hn) ?_
        refine j_aload_n h 56 rfl rfl dX11_isOpenAt_55 ?_
        refine j_getR h 59 rfl glX11_69 sh_93 rfl dX11_isOpenAt_56 ?_
        refine j_iload_n h 60 rfl rfl dX11_isOpenAt_59 ?_
        refine j_iald h 61 rfl sh_104 _ rfl (by omega) rfl dX11_isOpenAt_60 ?_
        refine j_icmp_ge h 68 64 dX11_isOpenAt_61 (by decide) rfl (fun c_61 => ?_) (fun c_61 => ?_)
        · skip
          refine j_iconst h 69 rfl (nI 0) (by decide) dX11_isOpenAt_68 ?_
          refine j_goto h 87 dX11_isOpenAt_69 (by decide) ?_
          exact j_ret h hr (by first | exact hb_nar | decide) dX11_isOpenAt_87 ⟨congrArg (fun z => some (Value.int z)) (by 
      first
        | exact hb_c ⟨fun z => ⟨c_13, Or.inl ⟨c_24, z⟩⟩, fun z => by rcases z.2 with ⟨q, z⟩ | ⟨q, z⟩ | q <;> first | exact z | exact absurd (c_24.symm.trans q) (by decide)⟩
        | (refine (hb_t ?_).symm; refine ⟨c_13, Or.inr (Or.inr ?_)⟩; exact c_79)
        | (refine (hb_t ?_).symm; refine ⟨c_13, Or.inr (Or.inl ⟨?_, ?_⟩)⟩; exact c_47; exact Int32.not_le.mp c_61)
        | (refine (hb_f ?_).symm; intro z; rcases z.2 with ⟨q, z⟩ | ⟨q, z⟩ | q <;> first | exact c_24 q | exact nlt c_61 z | exact c_47 q | exact c_79 q | exact absurd (c_47.symm.trans q) (by decide) | exact absurd (c_79.symm.trans q) (by decide))), rfl⟩
        · skip
          refine j_iconst h 65 rfl (nI 1) (by decide) dX11_isOpenAt_64 ?_
          refine j_goto h 87 dX11_isOpenAt_65 (by decide) ?_
          exact j_ret h hr (by first | exact hb_nar | decide) dX11_isOpenAt_87 ⟨congrArg (fun z => some (Value.int z)) (by 
      first
        | exact hb_c ⟨fun z => ⟨c_13, Or.inl ⟨c_24, z⟩⟩, fun z => by rcases z.2 with ⟨q, z⟩ | ⟨q, z⟩ | q <;> first | exact z | exact absurd (c_24.symm.trans q) (by decide)⟩
        | (refine (hb_t ?_).symm; refine ⟨c_13, Or.inr (Or.inr ?_)⟩; exact c_79)
        | (refine (hb_t ?_).symm; refine ⟨c_13, Or.inr (Or.inl ⟨?_, ?_⟩)⟩; exact c_47; exact Int32.not_le.mp c_61)
        | (refine (hb_f ?_).symm; intro z; rcases z.2 with ⟨q, z⟩ | ⟨q, z⟩ | q <;> first | exact c_24 q | exact nlt c_61 z | exact c_47 q | exact c_79 q | exact absurd (c_47.symm.trans q) (by decide) | exact absurd (c_79.symm.trans q) (by decide))), rfl⟩
    · skip
      refine j_aload_n h 28 rfl rfl dX11_isOpenAt_27 ?_
      refine j_getR h 31 rfl glX11_84 sh_93 rfl dX11_isOpenAt_28 ?_
      refine j_iload_n h 32 rfl rfl dX11_isOpenAt_31 ?_
      refine j_iald h 33 rfl sh_109 _ rfl (by omega) rfl dX11_isOpenAt_32 ?_
      refine j_top (hP.opn r hr5) ?_
      refine j_iload_n h 34 rfl rfl dX11_isOpenAt_33 ?_
      refine j_callSI h 37 rfl lkX11_127 rfl (t_X11_has _ _ _) rfl rfl rfl dX11_isOpenAt_34 ?_
      refine j_goto h 87 dX11_isOpenAt_37 (by decide) ?_
      exact j_ret h hr (by first | exact hb_nar | decide) dX11_isOpenAt_87 ⟨congrArg (fun z => some (Value.int z)) (by 
      first
        | exact hb_c ⟨fun z => ⟨c_13, Or.inl ⟨c_24, z⟩⟩, fun z => by rcases z.2 with ⟨q, z⟩ | ⟨q, z⟩ | q <;> first | exact z | exact absurd (c_24.symm.trans q) (by decide)⟩
        | (refine (hb_t ?_).symm; refine ⟨c_13, Or.inr (Or.inr ?_)⟩; exact c_79)
        | (refine (hb_t ?_).symm; refine ⟨c_13, Or.inr (Or.inl ⟨?_, ?_⟩)⟩; exact c_47; exact Int32.not_le.mp c_61)
        | (refine (hb_f ?_).symm; intro z; rcases z.2 with ⟨q, z⟩ | ⟨q, z⟩ | q <;> first | exact c_24 q | exact nlt c_61 z | exact c_47 q | exact c_79 q | exact absurd (c_47.symm.trans q) (by decide) | exact absurd (c_79.symm.trans q) (by decide))), rfl⟩
  · skip
    refine j_iconst h 17 rfl (nI 0) (by decide) dX11_isOpenAt_16 ?_
    exact j_ret h hr (by decide) dX11_isOpenAt_17 ⟨congrArg (fun z => some (Value.int z)) (by exact (hb_f (fun z => c_13 z.1)).symm), rfl⟩
