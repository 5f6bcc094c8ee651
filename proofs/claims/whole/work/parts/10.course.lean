/-! Course: a week, hour by hour -/
def IsC (c : Nat) : Prop := c = 40 ∨ c = 59
theorem hc_0 {c : Nat} (hc : IsC c) : hT[c]? = some (0, 1, [c + 3, c + 4, c + 5]) := by rcases hc with rfl | rfl <;> rfl
theorem hc_1 {c : Nat} (hc : IsC c) : hT[c + 1]? = some (3, 5, [c + 4]) := by rcases hc with rfl | rfl <;> rfl
theorem hc_2 {c : Nat} (hc : IsC c) : hT[c + 2]? = some (3, 5, [c + 9]) := by rcases hc with rfl | rfl <;> rfl
theorem hc_3 {c : Nat} (hc : IsC c) : hT[c + 3]? = some (3, 5, [c + 14]) := by rcases hc with rfl | rfl <;> rfl
theorem hc_A {c : Nat} (hc : IsC c) (i : Nat) (h : i < 5) : hT[c + 4 + i]? = some (1, 97, []) := by
  rcases (by omega : i = 0 ∨ i = 1 ∨ i = 2 ∨ i = 3 ∨ i = 4) with rfl | rfl | rfl | rfl | rfl <;> rcases hc with rfl | rfl <;> rfl
theorem hc_B {c : Nat} (hc : IsC c) (i : Nat) (h : i < 5) : hT[c + 9 + i]? = some (1, 97, []) := by
  rcases (by omega : i = 0 ∨ i = 1 ∨ i = 2 ∨ i = 3 ∨ i = 4) with rfl | rfl | rfl | rfl | rfl <;> rcases hc with rfl | rfl <;> rfl
theorem hc_O {c : Nat} (hc : IsC c) (i : Nat) (h : i < 5) : hT[c + 14 + i]? = some (1, 96, []) := by
  rcases (by omega : i = 0 ∨ i = 1 ∨ i = 2 ∨ i = 3 ∨ i = 4) with rfl | rfl | rfl | rfl | rfl <;> rcases hc with rfl | rfl <;> rfl
theorem hc_lo {c : Nat} (hc : IsC c) : 40 ≤ c := by rcases hc with rfl | rfl <;> decide
/-- what comes through the doors of the first q rooms, A the airs -/
def drS (M : hM) (A : Nat → Int32) (r : Nat) : Nat → Int32
  | 0 => nI 0
  | q + 1 => if ¬ M (24 + r) q ≤ 0 ∧ ¬ M 15 q = 0 then drS M A r q + (A q - A r) * M (24 + r) q / nI 100 else drS M A r q
theorem drS_t {M : hM} {A : Nat → Int32} {r q : Nat} (h1 : ¬ M (24 + r) q ≤ 0) (h2 : ¬ M 15 q = 0) : drS M A r q + (A q - A r) * M (24 + r) q / nI 100 = drS M A r (q + 1) := by rw [drS, if_pos ⟨h1, h2⟩]
theorem drS_f {M : hM} {A : Nat → Int32} {r q : Nat} (h : M (24 + r) q ≤ 0 ∨ M 15 q = 0) : drS M A r q = drS M A r (q + 1) := by
  rw [drS, if_neg]
  rintro ⟨h1, h2⟩
  exact h.elim h1 h2
abbrev opP (M : hM) (r h : Nat) (a : Int32) : Prop := bitP (M 14 9) (nI (h % 24)) ∧ wdP M r h a
def cm1 (M : hM) (A W : Nat → Int32) (r h : Nat) : Int32 := M (34 + r) (h % 24) + (W r - A r) * M 29 6 / nI 100 + drS M A r 5
def cm2 (M : hM) (A W : Nat → Int32) (r h : Nat) : Int32 := if bitP (M 14 9) (nI (h % 24)) then cm1 M A W r h + nI 2 * M 19 r else cm1 M A W r h
def cm3 (M : hM) (A W : Nat → Int32) (r h : Nat) : Int32 := if opP M r h (A r) then cm2 M A W r h + (M 39 h - A r) * M 14 17 / nI 100 else cm2 M A W r h
def stA (M : hM) (A W : Nat → Int32) (r h : Nat) : Int32 := A r + cm3 M A W r h
def stW (M : hM) (A W : Nat → Int32) (r h : Nat) : Int32 := W r + (A r - W r) * M 29 5 / nI 100 + (M 39 h - W r) * M 32 r / nI 100

set_option maxRecDepth 100000 in
set_option maxHeartbeats 4000000 in
theorem t_X1_throughDoors (M : hM) (c r n0 : Nat) (hc : IsC c) (hr5 : r < 5) (hn : n0 < 96) : Ct 2 mX1_throughDoors [.ref c, .int (nI r), .int (nI n0), .ref 14] M (pI (drS M (fun q => M (c + 4 + q) n0) r 5) M) := by
  refine ct_of (lv := [some (.ref c), some (.int (nI r)), some (.int (nI n0)), some (.ref 14), none, none, none]) (by decide +kernel) (fun _ _ hq => hq) rfl (fun _ => Nat.le_of_ble_eq_true rfl) (fun X h hr => ?_)
  refine j_iconst h 1 rfl (nI 0) (by decide) dX1_throughDoors_0 ?_
  refine j_istore h 3 rfl rfl dX1_throughDoors_1 ?_
  refine j_iconst h 4 rfl (nI 0) (by decide) dX1_throughDoors_3 ?_
  refine j_istore h 6 rfl rfl dX1_throughDoors_4 ?_
  have L : ∀ (n i : Nat) (x : Int32) (z : Option Value), 5 - i < n → i ≤ 5 → x = drS M (fun q => M (c + 4 + q) n0) r i → J X 6 [some (.ref c), some (.int (nI r)), some (.int (nI n0)), some (.ref 14), some (.int x), some (.int (nI i)), z] [] M := by
    intro n
    induction n with
    | zero => intro i x z h1; omega
    | succ n ih =>
      intro i x z h1 h2 hx
      subst hx
      refine j_iload h 8 rfl rfl dX1_throughDoors_6 ?_
      refine j_iconst h 9 rfl (nI 5) (by decide) dX1_throughDoors_8 ?_
      refine j_icmp_geN h 70 12 (by omega) (by omega) dX1_throughDoors_9 (by decide) rfl (fun c_9 => ?_) (fun c_9 => ?_)
      · skip
        refine j_iload h 72 rfl rfl dX1_throughDoors_70 ?_
        exact j_ret h hr rfl dX1_throughDoors_72 ⟨congrArg (fun z => some (Value.int z)) (by rw [show i = 5 by omega]), rfl⟩
      · skip
        refine j_aload_n h 13 rfl rfl dX1_throughDoors_12 ?_
        refine j_iload_n h 14 rfl rfl dX1_throughDoors_13 ?_
        refine j_iload h 16 rfl rfl dX1_throughDoors_14 ?_
        refine j_callVI h 19 rfl lkX1_79 sh_14 rfl rfl (t_X3_passes _ _ _ (by omega) (by omega)) rfl rfl rfl dX1_throughDoors_16 ?_
        refine j_istore h 21 rfl rfl dX1_throughDoors_19 ?_
        refine j_iload h 23 rfl rfl dX1_throughDoors_21 ?_
        refine j_if_le h 64 26 dX1_throughDoors_23 (by decide) rfl (fun c_23 => ?_) (fun c_23 => ?_)
        · skip
          refine j_iincN h 67 rfl rfl rfl dX1_throughDoors_64 ?_
          refine j_goto h 6 dX1_throughDoors_67 (by decide) ?_
          exact ih (i + 1) _ _ (by omega) (by omega) (by first | exact drS_t c_23 c_32 | exact drS_f (Or.inl c_23) | exact drS_f (Or.inr c_32) | exact drS_f (Or.inr (Decidable.not_not.mp c_32)))
        · skip
          refine j_aload_n h 27 rfl rfl dX1_throughDoors_26 ?_
          refine j_iload h 29 rfl rfl dX1_throughDoors_27 ?_
          refine j_callVI h 32 rfl lkX1_31 sh_14 rfl rfl (t_X3_isTold _ _ (by omega)) rfl rfl rfl dX1_throughDoors_29 ?_
          refine j_if_eqB h 64 35 dX1_throughDoors_32 (by decide) rfl (fun c_32 => ?_) (fun c_32 => ?_)
          · skip
            refine j_iincN h 67 rfl rfl rfl dX1_throughDoors_64 ?_
            refine j_goto h 6 dX1_throughDoors_67 (by decide) ?_
            exact ih (i + 1) _ _ (by omega) (by omega) (by first | exact drS_t c_23 c_32 | exact drS_f (Or.inl c_23) | exact drS_f (Or.inr c_32) | exact drS_f (Or.inr (Decidable.not_not.mp c_32)))
          · skip
            refine j_iload h 37 rfl rfl dX1_throughDoors_35 ?_
            refine j_aload_n h 38 rfl rfl dX1_throughDoors_37 ?_
            refine j_getR h 41 rfl glX1_11 (hc_0 hc) rfl dX1_throughDoors_38 ?_
            refine j_iload h 43 rfl rfl dX1_throughDoors_41 ?_
            refine j_aald h 44 rfl (hc_1 hc) _ rfl (by omega) rfl dX1_throughDoors_43 ?_
            refine j_iload_n h 45 rfl rfl dX1_throughDoors_44 ?_
            refine j_iald h 46 rfl (hc_A hc _ (by omega)) _ rfl (by omega) rfl dX1_throughDoors_45 ?_
            refine j_aload_n h 47 rfl rfl dX1_throughDoors_46 ?_
            refine j_getR h 50 rfl glX1_11 (hc_0 hc) rfl dX1_throughDoors_47 ?_
            refine j_iload_n h 51 rfl rfl dX1_throughDoors_50 ?_
            refine j_aald h 52 rfl (hc_1 hc) _ rfl (by omega) rfl dX1_throughDoors_51 ?_
            refine j_iload_n h 53 rfl rfl dX1_throughDoors_52 ?_
            refine j_iald h 54 rfl (hc_A hc _ (by omega)) _ rfl (by omega) rfl dX1_throughDoors_53 ?_
            refine j_isub h 55 rfl dX1_throughDoors_54 ?_
            refine j_iload h 57 rfl rfl dX1_throughDoors_55 ?_
            refine j_imul h 58 rfl dX1_throughDoors_57 ?_
            refine j_bipush h 60 rfl (nI 100) (by decide) dX1_throughDoors_58 ?_
            refine j_idiv h 61 rfl (by decide) dX1_throughDoors_60 ?_
            refine j_iadd h 62 rfl dX1_throughDoors_61 ?_
            refine j_istore h 64 rfl rfl dX1_throughDoors_62 ?_
            refine j_iincN h 67 rfl rfl rfl dX1_throughDoors_64 ?_
            refine j_goto h 6 dX1_throughDoors_67 (by decide) ?_
            exact ih (i + 1) _ _ (by omega) (by omega) (by first | exact drS_t c_23 c_32 | exact drS_f (Or.inl c_23) | exact drS_f (Or.inr c_32) | exact drS_f (Or.inr (Decidable.not_not.mp c_32)))
  exact L 6 0 _ _ (by omega) (by omega) rfl
set_option maxRecDepth 100000 in
set_option maxHeartbeats 4000000 in
theorem t_X1_goOn (M : hM) (c r n0 : Nat) (hc : IsC c) (hr5 : r < 5) (hn : n0 < 96) : Ct 3 mX1_goOn [.ref c, .int (nI r), .int (nI n0), .ref 14, .ref 29] M (pV (fun M2 => M2 = mu (mu (mu M (c + 4 + r) (n0 + 1) (stA M (fun q => M (c + 4 + q) n0) (fun q => M (c + 9 + q) n0) r n0)) (c + 9 + r) (n0 + 1) (stW M (fun q => M (c + 4 + q) n0) (fun q => M (c + 9 + q) n0) r n0)) (c + 14 + r) n0 (hb (opP M r n0 (M (c + 4 + r) n0))))) := by
  refine ct_of (lv := [some (.ref c), some (.int (nI r)), some (.int (nI n0)), some (.ref 14), some (.ref 29), none, none, none, none, none, none]) (by decide +kernel) (fun _ _ hq => hq) rfl (fun _ => Nat.le_of_ble_eq_true rfl) (fun X h hr => ?_)
  have hlo := hc_lo hc
  refine j_aload_n h 1 rfl rfl dX1_goOn_0 ?_
  refine j_getR h 4 rfl glX1_11 (hc_0 hc) rfl dX1_goOn_1 ?_
  refine j_iload_n h 5 rfl rfl dX1_goOn_4 ?_
  refine j_aald h 6 rfl (hc_1 hc) _ rfl (by omega) rfl dX1_goOn_5 ?_
  refine j_iload_n h 7 rfl rfl dX1_goOn_6 ?_
  refine j_iald h 8 rfl (hc_A hc _ (by omega)) _ rfl (by omega) rfl dX1_goOn_7 ?_
  refine j_istore h 10 rfl rfl dX1_goOn_8 ?_
  refine j_aload_n h 11 rfl rfl dX1_goOn_10 ?_
  refine j_getR h 14 rfl glX1_16 (hc_0 hc) rfl dX1_goOn_11 ?_
  refine j_iload_n h 15 rfl rfl dX1_goOn_14 ?_
  refine j_aald h 16 rfl (hc_2 hc) _ rfl (by omega) rfl dX1_goOn_15 ?_
  refine j_iload_n h 17 rfl rfl dX1_goOn_16 ?_
  refine j_iald h 18 rfl (hc_B hc _ (by omega)) _ rfl (by omega) rfl dX1_goOn_17 ?_
  refine j_istore h 20 rfl rfl dX1_goOn_18 ?_
  refine j_aload h 22 rfl rfl dX1_goOn_20 ?_
  refine j_iload_n h 23 rfl rfl dX1_goOn_22 ?_
  refine j_callVI h 26 rfl lkX1_39 sh_29 rfl rfl (t_X4_skyAt _ _ (by omega)) rfl rfl rfl dX1_goOn_23 ?_
  refine j_istore h 28 rfl rfl dX1_goOn_26 ?_
  refine j_aload_n h 29 rfl rfl dX1_goOn_28 ?_
  refine j_callVI h 32 rfl lkX1_44 sh_14 rfl rfl (t_X3_homeHours _) rfl rfl rfl dX1_goOn_29 ?_
  refine j_iload_n h 33 rfl rfl dX1_goOn_32 ?_
  refine j_bipush h 35 rfl (nI 24) (by decide) dX1_goOn_33 ?_
  refine j_iremN h 36 rfl (by omega) (by omega) (by omega) dX1_goOn_35 ?_
  refine j_callNI h 39 rfl lkX1_48 rfl (t_X10_hasBit _ _ _) rfl rfl rfl dX1_goOn_36 ?_
  refine j_istore h 41 rfl rfl dX1_goOn_39 ?_
  have K63 : ∀ x, x = hb (opP M r n0 (M (c + 4 + r) n0)) → J X 63 [some (.ref c), some (.int (nI r)), some (.int (nI n0)), some (.ref 14), some (.ref 29), some (.int (M (c + 4 + r) n0)), some (.int (M (c + 9 + r) n0)), some (.int (M 39 n0)), some (.int (hb (bitP (M 14 9) (nI (n0 % 24))))), none, none] [.int x] M := by
    intro x hx
    subst hx
    refine j_istore h 65 rfl rfl dX1_goOn_63 ?_
    refine j_aload h 67 rfl rfl dX1_goOn_65 ?_
    refine j_iload_n h 68 rfl rfl dX1_goOn_67 ?_
    refine j_iload_n h 69 rfl rfl dX1_goOn_68 ?_
    refine j_bipush h 71 rfl (nI 24) (by decide) dX1_goOn_69 ?_
    refine j_iremN h 72 rfl (by omega) (by omega) (by omega) dX1_goOn_71 ?_
    refine j_callVI h 75 rfl lkX1_56 sh_29 rfl rfl (t_X4_sunIn _ _ _ (by omega) (by omega)) rfl rfl rfl dX1_goOn_72 ?_
    refine j_iload h 77 rfl rfl dX1_goOn_75 ?_
    refine j_iload h 79 rfl rfl dX1_goOn_77 ?_
    refine j_isub h 80 rfl dX1_goOn_79 ?_
    refine j_aload h 82 rfl rfl dX1_goOn_80 ?_
    refine j_callVI h 85 rfl lkX1_60 sh_29 rfl rfl (t_X4_gives _) rfl rfl rfl dX1_goOn_82 ?_
    refine j_imul h 86 rfl dX1_goOn_85 ?_
    refine j_bipush h 88 rfl (nI 100) (by decide) dX1_goOn_86 ?_
    refine j_idiv h 89 rfl (by decide) dX1_goOn_88 ?_
    refine j_iadd h 90 rfl dX1_goOn_89 ?_
    refine j_istore h 92 rfl rfl dX1_goOn_90 ?_
    refine j_iload h 94 rfl rfl dX1_goOn_92 ?_
    refine j_aload_n h 95 rfl rfl dX1_goOn_94 ?_
    refine j_iload_n h 96 rfl rfl dX1_goOn_95 ?_
    refine j_iload_n h 97 rfl rfl dX1_goOn_96 ?_
    refine j_aload_n h 98 rfl rfl dX1_goOn_97 ?_
    refine j_callVI h 101 rfl lkX1_63 (hc_0 hc) rfl rfl (t_X1_throughDoors _ _ _ _ hc (by omega) (by omega)) rfl rfl rfl dX1_goOn_98 ?_
    refine j_iadd h 102 rfl dX1_goOn_101 ?_
    refine j_istore h 104 rfl rfl dX1_goOn_102 ?_
    have K121 : ∀ x, x = cm2 M (fun q => M (c + 4 + q) n0) (fun q => M (c + 9 + q) n0) r n0 → J X 121 [some (.ref c), some (.int (nI r)), some (.int (nI n0)), some (.ref 14), some (.ref 29), some (.int (M (c + 4 + r) n0)), some (.int (M (c + 9 + r) n0)), some (.int (M 39 n0)), some (.int (hb (bitP (M 14 9) (nI (n0 % 24))))), some (.int (hb (opP M r n0 (M (c + 4 + r) n0)))), some (.int x)] [] M := by
      intro x hx
      have K144 : ∀ x, x = cm3 M (fun q => M (c + 4 + q) n0) (fun q => M (c + 9 + q) n0) r n0 → J X 144 [some (.ref c), some (.int (nI r)), some (.int (nI n0)), some (.ref 14), some (.ref 29), some (.int (M (c + 4 + r) n0)), some (.int (M (c + 9 + r) n0)), some (.int (M 39 n0)), some (.int (hb (bitP (M 14 9) (nI (n0 % 24))))), some (.int (hb (opP M r n0 (M (c + 4 + r) n0)))), some (.int x)] [] M := by
        intro x hx
        subst hx
        refine j_aload_n h 145 rfl rfl dX1_goOn_144 ?_
        refine j_getR h 148 rfl glX1_11 (hc_0 hc) rfl dX1_goOn_145 ?_
        refine j_iload_n h 149 rfl rfl dX1_goOn_148 ?_
        refine j_aald h 150 rfl (hc_1 hc) _ rfl (by omega) rfl dX1_goOn_149 ?_
        refine j_iload_n h 151 rfl rfl dX1_goOn_150 ?_
        refine j_iconst h 152 rfl (nI 1) (by decide) dX1_goOn_151 ?_
        refine j_iaddN h 153 rfl dX1_goOn_152 ?_
        refine j_iload h 155 rfl rfl dX1_goOn_153 ?_
        refine j_iload h 157 rfl rfl dX1_goOn_155 ?_
        refine j_iadd h 158 rfl dX1_goOn_157 ?_
        refine j_iast h 159 rfl (hc_A hc _ (by omega)) _ rfl (by omega) rfl dX1_goOn_158 ?_
        refine j_aload_n h 160 rfl rfl dX1_goOn_159 ?_
        refine j_getR h 163 rfl glX1_16 (hc_0 hc) rfl dX1_goOn_160 ?_
        refine j_iload_n h 164 rfl rfl dX1_goOn_163 ?_
        refine j_aald h 165 rfl (hc_2 hc) _ rfl (by omega) rfl dX1_goOn_164 ?_
        refine j_iload_n h 166 rfl rfl dX1_goOn_165 ?_
        refine j_iconst h 167 rfl (nI 1) (by decide) dX1_goOn_166 ?_
        refine j_iaddN h 168 rfl dX1_goOn_167 ?_
        refine j_iload h 170 rfl rfl dX1_goOn_168 ?_
        refine j_iload h 172 rfl rfl dX1_goOn_170 ?_
        refine j_iload h 174 rfl rfl dX1_goOn_172 ?_
        refine j_isub h 175 rfl dX1_goOn_174 ?_
        refine j_aload h 177 rfl rfl dX1_goOn_175 ?_
        refine j_callVI h 180 rfl lkX1_73 sh_29 rfl rfl (t_X4_takes _) rfl rfl rfl dX1_goOn_177 ?_
        rw [mu_a (show (29 : Nat) ≠ c + 4 + r by omega)]
        refine j_imul h 181 rfl dX1_goOn_180 ?_
        refine j_bipush h 183 rfl (nI 100) (by decide) dX1_goOn_181 ?_
        refine j_idiv h 184 rfl (by decide) dX1_goOn_183 ?_
        refine j_iadd h 185 rfl dX1_goOn_184 ?_
        refine j_iload h 187 rfl rfl dX1_goOn_185 ?_
        refine j_iload h 189 rfl rfl dX1_goOn_187 ?_
        refine j_isub h 190 rfl dX1_goOn_189 ?_
        refine j_aload h 192 rfl rfl dX1_goOn_190 ?_
        refine j_iload_n h 193 rfl rfl dX1_goOn_192 ?_
        refine j_callVI h 196 rfl lkX1_76 sh_29 rfl rfl (t_X4_leaks _ _ (by omega)) rfl rfl rfl dX1_goOn_193 ?_
        rw [mu_a (show (32 : Nat) ≠ c + 4 + r by omega)]
        refine j_imul h 197 rfl dX1_goOn_196 ?_
        refine j_bipush h 199 rfl (nI 100) (by decide) dX1_goOn_197 ?_
        refine j_idiv h 200 rfl (by decide) dX1_goOn_199 ?_
        refine j_iadd h 201 rfl dX1_goOn_200 ?_
        refine j_iast h 202 rfl (hc_B hc _ (by omega)) _ rfl (by omega) rfl dX1_goOn_201 ?_
        refine j_aload_n h 203 rfl rfl dX1_goOn_202 ?_
        refine j_getR h 206 rfl glX1_19 (hc_0 hc) rfl dX1_goOn_203 ?_
        refine j_iload_n h 207 rfl rfl dX1_goOn_206 ?_
        refine j_aald h 208 rfl (hc_3 hc) _ rfl (by omega) rfl dX1_goOn_207 ?_
        refine j_iload_n h 209 rfl rfl dX1_goOn_208 ?_
        refine j_iload h 211 rfl rfl dX1_goOn_209 ?_
        refine j_if_eqB h 218 214 dX1_goOn_211 (by decide) rfl (fun c_211 => ?_) (fun c_211 => ?_)
        · skip
          refine j_iconst h 219 rfl (nI 0) (by decide) dX1_goOn_218 ?_
          refine j_iast h 220 rfl (hc_O hc _ (by omega)) _ rfl (by omega) rfl dX1_goOn_219 ?_
          exact j_vret h hr dX1_goOn_220 ⟨rfl, by first | (rw [hb_t (by assumption)]; rfl) | (rw [hb_f (by assumption)]; rfl)⟩
        · skip
          refine j_iconst h 215 rfl (nI 1) (by decide) dX1_goOn_214 ?_
          refine j_goto h 219 dX1_goOn_215 (by decide) ?_
          refine j_iast h 220 rfl (hc_O hc _ (by omega)) _ rfl (by omega) rfl dX1_goOn_219 ?_
          exact j_vret h hr dX1_goOn_220 ⟨rfl, by first | (rw [hb_t (by assumption)]; rfl) | (rw [hb_f (by assumption)]; rfl)⟩
      refine j_iload h 123 rfl rfl dX1_goOn_121 ?_
      refine j_if_eqB h 144 126 dX1_goOn_123 (by decide) rfl (fun c_123 => ?_) (fun c_123 => ?_)
      · skip
        exact K144 _ (by rw [hx]; unfold cm3; first | rw [if_pos c_123] | rw [if_neg c_123])
      · skip
        refine j_iload h 128 rfl rfl dX1_goOn_126 ?_
        refine j_iload h 130 rfl rfl dX1_goOn_128 ?_
        refine j_iload h 132 rfl rfl dX1_goOn_130 ?_
        refine j_isub h 133 rfl dX1_goOn_132 ?_
        refine j_aload_n h 134 rfl rfl dX1_goOn_133 ?_
        refine j_callVI h 137 rfl lkX1_70 sh_14 rfl rfl (t_X3_window _) rfl rfl rfl dX1_goOn_134 ?_
        refine j_imul h 138 rfl dX1_goOn_137 ?_
        refine j_bipush h 140 rfl (nI 100) (by decide) dX1_goOn_138 ?_
        refine j_idiv h 141 rfl (by decide) dX1_goOn_140 ?_
        refine j_iadd h 142 rfl dX1_goOn_141 ?_
        refine j_istore h 144 rfl rfl dX1_goOn_142 ?_
        exact K144 _ (by rw [hx]; unfold cm3; first | rw [if_pos c_123] | rw [if_neg c_123])
    refine j_iload h 106 rfl rfl dX1_goOn_104 ?_
    refine j_if_eqB h 121 109 dX1_goOn_106 (by decide) rfl (fun c_106 => ?_) (fun c_106 => ?_)
    · skip
      exact K121 _ (by unfold cm2; first | rw [if_pos c_106]; rfl | rw [if_neg c_106]; rfl)
    · skip
      refine j_iload h 111 rfl rfl dX1_goOn_109 ?_
      refine j_iconst h 112 rfl (nI 2) (by decide) dX1_goOn_111 ?_
      refine j_aload_n h 113 rfl rfl dX1_goOn_112 ?_
      refine j_iload_n h 114 rfl rfl dX1_goOn_113 ?_
      refine j_callVI h 117 rfl lkX1_67 sh_14 rfl rfl (t_X3_folk _ _ (by omega)) rfl rfl rfl dX1_goOn_114 ?_
      refine j_imul h 118 rfl dX1_goOn_117 ?_
      refine j_iadd h 119 rfl dX1_goOn_118 ?_
      refine j_istore h 121 rfl rfl dX1_goOn_119 ?_
      exact K121 _ (by unfold cm2; first | rw [if_pos c_106]; rfl | rw [if_neg c_106]; rfl)
  refine j_iload h 43 rfl rfl dX1_goOn_41 ?_
  refine j_if_eqB h 62 46 dX1_goOn_43 (by decide) rfl (fun c_43 => ?_) (fun c_43 => ?_)
  · skip
    refine j_iconst h 63 rfl (nI 0) (by decide) dX1_goOn_62 ?_
    exact K63 _ (by first | (rw [hb_t ⟨c_43, c_55⟩]; rfl) | (rw [hb_f (fun z => c_43 z.1)]; rfl) | (rw [hb_f (fun z => c_55 z.2)]; rfl))
  · skip
    refine j_aload h 48 rfl rfl dX1_goOn_46 ?_
    refine j_iload_n h 49 rfl rfl dX1_goOn_48 ?_
    refine j_iload_n h 50 rfl rfl dX1_goOn_49 ?_
    refine j_iload h 52 rfl rfl dX1_goOn_50 ?_
    refine j_callVI h 55 rfl lkX1_52 sh_29 rfl rfl (t_X4_wouldOpen _ _ _ _ (by omega) (by omega)) rfl rfl rfl dX1_goOn_52 ?_
    refine j_if_eqB h 62 58 dX1_goOn_55 (by decide) rfl (fun c_55 => ?_) (fun c_55 => ?_)
    · skip
      refine j_iconst h 63 rfl (nI 0) (by decide) dX1_goOn_62 ?_
      exact K63 _ (by first | (rw [hb_t ⟨c_43, c_55⟩]; rfl) | (rw [hb_f (fun z => c_43 z.1)]; rfl) | (rw [hb_f (fun z => c_55 z.2)]; rfl))
    · skip
      refine j_iconst h 59 rfl (nI 1) (by decide) dX1_goOn_58 ?_
      refine j_goto h 63 dX1_goOn_59 (by decide) ?_
      exact K63 _ (by first | (rw [hb_t ⟨c_43, c_55⟩]; rfl) | (rw [hb_f (fun z => c_43 z.1)]; rfl) | (rw [hb_f (fun z => c_55 z.2)]; rfl))
