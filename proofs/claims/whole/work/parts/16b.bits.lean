/-! Rings: sets of flats as numbers below 256 -/
def pcK (s : Nat) : Nat → Nat
  | 0 => 0
  | k + 1 => pcK s k + s / 2 ^ k % 2
def pc (s : Nat) : Nat := pcK s 8
theorem rb_bit : ∀ s, s < 256 → ∀ f, f < 8 → (bitP (nI s) (nI f) ↔ s.testBit f = true) := by decide +kernel
theorem rb_rem : ∀ s, s < 256 → ∀ f, f < 8 → s.testBit f = true → (nI s &&& ((nI 1 <<< (nI f &&& 31)) ^^^ -1) = nI (s ^^^ 2 ^ f) ∧ s ^^^ 2 ^ f < s ∧ pc (s ^^^ 2 ^ f) + 1 = pc s) := by decide +kernel
theorem rb_sub : ∀ s, s < 256 → ∀ a, a < 256 → ((nI s &&& (nI a ^^^ -1)) = 0 ↔ s &&& a = s) := by decide +kernel
theorem rb_or : ∀ f, f < 8 → ∀ a, a < 2 ^ f → nI a ||| (nI 1 <<< (nI f &&& 31)) = nI (a + 2 ^ f) := by decide +kernel
theorem rb_none : ∀ s, s < 256 → (∀ f, f < 8 → s.testBit f = false) → s = 0 := by decide +kernel
theorem rb_pc : ∀ s, s < 256 → pc s ≤ 8 ∧ (pc s = 0 ↔ s = 0) := by decide +kernel
def bcE (x : Int32) : Int32 :=
  let a := x - ((x.toUInt32 >>> ((nI 1).toUInt32 &&& Int32.toUInt32 31)).toInt32 &&& nI 1431655765)
  let b := (a &&& nI 858993459) + ((a.toUInt32 >>> ((nI 2).toUInt32 &&& Int32.toUInt32 31)).toInt32 &&& nI 858993459)
  let c := (b + (b.toUInt32 >>> ((nI 4).toUInt32 &&& Int32.toUInt32 31)).toInt32) &&& nI 252645135
  let d := c + (c.toUInt32 >>> ((nI 8).toUInt32 &&& Int32.toUInt32 31)).toInt32
  let e := d + (d.toUInt32 >>> ((nI 16).toUInt32 &&& Int32.toUInt32 31)).toInt32
  e &&& nI 63
theorem bcE_pc : ∀ s, s < 256 → bcE (nI s) = nI (pc s) := by decide +kernel
theorem sb_pc : ∀ s, s < 256 → ∀ a, a < 256 → s &&& a = s → pc s ≤ pc a := by decide +kernel
