/-! THE GRAPH: HotWeek 0, Text 1, text.bytes 2, Reader 3, reader.kinds 4, reader.numbers 5, reader.numbers0 6, House 14, house.told 15, house.firstAir 16, house.firstWall 17, house.side 18, house.folk 19, house.habit 20, house.openHours 21, house.shutHours 22, house.passes 23, house.passes0 24, Plan 29, plan.habit 30, plan.openHours 31, plan.leaks 32, plan.sun 33, plan.sun0 34, plan.sky 39, Course.told 40, told.air 41, told.wall 42, told.open 43, told.air0 44, told.wall0 49, told.open0 54, Course.tried 59, tried.air 60, tried.wall 61, tried.open 62, tried.air0 63, tried.wall0 68, tried.open0 73, BestClock 78, Works 79, works.room 80, works.cost 81, works.sun 82, works.leak 83, Glasses 84, glasses.room 85, glasses.hour 86, glasses.air 87, Rings 88, rings.weight 89, rings.due 90, rings.leastLost 91, Street 92, Model 93, m.room 94, m.habit 95, m.open 96, m.shut 97, m.door 98, m.text 99, m.read 100, m.air 101, m.wall 102, m.isOpen 103, m.airNow 104, m.wallNow 105, m.airThen 106, m.wallThen 107, m.habitNow 108, m.openNow 109, m.workRoom 110, m.workCost 111, m.workSun 112, m.workLeak 113, m.rowRoom 114, m.rowHour 115, m.rowAir 116, m.weight 117, m.due 118, m.rest 119, m.learnt 120 -/
def hT : List (Nat × Nat × List Nat) := [
  (0, 10, [3, 5, 16, 31, 42, 61, 80, 81, 86, 90, 94, 0]),
  (0, 8, [4, 0]),
  (1, 200, []),
  (0, 5, [6, 7, 0, 0]),
  (1, 8, []),
  (3, 8, [6]),
  (1, 5, []),
  (1, 5, []),
  (1, 5, []),
  (1, 5, []),
  (1, 5, []),
  (1, 5, []),
  (1, 5, []),
  (1, 5, []),
  (0, 3, [17, 18, 19, 20, 21, 22, 23, 24, 25, 0, 0, 0, 0, 0, 0, 0, 0, 0]),
  (2, 5, []),
  (1, 5, []),
  (1, 5, []),
  (1, 5, []),
  (1, 5, []),
  (1, 5, []),
  (1, 5, []),
  (1, 5, []),
  (3, 5, [24]),
  (1, 5, []),
  (1, 5, []),
  (1, 5, []),
  (1, 5, []),
  (1, 5, []),
  (0, 4, [32, 33, 34, 35, 41, 0, 0]),
  (1, 5, []),
  (1, 5, []),
  (1, 5, []),
  (3, 5, [34]),
  (1, 24, []),
  (1, 24, []),
  (1, 24, []),
  (1, 24, []),
  (1, 24, []),
  (1, 96, []),
  (0, 1, [43, 44, 45]),
  (3, 5, [44]),
  (3, 5, [49]),
  (3, 5, [54]),
  (1, 97, []),
  (1, 97, []),
  (1, 97, []),
  (1, 97, []),
  (1, 97, []),
  (1, 97, []),
  (1, 97, []),
  (1, 97, []),
  (1, 97, []),
  (1, 97, []),
  (1, 96, []),
  (1, 96, []),
  (1, 96, []),
  (1, 96, []),
  (1, 96, []),
  (0, 1, [62, 63, 64]),
  (3, 5, [63]),
  (3, 5, [68]),
  (3, 5, [73]),
  (1, 97, []),
  (1, 97, []),
  (1, 97, []),
  (1, 97, []),
  (1, 97, []),
  (1, 97, []),
  (1, 97, []),
  (1, 97, []),
  (1, 97, []),
  (1, 97, []),
  (1, 96, []),
  (1, 96, []),
  (1, 96, []),
  (1, 96, []),
  (1, 96, []),
  (0, 0, [0, 0, 0, 0, 0]),
  (0, 9, [82, 83, 84, 85, 0, 0, 0]),
  (1, 6, []),
  (1, 6, []),
  (1, 6, []),
  (1, 6, []),
  (0, 2, [87, 88, 89, 0, 0, 0, 0, 0, 0]),
  (1, 8, []),
  (1, 8, []),
  (1, 8, []),
  (0, 6, [91, 92, 93]),
  (1, 8, []),
  (1, 8, []),
  (1, 256, []),
  (0, 7, [0, 0, 0, 0, 0, 0, 0, 0]),
  (0, 11, [0, 96, 97, 98, 99, 100, 0, 0, 0, 0, 0, 0, 0, 0, 0, 0, 101, 0, 0, 1, 0, 0, 0, 0, 102, 103, 104, 105, 106, 107, 108, 109, 0, 110, 111, 0, 112, 113, 114, 115, 0, 116, 117, 118, 119, 120, 121, 122]),
  (1, 20, []),
  (1, 5, []),
  (1, 5, []),
  (1, 5, []),
  (1, 25, []),
  (1, 200, []),
  (1, 48, []),
  (1, 480, []),
  (1, 480, []),
  (1, 480, []),
  (1, 5, []),
  (1, 5, []),
  (1, 5, []),
  (1, 5, []),
  (1, 5, []),
  (1, 5, []),
  (1, 6, []),
  (1, 6, []),
  (1, 6, []),
  (1, 6, []),
  (1, 8, []),
  (1, 8, []),
  (1, 8, []),
  (1, 8, []),
  (1, 8, []),
  (1, 256, []),
  (1, 5, [])]
theorem hT_len : hT.length = 121 := rfl
theorem sh_0 : hT[0]? = some (0, 10, [3, 5, 16, 31, 42, 61, 80, 81, 86, 90, 94, 0]) := rfl
theorem sh_1 : hT[1]? = some (0, 8, [4, 0]) := rfl
theorem sh_2 : hT[2]? = some (1, 200, []) := rfl
theorem sh_3 : hT[3]? = some (0, 5, [6, 7, 0, 0]) := rfl
theorem sh_4 : hT[4]? = some (1, 8, []) := rfl
theorem sh_5 : hT[5]? = some (3, 8, [6]) := rfl
theorem sh_6 : hT[6]? = some (1, 5, []) := rfl
theorem sh_7 : hT[7]? = some (1, 5, []) := rfl
theorem sh_8 : hT[8]? = some (1, 5, []) := rfl
theorem sh_9 : hT[9]? = some (1, 5, []) := rfl
theorem sh_10 : hT[10]? = some (1, 5, []) := rfl
theorem sh_11 : hT[11]? = some (1, 5, []) := rfl
theorem sh_12 : hT[12]? = some (1, 5, []) := rfl
theorem sh_13 : hT[13]? = some (1, 5, []) := rfl
theorem sh_14 : hT[14]? = some (0, 3, [17, 18, 19, 20, 21, 22, 23, 24, 25, 0, 0, 0, 0, 0, 0, 0, 0, 0]) := rfl
theorem sh_15 : hT[15]? = some (2, 5, []) := rfl
theorem sh_16 : hT[16]? = some (1, 5, []) := rfl
theorem sh_17 : hT[17]? = some (1, 5, []) := rfl
theorem sh_18 : hT[18]? = some (1, 5, []) := rfl
theorem sh_19 : hT[19]? = some (1, 5, []) := rfl
theorem sh_20 : hT[20]? = some (1, 5, []) := rfl
theorem sh_21 : hT[21]? = some (1, 5, []) := rfl
theorem sh_22 : hT[22]? = some (1, 5, []) := rfl
theorem sh_23 : hT[23]? = some (3, 5, [24]) := rfl
theorem sh_24 : hT[24]? = some (1, 5, []) := rfl
theorem sh_25 : hT[25]? = some (1, 5, []) := rfl
theorem sh_26 : hT[26]? = some (1, 5, []) := rfl
theorem sh_27 : hT[27]? = some (1, 5, []) := rfl
theorem sh_28 : hT[28]? = some (1, 5, []) := rfl
theorem sh_29 : hT[29]? = some (0, 4, [32, 33, 34, 35, 41, 0, 0]) := rfl
theorem sh_30 : hT[30]? = some (1, 5, []) := rfl
theorem sh_31 : hT[31]? = some (1, 5, []) := rfl
theorem sh_32 : hT[32]? = some (1, 5, []) := rfl
theorem sh_33 : hT[33]? = some (3, 5, [34]) := rfl
theorem sh_34 : hT[34]? = some (1, 24, []) := rfl
theorem sh_35 : hT[35]? = some (1, 24, []) := rfl
theorem sh_36 : hT[36]? = some (1, 24, []) := rfl
theorem sh_37 : hT[37]? = some (1, 24, []) := rfl
theorem sh_38 : hT[38]? = some (1, 24, []) := rfl
theorem sh_39 : hT[39]? = some (1, 96, []) := rfl
theorem sh_40 : hT[40]? = some (0, 1, [43, 44, 45]) := rfl
theorem sh_41 : hT[41]? = some (3, 5, [44]) := rfl
theorem sh_42 : hT[42]? = some (3, 5, [49]) := rfl
theorem sh_43 : hT[43]? = some (3, 5, [54]) := rfl
theorem sh_44 : hT[44]? = some (1, 97, []) := rfl
theorem sh_45 : hT[45]? = some (1, 97, []) := rfl
theorem sh_46 : hT[46]? = some (1, 97, []) := rfl
theorem sh_47 : hT[47]? = some (1, 97, []) := rfl
theorem sh_48 : hT[48]? = some (1, 97, []) := rfl
theorem sh_49 : hT[49]? = some (1, 97, []) := rfl
theorem sh_50 : hT[50]? = some (1, 97, []) := rfl
theorem sh_51 : hT[51]? = some (1, 97, []) := rfl
theorem sh_52 : hT[52]? = some (1, 97, []) := rfl
theorem sh_53 : hT[53]? = some (1, 97, []) := rfl
theorem sh_54 : hT[54]? = some (1, 96, []) := rfl
theorem sh_55 : hT[55]? = some (1, 96, []) := rfl
theorem sh_56 : hT[56]? = some (1, 96, []) := rfl
theorem sh_57 : hT[57]? = some (1, 96, []) := rfl
theorem sh_58 : hT[58]? = some (1, 96, []) := rfl
theorem sh_59 : hT[59]? = some (0, 1, [62, 63, 64]) := rfl
theorem sh_60 : hT[60]? = some (3, 5, [63]) := rfl
theorem sh_61 : hT[61]? = some (3, 5, [68]) := rfl
theorem sh_62 : hT[62]? = some (3, 5, [73]) := rfl
theorem sh_63 : hT[63]? = some (1, 97, []) := rfl
theorem sh_64 : hT[64]? = some (1, 97, []) := rfl
theorem sh_65 : hT[65]? = some (1, 97, []) := rfl
theorem sh_66 : hT[66]? = some (1, 97, []) := rfl
theorem sh_67 : hT[67]? = some (1, 97, []) := rfl
theorem sh_68 : hT[68]? = some (1, 97, []) := rfl
theorem sh_69 : hT[69]? = some (1, 97, []) := rfl
theorem sh_70 : hT[70]? = some (1, 97, []) := rfl
theorem sh_71 : hT[71]? = some (1, 97, []) := rfl
theorem sh_72 : hT[72]? = some (1, 97, []) := rfl
theorem sh_73 : hT[73]? = some (1, 96, []) := rfl
theorem sh_74 : hT[74]? = some (1, 96, []) := rfl
theorem sh_75 : hT[75]? = some (1, 96, []) := rfl
theorem sh_76 : hT[76]? = some (1, 96, []) := rfl
theorem sh_77 : hT[77]? = some (1, 96, []) := rfl
theorem sh_78 : hT[78]? = some (0, 0, [0, 0, 0, 0, 0]) := rfl
theorem sh_79 : hT[79]? = some (0, 9, [82, 83, 84, 85, 0, 0, 0]) := rfl
theorem sh_80 : hT[80]? = some (1, 6, []) := rfl
theorem sh_81 : hT[81]? = some (1, 6, []) := rfl
theorem sh_82 : hT[82]? = some (1, 6, []) := rfl
theorem sh_83 : hT[83]? = some (1, 6, []) := rfl
theorem sh_84 : hT[84]? = some (0, 2, [87, 88, 89, 0, 0, 0, 0, 0, 0]) := rfl
theorem sh_85 : hT[85]? = some (1, 8, []) := rfl
theorem sh_86 : hT[86]? = some (1, 8, []) := rfl
theorem sh_87 : hT[87]? = some (1, 8, []) := rfl
theorem sh_88 : hT[88]? = some (0, 6, [91, 92, 93]) := rfl
theorem sh_89 : hT[89]? = some (1, 8, []) := rfl
theorem sh_90 : hT[90]? = some (1, 8, []) := rfl
theorem sh_91 : hT[91]? = some (1, 256, []) := rfl
theorem sh_92 : hT[92]? = some (0, 7, [0, 0, 0, 0, 0, 0, 0, 0]) := rfl
theorem sh_93 : hT[93]? = some (0, 11, [0, 96, 97, 98, 99, 100, 0, 0, 0, 0, 0, 0, 0, 0, 0, 0, 101, 0, 0, 1, 0, 0, 0, 0, 102, 103, 104, 105, 106, 107, 108, 109, 0, 110, 111, 0, 112, 113, 114, 115, 0, 116, 117, 118, 119, 120, 121, 122]) := rfl
theorem sh_94 : hT[94]? = some (1, 20, []) := rfl
theorem sh_95 : hT[95]? = some (1, 5, []) := rfl
theorem sh_96 : hT[96]? = some (1, 5, []) := rfl
theorem sh_97 : hT[97]? = some (1, 5, []) := rfl
theorem sh_98 : hT[98]? = some (1, 25, []) := rfl
theorem sh_99 : hT[99]? = some (1, 200, []) := rfl
theorem sh_100 : hT[100]? = some (1, 48, []) := rfl
theorem sh_101 : hT[101]? = some (1, 480, []) := rfl
theorem sh_102 : hT[102]? = some (1, 480, []) := rfl
theorem sh_103 : hT[103]? = some (1, 480, []) := rfl
theorem sh_104 : hT[104]? = some (1, 5, []) := rfl
theorem sh_105 : hT[105]? = some (1, 5, []) := rfl
theorem sh_106 : hT[106]? = some (1, 5, []) := rfl
theorem sh_107 : hT[107]? = some (1, 5, []) := rfl
theorem sh_108 : hT[108]? = some (1, 5, []) := rfl
theorem sh_109 : hT[109]? = some (1, 5, []) := rfl
theorem sh_110 : hT[110]? = some (1, 6, []) := rfl
theorem sh_111 : hT[111]? = some (1, 6, []) := rfl
theorem sh_112 : hT[112]? = some (1, 6, []) := rfl
theorem sh_113 : hT[113]? = some (1, 6, []) := rfl
theorem sh_114 : hT[114]? = some (1, 8, []) := rfl
theorem sh_115 : hT[115]? = some (1, 8, []) := rfl
theorem sh_116 : hT[116]? = some (1, 8, []) := rfl
theorem sh_117 : hT[117]? = some (1, 8, []) := rfl
theorem sh_118 : hT[118]? = some (1, 8, []) := rfl
theorem sh_119 : hT[119]? = some (1, 256, []) := rfl
theorem sh_120 : hT[120]? = some (1, 5, []) := rfl
def hBnd : List Int32 := [4, 600, 600, 3, 9, 4, 4, 10, -1, -1, 500, 500, 50, -1, -1, 99, -1, -1, -1, -1, 40, 40, 20, 40, -1, 4, 3, -1, -1, -1, 4, 23, 23, -1, -1, 4, 23, 23, -1, -1, 23, 23, -1, -1, -1, 4, -1, -1, -1, -1]
def hIdx : List Nat := [71, 73, 75, 77, 78, 80, 81, 83, 85, 87]
def hTxt : List String := ["room", "door", "sky", "sun", "house", "habit", "open", "shut", "home", "bare"]
def hLen : List Nat := [4, 4, 3, 3, 5, 5, 4, 4, 4, 4]
def hByt : List (List Int32) := [[114, 111, 111, 109], [100, 111, 111, 114], [115, 107, 121], [115, 117, 110], [104, 111, 117, 115, 101], [104, 97, 98, 105, 116], [111, 112, 101, 110], [115, 104, 117, 116], [104, 111, 109, 101], [98, 97, 114, 101]]
/-! The abstract machine: every object is made in the constructors and every field that holds a reference is final, so the world is a fixed graph of cells (numbers 0 .. 120) whose numbers are a function M; a judgement J (place, locals, stack, M) with a row for each instruction. -/
abbrev hM : Type := Nat → Nat → Int32
def mu (M : hM) (a k : Nat) (x : Int32) : hM := fun b j => if b = a ∧ j = k then x else M b j
theorem mu_s {M : hM} {a k : Nat} {x : Int32} : mu M a k x a k = x := if_pos ⟨rfl, rfl⟩
theorem mu_k {M : hM} {a k b j : Nat} {x : Int32} (h : j ≠ k) : mu M a k x b j = M b j := if_neg fun q => h q.2
theorem mu_a {M : hM} {a k b j : Nat} {x : Int32} (h : b ≠ a) : mu M a k x b j = M b j := if_neg fun q => h q.1
def hiW (x : Int64) : Int32 := Int32.ofNat (x.toUInt64.toNat / 4294967296)
def loW (x : Int64) : Int32 := Int32.ofNat (x.toUInt64.toNat % 4294967296)
def mkL (hi lo : Int32) : Int64 := (UInt64.ofNat (hi.toUInt32.toNat * 4294967296 + lo.toUInt32.toNat)).toInt64
theorem mkL_hl (x : Int64) : mkL (hiW x) (loW x) = x := by
  have h1 : ∀ n : Nat, n < 4294967296 → (Int32.ofNat n).toUInt32.toNat = n := fun n hn => by
    show ((Int32.ofNat n).toUInt32).toNat = n
    have : (Int32.ofNat n).toUInt32 = UInt32.ofNat n := rfl
    rw [this]
    first
      | exact UInt32.toNat_ofNat_of_lt' hn
      | (rw [UInt32.toNat_ofNat']; exact Nat.mod_eq_of_lt hn)
      | (simp; omega)
  have hx : x.toUInt64.toNat < 18446744073709551616 := x.toUInt64.toNat_lt
  unfold mkL hiW loW
  rw [h1 _ (by omega), h1 _ (by omega), show x.toUInt64.toNat / 4294967296 * 4294967296 + x.toUInt64.toNat % 4294967296 = x.toUInt64.toNat by omega]
  rw [UInt64.ofNat_toNat]
  exact Int64.toInt64_toUInt64 x
abbrev hSh : Type := Nat × Nat × List Nat
/-- an address of the graph in the heap -/
def cv (ρ : Nat → Nat) : Value → Value
  | .ref a => .ref (ρ a)
  | v => v
theorem cv_cat (ρ : Nat → Nat) (v : Value) : (cv ρ v).category = v.category := by cases v <;> rfl
/-- a field's value: 0 an int, 1 a long, b + 2 the cell b -/
def fva (M : hM) (a k : Nat) : Nat → Value
  | 0 => .int (M a k)
  | 1 => .long (mkL (M a k) (M a (k + 1000)))
  | b + 2 => .ref b
def fvs (ρ : Nat → Nat) (M : hM) (a : Nat) : Nat → List Nat → List Value
  | _, [] => []
  | k, f :: fs => cv ρ (fva M a k f) :: fvs ρ M a (k + 1) fs
theorem fvs_len (ρ : Nat → Nat) (M : hM) (a : Nat) : ∀ (fs : List Nat) (k : Nat), (fvs ρ M a k fs).length = fs.length
  | [], _ => rfl
  | _ :: fs, k => congrArg Nat.succ (fvs_len ρ M a fs (k + 1))
theorem fvs_get (ρ : Nat → Nat) (M : hM) (a : Nat) : ∀ (fs : List Nat) (k j : Nat), (fvs ρ M a k fs)[j]? = (fs[j]?).map (fun f => cv ρ (fva M a (k + j) f))
  | [], _, _ => rfl
  | _ :: _, _, 0 => rfl
  | f :: fs, k, j + 1 => by
    show (fvs ρ M a (k + 1) fs)[j]? = (fs[j]?).map _
    rw [fvs_get ρ M a fs (k + 1) j, Nat.add_right_comm]
    rfl
/-- what a cell is: (0, class, fields), (1, n, []) ints, (2, n, []) booleans, (3, n, [b]) rows b, b + 1 .. -/
def hE (cI cZ cQ : ClassId) (ρ : Nat → Nat) (M : hM) (a : Nat) : hSh → va_E
  | (0, ci, fs) => .inr (ci, fvs ρ M a 0 fs)
  | (1, n, _) => .inl (cI, n, .inl (M a))
  | (2, n, _) => .inl (cZ, n, .inl (M a))
  | (_ + 3, n, fs) => .inl (cQ, n, .inr (.inr (.inr (.inr (fun i => if i < n then some (ρ (fs.headD 0 + i)) else none)))))
def hW (cI cZ cQ : ClassId) (ρ : Nat → Nat) (M : hM) : va_W := (List.range hT.length).map (fun a => (ρ a, hE cI cZ cQ ρ M a (hT.getD a (0, 0, []))))
theorem hW_len (cI cZ cQ : ClassId) (ρ : Nat → Nat) (M : hM) : (hW cI cZ cQ ρ M).length = hT.length := by simp [hW]
theorem hW_get (cI cZ cQ : ClassId) (ρ : Nat → Nat) (M : hM) {a : Nat} {sh : hSh} (h : hT[a]? = some sh) : (hW cI cZ cQ ρ M)[a]? = some (ρ a, hE cI cZ cQ ρ M a sh) := by
  have hl : a < hT.length := (List.getElem?_eq_some_iff.mp h).1
  unfold hW
  rw [List.getElem?_map, List.getElem?_range hl]
  show some (ρ a, hE cI cZ cQ ρ M a (hT.getD a (0, 0, []))) = _
  rw [List.getD_eq_getElem?_getD, h]
  rfl
theorem hW_inv (cI cZ cQ : ClassId) (ρ : Nat → Nat) (M : hM) {k : Nat} {q : Nat × va_E} (h : (hW cI cZ cQ ρ M)[k]? = some q) : k < hT.length ∧ q.1 = ρ k := by
  have hl : k < (hW cI cZ cQ ρ M).length := (List.getElem?_eq_some_iff.mp h).1
  rw [hW_len] at hl
  refine ⟨hl, ?_⟩
  unfold hW at h
  rw [List.getElem?_map, List.getElem?_range hl] at h
  cases h
  rfl
theorem hW_put (cI cZ cQ : ClassId) (ρ : Nat → Nat) (M M' : hM) {a : Nat} {e : va_E} {sh : hSh} (h : hT[a]? = some sh) (he : hE cI cZ cQ ρ M' a sh = e) (ho : ∀ b, b ≠ a → ∀ s2, hE cI cZ cQ ρ M' b s2 = hE cI cZ cQ ρ M b s2) : (hW cI cZ cQ ρ M).set a (ρ a, e) = hW cI cZ cQ ρ M' := by
  have hl : a < hT.length := (List.getElem?_eq_some_iff.mp h).1
  apply List.ext_getElem?
  intro k
  by_cases hk : k < hT.length
  · obtain ⟨s2, hs2⟩ : ∃ s2, hT[k]? = some s2 := ⟨hT[k], List.getElem?_eq_getElem hk⟩
    rw [hW_get cI cZ cQ ρ M' hs2]
    by_cases e2 : k = a
    · subst e2
      rw [List.getElem?_set_self (by rw [hW_len]; exact hk)]
      cases h.symm.trans hs2
      rw [he]
    · rw [List.getElem?_set_ne (fun q => e2 q.symm), hW_get cI cZ cQ ρ M hs2, ho k e2]
  · rw [List.getElem?_eq_none (by rw [List.length_set, hW_len]; omega), List.getElem?_eq_none (by rw [hW_len]; omega)]
theorem fvs_off (ρ : Nat → Nat) (M : hM) {a a0 k0 : Nat} {x : Int32} (h : a ≠ a0) : ∀ (fs : List Nat) (k : Nat), fvs ρ (mu M a0 k0 x) a k fs = fvs ρ M a k fs
  | [], _ => rfl
  | f :: fs, k => by
    show _ :: _ = _ :: _
    rw [fvs_off ρ M h fs (k + 1)]
    congr 1
    match f with
    | 0 => show cv ρ (.int _) = cv ρ (.int _); rw [mu_a h]
    | 1 => show cv ρ (.long _) = cv ρ (.long _); rw [mu_a h, mu_a h]
    | b + 2 => rfl
theorem hE_off (cI cZ cQ : ClassId) (ρ : Nat → Nat) (M : hM) {a0 k0 : Nat} {x : Int32} : ∀ b, b ≠ a0 → ∀ s2, hE cI cZ cQ ρ (mu M a0 k0 x) b s2 = hE cI cZ cQ ρ M b s2 := by
  intro b hb s2
  obtain ⟨t, n, fs⟩ := s2
  have e : mu M a0 k0 x b = M b := funext fun j => mu_a hb
  match t with
  | 0 => show Sum.inr (n, fvs ρ (mu M a0 k0 x) b 0 fs) = Sum.inr (n, fvs ρ M b 0 fs); rw [fvs_off ρ M hb fs 0]
  | 1 => show Sum.inl (cI, n, Sum.inl (mu M a0 k0 x b)) = _; rw [e]; rfl
  | 2 => show Sum.inl (cZ, n, Sum.inl (mu M a0 k0 x b)) = _; rw [e]; rfl
  | t + 3 => rfl
theorem fvs_put (ρ : Nat → Nat) (M : hM) (a : Nat) {k0 : Nat} {x : Int32} : ∀ (fs : List Nat) (k j : Nat), k + j = k0 → fs[j]? = some 0 → (∀ f ∈ fs, f = 1 → k0 < 1000) → (∀ i, fs[i]? = some 1 → k + i < 1000) → (fvs ρ M a k fs).set j (.int x) = fvs ρ (mu M a k0 x) a k fs := by
  intro fs k j e hj h1 h2
  apply List.ext_getElem?
  intro i
  rw [fvs_get ρ (mu M a k0 x) a fs k i]
  by_cases hij : i = j
  · subst hij
    have hl : i < (fvs ρ M a k fs).length := by rw [fvs_len]; exact (List.getElem?_eq_some_iff.mp hj).1
    rw [List.getElem?_set_self hl, hj]
    subst e
    show some (Value.int x) = some (cv ρ (.int (mu M a (k + i) x a (k + i))))
    rw [mu_s]; rfl
  · rw [List.getElem?_set_ne (Ne.symm hij), fvs_get ρ M a fs k i]
    cases hf : fs[i]? with
    | none => rfl
    | some f =>
      show some _ = some _
      congr 1
      have hne : k + i ≠ k0 := by omega
      match f with
      | 0 => show cv ρ (.int _) = cv ρ (.int _); rw [mu_k hne]
      | 1 =>
        have g1 := h1 1 (List.mem_of_getElem? hf) rfl
        have g2 := h2 i hf
        show cv ρ (.long _) = cv ρ (.long _); rw [mu_k hne, mu_k (show k + i + 1000 ≠ k0 by omega)]
      | b + 2 => rfl
/-- the statics that are read: BOUNDS (540), the words (500 + i, their bytes 520 + i), COMPACT_STRINGS; the links between nest mates -/
def hSd (ρ : Nat → Nat) (A : Nat → Prop) (U : State) (H : Heap) : Prop :=
  va_Z "java/lang/String" "COMPACT_STRINGS" "Z" (.int 1) A U H ∧ (va_Z "HotWeek$Reader" "BOUNDS" "[I" (.ref (ρ 540)) A U H ∧ va_T .int (ρ 540) 50 (fun j => .int (hBnd.getD j 0)) A U H) ∧
  vk_S 10 hLen hByt (fun i => ρ (500 + i)) (fun i => ρ (520 + i)) A U H ∧ (∀ i, i < 10 → vk_R RX3 (hIdx.getD i 0) (hTxt.getD i "") (ρ (500 + i)) U) ∧ (∀ q ∈ hNest, va_Nw (.methodLinkNest q.1 q.2.1 q.2.2.1 q.2.2.2) U) ∧ (va_Z "jdk/internal/util/Preconditions" "SIOOBE_FORMATTER" "Ljava/util/function/BiFunction;" .null A U H ∨ va_Z "jdk/internal/util/Preconditions" "SIOOBE_FORMATTER" "Ljava/util/function/BiFunction;" (.ref (ρ 541)) A U H)
theorem hSd_go {ρ : Nat → Nat} {A B : Nat → Prop} {s U : State} {H H1 : Heap} (h : hSd ρ A s H) (hW : s.WarmedH U.vm) (hq : ∀ a : Nat, a < H.size → ¬ A a → H1[a]? = H[a]?) (hAB : ∀ q, B q → A q) : hSd ρ B U H1 := by
  obtain ⟨h1, ⟨h2, h3⟩, h4, h5, h6, h7⟩ := h
  refine ⟨((va_Z.moved hW.alike h1).kept hq).narrow hAB, ⟨((va_Z.moved hW.alike h2).kept hq).narrow hAB, ((va_T.moved hW.alike h3).kept hq).narrow hAB⟩, ((vk_S.moved hW.alike h4).kept hq).narrow hAB, fun i hi => vk_R.warm hW (h5 i hi), fun q hm => va_Nw.warmM hW (h6 q hm), h7.imp (fun z => ((va_Z.moved hW.alike z).kept hq).narrow hAB) (fun z => ((va_Z.moved hW.alike z).kept hq).narrow hAB)⟩
def hA (ρ : Nat → Nat) (sz : Nat) : Nat → Prop := fun q => (∃ k, k < hT.length ∧ q = ρ k) ∨ sz ≤ q
/-- what holds at a method's start -/
def hU (D : va_G) (cI cZ cQ : ClassId) (ρ : Nat → Nat) (A : Nat → Prop) (M : hM) (U : State) : Prop :=
  va_P D vwCl (hW cI cZ cQ ρ M) U.heap ∧ va_K D vwCl [(cI, .int), (cZ, .boolean), (cQ, .array .int)] U ∧ va_D (fun _ => True) (hW cI cZ cQ ρ M) ∧ hSd ρ A U U.heap
def hQ (D : va_G) (cI cZ cQ : ClassId) (ρ : Nat → Nat) (A : Nat → Prop) (Post : Option Value → hM → Prop) : Array Value → State → Outcome → State → Prop := fun _ st oc t =>
  (∃ (r : Option Value) (M : hM), oc = .returned (r.map (cv ρ)) ∧ Post r M ∧ va_P D vwCl (hW cI cZ cQ ρ M) t.heap) ∧ va_F A st t
def hRm (d : Nat) : Room := { frames := d, cells := 0, slots := 0, locals := 39 * d }
/-- a method's contract: from every world M with these arguments it returns, and Post holds of its answer and the world behind it -/
def Ct (d : Nat) (y : hMd) (as : List Value) (M : hM) (Post : Option Value → hM → Prop) : Prop :=
  ∀ (l : Launch) (D : va_G) (cI cZ cQ : ClassId) (ρ : Nat → Nat) (sz : Nat), Met l y.1 (.code y.1 y.2.1 y.2.2.1 y.2.2.2 :: wsL_law) (hRm d) (va_Pc (as.map (cv ρ)) (fun U => U.heap.size = sz ∧ hU D cI cZ cQ ρ (hA ρ sz) M U)) (hQ D cI cZ cQ ρ (hA ρ sz) Post) 0 0 (hA ρ sz)
/-- the machine's standing things, for one call of one method -/
abbrev hC : Type := Program × Launch × Env × Room × State × MethodId × Array Value × List Frame × Method × Code × va_G × (ClassId × ClassId × ClassId) × (Nat → Nat) × (Nat → Prop) × (State → Prop) × Nat × Nat
/-- locals: place by place, none where nothing is known -/
def lvc (ρ : Nat → Nat) : Nat → List (Option Value) → List (Nat × Value)
  | _, [] => []
  | k, none :: r => lvc ρ (k + 1) r
  | k, some v :: r => (k, cv ρ v) :: lvc ρ (k + 1) r
def lg : List (Option Value) → Nat → Option Value
  | [], _ => none
  | v :: _, 0 => v
  | _ :: r, i + 1 => lg r i
def lset : List (Option Value) → Nat → Option Value → List (Option Value)
  | [], _, _ => []
  | _ :: r, 0, w => w :: r
  | v :: r, i + 1, w => v :: lset r i w
/-- i is a place, and the place ahead of it holds no long -/
def lok : List (Option Value) → Nat → Bool
  | [], _ => false
  | _ :: _, 0 => true
  | [_], _ + 1 => false
  | some v :: _ :: _, 1 => v.category == 1
  | none :: _ :: _, 1 => true
  | _ :: a :: r, i + 2 => lok (a :: r) (i + 1)
theorem lset_len : ∀ (lv : List (Option Value)) (i : Nat) (w : Option Value), (lset lv i w).length = lv.length
  | [], _, _ => rfl
  | _ :: _, 0, _ => rfl
  | _ :: r, i + 1, w => congrArg Nat.succ (lset_len r i w)
theorem lg_lset : ∀ (lv : List (Option Value)) (i j : Nat) (w v : Option Value), lg (lset lv i w) j = v → j = i ∨ lg lv j = v
  | [], _, _, _, _, h => Or.inr h
  | _ :: _, 0, 0, _, _, _ => Or.inl rfl
  | _ :: _, 0, _ + 1, _, _, h => Or.inr h
  | _ :: _, _ + 1, 0, _, _, h => Or.inr h
  | _ :: r, i + 1, j + 1, w, v, h => (lg_lset r i j w v h).imp (congrArg Nat.succ) id
theorem lg_same : ∀ (lv : List (Option Value)) (i : Nat) (w : Value) (v : Option Value), lg (lset lv i (some w)) i = v → v = none ∨ v = some w
  | [], _, _, _, h => Or.inl h.symm
  | _ :: _, 0, _, _, h => Or.inr h.symm
  | _ :: r, i + 1, w, v, h => lg_same r i w v h
theorem lok_ok : ∀ (lv : List (Option Value)) (i : Nat), lok lv i = true → i < lv.length ∧ ∀ (j : Nat) (v : Value), j + 1 = i → lg lv j = some v → ¬ v.category = 2
  | [], _, h => by cases h
  | _ :: _, 0, _ => ⟨Nat.succ_pos _, fun _ _ h => by cases h⟩
  | [_], _ + 1, h => by cases h
  | some v :: _ :: _, 1, h => ⟨by simp, fun j w hj hw => by
      have hj0 : j = 0 := by omega
      subst hj0
      cases hw
      have h1 : (v.category == 1) = true := h
      have h2 : v.category = 1 := by simpa using h1
      omega⟩
  | none :: _ :: _, 1, _ => ⟨by simp, fun j w hj hw => by
      have hj0 : j = 0 := by omega
      subst hj0
      cases hw⟩
  | x :: a :: r, i + 2, h => by
      obtain ⟨h1, h2⟩ := lok_ok (a :: r) (i + 1) h
      refine ⟨Nat.succ_lt_succ h1, fun j v hj hv => ?_⟩
      match j, hj, hv with
      | 0, hj, _ => omega
      | j + 1, hj, hv => exact h2 j v (by omega) hv
theorem lvc_in (ρ : Nat → Nat) : ∀ (lv : List (Option Value)) (k i : Nat) (v : Value), lg lv i = some v → (k + i, cv ρ v) ∈ lvc ρ k lv
  | [], _, _, _, h => by cases h
  | none :: _, _, 0, _, h => by cases h
  | some w :: r, k, 0, v, h => by cases h; exact List.mem_cons_self
  | none :: r, k, i + 1, v, h => by
      have := lvc_in ρ r (k + 1) i v h
      rw [show k + (i + 1) = k + 1 + i by omega]; exact this
  | some w :: r, k, i + 1, v, h => by
      have := lvc_in ρ r (k + 1) i v h
      rw [show k + (i + 1) = k + 1 + i by omega]; exact List.mem_cons_of_mem _ this
theorem lvc_out (ρ : Nat → Nat) : ∀ (lv : List (Option Value)) (k : Nat) (q : Nat × Value), q ∈ lvc ρ k lv → ∃ (i : Nat) (v : Value), lg lv i = some v ∧ q = (k + i, cv ρ v)
  | [], _, _, h => by cases h
  | none :: r, k, q, h => by
      obtain ⟨i, v, h1, h2⟩ := lvc_out ρ r (k + 1) q h
      exact ⟨i + 1, v, h1, by rw [h2]; congr 1; omega⟩
  | some w :: r, k, q, h => by
      rcases List.mem_cons.mp h with h | h
      · exact ⟨0, w, rfl, h⟩
      · obtain ⟨i, v, h1, h2⟩ := lvc_out ρ r (k + 1) q h
        exact ⟨i + 1, v, h1, by rw [h2]; congr 1; omega⟩
theorem lv_of (ρ : Nat → Nat) {ls : Array Slot} {nL : Nat} {lv : List (Option Value)} (h : lv_has ls nL (lvc ρ 0 lv)) {i : Nat} {v : Value} (hi : lg lv i = some v) : ls[i]? = some (.val (cv ρ v)) := by
  have := h.2.2 _ (lvc_in ρ lv 0 i v hi)
  rwa [Nat.zero_add] at this
/-- behind a store -/
theorem lv_st (ρ : Nat → Nat) {ls' : Array Slot} {nL i : Nat} {lv : List (Option Value)} {w : Value} (hk : lok lv i = true) (h : lv_has ls' nL ((i, cv ρ w) :: (lvc ρ 0 lv).filter (fun q => !(q.1 == i) && !(q.1 + 1 == i && q.2.category == 2)))) : lv_has ls' nL (lvc ρ 0 (lset lv i (some w))) := by
  refine ⟨h.1, h.2.1, fun q hq => ?_⟩
  obtain ⟨j, v, h1, rfl⟩ := lvc_out ρ _ 0 q hq
  rw [Nat.zero_add]
  by_cases hj : j = i
  · subst hj
    rcases lg_same lv j w _ h1 with e | e
    · cases e
    · cases e
      exact h.2.2 (j, cv ρ w) List.mem_cons_self
  · have h2 : lg lv j = some v := (lg_lset lv i j _ _ h1).resolve_left hj
    have h3 := lvc_in ρ lv 0 j v h2
    rw [Nat.zero_add] at h3
    refine h.2.2 (j, cv ρ v) (List.mem_cons_of_mem _ (List.mem_filter.mpr ⟨h3, ?_⟩))
    have h4 := (lok_ok lv i hk).2 j v
    simp only [Bool.and_eq_true, Bool.not_eq_true', beq_eq_false_iff_ne, Bool.and_eq_false_iff, ne_eq]
    refine ⟨hj, ?_⟩
    by_cases e : j + 1 = i
    · right
      rw [cv_cat]
      exact h4 e h2
    · exact Or.inl e
/-- the judgement -/
def J : hC → Nat → List (Option Value) → List Value → hM → Prop
  | (p, l, e, R, s, m, args, below, meth, c, D, (cI, cZ, cQ), ρ, A, Q, kc, ks), pc, lv, st, M =>
    lv.length ≤ c.maxLocals → ∀ (H : Heap) (locs : List Loc) (ls : Array Slot), va_P D vwCl (hW cI cZ cQ ρ M) H → va_S A s.heap H locs → lv_has ls c.maxLocals (lvc ρ 0 lv) → W p l e R s m args below meth c H locs kc ks Q (F0 m pc ls (st.map (cv ρ)))
def Ok : hC → String → ByteArray → Nat → Prop
  | (p, l, e, R, s, m, args, below, meth, c, D, (cI, cZ, cQ), ρ, A, Q, kc, ks), own, cc, d =>
    p.tables.exec = Jvm.exec ∧ c.code = cc ∧ s.vm.findClass own = some m.cls ∧ (∀ w ∈ wsL_law, w.before args s = true) ∧ (d ≤ R.frames ∧ 39 * d ≤ R.locals ∧ kc ≤ R.cells ∧ ks ≤ R.slots) ∧
    va_K D vwCl [(cI, .int), (cZ, .boolean), (cQ, .array .int)] s ∧ (∀ M, va_D A (hW cI cZ cQ ρ M)) ∧ (∀ q, s.heap.size ≤ q → A q) ∧ hSd ρ A s s.heap
/-- the end of a method: its answer -/
def Rt : hC → Option FieldType → (Option Value → hM → Prop) → Prop
  | (p, l, e, R, s, m, args, below, meth, c, D, (cI, cZ, cQ), ρ, A, Q, kc, ks), ret, Post =>
    meth.sig.returnType = ret ∧ meth.locks = false ∧ Q = MQ below (hQ D cI cZ cQ ρ A Post) args s 0 0 A ∧ kc = 0 ∧ ks = 0
theorem ct_of {d : Nat} {y : hMd} {as : List Value} {M : hM} {Post : Option Value → hM → Prop} {lv : List (Option Value)} (hn : plainName y.1.cls = true) (hlv : ∀ ρ : Nat → Nat, ∀ q ∈ lvc ρ 0 lv, q ∈ lv_args 0 (as.map (cv ρ))) (hlen : Nat.ble lv.length y.2.2.1 = true) (hsl : ∀ ρ : Nat → Nat, (lg_sl (as.map (cv ρ))).length ≤ y.2.2.1)
    (k : ∀ X : hC, Ok X y.1.cls y.2.1 d → Rt X y.2.2.2 Post → J X 0 lv [] M) : Ct d y as M Post := by
  intro l D cI cZ cQ ρ sz
  refine Met.ofW (cc := y.2.1) (maxL := y.2.2.1) (ret := y.2.2.2) hn rfl ?_
  intro p e s m args below meth c s₁ B hml hv
  obtain ⟨rfl, hsz, hP, hK, hD0, hSt⟩ := hv
  have hts := atoms_spec (ws := .code y.1 y.2.1 y.2.2.1 y.2.2.2 :: wsL_law) B.pre
  have hown : s.vm.findClass y.1.cls = some m.cls := findClass_of_methodNamed B.named
  subst hsz
  have hD : ∀ M', va_D (hA ρ s.heap.size) (hW cI cZ cQ ρ M') := by
    intro M'
    refine ⟨fun i j p q hi hj hpq => ?_, fun k q hk => Or.inl ⟨k, hW_inv _ _ _ _ _ hk⟩⟩
    obtain ⟨a1, a2⟩ := hW_inv _ _ _ _ _ hi
    obtain ⟨b1, b2⟩ := hW_inv _ _ _ _ _ hj
    obtain ⟨x, hx⟩ : ∃ x, (hW cI cZ cQ ρ M)[i]? = some x := ⟨_, List.getElem?_eq_getElem (by rw [hW_len]; exact a1)⟩
    obtain ⟨z, hz⟩ : ∃ z, (hW cI cZ cQ ρ M)[j]? = some z := ⟨_, List.getElem?_eq_getElem (by rw [hW_len]; exact b1)⟩
    exact hD0.1 i j x z hx hz (by rw [(hW_inv _ _ _ _ _ hx).2, (hW_inv _ _ _ _ _ hz).2, ← a2, ← b2, hpq])
  have hl := lv_entry (as.map (cv ρ)) (n := y.2.2.1) (hsl ρ)
  rw [lg_entry_eq]
  generalize (lg_sl (as.map (cv ρ)) ++ List.replicate (y.2.2.1 - (lg_sl (as.map (cv ρ))).length) Slot.unset).toArray = ls at hl ⊢
  have hl2 : lv_has ls y.2.2.1 (lvc ρ 0 lv) := ⟨hl.1, hl.2.1, fun q hq => hl.2.2 q (hlv ρ q hq)⟩
  rw [← hml] at hl2
  exact k (p, l, e, hRm d, s, m, _, below, meth, c, D, (cI, cZ, cQ), ρ, hA ρ s.heap.size, _, 0, 0)
    ⟨B.exec, B.bytes, hown, fun w hw => hts w (List.mem_cons_of_mem _ hw), ⟨Nat.le_refl _, Nat.le_refl _, Nat.le_refl _, Nat.le_refl _⟩, hK, hD, fun q hq => Or.inr hq, hSt⟩
    ⟨B.returns, B.notSynchronized, rfl, rfl, rfl⟩ (by rw [hml]; exact Nat.le_of_ble_eq_true hlen) s.heap [] ls hP va_S.rf hl2
