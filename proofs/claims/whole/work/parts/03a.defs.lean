/-! what a link is: facts over the tables' words -/
def hNest : List (String × Nat × MethodName × String) := [(RX5, 67, yX10_isWithin, "HotWeek"), (RX3, 93, yX10_hoursFrom, "HotWeek"), (RX3, 104, yX10_isWithin, "HotWeek"), (RX3, 101, yX10_hasBit, "HotWeek"), (RX1, 48, yX10_hasBit, "HotWeek"), (RX4, 70, yX10_hasBit, "HotWeek"), (RX0, 38, yX10_hoursFrom, "HotWeek"), (RX9, 65, yX10_hasBit, "HotWeek"), (RX6, 39, yX10_hasBit, "HotWeek"), (RX7, 48, yX10_hasBit, "HotWeek")]
abbrev hMd : Type := MethodName × ByteArray × Nat × Option FieldType
def Kc (ci : Nat) (C : String) (T : u_T) (N : Nat) (ty : Nat → FieldType) : Prop := vwCl[ci]? = some (C, T, N) ∧ (∀ w ∈ u_ws C T N, w ∈ wsL_law) ∧ (∀ k, k < N → parseFieldDescriptor (T k).2.2.1 = some (ty k)) ∧ ∀ a, a < N → ∀ b, b < N → a ≠ b → (T a).2.1 ≠ (T b).2.1
def Gl (own : String) (ix ci k : Nat) : Prop := ∃ (C : String) (T : u_T) (N : Nat) (ty : Nat → FieldType), Kc ci C T N ty ∧ k < N ∧ Cond.fieldLink own ix (T k).1 (T k).2.1 (T k).2.2.1 ∈ wsL_law
def Pl (own : String) (ix ci k : Nat) (t0 : FieldType) : Prop := ∃ (C : String) (T : u_T) (N : Nat) (ty : Nat → FieldType), Kc ci C T N ty ∧ k < N ∧ Cond.fieldLink own ix (T k).1 (T k).2.1 (T k).2.2.1 ∈ wsL_law ∧ (T k).2.2.2 = false ∧ parseFieldDescriptor (T k).2.2.1 = some t0
/-- a method that is called: its code is known -/
def Md (y : hMd) (n : Nat) : Prop := .code y.1 y.2.1 y.2.2.1 y.2.2.2 ∈ wsL_law ∧ .initialized y.1.cls ∈ wsL_law ∧ Nat.ble y.2.2.1 20 = true ∧ (y.1.cls ≠ "java/lang/invoke/MethodHandle" ∧ y.1.cls ≠ "java/lang/invoke/VarHandle" ∧ (parseMethodDescriptor y.1.desc).map (fun d => d.parameters.length) = some n)
def LkV (own : String) (ix : Nat) (y : hMd) (n : Nat) : Prop := Md y n ∧ .methodLink own ix y.1 ∈ wsL_law ∧ .instanceMethod y.1 ∈ wsL_law ∧ .selects y.1.cls y.1 y.1 ∈ wsL_law
def LkS (own : String) (ix : Nat) (y : hMd) (n : Nat) : Prop := Md y n ∧ .methodLink own ix y.1 ∈ wsL_law ∧ .static y.1 ∈ wsL_law
def LkN (own : String) (ix : Nat) (y : hMd) (n : Nat) : Prop := Md y n ∧ (∃ host, (own, ix, y.1, host) ∈ hNest) ∧ .static y.1 ∈ wsL_law
