/-! constructors: a judgement with a growing world -/
def f14 (k : Nat) : Int32 := if k = 9 then nI 16777215 else if k = 10 then nI 200 else if k = 11 then nI 320 else if k = 12 then nI 10 else if k = 13 then nI 20 else if k = 14 then nI 20 else if k = 15 then nI 10 else if k = 16 then nI 3 else if k = 17 then nI 40 else 0
def f93 (k : Nat) : Int32 := if k = 6 then nI 200 else if k = 7 then nI 320 else if k = 8 then nI 10 else if k = 9 then nI 20 else if k = 10 then nI 20 else if k = 11 then nI 10 else if k = 12 then nI 3 else if k = 13 then nI 40 else if k = 14 then nI 16777215 else 0
/-- the numbers behind the constructors -/
def hM0 : hM := fun a => if a = 14 then f14 else if a = 93 then f93 else fun _ => 0
/-- the cells lo .. lo + n - 1 of the graph, as the constructors leave them -/
def seg (cI cZ cQ : ClassId) (ρ : Nat → Nat) (lo n : Nat) : va_W := (List.range' lo n).map (fun a => (ρ a, hE cI cZ cQ ρ hM0 a (hT.getD a (0, 0, []))))
theorem seg_0 {cI cZ cQ : ClassId} {ρ : Nat → Nat} {lo : Nat} : seg cI cZ cQ ρ lo 0 = [] := rfl
theorem seg_s {cI cZ cQ : ClassId} {ρ : Nat → Nat} {lo n : Nat} (lo' n' : Nat) {sh : hSh} (h : hT[lo]? = some sh) (h1 : lo + 1 = lo') (h2 : n = n' + 1) : seg cI cZ cQ ρ lo n = (ρ lo, hE cI cZ cQ ρ hM0 lo sh) :: seg cI cZ cQ ρ lo' n' := by
  subst h1; subst h2
  unfold seg
  rw [List.range'_succ, List.map_cons, List.getD_eq_getElem?_getD, h]
  rfl
theorem seg_app {cI cZ cQ : ClassId} {ρ : Nat → Nat} (lo n m lo' k : Nat) (h1 : lo + n = lo') (h2 : n + m = k) : seg cI cZ cQ ρ lo k = seg cI cZ cQ ρ lo n ++ seg cI cZ cQ ρ lo' m := by
  subst h1; subst h2
  unfold seg
  rw [← List.map_append, List.range'_append_1]
theorem seg_len {cI cZ cQ : ClassId} {ρ : Nat → Nat} {lo n : Nat} : (seg cI cZ cQ ρ lo n).length = n := by simp [seg]
/-- the children of a cell lie in the part -/
def okc (lo n : Nat) : hSh → Bool
  | (0, _, fs) => fs.all (fun f => Nat.blt f 2 || (Nat.ble lo (f - 2) && Nat.blt (f - 2) (lo + n)))
  | (1, _, _) => true
  | (2, _, _) => true
  | (_ + 3, m, fs) => Nat.ble lo (fs.headD 0) && Nat.ble (fs.headD 0 + m) (lo + n)
theorem fvs_cg {ρ ρ' : Nat → Nat} {M : hM} {lo n a : Nat} (h : ∀ b, lo ≤ b → b < lo + n → ρ b = ρ' b) : ∀ (fs : List Nat) (k : Nat), fs.all (fun f => Nat.blt f 2 || (Nat.ble lo (f - 2) && Nat.blt (f - 2) (lo + n))) = true → fvs ρ M a k fs = fvs ρ' M a k fs
  | [], _, _ => rfl
  | f :: fs, k, ok => by
    rw [List.all_cons, Bool.and_eq_true] at ok
    show _ :: _ = _ :: _
    rw [fvs_cg h fs (k + 1) ok.2]
    congr 1
    match f, ok with
    | 0, _ => rfl
    | 1, _ => rfl
    | b + 2, ok =>
      have h1 := ok.1
      rw [Bool.or_eq_true, Bool.and_eq_true] at h1
      rcases h1 with h1 | ⟨h1, h2⟩
      · have := Nat.le_of_ble_eq_true h1; omega
      · have h1 := Nat.le_of_ble_eq_true h1
        have h2 := Nat.le_of_ble_eq_true h2
        show Value.ref (ρ b) = .ref (ρ' b)
        rw [h b (by omega) (by omega)]
theorem hE_cg {cI cZ cQ : ClassId} {ρ ρ' : Nat → Nat} {M : hM} {lo n a : Nat} (h : ∀ b, lo ≤ b → b < lo + n → ρ b = ρ' b) (sh : hSh) (ok : okc lo n sh = true) : hE cI cZ cQ ρ M a sh = hE cI cZ cQ ρ' M a sh := by
  obtain ⟨t, m, fs⟩ := sh
  match t, ok with
  | 0, ok => show Sum.inr (m, fvs ρ M a 0 fs) = Sum.inr (m, fvs ρ' M a 0 fs); rw [fvs_cg h fs 0 ok]
  | 1, _ => rfl
  | 2, _ => rfl
  | t + 3, ok =>
    have ok : (Nat.ble lo (fs.headD 0) && Nat.ble (fs.headD 0 + m) (lo + n)) = true := ok
    rw [Bool.and_eq_true] at ok
    have h1 := Nat.le_of_ble_eq_true ok.1
    have h2 := Nat.le_of_ble_eq_true ok.2
    show Sum.inl (cQ, m, Sum.inr (Sum.inr (Sum.inr (Sum.inr (fun i => if i < m then some (ρ (fs.headD 0 + i)) else none))))) = Sum.inl (cQ, m, Sum.inr (Sum.inr (Sum.inr (Sum.inr (fun i => if i < m then some (ρ' (fs.headD 0 + i)) else none)))))
    rw [show (fun i => if i < m then some (ρ (fs.headD 0 + i)) else none) = (fun i => if i < m then some (ρ' (fs.headD 0 + i)) else none) from funext fun i => by
      by_cases hi : i < m
      · rw [if_pos hi, if_pos hi, h _ (by omega) (by omega)]
      · rw [if_neg hi, if_neg hi]]
theorem seg_cg {cI cZ cQ : ClassId} {ρ ρ' : Nat → Nat} {lo n : Nat} (ok : (List.range' lo n).all (fun a => okc lo n (hT.getD a (0, 0, []))) = true) (h : ∀ b, lo ≤ b → b < lo + n → ρ b = ρ' b) : seg cI cZ cQ ρ lo n = seg cI cZ cQ ρ' lo n := by
  unfold seg
  apply List.map_congr_left
  intro a ha
  have ho := List.all_eq_true.mp ok a ha
  have hr := List.mem_range'_1.mp ha
  rw [h a hr.1 hr.2, hE_cg h _ ho]
theorem hW_seg (cI cZ cQ : ClassId) (ρ : Nat → Nat) : hW cI cZ cQ ρ hM0 = seg cI cZ cQ ρ 0 121 := by
  unfold hW seg
  rw [hT_len, List.range_eq_range']
abbrev gC : Type := Program × Launch × Env × Room × State × MethodId × Array Value × List Frame × Method × Code × va_G × (ClassId × ClassId × ClassId) × (Nat → Prop) × (State → Prop)
def gI : gC → ClassId
  | (_, _, _, _, _, _, _, _, _, _, _, (cI, _, _), _, _) => cI
def gZ : gC → ClassId
  | (_, _, _, _, _, _, _, _, _, _, _, (_, cZ, _), _, _) => cZ
def gQ : gC → ClassId
  | (_, _, _, _, _, _, _, _, _, _, _, (_, _, cQ), _, _) => cQ
def G : gC → List (Nat × Value) → Nat → List Value → va_W → Nat → Nat → Prop
  | (p, l, e, R, s, m, args, below, meth, c, D, _, A, Q), lvs, pc, st, ws, kc, ks =>
    ∀ (H : Heap) (locs : List Loc) (ls : Array Slot), va_P D vwCl ws H → va_D A ws → va_S A s.heap H locs → lv_has ls c.maxLocals lvs → W p l e R s m args below meth c H locs kc ks Q (F0 m pc ls st)
def Og : gC → String → ByteArray → Nat → Nat → Nat → Prop
  | (p, l, e, R, s, m, args, below, meth, c, D, (cI, cZ, cQ), A, Q), own, cc, d, nc, ns =>
    p.tables.exec = Jvm.exec ∧ c.code = cc ∧ s.vm.findClass own = some m.cls ∧ (∀ w ∈ wsL_law, w.before args s = true) ∧ (d ≤ R.frames ∧ 39 * d ≤ R.locals ∧ nc ≤ R.cells ∧ ns ≤ R.slots) ∧
    va_K D vwCl [(cI, .int), (cZ, .boolean), (cQ, .array .int)] s ∧ (∀ q, s.heap.size ≤ q → A q) ∧ va_AOA .int s
def hRc (d nc ns : Nat) : Room := { frames := d, cells := nc, slots := ns, locals := 39 * d }
/-- a constructor's contract: from a new object it leaves the cells lo .. lo + n - 1 -/
def Cn (d nc ns : Nat) (y : MethodName) (cc : ByteArray) (ci : Nat) (fs : List Value) (lo n : Nat) : Prop :=
  ∀ (l : Launch) (D : va_G) (cI cZ cQ : ClassId) (h0 sz : Nat), Met l y (.code y cc 1 none :: wsL_law) (hRc d nc ns) (va_Pc [.ref h0] (fun U => U.heap.size = sz ∧ va_P D vwCl [(h0, .inr (ci, fs))] U.heap ∧ va_K D vwCl [(cI, .int), (cZ, .boolean), (cQ, .array .int)] U ∧ va_D (fun _ => True) [(h0, .inr (ci, fs))] ∧ va_AOA .int U))
    (va_Qv (fun ρ : Nat → Nat => ρ lo = h0) (fun ρ t => va_P D vwCl (seg cI cZ cQ ρ lo n) t.heap ∧ va_D (va_A [(h0, .inr (ci, fs))] sz) (seg cI cZ cQ ρ lo n)) (va_A [(h0, .inr (ci, fs))] sz)) nc ns (va_A [(h0, .inr (ci, fs))] sz)
def Rg : gC → Nat → Nat → List Value → Nat → Nat → Nat → Nat → Prop
  | (p, l, e, R, s, m, args, below, meth, c, D, (cI, cZ, cQ), A, Q), h0, ci, fs, lo, n, nc, ns =>
    meth.sig.returnType = none ∧ meth.locks = false ∧ meth.name = "<init>" ∧ Q = MQ below (va_Qv (fun ρ : Nat → Nat => ρ lo = h0) (fun ρ t => va_P D vwCl (seg cI cZ cQ ρ lo n) t.heap ∧ va_D A (seg cI cZ cQ ρ lo n)) A) args s nc ns A
theorem cn_of {d nc ns : Nat} {y : MethodName} {cc : ByteArray} {ci lo n : Nat} {fs : List Value} (hn : plainName y.cls = true) (hy : y.name = "<init>") (k : ∀ (X : gC) (h0 : Nat), Og X y.cls cc d nc ns → Rg X h0 ci fs lo n nc ns → G X [(0, .ref h0)] 0 [] ((h0, .inr (ci, fs)) :: []) 0 0) : Cn d nc ns y cc ci fs lo n := by
  intro l D cI cZ cQ h0 sz
  refine Met.ofW (cc := cc) (maxL := 1) (ret := none) hn rfl ?_
  intro p e s m args below meth c s₁ B hml hv
  obtain ⟨rfl, hsz, hP, hK, hD0, hAO⟩ := hv
  have hts := atoms_spec (ws := .code y cc 1 none :: wsL_law) B.pre
  have hown : s.vm.findClass y.cls = some m.cls := findClass_of_methodNamed B.named
  have hin : meth.name = "<init>" := (name_of_methodNamed B.named B.method).1.trans hy
  subst hsz
  have hD := hD0.self (sz := s.heap.size)
  have hl := lv_entry ([.ref h0]) (n := 1) (Nat.le_of_ble_eq_true rfl)
  rw [lg_entry_eq]
  generalize (lg_sl ([.ref h0]) ++ List.replicate (1 - (lg_sl ([.ref h0])).length) Slot.unset).toArray = ls at hl ⊢
  have hl2 : lv_has ls 1 [(0, .ref h0)] := hl
  rw [← hml] at hl2
  exact k (p, l, e, hRc d nc ns, s, m, _, below, meth, c, D, (cI, cZ, cQ), va_A [(h0, .inr (ci, fs))] s.heap.size, _) h0
    ⟨B.exec, B.bytes, hown, fun w hw => hts w (List.mem_cons_of_mem _ hw), ⟨Nat.le_refl _, Nat.le_refl _, Nat.le_refl _, Nat.le_refl _⟩, hK, fun q hq => Or.inr hq, hAO⟩
    ⟨B.returns, B.notSynchronized, hin, rfl⟩ s.heap [] ls hP hD va_S.rf hl2
theorem oi_inst : Cond.instanceMethod objectInit ∈ wsL_law := ir_1 _ (List.mem_of_getElem? (i := 11) (by decide +kernel))
theorem oi_code : Cond.code objectInit ⟨#[0xb1]⟩ 1 none ∈ wsL_law := ir_1 _ (List.mem_of_getElem? (i := 12) (by decide +kernel))
theorem ac_int : Cond.arrayClass .int ∈ wsL_law := ir_3 _ (List.mem_of_getElem? (i := 11) (by decide +kernel))
theorem ac_bool : Cond.arrayClass .boolean ∈ wsL_law := ir_4 _ (List.mem_of_getElem? (i := 3) (by decide +kernel))
/-- a final field that holds a cell -/
def Fl (own : String) (ix ci k : Nat) (t0 : FieldType) : Prop := ∃ (C : String) (T : u_T) (N : Nat) (ty : Nat → FieldType), Kc ci C T N ty ∧ k < N ∧ Cond.fieldLink own ix (T k).1 (T k).2.1 (T k).2.2.1 ∈ wsL_law ∧ (T k).2.2.2 = true ∧ (T k).1 = own ∧ parseFieldDescriptor (T k).2.2.1 = some t0
/-- a constructor that is called -/
def Mi (y : MethodName) (cc : ByteArray) : Prop := Cond.code y cc 1 none ∈ wsL_law ∧ Cond.initialized y.cls ∈ wsL_law ∧ Cond.instanceMethod y ∈ wsL_law ∧ y.name = "<init>" ∧ (y.cls ≠ "java/lang/invoke/MethodHandle" ∧ y.cls ≠ "java/lang/invoke/VarHandle" ∧ (parseMethodDescriptor y.desc).map (fun d => d.parameters.length) = some 0)
section GR
variable {X : gC} {own : String} {cc : ByteArray} {d nc ns pc : Nat} {lvs : List (Nat × Value)} {st : List Value} {ws : va_W} {kc ks : Nat}
theorem g_aload0 (h : Og X own cc d nc ns) (q : Nat) (hq : pc + 1 = q) {x : Nat} {tl : List (Nat × Value)} (hd : decode cc pc = .ok (.aload_n 0, 1)) (kk : G X ((0, .ref x) :: tl) q (.ref x :: st) ws kc ks) : G X ((0, .ref x) :: tl) pc st ws kc ks := by
  obtain ⟨p, l, e, R, s, m, args, below, meth, c, D, ⟨cI, cZ, cQ⟩, A, Q⟩ := X
  subst hq; obtain ⟨hx, hb, -⟩ := h
  intro H locs ls hP hD hS hl
  exact lv_aload_n hx hb hd rfl (lv_at hl 0 rfl) (kk H locs ls hP hD hS hl)
theorem g_oi (h : Og X own cc d nc ns) (q : Nat) (hq : pc + 3 = q) {ix x : Nat} (hw : Cond.methodLink own ix objectInit ∈ wsL_law) (hd1 : Nat.ble 1 d = true) (hd : decode cc pc = .ok (.invokespecial ix, 3)) (kk : G X lvs q [] ws kc ks) : G X lvs pc [.ref x] ws kc ks := by
  obtain ⟨p, l, e, R, s, m, args, below, meth, c, D, ⟨cI, cZ, cQ⟩, A, Q⟩ := X
  subst hq; obtain ⟨hx, hb, ho, hts, ⟨f1, f2, f3, f4⟩, -⟩ := h
  have hd1 := Nat.le_of_ble_eq_true hd1
  intro H locs ls hP hD hS hl
  refine W.objInit hx hb ho (hts _ hw) (hts _ oi_inst) (hts _ oi_code) rfl hl.1 rfl hd (by omega) (by show 2 * 0 + 0 + 12 ≤ _; omega) ?_
  exact W.eq (g2 := F0 m (pc + 3) ls []) rfl (kk H locs ls hP hD hS hl)
theorem g_iconst (h : Og X own cc d nc ns) (q : Nat) (hq : pc + 1 = q) {n : Int} (v : Int32) (hv : Int32.ofInt n = v) (hd : decode cc pc = .ok (.iconst n, 1)) (kk : G X lvs q (.int v :: st) ws kc ks) : G X lvs pc st ws kc ks := by
  obtain ⟨p, l, e, R, s, m, args, below, meth, c, D, ⟨cI, cZ, cQ⟩, A, Q⟩ := X
  subst hq; obtain ⟨hx, hb, -⟩ := h
  intro H locs ls hP hD hS hl
  exact lv_iconst hx hb hd hv (kk H locs ls hP hD hS hl)
theorem g_bipush (h : Og X own cc d nc ns) (q : Nat) (hq : pc + 2 = q) {n : Int} (v : Int32) (hv : (Int8.ofInt n).toInt32 = v) (hd : decode cc pc = .ok (.bipush n, 2)) (kk : G X lvs q (.int v :: st) ws kc ks) : G X lvs pc st ws kc ks := by
  obtain ⟨p, l, e, R, s, m, args, below, meth, c, D, ⟨cI, cZ, cQ⟩, A, Q⟩ := X
  subst hq; obtain ⟨hx, hb, -⟩ := h
  intro H locs ls hP hD hS hl
  exact lv_bipush hx hb hd hv (kk H locs ls hP hD hS hl)
theorem g_sipush (h : Og X own cc d nc ns) (q : Nat) (hq : pc + 3 = q) {n : Int} (v : Int32) (hv : (Int16.ofInt n).toInt32 = v) (hd : decode cc pc = .ok (.sipush n, 3)) (kk : G X lvs q (.int v :: st) ws kc ks) : G X lvs pc st ws kc ks := by
  obtain ⟨p, l, e, R, s, m, args, below, meth, c, D, ⟨cI, cZ, cQ⟩, A, Q⟩ := X
  subst hq; obtain ⟨hx, hb, -⟩ := h
  intro H locs ls hP hD hS hl
  exact lv_sipush hx hb hd hv (kk H locs ls hP hD hS hl)
theorem g_ldc (h : Og X own cc d nc ns) (q : Nat) (hq : pc + 2 = q) {ix : Nat} (v : Int32) (hw : Cond.constant own ix v ∈ wsL_law) (hd : decode cc pc = .ok (.ldc ix, 2)) (kk : G X lvs q (.int v :: st) ws kc ks) : G X lvs pc st ws kc ks := by
  obtain ⟨p, l, e, R, s, m, args, below, meth, c, D, ⟨cI, cZ, cQ⟩, A, Q⟩ := X
  subst hq; obtain ⟨hx, hb, ho, hts, -⟩ := h
  intro H locs ls hP hD hS hl
  exact lv_ldc hx hb ho (hts _ hw) hd (kk H locs ls hP hD hS hl)
theorem g_dup (h : Og X own cc d nc ns) (q : Nat) (hq : pc + 1 = q) {x : Nat} (hd : decode cc pc = .ok (.dup, 1)) (kk : G X lvs q (.ref x :: .ref x :: st) ws kc ks) : G X lvs pc (.ref x :: st) ws kc ks := by
  obtain ⟨p, l, e, R, s, m, args, below, meth, c, D, ⟨cI, cZ, cQ⟩, A, Q⟩ := X
  subst hq; obtain ⟨hx, hb, -⟩ := h
  intro H locs ls hP hD hS hl
  exact lv_dup hx hb hd rfl (kk H locs ls hP hD hS hl)
theorem g_newi (h : Og X own cc d nc ns) (q : Nat) (hq : pc + 2 = q) {n : Nat} {w0 : Nat × va_E} {tl : va_W} (hn : Nat.ble n 1000 = true) (hk1 : Nat.ble (kc + 1) nc = true) (hk2 : Nat.ble (ks + n) ns = true) (hd : decode cc pc = .ok (.newarray .int, 2)) (kk : ∀ a, G X lvs q (.ref a :: st) (w0 :: (tl ++ [(a, .inl (gI X, n, .inl (fun _ => 0)))])) (kc + 1) (ks + n)) : G X lvs pc (.int (nI n) :: st) (w0 :: tl) kc ks := by
  obtain ⟨p, l, e, R, s, m, args, below, meth, c, D, ⟨cI, cZ, cQ⟩, A, Q⟩ := X
  subst hq; obtain ⟨hx, hb, ho, hts, ⟨f1, f2, f3, f4⟩, hK, hA, -⟩ := h
  have hn := Nat.le_of_ble_eq_true hn
  have hk1 := Nat.le_of_ble_eq_true hk1
  have hk2 := Nat.le_of_ble_eq_true hk2
  intro H locs ls hP hD hS hl
  refine va_newa (atype := .int) (ty := .int) (n := nI n) (N' := n) (a0 := (n, .inl (fun _ => 0))) hx hb (hts _ ac_int) rfl hK hP hD hS hA (fun cA => rfl) (nI_pos (by omega)) (nI_clamp (by omega)) (by show n * 4 ≤ _; omega) (by omega) (by omega) hd (fun a cA H1 hK1 hP1 hD1 hS1 => ?_)
  have e1 : s.vm.findClass ("[" ++ FieldType.int.toString) = some cA := (hK1.2 3 _ rfl).2
  have e2 : s.vm.findClass ("[" ++ FieldType.int.toString) = some cI := (hK.2 0 _ rfl).2
  have e : cA = cI := Option.some.inj (e1.symm.trans e2)
  rw [e] at hP1 hD1
  exact kk a H1 locs ls hP1 hD1 hS1 hl
theorem g_newz (h : Og X own cc d nc ns) (q : Nat) (hq : pc + 2 = q) {n : Nat} {w0 : Nat × va_E} {tl : va_W} (hn : Nat.ble n 1000 = true) (hk1 : Nat.ble (kc + 1) nc = true) (hk2 : Nat.ble (ks + n) ns = true) (hd : decode cc pc = .ok (.newarray .boolean, 2)) (kk : ∀ a, G X lvs q (.ref a :: st) (w0 :: (tl ++ [(a, .inl (gZ X, n, .inl (fun _ => 0)))])) (kc + 1) (ks + n)) : G X lvs pc (.int (nI n) :: st) (w0 :: tl) kc ks := by
  obtain ⟨p, l, e, R, s, m, args, below, meth, c, D, ⟨cI, cZ, cQ⟩, A, Q⟩ := X
  subst hq; obtain ⟨hx, hb, ho, hts, ⟨f1, f2, f3, f4⟩, hK, hA, -⟩ := h
  have hn := Nat.le_of_ble_eq_true hn
  have hk1 := Nat.le_of_ble_eq_true hk1
  have hk2 := Nat.le_of_ble_eq_true hk2
  intro H locs ls hP hD hS hl
  refine va_newa (atype := .boolean) (ty := .boolean) (n := nI n) (N' := n) (a0 := (n, .inl (fun _ => 0))) hx hb (hts _ ac_bool) rfl hK hP hD hS hA (fun cA => rfl) (nI_pos (by omega)) (nI_clamp (by omega)) (by show n * 1 ≤ _; omega) (by omega) (by omega) hd (fun a cA H1 hK1 hP1 hD1 hS1 => ?_)
  have e1 : s.vm.findClass ("[" ++ FieldType.boolean.toString) = some cA := (hK1.2 3 _ rfl).2
  have e2 : s.vm.findClass ("[" ++ FieldType.boolean.toString) = some cZ := (hK.2 1 _ rfl).2
  have e : cA = cZ := Option.some.inj (e1.symm.trans e2)
  rw [e] at hP1 hD1
  exact kk a H1 locs ls hP1 hD1 hS1 hl
theorem s_ii : ("[" ++ (FieldType.array .int).toString) = "[[I" := by first | rfl | decide | decide +kernel
theorem s_i : ((FieldType.array .int).toString) = ("[" ++ FieldType.int.toString) := by first | rfl | decide | decide +kernel
theorem rows_z {cy : ClassId} {z : vp_A} {f : Nat → va_E} {r : Nat → Nat} {n : Nat} : va_pl ([] ++ (List.range n).map r) (vr_up f ((List.range n).map r) (.inl (cy, z))) = (List.range n).map (fun i => (r i, .inl (cy, z))) := by
  unfold va_pl
  rw [List.nil_append, List.map_map]
  apply List.map_congr_left
  intro i hi
  show (r i, vr_up f ((List.range n).map r) (.inl (cy, z)) (r i)) = _
  rw [vr_up_in (List.mem_map_of_mem hi)]
theorem g_mna (h : Og X own cc d nc ns) (q : Nat) (hq : pc + 4 = q) {ix n k : Nat} {w0 : Nat × va_E} {tl : va_W} (hw : Cond.classLink own ix "[[I" ∈ wsL_law) (hn : Nat.ble n 1000 = true) (hk : Nat.ble k 1000 = true) (hk1 : Nat.ble (kc + 1 + n) nc = true) (hk2 : Nat.ble (ks + n + n * k) ns = true) (hd : decode cc pc = .ok (.multianewarray ix 2, 4))
    (kk : ∀ (a : Nat) (r : Nat → Nat) (f : Nat → Option Nat), f = (fun i => if i < n then some (r i) else none) → G X lvs q (.ref a :: st) (w0 :: (tl ++ ((a, .inl (gQ X, n, .inr (.inr (.inr (.inr f))))) :: (List.range n).map (fun i => (r i, .inl (gI X, k, .inl (fun _ => 0))))))) (kc + 1 + n) (ks + n + n * k)) : G X lvs pc (.int (nI k) :: .int (nI n) :: st) (w0 :: tl) kc ks := by
  obtain ⟨p, l, e, R, s, m, args, below, meth, c, D, ⟨cI, cZ, cQ⟩, A, Q⟩ := X
  subst hq; obtain ⟨hx, hb, ho, hts, ⟨f1, f2, f3, f4⟩, hK, hA, hAO⟩ := h
  have hn := Nat.le_of_ble_eq_true hn
  have hk := Nat.le_of_ble_eq_true hk
  have hk1 := Nat.le_of_ble_eq_true hk1
  have hk2 := Nat.le_of_ble_eq_true hk2
  intro H locs ls hP hD hS hl
  have hP0 : va_P D vwCl ((w0 :: tl) ++ va_pl [] (fun _ => .inr (0, []))) H := by
    show va_P D vwCl ((w0 :: tl) ++ []) H
    rw [List.append_nil]; exact hP
  have hD0 : va_D A ((w0 :: tl) ++ va_pl [] (fun _ => .inr (0, []))) := by
    show va_D A ((w0 :: tl) ++ [])
    rw [List.append_nil]; exact hD
  have e2 : s.vm.findClass ("[" ++ FieldType.int.toString) = some cI := (hK.2 0 _ rfl).2
  have e3 : s.vm.findClass ("[" ++ (FieldType.array .int).toString) = some cQ := (hK.2 2 _ rfl).2
  refine va_mna (ty := .int) (cy := cI) (n := nI n) (k := nI k) (N' := n) (K' := k) (z := (k, .inl (fun _ => 0))) hx hb ho (by rw [s_ii]; exact hts _ hw) hAO (hts _ ac_int) (by rw [s_i]; exact e2) hK hP0 hD0 hS hA (nI_pos (by omega)) (nI_pos (by omega)) (nI_clamp (by omega)) (nI_clamp (by omega)) (by omega) (by show k * 4 ≤ _; omega) (by omega) rfl rfl (by omega) (by omega) (fun c9 => by
    show ({ cls := c9, slots := Array.replicate k (.int 0), vm := .none } : Cell) = _
    rw [arrV_new]; rfl) hd (fun a r cA H1 hr1 hr2 hK1 hP1 hD1 hS1 => ?_)
  have e1 : s.vm.findClass ("[" ++ (FieldType.array .int).toString) = some cA := (hK1.2 3 _ rfl).2
  have e : cA = cQ := Option.some.inj (e1.symm.trans e3)
  rw [e, rows_z, List.append_assoc] at hP1 hD1
  exact kk a r _ rfl H1 locs ls hP1 hD1 hS1 hl
theorem g_putR {h0 c0 lo n0 : Nat} {fs0 : List Value} (h : Og X own cc d nc ns) (hr : Rg X h0 c0 fs0 lo n0 nc ns) (q : Nat) (hq : pc + 3 = q) {ix ci k a x : Nat} {fs fs' : List Value} {tl : va_W} {t0 : FieldType} (hg : Fl own ix ci k t0) (hfs : fs.set k (.ref x) = fs') (hnr : narrow t0 (.ref x) = .ref x) (hft : fits t0 (.ref x) = true) (hkl : Nat.ble (k + 1) fs.length = true) (hd : decode cc pc = .ok (.putfield ix, 3)) (kk : G X lvs q st ((a, .inr (ci, fs')) :: tl) kc ks) : G X lvs pc (.ref x :: .ref a :: st) ((a, .inr (ci, fs)) :: tl) kc ks := by
  obtain ⟨p, l, e, R, s, m, args, below, meth, c, D, ⟨cI, cZ, cQ⟩, A, Q⟩ := X
  subst hq; subst hfs; obtain ⟨hx, hb, ho, hts, -, hK, hA, -⟩ := h
  obtain ⟨-, -, hin, -⟩ := hr
  obtain ⟨C, T, N, ty, ⟨g1, g2, g3, g4⟩, g5, g6, g7, g8, g9⟩ := hg
  intro H locs ls hP hD hS hl
  exact va_putF hx hb hts g2 ty g3 g4 ho hK hP hD hS 0 (a := a) (fs := fs) rfl g1 k g5 (hts _ g6) (fun _ h => h) g7 hin g8 g9 hnr hft (Nat.le_of_ble_eq_true hkl) hd (fun H1 locs1 hP1 hD1 hS1 => kk H1 locs1 ls hP1 hD1 hS1 hl)
theorem g_putI (h : Og X own cc d nc ns) (q : Nat) (hq : pc + 3 = q) {ix ci k a : Nat} {v : Int32} {fs fs' : List Value} {tl : va_W} {t0 : FieldType} (hg : Pl own ix ci k t0) (hfs : fs.set k (.int v) = fs') (hnr : narrow t0 (.int v) = .int v) (hft : fits t0 (.int v) = true) (hkl : Nat.ble (k + 1) fs.length = true) (hd : decode cc pc = .ok (.putfield ix, 3)) (kk : G X lvs q st ((a, .inr (ci, fs')) :: tl) kc ks) : G X lvs pc (.int v :: .ref a :: st) ((a, .inr (ci, fs)) :: tl) kc ks := by
  obtain ⟨p, l, e, R, s, m, args, below, meth, c, D, ⟨cI, cZ, cQ⟩, A, Q⟩ := X
  subst hq; subst hfs; obtain ⟨hx, hb, ho, hts, -, hK, hA, -⟩ := h
  obtain ⟨C, T, N, ty, ⟨g1, g2, g3, g4⟩, g5, g6, g7, g8⟩ := hg
  intro H locs ls hP hD hS hl
  exact va_put hx hb hts g2 ty g3 g4 ho hK hP hD hS 0 (a := a) (fs := fs) rfl g1 k g5 (hts _ g6) (fun _ h => h) g7 g8 hnr hft (Nat.le_of_ble_eq_true hkl) hd (fun H1 locs1 hP1 hD1 hS1 => kk H1 locs1 ls hP1 hD1 hS1 hl)
theorem g_new (h : Og X own cc d nc ns) (q : Nat) (hq : pc + 3 = q) {ix ci N : Nat} {C : String} {T : u_T} {ty : Nat → FieldType} (fs : List Value) (hkc : Kc ci C T N ty) (hcl : Cond.classLink own ix C ∈ wsL_law) (hinst : Cond.instantiable C N ∈ wsL_law) (hini : Cond.initialized C ∈ wsL_law) (hfs : ∀ j, j < N → defaultValue (ty j) = vp_V fs j) (hk1 : Nat.ble (kc + 1) nc = true) (hk2 : Nat.ble (ks + N) ns = true) (hd : decode cc pc = .ok (.new ix, 3)) (kk : ∀ a, G X lvs q (.ref a :: st) (ws ++ [(a, .inr (ci, fs))]) (kc + 1) (ks + N)) : G X lvs pc st ws kc ks := by
  obtain ⟨p, l, e, R, s, m, args, below, meth, c, D, ⟨cI, cZ, cQ⟩, A, Q⟩ := X
  subst hq; obtain ⟨hx, hb, ho, hts, ⟨f1, f2, f3, f4⟩, hK, hA, -⟩ := h
  obtain ⟨g1, g2, g3, g4⟩ := hkc
  have hk1 := Nat.le_of_ble_eq_true hk1
  have hk2 := Nat.le_of_ble_eq_true hk2
  intro H locs ls hP hD hS hl
  exact va_new hx hb hts g2 ty g3 ho (hts _ hcl) (hts _ hinst) (hts _ hini) hK hP hD hS hA g1 hfs (by omega) (by omega) hd (fun a H1 hP1 hD1 hS1 => kk a H1 locs ls hP1 hD1 hS1 hl)
theorem g_join {A : Nat → Prop} {D : va_G} {cl : List vw_C} {ws w1 : va_W} {x : Nat × va_E} {H H1 : Heap} (hP : va_P D cl (ws ++ [x]) H) (hD : va_D A (ws ++ [x])) (hk : ∀ q : Nat, q < H.size → ¬ va_A [x] H.size q → H1[q]? = H[q]?) (hF : ∀ q, va_A [x] H.size q → A q) (hP1 : va_P D cl w1 H1) (hD1 : va_D (va_A [x] H.size) w1) : va_P D cl (ws ++ w1) H1 ∧ va_D A (ws ++ w1) := by
  have hw : ∀ (k : Nat) (q : Nat × va_E), ws[k]? = some q → (ws ++ [x])[k]? = some q := fun k q hq => by
    rw [List.getElem?_append_left (List.getElem?_eq_some_iff.mp hq).1]; exact hq
  have hxl : (ws ++ [x])[ws.length]? = some x := by
    rw [List.getElem?_append_right (Nat.le_refl _), Nat.sub_self]; rfl
  have apart : ∀ (k : Nat) (q : Nat × va_E), ws[k]? = some q → q.1 < H.size ∧ ¬ va_A [x] H.size q.1 := by
    intro k q hq
    have hl := (hP k q (hw k q hq)).lt
    refine ⟨hl, fun h => ?_⟩
    rcases h with ⟨k2, e, h⟩ | h
    · have hk0 : k2 < 1 := (List.getElem?_eq_some_iff.mp h).1
      rw [show k2 = 0 by omega] at h
      cases h
      have hij := hD.1 k ws.length q _ (hw k q hq) hxl rfl
      have := (List.getElem?_eq_some_iff.mp hq).1
      omega
    · omega
  refine ⟨va_P.app (fun k q hq => ?_) hP1, va_D.app ⟨fun i j p q hi hj hpq => hD.1 i j p q (hw i p hi) (hw j q hj) hpq, fun k q hq => hD.2 k q (hw k q hq)⟩ (hD1.weaken (fun k q _ h => hF q.1 h)) (fun i j x9 y9 hx hy hxy => ?_)⟩
  · obtain ⟨g1, g2⟩ := apart k q hq
    exact (hP k q (hw k q hq)).kept (hk q.1 g1 g2)
  · exact (apart i x9 hx).2 (by rw [hxy]; exact hD1.2 j y9 hy)
theorem g_init (h : Og X own cc d nc ns) (q : Nat) (hq : pc + 3 = q) {ix ci lo n d' nc' ns' a : Nat} {y : MethodName} {yc : ByteArray} {fs : List Value} (hct : Cn d' nc' ns' y yc ci fs lo n) (hm : Mi y yc) (hlk : Cond.methodLink own ix y ∈ wsL_law) (hdd : Nat.ble (d' + 1) d = true) (hcat : Nat.ble ((st.map fun v => v.category).sum) 8 = true) (hk1 : Nat.ble (kc + nc') nc = true) (hk2 : Nat.ble (ks + ns') ns = true) (hd : decode cc pc = .ok (.invokespecial ix, 3))
    (kk : ∀ ρ : Nat → Nat, ρ lo = a → G X lvs q st (ws ++ seg (gI X) (gZ X) (gQ X) ρ lo n) (kc + nc') (ks + ns')) : G X lvs pc (.ref a :: st) (ws ++ [(a, .inr (ci, fs))]) kc ks := by
  obtain ⟨p, l, e, R, s, m, args, below, meth, c, D, ⟨cI, cZ, cQ⟩, A, Q⟩ := X
  subst hq; obtain ⟨hx, hb, ho, hts, ⟨f1, f2, f3, f4⟩, hK, hA, hAO⟩ := h
  obtain ⟨m1, m2, m3, m4, m5⟩ := hm
  have hdd := Nat.le_of_ble_eq_true hdd
  have hk1 := Nat.le_of_ble_eq_true hk1
  have hk2 := Nat.le_of_ble_eq_true hk2
  intro H locs ls hP hD hS hl
  have hsh : ∀ (k : Nat) (z : Nat × va_E), [(a, (.inr (ci, fs) : va_E))][k]? = some z → (ws ++ [(a, .inr (ci, fs))])[ws.length + k]? = some z := fun k z hz => by
    rw [List.getElem?_append_right (by omega), show ws.length + k - ws.length = k by omega]; exact hz
  have hFc : ∀ z, va_A [(a, .inr (ci, fs))] H.size z → A z := by
    intro z hz
    rcases hz with ⟨k, e9, hz⟩ | hz
    · exact hD.2 _ (z, e9) (hsh k _ hz)
    · exact hA z (Nat.le_trans hS.1 hz)
  have hPc : va_P D vwCl [(a, .inr (ci, fs))] H := fun k z hz => hP (ws.length + k) z (hsh k z hz)
  have hDc : va_D A [(a, (.inr (ci, fs) : va_E))] := ⟨fun i j p9 q9 hi hj hpq => by have := hD.1 _ _ p9 q9 (hsh i _ hi) (hsh j _ hj) hpq; omega, fun k z hz => hD.2 _ z (hsh k z hz)⟩
  refine va_callv (va_runI (Ts := wsL_law) (As := []) (rest := st) ⟨hx, hb, rfl, ho, hts⟩ (hct l D cI cZ cQ a H.size) (cwI 0 hts (gGc m1) rfl rfl rfl (hts _ m2) (hts _ hlk) (hts _ m3) m4 m5 ⟨by show d' + 1 ≤ _; omega, by show 8 + (1 + 11) + 39 * d' ≤ _; omega⟩) ⟨fun a9 U g mk z => by obtain ⟨q0, q1, qP, qK, qD, qA⟩ := z; exact ⟨q0, q1, qP, va_K.moved (u := U) (U := U.calling g mk a9) (Vm.Alike.refl U.vm) qK, qD, va_AOA.moved (u := U) (U := U.calling g mk a9) (Vm.Alike.refl U.vm) qA⟩, fun U hU hW => ⟨rfl, by rw [hU], by rw [hU]; exact hPc, va_K.moved hW.alike hK, hDc.weaken (fun _ _ _ _ => trivial), va_AOA.moved hW.alike hAO⟩⟩ rfl rfl hl.1 rfl (lv_room (Nat.le_of_ble_eq_true hcat)) hd ⟨by omega, by omega⟩) hS (fun z _ h => hFc z h) hFc (fun u t H1 locs ht hvm hw hB hz1 hk1 hS => ?_)
  obtain ⟨hP1, hD1⟩ := hB
  rw [ht] at hP1
  obtain ⟨hP2, hD2⟩ := g_join hP hD hk1 hFc hP1 hD1
  exact kk u hw H1 locs ls hP2 hD2 hS hl
theorem g_vret {h0 ci lo n : Nat} {fs : List Value} (h : Og X own cc d nc ns) (hr : Rg X h0 ci fs lo n nc ns) (hd : decode cc pc = .ok (.return_, 1)) (ρ : Nat → Nat) (hρ : ρ lo = h0) (hw : ws = seg (gI X) (gZ X) (gQ X) ρ lo n) (hkc : kc = nc) (hks : ks = ns) : G X lvs pc [] ws kc ks := by
  obtain ⟨p, l, e, R, s, m, args, below, meth, c, D, ⟨cI, cZ, cQ⟩, A, Q⟩ := X
  subst hw; subst hkc; subst hks
  obtain ⟨hx, hb, h⟩ := h
  obtain ⟨r1, r2, r3, r4⟩ := hr
  subst r4
  intro H locs ls hP hD hS hl
  exact W.vret hx hb r1 (fun t ht hW => ⟨⟨ρ, rfl, hρ, by rw [ht]; exact hP, hD⟩, hS.F ht⟩) hS.2.2 hd r2
end GR
