/-! THE CLAIM OUT OF ONE WALK OF THE LAW'S BODY. Your part is whole_start (and what it stands on); all else here is the same for every law, but numbers. -/
def R_law : String := "HotWeekLaw"
def lw_P (b : Addr) (xs : List Int32) (args : Array Value) (s : State) : Prop := args = #[.ref b] ∧ s.IntsAt b xs ∧ xs.length ≤ 3072 ∧ (Jvm.Cond.and given_1 narrow_1).before args s = true
def lw_Q (_ : Array Value) (s : State) (o : Outcome) (t : State) : Prop := o = .returned (some (.int 1)) ∧ Framed s o t [] 600000 7302250
def lw_Z (below : List Frame) (a : Array Value) (s : State) : State → Prop := fun t => ∃ o, t.status = .running ∧ Ended t below o ∧ lw_Q a s o t
/-- the law's own end, with 1 on the stack, nothing written that was there before, its room as the claim has it -/
theorem lw_ret {p : Program} {l : Launch} {e : Env} {s : State} {m : MethodId} {below : List Frame} {meth : Method} {c : Code} {b : Nat} (hx : p.tables.exec = Jvm.exec) (hb : c.code = code) (hr : meth.sig.returnType = ret) (hlocks : meth.locks = false) {pc : Nat} {H : Heap} {ls : Array Slot} (hdg : decode code pc = .ok (.ireturn, 1)) : W p l e room_1 s m #[Value.ref b] below meth c H [] 600000 7302250 (lw_Z below #[Value.ref b] s) (F0 m pc ls [.int 1]) := by
  intro T hT X
  obtain ⟨fs, hret, hrun, hended, hW, hframe⟩ := X.leave (v := some (.int 1)) (hlocks := hlocks) (fun h => by rw [hr] at h; cases h)
  have hmeth' : T.vm.method? m = some meth := X.method'
  refine ⟨T.setFrames fs, ?_, .returned (some (.int 1)), hrun, hended, rfl, ⟨_, rfl⟩, hW, hframe⟩
  jvm_step X.here [X.here.top, hx, hb, hdg, hmeth', hr, ret, narrow_b1]
  (try refine ⟨rfl, ?_⟩); (try refine ⟨rfl, ?_⟩)
  first | (intro acts; rw [hret _ acts rfl rfl rfl]) | rw [hret _ _ rfl rfl rfl]
  exact Steps.refl _
/-- what holds at the law's entry: the machine, the code, the tables' words (any of lw_tbl by 'hts w (by decide +kernel)'), the script of L ints xs at the cell b, what the Statement gives of the start (any of its parts by flat_of_before) -/
def lw_At (p : Program) (s : State) (m : MethodId) (meth : Method) (c : Code) (b L : Nat) (xs : Nat → Int32) : Prop :=
  p.tables.exec = Jvm.exec ∧ c.code = code ∧ meth.sig.returnType = ret ∧ c.maxLocals = 4 ∧ s.vm.findClass R_law = some m.cls ∧ (∀ w ∈ lw_tbl, w.before #[Value.ref b] s = true) ∧ va_X b L xs s s.heap ∧ b < s.heap.size ∧ meth.locks = false ∧ (Jvm.Cond.and given_1 narrow_1).before #[Value.ref b] s = true
set_option maxRecDepth 100000 in
set_option maxHeartbeats 4000000 in
theorem whole_start {p : Program} {e : Env} {s : State} {m : MethodId} {below : List Frame} {meth : Method} {c : Code} (l : Launch) (hflags : l.flags = flags0) {b L : Nat} {xs : Nat → Int32} (hL : L ≤ 3072) (C0 : lw_At p s m meth c b L xs) : W p l e room_1 s m #[Value.ref b] below meth c s.heap [] 0 0 (lw_Z below #[Value.ref b] s) (entryFrame m ([Value.ref b] : List Value).toArray 4) := by
  obtain ⟨hx, hb, hr, hml, hown, hts, hX, hbl, hlocks, hgv⟩ := C0
  obtain ⟨D, cI, cZ, cQ, hK, hAO⟩ := st_K hts
  have hbA : ¬ (fun q : Nat => s.heap.size ≤ q) b := Nat.not_le.mpr hbl
  obtain ⟨ρ0, h600, hSd0⟩ := st_sd (A := fun q : Nat => s.heap.size ≤ q) hts hgv (fun a h => Nat.not_le.mpr h)
  have hl := lv_entry ([.ref b]) (n := 4) (Nat.le_of_ble_eq_true rfl)
  rw [lg_entry_eq]
  generalize (lg_sl ([.ref b]) ++ List.replicate (4 - (lg_sl ([.ref b])).length) Slot.unset).toArray = ls at hl ⊢
  have hl : lv_has ls 4 [(0, .ref b)] := hl
  rw [← hml] at hl
  have hg : Og (p, l, e, room_1, s, m, #[Value.ref b], below, meth, c, D, (cI, cZ, cQ), (fun q : Nat => s.heap.size ≤ q), lw_Z below #[Value.ref b] s) RL cL_law 10 600000 7302250 :=
    ⟨hx, hb, hown, fun w hw => hts w (wsL_law_in w hw), ⟨Nat.le_of_ble_eq_true rfl, Nat.le_of_ble_eq_true rfl, Nat.le_of_ble_eq_true rfl, Nat.le_of_ble_eq_true rfl⟩, hK, fun _ h => h, hAO⟩
  have key : G (p, l, e, room_1, s, m, #[Value.ref b], below, meth, c, D, (cI, cZ, cQ), (fun q : Nat => s.heap.size ≤ q), lw_Z below #[Value.ref b] s) [(0, .ref b)] 0 [] [] 0 0 := by
    refine g_new hg 3 rfl [.null, .null, .null, .null, .null, .null, .null, .null, .null, .null, .null, .int 0] kc_10 (ir_1 _ (List.mem_of_getElem? (i := 0) (by decide +kernel))) (ir_1 _ (List.mem_of_getElem? (i := 1) (by decide +kernel))) (ir_1 _ (List.mem_of_getElem? (i := 2) (by decide +kernel))) (fun j hj => match j, hj with | 0, _ => rfl | 1, _ => rfl | 2, _ => rfl | 3, _ => rfl | 4, _ => rfl | 5, _ => rfl | 6, _ => rfl | 7, _ => rfl | 8, _ => rfl | 9, _ => rfl | 10, _ => rfl | 11, _ => rfl | j + 12, hj => absurd hj (by omega)) rfl rfl dL_law_0 (fun a0 => ?_)
    refine g_dup hg 4 rfl dL_law_3 ?_
    refine g_init hg 7 rfl cn_X10 mi_X10_init (ir_1 _ (List.mem_of_getElem? (i := 7) (by decide +kernel))) rfl rfl rfl rfl dL_law_4 (fun ρA eA => ?_)
    subst eA
    have key2 : G (p, l, e, room_1, s, m, #[Value.ref b], below, meth, c, D, (cI, cZ, cQ), (fun q : Nat => s.heap.size ≤ q), lw_Z below #[Value.ref b] s) [(1, .ref (ρA 0)), (0, .ref b)] 8 [] ([] ++ seg cI cZ cQ ρA 0 93) (0 + 1 + 92) (0 + 12 + 3881) := by
      refine g_new hg 11 rfl [.int 0, .null, .null, .null, .null, .null, .int 0, .int 0, .int 0, .int 0, .int 0, .int 0, .int 0, .int 0, .int 0, .int 0, .null, .int 0, .int 0, .long (mkL 0 0), .int 0, .int 0, .int 0, .int 0, .null, .null, .null, .null, .null, .null, .null, .null, .int 0, .null, .null, .int 0, .null, .null, .null, .null, .int 0, .null, .null, .null, .null, .null, .null, .null] kc_11 (ir_1 _ (List.mem_of_getElem? (i := 3) (by decide +kernel))) (ir_1 _ (List.mem_of_getElem? (i := 4) (by decide +kernel))) (ir_1 _ (List.mem_of_getElem? (i := 5) (by decide +kernel))) (fun j hj => match j, hj with | 0, _ => rfl | 1, _ => rfl | 2, _ => rfl | 3, _ => rfl | 4, _ => rfl | 5, _ => rfl | 6, _ => rfl | 7, _ => rfl | 8, _ => rfl | 9, _ => rfl | 10, _ => rfl | 11, _ => rfl | 12, _ => rfl | 13, _ => rfl | 14, _ => rfl | 15, _ => rfl | 16, _ => rfl | 17, _ => rfl | 18, _ => rfl | 19, _ => by decide | 20, _ => rfl | 21, _ => rfl | 22, _ => rfl | 23, _ => rfl | 24, _ => rfl | 25, _ => rfl | 26, _ => rfl | 27, _ => rfl | 28, _ => rfl | 29, _ => rfl | 30, _ => rfl | 31, _ => rfl | 32, _ => rfl | 33, _ => rfl | 34, _ => rfl | 35, _ => rfl | 36, _ => rfl | 37, _ => rfl | 38, _ => rfl | 39, _ => rfl | 40, _ => rfl | 41, _ => rfl | 42, _ => rfl | 43, _ => rfl | 44, _ => rfl | 45, _ => rfl | 46, _ => rfl | 47, _ => rfl | j + 48, hj => absurd hj (by omega)) rfl rfl dL_law_8 (fun a1 => ?_)
      refine g_dup hg 12 rfl dL_law_11 ?_
      refine g_init hg 15 rfl cn_X11 mi_X11_init (ir_7 _ (List.mem_of_getElem? (i := 7) (by decide +kernel))) rfl rfl rfl rfl dL_law_12 (fun ρB eB => ?_)
      subst eB
      intro H locs ls hP hD hS hl
      refine lv_astore_n (lv' := [(2, .ref (ρB 93)), (1, .ref (ρA 0)), (0, .ref b)]) hx hb dL_law_15 rfl hl (by rw [hml]; decide) rfl (fun ls hl => ?_)
      refine lv_iconst (v := nI 0) hx hb dL_law_16 (by decide) ?_
      refine lv_istore_n (lv' := [(3, .int (nI 0)), (2, .ref (ρB 93)), (1, .ref (ρA 0)), (0, .ref b)]) hx hb dL_law_17 rfl hl (by rw [hml]; decide) rfl (fun ls hl => ?_)
      obtain ⟨ρ, hρ⟩ : ∃ ρ : Nat → Nat, ρ = fun a => if a < 93 then ρA a else if a < 121 then ρB a else ρ0 a := ⟨_, rfl⟩
      have eA : ∀ a, a < 93 → ρ a = ρA a := fun a h => by rw [hρ]; exact if_pos h
      have eB : ∀ a, 93 ≤ a → a < 121 → ρ a = ρB a := fun a h1 h2 => by
        rw [hρ]; show (if a < 93 then ρA a else if a < 121 then ρB a else ρ0 a) = _
        rw [if_neg (by omega), if_pos h2]
      have e0 : ∀ k, 500 ≤ k → ρ k = ρ0 k := fun k h => by
        rw [hρ]; show (if k < 93 then ρA k else if k < 121 then ρB k else ρ0 k) = _
        rw [if_neg (by omega), if_neg (by omega)]
      clear hρ
      have e600 : ρ 600 = b := (e0 600 (by omega)).trans h600
      have hWeq : ([] ++ seg cI cZ cQ ρA 0 93) ++ seg cI cZ cQ ρB 93 28 = hW cI cZ cQ ρ hM0 := by
        rw [hW_seg, seg_app 0 93 28 93 121 rfl rfl, List.nil_append, seg_cg (ρ := ρ) (ρ' := ρA) (lo := 0) (n := 93) (by decide +kernel) (fun a _ h => eA a (by omega)), seg_cg (ρ := ρ) (ρ' := ρB) (lo := 93) (n := 28) (by decide +kernel) (fun a h1 h2 => eB a h1 (by omega))]
      have hP : va_P D vwCl (hW cI cZ cQ ρ hM0) H := by rw [← hWeq]; exact hP
      have hD : va_D (fun q : Nat => s.heap.size ≤ q) (hW cI cZ cQ ρ hM0) := by rw [← hWeq]; exact hD
      have hDM : ∀ M', va_D (fun q : Nat => s.heap.size ≤ q) (hW cI cZ cQ ρ M') := by
        intro M'
        have hget : ∀ {i : Nat}, i < hT.length → ∃ x, (hW cI cZ cQ ρ hM0)[i]? = some x := fun {i} hi => ⟨_, List.getElem?_eq_getElem (by rw [hW_len]; exact hi)⟩
        refine ⟨fun i j x y hi hj hxy => ?_, fun k x hk => ?_⟩
        · obtain ⟨a1, a2⟩ := hW_inv _ _ _ _ _ hi
          obtain ⟨b1, b2⟩ := hW_inv _ _ _ _ _ hj
          obtain ⟨z, hz⟩ := hget a1
          obtain ⟨z2, hz2⟩ := hget b1
          exact hD.1 i j z z2 hz hz2 (by rw [(hW_inv _ _ _ _ _ hz).2, (hW_inv _ _ _ _ _ hz2).2, ← a2, ← b2, hxy])
        · obtain ⟨a1, a2⟩ := hW_inv _ _ _ _ _ hk
          obtain ⟨z, hz⟩ := hget a1
          have := hD.2 k z hz
          rw [(hW_inv _ _ _ _ _ hz).2, ← a2] at this
          exact this
      have hl2 : lv_has ls c.maxLocals [(0, .ref (ρ 600)), (1, .ref (ρ 0)), (2, .ref (ρ 93)), (3, .int (nI 0))] := by
        rw [e600, eA 0 (by decide), eB 93 (by decide) (by decide)]
        exact lv_sub hl [3, 2, 1, 0] rfl
      exact law_loop (X := (p, l, e, room_1, s, m, #[Value.ref b], below, meth, c, D, (cI, cZ, cQ), ρ, (fun q : Nat => s.heap.size ≤ q), lw_Z below #[Value.ref b] s, 0 + 1 + 92 + 1 + 27, 0 + 12 + 3881 + 48 + 2103)) (L := L) (xs := xs)
        ⟨hx, hb, hown, fun w hw => hts w (wsL_law_in w hw), ⟨Nat.le_of_ble_eq_true rfl, Nat.le_of_ble_eq_true rfl, Nat.le_of_ble_eq_true rfl, Nat.le_of_ble_eq_true rfl⟩, hK, hDM, fun _ h => h, hSd0 ρ e0⟩
        ⟨by rw [e600]; exact hX, by rw [e600]; exact hbl, by rw [e600]; exact hbA, hL⟩
        (fun lv M _ H2 locs2 ls2 _ hS2 _ => va_forget (fun q hq => hS2.2.2 q hq) (W.widen (k := 600000) (n := 7302250) (Nat.le_of_ble_eq_true rfl) (Nat.le_of_ble_eq_true rfl) (lw_ret hx hb hr hlocks dL_law_785)))
        3081 0 hM0 (by omega) (by omega) inv_0 (by rw [hml]; decide) H locs ls hP hS hl2
    intro H locs ls hP hD hS hl
    exact lv_astore_n (lv' := [(1, .ref (ρA 0)), (0, .ref b)]) hx hb dL_law_7 rfl hl (by rw [hml]; decide) rfl (fun ls hl => key2 H locs ls hP hD hS hl)
  exact key s.heap [] ls (fun k q h => by simp at h) ⟨fun i j p q h => by simp at h, fun k q h => by simp at h⟩ va_S.rf hl
set_option maxHeartbeats 4000000 in
theorem lw_walk (l : Launch) (hflags : l.flags = flags0) (b : Addr) (xs : List Int32) : MetFree l x (headSpec (Jvm.Cond.code x code maxLocals ret :: tables_1) room_1) (lw_P b xs) (fun _ _ _ _ _ => True) lw_Q := by
  refine MetFree.of_bodyS (code := code) (maxLocals := maxLocals) (ret := ret) (by decide) ?_ ?_
  · intro args s m h hn
    obtain ⟨meth, c, h1, h2, h3, h4, h5, h6, -, -⟩ := Cond.code_spec hn (atoms_spec (ws := Jvm.Cond.code x code maxLocals ret :: tables_1) h _ List.mem_cons_self)
    exact ⟨meth, c, h1, h2, h3, h4, h5, h6⟩
  · intro p e s m args below meth c s₁ B hml0 hP _
    obtain ⟨rfl, hx, hbd, hgv⟩ := hP
    obtain ⟨scr, harrAt, hlist, hof, hsmall⟩ := hx
    obtain ⟨hcb, hkn, -, -⟩ := State.arrayAt?_spec harrAt
    have hown : s.vm.findClass R_law = some m.cls := findClass_of_methodNamed B.named
    have hts0 : ∀ c ∈ (Jvm.Cond.code x code maxLocals ret :: tables_1), c.before #[Value.ref b] s = true := atoms_spec (ws := Jvm.Cond.code x code maxLocals ret :: tables_1) B.pre
    have hts : ∀ w ∈ lw_tbl, w.before #[Value.ref b] s = true := k2_hts_sels lw_privs (fun w hw => hts0 w (List.mem_cons_of_mem _ hw)) lw_privs_ok
    have hml : c.maxLocals = 4 := B.maxLocals_eq (hts0 _ List.mem_cons_self)
    have X₀ : Stand p l e room_1 s m #[Value.ref b] below meth c s₁ [] 0 0 := Stand.of_body B
    have hh0 : s₁.heap = s.heap := by rw [B.state]; rfl
    have hsz : scr.slots.size = xs.length := by rw [← Array.length_toList, hlist, List.length_map]
    have hval : ∀ j : Nat, j < xs.length → scr.slots[j]? = some (.int (xs.getD j 0)) := fun j hj => by
      rw [← Array.getElem?_toList, hlist]
      simp [hj]
    have hbl : b < s.heap.size := (Array.getElem?_eq_some_iff.mp hcb).1
    have hX : va_X b xs.length (fun j => xs.getD j 0) s s.heap := ⟨scr, hcb, hof, hkn, hsz, hval⟩
    have K : W p l e room_1 s m #[Value.ref b] below meth c s₁.heap [] 0 0 (lw_Z below #[Value.ref b] s) (entryFrame m ([Value.ref b] : List Value).toArray 4) := by
      rw [hh0]
      exact whole_start l hflags hbd ⟨B.exec, B.bytes, B.returns, hml, hown, hts, hX, hbl, B.notSynchronized, hgv⟩
    obtain ⟨t, a1, o, b1, b2, b3⟩ := K s₁ rfl X₀
    exact ⟨t, o, a1, b1, b2, b3⟩
theorem lw_pre_spec {args : Array Value} {s : State} (h : (Jvm.Cond.and given_1 narrow_1).before args s = true) (hr : rest_1_c.before args s = true) : ∃ (b : Addr) (xs : List Int32), lw_P b xs args s := by
  have hs := flat_of_before _ h
  have hq := flat_of_before _ hr
  have hc : (Cond.count 1).before args s = true := hs _ (by decide +kernel)
  have harr : (Cond.arrayOf (.arg 0) .int).before args s = true := hs _ (by decide +kernel)
  have hle : (Cond.le (.length (.arg 0)) (.int 3072)).before args s = true := hs _ (by decide +kernel)
  have hlen : (Cond.isInt (.length (.arg 0))).before args s = true := hq _ (by decide +kernel)
  have hall : (Cond.all (.arg 0) (.isInt (.elem (.arg 0) (.index 0)))).before args s = true := hq _ (by decide +kernel)
  obtain ⟨b, xs, hb, hx⟩ := State.ints_of_pre rfl harr hlen hall
  have hsm : xs.length < 2 ^ 31 := hx.choose_spec.2.2.2
  have hev : (Term.length (.arg 0)).eval args s none [] s = some (.int xs.length.toInt32) := hx.length_eval hb
  have hv := Cond.le_ints hev (show (Term.int 3072).eval args s none [] s = some (.int 3072) from rfl)
  have hd : xs.length.toInt32 ≤ 3072 := by
    simpa [Cond.before, Cond.holds, hv] using hle
  have hN : xs.length ≤ 3072 := (Int32.ofNat_le_ofNat hsm (by decide)).mp (show Int32.ofNat xs.length ≤ Int32.ofNat 3072 from hd)
  exact ⟨b, xs, Cond.one_arg hc (show args[0]? = some (.ref b) from hb), hx, hN, h⟩
theorem lw_comes (l : Launch) (hflags : l.flags = flags0) : Comes l x (Jvm.Cond.code x code maxLocals ret :: tables_1) room_1 (fun tb e args s => Calls_1 tb e args s ∧ rest_1 tb e args s ∧ Pre_1 tb e args s)
    (fun _ _ args s o t => lw_Q args s o t) := by
  intro p e ha hc hk s m args below hf hfit hheap happ hpre
  obtain ⟨b, xs, hP⟩ := lw_pre_spec hpre.2.2 hpre.2.1
  obtain ⟨k, o, h1, h2, h3, hQ⟩ := lw_walk l hflags b xs p e ha hc hk s m args below hf ((Spec.applies_iff_loose hf).mp happ).1 hP trivial
  exact ⟨k, o, h1, h2, h3, hQ⟩
theorem lw_frame {s t : State} {o : Outcome} {args : Array Value} (h : Framed s o t [] 600000 7302250) :
    Framed s o t (fieldLocs frame_1_writes args s ++ arrayLocs frame_1_arrays args s ++ staticLocs frame_1_statics s) 600000 7302250 := h
theorem lw_limb (L : Cond) (hL : ∀ (args : Array Value) (s t : State), L.after args s (.returned (some (.int 1))) t = true) :
    ArmFor flags0 classFile x code maxLocals ret World_1 tables_1 room_1 Calls_1 rest_1 Pre_1
      (fun tb e a s o t => postC L tb e a s o t ∧ Framed s o t (fieldLocs frame_1_writes a s ++ arrayLocs frame_1_arrays a s ++ staticLocs frame_1_statics s) 600000 7302250) := by
  intro l hflags _ _ p e ha hc hk s m args below hf hfit hheap happ hpre
  obtain ⟨k, o, h1, h2, h3, rfl, hF⟩ := lw_comes l hflags p e ha hc hk s m args below hf hfit hheap happ hpre
  exact ⟨k, _, h1, h2, h3, hL args s _, lw_frame hF⟩
theorem i_vc : Claimed_1_1 ∧ Claimed_1_2 := ⟨lw_limb limb_1_1 (fun args s t => by simp [limb_1_1, Cond.after, Cond.holds, Cond.value]), lw_limb limb_1_2 (fun args s t => Cond.after_iff.mpr (by
  first | (rw [show limb_1_2 = Cond.eq .result (.int 1) from rfl, Cond.eq_ints (x := 1) (y := 1) rfl rfl]; simp; done) | (simp [limb_1_2, Cond.value, Term.eval]; done)))⟩
