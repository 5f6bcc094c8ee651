/-! rows of the judgement J, one an instruction: goal behind first -/
section JR
variable {X : hC} {own : String} {cc : ByteArray} {d : Nat} {pc : Nat} {lv : List (Option Value)} {st : List Value} {M : hM}
theorem j_iconst (h : Ok X own cc d) (q : Nat) (hq : pc + 1 = q) {n : Int} (v : Int32) (hv : Int32.ofInt n = v) (hd : decode cc pc = .ok (.iconst n, 1)) (k : J X q lv (.int v :: st) M) : J X pc lv st M := by
  obtain ⟨p, l, e, R, s, m, args, below, meth, c, D, ⟨cI, cZ, cQ⟩, ρ, A, Q, kc, ks⟩ := X
  subst hq; obtain ⟨hx, hb, h⟩ := h
  intro hn H locs ls hP hS hl
  exact lv_iconst hx hb hd hv (k hn H locs ls hP hS hl)
theorem j_bipush (h : Ok X own cc d) (q : Nat) (hq : pc + 2 = q) {n : Int} (v : Int32) (hv : (Int8.ofInt n).toInt32 = v) (hd : decode cc pc = .ok (.bipush n, 2)) (k : J X q lv (.int v :: st) M) : J X pc lv st M := by
  obtain ⟨p, l, e, R, s, m, args, below, meth, c, D, ⟨cI, cZ, cQ⟩, ρ, A, Q, kc, ks⟩ := X
  subst hq; obtain ⟨hx, hb, h⟩ := h
  intro hn H locs ls hP hS hl
  exact lv_bipush hx hb hd hv (k hn H locs ls hP hS hl)
theorem j_sipush (h : Ok X own cc d) (q : Nat) (hq : pc + 3 = q) {n : Int} (v : Int32) (hv : (Int16.ofInt n).toInt32 = v) (hd : decode cc pc = .ok (.sipush n, 3)) (k : J X q lv (.int v :: st) M) : J X pc lv st M := by
  obtain ⟨p, l, e, R, s, m, args, below, meth, c, D, ⟨cI, cZ, cQ⟩, ρ, A, Q, kc, ks⟩ := X
  subst hq; obtain ⟨hx, hb, h⟩ := h
  intro hn H locs ls hP hS hl
  exact lv_sipush hx hb hd hv (k hn H locs ls hP hS hl)
theorem j_lconst (h : Ok X own cc d) (q : Nat) (hq : pc + 1 = q) {n : Fin 2} (v : Int64) (hv : Int64.ofNat (n : Nat) = v) (hd : decode cc pc = .ok (.lconst n, 1)) (k : J X q lv (.long v :: st) M) : J X pc lv st M := by
  obtain ⟨p, l, e, R, s, m, args, below, meth, c, D, ⟨cI, cZ, cQ⟩, ρ, A, Q, kc, ks⟩ := X
  subst hq; obtain ⟨hx, hb, h⟩ := h
  intro hn H locs ls hP hS hl
  exact lv_lconst hx hb hd hv (k hn H locs ls hP hS hl)
theorem j_ldc (h : Ok X own cc d) (q : Nat) (hq : pc + 2 = q) {ix : Nat} (v : Int32) (hw : Cond.constant own ix v ∈ wsL_law) (hd : decode cc pc = .ok (.ldc ix, 2)) (k : J X q lv (.int v :: st) M) : J X pc lv st M := by
  obtain ⟨p, l, e, R, s, m, args, below, meth, c, D, ⟨cI, cZ, cQ⟩, ρ, A, Q, kc, ks⟩ := X
  subst hq; obtain ⟨hx, hb, ho, hts, h⟩ := h
  intro hn H locs ls hP hS hl
  exact lv_ldc hx hb ho (hts _ hw) hd (k hn H locs ls hP hS hl)
theorem j_ldcw (h : Ok X own cc d) (q : Nat) (hq : pc + 3 = q) {ix : Nat} (v : Int32) (hw : Cond.constant own ix v ∈ wsL_law) (hd : decode cc pc = .ok (.ldc_w ix, 3)) (k : J X q lv (.int v :: st) M) : J X pc lv st M := by
  obtain ⟨p, l, e, R, s, m, args, below, meth, c, D, ⟨cI, cZ, cQ⟩, ρ, A, Q, kc, ks⟩ := X
  subst hq; obtain ⟨hx, hb, ho, hts, h⟩ := h
  intro hn H locs ls hP hS hl
  exact lv_ldcw hx hb ho (hts _ hw) hd (k hn H locs ls hP hS hl)
theorem j_ldc2 (h : Ok X own cc d) (q : Nat) (hq : pc + 3 = q) {ix : Nat} (v : Int64) (hw : Cond.constantLong own ix v ∈ wsL_law) (hd : decode cc pc = .ok (.ldc2_w ix, 3)) (k : J X q lv (.long v :: st) M) : J X pc lv st M := by
  obtain ⟨p, l, e, R, s, m, args, below, meth, c, D, ⟨cI, cZ, cQ⟩, ρ, A, Q, kc, ks⟩ := X
  subst hq; obtain ⟨hx, hb, ho, hts, h⟩ := h
  intro hn H locs ls hP hS hl
  exact lv_ldc2 hx hb ho (hts _ hw) hd (k hn H locs ls hP hS hl)
/-- a word of House's -/
theorem j_ldcS (h : Ok X RX3 cc d) (q : Nat) (hq : pc + 2 = q) (i : Nat) (hi : Nat.blt i 10 = true) {ix : Nat} (hix : hIdx.getD i 0 = ix) (hd : decode cc pc = .ok (.ldc ix, 2)) (k : J X q lv (.ref (500 + i) :: st) M) : J X pc lv st M := by
  obtain ⟨p, l, e, R, s, m, args, below, meth, c, D, ⟨cI, cZ, cQ⟩, ρ, A, Q, kc, ks⟩ := X
  subst hq; obtain ⟨hx, hb, ho, hts, -, -, -, -, -, -, -, hR, -⟩ := h
  intro hn H locs ls hP hS hl
  subst hix
  exact va_ldcS hx hb ho (hR i (Nat.le_of_ble_eq_true hi)) hd (k hn H locs ls hP hS hl)
theorem j_iload_n (h : Ok X own cc d) (q : Nat) (hq : pc + 1 = q) {i : Fin 4} {x : Int32} (hl0 : lg lv i = some (.int x)) (hd : decode cc pc = .ok (.iload_n i, 1)) (k : J X q lv (.int x :: st) M) : J X pc lv st M := by
  obtain ⟨p, l, e, R, s, m, args, below, meth, c, D, ⟨cI, cZ, cQ⟩, ρ, A, Q, kc, ks⟩ := X
  subst hq; obtain ⟨hx, hb, h⟩ := h
  intro hn H locs ls hP hS hl
  exact lv_iload_n hx hb hd rfl (lv_of ρ hl hl0) (k hn H locs ls hP hS hl)
theorem j_iload (h : Ok X own cc d) (q : Nat) (hq : pc + 2 = q) {i : Nat} {x : Int32} (hl0 : lg lv i = some (.int x)) (hd : decode cc pc = .ok (.iload i, 2)) (k : J X q lv (.int x :: st) M) : J X pc lv st M := by
  obtain ⟨p, l, e, R, s, m, args, below, meth, c, D, ⟨cI, cZ, cQ⟩, ρ, A, Q, kc, ks⟩ := X
  subst hq; obtain ⟨hx, hb, h⟩ := h
  intro hn H locs ls hP hS hl
  exact lv_iload hx hb hd (lv_of ρ hl hl0) (k hn H locs ls hP hS hl)
theorem j_lload_n (h : Ok X own cc d) (q : Nat) (hq : pc + 1 = q) {i : Fin 4} {x : Int64} (hl0 : lg lv i = some (.long x)) (hd : decode cc pc = .ok (.lload_n i, 1)) (k : J X q lv (.long x :: st) M) : J X pc lv st M := by
  obtain ⟨p, l, e, R, s, m, args, below, meth, c, D, ⟨cI, cZ, cQ⟩, ρ, A, Q, kc, ks⟩ := X
  subst hq; obtain ⟨hx, hb, h⟩ := h
  intro hn H locs ls hP hS hl
  exact lv_lload_n hx hb hd rfl (lv_of ρ hl hl0) (k hn H locs ls hP hS hl)
theorem j_aload_n (h : Ok X own cc d) (q : Nat) (hq : pc + 1 = q) {i : Fin 4} {x : Nat} (hl0 : lg lv i = some (.ref x)) (hd : decode cc pc = .ok (.aload_n i, 1)) (k : J X q lv (.ref x :: st) M) : J X pc lv st M := by
  obtain ⟨p, l, e, R, s, m, args, below, meth, c, D, ⟨cI, cZ, cQ⟩, ρ, A, Q, kc, ks⟩ := X
  subst hq; obtain ⟨hx, hb, h⟩ := h
  intro hn H locs ls hP hS hl
  exact lv_aload_n hx hb hd rfl (lv_of ρ hl hl0) (k hn H locs ls hP hS hl)
theorem j_aload (h : Ok X own cc d) (q : Nat) (hq : pc + 2 = q) {i : Nat} {x : Nat} (hl0 : lg lv i = some (.ref x)) (hd : decode cc pc = .ok (.aload i, 2)) (k : J X q lv (.ref x :: st) M) : J X pc lv st M := by
  obtain ⟨p, l, e, R, s, m, args, below, meth, c, D, ⟨cI, cZ, cQ⟩, ρ, A, Q, kc, ks⟩ := X
  subst hq; obtain ⟨hx, hb, h⟩ := h
  intro hn H locs ls hP hS hl
  exact lv_aload hx hb hd (lv_of ρ hl hl0) (k hn H locs ls hP hS hl)
theorem j_istore_n (h : Ok X own cc d) (q : Nat) (hq : pc + 1 = q) {i : Fin 4} {x : Int32} (hk : lok lv i = true) (hd : decode cc pc = .ok (.istore_n i, 1)) (k : J X q (lset lv i (some (.int x))) st M) : J X pc lv (.int x :: st) M := by
  obtain ⟨p, l, e, R, s, m, args, below, meth, c, D, ⟨cI, cZ, cQ⟩, ρ, A, Q, kc, ks⟩ := X
  subst hq; obtain ⟨hx, hb, h⟩ := h
  intro hn H locs ls hP hS hl
  exact lv_istore_n hx hb hd rfl hl (Nat.lt_of_lt_of_le (lok_ok lv i hk).1 hn) rfl (fun ls' hl' => k (by rw [lset_len]; exact hn) H locs ls' hP hS (lv_st ρ (w := .int x) hk hl'))
theorem j_istore (h : Ok X own cc d) (q : Nat) (hq : pc + 2 = q) {i : Nat} {x : Int32} (hk : lok lv i = true) (hd : decode cc pc = .ok (.istore i, 2)) (k : J X q (lset lv i (some (.int x))) st M) : J X pc lv (.int x :: st) M := by
  obtain ⟨p, l, e, R, s, m, args, below, meth, c, D, ⟨cI, cZ, cQ⟩, ρ, A, Q, kc, ks⟩ := X
  subst hq; obtain ⟨hx, hb, h⟩ := h
  intro hn H locs ls hP hS hl
  exact lv_istore hx hb hd hl (Nat.lt_of_lt_of_le (lok_ok lv i hk).1 hn) rfl (fun ls' hl' => k (by rw [lset_len]; exact hn) H locs ls' hP hS (lv_st ρ (w := .int x) hk hl'))
theorem j_iinc (h : Ok X own cc d) (q : Nat) (hq : pc + 3 = q) {i : Nat} {n : Int} {x : Int32} (v : Int32) (hv : Int32.ofInt n = v) (hl0 : lg lv i = some (.int x)) (hk : lok lv i = true) (hd : decode cc pc = .ok (.iinc i n, 3)) (k : J X q (lset lv i (some (.int (x + v)))) st M) : J X pc lv st M := by
  obtain ⟨p, l, e, R, s, m, args, below, meth, c, D, ⟨cI, cZ, cQ⟩, ρ, A, Q, kc, ks⟩ := X
  subst hq; subst hv; obtain ⟨hx, hb, h⟩ := h
  intro hn H locs ls hP hS hl
  have hm := lvc_in ρ lv 0 i _ hl0
  rw [Nat.zero_add] at hm
  obtain ⟨k9, hk9⟩ := List.getElem?_of_mem hm
  exact lv_iinc hx hb hd hl hk9 rfl (Nat.lt_of_lt_of_le (lok_ok lv i hk).1 hn) rfl (fun ls' hl' => k (by rw [lset_len]; exact hn) H locs ls' hP hS (lv_st ρ (w := .int (x + Int32.ofInt n)) hk hl'))
theorem j_iadd (h : Ok X own cc d) (q : Nat) (hq : pc + 1 = q) {x y : Int32} (hd : decode cc pc = .ok (.iadd, 1)) (k : J X q lv (.int (x + y) :: st) M) : J X pc lv (.int y :: .int x :: st) M := by
  obtain ⟨p, l, e, R, s, m, args, below, meth, c, D, ⟨cI, cZ, cQ⟩, ρ, A, Q, kc, ks⟩ := X
  subst hq; obtain ⟨hx, hb, h⟩ := h
  intro hn H locs ls hP hS hl
  exact lv_iadd hx hb hd (k hn H locs ls hP hS hl)
theorem j_isub (h : Ok X own cc d) (q : Nat) (hq : pc + 1 = q) {x y : Int32} (hd : decode cc pc = .ok (.isub, 1)) (k : J X q lv (.int (x - y) :: st) M) : J X pc lv (.int y :: .int x :: st) M := by
  obtain ⟨p, l, e, R, s, m, args, below, meth, c, D, ⟨cI, cZ, cQ⟩, ρ, A, Q, kc, ks⟩ := X
  subst hq; obtain ⟨hx, hb, h⟩ := h
  intro hn H locs ls hP hS hl
  exact lv_isub hx hb hd (k hn H locs ls hP hS hl)
theorem j_imul (h : Ok X own cc d) (q : Nat) (hq : pc + 1 = q) {x y : Int32} (hd : decode cc pc = .ok (.imul, 1)) (k : J X q lv (.int (x * y) :: st) M) : J X pc lv (.int y :: .int x :: st) M := by
  obtain ⟨p, l, e, R, s, m, args, below, meth, c, D, ⟨cI, cZ, cQ⟩, ρ, A, Q, kc, ks⟩ := X
  subst hq; obtain ⟨hx, hb, h⟩ := h
  intro hn H locs ls hP hS hl
  exact lv_imul hx hb hd (k hn H locs ls hP hS hl)
theorem j_iand (h : Ok X own cc d) (q : Nat) (hq : pc + 1 = q) {x y : Int32} (hd : decode cc pc = .ok (.iand, 1)) (k : J X q lv (.int (x &&& y) :: st) M) : J X pc lv (.int y :: .int x :: st) M := by
  obtain ⟨p, l, e, R, s, m, args, below, meth, c, D, ⟨cI, cZ, cQ⟩, ρ, A, Q, kc, ks⟩ := X
  subst hq; obtain ⟨hx, hb, h⟩ := h
  intro hn H locs ls hP hS hl
  exact lv_iand hx hb hd (k hn H locs ls hP hS hl)
theorem j_ior (h : Ok X own cc d) (q : Nat) (hq : pc + 1 = q) {x y : Int32} (hd : decode cc pc = .ok (.ior, 1)) (k : J X q lv (.int (x ||| y) :: st) M) : J X pc lv (.int y :: .int x :: st) M := by
  obtain ⟨p, l, e, R, s, m, args, below, meth, c, D, ⟨cI, cZ, cQ⟩, ρ, A, Q, kc, ks⟩ := X
  subst hq; obtain ⟨hx, hb, h⟩ := h
  intro hn H locs ls hP hS hl
  exact lv_ior hx hb hd (k hn H locs ls hP hS hl)
theorem j_ixor (h : Ok X own cc d) (q : Nat) (hq : pc + 1 = q) {x y : Int32} (hd : decode cc pc = .ok (.ixor, 1)) (k : J X q lv (.int (x ^^^ y) :: st) M) : J X pc lv (.int y :: .int x :: st) M := by
  obtain ⟨p, l, e, R, s, m, args, below, meth, c, D, ⟨cI, cZ, cQ⟩, ρ, A, Q, kc, ks⟩ := X
  subst hq; obtain ⟨hx, hb, h⟩ := h
  intro hn H locs ls hP hS hl
  exact lv_ixor hx hb hd (k hn H locs ls hP hS hl)
theorem j_ishl (h : Ok X own cc d) (q : Nat) (hq : pc + 1 = q) {x y : Int32} (hd : decode cc pc = .ok (.ishl, 1)) (k : J X q lv (.int (x <<< (y &&& 31)) :: st) M) : J X pc lv (.int y :: .int x :: st) M := by
  obtain ⟨p, l, e, R, s, m, args, below, meth, c, D, ⟨cI, cZ, cQ⟩, ρ, A, Q, kc, ks⟩ := X
  subst hq; obtain ⟨hx, hb, h⟩ := h
  intro hn H locs ls hP hS hl
  exact lv_ishl hx hb hd (k hn H locs ls hP hS hl)
theorem j_ishr (h : Ok X own cc d) (q : Nat) (hq : pc + 1 = q) {x y : Int32} (hd : decode cc pc = .ok (.ishr, 1)) (k : J X q lv (.int (x >>> (y &&& 31)) :: st) M) : J X pc lv (.int y :: .int x :: st) M := by
  obtain ⟨p, l, e, R, s, m, args, below, meth, c, D, ⟨cI, cZ, cQ⟩, ρ, A, Q, kc, ks⟩ := X
  subst hq; obtain ⟨hx, hb, h⟩ := h
  intro hn H locs ls hP hS hl
  exact lv_ishr hx hb hd (k hn H locs ls hP hS hl)
theorem j_ladd (h : Ok X own cc d) (q : Nat) (hq : pc + 1 = q) {x y : Int64} (hd : decode cc pc = .ok (.ladd, 1)) (k : J X q lv (.long (x + y) :: st) M) : J X pc lv (.long y :: .long x :: st) M := by
  obtain ⟨p, l, e, R, s, m, args, below, meth, c, D, ⟨cI, cZ, cQ⟩, ρ, A, Q, kc, ks⟩ := X
  subst hq; obtain ⟨hx, hb, h⟩ := h
  intro hn H locs ls hP hS hl
  exact lv_ladd hx hb hd (k hn H locs ls hP hS hl)
theorem j_lsub (h : Ok X own cc d) (q : Nat) (hq : pc + 1 = q) {x y : Int64} (hd : decode cc pc = .ok (.lsub, 1)) (k : J X q lv (.long (x - y) :: st) M) : J X pc lv (.long y :: .long x :: st) M := by
  obtain ⟨p, l, e, R, s, m, args, below, meth, c, D, ⟨cI, cZ, cQ⟩, ρ, A, Q, kc, ks⟩ := X
  subst hq; obtain ⟨hx, hb, h⟩ := h
  intro hn H locs ls hP hS hl
  exact lv_lsub hx hb hd (k hn H locs ls hP hS hl)
theorem j_lmul (h : Ok X own cc d) (q : Nat) (hq : pc + 1 = q) {x y : Int64} (hd : decode cc pc = .ok (.lmul, 1)) (k : J X q lv (.long (x * y) :: st) M) : J X pc lv (.long y :: .long x :: st) M := by
  obtain ⟨p, l, e, R, s, m, args, below, meth, c, D, ⟨cI, cZ, cQ⟩, ρ, A, Q, kc, ks⟩ := X
  subst hq; obtain ⟨hx, hb, h⟩ := h
  intro hn H locs ls hP hS hl
  exact lv_lmul hx hb hd (k hn H locs ls hP hS hl)
theorem j_land (h : Ok X own cc d) (q : Nat) (hq : pc + 1 = q) {x y : Int64} (hd : decode cc pc = .ok (.land, 1)) (k : J X q lv (.long (x &&& y) :: st) M) : J X pc lv (.long y :: .long x :: st) M := by
  obtain ⟨p, l, e, R, s, m, args, below, meth, c, D, ⟨cI, cZ, cQ⟩, ρ, A, Q, kc, ks⟩ := X
  subst hq; obtain ⟨hx, hb, h⟩ := h
  intro hn H locs ls hP hS hl
  exact lv_land hx hb hd (k hn H locs ls hP hS hl)
theorem j_lor (h : Ok X own cc d) (q : Nat) (hq : pc + 1 = q) {x y : Int64} (hd : decode cc pc = .ok (.lor, 1)) (k : J X q lv (.long (x ||| y) :: st) M) : J X pc lv (.long y :: .long x :: st) M := by
  obtain ⟨p, l, e, R, s, m, args, below, meth, c, D, ⟨cI, cZ, cQ⟩, ρ, A, Q, kc, ks⟩ := X
  subst hq; obtain ⟨hx, hb, h⟩ := h
  intro hn H locs ls hP hS hl
  exact lv_lor hx hb hd (k hn H locs ls hP hS hl)
theorem j_idiv (h : Ok X own cc d) (q : Nat) (hq : pc + 1 = q) {x y : Int32} (hne : ¬ y = 0) (hd : decode cc pc = .ok (.idiv, 1)) (k : J X q lv (.int (x / y) :: st) M) : J X pc lv (.int y :: .int x :: st) M := by
  obtain ⟨p, l, e, R, s, m, args, below, meth, c, D, ⟨cI, cZ, cQ⟩, ρ, A, Q, kc, ks⟩ := X
  subst hq; obtain ⟨hx, hb, h⟩ := h
  intro hn H locs ls hP hS hl
  exact lv_idiv hx hb hd hne (k hn H locs ls hP hS hl)
theorem j_irem (h : Ok X own cc d) (q : Nat) (hq : pc + 1 = q) {x y : Int32} (hne : ¬ y = 0) (hd : decode cc pc = .ok (.irem, 1)) (k : J X q lv (.int (x - x / y * y) :: st) M) : J X pc lv (.int y :: .int x :: st) M := by
  obtain ⟨p, l, e, R, s, m, args, below, meth, c, D, ⟨cI, cZ, cQ⟩, ρ, A, Q, kc, ks⟩ := X
  subst hq; obtain ⟨hx, hb, h⟩ := h
  intro hn H locs ls hP hS hl
  exact lv_irem hx hb hd hne (k hn H locs ls hP hS hl)
theorem j_ineg (h : Ok X own cc d) (q : Nat) (hq : pc + 1 = q) {x : Int32} (hd : decode cc pc = .ok (.ineg, 1)) (k : J X q lv (.int (-x) :: st) M) : J X pc lv (.int x :: st) M := by
  obtain ⟨p, l, e, R, s, m, args, below, meth, c, D, ⟨cI, cZ, cQ⟩, ρ, A, Q, kc, ks⟩ := X
  subst hq; obtain ⟨hx, hb, h⟩ := h
  intro hn H locs ls hP hS hl
  exact lv_ineg hx hb hd (k hn H locs ls hP hS hl)
theorem j_i2l (h : Ok X own cc d) (q : Nat) (hq : pc + 1 = q) {x : Int32} (hd : decode cc pc = .ok (.i2l, 1)) (k : J X q lv (.long (x.toInt64) :: st) M) : J X pc lv (.int x :: st) M := by
  obtain ⟨p, l, e, R, s, m, args, below, meth, c, D, ⟨cI, cZ, cQ⟩, ρ, A, Q, kc, ks⟩ := X
  subst hq; obtain ⟨hx, hb, h⟩ := h
  intro hn H locs ls hP hS hl
  exact lv_i2l hx hb hd rfl (k hn H locs ls hP hS hl)
theorem j_l2i (h : Ok X own cc d) (q : Nat) (hq : pc + 1 = q) {x : Int64} (hd : decode cc pc = .ok (.l2i, 1)) (k : J X q lv (.int (x.toInt32) :: st) M) : J X pc lv (.long x :: st) M := by
  obtain ⟨p, l, e, R, s, m, args, below, meth, c, D, ⟨cI, cZ, cQ⟩, ρ, A, Q, kc, ks⟩ := X
  subst hq; obtain ⟨hx, hb, h⟩ := h
  intro hn H locs ls hP hS hl
  exact lv_l2i hx hb hd rfl (k hn H locs ls hP hS hl)
theorem j_i2c (h : Ok X own cc d) (q : Nat) (hq : pc + 1 = q) {x : Int32} (hd : decode cc pc = .ok (.i2c, 1)) (k : J X q lv (.int ((x.toUInt32 % 65536).toInt32) :: st) M) : J X pc lv (.int x :: st) M := by
  obtain ⟨p, l, e, R, s, m, args, below, meth, c, D, ⟨cI, cZ, cQ⟩, ρ, A, Q, kc, ks⟩ := X
  subst hq; obtain ⟨hx, hb, h⟩ := h
  intro hn H locs ls hP hS hl
  exact lv_i2c hx hb hd rfl (k hn H locs ls hP hS hl)
theorem j_iushr (h : Ok X own cc d) (q : Nat) (hq : pc + 1 = q) {x y : Int32} (hd : decode cc pc = .ok (.iushr, 1)) (k : J X q lv (.int (x.toUInt32 >>> (y.toUInt32 &&& Int32.toUInt32 31)).toInt32 :: st) M) : J X pc lv (.int y :: .int x :: st) M := by
  obtain ⟨p, l, e, R, s, m, args, below, meth, c, D, ⟨cI, cZ, cQ⟩, ρ, A, Q, kc, ks⟩ := X
  subst hq; obtain ⟨hx, hb, h⟩ := h
  intro hn H locs ls hP hS hl
  exact lv_iushr hx hb hd rfl (k hn H locs ls hP hS hl)
theorem j_lshl (h : Ok X own cc d) (q : Nat) (hq : pc + 1 = q) {x : Int64} {y : Int32} (hd : decode cc pc = .ok (.lshl, 1)) (k : J X q lv (.long (x <<< (y.toInt64 &&& 63)) :: st) M) : J X pc lv (.int y :: .long x :: st) M := by
  obtain ⟨p, l, e, R, s, m, args, below, meth, c, D, ⟨cI, cZ, cQ⟩, ρ, A, Q, kc, ks⟩ := X
  subst hq; obtain ⟨hx, hb, h⟩ := h
  intro hn H locs ls hP hS hl
  exact lv_lshl hx hb hd rfl (k hn H locs ls hP hS hl)
theorem j_lshr (h : Ok X own cc d) (q : Nat) (hq : pc + 1 = q) {x : Int64} {y : Int32} (hd : decode cc pc = .ok (.lshr, 1)) (k : J X q lv (.long (x >>> (y.toInt64 &&& 63)) :: st) M) : J X pc lv (.int y :: .long x :: st) M := by
  obtain ⟨p, l, e, R, s, m, args, below, meth, c, D, ⟨cI, cZ, cQ⟩, ρ, A, Q, kc, ks⟩ := X
  subst hq; obtain ⟨hx, hb, h⟩ := h
  intro hn H locs ls hP hS hl
  exact lv_lshr hx hb hd rfl (k hn H locs ls hP hS hl)
theorem j_lcmp (h : Ok X own cc d) (q : Nat) (hq : pc + 1 = q) {x y : Int64} (hd : decode cc pc = .ok (.lcmp, 1)) (k : J X q lv (.int (lg_cmp x y) :: st) M) : J X pc lv (.long y :: .long x :: st) M := by
  obtain ⟨p, l, e, R, s, m, args, below, meth, c, D, ⟨cI, cZ, cQ⟩, ρ, A, Q, kc, ks⟩ := X
  subst hq; obtain ⟨hx, hb, h⟩ := h
  intro hn H locs ls hP hS hl
  exact W.lcmp hx hb hd (k hn H locs ls hP hS hl)
theorem j_dup (h : Ok X own cc d) (q : Nat) (hq : pc + 1 = q) {a : Value} (ha : a.category = 1) (hd : decode cc pc = .ok (.dup, 1)) (k : J X q lv (a :: a :: st) M) : J X pc lv (a :: st) M := by
  obtain ⟨p, l, e, R, s, m, args, below, meth, c, D, ⟨cI, cZ, cQ⟩, ρ, A, Q, kc, ks⟩ := X
  subst hq; obtain ⟨hx, hb, h⟩ := h
  intro hn H locs ls hP hS hl
  exact lv_dup hx hb hd (by rw [cv_cat]; exact ha) (k hn H locs ls hP hS hl)
theorem j_pop (h : Ok X own cc d) (q : Nat) (hq : pc + 1 = q) {a : Value} (ha : a.category = 1) (hd : decode cc pc = .ok (.pop, 1)) (k : J X q lv st M) : J X pc lv (a :: st) M := by
  obtain ⟨p, l, e, R, s, m, args, below, meth, c, D, ⟨cI, cZ, cQ⟩, ρ, A, Q, kc, ks⟩ := X
  subst hq; obtain ⟨hx, hb, h⟩ := h
  intro hn H locs ls hP hS hl
  exact lv_pop hx hb hd (by rw [cv_cat]; exact ha) (k hn H locs ls hP hS hl)
theorem j_dup_x1 (h : Ok X own cc d) (q : Nat) (hq : pc + 1 = q) {a b : Value} (ha : a.category = 1) (hb9 : b.category = 1) (hd : decode cc pc = .ok (.dup_x1, 1)) (k : J X q lv (a :: b :: a :: st) M) : J X pc lv (a :: b :: st) M := by
  obtain ⟨p, l, e, R, s, m, args, below, meth, c, D, ⟨cI, cZ, cQ⟩, ρ, A, Q, kc, ks⟩ := X
  subst hq; obtain ⟨hx, hb, h⟩ := h
  intro hn H locs ls hP hS hl
  exact lv_dup_x1 hx hb hd (by rw [cv_cat]; exact ha) (by rw [cv_cat]; exact hb9) (k hn H locs ls hP hS hl)
theorem j_dup2 (h : Ok X own cc d) (q : Nat) (hq : pc + 1 = q) {a b : Value} (ha : a.category = 1) (hb9 : b.category = 1) (hd : decode cc pc = .ok (.dup2, 1)) (k : J X q lv (a :: b :: a :: b :: st) M) : J X pc lv (a :: b :: st) M := by
  obtain ⟨p, l, e, R, s, m, args, below, meth, c, D, ⟨cI, cZ, cQ⟩, ρ, A, Q, kc, ks⟩ := X
  subst hq; obtain ⟨hx, hb, h⟩ := h
  intro hn H locs ls hP hS hl
  exact lv_dup2_11 hx hb hd (by rw [cv_cat]; exact ha) (by rw [cv_cat]; exact hb9) (k hn H locs ls hP hS hl)
theorem j_if_eq (h : Ok X own cc d) (tq q : Nat) {x : Int32} {off : Int} (hd : decode cc pc = .ok (.ifCond .eq off, 3)) (ht : (pc : Int) + off = (tq : Int)) (hq : pc + 3 = q) (kt : x = 0 → J X tq lv st M) (kf : ¬ x = 0 → J X q lv st M) : J X pc lv (.int x :: st) M := by
  obtain ⟨p, l, e, R, s, m, args, below, meth, c, D, ⟨cI, cZ, cQ⟩, ρ, A, Q, kc, ks⟩ := X
  subst hq; obtain ⟨hx, hb, h⟩ := h
  intro hn H locs ls hP hS hl
  exact lv_if_eq hx hb hd ht (fun z => kt z hn H locs ls hP hS hl) (fun z => kf z hn H locs ls hP hS hl)
theorem j_icmp_eq (h : Ok X own cc d) (tq q : Nat) {x y : Int32} {off : Int} (hd : decode cc pc = .ok (.if_icmp .eq off, 3)) (ht : (pc : Int) + off = (tq : Int)) (hq : pc + 3 = q) (kt : x = y → J X tq lv st M) (kf : ¬ x = y → J X q lv st M) : J X pc lv (.int y :: .int x :: st) M := by
  obtain ⟨p, l, e, R, s, m, args, below, meth, c, D, ⟨cI, cZ, cQ⟩, ρ, A, Q, kc, ks⟩ := X
  subst hq; obtain ⟨hx, hb, h⟩ := h
  intro hn H locs ls hP hS hl
  exact lv_icmp_eq hx hb hd ht (fun z => kt z hn H locs ls hP hS hl) (fun z => kf z hn H locs ls hP hS hl)
theorem j_if_ne (h : Ok X own cc d) (tq q : Nat) {x : Int32} {off : Int} (hd : decode cc pc = .ok (.ifCond .ne off, 3)) (ht : (pc : Int) + off = (tq : Int)) (hq : pc + 3 = q) (kt : ¬ x = 0 → J X tq lv st M) (kf : x = 0 → J X q lv st M) : J X pc lv (.int x :: st) M := by
  obtain ⟨p, l, e, R, s, m, args, below, meth, c, D, ⟨cI, cZ, cQ⟩, ρ, A, Q, kc, ks⟩ := X
  subst hq; obtain ⟨hx, hb, h⟩ := h
  intro hn H locs ls hP hS hl
  exact lv_if_ne hx hb hd ht (fun z => kt z hn H locs ls hP hS hl) (fun z => kf z hn H locs ls hP hS hl)
theorem j_icmp_ne (h : Ok X own cc d) (tq q : Nat) {x y : Int32} {off : Int} (hd : decode cc pc = .ok (.if_icmp .ne off, 3)) (ht : (pc : Int) + off = (tq : Int)) (hq : pc + 3 = q) (kt : ¬ x = y → J X tq lv st M) (kf : x = y → J X q lv st M) : J X pc lv (.int y :: .int x :: st) M := by
  obtain ⟨p, l, e, R, s, m, args, below, meth, c, D, ⟨cI, cZ, cQ⟩, ρ, A, Q, kc, ks⟩ := X
  subst hq; obtain ⟨hx, hb, h⟩ := h
  intro hn H locs ls hP hS hl
  exact lv_icmp_ne hx hb hd ht (fun z => kt z hn H locs ls hP hS hl) (fun z => kf z hn H locs ls hP hS hl)
theorem j_if_lt (h : Ok X own cc d) (tq q : Nat) {x : Int32} {off : Int} (hd : decode cc pc = .ok (.ifCond .lt off, 3)) (ht : (pc : Int) + off = (tq : Int)) (hq : pc + 3 = q) (kt : x < 0 → J X tq lv st M) (kf : ¬ x < 0 → J X q lv st M) : J X pc lv (.int x :: st) M := by
  obtain ⟨p, l, e, R, s, m, args, below, meth, c, D, ⟨cI, cZ, cQ⟩, ρ, A, Q, kc, ks⟩ := X
  subst hq; obtain ⟨hx, hb, h⟩ := h
  intro hn H locs ls hP hS hl
  exact lv_if_lt hx hb hd ht (fun z => kt z hn H locs ls hP hS hl) (fun z => kf z hn H locs ls hP hS hl)
theorem j_icmp_lt (h : Ok X own cc d) (tq q : Nat) {x y : Int32} {off : Int} (hd : decode cc pc = .ok (.if_icmp .lt off, 3)) (ht : (pc : Int) + off = (tq : Int)) (hq : pc + 3 = q) (kt : x < y → J X tq lv st M) (kf : ¬ x < y → J X q lv st M) : J X pc lv (.int y :: .int x :: st) M := by
  obtain ⟨p, l, e, R, s, m, args, below, meth, c, D, ⟨cI, cZ, cQ⟩, ρ, A, Q, kc, ks⟩ := X
  subst hq; obtain ⟨hx, hb, h⟩ := h
  intro hn H locs ls hP hS hl
  exact lv_icmp_lt hx hb hd ht (fun z => kt z hn H locs ls hP hS hl) (fun z => kf z hn H locs ls hP hS hl)
theorem j_if_ge (h : Ok X own cc d) (tq q : Nat) {x : Int32} {off : Int} (hd : decode cc pc = .ok (.ifCond .ge off, 3)) (ht : (pc : Int) + off = (tq : Int)) (hq : pc + 3 = q) (kt : 0 ≤ x → J X tq lv st M) (kf : ¬ 0 ≤ x → J X q lv st M) : J X pc lv (.int x :: st) M := by
  obtain ⟨p, l, e, R, s, m, args, below, meth, c, D, ⟨cI, cZ, cQ⟩, ρ, A, Q, kc, ks⟩ := X
  subst hq; obtain ⟨hx, hb, h⟩ := h
  intro hn H locs ls hP hS hl
  exact lv_if_ge hx hb hd ht (fun z => kt z hn H locs ls hP hS hl) (fun z => kf z hn H locs ls hP hS hl)
theorem j_icmp_ge (h : Ok X own cc d) (tq q : Nat) {x y : Int32} {off : Int} (hd : decode cc pc = .ok (.if_icmp .ge off, 3)) (ht : (pc : Int) + off = (tq : Int)) (hq : pc + 3 = q) (kt : y ≤ x → J X tq lv st M) (kf : ¬ y ≤ x → J X q lv st M) : J X pc lv (.int y :: .int x :: st) M := by
  obtain ⟨p, l, e, R, s, m, args, below, meth, c, D, ⟨cI, cZ, cQ⟩, ρ, A, Q, kc, ks⟩ := X
  subst hq; obtain ⟨hx, hb, h⟩ := h
  intro hn H locs ls hP hS hl
  exact lv_icmp_ge hx hb hd ht (fun z => kt z hn H locs ls hP hS hl) (fun z => kf z hn H locs ls hP hS hl)
theorem j_if_gt (h : Ok X own cc d) (tq q : Nat) {x : Int32} {off : Int} (hd : decode cc pc = .ok (.ifCond .gt off, 3)) (ht : (pc : Int) + off = (tq : Int)) (hq : pc + 3 = q) (kt : 0 < x → J X tq lv st M) (kf : ¬ 0 < x → J X q lv st M) : J X pc lv (.int x :: st) M := by
  obtain ⟨p, l, e, R, s, m, args, below, meth, c, D, ⟨cI, cZ, cQ⟩, ρ, A, Q, kc, ks⟩ := X
  subst hq; obtain ⟨hx, hb, h⟩ := h
  intro hn H locs ls hP hS hl
  exact lv_if_gt hx hb hd ht (fun z => kt z hn H locs ls hP hS hl) (fun z => kf z hn H locs ls hP hS hl)
theorem j_icmp_gt (h : Ok X own cc d) (tq q : Nat) {x y : Int32} {off : Int} (hd : decode cc pc = .ok (.if_icmp .gt off, 3)) (ht : (pc : Int) + off = (tq : Int)) (hq : pc + 3 = q) (kt : y < x → J X tq lv st M) (kf : ¬ y < x → J X q lv st M) : J X pc lv (.int y :: .int x :: st) M := by
  obtain ⟨p, l, e, R, s, m, args, below, meth, c, D, ⟨cI, cZ, cQ⟩, ρ, A, Q, kc, ks⟩ := X
  subst hq; obtain ⟨hx, hb, h⟩ := h
  intro hn H locs ls hP hS hl
  exact lv_icmp_gt hx hb hd ht (fun z => kt z hn H locs ls hP hS hl) (fun z => kf z hn H locs ls hP hS hl)
theorem j_if_le (h : Ok X own cc d) (tq q : Nat) {x : Int32} {off : Int} (hd : decode cc pc = .ok (.ifCond .le off, 3)) (ht : (pc : Int) + off = (tq : Int)) (hq : pc + 3 = q) (kt : x ≤ 0 → J X tq lv st M) (kf : ¬ x ≤ 0 → J X q lv st M) : J X pc lv (.int x :: st) M := by
  obtain ⟨p, l, e, R, s, m, args, below, meth, c, D, ⟨cI, cZ, cQ⟩, ρ, A, Q, kc, ks⟩ := X
  subst hq; obtain ⟨hx, hb, h⟩ := h
  intro hn H locs ls hP hS hl
  exact lv_if_le hx hb hd ht (fun z => kt z hn H locs ls hP hS hl) (fun z => kf z hn H locs ls hP hS hl)
theorem j_icmp_le (h : Ok X own cc d) (tq q : Nat) {x y : Int32} {off : Int} (hd : decode cc pc = .ok (.if_icmp .le off, 3)) (ht : (pc : Int) + off = (tq : Int)) (hq : pc + 3 = q) (kt : x ≤ y → J X tq lv st M) (kf : ¬ x ≤ y → J X q lv st M) : J X pc lv (.int y :: .int x :: st) M := by
  obtain ⟨p, l, e, R, s, m, args, below, meth, c, D, ⟨cI, cZ, cQ⟩, ρ, A, Q, kc, ks⟩ := X
  subst hq; obtain ⟨hx, hb, h⟩ := h
  intro hn H locs ls hP hS hl
  exact lv_icmp_le hx hb hd ht (fun z => kt z hn H locs ls hP hS hl) (fun z => kf z hn H locs ls hP hS hl)
theorem j_goto (h : Ok X own cc d) (tq : Nat) {off : Int} (hd : decode cc pc = .ok (.goto off, 3)) (ht : (pc : Int) + off = (tq : Int)) (k : J X tq lv st M) : J X pc lv st M := by
  obtain ⟨p, l, e, R, s, m, args, below, meth, c, D, ⟨cI, cZ, cQ⟩, ρ, A, Q, kc, ks⟩ := X
  obtain ⟨hx, hb, h⟩ := h
  intro hn H locs ls hP hS hl
  exact lv_goto hx hb hd ht (k hn H locs ls hP hS hl)
/-- a switch over l0 .. l0 + n - 1: the targets, place by place -/
theorem j_tsw (h : Ok X own cc d) (tq l0 : Nat) (ts : List Nat) {dflt lo hi : Int} {offs : Array Int} {len : Nat} {x : Int32} (hd : decode cc pc = .ok (.tableswitch dflt lo hi offs, len)) (ht : (pc : Int) + dflt = (tq : Int)) (hlo : lo = (l0 : Int)) (hts : offs.toList.map (fun o : Int => (pc : Int) + o) = ts.map (fun t : Nat => (t : Int))) (hhi : hi + 1 = (l0 : Int) + (ts.length : Int)) (hs : l0 + ts.length < 2147483648)
    (kin : ∀ (i t : Nat), ts[i]? = some t → x = nI (l0 + i) → J X t lv st M) (kout : ¬ (nI l0 ≤ x ∧ x < nI (l0 + ts.length)) → J X tq lv st M) : J X pc lv (.int x :: st) M := by
  obtain ⟨p, l, e, R, s, m, args, below, meth, c, D, ⟨cI, cZ, cQ⟩, ρ, A, Q, kc, ks⟩ := X
  obtain ⟨hx, hb, h⟩ := h
  intro hn H locs ls hP hS hl
  subst hlo
  have e0 : (nI l0).toInt = (l0 : Int) := nI_toInt (by omega)
  have eN : (nI (l0 + ts.length)).toInt = ((l0 + ts.length : Nat) : Int) := nI_toInt hs
  by_cases hx1 : (l0 : Int) ≤ x.toInt ∧ x.toInt < ((l0 + ts.length : Nat) : Int)
  · have hlt : (x.toInt - l0).toNat < ts.length := by omega
    have hxi : x = nI (l0 + (x.toInt - l0).toNat) := by
      apply Int32.toInt_inj.mp
      rw [nI_toInt (by omega)]
      omega
    have hol : offs.size = ts.length := by
      have := congrArg List.length hts
      simpa using this
    have ho : offs[(x.toInt - l0).toNat]? = some offs[(x.toInt - l0).toNat] := Array.getElem?_eq_getElem (by omega)
    have ht9 : (pc : Int) + offs[(x.toInt - l0).toNat] = (ts[(x.toInt - l0).toNat] : Int) := by
      have h1 : (offs.toList.map (fun o : Int => (pc : Int) + o))[(x.toInt - l0).toNat]? = (ts.map (fun t : Nat => (t : Int)))[(x.toInt - l0).toNat]? := by rw [hts]
      rw [List.getElem?_map, List.getElem?_map, List.getElem?_eq_getElem (by simpa using (by omega : (x.toInt - l0).toNat < offs.size)), List.getElem?_eq_getElem hlt] at h1
      simpa using h1
    exact lv_tableIn hx hb hd (by omega) (by omega) ho ht9 (kin (x.toInt - l0).toNat _ (List.getElem?_eq_getElem hlt) hxi hn H locs ls hP hS hl)
  · refine lv_tableOut hx hb hd (by omega) ht (kout ?_ hn H locs ls hP hS hl)
    rintro ⟨h1, h2⟩
    have g1 := Int32.le_iff_toInt_le.mp h1
    have g2 := Int32.lt_iff_toInt_lt.mp h2
    rw [eN] at g2
    rw [e0] at g1
    exact hx1 ⟨g1, g2⟩
end JR
