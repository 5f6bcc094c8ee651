/-! rows of J: fields, arrays, statics, calls, ends -/
theorem fvs_putL (ρ : Nat → Nat) (M : hM) (a : Nat) {x : Int64} {fs : List Nat} {j : Nat} (hj : fs[j]? = some 1) (h2 : fs.length ≤ 1000) : (fvs ρ M a 0 fs).set j (.long x) = fvs ρ (mu (mu M a j (hiW x)) a (j + 1000) (loW x)) a 0 fs := by
  have hjl : j < fs.length := (List.getElem?_eq_some_iff.mp hj).1
  apply List.ext_getElem?
  intro i
  rw [fvs_get ρ (mu (mu M a j (hiW x)) a (j + 1000) (loW x)) a fs 0 i]
  by_cases hij : i = j
  · subst hij
    have hl : i < (fvs ρ M a 0 fs).length := by rw [fvs_len]; exact hjl
    rw [List.getElem?_set_self hl, hj, Nat.zero_add]
    show some (Value.long x) = some (cv ρ (.long (mkL (mu (mu M a i (hiW x)) a (i + 1000) (loW x) a i) (mu (mu M a i (hiW x)) a (i + 1000) (loW x) a (i + 1000)))))
    rw [mu_s, mu_k (show i ≠ i + 1000 by omega), mu_s, mkL_hl]; rfl
  · rw [List.getElem?_set_ne (Ne.symm hij), fvs_get ρ M a fs 0 i, Nat.zero_add]
    cases hf : fs[i]? with
    | none => rfl
    | some f =>
      have hil : i < fs.length := (List.getElem?_eq_some_iff.mp hf).1
      show some _ = some _
      congr 1
      match f with
      | 0 => show cv ρ (.int _) = cv ρ (.int _); rw [mu_k (show i ≠ j + 1000 by omega), mu_k hij]
      | 1 => show cv ρ (.long _) = cv ρ (.long _); rw [mu_k (show i ≠ j + 1000 by omega), mu_k hij, mu_k (show i + 1000 ≠ j + 1000 by omega), mu_k (show i + 1000 ≠ j by omega)]
      | b + 2 => rfl
theorem hSd_same {ρ : Nat → Nat} {A : Nat → Prop} {U : State} {g : JFrame} {mk : MethodId} {a : Array Value} (h : hSd ρ A U U.heap) : hSd ρ A (U.calling g mk a) (U.calling g mk a).heap := by
  obtain ⟨h1, ⟨h2, h3⟩, h4, h5, h6, h7⟩ := h
  exact ⟨va_Z.moved (u := U) (U := U.calling g mk a) (Vm.Alike.refl U.vm) h1, ⟨va_Z.moved (u := U) (U := U.calling g mk a) (Vm.Alike.refl U.vm) h2, va_T.moved (u := U) (U := U.calling g mk a) (Vm.Alike.refl U.vm) h3⟩, vk_S.moved (u := U) (U := U.calling g mk a) (Vm.Alike.refl U.vm) h4, fun i hi => vk_R.same (u := U) (U := U.calling g mk a) rfl (h5 i hi), fun q hm => va_Nw.same rfl (show U.vm = (U.calling g mk a).vm from rfl) (h6 q hm), h7.imp (fun z => va_Z.moved (u := U) (U := U.calling g mk a) (Vm.Alike.refl U.vm) z) (fun z => va_Z.moved (u := U) (U := U.calling g mk a) (Vm.Alike.refl U.vm) z)⟩
section JM
variable {X : hC} {own : String} {cc : ByteArray} {d : Nat} {pc : Nat} {lv : List (Option Value)} {st : List Value} {M : hM}
theorem j_get (h : Ok X own cc d) (q : Nat) (hq : pc + 3 = q) {ix ci k a f : Nat} {fs : List Nat} (hg : Gl own ix ci k) (ha : hT[a]? = some (0, ci, fs)) (hf : fs[k]? = some f) (hd : decode cc pc = .ok (.getfield ix, 3)) (kk : J X q lv (fva M a k f :: st) M) : J X pc lv (.ref a :: st) M := by
  obtain ⟨p, l, e, R, s, m, args, below, meth, c, D, ⟨cI, cZ, cQ⟩, ρ, A, Q, kc, ks⟩ := X
  subst hq; obtain ⟨hx, hb, ho, hts, -, hK, hD, hA9, hSt⟩ := h
  obtain ⟨C, T, N, ty, ⟨g1, g2, g3, g4⟩, g5, g6⟩ := hg
  intro hn H locs ls hP hS hl
  exact va_get hx hb hts g2 ho hK hP a (hW_get cI cZ cQ ρ M ha) g1 k g5 (hts _ g6) (fun _ h => h) (v := cv ρ (fva M a k f)) (by rw [fvs_get, hf, Nat.zero_add]; rfl) hd (kk hn H locs ls hP hS hl)
theorem j_getI (h : Ok X own cc d) (q : Nat) (hq : pc + 3 = q) {ix ci k a : Nat} {fs : List Nat} (hg : Gl own ix ci k) (ha : hT[a]? = some (0, ci, fs)) (hf : fs[k]? = some 0) (hd : decode cc pc = .ok (.getfield ix, 3)) (kk : J X q lv (.int (M a k) :: st) M) : J X pc lv (.ref a :: st) M := j_get h q hq hg ha hf hd kk
theorem j_getL (h : Ok X own cc d) (q : Nat) (hq : pc + 3 = q) {ix ci k a : Nat} {fs : List Nat} (hg : Gl own ix ci k) (ha : hT[a]? = some (0, ci, fs)) (hf : fs[k]? = some 1) (hd : decode cc pc = .ok (.getfield ix, 3)) (kk : J X q lv (.long (mkL (M a k) (M a (k + 1000))) :: st) M) : J X pc lv (.ref a :: st) M := j_get h q hq hg ha hf hd kk
theorem j_getR (h : Ok X own cc d) (q : Nat) (hq : pc + 3 = q) {ix ci k a b : Nat} {fs : List Nat} (hg : Gl own ix ci k) (ha : hT[a]? = some (0, ci, fs)) (hf : fs[k]? = some (b + 2)) (hd : decode cc pc = .ok (.getfield ix, 3)) (kk : J X q lv (.ref b :: st) M) : J X pc lv (.ref a :: st) M := j_get h q hq hg ha hf hd kk
theorem j_putI (h : Ok X own cc d) (q : Nat) (hq : pc + 3 = q) {ix ci k a : Nat} {fs : List Nat} {t0 : FieldType} {x : Int32} (hg : Pl own ix ci k t0) (ha : hT[a]? = some (0, ci, fs)) (hf : fs[k]? = some 0) (hfl : Nat.ble fs.length 1000 = true) (hnr : narrow t0 (.int x) = .int x) (hft : fits t0 (.int x) = true) (hd : decode cc pc = .ok (.putfield ix, 3)) (kk : J X q lv st (mu M a k x)) : J X pc lv (.int x :: .ref a :: st) M := by
  obtain ⟨p, l, e, R, s, m, args, below, meth, c, D, ⟨cI, cZ, cQ⟩, ρ, A, Q, kc, ks⟩ := X
  subst hq; obtain ⟨hx, hb, ho, hts, -, hK, hD, hA9, hSt⟩ := h
  obtain ⟨C, T, N, ty, ⟨g1, g2, g3, g4⟩, g5, g6, g7, g8⟩ := hg
  have hfl := Nat.le_of_ble_eq_true hfl
  have hkl : k < fs.length := (List.getElem?_eq_some_iff.mp hf).1
  intro hn H locs ls hP hS hl
  refine va_put hx hb hts g2 ty g3 g4 ho hK hP (hD M) hS a (hW_get cI cZ cQ ρ M ha) g1 k g5 (hts _ g6) (fun _ h => h) g7 g8 hnr hft (by rw [fvs_len]; exact hkl) hd (fun H1 locs1 hP1 _ hS1 => kk hn H1 locs1 ls ?_ hS1 hl)
  rwa [hW_put cI cZ cQ ρ M (mu M a k x) ha (by
    show Sum.inr (ci, fvs ρ (mu M a k x) a 0 fs) = _
    rw [← fvs_put ρ M a fs 0 k (Nat.zero_add k) hf (fun _ _ _ => by omega) (fun i hi => by have := (List.getElem?_eq_some_iff.mp hi).1; omega)]
    rfl) (hE_off cI cZ cQ ρ M)] at hP1
theorem j_putL (h : Ok X own cc d) (q : Nat) (hq : pc + 3 = q) {ix ci k a : Nat} {fs : List Nat} {x : Int64} (hg : Pl own ix ci k .long) (ha : hT[a]? = some (0, ci, fs)) (hf : fs[k]? = some 1) (hfl : Nat.ble fs.length 1000 = true) (hd : decode cc pc = .ok (.putfield ix, 3)) (kk : J X q lv st (mu (mu M a k (hiW x)) a (k + 1000) (loW x))) : J X pc lv (.long x :: .ref a :: st) M := by
  obtain ⟨p, l, e, R, s, m, args, below, meth, c, D, ⟨cI, cZ, cQ⟩, ρ, A, Q, kc, ks⟩ := X
  subst hq; obtain ⟨hx, hb, ho, hts, -, hK, hD, hA9, hSt⟩ := h
  obtain ⟨C, T, N, ty, ⟨g1, g2, g3, g4⟩, g5, g6, g7, g8⟩ := hg
  have hfl := Nat.le_of_ble_eq_true hfl
  have hkl : k < fs.length := (List.getElem?_eq_some_iff.mp hf).1
  intro hn H locs ls hP hS hl
  refine va_put hx hb hts g2 ty g3 g4 ho hK hP (hD M) hS a (hW_get cI cZ cQ ρ M ha) g1 k g5 (hts _ g6) (fun _ h => h) g7 g8 rfl rfl (by rw [fvs_len]; exact hkl) hd (fun H1 locs1 hP1 _ hS1 => kk hn H1 locs1 ls ?_ hS1 hl)
  rwa [hW_put cI cZ cQ ρ M (mu (mu M a k (hiW x)) a (k + 1000) (loW x)) ha (by
    show Sum.inr (ci, fvs ρ (mu (mu M a k (hiW x)) a (k + 1000) (loW x)) a 0 fs) = _
    rw [← fvs_putL ρ M a hf hfl]
    rfl) (fun b hb s2 => (hE_off cI cZ cQ ρ _ b hb s2).trans (hE_off cI cZ cQ ρ M b hb s2))] at hP1
theorem vp_nI {i : Int32} {j n : Nat} (hi : i = nI j) (hj : j < n) (hn : Nat.ble n 1000 = true) : vp_in i n ∧ i.toNatClampNeg = j := by
  have := Nat.le_of_ble_eq_true hn
  subst hi
  exact ⟨vp_in_nI hj (by omega), nI_clamp (by omega)⟩
theorem j_iald (h : Ok X own cc d) (q : Nat) (hq : pc + 1 = q) {a n : Nat} {z : List Nat} {i : Int32} (ha : hT[a]? = some (1, n, z)) (j : Nat) (hi : i = nI j) (hj : j < n) (hs : Nat.ble n 1000 = true) (hd : decode cc pc = .ok (.iaload, 1)) (kk : J X q lv (.int (M a j) :: st) M) : J X pc lv (.int i :: .ref a :: st) M := by
  obtain ⟨p, l, e, R, s, m, args, below, meth, c, D, ⟨cI, cZ, cQ⟩, ρ, A, Q, kc, ks⟩ := X
  subst hq; obtain ⟨hx, hb, ho, hts, -, hK, hD, hA9, hSt⟩ := h
  obtain ⟨e1, e2⟩ := vp_nI hi hj hs
  intro hn H locs ls hP hS hl
  refine va_iald hx hb hK hP a 0 (hW_get cI cZ cQ ρ M ha) rfl e1 hd ?_
  rw [e2]
  exact kk hn H locs ls hP hS hl
theorem upd_mu {M : hM} {a j : Nat} {x : Int32} : upd (M a) j x = mu M a j x a := by
  funext b
  by_cases hb : b = j
  · subst hb; rw [mu_s]; exact if_pos rfl
  · rw [mu_k hb]; exact if_neg hb
theorem j_iast (h : Ok X own cc d) (q : Nat) (hq : pc + 1 = q) {a n : Nat} {z : List Nat} {i x : Int32} (ha : hT[a]? = some (1, n, z)) (j : Nat) (hi : i = nI j) (hj : j < n) (hs : Nat.ble n 1000 = true) (hd : decode cc pc = .ok (.iastore, 1)) (kk : J X q lv st (mu M a j x)) : J X pc lv (.int x :: .int i :: .ref a :: st) M := by
  obtain ⟨p, l, e, R, s, m, args, below, meth, c, D, ⟨cI, cZ, cQ⟩, ρ, A, Q, kc, ks⟩ := X
  subst hq; obtain ⟨hx, hb, ho, hts, -, hK, hD, hA9, hSt⟩ := h
  obtain ⟨e1, e2⟩ := vp_nI hi hj hs
  intro hn H locs ls hP hS hl
  refine va_iast hx hb hK hP (hD M) hS a 0 (hW_get cI cZ cQ ρ M ha) rfl e1 hd (fun H1 locs1 hP1 _ hS1 => kk hn H1 locs1 ls ?_ hS1 hl)
  rw [e2] at hP1
  rwa [hW_put cI cZ cQ ρ M (mu M a j x) ha (by
    show Sum.inl (cI, n, Sum.inl (mu M a j x a)) = _
    rw [upd_mu]) (hE_off cI cZ cQ ρ M)] at hP1
theorem j_zald (h : Ok X own cc d) (q : Nat) (hq : pc + 1 = q) {a n : Nat} {z : List Nat} {i : Int32} (ha : hT[a]? = some (2, n, z)) (j : Nat) (hi : i = nI j) (hj : j < n) (hs : Nat.ble n 1000 = true) (hd : decode cc pc = .ok (.baload, 1)) (kk : J X q lv (.int (M a j) :: st) M) : J X pc lv (.int i :: .ref a :: st) M := by
  obtain ⟨p, l, e, R, s, m, args, below, meth, c, D, ⟨cI, cZ, cQ⟩, ρ, A, Q, kc, ks⟩ := X
  subst hq; obtain ⟨hx, hb, ho, hts, -, hK, hD, hA9, hSt⟩ := h
  obtain ⟨e1, e2⟩ := vp_nI hi hj hs
  intro hn H locs ls hP hS hl
  refine va_zald hx hb hK hP a 1 (hW_get cI cZ cQ ρ M ha) rfl e1 hd ?_
  rw [e2]
  exact kk hn H locs ls hP hS hl
theorem j_zast (h : Ok X own cc d) (q : Nat) (hq : pc + 1 = q) {a n : Nat} {z : List Nat} {i x : Int32} (ha : hT[a]? = some (2, n, z)) (j : Nat) (hi : i = nI j) (hj : j < n) (hs : Nat.ble n 1000 = true) (hnr : vp_nar .boolean x = x) (hd : decode cc pc = .ok (.bastore, 1)) (kk : J X q lv st (mu M a j x)) : J X pc lv (.int x :: .int i :: .ref a :: st) M := by
  obtain ⟨p, l, e, R, s, m, args, below, meth, c, D, ⟨cI, cZ, cQ⟩, ρ, A, Q, kc, ks⟩ := X
  subst hq; obtain ⟨hx, hb, ho, hts, -, hK, hD, hA9, hSt⟩ := h
  obtain ⟨e1, e2⟩ := vp_nI hi hj hs
  intro hn H locs ls hP hS hl
  refine va_zast hx hb hK hP (hD M) hS a 1 (hW_get cI cZ cQ ρ M ha) rfl e1 hd (fun H1 locs1 hP1 _ hS1 => kk hn H1 locs1 ls ?_ hS1 hl)
  rw [e2, hnr] at hP1
  rwa [hW_put cI cZ cQ ρ M (mu M a j x) ha (by
    show Sum.inl (cZ, n, Sum.inl (mu M a j x a)) = _
    rw [upd_mu]) (hE_off cI cZ cQ ρ M)] at hP1
theorem j_aald (h : Ok X own cc d) (q : Nat) (hq : pc + 1 = q) {a n b : Nat} {i : Int32} (ha : hT[a]? = some (3, n, [b])) (j : Nat) (hi : i = nI j) (hj : j < n) (hs : Nat.ble n 1000 = true) (hd : decode cc pc = .ok (.aaload, 1)) (kk : J X q lv (.ref (b + j) :: st) M) : J X pc lv (.int i :: .ref a :: st) M := by
  obtain ⟨p, l, e, R, s, m, args, below, meth, c, D, ⟨cI, cZ, cQ⟩, ρ, A, Q, kc, ks⟩ := X
  subst hq; obtain ⟨hx, hb, ho, hts, -, hK, hD, hA9, hSt⟩ := h
  obtain ⟨e1, e2⟩ := vp_nI hi hj hs
  intro hn H locs ls hP hS hl
  have hc : H[ρ a]? = some (arrV cQ n (fun i => va_rf (if i < n then some (ρ (b + i)) else none))) := hP a _ (hW_get cI cZ cQ ρ M ha)
  refine W.aald (v := .ref (ρ (b + j))) (ty := .array .int) hx hb hc ((hK.2 2 _ rfl).1 n _) rfl (fun q => by cases q) (by rw [arrV_size]; exact e1) ?_ rfl rfl hd (kk hn H locs ls hP hS hl)
  rw [e2, arrV_read _ _ hj, if_pos hj]
  rfl
/-- BOUNDS -/
theorem j_bnd (h : Ok X RX5 cc d) (q : Nat) (hq : pc + 3 = q) {ix : Nat} (hw : Cond.fieldLink RX5 ix "HotWeek$Reader" "BOUNDS" "[I" ∈ wsL_law) (hd : decode cc pc = .ok (.getstatic ix, 3)) (kk : J X q lv (.ref 540 :: st) M) : J X pc lv st M := by
  obtain ⟨p, l, e, R, s, m, args, below, meth, c, D, ⟨cI, cZ, cQ⟩, ρ, A, Q, kc, ks⟩ := X
  subst hq; obtain ⟨hx, hb, ho, hts, -, hK, hD, hA9, -, ⟨hZ, -⟩, -⟩ := h
  intro hn H locs ls hP hS hl
  exact va_gets hx hb hZ hS ho (hts _ hw) (fun _ h => h) hd (kk hn H locs ls hP hS hl)
theorem j_bndi (h : Ok X own cc d) (q : Nat) (hq : pc + 1 = q) {i : Int32} (j : Nat) (hi : i = nI j) (hj : j < 50) (hd : decode cc pc = .ok (.iaload, 1)) (kk : J X q lv (.int (hBnd.getD j 0) :: st) M) : J X pc lv (.int i :: .ref 540 :: st) M := by
  obtain ⟨p, l, e, R, s, m, args, below, meth, c, D, ⟨cI, cZ, cQ⟩, ρ, A, Q, kc, ks⟩ := X
  subst hq; obtain ⟨hx, hb, ho, hts, -, hK, hD, hA9, -, ⟨-, hT9⟩, -⟩ := h
  obtain ⟨e1, e2⟩ := vp_nI hi hj rfl
  intro hn H locs ls hP hS hl
  exact va_ti hx hb hT9 hS e1 (v := .int (hBnd.getD j 0)) (by rw [e2]) hd (kk hn H locs ls hP hS hl)
/-- COMPACT_STRINGS -/
theorem j_cst (h : Ok X own cc d) (q : Nat) (hq : pc + 3 = q) {ix : Nat} (hw : Cond.fieldLink own ix "java/lang/String" "COMPACT_STRINGS" "Z" ∈ wsL_law) (hd : decode cc pc = .ok (.getstatic ix, 3)) (kk : J X q lv (.int 1 :: st) M) : J X pc lv st M := by
  obtain ⟨p, l, e, R, s, m, args, below, meth, c, D, ⟨cI, cZ, cQ⟩, ρ, A, Q, kc, ks⟩ := X
  subst hq; obtain ⟨hx, hb, ho, hts, -, hK, hD, hA9, hZ, -⟩ := h
  intro hn H locs ls hP hS hl
  exact va_gets hx hb hZ hS ho (hts _ hw) (fun _ h => h) hd (kk hn H locs ls hP hS hl)
/-- the formatter of a range's message: null or a cell, nobody asks which -/
theorem j_fmt (h : Ok X own cc d) (q : Nat) (hq : pc + 3 = q) {ix : Nat} (hw : Cond.fieldLink own ix "jdk/internal/util/Preconditions" "SIOOBE_FORMATTER" "Ljava/util/function/BiFunction;" ∈ wsL_law) (hd : decode cc pc = .ok (.getstatic ix, 3)) (kk : ∀ v : Value, v.category = 1 → J X q lv (v :: st) M) : J X pc lv st M := by
  obtain ⟨p, l, e, R, s, m, args, below, meth, c, D, ⟨cI, cZ, cQ⟩, ρ, A, Q, kc, ks⟩ := X
  subst hq; obtain ⟨hx, hb, ho, hts, -, hK, hD, hA9, -, -, -, -, -, hZ⟩ := h
  intro hn H locs ls hP hS hl
  rcases hZ with hZ | hZ
  · exact va_gets hx hb hZ hS ho (hts _ hw) (fun _ h => h) hd (kk .null rfl hn H locs ls hP hS hl)
  · exact va_gets hx hb hZ hS ho (hts _ hw) (fun _ h => h) hd (kk (.ref 541) rfl hn H locs ls hP hS hl)
theorem j_strV (h : Ok X own cc d) (q : Nat) (hq : pc + 3 = q) {ix i : Nat} (hi : i < 10) (hw : Cond.fieldLink own ix "java/lang/String" "value" "[B" ∈ wsL_law) (hd : decode cc pc = .ok (.getfield ix, 3)) (kk : J X q lv (.ref (520 + i) :: st) M) : J X pc lv (.ref (500 + i) :: st) M := by
  obtain ⟨p, l, e, R, s, m, args, below, meth, c, D, ⟨cI, cZ, cQ⟩, ρ, A, Q, kc, ks⟩ := X
  subst hq; obtain ⟨hx, hb, ho, hts, -, hK, hD, hA9, -, -, hV, -⟩ := h
  intro hn H locs ls hP hS hl
  exact vk_getf hx hb (hV.1 i hi).2.2.1 hS ho (hts _ hw) (fun _ h => h) hd (kk hn H locs ls hP hS hl)
theorem j_strC (h : Ok X own cc d) (q : Nat) (hq : pc + 3 = q) {ix i : Nat} (hi : i < 10) (hw : Cond.fieldLink own ix "java/lang/String" "coder" "B" ∈ wsL_law) (hd : decode cc pc = .ok (.getfield ix, 3)) (kk : J X q lv (.int 0 :: st) M) : J X pc lv (.ref (500 + i) :: st) M := by
  obtain ⟨p, l, e, R, s, m, args, below, meth, c, D, ⟨cI, cZ, cQ⟩, ρ, A, Q, kc, ks⟩ := X
  subst hq; obtain ⟨hx, hb, ho, hts, -, hK, hD, hA9, -, -, hV, -⟩ := h
  intro hn H locs ls hP hS hl
  exact vk_getf hx hb (hV.1 i hi).2.1 hS ho (hts _ hw) (fun _ h => h) hd (kk hn H locs ls hP hS hl)
theorem j_strB (h : Ok X own cc d) (q : Nat) (hq : pc + 1 = q) {i : Nat} (hi : i < 10) {x : Int32} (j : Nat) (hx9 : x = nI j) (hj : j < hLen.getD i 0) (hs : hLen.getD i 0 < 1000) (hd : decode cc pc = .ok (.baload, 1)) (kk : J X q lv (.int ((hByt.getD i []).getD j 0) :: st) M) : J X pc lv (.int x :: .ref (520 + i) :: st) M := by
  obtain ⟨p, l, e, R, s, m, args, below, meth, c, D, ⟨cI, cZ, cQ⟩, ρ, A, Q, kc, ks⟩ := X
  subst hq; obtain ⟨hx, hb, ho, hts, -, hK, hD, hA9, -, -, hV, -⟩ := h
  obtain ⟨e1, e2⟩ := vp_nI hx9 hj (Nat.ble_eq_true_of_le (by omega))
  intro hn H locs ls hP hS hl
  exact va_tb hx hb (hV.1 i hi).2.2.2 hS e1 (v := .int ((hByt.getD i []).getD j 0)) (by rw [e2]) hd (kk hn H locs ls hP hS hl)
theorem j_strL (h : Ok X own cc d) (q : Nat) (hq : pc + 1 = q) {i : Nat} (hi : i < 10) (hd : decode cc pc = .ok (.arraylength, 1)) (kk : J X q lv (.int (nI (hLen.getD i 0)) :: st) M) : J X pc lv (.ref (520 + i) :: st) M := by
  obtain ⟨p, l, e, R, s, m, args, below, meth, c, D, ⟨cI, cZ, cQ⟩, ρ, A, Q, kc, ks⟩ := X
  subst hq; obtain ⟨hx, hb, ho, hts, -, hK, hD, hA9, -, -, hV, -⟩ := h
  intro hn H locs ls hP hS hl
  exact va_tlen hx hb (hV.1 i hi).2.2.2 hS rfl hd (kk hn H locs ls hP hS hl)
/-- ends -/
theorem j_ret {ty : FieldType} {Post : Option Value → hM → Prop} {v : Int32} (h : Ok X own cc d) (hr : Rt X (some ty) Post) (hnr : narrow ty (.int v) = .int v) (hd : decode cc pc = .ok (.ireturn, 1)) (hp : Post (some (.int v)) M) : J X pc lv [.int v] M := by
  obtain ⟨p, l, e, R, s, m, args, below, meth, c, D, ⟨cI, cZ, cQ⟩, ρ, A, Q, kc, ks⟩ := X
  obtain ⟨hx, hb, h⟩ := h
  obtain ⟨r1, r2, r3, r4, r5⟩ := hr
  subst r3; subst r4; subst r5
  intro hn H locs ls hP hS hl
  exact W.zret hx hb r1 hnr (fun t ht hW => ⟨⟨some (.int v), M, rfl, hp, by rw [ht]; exact hP⟩, hS.F ht⟩) hS.2.2 hd r2
theorem j_vret {Post : Option Value → hM → Prop} (h : Ok X own cc d) (hr : Rt X none Post) (hd : decode cc pc = .ok (.return_, 1)) (hp : Post none M) : J X pc lv [] M := by
  obtain ⟨p, l, e, R, s, m, args, below, meth, c, D, ⟨cI, cZ, cQ⟩, ρ, A, Q, kc, ks⟩ := X
  obtain ⟨hx, hb, h⟩ := h
  obtain ⟨r1, r2, r3, r4, r5⟩ := hr
  subst r3; subst r4; subst r5
  intro hn H locs ls hP hS hl
  exact W.vret hx hb r1 (fun t ht hW => ⟨⟨none, M, rfl, hp, by rw [ht]; exact hP⟩, hS.F ht⟩) hS.2.2 hd r2
theorem j_aret {Post : Option Value → hM → Prop} {rt : FieldType} {a : Nat} (h : Ok X own cc d) (hr : Rt X (some rt) Post) (hrt : (∃ n, rt = .object n) ∨ ∃ t, rt = .array t) (hd : decode cc pc = .ok (.areturn, 1)) (hp : Post (some (.ref a)) M) : J X pc lv [.ref a] M := by
  obtain ⟨p, l, e, R, s, m, args, below, meth, c, D, ⟨cI, cZ, cQ⟩, ρ, A, Q, kc, ks⟩ := X
  obtain ⟨hx, hb, h⟩ := h
  obtain ⟨r1, r2, r3, r4, r5⟩ := hr
  subst r3; subst r4; subst r5
  intro hn H locs ls hP hS hl
  exact W.aret hx hb r1 hrt (Or.inr ⟨ρ a, rfl⟩) (fun t ht hW => ⟨⟨some (.ref a), M, rfl, hp, by rw [ht]; exact hP⟩, hS.F ht⟩) hS.2.2 hd r2
end JM
/-- the tables' words, each good for a call -/
theorem gG : GoodIn wsL_law wsL_law := fun w h => ⟨h, good_of_word (List.all_eq_true.mp (by decide +kernel : wsL_law.all goodWord = true) w h)⟩
theorem gGc {w : Cond} (h : w ∈ wsL_law) : GoodIn wsL_law (w :: wsL_law) := fun v hv => by
  rcases List.mem_cons.mp hv with rfl | hv
  · exact gG _ h
  · exact gG _ hv
section JC
variable {p : Program} {l : Launch} {e : Env} {R : Room} {s : State} {m : MethodId} {args : Array Value} {below : List Frame} {meth : Method} {c : Code} {D : va_G} {cI cZ cQ : ClassId} {ρ : Nat → Nat} {A : Nat → Prop} {Q : State → Prop} {kc ks : Nat}
variable {own : String} {cc : ByteArray} {d d' pc : Nat} {lv : List (Option Value)} {st : List Value} {M : hM}
theorem hA_in {H : Heap} {locs : List Loc} (hD : va_D A (hW cI cZ cQ ρ M)) (hA9 : ∀ q, s.heap.size ≤ q → A q) (hS : va_S A s.heap H locs) : ∀ q, hA ρ H.size q → A q := by
  intro q hq
  rcases hq with ⟨k, hk, rfl⟩ | hq
  · obtain ⟨x, hx⟩ : ∃ x, (hW cI cZ cQ ρ M)[k]? = some x := ⟨_, List.getElem?_eq_getElem (by rw [hW_len]; exact hk)⟩
    have := hD.2 k x hx
    rwa [(hW_inv _ _ _ _ _ hx).2] at this
  · exact hA9 q (Nat.le_trans hS.1 hq)
/-- what the callee finds -/
theorem hU_at {H : Heap} {locs : List Loc} (hK : va_K D vwCl [(cI, .int), (cZ, .boolean), (cQ, .array .int)] s) (hD : va_D A (hW cI cZ cQ ρ M)) (hA9 : ∀ q, s.heap.size ≤ q → A q) (hSt : hSd ρ A s s.heap) (hP : va_P D vwCl (hW cI cZ cQ ρ M) H) (hS : va_S A s.heap H locs) (U : State) (hU9 : U.heap = H) (hW9 : s.WarmedH U.vm) : U.heap.size = H.size ∧ hU D cI cZ cQ ρ (hA ρ H.size) M U := by
  subst hU9
  exact ⟨rfl, hP, va_K.moved hW9.alike hK, hD.weaken (fun _ _ _ _ => trivial), hSd_go hSt hW9 hS.2.1 (hA_in hD hA9 hS)⟩
theorem hPc_blind {as : List Value} {sz : Nat} {B : Nat → Prop} : FrameBlind (va_Pc as (fun U => U.heap.size = sz ∧ hU D cI cZ cQ ρ B M U)) := by
  intro a U g mk q
  obtain ⟨q0, q1, qP, qK, qD, qS⟩ := q
  exact ⟨q0, q1, qP, va_K.moved (u := U) (U := U.calling g mk a) (Vm.Alike.refl U.vm) qK, qD, hSd_same qS⟩
theorem j_back {Post : Option Value → hM → Prop} {H : Heap} {locs : List Loc} {ls : Array Slot} {st0 : List Value} {a9 : Array Value} (hD : va_D A (hW cI cZ cQ ρ M)) (hA9 : ∀ q, s.heap.size ≤ q → A q) (hS : va_S A s.heap H locs) (hr : va_Run p l e R s m args below meth c H locs kc ks 0 0 (F0 m pc ls st0) (st.map (cv ρ)) (hQ D cI cZ cQ ρ (hA ρ H.size) Post a9) (hA ρ H.size))
    (hn : lv.length ≤ c.maxLocals) (hl : lv_has ls c.maxLocals (lvc ρ 0 lv)) (kk : ∀ r M', Post r M' → J (p, l, e, R, s, m, args, below, meth, c, D, (cI, cZ, cQ), ρ, A, Q, kc, ks) (pc + 3) lv (r.toList ++ st) M') : W p l e R s m args below meth c H locs kc ks Q (F0 m pc ls st0) := by
  intro T hT X
  obtain ⟨v, st₀, t, T', L, h0, X', hL, e1, e2, ⟨⟨r, M', hv, hp, hP'⟩, hz, hk⟩, st9⟩ := hr T hT X
  have hv2 : v = r.map (cv ρ) := by cases hv; rfl
  subst hv2
  rw [h0] at hz hk
  have hAA := hA_in hD hA9 hS
  have hS' : va_S A s.heap T'.heap (locs ++ L) := ⟨Nat.le_trans hS.1 (by rw [e1]; exact hz), fun q h1 h2 => by rw [e1, hk q (Nat.lt_of_lt_of_le h1 hS.1) (fun z => h2 (hAA q z))]; exact hS.2.1 q h1 h2, fun q hq => by
      rcases List.mem_append.mp hq with h | h
      · exact hS.2.2 q h
      · exact hAA _ (hL q h)⟩
  obtain ⟨t2, a1, b1⟩ := kk r M' hp hn T'.heap (locs ++ L) ls (by rw [e1]; exact hP') hS' hl T' rfl X'
  refine ⟨t2, st9 t2 ?_, b1⟩
  have e3 : (Option.map (cv ρ) r).toList ++ st.map (cv ρ) = (r.toList ++ st).map (cv ρ) := by cases r <;> rfl
  rw [e3]
  exact a1
theorem cat_map {st : List Value} : ((st.map (cv ρ)).map fun v => v.category).sum = (st.map fun v => v.category).sum := by
  rw [List.map_map]
  congr 1
  apply List.map_congr_left
  intro v _
  exact cv_cat ρ v
end JC
section JC2
variable {X : hC} {own : String} {cc : ByteArray} {d d' pc : Nat} {lv : List (Option Value)} {st : List Value} {M : hM} {Post : Option Value → hM → Prop}
theorem j_callV (h : Ok X own cc d) (q : Nat) (hq : pc + 3 = q) {ix n a ci : Nat} {fs : List Nat} {y : hMd} {as st0 : List Value} (hlk : LkV own ix y n) (ha : hT[a]? = some (0, ci, fs)) (hcl : (vwCl[ci]?).map (fun z => z.1) = some y.1.cls) (hn9 : as.length = n) (hct : Ct d' y (.ref a :: as) M Post) (hdd : Nat.ble (d' + 1) d = true) (hst : st0 = as.reverse ++ .ref a :: st) (hcat : Nat.ble ((st.map fun v => v.category).sum) 8 = true) (hd : decode cc pc = .ok (.invokevirtual ix, 3))
    (kk : ∀ r M', Post r M' → J X q lv (r.toList ++ st) M') : J X pc lv st0 M := by
  obtain ⟨p, l, e, R, s, m, args, below, meth, c, D, ⟨cI, cZ, cQ⟩, ρ, A, Q, kc, ks⟩ := X
  subst hq; subst hst
  obtain ⟨hx, hb, ho, hts, ⟨f1, f2, f3, f4⟩, hK, hD, hA9, hSt⟩ := h
  obtain ⟨⟨m1, m2, m3, m4⟩, g1, g2, g3⟩ := hlk
  have m3 := Nat.le_of_ble_eq_true m3
  have hdd := Nat.le_of_ble_eq_true hdd
  intro hn H locs ls hP hS hl
  have hcB : CallB R s args own ix y.1 y.2.1 y.2.2.1 y.2.2.2 (.code y.1 y.2.1 y.2.2.1 y.2.2.2 :: wsL_law) (hRm d') 0 0 n := callB_of n hts (gGc m1) rfl rfl rfl (hts _ m2) (hts _ g1) m4 ⟨by show d' + 1 ≤ _; omega, by show 8 + (y.2.2.1 + 11) + 39 * d' ≤ _; omega⟩
  cases hvc : vwCl[ci]? with
  | none => rw [hvc] at hcl; cases hcl
  | some z =>
  rw [hvc] at hcl
  have hz : z.1 = y.1.cls := by injection hcl
  have hrc := va_recv hK hP hvc (hW_get cI cZ cQ ρ M ha)
  rw [hz] at hrc
  exact j_back (hD M) hA9 hS (va_runV (Ts := wsL_law) (As := as.map (cv ρ)) (rest := st.map (cv ρ)) (b := ρ a) ⟨hx, hb, rfl, ho, hts⟩ (hct l D cI cZ cQ ρ H.size) ⟨hcB, hts _ g2, hts _ g3⟩ ⟨hPc_blind, hrc, fun U hU hW => ⟨rfl, hU_at hK (hD M) hA9 hSt hP hS U hU hW⟩⟩ rfl (by rw [List.length_map]; exact hn9) hl.1 (by simp [cv]) (lv_room (by rw [cat_map]; exact Nat.le_of_ble_eq_true hcat)) hd ⟨f3, f4⟩) hn hl kk
theorem j_callS (h : Ok X own cc d) (q : Nat) (hq : pc + 3 = q) {ix n : Nat} {y : hMd} {as st0 : List Value} (hlk : LkS own ix y n) (hn9 : as.length = n) (hct : Ct d' y as M Post) (hdd : Nat.ble (d' + 1) d = true) (hst : st0 = as.reverse ++ st) (hcat : Nat.ble ((st.map fun v => v.category).sum) 8 = true) (hd : decode cc pc = .ok (.invokestatic ix, 3))
    (kk : ∀ r M', Post r M' → J X q lv (r.toList ++ st) M') : J X pc lv st0 M := by
  obtain ⟨p, l, e, R, s, m, args, below, meth, c, D, ⟨cI, cZ, cQ⟩, ρ, A, Q, kc, ks⟩ := X
  subst hq; subst hst
  obtain ⟨hx, hb, ho, hts, ⟨f1, f2, f3, f4⟩, hK, hD, hA9, hSt⟩ := h
  obtain ⟨⟨m1, m2, m3, m4⟩, g1, g2⟩ := hlk
  have m3 := Nat.le_of_ble_eq_true m3
  have hdd := Nat.le_of_ble_eq_true hdd
  intro hn H locs ls hP hS hl
  have hcB : CallB R s args own ix y.1 y.2.1 y.2.2.1 y.2.2.2 (.code y.1 y.2.1 y.2.2.1 y.2.2.2 :: wsL_law) (hRm d') 0 0 n := callB_of n hts (gGc m1) rfl rfl rfl (hts _ m2) (hts _ g1) m4 ⟨by show d' + 1 ≤ _; omega, by show 8 + (y.2.2.1 + 11) + 39 * d' ≤ _; omega⟩
  exact j_back (hD M) hA9 hS (va_runS (Ts := wsL_law) (As := as.map (cv ρ)) (rest := st.map (cv ρ)) ⟨hx, hb, rfl, ho, hts⟩ (hct l D cI cZ cQ ρ H.size) ⟨hcB, hts _ g2⟩ ⟨hPc_blind, fun U hU hW => ⟨rfl, hU_at hK (hD M) hA9 hSt hP hS U hU hW⟩⟩ rfl (by rw [List.length_map]; exact hn9) hl.1 (by simp) (lv_room (by rw [cat_map]; exact Nat.le_of_ble_eq_true hcat)) hd ⟨f3, f4⟩) hn hl kk
theorem j_callN (h : Ok X own cc d) (q : Nat) (hq : pc + 3 = q) {ix n : Nat} {y : hMd} {as st0 : List Value} (hlk : LkN own ix y n) (hn9 : as.length = n) (hct : Ct d' y as M Post) (hdd : Nat.ble (d' + 1) d = true) (hst : st0 = as.reverse ++ st) (hcat : Nat.ble ((st.map fun v => v.category).sum) 8 = true) (hd : decode cc pc = .ok (.invokestatic ix, 3))
    (kk : ∀ r M', Post r M' → J X q lv (r.toList ++ st) M') : J X pc lv st0 M := by
  obtain ⟨p, l, e, R, s, m, args, below, meth, c, D, ⟨cI, cZ, cQ⟩, ρ, A, Q, kc, ks⟩ := X
  subst hq; subst hst
  obtain ⟨hx, hb, ho, hts, ⟨f1, f2, f3, f4⟩, hK, hD, hA9, hSt⟩ := h
  obtain ⟨⟨m1, m2, m3, m4⟩, ⟨host, g1⟩, g2⟩ := hlk
  have m3 := Nat.le_of_ble_eq_true m3
  have hdd := Nat.le_of_ble_eq_true hdd
  have hnest := hSt.2.2.2.2.1 _ g1
  intro hn H locs ls hP hS hl
  have hcB : va_CN R s args own ix y.1 host y.2.1 y.2.2.1 y.2.2.2 (.code y.1 y.2.1 y.2.2.1 y.2.2.2 :: wsL_law) (hRm d') 0 0 n := va_cnB n hts (gGc m1) rfl rfl rfl hnest (hts _ m2) m4 ⟨by show d' + 1 ≤ _; omega, by show 8 + (y.2.2.1 + 11) + 39 * d' ≤ _; omega⟩
  exact j_back (hD M) hA9 hS (va_runSN (Ts := wsL_law) (As := as.map (cv ρ)) (rest := st.map (cv ρ)) ⟨hx, hb, rfl, ho, hts⟩ (hct l D cI cZ cQ ρ H.size) ⟨hcB, hts _ g2, trivial⟩ ⟨hPc_blind, fun U hU hW => ⟨rfl, hU_at hK (hD M) hA9 hSt hP hS U hU hW⟩⟩ rfl (by rw [List.length_map]; exact hn9) hl.1 (by simp) (lv_room (by rw [cat_map]; exact Nat.le_of_ble_eq_true hcat)) hd ⟨f3, f4⟩) hn hl kk
/-- a call on a word -/
theorem j_callT (h : Ok X own cc d) (q : Nat) (hq : pc + 3 = q) {ix n i : Nat} (hi : i < 10) {y : hMd} {as st0 : List Value} (hlk : LkV own ix y n) (hcl : y.1.cls = "java/lang/String") (hn9 : as.length = n) (hct : Ct d' y (.ref (500 + i) :: as) M Post) (hdd : Nat.ble (d' + 1) d = true) (hst : st0 = as.reverse ++ .ref (500 + i) :: st) (hcat : Nat.ble ((st.map fun v => v.category).sum) 8 = true) (hd : decode cc pc = .ok (.invokevirtual ix, 3))
    (kk : ∀ r M', Post r M' → J X q lv (r.toList ++ st) M') : J X pc lv st0 M := by
  obtain ⟨p, l, e, R, s, m, args, below, meth, c, D, ⟨cI, cZ, cQ⟩, ρ, A, Q, kc, ks⟩ := X
  subst hq; subst hst
  obtain ⟨hx, hb, ho, hts, ⟨f1, f2, f3, f4⟩, hK, hD, hA9, hSt⟩ := h
  obtain ⟨⟨m1, m2, m3, m4⟩, g1, g2, g3⟩ := hlk
  have m3 := Nat.le_of_ble_eq_true m3
  have hdd := Nat.le_of_ble_eq_true hdd
  intro hn H locs ls hP hS hl
  have hcB : CallB R s args own ix y.1 y.2.1 y.2.2.1 y.2.2.2 (.code y.1 y.2.1 y.2.2.1 y.2.2.2 :: wsL_law) (hRm d') 0 0 n := callB_of n hts (gGc m1) rfl rfl rfl (hts _ m2) (hts _ g1) m4 ⟨by show d' + 1 ≤ _; omega, by show 8 + (y.2.2.1 + 11) + 39 * d' ≤ _; omega⟩
  have hrc := vk_recv hSt.2.2.1 hi hS
  rw [← hcl] at hrc
  exact j_back (hD M) hA9 hS (va_runV (Ts := wsL_law) (As := as.map (cv ρ)) (rest := st.map (cv ρ)) (b := ρ (500 + i)) ⟨hx, hb, rfl, ho, hts⟩ (hct l D cI cZ cQ ρ H.size) ⟨hcB, hts _ g2, hts _ g3⟩ ⟨hPc_blind, hrc, fun U hU hW => ⟨rfl, hU_at hK (hD M) hA9 hSt hP hS U hU hW⟩⟩ rfl (by rw [List.length_map]; exact hn9) hl.1 (by simp [cv]) (lv_room (by rw [cat_map]; exact Nat.le_of_ble_eq_true hcat)) hd ⟨f3, f4⟩) hn hl kk
theorem j_max (h : Ok X own cc d) (q : Nat) (hq : pc + 3 = q) {ix : Nat} {x y : Int32} (hw : Cond.methodLink own ix Lib.Math.max.name ∈ wsL_law) (hw2 : Cond.static Lib.Math.max.name ∈ wsL_law) (hw3 : Cond.initialized "java/lang/Math" ∈ wsL_law) (hw4 : Cond.code Lib.Math.max.name Lib.Math.max.code 2 (some .int) ∈ wsL_law) (h1 : Nat.ble 1 d = true) (hcat : Nat.ble ((st.map fun v => v.category).sum) 8 = true) (hd : decode cc pc = .ok (.invokestatic ix, 3)) (kk : J X q lv (.int (if x < y then y else x) :: st) M) : J X pc lv (.int y :: .int x :: st) M := by
  obtain ⟨p, l, e, R, s, m, args, below, meth, c, D, ⟨cI, cZ, cQ⟩, ρ, A, Q, kc, ks⟩ := X
  subst hq
  obtain ⟨hx, hb, ho, hts, ⟨f1, f2, f3, f4⟩, hK, hD, hA9, hSt⟩ := h
  have h1 := Nat.le_of_ble_eq_true h1
  have hcat := Nat.le_of_ble_eq_true hcat
  intro hn H locs ls hP hS hl
  exact va_mmax hx hb hl.1.symm ho (hts _ hw) (hts _ hw2) (hts _ hw3) (hts _ hw4) (by omega) (by rw [cat_map]; omega) f3 f4 hd (kk hn H locs ls hP hS hl)
theorem j_min (h : Ok X own cc d) (q : Nat) (hq : pc + 3 = q) {ix : Nat} {x y : Int32} (hw : Cond.methodLink own ix Lib.Math.min.name ∈ wsL_law) (hw2 : Cond.static Lib.Math.min.name ∈ wsL_law) (hw3 : Cond.initialized "java/lang/Math" ∈ wsL_law) (hw4 : Cond.code Lib.Math.min.name Lib.Math.min.code 2 (some .int) ∈ wsL_law) (h1 : Nat.ble 1 d = true) (hcat : Nat.ble ((st.map fun v => v.category).sum) 8 = true) (hd : decode cc pc = .ok (.invokestatic ix, 3)) (kk : J X q lv (.int (if y < x then y else x) :: st) M) : J X pc lv (.int y :: .int x :: st) M := by
  obtain ⟨p, l, e, R, s, m, args, below, meth, c, D, ⟨cI, cZ, cQ⟩, ρ, A, Q, kc, ks⟩ := X
  subst hq
  obtain ⟨hx, hb, ho, hts, ⟨f1, f2, f3, f4⟩, hK, hD, hA9, hSt⟩ := h
  have h1 := Nat.le_of_ble_eq_true h1
  have hcat := Nat.le_of_ble_eq_true hcat
  intro hn H locs ls hP hS hl
  exact va_mmin hx hb hl.1.symm ho (hts _ hw) (hts _ hw2) (hts _ hw3) (hts _ hw4) (by omega) (by rw [cat_map]; omega) f3 f4 hd (kk hn H locs ls hP hS hl)
theorem j_abs (h : Ok X own cc d) (q : Nat) (hq : pc + 3 = q) {ix : Nat} {x : Int32} (hw : Cond.methodLink own ix Lib.Math.abs.name ∈ wsL_law) (hw2 : Cond.static Lib.Math.abs.name ∈ wsL_law) (hw3 : Cond.initialized "java/lang/Math" ∈ wsL_law) (hw4 : Cond.code Lib.Math.abs.name Lib.Math.abs.code 1 (some .int) ∈ wsL_law) (h1 : Nat.ble 1 d = true) (hcat : Nat.ble ((st.map fun v => v.category).sum) 8 = true) (hd : decode cc pc = .ok (.invokestatic ix, 3)) (kk : J X q lv (.int (if 0 ≤ x then x else 0 - x) :: st) M) : J X pc lv (.int x :: st) M := by
  obtain ⟨p, l, e, R, s, m, args, below, meth, c, D, ⟨cI, cZ, cQ⟩, ρ, A, Q, kc, ks⟩ := X
  subst hq
  obtain ⟨hx, hb, ho, hts, ⟨f1, f2, f3, f4⟩, hK, hD, hA9, hSt⟩ := h
  have h1 := Nat.le_of_ble_eq_true h1
  have hcat := Nat.le_of_ble_eq_true hcat
  intro hn H locs ls hP hS hl
  exact va_mabs hx hb hl.1.symm ho (hts _ hw) (hts _ hw2) (hts _ hw3) (hts _ hw4) (by omega) (by rw [cat_map]; omega) f3 f4 hd (kk hn H locs ls hP hS hl)
end JC2

/-! rows over naturals (nI), truth values (hb), calls by kind of answer -/
def hb (P : Prop) [Decidable P] : Int32 := if P then 1 else 0
theorem hb_t {P : Prop} [Decidable P] (h : P) : hb P = 1 := if_pos h
theorem hb_f {P : Prop} [Decidable P] (h : ¬ P) : hb P = 0 := if_neg h
theorem hb_0 {P : Prop} [Decidable P] : hb P = 0 ↔ ¬ P := by
  unfold hb
  by_cases h : P
  · rw [if_pos h]; exact ⟨fun q => absurd q (by decide), fun q => absurd h q⟩
  · rw [if_neg h]; exact ⟨fun _ => h, fun _ => rfl⟩
theorem hb_1 {P : Prop} [Decidable P] : hb P = 1 ↔ P := by
  unfold hb
  by_cases h : P
  · rw [if_pos h]; exact ⟨fun _ => h, fun _ => rfl⟩
  · rw [if_neg h]; exact ⟨fun q => absurd q (by decide), fun q => absurd q h⟩
theorem hb_c {P Q : Prop} [Decidable P] [Decidable Q] (h : P ↔ Q) : hb P = hb Q := by
  by_cases q : P
  · rw [hb_t q, hb_t (h.mp q)]
  · rw [hb_f q, hb_f (fun z => q (h.mpr z))]
theorem hb_nar {P : Prop} [Decidable P] : narrow .boolean (.int (hb P)) = .int (hb P) := by
  by_cases q : P
  · rw [hb_t q]; decide
  · rw [hb_f q]; decide
theorem nI_mul (a b : Nat) : nI a * nI b = nI (a * b) := (Int32.ofNat_mul a b).symm
theorem nI_sub {a b : Nat} (h : b ≤ a) : nI a - nI b = nI (a - b) := by
  have : nI a = nI (a - b) + nI b := by rw [nI_add, Nat.sub_add_cancel h]
  rw [this, Int32.add_sub_cancel]
theorem nI_div {a b : Nat} (ha : a < 2 ^ 31) (hb : b < 2 ^ 31) : nI a / nI b = nI (a / b) := by
  apply Int32.toInt_inj.mp
  have h1 : a / b < 2 ^ 31 := Nat.lt_of_le_of_lt (Nat.div_le_self a b) ha
  have e : ((a : Int).tdiv (b : Int)) = ((a / b : Nat) : Int) := by
    rw [Int.natCast_ediv]; exact Int.tdiv_eq_ediv_of_nonneg (Int.natCast_nonneg a)
  rw [Int32.toInt_div, nI_toInt ha, nI_toInt hb, nI_toInt h1, e]
  generalize a / b = c at h1
  clear e
  apply Int.bmod_eq_of_le
  · omega
  · omega
theorem nI_rem {a b : Nat} (ha : a < 2 ^ 31) (hb : b < 2 ^ 31) : nI a - nI a / nI b * nI b = nI (a % b) := by
  rw [nI_div ha hb, nI_mul, nI_sub (Nat.div_mul_le_self a b)]
  congr 1
  have := Nat.div_add_mod a b
  rw [Nat.mul_comm] at this
  omega
section JN
variable {X : hC} {own : String} {cc : ByteArray} {d d' pc : Nat} {lv : List (Option Value)} {st : List Value} {M : hM}
theorem j_top {x y : Int32} (e : x = y) (k : J X pc lv (.int y :: st) M) : J X pc lv (.int x :: st) M := e ▸ k
theorem j_iaddN (h : Ok X own cc d) (q : Nat) (hq : pc + 1 = q) {a b : Nat} (hd : decode cc pc = .ok (.iadd, 1)) (k : J X q lv (.int (nI (a + b)) :: st) M) : J X pc lv (.int (nI b) :: .int (nI a) :: st) M := j_iadd h q hq hd (by rw [nI_add]; exact k)
theorem j_isubN (h : Ok X own cc d) (q : Nat) (hq : pc + 1 = q) {a b : Nat} (hle : b ≤ a) (hd : decode cc pc = .ok (.isub, 1)) (k : J X q lv (.int (nI (a - b)) :: st) M) : J X pc lv (.int (nI b) :: .int (nI a) :: st) M := j_isub h q hq hd (by rw [nI_sub hle]; exact k)
theorem j_imulN (h : Ok X own cc d) (q : Nat) (hq : pc + 1 = q) {a b : Nat} (hd : decode cc pc = .ok (.imul, 1)) (k : J X q lv (.int (nI (a * b)) :: st) M) : J X pc lv (.int (nI b) :: .int (nI a) :: st) M := j_imul h q hq hd (by rw [nI_mul]; exact k)
theorem j_idivN (h : Ok X own cc d) (q : Nat) (hq : pc + 1 = q) {a b : Nat} (h0 : 0 < b) (hb : b < 2 ^ 31) (ha : a < 2 ^ 31) (hd : decode cc pc = .ok (.idiv, 1)) (k : J X q lv (.int (nI (a / b)) :: st) M) : J X pc lv (.int (nI b) :: .int (nI a) :: st) M := j_idiv h q hq (nI_ne0 h0 hb) hd (by rw [nI_div ha hb]; exact k)
theorem j_iremN (h : Ok X own cc d) (q : Nat) (hq : pc + 1 = q) {a b : Nat} (h0 : 0 < b) (hb : b < 2 ^ 31) (ha : a < 2 ^ 31) (hd : decode cc pc = .ok (.irem, 1)) (k : J X q lv (.int (nI (a % b)) :: st) M) : J X pc lv (.int (nI b) :: .int (nI a) :: st) M := j_irem h q hq (nI_ne0 h0 hb) hd (by rw [nI_rem ha hb]; exact k)
theorem j_iincN (h : Ok X own cc d) (q : Nat) (hq : pc + 3 = q) {i a : Nat} (hl0 : lg lv i = some (.int (nI a))) (hk : lok lv i = true) (hd : decode cc pc = .ok (.iinc i 1, 3)) (k : J X q (lset lv i (some (.int (nI (a + 1))))) st M) : J X pc lv st M := j_iinc h q hq 1 rfl hl0 hk hd (by rw [nI_1]; exact k)
theorem j_iincK (h : Ok X own cc d) (q : Nat) (hq : pc + 3 = q) {i a : Nat} {n : Int} (b : Nat) (hv : Int32.ofInt n = nI b) (hl0 : lg lv i = some (.int (nI a))) (hk : lok lv i = true) (hd : decode cc pc = .ok (.iinc i n, 3)) (k : J X q (lset lv i (some (.int (nI (a + b))))) st M) : J X pc lv st M := j_iinc h q hq (nI b) hv hl0 hk hd (by rw [nI_add]; exact k)
theorem mu_f {M : hM} {a b k : Nat} {x : Int32} (h : b ≠ a) : mu M a k x b = M b := funext fun j => mu_a h
theorem mu_ext {M : hM} {a i : Nat} {x : Int32} {f : Nat → Int32} (h : ∀ j, j < i → M a j = f j) (hx : x = f i) : ∀ j, j < i + 1 → mu M a i x a j = f j := fun j hj => by
  by_cases e : j = i
  · subst e; rw [mu_s]; exact hx
  · rw [mu_k e]; exact h j (by omega)
theorem j_icmp_eqN (h : Ok X own cc d) (tq q : Nat) {a b : Nat} {off : Int} (ha : a < 2 ^ 31) (hb : b < 2 ^ 31) (hd : decode cc pc = .ok (.if_icmp .eq off, 3)) (ht : (pc : Int) + off = (tq : Int)) (hq : pc + 3 = q) (kt : a = b → J X tq lv st M) (kf : ¬ a = b → J X q lv st M) : J X pc lv (.int (nI b) :: .int (nI a) :: st) M := by
  have e1 := nI_eq ha hb
  have e2 := nI_ltI ha hb
  have e3 := nI_leI ha hb
  have e4 := nI_ltI hb ha
  have e5 := nI_leI hb ha
  refine j_icmp_eq h tq q hd ht hq (fun z => kt ?_) (fun z => kf ?_)
  · (try rw [e1] at z); (try rw [e2] at z); (try rw [e3] at z); (try rw [e4] at z); (try rw [e5] at z); first | exact True.intro | omega
  · (try rw [e1] at z); (try rw [e2] at z); (try rw [e3] at z); (try rw [e4] at z); (try rw [e5] at z); first | exact True.intro | omega
theorem j_if_eqN (h : Ok X own cc d) (tq q : Nat) {a : Nat} {off : Int} (ha : a < 2 ^ 31) (hd : decode cc pc = .ok (.ifCond .eq off, 3)) (ht : (pc : Int) + off = (tq : Int)) (hq : pc + 3 = q) (kt : a = 0 → J X tq lv st M) (kf : ¬ a = 0 → J X q lv st M) : J X pc lv (.int (nI a) :: st) M := by
  have e1 := nI_eq ha (show 0 < 2 ^ 31 by decide)
  have e2 := nI_ltI ha (show 0 < 2 ^ 31 by decide)
  have e3 := nI_leI ha (show 0 < 2 ^ 31 by decide)
  have e4 := nI_ltI (show 0 < 2 ^ 31 by decide) ha
  have e5 := nI_leI (show 0 < 2 ^ 31 by decide) ha
  rw [nI_0] at e1 e2 e3 e4 e5
  refine j_if_eq h tq q hd ht hq (fun z => kt ?_) (fun z => kf ?_)
  · (try rw [e1] at z); (try rw [e2] at z); (try rw [e3] at z); (try rw [e4] at z); (try rw [e5] at z); first | exact True.intro | omega
  · (try rw [e1] at z); (try rw [e2] at z); (try rw [e3] at z); (try rw [e4] at z); (try rw [e5] at z); first | exact True.intro | omega
theorem j_icmp_neN (h : Ok X own cc d) (tq q : Nat) {a b : Nat} {off : Int} (ha : a < 2 ^ 31) (hb : b < 2 ^ 31) (hd : decode cc pc = .ok (.if_icmp .ne off, 3)) (ht : (pc : Int) + off = (tq : Int)) (hq : pc + 3 = q) (kt : ¬ a = b → J X tq lv st M) (kf : a = b → J X q lv st M) : J X pc lv (.int (nI b) :: .int (nI a) :: st) M := by
  have e1 := nI_eq ha hb
  have e2 := nI_ltI ha hb
  have e3 := nI_leI ha hb
  have e4 := nI_ltI hb ha
  have e5 := nI_leI hb ha
  refine j_icmp_ne h tq q hd ht hq (fun z => kt ?_) (fun z => kf ?_)
  · (try rw [e1] at z); (try rw [e2] at z); (try rw [e3] at z); (try rw [e4] at z); (try rw [e5] at z); first | exact True.intro | omega
  · (try rw [e1] at z); (try rw [e2] at z); (try rw [e3] at z); (try rw [e4] at z); (try rw [e5] at z); first | exact True.intro | omega
theorem j_if_neN (h : Ok X own cc d) (tq q : Nat) {a : Nat} {off : Int} (ha : a < 2 ^ 31) (hd : decode cc pc = .ok (.ifCond .ne off, 3)) (ht : (pc : Int) + off = (tq : Int)) (hq : pc + 3 = q) (kt : ¬ a = 0 → J X tq lv st M) (kf : a = 0 → J X q lv st M) : J X pc lv (.int (nI a) :: st) M := by
  have e1 := nI_eq ha (show 0 < 2 ^ 31 by decide)
  have e2 := nI_ltI ha (show 0 < 2 ^ 31 by decide)
  have e3 := nI_leI ha (show 0 < 2 ^ 31 by decide)
  have e4 := nI_ltI (show 0 < 2 ^ 31 by decide) ha
  have e5 := nI_leI (show 0 < 2 ^ 31 by decide) ha
  rw [nI_0] at e1 e2 e3 e4 e5
  refine j_if_ne h tq q hd ht hq (fun z => kt ?_) (fun z => kf ?_)
  · (try rw [e1] at z); (try rw [e2] at z); (try rw [e3] at z); (try rw [e4] at z); (try rw [e5] at z); first | exact True.intro | omega
  · (try rw [e1] at z); (try rw [e2] at z); (try rw [e3] at z); (try rw [e4] at z); (try rw [e5] at z); first | exact True.intro | omega
theorem j_icmp_ltN (h : Ok X own cc d) (tq q : Nat) {a b : Nat} {off : Int} (ha : a < 2 ^ 31) (hb : b < 2 ^ 31) (hd : decode cc pc = .ok (.if_icmp .lt off, 3)) (ht : (pc : Int) + off = (tq : Int)) (hq : pc + 3 = q) (kt : a < b → J X tq lv st M) (kf : b ≤ a → J X q lv st M) : J X pc lv (.int (nI b) :: .int (nI a) :: st) M := by
  have e1 := nI_eq ha hb
  have e2 := nI_ltI ha hb
  have e3 := nI_leI ha hb
  have e4 := nI_ltI hb ha
  have e5 := nI_leI hb ha
  refine j_icmp_lt h tq q hd ht hq (fun z => kt ?_) (fun z => kf ?_)
  · (try rw [e1] at z); (try rw [e2] at z); (try rw [e3] at z); (try rw [e4] at z); (try rw [e5] at z); first | exact True.intro | omega
  · (try rw [e1] at z); (try rw [e2] at z); (try rw [e3] at z); (try rw [e4] at z); (try rw [e5] at z); first | exact True.intro | omega
theorem j_if_ltN (h : Ok X own cc d) (tq q : Nat) {a : Nat} {off : Int} (ha : a < 2 ^ 31) (hd : decode cc pc = .ok (.ifCond .lt off, 3)) (ht : (pc : Int) + off = (tq : Int)) (hq : pc + 3 = q) (kt : False → J X tq lv st M) (kf : True → J X q lv st M) : J X pc lv (.int (nI a) :: st) M := by
  have e1 := nI_eq ha (show 0 < 2 ^ 31 by decide)
  have e2 := nI_ltI ha (show 0 < 2 ^ 31 by decide)
  have e3 := nI_leI ha (show 0 < 2 ^ 31 by decide)
  have e4 := nI_ltI (show 0 < 2 ^ 31 by decide) ha
  have e5 := nI_leI (show 0 < 2 ^ 31 by decide) ha
  rw [nI_0] at e1 e2 e3 e4 e5
  refine j_if_lt h tq q hd ht hq (fun z => kt ?_) (fun z => kf ?_)
  · (try rw [e1] at z); (try rw [e2] at z); (try rw [e3] at z); (try rw [e4] at z); (try rw [e5] at z); first | exact True.intro | omega
  · (try rw [e1] at z); (try rw [e2] at z); (try rw [e3] at z); (try rw [e4] at z); (try rw [e5] at z); first | exact True.intro | omega
theorem j_icmp_geN (h : Ok X own cc d) (tq q : Nat) {a b : Nat} {off : Int} (ha : a < 2 ^ 31) (hb : b < 2 ^ 31) (hd : decode cc pc = .ok (.if_icmp .ge off, 3)) (ht : (pc : Int) + off = (tq : Int)) (hq : pc + 3 = q) (kt : b ≤ a → J X tq lv st M) (kf : a < b → J X q lv st M) : J X pc lv (.int (nI b) :: .int (nI a) :: st) M := by
  have e1 := nI_eq ha hb
  have e2 := nI_ltI ha hb
  have e3 := nI_leI ha hb
  have e4 := nI_ltI hb ha
  have e5 := nI_leI hb ha
  refine j_icmp_ge h tq q hd ht hq (fun z => kt ?_) (fun z => kf ?_)
  · (try rw [e1] at z); (try rw [e2] at z); (try rw [e3] at z); (try rw [e4] at z); (try rw [e5] at z); first | exact True.intro | omega
  · (try rw [e1] at z); (try rw [e2] at z); (try rw [e3] at z); (try rw [e4] at z); (try rw [e5] at z); first | exact True.intro | omega
theorem j_if_geN (h : Ok X own cc d) (tq q : Nat) {a : Nat} {off : Int} (ha : a < 2 ^ 31) (hd : decode cc pc = .ok (.ifCond .ge off, 3)) (ht : (pc : Int) + off = (tq : Int)) (hq : pc + 3 = q) (kt : True → J X tq lv st M) (kf : False → J X q lv st M) : J X pc lv (.int (nI a) :: st) M := by
  have e1 := nI_eq ha (show 0 < 2 ^ 31 by decide)
  have e2 := nI_ltI ha (show 0 < 2 ^ 31 by decide)
  have e3 := nI_leI ha (show 0 < 2 ^ 31 by decide)
  have e4 := nI_ltI (show 0 < 2 ^ 31 by decide) ha
  have e5 := nI_leI (show 0 < 2 ^ 31 by decide) ha
  rw [nI_0] at e1 e2 e3 e4 e5
  refine j_if_ge h tq q hd ht hq (fun z => kt ?_) (fun z => kf ?_)
  · (try rw [e1] at z); (try rw [e2] at z); (try rw [e3] at z); (try rw [e4] at z); (try rw [e5] at z); first | exact True.intro | omega
  · (try rw [e1] at z); (try rw [e2] at z); (try rw [e3] at z); (try rw [e4] at z); (try rw [e5] at z); first | exact True.intro | omega
theorem j_icmp_gtN (h : Ok X own cc d) (tq q : Nat) {a b : Nat} {off : Int} (ha : a < 2 ^ 31) (hb : b < 2 ^ 31) (hd : decode cc pc = .ok (.if_icmp .gt off, 3)) (ht : (pc : Int) + off = (tq : Int)) (hq : pc + 3 = q) (kt : b < a → J X tq lv st M) (kf : a ≤ b → J X q lv st M) : J X pc lv (.int (nI b) :: .int (nI a) :: st) M := by
  have e1 := nI_eq ha hb
  have e2 := nI_ltI ha hb
  have e3 := nI_leI ha hb
  have e4 := nI_ltI hb ha
  have e5 := nI_leI hb ha
  refine j_icmp_gt h tq q hd ht hq (fun z => kt ?_) (fun z => kf ?_)
  · (try rw [e1] at z); (try rw [e2] at z); (try rw [e3] at z); (try rw [e4] at z); (try rw [e5] at z); first | exact True.intro | omega
  · (try rw [e1] at z); (try rw [e2] at z); (try rw [e3] at z); (try rw [e4] at z); (try rw [e5] at z); first | exact True.intro | omega
theorem j_if_gtN (h : Ok X own cc d) (tq q : Nat) {a : Nat} {off : Int} (ha : a < 2 ^ 31) (hd : decode cc pc = .ok (.ifCond .gt off, 3)) (ht : (pc : Int) + off = (tq : Int)) (hq : pc + 3 = q) (kt : 0 < a → J X tq lv st M) (kf : a = 0 → J X q lv st M) : J X pc lv (.int (nI a) :: st) M := by
  have e1 := nI_eq ha (show 0 < 2 ^ 31 by decide)
  have e2 := nI_ltI ha (show 0 < 2 ^ 31 by decide)
  have e3 := nI_leI ha (show 0 < 2 ^ 31 by decide)
  have e4 := nI_ltI (show 0 < 2 ^ 31 by decide) ha
  have e5 := nI_leI (show 0 < 2 ^ 31 by decide) ha
  rw [nI_0] at e1 e2 e3 e4 e5
  refine j_if_gt h tq q hd ht hq (fun z => kt ?_) (fun z => kf ?_)
  · (try rw [e1] at z); (try rw [e2] at z); (try rw [e3] at z); (try rw [e4] at z); (try rw [e5] at z); first | exact True.intro | omega
  · (try rw [e1] at z); (try rw [e2] at z); (try rw [e3] at z); (try rw [e4] at z); (try rw [e5] at z); first | exact True.intro | omega
theorem j_icmp_leN (h : Ok X own cc d) (tq q : Nat) {a b : Nat} {off : Int} (ha : a < 2 ^ 31) (hb : b < 2 ^ 31) (hd : decode cc pc = .ok (.if_icmp .le off, 3)) (ht : (pc : Int) + off = (tq : Int)) (hq : pc + 3 = q) (kt : a ≤ b → J X tq lv st M) (kf : b < a → J X q lv st M) : J X pc lv (.int (nI b) :: .int (nI a) :: st) M := by
  have e1 := nI_eq ha hb
  have e2 := nI_ltI ha hb
  have e3 := nI_leI ha hb
  have e4 := nI_ltI hb ha
  have e5 := nI_leI hb ha
  refine j_icmp_le h tq q hd ht hq (fun z => kt ?_) (fun z => kf ?_)
  · (try rw [e1] at z); (try rw [e2] at z); (try rw [e3] at z); (try rw [e4] at z); (try rw [e5] at z); first | exact True.intro | omega
  · (try rw [e1] at z); (try rw [e2] at z); (try rw [e3] at z); (try rw [e4] at z); (try rw [e5] at z); first | exact True.intro | omega
theorem j_if_leN (h : Ok X own cc d) (tq q : Nat) {a : Nat} {off : Int} (ha : a < 2 ^ 31) (hd : decode cc pc = .ok (.ifCond .le off, 3)) (ht : (pc : Int) + off = (tq : Int)) (hq : pc + 3 = q) (kt : a = 0 → J X tq lv st M) (kf : 0 < a → J X q lv st M) : J X pc lv (.int (nI a) :: st) M := by
  have e1 := nI_eq ha (show 0 < 2 ^ 31 by decide)
  have e2 := nI_ltI ha (show 0 < 2 ^ 31 by decide)
  have e3 := nI_leI ha (show 0 < 2 ^ 31 by decide)
  have e4 := nI_ltI (show 0 < 2 ^ 31 by decide) ha
  have e5 := nI_leI (show 0 < 2 ^ 31 by decide) ha
  rw [nI_0] at e1 e2 e3 e4 e5
  refine j_if_le h tq q hd ht hq (fun z => kt ?_) (fun z => kf ?_)
  · (try rw [e1] at z); (try rw [e2] at z); (try rw [e3] at z); (try rw [e4] at z); (try rw [e5] at z); first | exact True.intro | omega
  · (try rw [e1] at z); (try rw [e2] at z); (try rw [e3] at z); (try rw [e4] at z); (try rw [e5] at z); first | exact True.intro | omega
theorem j_if_eqB (h : Ok X own cc d) (tq q : Nat) {P : Prop} [Decidable P] {off : Int} (hd : decode cc pc = .ok (.ifCond .eq off, 3)) (ht : (pc : Int) + off = (tq : Int)) (hq : pc + 3 = q) (kt : ¬ P → J X tq lv st M) (kf : P → J X q lv st M) : J X pc lv (.int (hb P) :: st) M :=
  j_if_eq h tq q hd ht hq (fun z => kt (by first | exact hb_0.mp z | exact hb_0.mp (Decidable.not_not.mp z) | exact Decidable.not_not.mp (fun w => z (hb_0.mpr w)))) (fun z => kf (by first | exact hb_0.mp z | exact hb_0.mp (Decidable.not_not.mp z) | exact Decidable.not_not.mp (fun w => z (hb_0.mpr w))))
theorem j_if_neB (h : Ok X own cc d) (tq q : Nat) {P : Prop} [Decidable P] {off : Int} (hd : decode cc pc = .ok (.ifCond .ne off, 3)) (ht : (pc : Int) + off = (tq : Int)) (hq : pc + 3 = q) (kt : P → J X tq lv st M) (kf : ¬ P → J X q lv st M) : J X pc lv (.int (hb P) :: st) M :=
  j_if_ne h tq q hd ht hq (fun z => kt (by first | exact hb_0.mp z | exact hb_0.mp (Decidable.not_not.mp z) | exact Decidable.not_not.mp (fun w => z (hb_0.mpr w)))) (fun z => kf (by first | exact hb_0.mp z | exact hb_0.mp (Decidable.not_not.mp z) | exact Decidable.not_not.mp (fun w => z (hb_0.mpr w))))
/-- posts: an int and nothing changed; a cell and nothing changed; no answer; an int -/
def pI (E : Int32) (M : hM) : Option Value → hM → Prop := fun v M2 => v = some (.int E) ∧ M2 = M
def pR (a : Nat) (M : hM) : Option Value → hM → Prop := fun v M2 => v = some (.ref a) ∧ M2 = M
def pV (P : hM → Prop) : Option Value → hM → Prop := fun v M2 => v = none ∧ P M2
def pX (P : Int32 → hM → Prop) : Option Value → hM → Prop := fun v M2 => ∃ x, v = some (.int x) ∧ P x M2
def pXR (P : Nat → hM → Prop) : Option Value → hM → Prop := fun v M2 => ∃ x, v = some (.ref x) ∧ P x M2

theorem j_callVI (h : Ok X own cc d) (q : Nat) (hq : pc + 3 = q) {ix n a ci : Nat} {fs : List Nat} {y : hMd} {as st0 : List Value} (hlk : LkV own ix y n) (ha : hT[a]? = some (0, ci, fs)) (hcl : (vwCl[ci]?).map (fun z => z.1) = some y.1.cls) (hn9 : as.length = n) {E : Int32} (hct : Ct d' y (.ref a :: as) M (pI E M)) (hdd : Nat.ble (d' + 1) d = true) (hst : st0 = as.reverse ++ .ref a :: st) (hcat : Nat.ble ((st.map fun v => v.category).sum) 8 = true) (hd : decode cc pc = .ok (.invokevirtual ix, 3)) (kk : J X q lv (.int E :: st) M) : J X pc lv st0 M := j_callV h q hq hlk ha hcl hn9 hct hdd hst hcat hd (fun r M2 hr => by obtain ⟨rfl, rfl⟩ := hr; exact kk)
theorem j_callVR (h : Ok X own cc d) (q : Nat) (hq : pc + 3 = q) {ix n a ci : Nat} {fs : List Nat} {y : hMd} {as st0 : List Value} (hlk : LkV own ix y n) (ha : hT[a]? = some (0, ci, fs)) (hcl : (vwCl[ci]?).map (fun z => z.1) = some y.1.cls) (hn9 : as.length = n) {b : Nat} (hct : Ct d' y (.ref a :: as) M (pR b M)) (hdd : Nat.ble (d' + 1) d = true) (hst : st0 = as.reverse ++ .ref a :: st) (hcat : Nat.ble ((st.map fun v => v.category).sum) 8 = true) (hd : decode cc pc = .ok (.invokevirtual ix, 3)) (kk : J X q lv (.ref b :: st) M) : J X pc lv st0 M := j_callV h q hq hlk ha hcl hn9 hct hdd hst hcat hd (fun r M2 hr => by obtain ⟨rfl, rfl⟩ := hr; exact kk)
theorem j_callVV (h : Ok X own cc d) (q : Nat) (hq : pc + 3 = q) {ix n a ci : Nat} {fs : List Nat} {y : hMd} {as st0 : List Value} (hlk : LkV own ix y n) (ha : hT[a]? = some (0, ci, fs)) (hcl : (vwCl[ci]?).map (fun z => z.1) = some y.1.cls) (hn9 : as.length = n) {P : hM → Prop} (hct : Ct d' y (.ref a :: as) M (pV P)) (hdd : Nat.ble (d' + 1) d = true) (hst : st0 = as.reverse ++ .ref a :: st) (hcat : Nat.ble ((st.map fun v => v.category).sum) 8 = true) (hd : decode cc pc = .ok (.invokevirtual ix, 3)) (kk : ∀ M2, P M2 → J X q lv st M2) : J X pc lv st0 M := j_callV h q hq hlk ha hcl hn9 hct hdd hst hcat hd (fun r M2 hr => by obtain ⟨rfl, hp⟩ := hr; exact kk M2 hp)
theorem j_callVX (h : Ok X own cc d) (q : Nat) (hq : pc + 3 = q) {ix n a ci : Nat} {fs : List Nat} {y : hMd} {as st0 : List Value} (hlk : LkV own ix y n) (ha : hT[a]? = some (0, ci, fs)) (hcl : (vwCl[ci]?).map (fun z => z.1) = some y.1.cls) (hn9 : as.length = n) {P : Int32 → hM → Prop} (hct : Ct d' y (.ref a :: as) M (pX P)) (hdd : Nat.ble (d' + 1) d = true) (hst : st0 = as.reverse ++ .ref a :: st) (hcat : Nat.ble ((st.map fun v => v.category).sum) 8 = true) (hd : decode cc pc = .ok (.invokevirtual ix, 3)) (kk : ∀ x M2, P x M2 → J X q lv (.int x :: st) M2) : J X pc lv st0 M := j_callV h q hq hlk ha hcl hn9 hct hdd hst hcat hd (fun r M2 hr => by obtain ⟨x, rfl, hp⟩ := hr; exact kk x M2 hp)
theorem j_callVY (h : Ok X own cc d) (q : Nat) (hq : pc + 3 = q) {ix n a ci : Nat} {fs : List Nat} {y : hMd} {as st0 : List Value} (hlk : LkV own ix y n) (ha : hT[a]? = some (0, ci, fs)) (hcl : (vwCl[ci]?).map (fun z => z.1) = some y.1.cls) (hn9 : as.length = n) {P : Nat → hM → Prop} (hct : Ct d' y (.ref a :: as) M (pXR P)) (hdd : Nat.ble (d' + 1) d = true) (hst : st0 = as.reverse ++ .ref a :: st) (hcat : Nat.ble ((st.map fun v => v.category).sum) 8 = true) (hd : decode cc pc = .ok (.invokevirtual ix, 3)) (kk : ∀ x M2, P x M2 → J X q lv (.ref x :: st) M2) : J X pc lv st0 M := j_callV h q hq hlk ha hcl hn9 hct hdd hst hcat hd (fun r M2 hr => by obtain ⟨x, rfl, hp⟩ := hr; exact kk x M2 hp)
theorem j_callSI (h : Ok X own cc d) (q : Nat) (hq : pc + 3 = q) {ix n : Nat} {y : hMd} {as st0 : List Value} (hlk : LkS own ix y n) (hn9 : as.length = n) {E : Int32} (hct : Ct d' y (as) M (pI E M)) (hdd : Nat.ble (d' + 1) d = true) (hst : st0 = as.reverse ++ st) (hcat : Nat.ble ((st.map fun v => v.category).sum) 8 = true) (hd : decode cc pc = .ok (.invokestatic ix, 3)) (kk : J X q lv (.int E :: st) M) : J X pc lv st0 M := j_callS h q hq hlk hn9 hct hdd hst hcat hd (fun r M2 hr => by obtain ⟨rfl, rfl⟩ := hr; exact kk)
theorem j_callSR (h : Ok X own cc d) (q : Nat) (hq : pc + 3 = q) {ix n : Nat} {y : hMd} {as st0 : List Value} (hlk : LkS own ix y n) (hn9 : as.length = n) {b : Nat} (hct : Ct d' y (as) M (pR b M)) (hdd : Nat.ble (d' + 1) d = true) (hst : st0 = as.reverse ++ st) (hcat : Nat.ble ((st.map fun v => v.category).sum) 8 = true) (hd : decode cc pc = .ok (.invokestatic ix, 3)) (kk : J X q lv (.ref b :: st) M) : J X pc lv st0 M := j_callS h q hq hlk hn9 hct hdd hst hcat hd (fun r M2 hr => by obtain ⟨rfl, rfl⟩ := hr; exact kk)
theorem j_callSV (h : Ok X own cc d) (q : Nat) (hq : pc + 3 = q) {ix n : Nat} {y : hMd} {as st0 : List Value} (hlk : LkS own ix y n) (hn9 : as.length = n) {P : hM → Prop} (hct : Ct d' y (as) M (pV P)) (hdd : Nat.ble (d' + 1) d = true) (hst : st0 = as.reverse ++ st) (hcat : Nat.ble ((st.map fun v => v.category).sum) 8 = true) (hd : decode cc pc = .ok (.invokestatic ix, 3)) (kk : ∀ M2, P M2 → J X q lv st M2) : J X pc lv st0 M := j_callS h q hq hlk hn9 hct hdd hst hcat hd (fun r M2 hr => by obtain ⟨rfl, hp⟩ := hr; exact kk M2 hp)
theorem j_callSX (h : Ok X own cc d) (q : Nat) (hq : pc + 3 = q) {ix n : Nat} {y : hMd} {as st0 : List Value} (hlk : LkS own ix y n) (hn9 : as.length = n) {P : Int32 → hM → Prop} (hct : Ct d' y (as) M (pX P)) (hdd : Nat.ble (d' + 1) d = true) (hst : st0 = as.reverse ++ st) (hcat : Nat.ble ((st.map fun v => v.category).sum) 8 = true) (hd : decode cc pc = .ok (.invokestatic ix, 3)) (kk : ∀ x M2, P x M2 → J X q lv (.int x :: st) M2) : J X pc lv st0 M := j_callS h q hq hlk hn9 hct hdd hst hcat hd (fun r M2 hr => by obtain ⟨x, rfl, hp⟩ := hr; exact kk x M2 hp)
theorem j_callSY (h : Ok X own cc d) (q : Nat) (hq : pc + 3 = q) {ix n : Nat} {y : hMd} {as st0 : List Value} (hlk : LkS own ix y n) (hn9 : as.length = n) {P : Nat → hM → Prop} (hct : Ct d' y (as) M (pXR P)) (hdd : Nat.ble (d' + 1) d = true) (hst : st0 = as.reverse ++ st) (hcat : Nat.ble ((st.map fun v => v.category).sum) 8 = true) (hd : decode cc pc = .ok (.invokestatic ix, 3)) (kk : ∀ x M2, P x M2 → J X q lv (.ref x :: st) M2) : J X pc lv st0 M := j_callS h q hq hlk hn9 hct hdd hst hcat hd (fun r M2 hr => by obtain ⟨x, rfl, hp⟩ := hr; exact kk x M2 hp)
theorem j_callNI (h : Ok X own cc d) (q : Nat) (hq : pc + 3 = q) {ix n : Nat} {y : hMd} {as st0 : List Value} (hlk : LkN own ix y n) (hn9 : as.length = n) {E : Int32} (hct : Ct d' y (as) M (pI E M)) (hdd : Nat.ble (d' + 1) d = true) (hst : st0 = as.reverse ++ st) (hcat : Nat.ble ((st.map fun v => v.category).sum) 8 = true) (hd : decode cc pc = .ok (.invokestatic ix, 3)) (kk : J X q lv (.int E :: st) M) : J X pc lv st0 M := j_callN h q hq hlk hn9 hct hdd hst hcat hd (fun r M2 hr => by obtain ⟨rfl, rfl⟩ := hr; exact kk)
theorem j_callNR (h : Ok X own cc d) (q : Nat) (hq : pc + 3 = q) {ix n : Nat} {y : hMd} {as st0 : List Value} (hlk : LkN own ix y n) (hn9 : as.length = n) {b : Nat} (hct : Ct d' y (as) M (pR b M)) (hdd : Nat.ble (d' + 1) d = true) (hst : st0 = as.reverse ++ st) (hcat : Nat.ble ((st.map fun v => v.category).sum) 8 = true) (hd : decode cc pc = .ok (.invokestatic ix, 3)) (kk : J X q lv (.ref b :: st) M) : J X pc lv st0 M := j_callN h q hq hlk hn9 hct hdd hst hcat hd (fun r M2 hr => by obtain ⟨rfl, rfl⟩ := hr; exact kk)
theorem j_callNV (h : Ok X own cc d) (q : Nat) (hq : pc + 3 = q) {ix n : Nat} {y : hMd} {as st0 : List Value} (hlk : LkN own ix y n) (hn9 : as.length = n) {P : hM → Prop} (hct : Ct d' y (as) M (pV P)) (hdd : Nat.ble (d' + 1) d = true) (hst : st0 = as.reverse ++ st) (hcat : Nat.ble ((st.map fun v => v.category).sum) 8 = true) (hd : decode cc pc = .ok (.invokestatic ix, 3)) (kk : ∀ M2, P M2 → J X q lv st M2) : J X pc lv st0 M := j_callN h q hq hlk hn9 hct hdd hst hcat hd (fun r M2 hr => by obtain ⟨rfl, hp⟩ := hr; exact kk M2 hp)
theorem j_callNX (h : Ok X own cc d) (q : Nat) (hq : pc + 3 = q) {ix n : Nat} {y : hMd} {as st0 : List Value} (hlk : LkN own ix y n) (hn9 : as.length = n) {P : Int32 → hM → Prop} (hct : Ct d' y (as) M (pX P)) (hdd : Nat.ble (d' + 1) d = true) (hst : st0 = as.reverse ++ st) (hcat : Nat.ble ((st.map fun v => v.category).sum) 8 = true) (hd : decode cc pc = .ok (.invokestatic ix, 3)) (kk : ∀ x M2, P x M2 → J X q lv (.int x :: st) M2) : J X pc lv st0 M := j_callN h q hq hlk hn9 hct hdd hst hcat hd (fun r M2 hr => by obtain ⟨x, rfl, hp⟩ := hr; exact kk x M2 hp)
theorem j_callNY (h : Ok X own cc d) (q : Nat) (hq : pc + 3 = q) {ix n : Nat} {y : hMd} {as st0 : List Value} (hlk : LkN own ix y n) (hn9 : as.length = n) {P : Nat → hM → Prop} (hct : Ct d' y (as) M (pXR P)) (hdd : Nat.ble (d' + 1) d = true) (hst : st0 = as.reverse ++ st) (hcat : Nat.ble ((st.map fun v => v.category).sum) 8 = true) (hd : decode cc pc = .ok (.invokestatic ix, 3)) (kk : ∀ x M2, P x M2 → J X q lv (.ref x :: st) M2) : J X pc lv st0 M := j_callN h q hq hlk hn9 hct hdd hst hcat hd (fun r M2 hr => by obtain ⟨x, rfl, hp⟩ := hr; exact kk x M2 hp)
theorem j_callTI (h : Ok X own cc d) (q : Nat) (hq : pc + 3 = q) {ix n i : Nat} (hi : i < 10) {y : hMd} {as st0 : List Value} (hlk : LkV own ix y n) (hcl : y.1.cls = "java/lang/String") (hn9 : as.length = n) {E : Int32} (hct : Ct d' y (.ref (500 + i) :: as) M (pI E M)) (hdd : Nat.ble (d' + 1) d = true) (hst : st0 = as.reverse ++ .ref (500 + i) :: st) (hcat : Nat.ble ((st.map fun v => v.category).sum) 8 = true) (hd : decode cc pc = .ok (.invokevirtual ix, 3)) (kk : J X q lv (.int E :: st) M) : J X pc lv st0 M := j_callT h q hq hi hlk hcl hn9 hct hdd hst hcat hd (fun r M2 hr => by obtain ⟨rfl, rfl⟩ := hr; exact kk)
theorem j_callTR (h : Ok X own cc d) (q : Nat) (hq : pc + 3 = q) {ix n i : Nat} (hi : i < 10) {y : hMd} {as st0 : List Value} (hlk : LkV own ix y n) (hcl : y.1.cls = "java/lang/String") (hn9 : as.length = n) {b : Nat} (hct : Ct d' y (.ref (500 + i) :: as) M (pR b M)) (hdd : Nat.ble (d' + 1) d = true) (hst : st0 = as.reverse ++ .ref (500 + i) :: st) (hcat : Nat.ble ((st.map fun v => v.category).sum) 8 = true) (hd : decode cc pc = .ok (.invokevirtual ix, 3)) (kk : J X q lv (.ref b :: st) M) : J X pc lv st0 M := j_callT h q hq hi hlk hcl hn9 hct hdd hst hcat hd (fun r M2 hr => by obtain ⟨rfl, rfl⟩ := hr; exact kk)
theorem j_callTV (h : Ok X own cc d) (q : Nat) (hq : pc + 3 = q) {ix n i : Nat} (hi : i < 10) {y : hMd} {as st0 : List Value} (hlk : LkV own ix y n) (hcl : y.1.cls = "java/lang/String") (hn9 : as.length = n) {P : hM → Prop} (hct : Ct d' y (.ref (500 + i) :: as) M (pV P)) (hdd : Nat.ble (d' + 1) d = true) (hst : st0 = as.reverse ++ .ref (500 + i) :: st) (hcat : Nat.ble ((st.map fun v => v.category).sum) 8 = true) (hd : decode cc pc = .ok (.invokevirtual ix, 3)) (kk : ∀ M2, P M2 → J X q lv st M2) : J X pc lv st0 M := j_callT h q hq hi hlk hcl hn9 hct hdd hst hcat hd (fun r M2 hr => by obtain ⟨rfl, hp⟩ := hr; exact kk M2 hp)
theorem j_callTX (h : Ok X own cc d) (q : Nat) (hq : pc + 3 = q) {ix n i : Nat} (hi : i < 10) {y : hMd} {as st0 : List Value} (hlk : LkV own ix y n) (hcl : y.1.cls = "java/lang/String") (hn9 : as.length = n) {P : Int32 → hM → Prop} (hct : Ct d' y (.ref (500 + i) :: as) M (pX P)) (hdd : Nat.ble (d' + 1) d = true) (hst : st0 = as.reverse ++ .ref (500 + i) :: st) (hcat : Nat.ble ((st.map fun v => v.category).sum) 8 = true) (hd : decode cc pc = .ok (.invokevirtual ix, 3)) (kk : ∀ x M2, P x M2 → J X q lv (.int x :: st) M2) : J X pc lv st0 M := j_callT h q hq hi hlk hcl hn9 hct hdd hst hcat hd (fun r M2 hr => by obtain ⟨x, rfl, hp⟩ := hr; exact kk x M2 hp)
theorem j_callTY (h : Ok X own cc d) (q : Nat) (hq : pc + 3 = q) {ix n i : Nat} (hi : i < 10) {y : hMd} {as st0 : List Value} (hlk : LkV own ix y n) (hcl : y.1.cls = "java/lang/String") (hn9 : as.length = n) {P : Nat → hM → Prop} (hct : Ct d' y (.ref (500 + i) :: as) M (pXR P)) (hdd : Nat.ble (d' + 1) d = true) (hst : st0 = as.reverse ++ .ref (500 + i) :: st) (hcat : Nat.ble ((st.map fun v => v.category).sum) 8 = true) (hd : decode cc pc = .ok (.invokevirtual ix, 3)) (kk : ∀ x M2, P x M2 → J X q lv (.ref x :: st) M2) : J X pc lv st0 M := j_callT h q hq hi hlk hcl hn9 hct hdd hst hcat hd (fun r M2 hr => by obtain ⟨x, rfl, hp⟩ := hr; exact kk x M2 hp)
end JN
