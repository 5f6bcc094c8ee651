/-! the start: the tables, the premises -/
set_option maxRecDepth 100000 in
theorem inv_0 : Inv hM0 := by
  have z24 : ∀ r, r < 5 → hM0 (24 + r) = fun _ => 0 := fun r hr => by unfold hM0; rw [if_neg (by omega), if_neg (by omega)]
  have n5 : ∀ r, r < 5 → r = 0 ∨ r = 1 ∨ r = 2 ∨ r = 3 ∨ r = 4 := fun r hr => by omega
  refine ⟨⟨0, by decide, rfl, rfl⟩, 0, 0, fun _ => 0, fun _ => 0, fun _ => 0, fun _ => 0, ⟨fun z => absurd rfl z, fun z => absurd rfl z⟩, rfl, ⟨fun r hr => ?_, fun r hr => ⟨rfl, rfl, rfl, rfl⟩, fun r hr => ⟨rfl, rfl, rfl⟩, fun r q hr hq => ?_, fun r hr => ?_, ⟨rfl, rfl, rfl, rfl, rfl, rfl, rfl, rfl, rfl⟩, by decide⟩, ⟨0, by decide, rfl⟩, ⟨by decide, rfl, rfl, fun i hi => absurd hi (Nat.not_lt_zero i)⟩, ⟨by decide, rfl, rfl, fun i hi => absurd hi (Nat.not_lt_zero i)⟩, fun f hf => ⟨rfl, Nat.zero_le 99, rfl, Nat.zero_le 8⟩, fun f hf => ⟨rfl, Nat.zero_le 99, rfl, Nat.zero_le 8⟩⟩
  · have e1 : hM0 93 0 = nI 0 := rfl
    have e2 : hM0 15 r = 0 := rfl
    rw [e1, e2]
    unfold bitP
    rcases n5 r hr with rfl | rfl | rfl | rfl | rfl <;> decide
  · rw [z24 r hr]; exact ⟨rfl, show (0 : Int32) ≤ 0 by decide⟩
  · rw [z24 r hr]
def st_wd : Nat → Term := fun i => .string RX3 (hIdx.getD i 0)
set_option maxRecDepth 100000 in
theorem st_1 : ∀ i : Fin 10, Cond.exactly (st_wd i) "java/lang/String" ∈ flatC (Jvm.Cond.and given_1 narrow_1) := by decide +kernel
set_option maxRecDepth 100000 in
theorem st_2 : ∀ i : Fin 10, Cond.eq (.field (st_wd i) "java/lang/String" "coder" "B") (.int 0) ∈ flatC (Jvm.Cond.and given_1 narrow_1) := by decide +kernel
set_option maxRecDepth 100000 in
theorem st_3 : ∀ i : Fin 10, Cond.arrayOf (.field (st_wd i) "java/lang/String" "value" "[B") .byte ∈ flatC (Jvm.Cond.and given_1 narrow_1) := by decide +kernel
set_option maxRecDepth 100000 in
theorem st_4 : ∀ i : Fin 10, Cond.eq (.length (.field (st_wd i) "java/lang/String" "value" "[B")) (.int (Int32.ofNat (hLen.getD i 0))) ∈ flatC (Jvm.Cond.and given_1 narrow_1) := by decide +kernel
set_option maxRecDepth 100000 in
theorem st_5 : ∀ i : Fin 10, ∀ j : Fin (hLen.getD i 0), Cond.eq (.elem (.field (st_wd i) "java/lang/String" "value" "[B") (.int (Int32.ofNat j))) (.int ((hByt.getD i []).getD j 0)) ∈ flatC (Jvm.Cond.and given_1 narrow_1) := by decide +kernel
set_option maxRecDepth 100000 in
theorem st_6 : ∀ i j : Fin 10, i ≠ j → (Cond.not (Cond.eq (st_wd i) (st_wd j)) ∈ flatC (Jvm.Cond.and given_1 narrow_1) ∨ Cond.not (Cond.eq (st_wd j) (st_wd i)) ∈ flatC (Jvm.Cond.and given_1 narrow_1)) := by decide +kernel
set_option maxRecDepth 100000 in
theorem st_7 : ∀ j : Fin 50, Cond.eq (.elem (.static "HotWeek$Reader" "BOUNDS" "[I") (.int (Int32.ofNat j))) (.int (hBnd.getD j 0)) ∈ flatC (Jvm.Cond.and given_1 narrow_1) := by decide +kernel
set_option maxRecDepth 100000 in
theorem st_8 : Cond.arrayOf (.static "HotWeek$Reader" "BOUNDS" "[I") .int ∈ flatC (Jvm.Cond.and given_1 narrow_1) ∧ Cond.eq (.length (.static "HotWeek$Reader" "BOUNDS" "[I")) (.int (Int32.ofNat 50)) ∈ flatC (Jvm.Cond.and given_1 narrow_1) ∧ Cond.eq (.static "java/lang/String" "COMPACT_STRINGS" "Z") (.int 1) ∈ flatC (Jvm.Cond.and given_1 narrow_1) ∧ Cond.isRef (.static "jdk/internal/util/Preconditions" "SIOOBE_FORMATTER" "Ljava/util/function/BiFunction;") ∈ flatC (Jvm.Cond.and given_1 narrow_1) := by decide +kernel
set_option maxRecDepth 100000 in
theorem st_9 : ∀ i : Fin 10, Cond.stringRef RX3 (hIdx.getD i 0) (hTxt.getD i "") ∈ lw_tbl := by decide +kernel
set_option maxRecDepth 100000 in
theorem st_10 : ∀ q ∈ hNest, Cond.methodLinkNest q.1 q.2.1 q.2.2.1 q.2.2.2 ∈ lw_tbl := by decide +kernel
set_option maxRecDepth 100000 in
theorem st_11 : Cond.laysStatic "HotWeek$Reader" "BOUNDS" "[I" ∈ lw_tbl ∧ Cond.laysStatic "java/lang/String" "COMPACT_STRINGS" "Z" ∈ lw_tbl ∧ Cond.laysStatic "jdk/internal/util/Preconditions" "SIOOBE_FORMATTER" "Ljava/util/function/BiFunction;" ∈ lw_tbl ∧ Cond.initialized "HotWeek$Reader" ∈ lw_tbl ∧ Cond.initialized "java/lang/String" ∈ lw_tbl ∧ Cond.initialized "jdk/internal/util/Preconditions" ∈ lw_tbl ∧ Cond.arrayOver (.array .int) ∈ lw_tbl := by decide +kernel
theorem st_sd {s : State} {b : Nat} {A : Nat → Prop} (hts : ∀ w ∈ lw_tbl, w.before #[Value.ref b] s = true) (hgv : (Jvm.Cond.and given_1 narrow_1).before #[Value.ref b] s = true) (hA : ∀ a : Nat, a < s.heap.size → ¬ A a) : ∃ ρ0 : Nat → Nat, ρ0 600 = b ∧ ∀ ρ : Nat → Nat, (∀ k, 500 ≤ k → ρ k = ρ0 k) → hSd ρ A s s.heap := by
  have hs := flat_of_before _ hgv
  obtain ⟨adK, adV, hS, hE⟩ := vk_Sof (args := #[Value.ref b]) (s := s) (N := 10) (tm := st_wd) (len := hLen) (byt := hByt) (A := A) (by decide) (fun i hi => hs _ (st_1 ⟨i, hi⟩)) (fun i hi => hs _ (st_2 ⟨i, hi⟩)) (fun i hi => hs _ (st_3 ⟨i, hi⟩)) (fun i hi => hs _ (st_4 ⟨i, hi⟩)) (fun i hi j hj => hs _ (st_5 ⟨i, hi⟩ ⟨j, hj⟩)) (fun i j hi hj hij => (st_6 ⟨i, hi⟩ ⟨j, hj⟩ (fun e => hij (congrArg Fin.val e))).imp (hs _) (hs _)) hA
  obtain ⟨t, ht, hT⟩ := va_Tof (args := #[Value.ref b]) (s := s) (tm := .static "HotWeek$Reader" "BOUNDS" "[I") (ty := .int) (N := 50) (f := fun j => .int (hBnd.getD j 0)) (A := A) (by decide) (hs _ st_8.1) (va_eqt (hs _ st_8.2.1)) (fun j hj => va_eqt (hs _ (st_7 ⟨j, hj⟩))) hA
  have hZ := va_Zref (hts _ st_11.1) (hts _ st_11.2.2.2.1) ht hA
  have hC := va_Zof (hts _ st_11.2.1) (hts _ st_11.2.2.2.2.1) (va_eqi (hs _ st_8.2.2.1)) hA
  have hF := va_Zqof (hts _ st_11.2.2.1) (hts _ st_11.2.2.2.2.2.1) (hs _ st_8.2.2.2) hA
  obtain ⟨u, hu⟩ : ∃ u : Nat, va_Z "jdk/internal/util/Preconditions" "SIOOBE_FORMATTER" "Ljava/util/function/BiFunction;" .null A s s.heap ∨ va_Z "jdk/internal/util/Preconditions" "SIOOBE_FORMATTER" "Ljava/util/function/BiFunction;" (.ref u) A s s.heap := by
    rcases hF with h | ⟨u, h⟩
    · exact ⟨0, Or.inl h⟩
    · exact ⟨u, Or.inr h⟩
  refine ⟨fun k => if k < 510 then adK (k - 500) else if k < 530 then adV (k - 520) else if k = 540 then t else if k = 541 then u else b, rfl, fun ρ hρ => ?_⟩
  have eK : ∀ i, i < 10 → ρ (500 + i) = adK i := fun i hi => by
    rw [hρ _ (by omega)]; show (if 500 + i < 510 then adK (500 + i - 500) else if 500 + i < 530 then adV (500 + i - 520) else if 500 + i = 540 then t else if 500 + i = 541 then u else b) = _; rw [if_pos (by omega), Nat.add_sub_cancel_left]
  have eV : ∀ i, i < 10 → ρ (520 + i) = adV i := fun i hi => by
    rw [hρ _ (by omega)]; show (if 520 + i < 510 then adK (520 + i - 500) else if 520 + i < 530 then adV (520 + i - 520) else if 520 + i = 540 then t else if 520 + i = 541 then u else b) = _; rw [if_neg (by omega), if_pos (by omega), Nat.add_sub_cancel_left]
  have eT : ρ 540 = t := hρ 540 (by omega)
  have eU : ρ 541 = u := hρ 541 (by omega)
  refine ⟨hC, ⟨by rw [eT]; exact hZ, by rw [eT]; exact hT⟩, ⟨fun i hi => ?_, fun i j hi hj e => ?_⟩, fun i hi => ?_, fun q hq => va_Nw.of rfl (hts _ (st_10 q hq)), by rw [eU]; exact hu⟩
  · have := hS.1 i hi
    rw [← eK i hi, ← eV i hi] at this
    exact this
  · have e : ρ (500 + i) = ρ (500 + j) := e
    rw [eK i hi, eK j hj] at e
    exact hS.2 i j hi hj e
  · rw [eK i hi]
    exact vk_R.of (hts _ (st_9 ⟨i, hi⟩)) (hE i hi)
theorem st_K {s : State} {b : Nat} (hts : ∀ w ∈ lw_tbl, w.before #[Value.ref b] s = true) : ∃ (D : va_G) (cI cZ cQ : ClassId), va_K D vwCl [(cI, .int), (cZ, .boolean), (cQ, .array .int)] s ∧ va_AOA .int s := by
  have htl : ∀ w ∈ wsL_law, w.before #[Value.ref b] s = true := fun w hw => hts w (wsL_law_in w hw)
  obtain ⟨c0, i0, h0⟩ := u_known (C := RX0) (T := TX0) (N := 5) (n := 5) htl inlX0 (htl _ (ir_2 _ (List.mem_of_getElem? (i := 11) (by decide +kernel))))
  obtain ⟨c1, i1, h1⟩ := u_known (C := RX1) (T := TX1) (N := 3) (n := 3) htl inlX1 (htl _ (ir_2 _ (List.mem_of_getElem? (i := 6) (by decide +kernel))))
  obtain ⟨c2, i2, h2⟩ := u_known (C := RX2) (T := TX2) (N := 9) (n := 9) htl inlX2 (htl _ (ir_2 _ (List.mem_of_getElem? (i := 19) (by decide +kernel))))
  obtain ⟨c3, i3, h3⟩ := u_known (C := RX3) (T := TX3) (N := 18) (n := 18) htl inlX3 (htl _ (ir_1 _ (List.mem_of_getElem? (i := 22) (by decide +kernel))))
  obtain ⟨c4, i4, h4⟩ := u_known (C := RX4) (T := TX4) (N := 7) (n := 7) htl inlX4 (htl _ (ir_2 _ (List.mem_of_getElem? (i := 2) (by decide +kernel))))
  obtain ⟨c5, i5, h5⟩ := u_known (C := RX5) (T := TX5) (N := 4) (n := 4) htl inlX5 (htl _ (ir_1 _ (List.mem_of_getElem? (i := 18) (by decide +kernel))))
  obtain ⟨c6, i6, h6⟩ := u_known (C := RX6) (T := TX6) (N := 3) (n := 3) htl inlX6 (htl _ (ir_2 _ (List.mem_of_getElem? (i := 23) (by decide +kernel))))
  obtain ⟨c7, i7, h7⟩ := u_known (C := RX7) (T := TX7) (N := 8) (n := 8) htl inlX7 (htl _ (ir_3 _ (List.mem_of_getElem? (i := 3) (by decide +kernel))))
  obtain ⟨c8, i8, h8⟩ := u_known (C := RX8) (T := TX8) (N := 2) (n := 2) htl inlX8 (htl _ (ir_1 _ (List.mem_of_getElem? (i := 14) (by decide +kernel))))
  obtain ⟨c9, i9, h9⟩ := u_known (C := RX9) (T := TX9) (N := 7) (n := 7) htl inlX9 (htl _ (ir_2 _ (List.mem_of_getElem? (i := 15) (by decide +kernel))))
  obtain ⟨c10, i10, h10⟩ := u_known (C := RX10) (T := TX10) (N := 12) (n := 12) htl inlX10 (htl _ (ir_1 _ (List.mem_of_getElem? (i := 1) (by decide +kernel))))
  obtain ⟨c11, i11, h11⟩ := u_known (C := RX11) (T := TX11) (N := 48) (n := 48) htl inlX11 (htl _ (ir_1 _ (List.mem_of_getElem? (i := 4) (by decide +kernel))))
  obtain ⟨cI, kI, pI9, a1, a2, a3⟩ := Cond.arrayClass_spec (args := #[Value.ref b]) (first := s) (o := none) (s := s) (idx := []) (htl _ ac_int)
  obtain ⟨cZ, kZ, pZ9, b1, b2, b3⟩ := Cond.arrayClass_spec (args := #[Value.ref b]) (first := s) (o := none) (s := s) (idx := []) (htl _ ac_bool)
  have hov : (Cond.arrayOver (.array .int)).before #[Value.ref b] s = true := hts _ st_11.2.2.2.2.2.2
  obtain ⟨comp, cQ, kQ, d1, -, d2, d3, d4⟩ := Jvm.Stand.arrayOver_specB (args := #[Value.ref b]) (first := s) (s := s) (o := none) (idx := []) (t := .int) hov
  refine ⟨(fun k => [c0, c1, c2, c3, c4, c5, c6, c7, c8, c9, c10, c11].getD k 0, fun k => [i0, i1, i2, i3, i4, i5, i6, i7, i8, i9, i10, i11].getD k (fun _ => 0)), cI, cZ, cQ, ⟨fun k q hq => ?_, fun k q hq => ?_⟩, va_AOA.of hov⟩
  · match k, hq with
    | 0, hq => cases hq; exact h0
    | 1, hq => cases hq; exact h1
    | 2, hq => cases hq; exact h2
    | 3, hq => cases hq; exact h3
    | 4, hq => cases hq; exact h4
    | 5, hq => cases hq; exact h5
    | 6, hq => cases hq; exact h6
    | 7, hq => cases hq; exact h7
    | 8, hq => cases hq; exact h8
    | 9, hq => cases hq; exact h9
    | 10, hq => cases hq; exact h10
    | 11, hq => cases hq; exact h11
    | k + 12, hq => cases hq
  · match k, hq with
    | 0, hq => cases hq; exact ⟨fun n z => ⟨fun k h => (by cases h), kI, a2, pI9, a3⟩, a1⟩
    | 1, hq => cases hq; exact ⟨fun n z => ⟨fun k h => (by cases h), kZ, b2, pZ9, b3⟩, b1⟩
    | 2, hq => cases hq; exact ⟨fun n z => ⟨fun k h => (by cases h), kQ, d2, comp, d3⟩, d4⟩
    | k + 3, hq => cases hq
