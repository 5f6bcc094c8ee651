/-! the model: tokens -/
section JTL
variable {X : hC} {pc : Nat} {lv : List (Option Value)} {st : List Value} {M : hM}
theorem j_topL {x y : Int64} (e : x = y) (k : J X pc lv (.long y :: st) M) : J X pc lv (.long x :: st) M := e ▸ k
end JTL
/-- a row of letters as a number -/
def wdL (b : Nat → Int32) (s : Nat) : Nat → Int64
  | 0 => 0
  | k + 1 => 27 * wdL b s k + (b (s + k)).toInt64 - 96
def wtS (b : Nat → Int32) (s k : Nat) : Int64 := if k ≤ 9 then wdL b s k else -4
def nm3 (b : Nat → Int32) (s : Nat) : Nat → Int32
  | 0 => nI 0
  | k + 1 => if k < 3 then nI 10 * nm3 b s k + b (s + k) - nI 48 else nm3 b s k
def tokS (b : Nat → Int32) (L s : Nat) : Int64 := if s = L then -2 else if isL (b s) = true then wtS b s (tkE b L s - s) else if isD (b s) = true then (if tkE b L s - s ≤ 3 then -1 else -4) else if b s = nI 59 then -3 else -4
/-- the model's reading state -/
def tkC (M : hM) (s q dg : Nat) (nm : Int32) (M3 : hM) : Prop := (∀ a, a ≠ 93 → M3 a = M a) ∧ (∀ j, (j < 17 ∨ (21 < j ∧ j ≠ 1019)) → M3 93 j = M 93 j) ∧ M3 93 17 = nI q ∧ M3 93 18 = nI s ∧ M3 93 20 = nI dg ∧ M3 93 21 = nm
def tkT (M3 : hM) (t : Int64) : Prop := mkL (M3 93 19) (M3 93 1019) = t
def tkA (M : hM) (q : Nat) (M2 : hM) : Prop := (∀ a, a ≠ 93 → M2 a = M a) ∧ (∀ j, j ≠ 17 → M2 93 j = M 93 j) ∧ M2 93 17 = nI q
def pL (M : hM) (x : Int64) : hM := mu (mu M 93 19 (hiW x)) 93 (19 + 1000) (loW x)
theorem pL_k {M : hM} {x : Int64} {a j : Nat} (h : a ≠ 93 ∨ (j ≠ 19 ∧ j ≠ 1019)) : pL M x a j = M a j := by
  unfold pL
  by_cases e : a = 93
  · subst e
    have h2 := h.resolve_left (fun z => z rfl)
    rw [mu_k (show j ≠ 19 + 1000 from h2.2), mu_k h2.1]
  · rw [mu_a e, mu_a e]
theorem pL_f {M : hM} {x : Int64} {a : Nat} (h : a ≠ 93) : pL M x a = M a := funext fun _ => pL_k (Or.inl h)
theorem pL_t {M : hM} {x : Int64} : tkT (pL M x) x := by
  unfold tkT pL
  show mkL _ (mu _ 93 (19 + 1000) _ 93 (19 + 1000)) = _
  rw [mu_s, mu_k (by decide), mu_s, mkL_hl]
theorem tkC_pL {M M3 : hM} {s q dg : Nat} {nm : Int32} {x : Int64} (h : tkC M s q dg nm M3) : tkC M s q dg nm (pL M3 x) := by
  obtain ⟨h1, h2, h3, h4, h5, h6⟩ := h
  exact ⟨fun a ha => by rw [pL_f ha]; exact h1 a ha, fun j hj => by rw [pL_k (Or.inr (by omega))]; exact h2 j hj, by rw [pL_k (Or.inr (by decide))]; exact h3, by rw [pL_k (Or.inr (by decide))]; exact h4, by rw [pL_k (Or.inr (by decide))]; exact h5, by rw [pL_k (Or.inr (by decide))]; exact h6⟩
theorem tkC_q {M M3 : hM} {s q r dg : Nat} {nm : Int32} (h : tkC M s q dg nm M3) : tkC M s r dg nm (mu M3 93 17 (nI r)) := by
  obtain ⟨h1, h2, h3, h4, h5, h6⟩ := h
  exact ⟨fun a ha => by rw [mu_f ha]; exact h1 a ha, fun j hj => by rw [mu_k (by omega)]; exact h2 j hj, mu_s, by rw [mu_k (by decide)]; exact h4, by rw [mu_k (by decide)]; exact h5, by rw [mu_k (by decide)]; exact h6⟩
theorem tkC_d {M M3 : hM} {s q dg r : Nat} {nm : Int32} (h : tkC M s q dg nm M3) : tkC M s q r nm (mu M3 93 20 (nI r)) := by
  obtain ⟨h1, h2, h3, h4, h5, h6⟩ := h
  exact ⟨fun a ha => by rw [mu_f ha]; exact h1 a ha, fun j hj => by rw [mu_k (by omega)]; exact h2 j hj, by rw [mu_k (by decide)]; exact h3, by rw [mu_k (by decide)]; exact h4, mu_s, by rw [mu_k (by decide)]; exact h6⟩
theorem tkC_n {M M3 : hM} {s q dg : Nat} {nm x : Int32} (h : tkC M s q dg nm M3) : tkC M s q dg x (mu M3 93 21 x) := by
  obtain ⟨h1, h2, h3, h4, h5, h6⟩ := h
  exact ⟨fun a ha => by rw [mu_f ha]; exact h1 a ha, fun j hj => by rw [mu_k (by omega)]; exact h2 j hj, by rw [mu_k (by decide)]; exact h3, by rw [mu_k (by decide)]; exact h4, by rw [mu_k (by decide)]; exact h5, mu_s⟩
theorem tkT_m {M3 : hM} {t : Int64} {k : Nat} {x : Int32} (h : tkT M3 t) (h1 : k ≠ 19) (h2 : k ≠ 1019) : tkT (mu M3 93 k x) t := by
  unfold tkT at *
  rw [mu_k (fun z => h1 z.symm), mu_k (fun z => h2 z.symm)]; exact h
theorem tkA_C {M M2 : hM} {q : Nat} (h : tkA M q M2) : tkC M q q 0 (nI 0) (mu (mu (mu M2 93 18 (nI q)) 93 20 (nI 0)) 93 21 (nI 0)) := by
  obtain ⟨h1, h2, h3⟩ := h
  exact ⟨fun a ha => by rw [mu_f ha, mu_f ha, mu_f ha]; exact h1 a ha, fun j hj => by rw [mu_k (by omega), mu_k (by omega), mu_k (by omega)]; exact h2 j (by omega), by rw [mu_k (by decide), mu_k (by decide), mu_k (by decide)]; exact h3, by rw [mu_k (by decide), mu_k (by decide), mu_s], by rw [mu_k (by decide), mu_s], mu_s⟩
/-- behind a token -/
def tkP (M : hM) (L p : Nat) (M2 : hM) : Prop := (∀ a, a ≠ 93 → M2 a = M a) ∧ (∀ j, (j < 17 ∨ (21 < j ∧ j ≠ 1019)) → M2 93 j = M 93 j) ∧ M2 93 17 = nI (wT (M 99) L p) ∧ M2 93 18 = nI (skB (M 99) L p) ∧ tkT M2 (tokS (M 99) L (skB (M 99) L p)) ∧ (skB (M 99) L p < L → isD (M 99 (skB (M 99) L p)) = true → M2 93 21 = nm3 (M 99) (skB (M 99) L p) (wT (M 99) L p - skB (M 99) L p))
theorem tkP_of {M M3 : hM} {L p s dg : Nat} {nm : Int32} (hs : skB (M 99) L p = s) (h : tkC M s (tkE (M 99) L s) dg nm M3) (ht : tkT M3 (tokS (M 99) L s)) (hn : s < L → isD (M 99 s) = true → nm = nm3 (M 99) s (tkE (M 99) L s - s)) : tkP M L p M3 := by
  obtain ⟨h1, h2, h3, h4, h5, h6⟩ := h
  subst hs
  exact ⟨h1, h2, h3, h4, ht, fun a b => h6.trans (hn a b)⟩
theorem isL_D {x : Int32} (h : isL x = true) : ¬ isD x = true := fun h2 => by
  unfold isL at h; unfold isD at h2
  have a := of_decide_eq_true h
  have b := of_decide_eq_true h2
  exact absurd (Int32.le_trans a.1 b.2) (by decide)
theorem sk_st {b : Nat → Int32} {L q : Nat} (h : ¬ (q < L ∧ b q = nI 32)) : skB b L q = q := rn_stop (fun z => h ⟨z.1, of_decide_eq_true z.2⟩) _
theorem sk_go {b : Nat → Int32} {L q : Nat} (h1 : q < L) (h2 : b q = nI 32) : skB b L (q + 1) = skB b L q := (rn_go h1 (decide_eq_true h2)).symm
theorem tkE_L {b : Nat → Int32} {L s : Nat} (h1 : s < L) (h2 : isL (b s) = true) : tkE b L s = rn isL b L (L - s) s := by unfold tkE; rw [if_pos h1, if_pos h2, rn_go h1 h2]
theorem tkE_D {b : Nat → Int32} {L s : Nat} (h1 : s < L) (h2 : isD (b s) = true) : tkE b L s = rn isD b L (L - s) s := by unfold tkE; rw [if_pos h1, if_neg (fun z => isL_D z h2), if_pos h2, rn_go h1 h2]
theorem tkE_1 {b : Nat → Int32} {L s : Nat} (h1 : s < L) (h2 : ¬ isL (b s) = true) (h3 : ¬ isD (b s) = true) : tkE b L s = s + 1 := by unfold tkE; rw [if_pos h1, if_neg h2, if_neg h3]
theorem tkE_0 {b : Nat → Int32} {L s : Nat} (h1 : ¬ s < L) : tkE b L s = s := by unfold tkE; rw [if_neg h1]
theorem tokS_0 {b : Nat → Int32} {L s : Nat} (h : s = L) : tokS b L s = -2 := by unfold tokS; rw [if_pos h]
theorem tokS_1 {b : Nat → Int32} {L s : Nat} (h : ¬ s = L) (hl : isL (b s) = true) : tokS b L s = wtS b s (tkE b L s - s) := by unfold tokS; rw [if_neg h, if_pos hl]
theorem tokS_2 {b : Nat → Int32} {L s : Nat} (h : ¬ s = L) (hl : ¬ isL (b s) = true) (hd : isD (b s) = true) : tokS b L s = if tkE b L s - s ≤ 3 then -1 else -4 := by unfold tokS; rw [if_neg h, if_neg hl, if_pos hd]
theorem tokS_3 {b : Nat → Int32} {L s : Nat} (h : ¬ s = L) (hl : ¬ isL (b s) = true) (hd : ¬ isD (b s) = true) : tokS b L s = if b s = nI 59 then -3 else -4 := by unfold tokS; rw [if_neg h, if_neg hl, if_neg hd]
theorem wt_1 {b : Nat → Int32} {s e : Nat} (h0 : s ≤ e) (h : e - s < 9) : 27 * wtS b s (e - s) + (b e).toInt64 - 96 = wtS b s (e + 1 - s) := by
  unfold wtS
  rw [if_pos (by omega), if_pos (by omega), show e + 1 - s = (e - s) + 1 by omega, wdL, show s + (e - s) = e by omega]
theorem wt_2 {b : Nat → Int32} {s e : Nat} (h0 : s ≤ e) (h : 9 ≤ e - s) : (-4 : Int64) = wtS b s (e + 1 - s) := by
  unfold wtS
  rw [if_neg (by omega)]
theorem wt_3 {b : Nat → Int32} {s e : Nat} (h : 9 < e - s) : (-4 : Int64) = wtS b s (e - s) := by
  unfold wtS
  rw [if_neg (by omega)]
theorem nm_1 {b : Nat → Int32} {s e : Nat} (h0 : s ≤ e) (h : e - s < 3) : nI 10 * nm3 b s (e - s) + b e - nI 48 = nm3 b s (e + 1 - s) := by
  rw [show e + 1 - s = (e - s) + 1 by omega, nm3, if_pos h, show s + (e - s) = e by omega]
theorem nm_2 {b : Nat → Int32} {s e : Nat} (h0 : s ≤ e) (h : 3 ≤ e - s) : nm3 b s (e - s) = nm3 b s (e + 1 - s) := by
  rw [show e + 1 - s = (e - s) + 1 by omega, nm3, if_neg (by omega)]
set_option maxRecDepth 100000 in
set_option maxHeartbeats 4000000 in
theorem t_X11_nextToken (M : hM) (L p : Nat) (hL : L ≤ 200) (eL : M 93 15 = nI L) (hp : p ≤ L) (ep : M 93 17 = nI p) : Ct 2 mX11_nextToken [.ref 93] M (pV (tkP M L p)) := by
  refine ct_of (lv := [some (.ref 93)]) (by decide +kernel) (fun _ _ hq => hq) rfl (fun _ => Nat.le_of_ble_eq_true rfl) (fun X h hr => ?_)
  have L1 : ∀ (n1 q : Nat) (M2 : hM), L - q < n1 → q ≤ L → skB (M 99) L q = skB (M 99) L p → tkA M q M2 → J X 0 [some (.ref 93)] [] M2 := by
    intro n1
    induction n1 with
    | zero => intro q M2 g1; omega
    | succ n1 ihn1 =>
      intro q M2 g1 g2 hsk hA
      refine j_aload_n h 1 rfl rfl dX11_nextToken_0 ?_
      have K38 : skB (M 99) L q = q → J X 38 [some (.ref 93)] [] M2 := by
        intro hsq
        have hs : skB (M 99) L p = q := hsk.symm.trans hsq
        refine j_aload_n h 39 rfl rfl dX11_nextToken_38 ?_
        refine j_aload_n h 40 rfl rfl dX11_nextToken_39 ?_
        refine j_getI h 43 rfl glX11_136 sh_93 rfl dX11_nextToken_40 ?_
        refine j_top (hA.2.2) ?_
        refine j_putI h 46 rfl plX11_139 sh_93 rfl rfl rfl rfl dX11_nextToken_43 ?_
        refine j_aload_n h 47 rfl rfl dX11_nextToken_46 ?_
        refine j_iconst h 48 rfl (nI 0) (by decide) dX11_nextToken_47 ?_
        refine j_putI h 51 rfl plX11_142 sh_93 rfl rfl rfl rfl dX11_nextToken_48 ?_
        refine j_aload_n h 52 rfl rfl dX11_nextToken_51 ?_
        refine j_iconst h 53 rfl (nI 0) (by decide) dX11_nextToken_52 ?_
        refine j_putI h 56 rfl plX11_145 sh_93 rfl rfl rfl rfl dX11_nextToken_53 ?_
        have K394 : ∀ M4, tkP M L p M4 → J X 394 [some (.ref 93)] [] M4 := by
          intro M4 hM4
          exact j_vret h hr dX11_nextToken_394 ⟨rfl, hM4⟩
        have hC := tkA_C hA
        generalize mu (mu (mu M2 93 18 (nI q)) 93 20 (nI 0)) 93 21 (nI 0) = M3 at hC ⊢
        refine j_aload_n h 57 rfl rfl dX11_nextToken_56 ?_
        refine j_getI h 60 rfl glX11_136 sh_93 rfl dX11_nextToken_57 ?_
        refine j_top (hC.2.2.1) ?_
        refine j_aload_n h 61 rfl rfl dX11_nextToken_60 ?_
        refine j_getI h 64 rfl glX11_131 sh_93 rfl dX11_nextToken_61 ?_
        refine j_top ((hC.2.1 15 (by decide)).trans eL) ?_
        refine j_icmp_neN h 77 67 (by omega) (by omega) dX11_nextToken_64 (by decide) rfl (fun c_64 => ?_) (fun c_64 => ?_)
        · skip
          refine j_aload_n h 78 rfl rfl dX11_nextToken_77 ?_
          refine j_getR h 81 rfl glX11_54 sh_93 rfl dX11_nextToken_78 ?_
          refine j_aload_n h 82 rfl rfl dX11_nextToken_81 ?_
          refine j_getI h 85 rfl glX11_136 sh_93 rfl dX11_nextToken_82 ?_
          refine j_top (hC.2.2.1) ?_
          refine j_iald h 86 rfl sh_99 _ rfl (by omega) rfl dX11_nextToken_85 ?_
          refine j_top (congrFun (hC.1 99 (by decide)) _) ?_
          refine j_bipush h 88 rfl (nI 97) (by decide) dX11_nextToken_86 ?_
          refine j_bipush h 90 rfl (nI 122) (by decide) dX11_nextToken_88 ?_
          refine j_callSI h 93 rfl lkX11_120 rfl (t_X11_in _ _ _ _) rfl rfl rfl dX11_nextToken_90 ?_
          refine j_if_eqB h 222 96 dX11_nextToken_93 (by decide) rfl (fun c_93 => ?_) (fun c_93 => ?_)
          · have hl9 : ¬ isL (M 99 q) = true := fun z => c_93 (of_decide_eq_true z)
            refine j_aload_n h 223 rfl rfl dX11_nextToken_222 ?_
            refine j_getR h 226 rfl glX11_54 sh_93 rfl dX11_nextToken_223 ?_
            refine j_aload_n h 227 rfl rfl dX11_nextToken_226 ?_
            refine j_getI h 230 rfl glX11_136 sh_93 rfl dX11_nextToken_227 ?_
            refine j_top (hC.2.2.1) ?_
            refine j_iald h 231 rfl sh_99 _ rfl (by omega) rfl dX11_nextToken_230 ?_
            refine j_top (congrFun (hC.1 99 (by decide)) _) ?_
            refine j_bipush h 233 rfl (nI 48) (by decide) dX11_nextToken_231 ?_
            refine j_bipush h 235 rfl (nI 57) (by decide) dX11_nextToken_233 ?_
            refine j_callSI h 238 rfl lkX11_120 rfl (t_X11_in _ _ _ _) rfl rfl rfl dX11_nextToken_235 ?_
            refine j_if_eqB h 357 241 dX11_nextToken_238 (by decide) rfl (fun c_238 => ?_) (fun c_238 => ?_)
            · have hd9 : ¬ isD (M 99 q) = true := fun z => c_238 (of_decide_eq_true z)
              have K381 : ∀ t, t = (if M 99 q = nI 59 then -3 else -4) → J X 381 [some (.ref 93)] [.long t, .ref 93] M3 := by
                intro t ht
                subst ht
                refine j_putL h 384 rfl plX11_150 sh_93 rfl rfl dX11_nextToken_381 ?_
                refine j_aload_n h 385 rfl rfl dX11_nextToken_384 ?_
                refine j_dup h 386 rfl rfl dX11_nextToken_385 ?_
                refine j_getI h 389 rfl glX11_136 sh_93 rfl dX11_nextToken_386 ?_
                refine j_top ((pL_k (Or.inr (by decide))).trans hC.2.2.1) ?_
                refine j_iconst h 390 rfl (nI 1) (by decide) dX11_nextToken_389 ?_
                refine j_iaddN h 391 rfl dX11_nextToken_390 ?_
                refine j_putI h 394 rfl plX11_136 sh_93 rfl rfl rfl rfl dX11_nextToken_391 ?_
                first
                  | exact K394 _ (tkP_of hs (by rw [tkE_0 (by omega)]; exact tkC_pL hC) (by rw [tokS_0 c_64]; exact pL_t) (fun z => absurd z (by omega)))
                  | exact K394 _ (tkP_of hs (by rw [hE]; exact tkC_pL hC5) (by rw [tokS_1 c_64 hl9, hE]; exact pL_t) (fun _ z => absurd z (isL_D hl9)))
                  | exact K394 _ (tkP_of hs (by rw [hE]; exact tkC_pL hC5) (by rw [tokS_2 c_64 hl9 hd9, hE]; exact pL_t) (fun _ _ => by rw [hE]))
                  | exact K394 _ (tkP_of hs (by rw [tkE_1 (by omega) hl9 hd9]; exact tkC_q (tkC_pL hC)) (by rw [tokS_3 c_64 hl9 hd9]; exact tkT_m pL_t (by decide) (by decide)) (fun _ z => absurd z hd9))
              refine j_aload_n h 358 rfl rfl dX11_nextToken_357 ?_
              refine j_aload_n h 359 rfl rfl dX11_nextToken_358 ?_
              refine j_getR h 362 rfl glX11_54 sh_93 rfl dX11_nextToken_359 ?_
              refine j_aload_n h 363 rfl rfl dX11_nextToken_362 ?_
              refine j_getI h 366 rfl glX11_136 sh_93 rfl dX11_nextToken_363 ?_
              refine j_top (hC.2.2.1) ?_
              refine j_iald h 367 rfl sh_99 _ rfl (by omega) rfl dX11_nextToken_366 ?_
              refine j_top (congrFun (hC.1 99 (by decide)) _) ?_
              refine j_bipush h 369 rfl (nI 59) (by decide) dX11_nextToken_367 ?_
              refine j_icmp_ne h 378 372 dX11_nextToken_369 (by decide) rfl (fun c_369 => ?_) (fun c_369 => ?_)
              · skip
                refine j_ldc2 h 381 rfl (-4) cnX11_158 dX11_nextToken_378 ?_
                exact K381 _ (by first | rw [if_neg c_369] | rw [if_pos c_369])
              · skip
                refine j_ldc2 h 375 rfl (-3) cnX11_162 dX11_nextToken_372 ?_
                refine j_goto h 381 dX11_nextToken_375 (by decide) ?_
                exact K381 _ (by first | rw [if_neg c_369] | rw [if_pos c_369])
            · have hd9 : isD (M 99 q) = true := decide_eq_true c_238
              have L3 : ∀ (n3 e : Nat) (M5 : hM), L - e < n3 → e ≤ L → q ≤ e → rn isD (M 99) L (L - e) e = tkE (M 99) L q → tkC M q e (e - q) (nm3 (M 99) q (e - q)) M5 → J X 241 [some (.ref 93)] [] M5 := by
                intro n3
                induction n3 with
                | zero => intro e M5 g1; omega
                | succ n3 ihn3 =>
                  intro e M5 g1 g2 hqe hr5 hC5
                  refine j_aload_n h 242 rfl rfl dX11_nextToken_241 ?_
                  refine j_getI h 245 rfl glX11_136 sh_93 rfl dX11_nextToken_242 ?_
                  refine j_top (hC5.2.2.1) ?_
                  refine j_aload_n h 246 rfl rfl dX11_nextToken_245 ?_
                  refine j_getI h 249 rfl glX11_131 sh_93 rfl dX11_nextToken_246 ?_
                  refine j_top ((hC5.2.1 15 (by decide)).trans eL) ?_
                  refine j_icmp_geN h 333 252 (by omega) (by omega) dX11_nextToken_249 (by decide) rfl (fun c_249 => ?_) (fun c_249 => ?_)
                  · skip
                    have hE : tkE (M 99) L q = e := hr5.symm.trans (rn_stop (fun z => by first | omega | exact c_268 (of_decide_eq_true z.2)) _)
                    refine j_aload_n h 334 rfl rfl dX11_nextToken_333 ?_
                    have K351 : ∀ t, t = (if e - q ≤ 3 then -1 else -4) → J X 351 [some (.ref 93)] [.long t, .ref 93] M5 := by
                      intro t ht
                      subst ht
                      refine j_putL h 354 rfl plX11_150 sh_93 rfl rfl dX11_nextToken_351 ?_
                      refine j_goto h 394 dX11_nextToken_354 (by decide) ?_
                      first
                        | exact K394 _ (tkP_of hs (by rw [tkE_0 (by omega)]; exact tkC_pL hC) (by rw [tokS_0 c_64]; exact pL_t) (fun z => absurd z (by omega)))
                        | exact K394 _ (tkP_of hs (by rw [hE]; exact tkC_pL hC5) (by rw [tokS_1 c_64 hl9, hE]; exact pL_t) (fun _ z => absurd z (isL_D hl9)))
                        | exact K394 _ (tkP_of hs (by rw [hE]; exact tkC_pL hC5) (by rw [tokS_2 c_64 hl9 hd9, hE]; exact pL_t) (fun _ _ => by rw [hE]))
                        | exact K394 _ (tkP_of hs (by rw [tkE_1 (by omega) hl9 hd9]; exact tkC_q (tkC_pL hC)) (by rw [tokS_3 c_64 hl9 hd9]; exact tkT_m pL_t (by decide) (by decide)) (fun _ z => absurd z hd9))
                    refine j_aload_n h 335 rfl rfl dX11_nextToken_334 ?_
                    refine j_getI h 338 rfl glX11_142 sh_93 rfl dX11_nextToken_335 ?_
                    refine j_top (hC5.2.2.2.2.1) ?_
                    refine j_iconst h 339 rfl (nI 3) (by decide) dX11_nextToken_338 ?_
                    refine j_icmp_leN h 348 342 (by omega) (by omega) dX11_nextToken_339 (by decide) rfl (fun c_339 => ?_) (fun c_339 => ?_)
                    · skip
                      refine j_ldc2 h 351 rfl (-1) cnX11_160 dX11_nextToken_348 ?_
                      exact K351 _ (by first | rw [if_pos c_339] | rw [if_neg (by omega)])
                    · skip
                      refine j_ldc2 h 345 rfl (-4) cnX11_158 dX11_nextToken_342 ?_
                      refine j_goto h 351 dX11_nextToken_345 (by decide) ?_
                      exact K351 _ (by first | rw [if_pos c_339] | rw [if_neg (by omega)])
                  · skip
                    refine j_aload_n h 253 rfl rfl dX11_nextToken_252 ?_
                    refine j_getR h 256 rfl glX11_54 sh_93 rfl dX11_nextToken_253 ?_
                    refine j_aload_n h 257 rfl rfl dX11_nextToken_256 ?_
                    refine j_getI h 260 rfl glX11_136 sh_93 rfl dX11_nextToken_257 ?_
                    refine j_top (hC5.2.2.1) ?_
                    refine j_iald h 261 rfl sh_99 _ rfl (by omega) rfl dX11_nextToken_260 ?_
                    refine j_top (congrFun (hC5.1 99 (by decide)) _) ?_
                    refine j_bipush h 263 rfl (nI 48) (by decide) dX11_nextToken_261 ?_
                    refine j_bipush h 265 rfl (nI 57) (by decide) dX11_nextToken_263 ?_
                    refine j_callSI h 268 rfl lkX11_120 rfl (t_X11_in _ _ _ _) rfl rfl rfl dX11_nextToken_265 ?_
                    refine j_if_eqB h 333 271 dX11_nextToken_268 (by decide) rfl (fun c_268 => ?_) (fun c_268 => ?_)
                    · skip
                      have hE : tkE (M 99) L q = e := hr5.symm.trans (rn_stop (fun z => by first | omega | exact c_268 (of_decide_eq_true z.2)) _)
                      refine j_aload_n h 334 rfl rfl dX11_nextToken_333 ?_
                      have K351 : ∀ t, t = (if e - q ≤ 3 then -1 else -4) → J X 351 [some (.ref 93)] [.long t, .ref 93] M5 := by
                        intro t ht
                        subst ht
                        refine j_putL h 354 rfl plX11_150 sh_93 rfl rfl dX11_nextToken_351 ?_
                        refine j_goto h 394 dX11_nextToken_354 (by decide) ?_
                        first
                          | exact K394 _ (tkP_of hs (by rw [tkE_0 (by omega)]; exact tkC_pL hC) (by rw [tokS_0 c_64]; exact pL_t) (fun z => absurd z (by omega)))
                          | exact K394 _ (tkP_of hs (by rw [hE]; exact tkC_pL hC5) (by rw [tokS_1 c_64 hl9, hE]; exact pL_t) (fun _ z => absurd z (isL_D hl9)))
                          | exact K394 _ (tkP_of hs (by rw [hE]; exact tkC_pL hC5) (by rw [tokS_2 c_64 hl9 hd9, hE]; exact pL_t) (fun _ _ => by rw [hE]))
                          | exact K394 _ (tkP_of hs (by rw [tkE_1 (by omega) hl9 hd9]; exact tkC_q (tkC_pL hC)) (by rw [tokS_3 c_64 hl9 hd9]; exact tkT_m pL_t (by decide) (by decide)) (fun _ z => absurd z hd9))
                      refine j_aload_n h 335 rfl rfl dX11_nextToken_334 ?_
                      refine j_getI h 338 rfl glX11_142 sh_93 rfl dX11_nextToken_335 ?_
                      refine j_top (hC5.2.2.2.2.1) ?_
                      refine j_iconst h 339 rfl (nI 3) (by decide) dX11_nextToken_338 ?_
                      refine j_icmp_leN h 348 342 (by omega) (by omega) dX11_nextToken_339 (by decide) rfl (fun c_339 => ?_) (fun c_339 => ?_)
                      · skip
                        refine j_ldc2 h 351 rfl (-1) cnX11_160 dX11_nextToken_348 ?_
                        exact K351 _ (by first | rw [if_pos c_339] | rw [if_neg (by omega)])
                      · skip
                        refine j_ldc2 h 345 rfl (-4) cnX11_158 dX11_nextToken_342 ?_
                        refine j_goto h 351 dX11_nextToken_345 (by decide) ?_
                        exact K351 _ (by first | rw [if_pos c_339] | rw [if_neg (by omega)])
                    · skip
                      have K307 : ∀ v, v = nm3 (M 99) q (e + 1 - q) → J X 307 [some (.ref 93)] [.int v, .ref 93] M5 := by
                        intro v hv
                        subst hv
                        refine j_putI h 310 rfl plX11_145 sh_93 rfl rfl rfl rfl dX11_nextToken_307 ?_
                        refine j_aload_n h 311 rfl rfl dX11_nextToken_310 ?_
                        refine j_dup h 312 rfl rfl dX11_nextToken_311 ?_
                        refine j_getI h 315 rfl glX11_142 sh_93 rfl dX11_nextToken_312 ?_
                        refine j_top ((mu_k (by decide)).trans hC5.2.2.2.2.1) ?_
                        refine j_iconst h 316 rfl (nI 1) (by decide) dX11_nextToken_315 ?_
                        refine j_iaddN h 317 rfl dX11_nextToken_316 ?_
                        refine j_putI h 320 rfl plX11_142 sh_93 rfl rfl rfl rfl dX11_nextToken_317 ?_
                        refine j_aload_n h 321 rfl rfl dX11_nextToken_320 ?_
                        refine j_dup h 322 rfl rfl dX11_nextToken_321 ?_
                        refine j_getI h 325 rfl glX11_136 sh_93 rfl dX11_nextToken_322 ?_
                        refine j_top ((mu_k (by decide)).trans ((mu_k (by decide)).trans hC5.2.2.1)) ?_
                        refine j_iconst h 326 rfl (nI 1) (by decide) dX11_nextToken_325 ?_
                        refine j_iaddN h 327 rfl dX11_nextToken_326 ?_
                        refine j_putI h 330 rfl plX11_136 sh_93 rfl rfl rfl rfl dX11_nextToken_327 ?_
                        refine j_goto h 241 dX11_nextToken_330 (by decide) ?_
                        exact ihn3 (e + 1) _ (by omega) (by omega) (by omega) ((rn_go c_249 (decide_eq_true c_268)).symm.trans hr5) (by rw [show e - q + 1 = e + 1 - q by omega]; exact tkC_q (tkC_d (tkC_n hC5)))
                      refine j_aload_n h 272 rfl rfl dX11_nextToken_271 ?_
                      refine j_aload_n h 273 rfl rfl dX11_nextToken_272 ?_
                      refine j_getI h 276 rfl glX11_142 sh_93 rfl dX11_nextToken_273 ?_
                      refine j_top (hC5.2.2.2.2.1) ?_
                      refine j_iconst h 277 rfl (nI 3) (by decide) dX11_nextToken_276 ?_
                      refine j_icmp_geN h 303 280 (by omega) (by omega) dX11_nextToken_277 (by decide) rfl (fun c_277 => ?_) (fun c_277 => ?_)
                      · skip
                        refine j_aload_n h 304 rfl rfl dX11_nextToken_303 ?_
                        refine j_getI h 307 rfl glX11_145 sh_93 rfl dX11_nextToken_304 ?_
                        refine j_top (hC5.2.2.2.2.2) ?_
                        exact K307 _ (by first | exact nm_1 hqe c_277 | exact nm_2 hqe c_277)
                      · skip
                        refine j_bipush h 282 rfl (nI 10) (by decide) dX11_nextToken_280 ?_
                        refine j_aload_n h 283 rfl rfl dX11_nextToken_282 ?_
                        refine j_getI h 286 rfl glX11_145 sh_93 rfl dX11_nextToken_283 ?_
                        refine j_top (hC5.2.2.2.2.2) ?_
                        refine j_imul h 287 rfl dX11_nextToken_286 ?_
                        refine j_aload_n h 288 rfl rfl dX11_nextToken_287 ?_
                        refine j_getR h 291 rfl glX11_54 sh_93 rfl dX11_nextToken_288 ?_
                        refine j_aload_n h 292 rfl rfl dX11_nextToken_291 ?_
                        refine j_getI h 295 rfl glX11_136 sh_93 rfl dX11_nextToken_292 ?_
                        refine j_top (hC5.2.2.1) ?_
                        refine j_iald h 296 rfl sh_99 _ rfl (by omega) rfl dX11_nextToken_295 ?_
                        refine j_top (congrFun (hC5.1 99 (by decide)) _) ?_
                        refine j_iadd h 297 rfl dX11_nextToken_296 ?_
                        refine j_bipush h 299 rfl (nI 48) (by decide) dX11_nextToken_297 ?_
                        refine j_isub h 300 rfl dX11_nextToken_299 ?_
                        refine j_goto h 307 dX11_nextToken_300 (by decide) ?_
                        exact K307 _ (by first | exact nm_1 hqe c_277 | exact nm_2 hqe c_277)
              exact L3 (L - q + 1) q _ (by omega) (by omega) (Nat.le_refl q) (tkE_D (by omega) hd9).symm (by rw [Nat.sub_self]; exact hC)
          · have hl9 : isL (M 99 q) = true := decide_eq_true c_93
            refine j_aload_n h 97 rfl rfl dX11_nextToken_96 ?_
            refine j_lconst h 98 rfl 0 (by decide) dX11_nextToken_97 ?_
            refine j_putL h 101 rfl plX11_150 sh_93 rfl rfl dX11_nextToken_98 ?_
            have L2 : ∀ (n2 e : Nat) (M5 : hM), L - e < n2 → e ≤ L → q ≤ e → rn isL (M 99) L (L - e) e = tkE (M 99) L q → tkC M q e 0 (nI 0) M5 → tkT M5 (wtS (M 99) q (e - q)) → J X 101 [some (.ref 93)] [] M5 := by
              intro n2
              induction n2 with
              | zero => intro e M5 g1; omega
              | succ n2 ihn2 =>
                intro e M5 g1 g2 hqe hr5 hC5 hT5
                refine j_aload_n h 102 rfl rfl dX11_nextToken_101 ?_
                refine j_getI h 105 rfl glX11_136 sh_93 rfl dX11_nextToken_102 ?_
                refine j_top (hC5.2.2.1) ?_
                refine j_aload_n h 106 rfl rfl dX11_nextToken_105 ?_
                refine j_getI h 109 rfl glX11_131 sh_93 rfl dX11_nextToken_106 ?_
                refine j_top ((hC5.2.1 15 (by decide)).trans eL) ?_
                refine j_icmp_geN h 191 112 (by omega) (by omega) dX11_nextToken_109 (by decide) rfl (fun c_109 => ?_) (fun c_109 => ?_)
                · skip
                  have hE : tkE (M 99) L q = e := hr5.symm.trans (rn_stop (fun z => by first | omega | exact c_128 (of_decide_eq_true z.2)) _)
                  refine j_aload_n h 192 rfl rfl dX11_nextToken_191 ?_
                  have K216 : ∀ t, t = wtS (M 99) q (e - q) → J X 216 [some (.ref 93)] [.long t, .ref 93] M5 := by
                    intro t ht
                    subst ht
                    refine j_putL h 219 rfl plX11_150 sh_93 rfl rfl dX11_nextToken_216 ?_
                    refine j_goto h 394 dX11_nextToken_219 (by decide) ?_
                    first
                      | exact K394 _ (tkP_of hs (by rw [tkE_0 (by omega)]; exact tkC_pL hC) (by rw [tokS_0 c_64]; exact pL_t) (fun z => absurd z (by omega)))
                      | exact K394 _ (tkP_of hs (by rw [hE]; exact tkC_pL hC5) (by rw [tokS_1 c_64 hl9, hE]; exact pL_t) (fun _ z => absurd z (isL_D hl9)))
                      | exact K394 _ (tkP_of hs (by rw [hE]; exact tkC_pL hC5) (by rw [tokS_2 c_64 hl9 hd9, hE]; exact pL_t) (fun _ _ => by rw [hE]))
                      | exact K394 _ (tkP_of hs (by rw [tkE_1 (by omega) hl9 hd9]; exact tkC_q (tkC_pL hC)) (by rw [tokS_3 c_64 hl9 hd9]; exact tkT_m pL_t (by decide) (by decide)) (fun _ z => absurd z hd9))
                  refine j_aload_n h 193 rfl rfl dX11_nextToken_192 ?_
                  refine j_getI h 196 rfl glX11_136 sh_93 rfl dX11_nextToken_193 ?_
                  refine j_top (hC5.2.2.1) ?_
                  refine j_aload_n h 197 rfl rfl dX11_nextToken_196 ?_
                  refine j_getI h 200 rfl glX11_139 sh_93 rfl dX11_nextToken_197 ?_
                  refine j_top (hC5.2.2.2.1) ?_
                  refine j_isubN h 201 rfl (by omega) dX11_nextToken_200 ?_
                  refine j_bipush h 203 rfl (nI 9) (by decide) dX11_nextToken_201 ?_
                  refine j_icmp_leN h 212 206 (by omega) (by omega) dX11_nextToken_203 (by decide) rfl (fun c_203 => ?_) (fun c_203 => ?_)
                  · skip
                    refine j_aload_n h 213 rfl rfl dX11_nextToken_212 ?_
                    refine j_getL h 216 rfl glX11_150 sh_93 rfl dX11_nextToken_213 ?_
                    refine j_topL hT5 ?_
                    exact K216 _ (by first | rfl | exact wt_3 c_203)
                  · skip
                    refine j_ldc2 h 209 rfl (-4) cnX11_158 dX11_nextToken_206 ?_
                    refine j_goto h 216 dX11_nextToken_209 (by decide) ?_
                    exact K216 _ (by first | rfl | exact wt_3 c_203)
                · skip
                  refine j_aload_n h 113 rfl rfl dX11_nextToken_112 ?_
                  refine j_getR h 116 rfl glX11_54 sh_93 rfl dX11_nextToken_113 ?_
                  refine j_aload_n h 117 rfl rfl dX11_nextToken_116 ?_
                  refine j_getI h 120 rfl glX11_136 sh_93 rfl dX11_nextToken_117 ?_
                  refine j_top (hC5.2.2.1) ?_
                  refine j_iald h 121 rfl sh_99 _ rfl (by omega) rfl dX11_nextToken_120 ?_
                  refine j_top (congrFun (hC5.1 99 (by decide)) _) ?_
                  refine j_bipush h 123 rfl (nI 97) (by decide) dX11_nextToken_121 ?_
                  refine j_bipush h 125 rfl (nI 122) (by decide) dX11_nextToken_123 ?_
                  refine j_callSI h 128 rfl lkX11_120 rfl (t_X11_in _ _ _ _) rfl rfl rfl dX11_nextToken_125 ?_
                  refine j_if_eqB h 191 131 dX11_nextToken_128 (by decide) rfl (fun c_128 => ?_) (fun c_128 => ?_)
                  · skip
                    have hE : tkE (M 99) L q = e := hr5.symm.trans (rn_stop (fun z => by first | omega | exact c_128 (of_decide_eq_true z.2)) _)
                    refine j_aload_n h 192 rfl rfl dX11_nextToken_191 ?_
                    have K216 : ∀ t, t = wtS (M 99) q (e - q) → J X 216 [some (.ref 93)] [.long t, .ref 93] M5 := by
                      intro t ht
                      subst ht
                      refine j_putL h 219 rfl plX11_150 sh_93 rfl rfl dX11_nextToken_216 ?_
                      refine j_goto h 394 dX11_nextToken_219 (by decide) ?_
                      first
                        | exact K394 _ (tkP_of hs (by rw [tkE_0 (by omega)]; exact tkC_pL hC) (by rw [tokS_0 c_64]; exact pL_t) (fun z => absurd z (by omega)))
                        | exact K394 _ (tkP_of hs (by rw [hE]; exact tkC_pL hC5) (by rw [tokS_1 c_64 hl9, hE]; exact pL_t) (fun _ z => absurd z (isL_D hl9)))
                        | exact K394 _ (tkP_of hs (by rw [hE]; exact tkC_pL hC5) (by rw [tokS_2 c_64 hl9 hd9, hE]; exact pL_t) (fun _ _ => by rw [hE]))
                        | exact K394 _ (tkP_of hs (by rw [tkE_1 (by omega) hl9 hd9]; exact tkC_q (tkC_pL hC)) (by rw [tokS_3 c_64 hl9 hd9]; exact tkT_m pL_t (by decide) (by decide)) (fun _ z => absurd z hd9))
                    refine j_aload_n h 193 rfl rfl dX11_nextToken_192 ?_
                    refine j_getI h 196 rfl glX11_136 sh_93 rfl dX11_nextToken_193 ?_
                    refine j_top (hC5.2.2.1) ?_
                    refine j_aload_n h 197 rfl rfl dX11_nextToken_196 ?_
                    refine j_getI h 200 rfl glX11_139 sh_93 rfl dX11_nextToken_197 ?_
                    refine j_top (hC5.2.2.2.1) ?_
                    refine j_isubN h 201 rfl (by omega) dX11_nextToken_200 ?_
                    refine j_bipush h 203 rfl (nI 9) (by decide) dX11_nextToken_201 ?_
                    refine j_icmp_leN h 212 206 (by omega) (by omega) dX11_nextToken_203 (by decide) rfl (fun c_203 => ?_) (fun c_203 => ?_)
                    · skip
                      refine j_aload_n h 213 rfl rfl dX11_nextToken_212 ?_
                      refine j_getL h 216 rfl glX11_150 sh_93 rfl dX11_nextToken_213 ?_
                      refine j_topL hT5 ?_
                      exact K216 _ (by first | rfl | exact wt_3 c_203)
                    · skip
                      refine j_ldc2 h 209 rfl (-4) cnX11_158 dX11_nextToken_206 ?_
                      refine j_goto h 216 dX11_nextToken_209 (by decide) ?_
                      exact K216 _ (by first | rfl | exact wt_3 c_203)
                  · skip
                    have K175 : ∀ t, t = wtS (M 99) q (e + 1 - q) → J X 175 [some (.ref 93)] [.long t, .ref 93] M5 := by
                      intro t ht
                      refine j_putL h 178 rfl plX11_150 sh_93 rfl rfl dX11_nextToken_175 ?_
                      refine j_aload_n h 179 rfl rfl dX11_nextToken_178 ?_
                      refine j_dup h 180 rfl rfl dX11_nextToken_179 ?_
                      refine j_getI h 183 rfl glX11_136 sh_93 rfl dX11_nextToken_180 ?_
                      refine j_top ((pL_k (Or.inr (by decide))).trans hC5.2.2.1) ?_
                      refine j_iconst h 184 rfl (nI 1) (by decide) dX11_nextToken_183 ?_
                      refine j_iaddN h 185 rfl dX11_nextToken_184 ?_
                      refine j_putI h 188 rfl plX11_136 sh_93 rfl rfl rfl rfl dX11_nextToken_185 ?_
                      refine j_goto h 101 dX11_nextToken_188 (by decide) ?_
                      exact ihn2 (e + 1) _ (by omega) (by omega) (by omega) ((rn_go c_109 (decide_eq_true c_128)).symm.trans hr5) (tkC_q (tkC_pL hC5)) (tkT_m (by rw [ht]; exact pL_t) (by decide) (by decide))
                    refine j_aload_n h 132 rfl rfl dX11_nextToken_131 ?_
                    refine j_aload_n h 133 rfl rfl dX11_nextToken_132 ?_
                    refine j_getI h 136 rfl glX11_136 sh_93 rfl dX11_nextToken_133 ?_
                    refine j_top (hC5.2.2.1) ?_
                    refine j_aload_n h 137 rfl rfl dX11_nextToken_136 ?_
                    refine j_getI h 140 rfl glX11_139 sh_93 rfl dX11_nextToken_137 ?_
                    refine j_top (hC5.2.2.2.1) ?_
                    refine j_isubN h 141 rfl (by omega) dX11_nextToken_140 ?_
                    refine j_bipush h 143 rfl (nI 9) (by decide) dX11_nextToken_141 ?_
                    refine j_icmp_geN h 172 146 (by omega) (by omega) dX11_nextToken_143 (by decide) rfl (fun c_143 => ?_) (fun c_143 => ?_)
                    · skip
                      refine j_ldc2 h 175 rfl (-4) cnX11_158 dX11_nextToken_172 ?_
                      exact K175 _ (by first | exact wt_1 hqe c_143 | exact wt_2 hqe c_143)
                    · skip
                      refine j_ldc2 h 149 rfl (27) cnX11_154 dX11_nextToken_146 ?_
                      refine j_aload_n h 150 rfl rfl dX11_nextToken_149 ?_
                      refine j_getL h 153 rfl glX11_150 sh_93 rfl dX11_nextToken_150 ?_
                      refine j_topL hT5 ?_
                      refine j_lmul h 154 rfl dX11_nextToken_153 ?_
                      refine j_aload_n h 155 rfl rfl dX11_nextToken_154 ?_
                      refine j_getR h 158 rfl glX11_54 sh_93 rfl dX11_nextToken_155 ?_
                      refine j_aload_n h 159 rfl rfl dX11_nextToken_158 ?_
                      refine j_getI h 162 rfl glX11_136 sh_93 rfl dX11_nextToken_159 ?_
                      refine j_top (hC5.2.2.1) ?_
                      refine j_iald h 163 rfl sh_99 _ rfl (by omega) rfl dX11_nextToken_162 ?_
                      refine j_top (congrFun (hC5.1 99 (by decide)) _) ?_
                      refine j_i2l h 164 rfl dX11_nextToken_163 ?_
                      refine j_ladd h 165 rfl dX11_nextToken_164 ?_
                      refine j_ldc2 h 168 rfl (96) cnX11_156 dX11_nextToken_165 ?_
                      refine j_lsub h 169 rfl dX11_nextToken_168 ?_
                      refine j_goto h 175 dX11_nextToken_169 (by decide) ?_
                      exact K175 _ (by first | exact wt_1 hqe c_143 | exact wt_2 hqe c_143)
            exact L2 (L - q + 1) q _ (by omega) (by omega) (Nat.le_refl q) (tkE_L (by omega) hl9).symm (tkC_pL hC) (by rw [Nat.sub_self]; exact pL_t)
        · skip
          refine j_aload_n h 68 rfl rfl dX11_nextToken_67 ?_
          refine j_ldc2 h 71 rfl (-2) cnX11_148 dX11_nextToken_68 ?_
          refine j_putL h 74 rfl plX11_150 sh_93 rfl rfl dX11_nextToken_71 ?_
          refine j_goto h 394 dX11_nextToken_74 (by decide) ?_
          first
            | exact K394 _ (tkP_of hs (by rw [tkE_0 (by omega)]; exact tkC_pL hC) (by rw [tokS_0 c_64]; exact pL_t) (fun z => absurd z (by omega)))
            | exact K394 _ (tkP_of hs (by rw [hE]; exact tkC_pL hC5) (by rw [tokS_1 c_64 hl9, hE]; exact pL_t) (fun _ z => absurd z (isL_D hl9)))
            | exact K394 _ (tkP_of hs (by rw [hE]; exact tkC_pL hC5) (by rw [tokS_2 c_64 hl9 hd9, hE]; exact pL_t) (fun _ _ => by rw [hE]))
            | exact K394 _ (tkP_of hs (by rw [tkE_1 (by omega) hl9 hd9]; exact tkC_q (tkC_pL hC)) (by rw [tokS_3 c_64 hl9 hd9]; exact tkT_m pL_t (by decide) (by decide)) (fun _ z => absurd z hd9))
      refine j_getI h 4 rfl glX11_136 sh_93 rfl dX11_nextToken_1 ?_
      refine j_top (hA.2.2) ?_
      refine j_aload_n h 5 rfl rfl dX11_nextToken_4 ?_
      refine j_getI h 8 rfl glX11_131 sh_93 rfl dX11_nextToken_5 ?_
      refine j_top ((hA.2.1 15 (by decide)).trans eL) ?_
      refine j_icmp_geN h 38 11 (by omega) (by omega) dX11_nextToken_8 (by decide) rfl (fun c_8 => ?_) (fun c_8 => ?_)
      · skip
        exact K38 (sk_st (fun z => by first | omega | exact c_22 z.2))
      · skip
        refine j_aload_n h 12 rfl rfl dX11_nextToken_11 ?_
        refine j_getR h 15 rfl glX11_54 sh_93 rfl dX11_nextToken_12 ?_
        refine j_aload_n h 16 rfl rfl dX11_nextToken_15 ?_
        refine j_getI h 19 rfl glX11_136 sh_93 rfl dX11_nextToken_16 ?_
        refine j_top (hA.2.2) ?_
        refine j_iald h 20 rfl sh_99 _ rfl (by omega) rfl dX11_nextToken_19 ?_
        refine j_top (congrFun (hA.1 99 (by decide)) _) ?_
        refine j_bipush h 22 rfl (nI 32) (by decide) dX11_nextToken_20 ?_
        refine j_icmp_ne h 38 25 dX11_nextToken_22 (by decide) rfl (fun c_22 => ?_) (fun c_22 => ?_)
        · skip
          exact K38 (sk_st (fun z => by first | omega | exact c_22 z.2))
        · skip
          refine j_aload_n h 26 rfl rfl dX11_nextToken_25 ?_
          refine j_dup h 27 rfl rfl dX11_nextToken_26 ?_
          refine j_getI h 30 rfl glX11_136 sh_93 rfl dX11_nextToken_27 ?_
          refine j_top (hA.2.2) ?_
          refine j_iconst h 31 rfl (nI 1) (by decide) dX11_nextToken_30 ?_
          refine j_iaddN h 32 rfl dX11_nextToken_31 ?_
          refine j_putI h 35 rfl plX11_136 sh_93 rfl rfl rfl rfl dX11_nextToken_32 ?_
          refine j_goto h 0 dX11_nextToken_35 (by decide) ?_
          exact ihn1 (q + 1) _ (by omega) (by omega) ((sk_go c_8 c_22).trans hsk) ⟨fun a ha => by rw [mu_f ha]; exact hA.1 a ha, fun j hj => by rw [mu_k hj]; exact hA.2.1 j hj, mu_s⟩
  exact L1 (L - p + 1) p M (by omega) hp rfl ⟨fun _ _ => rfl, fun _ _ => rfl, ep⟩
