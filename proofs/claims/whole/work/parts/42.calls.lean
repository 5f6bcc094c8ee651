/-! what holds between calls; each call beside the model's -/
def IQ (M : hM) (w g : Nat) (rm hr wt du : Nat → Nat) : Prop := caO M ∧ M 99 = M 2 ∧ mH M ∧ mT M ∧ mW M w ∧ mR M g rm hr ∧ flE M wt du ∧ mF M wt du
def tx (M : hM) (L : Nat) : Prop := L ≤ 200 ∧ M 1 1 = nI L ∧ M 93 15 = nI L
def Inv (M : hM) : Prop := (∃ L, tx M L) ∧ ∃ (w g : Nat) (rm hr wt du : Nat → Nat), IQ M w g rm hr wt du
def Two (yc ym : hMd) (dc dm : Nat) (as : List Value) : Prop := ∀ M, Inv M → ∃ P1 : Int32 → hM → Prop, Ct dc yc (.ref 0 :: as) M (pX P1) ∧ ∀ x M1, P1 x M1 → ∃ P2 : Int32 → hM → Prop, Ct dm ym (.ref 93 :: as) M1 (pX P2) ∧ ∀ y M2, P2 y M2 → x = y ∧ Inv M2
theorem caO_cg {M N : hM} (h : caO M) (h0 : N 0 = M 0) (h78 : N 78 = M 78) (h14 : ∀ a, 14 ≤ a → a < 29 → N a = M a) (h40 : ∀ a, 40 ≤ a → a < 59 → N a = M a) : caO N := by
  refine ⟨fun z => ?_, fun z => ?_⟩
  · rw [h0] at z ⊢
    exact ⟨(h.1 z).1, toldOk_cg h14 h40 (h.1 z).2⟩
  · rw [h78] at z
    exact bst_cg h14 h78 (h.2 z)
theorem mW_cg {M N : hM} {w : Nat} (h : mW M w) (e1 : N 93 35 = M 93 35) (e2 : N 79 4 = M 79 4) (hc : ∀ a, (80 ≤ a ∧ a < 84) ∨ (110 ≤ a ∧ a < 114) → N a = M a) : mW N w := by
  obtain ⟨a, b, c, d⟩ := h
  refine ⟨a, e1.trans b, e2.trans c, fun i hi => ?_⟩
  rw [hc 80 (by omega), hc 81 (by omega), hc 82 (by omega), hc 83 (by omega), hc 110 (by omega), hc 111 (by omega), hc 112 (by omega), hc 113 (by omega)]
  exact d i hi
theorem mR_cg {M N : hM} {g : Nat} {rm hr : Nat → Nat} (h : mR M g rm hr) (e1 : N 93 40 = M 93 40) (e2 : N 84 3 = M 84 3) (hc : ∀ a, (85 ≤ a ∧ a < 88) ∨ (114 ≤ a ∧ a < 117) → N a = M a) : mR N g rm hr := by
  obtain ⟨a, b, c, d⟩ := h
  refine ⟨a, e1.trans b, e2.trans c, fun i hi => ?_⟩
  rw [hc 85 (by omega), hc 86 (by omega), hc 87 (by omega), hc 114 (by omega), hc 115 (by omega), hc 116 (by omega)]
  exact d i hi
theorem mF_cg {M N : hM} {wt du : Nat → Nat} (h : mF M wt du) (e1 : N 117 = M 117) (e2 : N 118 = M 118) : mF N wt du := fun f hf => by rw [e1, e2]; exact h f hf
theorem IQ_cg {M N : hM} {w g : Nat} {rm hr wt du : Nat → Nat} (h : IQ M w g rm hr wt du) (hca : caO N) (e99 : N 99 = N 2) (h14 : ∀ a, 14 ≤ a → a < 29 → N a = M a) (hc : ∀ a, (80 ≤ a ∧ a < 84) ∨ (85 ≤ a ∧ a < 88) ∨ a = 89 ∨ a = 90 ∨ (94 ≤ a ∧ a < 99) ∨ (110 ≤ a ∧ a < 119) → N a = M a) (e79 : N 79 4 = M 79 4) (e84 : N 84 3 = M 84 3) (h93 : ∀ j, j < 15 ∨ j = 35 ∨ j = 40 → N 93 j = M 93 j) : IQ N w g rm hr wt du := by
  obtain ⟨-, -, a3, ⟨tb, t1, t2⟩, a5, a6, a7, a8⟩ := h
  exact ⟨hca, e99, mH_cg a3 h14 (fun a x y => hc a (by omega)) (fun j hj => h93 j (by omega)), ⟨tb, t1, (h93 0 (by omega)).trans t2⟩, mW_cg a5 (h93 35 (by omega)) e79 (fun a ha => hc a (by omega)), mR_cg a6 (h93 40 (by omega)) e84 (fun a ha => hc a (by omega)), flE_cg a7 (hc 89 (by omega)) (hc 90 (by omega)), mF_cg a8 (hc 117 (by omega)) (hc 118 (by omega))⟩
theorem IQ_C {M N : hM} {w g : Nat} {rm hr wt du : Nat → Nat} (h : IQ M w g rm hr wt du) (f : frC M N) : IQ N w g rm hr wt du := by
  obtain ⟨f1, f2, f3, f4⟩ := f
  exact IQ_cg h f4 (by rw [f1 99 (by unfold pers; omega), f1 2 (by unfold pers; omega)]; exact h.2.1) (fun a x y => f1 a (by unfold pers; omega)) (fun a ha => f1 a (by unfold pers; omega)) f2 f3 (fun j _ => by rw [f1 93 (by unfold pers; omega)])
theorem tx_C {M N : hM} {L : Nat} (h : tx M L) (f : frC M N) : tx N L := by
  obtain ⟨f1, -⟩ := f
  exact ⟨h.1, by rw [f1 1 (by unfold pers; omega)]; exact h.2.1, by rw [f1 93 (by unfold pers; omega)]; exact h.2.2⟩
theorem IQ_M {M N : hM} {w g : Nat} {rm hr wt du : Nat → Nat} (h : IQ M w g rm hr wt du) (f : frM M N) : IQ N w g rm hr wt du := by
  obtain ⟨f1, f2⟩ := f
  exact IQ_cg h (caO_cg h.1 (f1 0 (by omega)) (f1 78 (by omega)) (fun a x y => f1 a (by omega)) (fun a x y => f1 a (by omega))) (by rw [f1 99 (by omega), f1 2 (by omega)]; exact h.2.1) (fun a x y => f1 a (by omega)) (fun a ha => f1 a (by omega)) (by rw [f1 79 (by omega)]) (by rw [f1 84 (by omega)]) (fun j hj => f2 j (by omega))
theorem tx_M {M N : hM} {L : Nat} (h : tx M L) (f : frM M N) : tx N L := by
  obtain ⟨f1, f2⟩ := f
  exact ⟨h.1, by rw [f1 1 (by omega)]; exact h.2.1, by rw [f2 15 (by decide)]; exact h.2.2⟩
theorem Inv_of {M N K : hM} {L w g : Nat} {rm hr wt du : Nat → Nat} (ht : tx M L) (h : IQ M w g rm hr wt du) (f : frC M N) (f2 : frM N K) : Inv K := ⟨⟨L, tx_M (tx_C ht f) f2⟩, w, g, rm, hr, wt, du, IQ_M (IQ_C h f) f2⟩
/-! the answers, over cells that a call leaves -/
theorem cg14 {M N : hM} (f : frC M N) : ∀ a, 14 ≤ a → a < 29 → N a = M a := fun a x y => f.1 a (by unfold pers; omega)
theorem cgP {M N : hM} (f : frC M N) : planOf N = planOf M := planOf_cg (cg14 f)
theorem ite_cg {α : Type} {P Q : Prop} [Decidable P] [Decidable Q] {a b c d : α} (h : P ↔ Q) (e1 : a = c) (e2 : b = d) : (if P then a else b) = if Q then c else d := by
  by_cases q : P
  · rw [if_pos q, if_pos (h.mp q), e1]
  · rw [if_neg q, if_neg (fun z => q (h.mpr z)), e2]
theorem tld_C {M N : hM} (f : frC M N) (x : Int32) : tldP N x ↔ tldP M x := by
  unfold tldP
  rw [cg14 f 15 (by decide) (by decide)]
theorem cg_room {M N : hM} (f : frC M N) (x w : Int32) : sRoom N x w = sRoom M x w := by
  have h := cg14 f
  unfold sRoom
  exact ite_cg (tld_C f x) (by unfold rmV; rw [h 16 (by decide) (by decide), h 17 (by decide) (by decide), h 18 (by decide) (by decide), h 19 (by decide) (by decide), h 20 (by decide) (by decide), h 21 (by decide) (by decide), h 22 (by decide) (by decide)]) rfl
theorem cg_door {M N : hM} (f : frC M N) (a b : Int32) : sDoor N a b = sDoor M a b := by
  unfold sDoor
  by_cases q : inP a (nI 0) (nI 4) ∧ inP b (nI 0) (nI 4) ∧ ¬ a = b
  · rw [if_pos q, if_pos q]
    obtain ⟨k, hk, e⟩ := (in_nat (by decide)).mp q.1
    have e2 : tn a = k := by rw [e, tn_nI (by omega)]
    rw [cg14 f (24 + tn a) (by omega) (by omega)]
  · rw [if_neg q, if_neg q]
theorem cg_out {M N : hM} (f : frC M N) (a : Int32) : sOut N a = sOut M a := by
  unfold sOut
  rw [cg14 f 14 (by decide) (by decide)]
theorem cg_warm {M N : hM} (f : frC M N) (x y z : Int32) : sWarm N x y z = sWarm M x y z := by
  unfold sWarm
  exact ite_cg (and_congr (tld_C f x) Iff.rfl) (by rw [cgP f]) rfl
theorem cg_night {M N : hM} (f : frC M N) (x : Int32) : sNight N x = sNight M x := by
  unfold sNight
  exact ite_cg Iff.rfl (by rw [cgP f]) (ite_cg (tld_C f x) (by rw [cgP f]) rfl)
theorem cg_above {M N : hM} (f : frC M N) (x z : Int32) : sAbove N x z = sAbove M x z := by
  unfold sAbove
  exact ite_cg (tld_C f x) (by rw [cgP f]) rfl
theorem cg_costs {M N : hM} (f : frC M N) (x : Int32) : sCosts N x = sCosts M x := by
  unfold sCosts
  exact ite_cg (tld_C f x) (by rw [cgP f]) rfl
theorem cg_clock {M N : hM} (f : frC M N) (x : Int32) : sClock N x = sClock M x := by
  unfold sClock ckV clkP glsP
  rw [cgP f]
theorem wkE_C {M N : hM} (f : frC M N) : wkE M N := fun a ha => f.1 a (by unfold pers; omega)
theorem wksP_cg {M N : hM} (f : frC M N) (set : Int32) (w : Nat) : wksP N set w = wksP M set w := by
  funext a j
  unfold wksP
  rw [lkS_cg (wkE_C f), snS_cg (wkE_C f), cgP f]
theorem cg_works {M N : hM} (f : frC M N) (n : Nat) (s x : Int32) : sWorks N n s x = sWorks M n s x := by
  have e1 : wkC N n = wkC M n := funext fun k => by unfold wkC; rw [f.1 81 (by unfold pers; omega)]
  have e2 : wkF N n = wkF M n := funext fun k => by unfold wkF; rw [wksP_cg f]
  unfold sWorks
  rw [e1, e2]
theorem lawP_cg {M N : hM} (f : frC M N) (g t : Nat) : lawP N g t = lawP M g t := by
  funext a j
  unfold lawP
  rw [cgP f]
theorem cg_learnt {M N : hM} (f : frC M N) (g : Nat) (rm hr : Nat → Nat) (t x : Int32) : sLearnt N g rm hr t x = sLearnt M g rm hr t x := by
  have e : (fun k => hlB (lawP N (5 * (k / 9)) (5 * (k % 9))) t rm hr (N 87) g) = fun k => hlB (lawP M (5 * (k / 9)) (5 * (k % 9))) t rm hr (M 87) g := funext fun k => by rw [lawP_cg f, f.1 87 (by unfold pers; omega)]
  unfold sLearnt lnH
  rw [e]
theorem cg_count {M N : hM} (f : frC M N) (L w g : Nat) (wt : Nat → Nat) (x : Int32) : sCount N L w g wt x = sCount M L w g wt x := by
  unfold sCount
  rw [cg14 f 15 (by decide) (by decide), cg14 f 14 (by decide) (by decide)]
theorem mH_out {M : hM} (h : mH M) (x : Int32) : (if inP x (nI 0) (nI 95) then mSky M (tn x) else -2) = sOut M x := by
  unfold sOut
  rw [sky_m h (fun _ _ _ => rfl)]
set_option maxRecDepth 100000 in
set_option maxHeartbeats 4000000 in
theorem t_outX (M : hM) (x : Int32) (hH : mH M) : Ct 2 mX11_out [.ref 93, .int x] M (pX (fun y M2 => y = sOut M x ∧ frM M M2)) := by
  refine ct_of (lv := [some (.ref 93), some (.int x)]) (by decide +kernel) (fun _ _ hq => hq) rfl (fun _ => Nat.le_of_ble_eq_true rfl) (fun X h hr => ?_)
  refine j_iload_n h 1 rfl rfl dX11_out_0 ?_
  refine j_iconst h 2 rfl (nI 0) (by decide) dX11_out_1 ?_
  refine j_bipush h 4 rfl (nI 95) (by decide) dX11_out_2 ?_
  refine j_callSI h 7 rfl lkX11_120 rfl (t_X11_in _ _ _ _) rfl rfl rfl dX11_out_4 ?_
  refine j_if_eqB h 18 10 dX11_out_7 (by decide) rfl (fun c_7 => ?_) (fun c_7 => ?_)
  · skip
    refine j_bipush h 20 rfl (-2) (by decide) dX11_out_18 ?_
    exact j_ret h hr rfl dX11_out_20 ⟨_, rfl, by unfold sOut; first | (rw [if_pos c_7, tn_nI (by omega)]; exact sky_m hH (fun _ _ _ => rfl) _) | rw [if_neg c_7], frM_r⟩
  · skip
    obtain ⟨k, hk, rfl⟩ := (in_nat (by decide)).mp c_7
    refine j_aload_n h 11 rfl rfl dX11_out_10 ?_
    refine j_iload_n h 12 rfl rfl dX11_out_11 ?_
    refine j_callVI h 15 rfl lkX11_225 sh_93 rfl rfl (t_X11_outAt _ _ (by omega)) rfl rfl rfl dX11_out_12 ?_
    refine j_goto h 20 dX11_out_15 (by decide) ?_
    exact j_ret h hr rfl dX11_out_20 ⟨_, rfl, by unfold sOut; first | (rw [if_pos c_7, tn_nI (by omega)]; exact sky_m hH (fun _ _ _ => rfl) _) | rw [if_neg c_7], frM_r⟩
theorem two_room (x z : Int32) : Two mX10_room mX11_room 2 3 [.int x, .int z] := fun M hI => by
  obtain ⟨⟨L, hT⟩, w, g, rm, hr, wt, du, hQ⟩ := hI
  have hQ0 := hQ
  obtain ⟨a1, a2, a3, ⟨tb, htb, etb⟩, a5, a6, a7, a8⟩ := hQ
  refine ⟨_, t_X10_room M x z a1, fun x9 M1 h1 => ?_⟩
  obtain ⟨e1, f1⟩ := h1
  have hQ1 := IQ_C hQ0 f1
  have hT1 := tx_C hT f1
  obtain ⟨b1, b2, b3, ⟨tb1, htb1, etb1⟩, b5, b6, b7, b8⟩ := hQ1
  refine ⟨_, t_X11_room M1 x z b3, fun y9 M2 h2 => ?_⟩
  obtain ⟨e2, f2⟩ := h2
  exact ⟨by rw [e1, e2]; exact (cg_room f1 x z).symm, Inv_of hT hQ0 f1 f2⟩
theorem two_door (x z : Int32) : Two mX10_door mX11_door 3 2 [.int x, .int z] := fun M hI => by
  obtain ⟨⟨L, hT⟩, w, g, rm, hr, wt, du, hQ⟩ := hI
  have hQ0 := hQ
  obtain ⟨a1, a2, a3, ⟨tb, htb, etb⟩, a5, a6, a7, a8⟩ := hQ
  refine ⟨_, t_X10_door M x z a1, fun x9 M1 h1 => ?_⟩
  obtain ⟨e1, f1⟩ := h1
  have hQ1 := IQ_C hQ0 f1
  have hT1 := tx_C hT f1
  obtain ⟨b1, b2, b3, ⟨tb1, htb1, etb1⟩, b5, b6, b7, b8⟩ := hQ1
  refine ⟨_, t_X11_door M1 x z b3, fun y9 M2 h2 => ?_⟩
  obtain ⟨e2, f2⟩ := h2
  exact ⟨by rw [e1, e2]; exact (cg_door f1 x z).symm, Inv_of hT hQ0 f1 f2⟩
theorem two_warm (x y z : Int32) : Two mX10_warm mX11_warm 7 5 [.int x, .int y, .int z] := fun M hI => by
  obtain ⟨⟨L, hT⟩, w, g, rm, hr, wt, du, hQ⟩ := hI
  have hQ0 := hQ
  obtain ⟨a1, a2, a3, ⟨tb, htb, etb⟩, a5, a6, a7, a8⟩ := hQ
  refine ⟨_, t_X10_warm M x y z a1, fun x9 M1 h1 => ?_⟩
  obtain ⟨e1, f1⟩ := h1
  have hQ1 := IQ_C hQ0 f1
  have hT1 := tx_C hT f1
  obtain ⟨b1, b2, b3, ⟨tb1, htb1, etb1⟩, b5, b6, b7, b8⟩ := hQ1
  refine ⟨_, t_X11_warm M1 x y z b3 w b5.1 b5.2.1, fun y9 M2 h2 => ?_⟩
  obtain ⟨e2, f2⟩ := h2
  exact ⟨by rw [e1, e2]; exact (cg_warm f1 x y z).symm, Inv_of hT hQ0 f1 f2⟩
theorem two_night (x : Int32) : Two mX10_night mX11_night 7 6 [.int x] := fun M hI => by
  obtain ⟨⟨L, hT⟩, w, g, rm, hr, wt, du, hQ⟩ := hI
  have hQ0 := hQ
  obtain ⟨a1, a2, a3, ⟨tb, htb, etb⟩, a5, a6, a7, a8⟩ := hQ
  refine ⟨_, t_X10_night M x a1, fun x9 M1 h1 => ?_⟩
  obtain ⟨e1, f1⟩ := h1
  have hQ1 := IQ_C hQ0 f1
  have hT1 := tx_C hT f1
  obtain ⟨b1, b2, b3, ⟨tb1, htb1, etb1⟩, b5, b6, b7, b8⟩ := hQ1
  refine ⟨_, t_X11_night M1 x b3 w b5.1 b5.2.1, fun y9 M2 h2 => ?_⟩
  obtain ⟨e2, f2⟩ := h2
  exact ⟨by rw [e1, e2]; exact (cg_night f1 x).symm, Inv_of hT hQ0 f1 f2⟩
theorem two_above (x z : Int32) : Two mX10_above mX11_above 7 5 [.int x, .int z] := fun M hI => by
  obtain ⟨⟨L, hT⟩, w, g, rm, hr, wt, du, hQ⟩ := hI
  have hQ0 := hQ
  obtain ⟨a1, a2, a3, ⟨tb, htb, etb⟩, a5, a6, a7, a8⟩ := hQ
  refine ⟨_, t_X10_above M x z a1, fun x9 M1 h1 => ?_⟩
  obtain ⟨e1, f1⟩ := h1
  have hQ1 := IQ_C hQ0 f1
  have hT1 := tx_C hT f1
  obtain ⟨b1, b2, b3, ⟨tb1, htb1, etb1⟩, b5, b6, b7, b8⟩ := hQ1
  refine ⟨_, t_X11_above M1 x z b3 w b5.1 b5.2.1, fun y9 M2 h2 => ?_⟩
  obtain ⟨e2, f2⟩ := h2
  exact ⟨by rw [e1, e2]; exact (cg_above f1 x z).symm, Inv_of hT hQ0 f1 f2⟩
theorem two_costs (x : Int32) : Two mX10_costs mX11_costs 7 6 [.int x] := fun M hI => by
  obtain ⟨⟨L, hT⟩, w, g, rm, hr, wt, du, hQ⟩ := hI
  have hQ0 := hQ
  obtain ⟨a1, a2, a3, ⟨tb, htb, etb⟩, a5, a6, a7, a8⟩ := hQ
  refine ⟨_, t_X10_costs M x a1, fun x9 M1 h1 => ?_⟩
  obtain ⟨e1, f1⟩ := h1
  have hQ1 := IQ_C hQ0 f1
  have hT1 := tx_C hT f1
  obtain ⟨b1, b2, b3, ⟨tb1, htb1, etb1⟩, b5, b6, b7, b8⟩ := hQ1
  refine ⟨_, t_X11_costs M1 x b3 w b5.1 b5.2.1, fun y9 M2 h2 => ?_⟩
  obtain ⟨e2, f2⟩ := h2
  exact ⟨by rw [e1, e2]; exact (cg_costs f1 x).symm, Inv_of hT hQ0 f1 f2⟩
theorem two_clock (x : Int32) : Two mX10_clock mX11_clock 7 7 [.int x] := fun M hI => by
  obtain ⟨⟨L, hT⟩, w, g, rm, hr, wt, du, hQ⟩ := hI
  have hQ0 := hQ
  obtain ⟨a1, a2, a3, ⟨tb, htb, etb⟩, a5, a6, a7, a8⟩ := hQ
  refine ⟨_, t_X10_clock M x a1, fun x9 M1 h1 => ?_⟩
  obtain ⟨e1, f1⟩ := h1
  have hQ1 := IQ_C hQ0 f1
  have hT1 := tx_C hT f1
  obtain ⟨b1, b2, b3, ⟨tb1, htb1, etb1⟩, b5, b6, b7, b8⟩ := hQ1
  refine ⟨_, t_X11_clock M1 x b3 w b5.1 b5.2.1, fun y9 M2 h2 => ?_⟩
  obtain ⟨e2, f2⟩ := h2
  exact ⟨by rw [e1, e2]; exact (cg_clock f1 x).symm, Inv_of hT hQ0 f1 f2⟩
theorem two_works (s x : Int32) : Two mX10_works mX11_works 7 6 [.int s, .int x] := fun M hI => by
  obtain ⟨⟨L, hT⟩, w, g, rm, hr, wt, du, hQ⟩ := hI
  have hQ0 := hQ
  obtain ⟨a1, a2, a3, ⟨tb, htb, etb⟩, a5, a6, a7, a8⟩ := hQ
  refine ⟨_, t_X10_works M s x a1 w a5.1 a5.2.2.1 (fun i hi => (a5.2.2.2 i hi).2.2.2.2), fun x9 M1 h1 => ?_⟩
  obtain ⟨e1, f1⟩ := h1
  have hQ1 := IQ_C hQ0 f1
  have hT1 := tx_C hT f1
  obtain ⟨b1, b2, b3, ⟨tb1, htb1, etb1⟩, b5, b6, b7, b8⟩ := hQ1
  refine ⟨_, t_X11_works M1 s x b3 w b5, fun y9 M2 h2 => ?_⟩
  obtain ⟨e2, f2⟩ := h2
  exact ⟨by rw [e1, e2]; exact (cg_works f1 w s x).symm, Inv_of hT hQ0 f1 f2⟩
theorem two_learnt (t x : Int32) : Two mX10_learnt mX11_learnt 7 5 [.int t, .int x] := fun M hI => by
  obtain ⟨⟨L, hT⟩, w, g, rm, hr, wt, du, hQ⟩ := hI
  have hQ0 := hQ
  obtain ⟨a1, a2, a3, ⟨tb, htb, etb⟩, a5, a6, a7, a8⟩ := hQ
  refine ⟨_, t_X10_learnt M t x a1 g rm hr a6.1 a6.2.2.1 (fun i hi => (a6.2.2.2 i hi).2.2.2), fun x9 M1 h1 => ?_⟩
  obtain ⟨e1, f1⟩ := h1
  have hQ1 := IQ_C hQ0 f1
  have hT1 := tx_C hT f1
  obtain ⟨b1, b2, b3, ⟨tb1, htb1, etb1⟩, b5, b6, b7, b8⟩ := hQ1
  refine ⟨_, t_X11_learnt M1 t x b3 w b5.1 b5.2.1 g rm hr b6, fun y9 M2 h2 => ?_⟩
  obtain ⟨e2, f2⟩ := h2
  exact ⟨by rw [e1, e2]; exact (cg_learnt f1 g rm hr t x).symm, Inv_of hT hQ0 f1 f2⟩
theorem two_ring (x : Int32) : Two mX10_ring mX11_ring 5 3 [.int x] := fun M hI => by
  obtain ⟨⟨L, hT⟩, w, g, rm, hr, wt, du, hQ⟩ := hI
  have hQ0 := hQ
  obtain ⟨a1, a2, a3, ⟨tb, htb, etb⟩, a5, a6, a7, a8⟩ := hQ
  refine ⟨_, t_X10_ring M x a1 wt du a7, fun x9 M1 h1 => ?_⟩
  obtain ⟨e1, f1⟩ := h1
  have hQ1 := IQ_C hQ0 f1
  have hT1 := tx_C hT f1
  obtain ⟨b1, b2, b3, ⟨tb1, htb1, etb1⟩, b5, b6, b7, b8⟩ := hQ1
  refine ⟨_, t_X11_ring M1 x wt du b8, fun y9 M2 h2 => ?_⟩
  obtain ⟨e2, f2⟩ := h2
  exact ⟨by rw [e1, e2], Inv_of hT hQ0 f1 f2⟩
theorem two_street (n c w0 p x : Int32) : Two mX10_street mX11_street 5 3 [.int n, .int c, .int w0, .int p, .int x] := fun M hI => by
  obtain ⟨⟨L, hT⟩, w, g, rm, hr, wt, du, hQ⟩ := hI
  have hQ0 := hQ
  obtain ⟨a1, a2, a3, ⟨tb, htb, etb⟩, a5, a6, a7, a8⟩ := hQ
  refine ⟨_, t_X10_street M n c w0 p x a1, fun x9 M1 h1 => ?_⟩
  obtain ⟨e1, f1⟩ := h1
  have hQ1 := IQ_C hQ0 f1
  have hT1 := tx_C hT f1
  obtain ⟨b1, b2, b3, ⟨tb1, htb1, etb1⟩, b5, b6, b7, b8⟩ := hQ1
  refine ⟨_, t_X11_street M1 n c w0 p x, fun y9 M2 h2 => ?_⟩
  obtain ⟨e2, f2⟩ := h2
  exact ⟨by rw [e1, e2], Inv_of hT hQ0 f1 f2⟩
theorem two_count (x : Int32) : Two mX10_count mX11_count 3 2 [.int x] := fun M hI => by
  obtain ⟨⟨L, hT⟩, w, g, rm, hr, wt, du, hQ⟩ := hI
  have hQ0 := hQ
  obtain ⟨a1, a2, a3, ⟨tb, htb, etb⟩, a5, a6, a7, a8⟩ := hQ
  refine ⟨_, t_X10_count M x a1 L hT.2.1 w g a5.2.2.1 a6.2.2.1 wt du a7, fun x9 M1 h1 => ?_⟩
  obtain ⟨e1, f1⟩ := h1
  have hQ1 := IQ_C hQ0 f1
  have hT1 := tx_C hT f1
  obtain ⟨b1, b2, b3, ⟨tb1, htb1, etb1⟩, b5, b6, b7, b8⟩ := hQ1
  refine ⟨_, t_X11_count M1 x b3 L w g tb1 hT1.2.2 b5.2.1 b6.2.1 htb1 etb1 wt du b8, fun y9 M2 h2 => ?_⟩
  obtain ⟨e2, f2⟩ := h2
  exact ⟨by rw [e1, e2]; exact (cg_count f1 L w g wt x).symm, Inv_of hT hQ0 f1 f2⟩
theorem two_out (x : Int32) : Two mX10_out mX11_out 3 2 [.int x] := fun M hI => by
  obtain ⟨⟨L, hT⟩, w, g, rm, hr, wt, du, hQ⟩ := hI
  have hQ0 := hQ
  obtain ⟨a1, a2, a3, ⟨tb, htb, etb⟩, a5, a6, a7, a8⟩ := hQ
  refine ⟨_, t_X10_out M x a1, fun x9 M1 h1 => ?_⟩
  obtain ⟨e1, f1⟩ := h1
  have hQ1 := IQ_C hQ0 f1
  have hT1 := tx_C hT f1
  obtain ⟨b1, b2, b3, ⟨tb1, htb1, etb1⟩, b5, b6, b7, b8⟩ := hQ1
  refine ⟨_, t_outX M1 x b3, fun y9 M2 h2 => ?_⟩
  obtain ⟨e2, f2⟩ := h2
  exact ⟨by rw [e1, e2]; exact (cg_out f1 x).symm, Inv_of hT hQ0 f1 f2⟩
theorem two_erase : Two mX10_erase mX11_erase 2 1 [] := fun M hI => by
  obtain ⟨⟨L, hT⟩, w, g, rm, hr, wt, du, hQ⟩ := hI
  refine ⟨_, t_X10_erase M, fun x9 M1 h1 => ?_⟩
  obtain ⟨rfl, rfl⟩ := h1
  refine ⟨_, t_X11_erase _, fun y9 M2 h2 => ?_⟩
  obtain ⟨rfl, rfl⟩ := h2
  refine ⟨by rw [mu_a (by decide), hT.2.1, hT.2.2], ⟨0, Nat.zero_le _, by rw [mu_a (by decide), mu_s], mu_s⟩, w, g, rm, hr, wt, du, ?_⟩
  exact IQ_cg hQ (caO_cg hQ.1 (by rw [mu_f (by decide), mu_f (by decide)]) (by rw [mu_f (by decide), mu_f (by decide)]) (fun a x y => by rw [mu_f (by omega), mu_f (by omega)]) (fun a x y => by rw [mu_f (by omega), mu_f (by omega)])) (by rw [mu_f (by decide), mu_f (by decide), mu_f (by decide), mu_f (by decide)]; exact hQ.2.1) (fun a x y => by rw [mu_f (by omega), mu_f (by omega)]) (fun a ha => by rw [mu_f (by omega), mu_f (by omega)]) (by rw [mu_a (by decide), mu_a (by decide)]) (by rw [mu_a (by decide), mu_a (by decide)]) (fun j hj => by rw [mu_k (by omega), mu_a (by decide)])
theorem wrM_f {x : Int64} {L : Nat} {M : hM} {a : Nat} (h1 : a ≠ 1) (h2 : a ≠ 2) : ∀ k, wrM x L M k a = M a
  | 0 => rfl
  | k + 1 => by rw [wrM, mu_f h2, mu_f h1]; exact wrM_f h1 h2 k
theorem two_write (x : Int64) (z : Int32) : Two mX10_write mX11_write 2 2 [.long x, .int z] := fun M hI => by
  obtain ⟨⟨L, hT⟩, w, g, rm, hr, wt, du, hQ⟩ := hI
  refine ⟨_, t_X10_write M x z L hT.1 hT.2.1, fun x9 M1 h1 => ?_⟩
  rcases h1 with ⟨c1, rfl, rfl⟩ | ⟨c1, c2, rfl, rfl⟩ | ⟨c1, c2, rfl, rfl⟩
  · refine ⟨_, t_X11_write _ x z L hT.1 hT.2.2, fun y9 M2 h2 => ?_⟩
    rcases h2 with ⟨d1, rfl, rfl⟩ | ⟨d1, d2, rfl, rfl⟩ | ⟨d1, d2, rfl, rfl⟩
    · exact ⟨rfl, ⟨L, hT⟩, w, g, rm, hr, wt, du, hQ⟩
    · exact absurd d1 c1
    · exact absurd d1 c1
  · refine ⟨_, t_X11_write _ x z L hT.1 hT.2.2, fun y9 M2 h2 => ?_⟩
    rcases h2 with ⟨d1, rfl, rfl⟩ | ⟨d1, d2, rfl, rfl⟩ | ⟨d1, d2, rfl, rfl⟩
    · exact absurd c1 d1
    · exact ⟨rfl, ⟨L, hT⟩, w, g, rm, hr, wt, du, hQ⟩
    · exact absurd d2 c2
  · refine ⟨_, t_X11_write _ x z L hT.1 (by rw [wrM_f (by decide) (by decide)]; exact hT.2.2), fun y9 M2 h2 => ?_⟩
    rcases h2 with ⟨d1, rfl, rfl⟩ | ⟨d1, d2, rfl, rfl⟩ | ⟨d1, d2, rfl, rfl⟩
    · exact absurd c1 d1
    · exact absurd c2 d2
    · have hN : ∀ a, a ≠ 1 → a ≠ 2 → a ≠ 93 → a ≠ 99 → mu (wrN x L (wrM x L M (tn z)) (tn z)) 93 15 (nI (L + tn z)) a = M a := fun a p1 p2 p3 p4 => by rw [mu_f p3, wrN_f p4, wrM_f p1 p2]
      refine ⟨rfl, ⟨L + tn z, c2, by rw [mu_a (by decide), wrN_f (by decide)]; exact wrM_len hT.2.1 _, mu_s⟩, w, g, rm, hr, wt, du, ?_⟩
      exact IQ_cg hQ (caO_cg hQ.1 (hN 0 (by decide) (by decide) (by decide) (by decide)) (hN 78 (by decide) (by decide) (by decide) (by decide)) (fun a x y => hN a (by omega) (by omega) (by omega) (by omega)) (fun a x y => hN a (by omega) (by omega) (by omega) (by omega)))
        (by rw [mu_f (by decide), mu_f (by decide), wrN_f (a := 2) (by decide)]; exact wr_eq (by rw [wrM_f (by decide) (by decide)]; exact hQ.2.1) _)
        (fun a x y => hN a (by omega) (by omega) (by omega) (by omega)) (fun a ha => hN a (by omega) (by omega) (by omega) (by omega)) (by rw [hN 79 (by decide) (by decide) (by decide) (by decide)]) (by rw [hN 84 (by decide) (by decide) (by decide) (by decide)])
        (fun j hj => by rw [mu_k (by omega), wrN_f (by decide), wrM_f (by decide) (by decide)])
theorem two_fault : Two mX10_fault mX11_fault 9 7 [] := fun M hI => by
  obtain ⟨⟨L, hT⟩, w, g, rm, hr, wt, du, hQ⟩ := hI
  refine ⟨_, t_X10_fault M L hT.1 hT.2.1, fun x9 M1 h1 => ?_⟩
  obtain ⟨e1, f1, -⟩ := h1
  refine ⟨_, t_X11_fault M1 L hT.1 (by rw [f1 93 (by omega)]; exact hT.2.2), fun y9 M2 h2 => ?_⟩
  obtain ⟨e2, f2, f3⟩ := h2
  have e99 : M1 99 = M 2 := (f1 99 (by omega)).trans hQ.2.1
  have hN : ∀ a, a < 3 ∨ (13 < a ∧ a ≠ 93 ∧ a ≠ 100) → M2 a = M a := fun a ha => (f2 a (by omega) (by omega)).trans (f1 a (by omega))
  have hj : ∀ j, j < 17 ∨ (23 < j ∧ j ≠ 1019) → M2 93 j = M 93 j := fun j q => (f3 j q).trans (by rw [f1 93 (by omega)])
  refine ⟨by rw [e1, e2, e99], ⟨L, hT.1, by rw [hN 1 (by omega)]; exact hT.2.1, (hj 15 (by omega)).trans hT.2.2⟩, w, g, rm, hr, wt, du, ?_⟩
  exact IQ_cg hQ (caO_cg hQ.1 (hN 0 (by omega)) (hN 78 (by omega)) (fun a x y => hN a (by omega)) (fun a x y => hN a (by omega))) (by rw [hN 99 (by omega), hN 2 (by omega)]; exact hQ.2.1) (fun a x y => hN a (by omega)) (fun a ha => hN a (by omega)) (by rw [hN 79 (by omega)]) (by rw [hN 84 (by omega)]) (fun j q => hj j (by omega))
theorem two_week : Two mX10_week mX11_week 9 7 [] := fun M hI => by
  obtain ⟨⟨L, hT⟩, w, g, rm, hr, wt, du, hQ⟩ := hI
  refine ⟨_, t_X10_week M L hT.1 hT.2.1, fun x9 M1 h1 => ?_⟩
  unfold wkP at h1
  cases hp : (prS (M 2) L 8 0).1 with
  | some f =>
    rw [hp] at h1
    obtain ⟨e1, f1⟩ := h1
    refine ⟨_, t_X11_week M1 L hT.1 (by rw [f1 93 (by omega)]; exact hT.2.2), fun y9 M2 h2 => ?_⟩
    have e99 : M1 99 = M 2 := (f1 99 (by omega)).trans hQ.2.1
    rcases h2 with ⟨-, e2, f2, f3⟩ | ⟨d1, -, -⟩
    · have hN : ∀ a, a < 3 ∨ (13 < a ∧ a ≠ 93 ∧ a ≠ 100) → M2 a = M a := fun a ha => (f2 a (by omega) (by omega)).trans (f1 a (by omega))
      have hj : ∀ j, j < 17 ∨ (23 < j ∧ j ≠ 1019) → M2 93 j = M 93 j := fun j q => (f3 j q).trans (by rw [f1 93 (by omega)])
      refine ⟨by rw [e1, e2], ⟨L, hT.1, by rw [hN 1 (by omega)]; exact hT.2.1, (hj 15 (by omega)).trans hT.2.2⟩, w, g, rm, hr, wt, du, ?_⟩
      exact IQ_cg hQ (caO_cg hQ.1 (hN 0 (by omega)) (hN 78 (by omega)) (fun a x y => hN a (by omega)) (fun a x y => hN a (by omega))) (by rw [hN 99 (by omega), hN 2 (by omega)]; exact hQ.2.1) (fun a x y => hN a (by omega)) (fun a ha => hN a (by omega)) (by rw [hN 79 (by omega)]) (by rw [hN 84 (by omega)]) (fun j q => hj j (by omega))
    · rw [e99, hp] at d1; cases d1
  | none =>
    rw [hp] at h1
    obtain ⟨e1, f1, f2, f3, f4, f5⟩ := h1
    have hok := prS_ok 8 0 hp
    have e93 : M1 93 = M 93 := f2 93 (by omega) (by omega)
    refine ⟨_, t_X11_week M1 L hT.1 (by rw [e93]; exact hT.2.2), fun y9 M2 h2 => ?_⟩
    have e99 : M1 99 = M 2 := (f2 99 (by omega) (by omega)).trans hQ.2.1
    rcases h2 with ⟨⟨f, d1⟩, -, -⟩ | ⟨-, e2, M9, ⟨g1, g2⟩, e3⟩
    · rw [e99, hp] at d1; cases d1
    · rw [e99] at e2 e3
      generalize (prS (M 2) L 8 0).2 = ls at e1 f1 hok e2 e3
      have hm0 : mH (mix M M9) := mH_cg hQ.2.2.1 (fun a x y => mix_c (by omega)) (fun a x y => by rw [mix_m (by omega), g1 a (by omega) (by omega), f2 a (by omega) (by omega)]) (fun j q => by rw [mix_m (by decide), g2 j (by omega), e93])
      have hT0 : mT M9 := by
        obtain ⟨tb, t1, t2⟩ := hQ.2.2.2.1
        exact ⟨tb, t1, by rw [g2 0 (by omega), e93]; exact t2⟩
      obtain ⟨hm, hTT⟩ := th_ls hm0 hT0 ls.length hok
      have hN : ∀ a, 98 < a → a ≠ 100 → M2 a = M a := fun a x y => by rw [e3, mu_f (by omega), dlS_f (by omega), g1 a (by omega) y, f2 a (by omega) (by omega)]
      have hC : ∀ a, a < 93 → M2 a = M1 a := fun a x => by rw [e3, mu_f (by omega), dlS_f (by omega), g1 a (by omega) (by omega)]
      have h15 : ∀ j, j ≠ 15 → M2 93 j = dlS ls M9 ls.length 93 j := fun j x => by rw [e3, mu_k x]
      refine ⟨by rw [e1, e2], ⟨0, Nat.zero_le _, by rw [hC 1 (by decide)]; exact f3, by rw [e3, mu_s]⟩, w, g, rm, hr, wt, du, ?_, ?_, ?_, ?_, ?_, ?_, ?_, ?_⟩
      · exact ⟨fun z => absurd (by rw [hC 0 (by decide)]; exact f4) z, fun z => absurd (by rw [hC 78 (by decide)]; exact f5) z⟩
      · rw [hN 99 (by decide) (by decide), hC 2 (by decide), f2 2 (by omega) (by omega)]; exact hQ.2.1
      · exact mH_cg hm (fun a x y => by rw [hC a (by omega), f1 a x y, mix_c (by omega)]) (fun a x y => by rw [e3, mu_f (by omega), mix_m (by omega)]) (fun j q => by rw [h15 j (by omega), mix_m (by decide)])
      · obtain ⟨tb, t1, t2⟩ := hTT
        exact ⟨tb, t1, by rw [h15 0 (by decide)]; exact t2⟩
      · exact mW_cg hQ.2.2.2.2.1 (by rw [h15 35 (by decide), dlS_j (by decide), g2 35 (by omega), e93]) (by rw [hC 79 (by decide), f2 79 (by omega) (by omega)]) (fun a ha => by
          rcases ha with q | q
          · rw [hC a (by omega), f2 a (by omega) (by omega)]
          · exact hN a (by omega) (by omega))
      · exact mR_cg hQ.2.2.2.2.2.1 (by rw [h15 40 (by decide), dlS_j (by decide), g2 40 (by omega), e93]) (by rw [hC 84 (by decide), f2 84 (by omega) (by omega)]) (fun a ha => by
          rcases ha with q | q
          · rw [hC a (by omega), f2 a (by omega) (by omega)]
          · exact hN a (by omega) (by omega))
      · exact flE_cg hQ.2.2.2.2.2.2.1 (by rw [hC 89 (by decide), f2 89 (by omega) (by omega)]) (by rw [hC 90 (by decide), f2 90 (by omega) (by omega)])
      · exact mF_cg hQ.2.2.2.2.2.2.2 (hN 117 (by decide) (by decide)) (hN 118 (by decide) (by decide))
