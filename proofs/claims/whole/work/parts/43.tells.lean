/-! work, read, flat beside the model's -/
theorem two_work (r c s l0 : Int32) : Two mX10_work mX11_work 3 2 [.int r, .int c, .int s, .int l0] := fun M hI => by
  obtain ⟨⟨L, hT⟩, w, g, rm, hr, wt, du, hQ⟩ := hI
  have hW := hQ.2.2.2.2.1
  refine ⟨_, t_X10_work M r c s l0 w hW.1 hW.2.2.1, fun x9 M1 h1 => ?_⟩
  unfold woP at h1
  by_cases c1 : ¬ inP r (nI 0) (nI 4)
  · rw [if_pos c1] at h1
    obtain ⟨e1, rfl⟩ := h1
    refine ⟨_, t_X11_work _ r c s l0 w hW.1 hW.2.1, fun y9 M2 h2 => ?_⟩
    unfold woN at h2
    rw [if_pos c1] at h2
    obtain ⟨e2, rfl⟩ := h2
    exact ⟨by rw [e1, e2], ⟨L, hT⟩, w, g, rm, hr, wt, du, hQ⟩
  · rw [if_neg c1] at h1
    by_cases c2 : ¬ (inP c (nI 1) (nI 999) ∧ inP s (nI 0) (nI 100) ∧ inP l0 (nI 0) (nI 20))
    · rw [if_pos c2] at h1
      obtain ⟨e1, rfl⟩ := h1
      refine ⟨_, t_X11_work _ r c s l0 w hW.1 hW.2.1, fun y9 M2 h2 => ?_⟩
      unfold woN at h2
      rw [if_neg c1, if_pos c2] at h2
      obtain ⟨e2, rfl⟩ := h2
      exact ⟨by rw [e1, e2], ⟨L, hT⟩, w, g, rm, hr, wt, du, hQ⟩
    · rw [if_neg c2] at h1
      by_cases c3 : w = 6
      · rw [if_pos c3] at h1
        obtain ⟨e1, rfl⟩ := h1
        refine ⟨_, t_X11_work _ r c s l0 w hW.1 hW.2.1, fun y9 M2 h2 => ?_⟩
        unfold woN at h2
        rw [if_neg c1, if_neg c2, if_pos c3] at h2
        obtain ⟨e2, rfl⟩ := h2
        exact ⟨by rw [e1, e2], ⟨L, hT⟩, w, g, rm, hr, wt, du, hQ⟩
      · rw [if_neg c3] at h1
        obtain ⟨e1, rfl⟩ := h1
        refine ⟨_, t_X11_work _ r c s l0 w hW.1 (by rw [mu_a (by decide), mu_a (by decide), mu_a (by decide), mu_a (by decide), mu_a (by decide)]; exact hW.2.1), fun y9 M2 h2 => ?_⟩
        unfold woN at h2
        rw [if_neg c1, if_neg c2, if_neg c3] at h2
        obtain ⟨e2, e3⟩ := h2
        have hN : ∀ a, ¬ (79 ≤ a ∧ a < 84) → ¬ a = 93 → ¬ (110 ≤ a ∧ a < 114) → M2 a = M a := fun a p1 p2 p3 => by rw [e3, mu_f (by omega), mu_f (by omega), mu_f (by omega), mu_f (by omega), mu_f (by omega), mu_f (by omega), mu_f (by omega), mu_f (by omega), mu_f (by omega), mu_f (by omega)]
        have hJ : ∀ j, j ≠ 35 → M2 93 j = M 93 j := fun j q => by rw [e3, mu_k q, mu_a (by decide), mu_a (by decide), mu_a (by decide), mu_a (by decide), mu_a (by decide), mu_a (by decide), mu_a (by decide), mu_a (by decide), mu_a (by decide)]
        have h80 : M2 80 = mu M 80 w r 80 := by rw [e3]; repeat rw [mu_f (by decide)]
        have h81 : M2 81 = mu M 81 w c 81 := by
          rw [e3, mu_f (by decide), mu_f (by decide), mu_f (by decide), mu_f (by decide), mu_f (by decide), mu_f (by decide), mu_f (by decide), mu_f (by decide)]
          funext j; by_cases q : j = w
          · subst q; rw [mu_s, mu_s]
          · simp only [mu_k q]
        have h82 : M2 82 = mu M 82 w s 82 := by
          rw [e3, mu_f (by decide), mu_f (by decide), mu_f (by decide), mu_f (by decide), mu_f (by decide), mu_f (by decide), mu_f (by decide)]
          funext j; by_cases q : j = w
          · subst q; rw [mu_s, mu_s]
          · simp only [mu_k q]
        have h83 : M2 83 = mu M 83 w l0 83 := by
          rw [e3, mu_f (by decide), mu_f (by decide), mu_f (by decide), mu_f (by decide), mu_f (by decide), mu_f (by decide)]
          funext j; by_cases q : j = w
          · subst q; rw [mu_s, mu_s]
          · simp only [mu_k q]
        have h79 : ∀ j, j ≠ 4 → M2 79 j = M 79 j := fun j q => by
          rw [e3, mu_a (by decide), mu_a (by decide), mu_a (by decide), mu_a (by decide), mu_a (by decide), mu_k q, mu_a (by decide), mu_a (by decide), mu_a (by decide), mu_a (by decide)]
        have h794 : M2 79 4 = nI (w + 1) := by rw [e3, mu_a (by decide), mu_a (by decide), mu_a (by decide), mu_a (by decide), mu_a (by decide), mu_s]
        have h9335 : M2 93 35 = nI (w + 1) := by rw [e3, mu_s]
        have h110 : ∀ i, M2 110 i = if i = w then r else M 110 i := fun i => by
          rw [e3, mu_a (by decide), mu_a (by decide), mu_a (by decide), mu_a (by decide)]
          by_cases q : i = w
          · subst q; rw [mu_s, if_pos rfl]
          · rw [mu_k q, if_neg q, mu_a (by decide), mu_a (by decide), mu_a (by decide), mu_a (by decide), mu_a (by decide)]
        have h111 : ∀ i, M2 111 i = if i = w then c else M 111 i := fun i => by
          rw [e3, mu_a (by decide), mu_a (by decide), mu_a (by decide)]
          by_cases q : i = w
          · subst q; rw [mu_s, if_pos rfl]
          · rw [mu_k q, if_neg q, mu_a (by decide), mu_a (by decide), mu_a (by decide), mu_a (by decide), mu_a (by decide), mu_a (by decide)]
        have h112 : ∀ i, M2 112 i = if i = w then s else M 112 i := fun i => by
          rw [e3, mu_a (by decide), mu_a (by decide)]
          by_cases q : i = w
          · subst q; rw [mu_s, if_pos rfl]
          · rw [mu_k q, if_neg q, mu_a (by decide), mu_a (by decide), mu_a (by decide), mu_a (by decide), mu_a (by decide), mu_a (by decide), mu_a (by decide)]
        have h113 : ∀ i, M2 113 i = if i = w then l0 else M 113 i := fun i => by
          rw [e3, mu_a (by decide)]
          by_cases q : i = w
          · subst q; rw [mu_s, if_pos rfl]
          · rw [mu_k q, if_neg q, mu_a (by decide), mu_a (by decide), mu_a (by decide), mu_a (by decide), mu_a (by decide), mu_a (by decide), mu_a (by decide), mu_a (by decide)]
        clear e3
        have hca : caO M2 := caO_cg hQ.1 (hN 0 (by omega) (by omega) (by omega)) (hN 78 (by omega) (by omega) (by omega)) (fun a x y => hN a (by omega) (by omega) (by omega)) (fun a x y => hN a (by omega) (by omega) (by omega))
        refine ⟨by rw [e1, e2], ⟨L, hT.1, by rw [hN 1 (by omega) (by omega) (by omega)]; exact hT.2.1, by rw [hJ 15 (by decide)]; exact hT.2.2⟩, w + 1, g, rm, hr, wt, du, hca, ?_, ?_, ?_, ?_, ?_, ?_, ?_⟩
        · rw [hN 99 (by omega) (by omega) (by omega), hN 2 (by omega) (by omega) (by omega)]; exact hQ.2.1
        · exact mH_cg hQ.2.2.1 (fun a x y => hN a (by omega) (by omega) (by omega)) (fun a x y => hN a (by omega) (by omega) (by omega)) (fun j hj => hJ j (by omega))
        · obtain ⟨tb, t1, t2⟩ := hQ.2.2.2.1
          exact ⟨tb, t1, by rw [hJ 0 (by decide)]; exact t2⟩
        · have hw6 := hW.1
          refine ⟨by omega, h9335, h794, fun i hi => ?_⟩
          rw [h110, h111, h112, h113, h80, h81, h82, h83]
          by_cases q : i = w
          · subst q
            obtain ⟨k, hk, ek⟩ := (in_nat (by decide)).mp (Decidable.not_not.mp c1)
            rw [if_pos rfl, if_pos rfl, if_pos rfl, if_pos rfl, mu_s, mu_s, mu_s, mu_s]
            exact ⟨rfl, rfl, rfl, rfl, k, by omega, ek⟩
          · rw [if_neg q, if_neg q, if_neg q, if_neg q, mu_k q, mu_k q, mu_k q, mu_k q]
            exact hW.2.2.2 i (by omega)
        · exact mR_cg hQ.2.2.2.2.2.1 (hJ 40 (by decide)) (by rw [hN 84 (by omega) (by omega) (by omega)]) (fun a ha => hN a (by omega) (by omega) (by omega))
        · exact flE_cg hQ.2.2.2.2.2.2.1 (hN 89 (by omega) (by omega) (by omega)) (hN 90 (by omega) (by omega) (by omega))
        · exact mF_cg hQ.2.2.2.2.2.2.2 (hN 117 (by omega) (by omega) (by omega)) (hN 118 (by omega) (by omega) (by omega))
theorem two_read (r x a : Int32) : Two mX10_read mX11_read 3 2 [.int r, .int x, .int a] := fun M hI => by
  obtain ⟨⟨L, hT⟩, w, g, rm, hr, wt, du, hQ⟩ := hI
  have hR := hQ.2.2.2.2.2.1
  refine ⟨_, t_X10_read M r x a g hR.1 hR.2.2.1, fun x9 M1 h1 => ?_⟩
  unfold reP at h1
  by_cases c1 : ¬ (inP r (nI 0) (nI 4) ∧ inP x (nI 0) (nI 95))
  · rw [if_pos c1] at h1
    obtain ⟨e1, rfl⟩ := h1
    refine ⟨_, t_X11_read _ r x a g hR.1 hR.2.1, fun y9 M2 h2 => ?_⟩
    unfold reN at h2
    rw [if_pos c1] at h2
    obtain ⟨e2, rfl⟩ := h2
    exact ⟨by rw [e1, e2], ⟨L, hT⟩, w, g, rm, hr, wt, du, hQ⟩
  · rw [if_neg c1] at h1
    by_cases c2 : ¬ inP a (-999) (nI 9999)
    · rw [if_pos c2] at h1
      obtain ⟨e1, rfl⟩ := h1
      refine ⟨_, t_X11_read _ r x a g hR.1 hR.2.1, fun y9 M2 h2 => ?_⟩
      unfold reN at h2
      rw [if_neg c1, if_pos c2] at h2
      obtain ⟨e2, rfl⟩ := h2
      exact ⟨by rw [e1, e2], ⟨L, hT⟩, w, g, rm, hr, wt, du, hQ⟩
    · rw [if_neg c2] at h1
      by_cases c3 : g = 8
      · rw [if_pos c3] at h1
        obtain ⟨e1, rfl⟩ := h1
        refine ⟨_, t_X11_read _ r x a g hR.1 hR.2.1, fun y9 M2 h2 => ?_⟩
        unfold reN at h2
        rw [if_neg c1, if_neg c2, if_pos c3] at h2
        obtain ⟨e2, rfl⟩ := h2
        exact ⟨by rw [e1, e2], ⟨L, hT⟩, w, g, rm, hr, wt, du, hQ⟩
      · rw [if_neg c3] at h1
        obtain ⟨e1, rfl⟩ := h1
        refine ⟨_, t_X11_read _ r x a g hR.1 (by rw [mu_a (by decide), mu_a (by decide), mu_a (by decide), mu_a (by decide)]; exact hR.2.1), fun y9 M2 h2 => ?_⟩
        unfold reN at h2
        rw [if_neg c1, if_neg c2, if_neg c3] at h2
        obtain ⟨e2, e3⟩ := h2
        have hN : ∀ b, ¬ (84 ≤ b ∧ b < 88) → ¬ b = 93 → ¬ (114 ≤ b ∧ b < 117) → M2 b = M b := fun b p1 p2 p3 => by rw [e3, mu_f (by omega), mu_f (by omega), mu_f (by omega), mu_f (by omega), mu_f (by omega), mu_f (by omega), mu_f (by omega), mu_f (by omega)]
        have hJ : ∀ j, j ≠ 40 → M2 93 j = M 93 j := fun j q => by rw [e3, mu_k q, mu_a (by decide), mu_a (by decide), mu_a (by decide), mu_a (by decide), mu_a (by decide), mu_a (by decide), mu_a (by decide)]
        have h85 : ∀ i, M2 85 i = if i = g then r else M 85 i := fun i => by
          rw [e3, mu_a (by decide), mu_a (by decide), mu_a (by decide), mu_a (by decide), mu_a (by decide), mu_a (by decide), mu_a (by decide)]
          by_cases q : i = g
          · subst q; rw [mu_s, if_pos rfl]
          · rw [mu_k q, if_neg q]
        have h86 : ∀ i, M2 86 i = if i = g then x else M 86 i := fun i => by
          rw [e3, mu_a (by decide), mu_a (by decide), mu_a (by decide), mu_a (by decide), mu_a (by decide), mu_a (by decide)]
          by_cases q : i = g
          · subst q; rw [mu_s, if_pos rfl]
          · rw [mu_k q, if_neg q, mu_a (by decide)]
        have h87 : ∀ i, M2 87 i = if i = g then a else M 87 i := fun i => by
          rw [e3, mu_a (by decide), mu_a (by decide), mu_a (by decide), mu_a (by decide), mu_a (by decide)]
          by_cases q : i = g
          · subst q; rw [mu_s, if_pos rfl]
          · rw [mu_k q, if_neg q, mu_a (by decide), mu_a (by decide)]
        have h84 : M2 84 3 = nI (g + 1) := by rw [e3, mu_a (by decide), mu_a (by decide), mu_a (by decide), mu_a (by decide), mu_s]
        have h9340 : M2 93 40 = nI (g + 1) := by rw [e3, mu_s]
        have h114 : ∀ i, M2 114 i = if i = g then r else M 114 i := fun i => by
          rw [e3, mu_a (by decide), mu_a (by decide), mu_a (by decide)]
          by_cases q : i = g
          · subst q; rw [mu_s, if_pos rfl]
          · rw [mu_k q, if_neg q, mu_a (by decide), mu_a (by decide), mu_a (by decide), mu_a (by decide)]
        have h115 : ∀ i, M2 115 i = if i = g then x else M 115 i := fun i => by
          rw [e3, mu_a (by decide), mu_a (by decide)]
          by_cases q : i = g
          · subst q; rw [mu_s, if_pos rfl]
          · rw [mu_k q, if_neg q, mu_a (by decide), mu_a (by decide), mu_a (by decide), mu_a (by decide), mu_a (by decide)]
        have h116 : ∀ i, M2 116 i = if i = g then a else M 116 i := fun i => by
          rw [e3, mu_a (by decide)]
          by_cases q : i = g
          · subst q; rw [mu_s, if_pos rfl]
          · rw [mu_k q, if_neg q, mu_a (by decide), mu_a (by decide), mu_a (by decide), mu_a (by decide), mu_a (by decide), mu_a (by decide)]
        clear e3
        have hca : caO M2 := caO_cg hQ.1 (hN 0 (by omega) (by omega) (by omega)) (hN 78 (by omega) (by omega) (by omega)) (fun b p q => hN b (by omega) (by omega) (by omega)) (fun b p q => hN b (by omega) (by omega) (by omega))
        obtain ⟨d1, d2⟩ := Decidable.not_not.mp c1
        obtain ⟨k1, hk1, ek1⟩ := (in_nat (by decide)).mp d1
        obtain ⟨k2, hk2, ek2⟩ := (in_nat (by decide)).mp d2
        refine ⟨by rw [e1, e2], ⟨L, hT.1, by rw [hN 1 (by omega) (by omega) (by omega)]; exact hT.2.1, by rw [hJ 15 (by decide)]; exact hT.2.2⟩, w, g + 1, (fun i => if i = g then k1 else rm i), (fun i => if i = g then k2 else hr i), wt, du, hca, ?_, ?_, ?_, ?_, ?_, ?_, ?_⟩
        · rw [hN 99 (by omega) (by omega) (by omega), hN 2 (by omega) (by omega) (by omega)]; exact hQ.2.1
        · exact mH_cg hQ.2.2.1 (fun b p q => hN b (by omega) (by omega) (by omega)) (fun b p q => hN b (by omega) (by omega) (by omega)) (fun j hj => hJ j (by omega))
        · obtain ⟨tb, t1, t2⟩ := hQ.2.2.2.1
          exact ⟨tb, t1, by rw [hJ 0 (by decide)]; exact t2⟩
        · exact mW_cg hQ.2.2.2.2.1 (hJ 35 (by decide)) (by rw [hN 79 (by omega) (by omega) (by omega)]) (fun b hb => hN b (by omega) (by omega) (by omega))
        · have hg8 := hR.1
          refine ⟨by omega, h9340, h84, fun i hi => ?_⟩
          rw [h114, h115, h116, h85, h86, h87]
          show _ ∧ _ ∧ _ ∧ _ = nI (if i = g then k1 else rm i) ∧ (if i = g then k1 else rm i) < 5 ∧ _ = nI (if i = g then k2 else hr i) ∧ (if i = g then k2 else hr i) < 96
          by_cases q : i = g
          · subst q
            simp only [if_pos rfl]
            exact ⟨rfl, rfl, rfl, ek1, by simp; omega, ek2, by simp; omega⟩
          · simp only [if_neg q]
            exact hR.2.2.2 i (by omega)
        · exact flE_cg hQ.2.2.2.2.2.2.1 (hN 89 (by omega) (by omega) (by omega)) (hN 90 (by omega) (by omega) (by omega))
        · exact mF_cg hQ.2.2.2.2.2.2.2 (hN 117 (by omega) (by omega) (by omega)) (hN 118 (by omega) (by omega) (by omega))
theorem two_flat (x z d : Int32) : Two mX10_flat mX11_flat 2 2 [.int x, .int z, .int d] := fun M hI => by
  obtain ⟨⟨L, hT⟩, w, g, rm, hr, wt, du, hQ⟩ := hI
  refine ⟨_, t_X10_flat M x z d, fun x9 M1 h1 => ?_⟩
  unfold ftP at h1
  refine ⟨_, t_X11_flat M1 x z d, fun y9 M2 h2 => ?_⟩
  unfold ftN at h2
  by_cases c1 : ¬ inP x (nI 0) (nI 7)
  · rw [if_pos c1] at h1 h2
    obtain ⟨e1, rfl⟩ := h1
    obtain ⟨e2, rfl⟩ := h2
    exact ⟨by rw [e1, e2], ⟨L, hT⟩, w, g, rm, hr, wt, du, hQ⟩
  · rw [if_neg c1] at h1 h2
    by_cases c2 : ¬ (inP z (nI 0) (nI 99) ∧ inP d (nI 1) (nI 8))
    · rw [if_pos c2] at h1 h2
      obtain ⟨e1, rfl⟩ := h1
      obtain ⟨e2, rfl⟩ := h2
      exact ⟨by rw [e1, e2], ⟨L, hT⟩, w, g, rm, hr, wt, du, hQ⟩
    · rw [if_neg c2] at h1 h2
      obtain ⟨e1, rfl⟩ := h1
      obtain ⟨e2, e3⟩ := h2
      have hN : ∀ a, a ≠ 89 → a ≠ 90 → a ≠ 117 → a ≠ 118 → M2 a = M a := fun a p1 p2 p3 p4 => by rw [e3, mu_f p4, mu_f p3, mu_f p2, mu_f p1]
      have h89 : ∀ f, M2 89 f = if f = tn x then z else M 89 f := fun f => by
        rw [e3, mu_a (by decide), mu_a (by decide), mu_a (by decide)]
        by_cases q : f = tn x
        · subst q; rw [mu_s, if_pos rfl]
        · rw [mu_k q, if_neg q]
      have h90 : ∀ f, M2 90 f = if f = tn x then d else M 90 f := fun f => by
        rw [e3, mu_a (by decide), mu_a (by decide)]
        by_cases q : f = tn x
        · subst q; rw [mu_s, if_pos rfl]
        · rw [mu_k q, if_neg q, mu_a (by decide)]
      have h117 : ∀ f, M2 117 f = if f = tn x then z else M 117 f := fun f => by
        rw [e3, mu_a (by decide)]
        by_cases q : f = tn x
        · subst q; rw [mu_s, if_pos rfl]
        · rw [mu_k q, if_neg q, mu_a (by decide), mu_a (by decide)]
      have h118 : ∀ f, M2 118 f = if f = tn x then d else M 118 f := fun f => by
        rw [e3]
        by_cases q : f = tn x
        · subst q; rw [mu_s, if_pos rfl]
        · rw [mu_k q, if_neg q, mu_a (by decide), mu_a (by decide), mu_a (by decide)]
      clear e3
      obtain ⟨d1, d2⟩ := Decidable.not_not.mp c2
      obtain ⟨k1, hk1, ek1⟩ := (in_nat (by decide)).mp d1
      obtain ⟨k2, hk0, hk2, ek2⟩ := in_18 d2
      have hca : caO M2 := caO_cg hQ.1 (hN 0 (by omega) (by omega) (by omega) (by omega)) (hN 78 (by omega) (by omega) (by omega) (by omega)) (fun b p q => hN b (by omega) (by omega) (by omega) (by omega)) (fun b p q => hN b (by omega) (by omega) (by omega) (by omega))
      have h93 : M2 93 = M 93 := hN 93 (by omega) (by omega) (by omega) (by omega)
      refine ⟨by rw [e1, e2], ⟨L, hT.1, by rw [hN 1 (by omega) (by omega) (by omega) (by omega)]; exact hT.2.1, by rw [h93]; exact hT.2.2⟩, w, g, rm, hr, (fun f => if f = tn x then k1 else wt f), (fun f => if f = tn x then k2 else du f), hca, ?_, ?_, ?_, ?_, ?_, ?_, ?_⟩
      · rw [hN 99 (by omega) (by omega) (by omega) (by omega), hN 2 (by omega) (by omega) (by omega) (by omega)]; exact hQ.2.1
      · exact mH_cg hQ.2.2.1 (fun b p q => hN b (by omega) (by omega) (by omega) (by omega)) (fun b p q => hN b (by omega) (by omega) (by omega) (by omega)) (fun j hj => by rw [h93])
      · obtain ⟨tb, t1, t2⟩ := hQ.2.2.2.1
        exact ⟨tb, t1, by rw [h93]; exact t2⟩
      · exact mW_cg hQ.2.2.2.2.1 (by rw [h93]) (by rw [hN 79 (by omega) (by omega) (by omega) (by omega)]) (fun b hb => hN b (by omega) (by omega) (by omega) (by omega))
      · exact mR_cg hQ.2.2.2.2.2.1 (by rw [h93]) (by rw [hN 84 (by omega) (by omega) (by omega) (by omega)]) (fun b hb => hN b (by omega) (by omega) (by omega) (by omega))
      · intro f hf
        rw [h89, h90]
        show _ = nI (if f = tn x then k1 else wt f) ∧ (if f = tn x then k1 else wt f) ≤ 99 ∧ _ = nI (if f = tn x then k2 else du f) ∧ (if f = tn x then k2 else du f) ≤ 8
        by_cases q : f = tn x
        · simp only [if_pos q]; exact ⟨ek1, hk1, ek2, hk2⟩
        · simp only [if_neg q]; exact hQ.2.2.2.2.2.2.1 f hf
      · intro f hf
        rw [h117, h118]
        show _ = nI (if f = tn x then k1 else wt f) ∧ (if f = tn x then k1 else wt f) ≤ 99 ∧ _ = nI (if f = tn x then k2 else du f) ∧ (if f = tn x then k2 else du f) ≤ 8
        by_cases q : f = tn x
        · simp only [if_pos q]; exact ⟨ek1, hk1, ek2, hk2⟩
        · simp only [if_neg q]; exact hQ.2.2.2.2.2.2.2 f hf
