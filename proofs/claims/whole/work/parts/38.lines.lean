/-! the model: a line, a text -/
/-- a line read -/
def liP (M : hM) (L p w : Nat) (y : Int32) (M2 : hM) : Prop := y = hb (¬ wK (M 99) L p = 10 ∧ (wR (M 99) L p).1 = true) ∧ fr2 M M2 ∧ (∀ j, j < w → M2 100 j = M 100 j) ∧ (wK (M 99) L p = 10 → M2 93 22 = nI (skB (M 99) L p)) ∧ (¬ wK (M 99) L p = 10 → ¬ (wR (M 99) L p).1 = true → M2 93 22 = nI (wR (M 99) L p).2.1) ∧
  (¬ wK (M 99) L p = 10 → (wR (M 99) L p).1 = true → M2 93 17 = nI (wR (M 99) L p).2.1 ∧ M2 100 w = nI (wK (M 99) L p) ∧ ∀ j, j < (wR (M 99) L p).2.2.length → M2 100 (w + 1 + j) = nI ((wR (M 99) L p).2.2.getD j 0))
theorem li_of {M M1 M2 : hM} {L p w k : Nat} {y : Int32} (hf : fr2 M M1) (h100 : ∀ j, j < w → M1 100 j = M 100 j) (hk9 : wK (M 99) L p = k) (hk : k < 10) (hw : M1 100 w = nI k) (h : rmP M1 L k (wT (M 99) L p) w y M2) : liP M L p w y M2 := by
  have e99 : M1 99 = M 99 := hf.1 99 (by decide) (by decide)
  obtain ⟨h1, h2, h3, h4, h5⟩ := h
  have eR : rdN (M1 99) L k 5 0 (wT (M 99) L p) 0 = wR (M 99) L p := by unfold wR; rw [hk9, e99]
  rw [eR] at h1 h4 h5
  have hne : ¬ wK (M 99) L p = 10 := by omega
  exact ⟨by rw [h1]; exact hb_c ⟨fun z => ⟨hne, z⟩, fun z => z.2⟩, fr2_t hf h2, fun j hj => (h3 j (by omega)).trans (h100 j hj), fun z => absurd z hne, fun _ z => h5 z, fun _ z => ⟨(h4 z).1, (h3 w (Nat.le_refl w)).trans (by rw [hw, hk9]), (h4 z).2⟩⟩
theorem li_no {M M1 : hM} {L p w : Nat} (hf : fr2 M M1) (h100 : ∀ j, j < w → M1 100 j = M 100 j) (h18 : M1 93 18 = nI (skB (M 99) L p)) (hk9 : wK (M 99) L p = 10) : liP M L p w (nI 0) (mu M1 93 22 (M1 93 18)) :=
  ⟨(hb_f (fun z => z.1 hk9)).symm, fr2_t hf fr2_f, fun j hj => by rw [mu_a (by decide)]; exact h100 j hj, fun _ => by rw [mu_s]; exact h18, fun z => absurd hk9 z, fun z => absurd hk9 z⟩
theorem li_1 {M M9 : hM} {L p w : Nat} (h : tkP M L p M9) (x : Int32) : fr2 M (mu M9 100 w x) ∧ (∀ j, j < w → mu M9 100 w x 100 j = M 100 j) ∧ mu M9 100 w x 93 18 = nI (skB (M 99) L p) ∧ mu M9 100 w x 93 17 = nI (wT (M 99) L p) :=
  ⟨fr2_t (fr2_k h) fr2_r, fun j hj => by rw [mu_k (by omega), h.1 100 (by decide)], by rw [mu_a (by decide)]; exact h.2.2.2.1, by rw [mu_a (by decide)]; exact h.2.2.1⟩
set_option maxRecDepth 100000 in
set_option maxHeartbeats 4000000 in
theorem t_X11_isLine (M : hM) (L p : Nat) (hL : L ≤ 200) (eL : M 93 15 = nI L) (hp : p ≤ L) (ep : M 93 17 = nI p) (w : Nat) (hw : w < 43) : Ct 5 mX11_isLine [.ref 93, .int (nI w)] M (pX (liP M L p w)) := by
  refine ct_of (lv := [some (.ref 93), some (.int (nI w)), none, none]) (by decide +kernel) (fun _ _ hq => hq) rfl (fun _ => Nat.le_of_ble_eq_true rfl) (fun X h hr => ?_)
  refine j_aload_n h 1 rfl rfl dX11_isLine_0 ?_
  refine j_callVV h 4 rfl lkX11_167 sh_93 rfl rfl (t_X11_nextToken _ L p hL eL hp ep) rfl rfl rfl dX11_isLine_1 (fun M9 hM9 => ?_)
  have hs9 := (skB_le (b := M 99) hp).2
  have hT9 := (tkE_le (b := M 99) hs9).2.1
  have K80 : ∀ y, y = kA (mtB (M 99) (skB (M 99) L p) (wT (M 99) L p)) → J X 80 [some (.ref 93), some (.int (nI w)), none, none] [.int y] M9 := by
    intro y hy
    subst hy
    refine j_istore_n h 81 rfl rfl dX11_isLine_80 ?_
    have K161 : ∀ y, y = kB (mtB (M 99) (skB (M 99) L p) (wT (M 99) L p)) → J X 161 [some (.ref 93), some (.int (nI w)), some (.int (kA (mtB (M 99) (skB (M 99) L p) (wT (M 99) L p)))), none] [.int y] M9 := by
      intro y hy
      subst hy
      refine j_istore_n h 162 rfl rfl dX11_isLine_161 ?_
      refine j_aload_n h 163 rfl rfl dX11_isLine_162 ?_
      refine j_getR h 166 rfl glX11_57 sh_93 rfl dX11_isLine_163 ?_
      refine j_iload_n h 167 rfl rfl dX11_isLine_166 ?_
      refine j_iload_n h 168 rfl rfl dX11_isLine_167 ?_
      have K177 : ∀ y, y = kdE (wK (M 99) L p) → J X 177 [some (.ref 93), some (.int (nI w)), some (.int (kA (mtB (M 99) (skB (M 99) L p) (wT (M 99) L p)))), some (.int (kB (mtB (M 99) (skB (M 99) L p) (wT (M 99) L p))))] [.int y, .int (nI w), .ref 100] M9 := by
        intro y hy
        subst hy
        refine j_iast h 178 rfl sh_100 _ rfl (by omega) rfl dX11_isLine_177 ?_
        refine j_aload_n h 179 rfl rfl dX11_isLine_178 ?_
        refine j_getR h 182 rfl glX11_57 sh_93 rfl dX11_isLine_179 ?_
        refine j_iload_n h 183 rfl rfl dX11_isLine_182 ?_
        refine j_iald h 184 rfl sh_100 _ rfl (by omega) rfl dX11_isLine_183 ?_
        obtain ⟨hf1, hf2, hf3, hf4⟩ := li_1 (w := w) hM9 (kdE (wK (M 99) L p))
        have hw1 : mu M9 100 w (kdE (wK (M 99) L p)) 100 w = kdE (wK (M 99) L p) := mu_s
        generalize mu M9 100 w (kdE (wK (M 99) L p)) = M1 at hf1 hf2 hf3 hf4 hw1 ⊢
        refine j_top hw1 ?_
        have eL1 := (hf1.2 15 (by decide)).trans eL
        refine j_tsw h 549 0 [240, 311, 317, 364, 375, 433, 463, 463, 507, 539] dX11_isLine_184 (by decide) (by decide) (by decide) (by decide) (by decide) (fun i9 t9 ht9 c_184 => ?_) (fun c_184 => ?_)
        · match i9, ht9 with
          | 0, ht9 =>
            cases ht9
            have hk9 : wK (M 99) L p = 0 := kd_k wK_le (by decide) c_184
            rw [c_184] at hw1
            have hI0 := rmI_0 (L := L) (k := 0) (w := w) hT9 hf4
            refine j_aload_n h 241 rfl rfl dX11_isLine_240 ?_
            refine j_iload_n h 242 rfl rfl dX11_isLine_241 ?_
            refine j_iconst h 243 rfl (nI 1) (by decide) dX11_isLine_242 ?_
            refine j_iaddN h 244 rfl dX11_isLine_243 ?_
            refine j_iconst h 245 rfl (nI 0) (by decide) dX11_isLine_244 ?_
            refine j_iconst h 246 rfl (nI 4) (by decide) dX11_isLine_245 ?_
            refine j_callVX h 249 rfl lkX11_174 sh_93 rfl rfl (t_X11_isNumber _ L _ hL ((hI0.1.2 15 (by decide)).trans eL1) hI0.2.2.2.1 hI0.2.2.1 _ (by omega) _) rfl rfl rfl dX11_isLine_246 (fun x0 MM0 h0 => ?_)
            refine j_top h0.1 ?_
            refine j_if_eqB h 309 252 dX11_isLine_249 (by decide) rfl (fun c_249 => ?_) (fun c_249 => ?_)
            · have hZ := rmI_bad (i := 0) hI0 (by decide) (by decide) (by decide) h0 c_249
              refine j_iconst h 310 rfl (nI 0) (by decide) dX11_isLine_309 ?_
              exact j_ret h hr (by decide) dX11_isLine_310 ⟨_, rfl, li_of hf1 hf2 hk9 (by decide) hw1 (by first | exact hZ | exact rmI_end hI5 (Or.inl rfl))⟩
            · have hI1 := rmI_step (i := 0) hI0 (by decide) (by decide) (by decide : 4 ≤ 600) rfl h0 c_249 (fun z => absurd z.2.1 (by decide))
              refine j_aload_n h 253 rfl rfl dX11_isLine_252 ?_
              refine j_iload_n h 254 rfl rfl dX11_isLine_253 ?_
              refine j_iconst h 255 rfl (nI 2) (by decide) dX11_isLine_254 ?_
              refine j_iaddN h 256 rfl dX11_isLine_255 ?_
              refine j_iconst h 257 rfl (nI 0) (by decide) dX11_isLine_256 ?_
              refine j_sipush h 260 rfl (nI 600) (by decide) dX11_isLine_257 ?_
              refine j_callVX h 263 rfl lkX11_174 sh_93 rfl rfl (t_X11_isNumber _ L _ hL ((hI1.1.2 15 (by decide)).trans eL1) hI1.2.2.2.1 hI1.2.2.1 _ (by omega) _) rfl rfl rfl dX11_isLine_260 (fun x1 MM1 h1 => ?_)
              refine j_top h1.1 ?_
              refine j_if_eqB h 309 266 dX11_isLine_263 (by decide) rfl (fun c_263 => ?_) (fun c_263 => ?_)
              · have hZ := rmI_bad (i := 1) hI1 (by decide) (by decide) (by decide) h1 c_263
                refine j_iconst h 310 rfl (nI 0) (by decide) dX11_isLine_309 ?_
                exact j_ret h hr (by decide) dX11_isLine_310 ⟨_, rfl, li_of hf1 hf2 hk9 (by decide) hw1 (by first | exact hZ | exact rmI_end hI5 (Or.inl rfl))⟩
              · have hI2 := rmI_step (i := 1) hI1 (by decide) (by decide) (by decide : 600 ≤ 600) rfl h1 c_263 (fun z => absurd z.1 (by decide))
                refine j_aload_n h 267 rfl rfl dX11_isLine_266 ?_
                refine j_iload_n h 268 rfl rfl dX11_isLine_267 ?_
                refine j_iconst h 269 rfl (nI 3) (by decide) dX11_isLine_268 ?_
                refine j_iaddN h 270 rfl dX11_isLine_269 ?_
                refine j_iconst h 271 rfl (nI 0) (by decide) dX11_isLine_270 ?_
                refine j_sipush h 274 rfl (nI 600) (by decide) dX11_isLine_271 ?_
                refine j_callVX h 277 rfl lkX11_174 sh_93 rfl rfl (t_X11_isNumber _ L _ hL ((hI2.1.2 15 (by decide)).trans eL1) hI2.2.2.2.1 hI2.2.2.1 _ (by omega) _) rfl rfl rfl dX11_isLine_274 (fun x2 MM2 h2 => ?_)
                refine j_top h2.1 ?_
                refine j_if_eqB h 309 280 dX11_isLine_277 (by decide) rfl (fun c_277 => ?_) (fun c_277 => ?_)
                · have hZ := rmI_bad (i := 2) hI2 (by decide) (by decide) (by decide) h2 c_277
                  refine j_iconst h 310 rfl (nI 0) (by decide) dX11_isLine_309 ?_
                  exact j_ret h hr (by decide) dX11_isLine_310 ⟨_, rfl, li_of hf1 hf2 hk9 (by decide) hw1 (by first | exact hZ | exact rmI_end hI5 (Or.inl rfl))⟩
                · have hI3 := rmI_step (i := 2) hI2 (by decide) (by decide) (by decide : 600 ≤ 600) rfl h2 c_277 (fun z => absurd z.2.1 (by decide))
                  refine j_aload_n h 281 rfl rfl dX11_isLine_280 ?_
                  refine j_iload_n h 282 rfl rfl dX11_isLine_281 ?_
                  refine j_iconst h 283 rfl (nI 4) (by decide) dX11_isLine_282 ?_
                  refine j_iaddN h 284 rfl dX11_isLine_283 ?_
                  refine j_iconst h 285 rfl (nI 0) (by decide) dX11_isLine_284 ?_
                  refine j_iconst h 286 rfl (nI 3) (by decide) dX11_isLine_285 ?_
                  refine j_callVX h 289 rfl lkX11_174 sh_93 rfl rfl (t_X11_isNumber _ L _ hL ((hI3.1.2 15 (by decide)).trans eL1) hI3.2.2.2.1 hI3.2.2.1 _ (by omega) _) rfl rfl rfl dX11_isLine_286 (fun x3 MM3 h3 => ?_)
                  refine j_top h3.1 ?_
                  refine j_if_eqB h 309 292 dX11_isLine_289 (by decide) rfl (fun c_289 => ?_) (fun c_289 => ?_)
                  · have hZ := rmI_bad (i := 3) hI3 (by decide) (by decide) (by decide) h3 c_289
                    refine j_iconst h 310 rfl (nI 0) (by decide) dX11_isLine_309 ?_
                    exact j_ret h hr (by decide) dX11_isLine_310 ⟨_, rfl, li_of hf1 hf2 hk9 (by decide) hw1 (by first | exact hZ | exact rmI_end hI5 (Or.inl rfl))⟩
                  · have hI4 := rmI_step (i := 3) hI3 (by decide) (by decide) (by decide : 3 ≤ 600) rfl h3 c_289 (fun z => absurd z.2.1 (by decide))
                    refine j_aload_n h 293 rfl rfl dX11_isLine_292 ?_
                    refine j_iload_n h 294 rfl rfl dX11_isLine_293 ?_
                    refine j_iconst h 295 rfl (nI 5) (by decide) dX11_isLine_294 ?_
                    refine j_iaddN h 296 rfl dX11_isLine_295 ?_
                    refine j_iconst h 297 rfl (nI 0) (by decide) dX11_isLine_296 ?_
                    refine j_bipush h 299 rfl (nI 9) (by decide) dX11_isLine_297 ?_
                    refine j_callVX h 302 rfl lkX11_174 sh_93 rfl rfl (t_X11_isNumber _ L _ hL ((hI4.1.2 15 (by decide)).trans eL1) hI4.2.2.2.1 hI4.2.2.1 _ (by omega) _) rfl rfl rfl dX11_isLine_299 (fun x4 MM4 h4 => ?_)
                    refine j_top h4.1 ?_
                    refine j_if_eqB h 309 305 dX11_isLine_302 (by decide) rfl (fun c_302 => ?_) (fun c_302 => ?_)
                    · have hZ := rmI_bad (i := 4) hI4 (by decide) (by decide) (by decide) h4 c_302
                      refine j_iconst h 310 rfl (nI 0) (by decide) dX11_isLine_309 ?_
                      exact j_ret h hr (by decide) dX11_isLine_310 ⟨_, rfl, li_of hf1 hf2 hk9 (by decide) hw1 (by first | exact hZ | exact rmI_end hI5 (Or.inl rfl))⟩
                    · have hI5 := rmI_step (i := 4) hI4 (by decide) (by decide) (by decide : 9 ≤ 600) rfl h4 c_302 (fun z => absurd z.2.1 (by decide))
                      refine j_iconst h 306 rfl (nI 1) (by decide) dX11_isLine_305 ?_
                      refine j_goto h 310 dX11_isLine_306 (by decide) ?_
                      exact j_ret h hr (by decide) dX11_isLine_310 ⟨_, rfl, li_of hf1 hf2 hk9 (by decide) hw1 (by first | exact hZ | exact rmI_end hI5 (Or.inl rfl))⟩
          | 1, ht9 =>
            cases ht9
            have hk9 : wK (M 99) L p = 1 := kd_k wK_le (by decide) c_184
            rw [c_184] at hw1
            have hI0 := rmI_0 (L := L) (k := 1) (w := w) hT9 hf4
            refine j_aload_n h 312 rfl rfl dX11_isLine_311 ?_
            refine j_iload_n h 313 rfl rfl dX11_isLine_312 ?_
            refine j_callVX h 316 rfl lkX11_197 sh_93 rfl rfl (t_X11_isDoor _ L _ hL eL1 hT9 hf4 _ (by omega)) rfl rfl rfl dX11_isLine_313 (fun x0 MM0 hZ => ?_)
            exact j_ret h hr (by rw [hZ.1]; exact hb_nar) dX11_isLine_316 ⟨_, rfl, li_of hf1 hf2 hk9 (by decide) hw1 hZ⟩
          | 2, ht9 =>
            cases ht9
            have hk9 : wK (M 99) L p = 2 := kd_k wK_le (by decide) c_184
            rw [c_184] at hw1
            have hI0 := rmI_0 (L := L) (k := 2) (w := w) hT9 hf4
            refine j_aload_n h 318 rfl rfl dX11_isLine_317 ?_
            refine j_iload_n h 319 rfl rfl dX11_isLine_318 ?_
            refine j_iconst h 320 rfl (nI 1) (by decide) dX11_isLine_319 ?_
            refine j_iaddN h 321 rfl dX11_isLine_320 ?_
            refine j_iconst h 322 rfl (nI 0) (by decide) dX11_isLine_321 ?_
            refine j_sipush h 325 rfl (nI 500) (by decide) dX11_isLine_322 ?_
            refine j_callVX h 328 rfl lkX11_174 sh_93 rfl rfl (t_X11_isNumber _ L _ hL ((hI0.1.2 15 (by decide)).trans eL1) hI0.2.2.2.1 hI0.2.2.1 _ (by omega) _) rfl rfl rfl dX11_isLine_325 (fun x0 MM0 h0 => ?_)
            refine j_top h0.1 ?_
            refine j_if_eqB h 362 331 dX11_isLine_328 (by decide) rfl (fun c_328 => ?_) (fun c_328 => ?_)
            · have hZ := rmI_bad (i := 0) hI0 (by decide) (by decide) (by decide) h0 c_328
              refine j_iconst h 363 rfl (nI 0) (by decide) dX11_isLine_362 ?_
              exact j_ret h hr (by decide) dX11_isLine_363 ⟨_, rfl, li_of hf1 hf2 hk9 (by decide) hw1 (by first | exact hZ | exact rmI_end hI3 (Or.inr ⟨by decide, by decide⟩))⟩
            · have hI1 := rmI_step (i := 0) hI0 (by decide) (by decide) (by decide : 500 ≤ 600) rfl h0 c_328 (fun z => absurd z.2.1 (by decide))
              refine j_aload_n h 332 rfl rfl dX11_isLine_331 ?_
              refine j_iload_n h 333 rfl rfl dX11_isLine_332 ?_
              refine j_iconst h 334 rfl (nI 2) (by decide) dX11_isLine_333 ?_
              refine j_iaddN h 335 rfl dX11_isLine_334 ?_
              refine j_iconst h 336 rfl (nI 0) (by decide) dX11_isLine_335 ?_
              refine j_sipush h 339 rfl (nI 500) (by decide) dX11_isLine_336 ?_
              refine j_callVX h 342 rfl lkX11_174 sh_93 rfl rfl (t_X11_isNumber _ L _ hL ((hI1.1.2 15 (by decide)).trans eL1) hI1.2.2.2.1 hI1.2.2.1 _ (by omega) _) rfl rfl rfl dX11_isLine_339 (fun x1 MM1 h1 => ?_)
              refine j_top h1.1 ?_
              refine j_if_eqB h 362 345 dX11_isLine_342 (by decide) rfl (fun c_342 => ?_) (fun c_342 => ?_)
              · have hZ := rmI_bad (i := 1) hI1 (by decide) (by decide) (by decide) h1 c_342
                refine j_iconst h 363 rfl (nI 0) (by decide) dX11_isLine_362 ?_
                exact j_ret h hr (by decide) dX11_isLine_363 ⟨_, rfl, li_of hf1 hf2 hk9 (by decide) hw1 (by first | exact hZ | exact rmI_end hI3 (Or.inr ⟨by decide, by decide⟩))⟩
              · have hI2 := rmI_step (i := 1) hI1 (by decide) (by decide) (by decide : 500 ≤ 600) rfl h1 c_342 (fun z => absurd z.1 (by decide))
                refine j_aload_n h 346 rfl rfl dX11_isLine_345 ?_
                refine j_iload_n h 347 rfl rfl dX11_isLine_346 ?_
                refine j_iconst h 348 rfl (nI 3) (by decide) dX11_isLine_347 ?_
                refine j_iaddN h 349 rfl dX11_isLine_348 ?_
                refine j_iconst h 350 rfl (nI 0) (by decide) dX11_isLine_349 ?_
                refine j_bipush h 352 rfl (nI 50) (by decide) dX11_isLine_350 ?_
                refine j_callVX h 355 rfl lkX11_174 sh_93 rfl rfl (t_X11_isNumber _ L _ hL ((hI2.1.2 15 (by decide)).trans eL1) hI2.2.2.2.1 hI2.2.2.1 _ (by omega) _) rfl rfl rfl dX11_isLine_352 (fun x2 MM2 h2 => ?_)
                refine j_top h2.1 ?_
                refine j_if_eqB h 362 358 dX11_isLine_355 (by decide) rfl (fun c_355 => ?_) (fun c_355 => ?_)
                · have hZ := rmI_bad (i := 2) hI2 (by decide) (by decide) (by decide) h2 c_355
                  refine j_iconst h 363 rfl (nI 0) (by decide) dX11_isLine_362 ?_
                  exact j_ret h hr (by decide) dX11_isLine_363 ⟨_, rfl, li_of hf1 hf2 hk9 (by decide) hw1 (by first | exact hZ | exact rmI_end hI3 (Or.inr ⟨by decide, by decide⟩))⟩
                · have hI3 := rmI_step (i := 2) hI2 (by decide) (by decide) (by decide : 50 ≤ 600) rfl h2 c_355 (fun z => absurd z.2.1 (by decide))
                  refine j_iconst h 359 rfl (nI 1) (by decide) dX11_isLine_358 ?_
                  refine j_goto h 363 dX11_isLine_359 (by decide) ?_
                  exact j_ret h hr (by decide) dX11_isLine_363 ⟨_, rfl, li_of hf1 hf2 hk9 (by decide) hw1 (by first | exact hZ | exact rmI_end hI3 (Or.inr ⟨by decide, by decide⟩))⟩
          | 3, ht9 =>
            cases ht9
            have hk9 : wK (M 99) L p = 3 := kd_k wK_le (by decide) c_184
            rw [c_184] at hw1
            have hI0 := rmI_0 (L := L) (k := 3) (w := w) hT9 hf4
            refine j_aload_n h 365 rfl rfl dX11_isLine_364 ?_
            refine j_iload_n h 366 rfl rfl dX11_isLine_365 ?_
            refine j_iconst h 367 rfl (nI 1) (by decide) dX11_isLine_366 ?_
            refine j_iaddN h 368 rfl dX11_isLine_367 ?_
            refine j_iconst h 369 rfl (nI 0) (by decide) dX11_isLine_368 ?_
            refine j_bipush h 371 rfl (nI 99) (by decide) dX11_isLine_369 ?_
            refine j_callVX h 374 rfl lkX11_174 sh_93 rfl rfl (t_X11_isNumber _ L _ hL ((hI0.1.2 15 (by decide)).trans eL1) hI0.2.2.2.1 hI0.2.2.1 _ (by omega) _) rfl rfl rfl dX11_isLine_371 (fun x0 MM0 h0 => ?_)
            have hZ := rmI_last (i := 0) hI0 (by decide) (by decide) (by decide : 99 ≤ 600) rfl h0 (fun z => absurd z.2 (by decide)) (Or.inr ⟨by decide, by decide⟩)
            refine j_top hZ.1 ?_
            exact j_ret h hr hb_nar dX11_isLine_374 ⟨_, rfl, li_of hf1 hf2 hk9 (by decide) hw1 (by rw [← hZ.1]; exact hZ)⟩
          | 4, ht9 =>
            cases ht9
            have hk9 : wK (M 99) L p = 4 := kd_k wK_le (by decide) c_184
            rw [c_184] at hw1
            have hI0 := rmI_0 (L := L) (k := 4) (w := w) hT9 hf4
            refine j_aload_n h 376 rfl rfl dX11_isLine_375 ?_
            refine j_iload_n h 377 rfl rfl dX11_isLine_376 ?_
            refine j_iconst h 378 rfl (nI 1) (by decide) dX11_isLine_377 ?_
            refine j_iaddN h 379 rfl dX11_isLine_378 ?_
            refine j_iconst h 380 rfl (nI 0) (by decide) dX11_isLine_379 ?_
            refine j_bipush h 382 rfl (nI 40) (by decide) dX11_isLine_380 ?_
            refine j_callVX h 385 rfl lkX11_174 sh_93 rfl rfl (t_X11_isNumber _ L _ hL ((hI0.1.2 15 (by decide)).trans eL1) hI0.2.2.2.1 hI0.2.2.1 _ (by omega) _) rfl rfl rfl dX11_isLine_382 (fun x0 MM0 h0 => ?_)
            refine j_top h0.1 ?_
            refine j_if_eqB h 431 388 dX11_isLine_385 (by decide) rfl (fun c_385 => ?_) (fun c_385 => ?_)
            · have hZ := rmI_bad (i := 0) hI0 (by decide) (by decide) (by decide) h0 c_385
              refine j_iconst h 432 rfl (nI 0) (by decide) dX11_isLine_431 ?_
              exact j_ret h hr (by decide) dX11_isLine_432 ⟨_, rfl, li_of hf1 hf2 hk9 (by decide) hw1 (by first | exact hZ | exact rmI_end hI4 (Or.inr ⟨by decide, by decide⟩))⟩
            · have hI1 := rmI_step (i := 0) hI0 (by decide) (by decide) (by decide : 40 ≤ 600) rfl h0 c_385 (fun z => absurd z.2.1 (by decide))
              refine j_aload_n h 389 rfl rfl dX11_isLine_388 ?_
              refine j_iload_n h 390 rfl rfl dX11_isLine_389 ?_
              refine j_iconst h 391 rfl (nI 2) (by decide) dX11_isLine_390 ?_
              refine j_iaddN h 392 rfl dX11_isLine_391 ?_
              refine j_iconst h 393 rfl (nI 0) (by decide) dX11_isLine_392 ?_
              refine j_bipush h 395 rfl (nI 40) (by decide) dX11_isLine_393 ?_
              refine j_callVX h 398 rfl lkX11_174 sh_93 rfl rfl (t_X11_isNumber _ L _ hL ((hI1.1.2 15 (by decide)).trans eL1) hI1.2.2.2.1 hI1.2.2.1 _ (by omega) _) rfl rfl rfl dX11_isLine_395 (fun x1 MM1 h1 => ?_)
              refine j_top h1.1 ?_
              refine j_if_eqB h 431 401 dX11_isLine_398 (by decide) rfl (fun c_398 => ?_) (fun c_398 => ?_)
              · have hZ := rmI_bad (i := 1) hI1 (by decide) (by decide) (by decide) h1 c_398
                refine j_iconst h 432 rfl (nI 0) (by decide) dX11_isLine_431 ?_
                exact j_ret h hr (by decide) dX11_isLine_432 ⟨_, rfl, li_of hf1 hf2 hk9 (by decide) hw1 (by first | exact hZ | exact rmI_end hI4 (Or.inr ⟨by decide, by decide⟩))⟩
              · have hI2 := rmI_step (i := 1) hI1 (by decide) (by decide) (by decide : 40 ≤ 600) rfl h1 c_398 (fun z => absurd z.1 (by decide))
                refine j_aload_n h 402 rfl rfl dX11_isLine_401 ?_
                refine j_iload_n h 403 rfl rfl dX11_isLine_402 ?_
                refine j_iconst h 404 rfl (nI 3) (by decide) dX11_isLine_403 ?_
                refine j_iaddN h 405 rfl dX11_isLine_404 ?_
                refine j_iconst h 406 rfl (nI 0) (by decide) dX11_isLine_405 ?_
                refine j_bipush h 408 rfl (nI 20) (by decide) dX11_isLine_406 ?_
                refine j_callVX h 411 rfl lkX11_174 sh_93 rfl rfl (t_X11_isNumber _ L _ hL ((hI2.1.2 15 (by decide)).trans eL1) hI2.2.2.2.1 hI2.2.2.1 _ (by omega) _) rfl rfl rfl dX11_isLine_408 (fun x2 MM2 h2 => ?_)
                refine j_top h2.1 ?_
                refine j_if_eqB h 431 414 dX11_isLine_411 (by decide) rfl (fun c_411 => ?_) (fun c_411 => ?_)
                · have hZ := rmI_bad (i := 2) hI2 (by decide) (by decide) (by decide) h2 c_411
                  refine j_iconst h 432 rfl (nI 0) (by decide) dX11_isLine_431 ?_
                  exact j_ret h hr (by decide) dX11_isLine_432 ⟨_, rfl, li_of hf1 hf2 hk9 (by decide) hw1 (by first | exact hZ | exact rmI_end hI4 (Or.inr ⟨by decide, by decide⟩))⟩
                · have hI3 := rmI_step (i := 2) hI2 (by decide) (by decide) (by decide : 20 ≤ 600) rfl h2 c_411 (fun z => absurd z.2.1 (by decide))
                  refine j_aload_n h 415 rfl rfl dX11_isLine_414 ?_
                  refine j_iload_n h 416 rfl rfl dX11_isLine_415 ?_
                  refine j_iconst h 417 rfl (nI 4) (by decide) dX11_isLine_416 ?_
                  refine j_iaddN h 418 rfl dX11_isLine_417 ?_
                  refine j_iconst h 419 rfl (nI 0) (by decide) dX11_isLine_418 ?_
                  refine j_bipush h 421 rfl (nI 40) (by decide) dX11_isLine_419 ?_
                  refine j_callVX h 424 rfl lkX11_174 sh_93 rfl rfl (t_X11_isNumber _ L _ hL ((hI3.1.2 15 (by decide)).trans eL1) hI3.2.2.2.1 hI3.2.2.1 _ (by omega) _) rfl rfl rfl dX11_isLine_421 (fun x3 MM3 h3 => ?_)
                  refine j_top h3.1 ?_
                  refine j_if_eqB h 431 427 dX11_isLine_424 (by decide) rfl (fun c_424 => ?_) (fun c_424 => ?_)
                  · have hZ := rmI_bad (i := 3) hI3 (by decide) (by decide) (by decide) h3 c_424
                    refine j_iconst h 432 rfl (nI 0) (by decide) dX11_isLine_431 ?_
                    exact j_ret h hr (by decide) dX11_isLine_432 ⟨_, rfl, li_of hf1 hf2 hk9 (by decide) hw1 (by first | exact hZ | exact rmI_end hI4 (Or.inr ⟨by decide, by decide⟩))⟩
                  · have hI4 := rmI_step (i := 3) hI3 (by decide) (by decide) (by decide : 40 ≤ 600) rfl h3 c_424 (fun z => absurd z.2.1 (by decide))
                    refine j_iconst h 428 rfl (nI 1) (by decide) dX11_isLine_427 ?_
                    refine j_goto h 432 dX11_isLine_428 (by decide) ?_
                    exact j_ret h hr (by decide) dX11_isLine_432 ⟨_, rfl, li_of hf1 hf2 hk9 (by decide) hw1 (by first | exact hZ | exact rmI_end hI4 (Or.inr ⟨by decide, by decide⟩))⟩
          | 5, ht9 =>
            cases ht9
            have hk9 : wK (M 99) L p = 5 := kd_k wK_le (by decide) c_184
            rw [c_184] at hw1
            have hI0 := rmI_0 (L := L) (k := 5) (w := w) hT9 hf4
            refine j_aload_n h 434 rfl rfl dX11_isLine_433 ?_
            refine j_iload_n h 435 rfl rfl dX11_isLine_434 ?_
            refine j_iconst h 436 rfl (nI 1) (by decide) dX11_isLine_435 ?_
            refine j_iaddN h 437 rfl dX11_isLine_436 ?_
            refine j_iconst h 438 rfl (nI 0) (by decide) dX11_isLine_437 ?_
            refine j_iconst h 439 rfl (nI 4) (by decide) dX11_isLine_438 ?_
            refine j_callVX h 442 rfl lkX11_174 sh_93 rfl rfl (t_X11_isNumber _ L _ hL ((hI0.1.2 15 (by decide)).trans eL1) hI0.2.2.2.1 hI0.2.2.1 _ (by omega) _) rfl rfl rfl dX11_isLine_439 (fun x0 MM0 h0 => ?_)
            refine j_top h0.1 ?_
            refine j_if_eqB h 461 445 dX11_isLine_442 (by decide) rfl (fun c_442 => ?_) (fun c_442 => ?_)
            · have hZ := rmI_bad (i := 0) hI0 (by decide) (by decide) (by decide) h0 c_442
              refine j_iconst h 462 rfl (nI 0) (by decide) dX11_isLine_461 ?_
              exact j_ret h hr (by decide) dX11_isLine_462 ⟨_, rfl, li_of hf1 hf2 hk9 (by decide) hw1 (by first | exact hZ | exact rmI_end hI2 (Or.inr ⟨by decide, by decide⟩))⟩
            · have hI1 := rmI_step (i := 0) hI0 (by decide) (by decide) (by decide : 4 ≤ 600) rfl h0 c_442 (fun z => absurd z.2.1 (by decide))
              refine j_aload_n h 446 rfl rfl dX11_isLine_445 ?_
              refine j_iload_n h 447 rfl rfl dX11_isLine_446 ?_
              refine j_iconst h 448 rfl (nI 2) (by decide) dX11_isLine_447 ?_
              refine j_iaddN h 449 rfl dX11_isLine_448 ?_
              refine j_iconst h 450 rfl (nI 0) (by decide) dX11_isLine_449 ?_
              refine j_iconst h 451 rfl (nI 3) (by decide) dX11_isLine_450 ?_
              refine j_callVX h 454 rfl lkX11_174 sh_93 rfl rfl (t_X11_isNumber _ L _ hL ((hI1.1.2 15 (by decide)).trans eL1) hI1.2.2.2.1 hI1.2.2.1 _ (by omega) _) rfl rfl rfl dX11_isLine_451 (fun x1 MM1 h1 => ?_)
              refine j_top h1.1 ?_
              refine j_if_eqB h 461 457 dX11_isLine_454 (by decide) rfl (fun c_454 => ?_) (fun c_454 => ?_)
              · have hZ := rmI_bad (i := 1) hI1 (by decide) (by decide) (by decide) h1 c_454
                refine j_iconst h 462 rfl (nI 0) (by decide) dX11_isLine_461 ?_
                exact j_ret h hr (by decide) dX11_isLine_462 ⟨_, rfl, li_of hf1 hf2 hk9 (by decide) hw1 (by first | exact hZ | exact rmI_end hI2 (Or.inr ⟨by decide, by decide⟩))⟩
              · have hI2 := rmI_step (i := 1) hI1 (by decide) (by decide) (by decide : 3 ≤ 600) rfl h1 c_454 (fun z => absurd z.1 (by decide))
                refine j_iconst h 458 rfl (nI 1) (by decide) dX11_isLine_457 ?_
                refine j_goto h 462 dX11_isLine_458 (by decide) ?_
                exact j_ret h hr (by decide) dX11_isLine_462 ⟨_, rfl, li_of hf1 hf2 hk9 (by decide) hw1 (by first | exact hZ | exact rmI_end hI2 (Or.inr ⟨by decide, by decide⟩))⟩
          | 6, ht9 =>
            cases ht9
            have hk9 : wK (M 99) L p = 6 := kd_k wK_le (by decide) c_184
            rw [c_184] at hw1
            have hI0 := rmI_0 (L := L) (k := 6) (w := w) hT9 hf4
            refine j_aload_n h 464 rfl rfl dX11_isLine_463 ?_
            refine j_iload_n h 465 rfl rfl dX11_isLine_464 ?_
            refine j_iconst h 466 rfl (nI 1) (by decide) dX11_isLine_465 ?_
            refine j_iaddN h 467 rfl dX11_isLine_466 ?_
            refine j_iconst h 468 rfl (nI 0) (by decide) dX11_isLine_467 ?_
            refine j_iconst h 469 rfl (nI 4) (by decide) dX11_isLine_468 ?_
            refine j_callVX h 472 rfl lkX11_174 sh_93 rfl rfl (t_X11_isNumber _ L _ hL ((hI0.1.2 15 (by decide)).trans eL1) hI0.2.2.2.1 hI0.2.2.1 _ (by omega) _) rfl rfl rfl dX11_isLine_469 (fun x0 MM0 h0 => ?_)
            refine j_top h0.1 ?_
            refine j_if_eqB h 505 475 dX11_isLine_472 (by decide) rfl (fun c_472 => ?_) (fun c_472 => ?_)
            · have hZ := rmI_bad (i := 0) hI0 (by decide) (by decide) (by decide) h0 c_472
              refine j_iconst h 506 rfl (nI 0) (by decide) dX11_isLine_505 ?_
              exact j_ret h hr (by decide) dX11_isLine_506 ⟨_, rfl, li_of hf1 hf2 hk9 (by decide) hw1 (by first | exact hZ | exact rmI_end hI3 (Or.inr ⟨by decide, by decide⟩))⟩
            · have hI1 := rmI_step (i := 0) hI0 (by decide) (by decide) (by decide : 4 ≤ 600) rfl h0 c_472 (fun z => absurd z.2.1 (by decide))
              refine j_aload_n h 476 rfl rfl dX11_isLine_475 ?_
              refine j_iload_n h 477 rfl rfl dX11_isLine_476 ?_
              refine j_iconst h 478 rfl (nI 2) (by decide) dX11_isLine_477 ?_
              refine j_iaddN h 479 rfl dX11_isLine_478 ?_
              refine j_iconst h 480 rfl (nI 0) (by decide) dX11_isLine_479 ?_
              refine j_bipush h 482 rfl (nI 23) (by decide) dX11_isLine_480 ?_
              refine j_callVX h 485 rfl lkX11_174 sh_93 rfl rfl (t_X11_isNumber _ L _ hL ((hI1.1.2 15 (by decide)).trans eL1) hI1.2.2.2.1 hI1.2.2.1 _ (by omega) _) rfl rfl rfl dX11_isLine_482 (fun x1 MM1 h1 => ?_)
              refine j_top h1.1 ?_
              refine j_if_eqB h 505 488 dX11_isLine_485 (by decide) rfl (fun c_485 => ?_) (fun c_485 => ?_)
              · have hZ := rmI_bad (i := 1) hI1 (by decide) (by decide) (by decide) h1 c_485
                refine j_iconst h 506 rfl (nI 0) (by decide) dX11_isLine_505 ?_
                exact j_ret h hr (by decide) dX11_isLine_506 ⟨_, rfl, li_of hf1 hf2 hk9 (by decide) hw1 (by first | exact hZ | exact rmI_end hI3 (Or.inr ⟨by decide, by decide⟩))⟩
              · have hI2 := rmI_step (i := 1) hI1 (by decide) (by decide) (by decide : 23 ≤ 600) rfl h1 c_485 (fun z => absurd z.1 (by decide))
                refine j_aload_n h 489 rfl rfl dX11_isLine_488 ?_
                refine j_iload_n h 490 rfl rfl dX11_isLine_489 ?_
                refine j_iconst h 491 rfl (nI 3) (by decide) dX11_isLine_490 ?_
                refine j_iaddN h 492 rfl dX11_isLine_491 ?_
                refine j_iconst h 493 rfl (nI 0) (by decide) dX11_isLine_492 ?_
                refine j_bipush h 495 rfl (nI 23) (by decide) dX11_isLine_493 ?_
                refine j_callVX h 498 rfl lkX11_174 sh_93 rfl rfl (t_X11_isNumber _ L _ hL ((hI2.1.2 15 (by decide)).trans eL1) hI2.2.2.2.1 hI2.2.2.1 _ (by omega) _) rfl rfl rfl dX11_isLine_495 (fun x2 MM2 h2 => ?_)
                refine j_top h2.1 ?_
                refine j_if_eqB h 505 501 dX11_isLine_498 (by decide) rfl (fun c_498 => ?_) (fun c_498 => ?_)
                · have hZ := rmI_bad (i := 2) hI2 (by decide) (by decide) (by decide) h2 c_498
                  refine j_iconst h 506 rfl (nI 0) (by decide) dX11_isLine_505 ?_
                  exact j_ret h hr (by decide) dX11_isLine_506 ⟨_, rfl, li_of hf1 hf2 hk9 (by decide) hw1 (by first | exact hZ | exact rmI_end hI3 (Or.inr ⟨by decide, by decide⟩))⟩
                · have hI3 := rmI_step (i := 2) hI2 (by decide) (by decide) (by decide : 23 ≤ 600) rfl h2 c_498 (fun z => absurd z.2.1 (by decide))
                  refine j_iconst h 502 rfl (nI 1) (by decide) dX11_isLine_501 ?_
                  refine j_goto h 506 dX11_isLine_502 (by decide) ?_
                  exact j_ret h hr (by decide) dX11_isLine_506 ⟨_, rfl, li_of hf1 hf2 hk9 (by decide) hw1 (by first | exact hZ | exact rmI_end hI3 (Or.inr ⟨by decide, by decide⟩))⟩
          | 7, ht9 =>
            cases ht9
            have hk9 : wK (M 99) L p = 7 := kd_k wK_le (by decide) c_184
            rw [c_184] at hw1
            have hI0 := rmI_0 (L := L) (k := 7) (w := w) hT9 hf4
            refine j_aload_n h 464 rfl rfl dX11_isLine_463 ?_
            refine j_iload_n h 465 rfl rfl dX11_isLine_464 ?_
            refine j_iconst h 466 rfl (nI 1) (by decide) dX11_isLine_465 ?_
            refine j_iaddN h 467 rfl dX11_isLine_466 ?_
            refine j_iconst h 468 rfl (nI 0) (by decide) dX11_isLine_467 ?_
            refine j_iconst h 469 rfl (nI 4) (by decide) dX11_isLine_468 ?_
            refine j_callVX h 472 rfl lkX11_174 sh_93 rfl rfl (t_X11_isNumber _ L _ hL ((hI0.1.2 15 (by decide)).trans eL1) hI0.2.2.2.1 hI0.2.2.1 _ (by omega) _) rfl rfl rfl dX11_isLine_469 (fun x0 MM0 h0 => ?_)
            refine j_top h0.1 ?_
            refine j_if_eqB h 505 475 dX11_isLine_472 (by decide) rfl (fun c_472 => ?_) (fun c_472 => ?_)
            · have hZ := rmI_bad (i := 0) hI0 (by decide) (by decide) (by decide) h0 c_472
              refine j_iconst h 506 rfl (nI 0) (by decide) dX11_isLine_505 ?_
              exact j_ret h hr (by decide) dX11_isLine_506 ⟨_, rfl, li_of hf1 hf2 hk9 (by decide) hw1 (by first | exact hZ | exact rmI_end hI3 (Or.inr ⟨by decide, by decide⟩))⟩
            · have hI1 := rmI_step (i := 0) hI0 (by decide) (by decide) (by decide : 4 ≤ 600) rfl h0 c_472 (fun z => absurd z.2.1 (by decide))
              refine j_aload_n h 476 rfl rfl dX11_isLine_475 ?_
              refine j_iload_n h 477 rfl rfl dX11_isLine_476 ?_
              refine j_iconst h 478 rfl (nI 2) (by decide) dX11_isLine_477 ?_
              refine j_iaddN h 479 rfl dX11_isLine_478 ?_
              refine j_iconst h 480 rfl (nI 0) (by decide) dX11_isLine_479 ?_
              refine j_bipush h 482 rfl (nI 23) (by decide) dX11_isLine_480 ?_
              refine j_callVX h 485 rfl lkX11_174 sh_93 rfl rfl (t_X11_isNumber _ L _ hL ((hI1.1.2 15 (by decide)).trans eL1) hI1.2.2.2.1 hI1.2.2.1 _ (by omega) _) rfl rfl rfl dX11_isLine_482 (fun x1 MM1 h1 => ?_)
              refine j_top h1.1 ?_
              refine j_if_eqB h 505 488 dX11_isLine_485 (by decide) rfl (fun c_485 => ?_) (fun c_485 => ?_)
              · have hZ := rmI_bad (i := 1) hI1 (by decide) (by decide) (by decide) h1 c_485
                refine j_iconst h 506 rfl (nI 0) (by decide) dX11_isLine_505 ?_
                exact j_ret h hr (by decide) dX11_isLine_506 ⟨_, rfl, li_of hf1 hf2 hk9 (by decide) hw1 (by first | exact hZ | exact rmI_end hI3 (Or.inr ⟨by decide, by decide⟩))⟩
              · have hI2 := rmI_step (i := 1) hI1 (by decide) (by decide) (by decide : 23 ≤ 600) rfl h1 c_485 (fun z => absurd z.1 (by decide))
                refine j_aload_n h 489 rfl rfl dX11_isLine_488 ?_
                refine j_iload_n h 490 rfl rfl dX11_isLine_489 ?_
                refine j_iconst h 491 rfl (nI 3) (by decide) dX11_isLine_490 ?_
                refine j_iaddN h 492 rfl dX11_isLine_491 ?_
                refine j_iconst h 493 rfl (nI 0) (by decide) dX11_isLine_492 ?_
                refine j_bipush h 495 rfl (nI 23) (by decide) dX11_isLine_493 ?_
                refine j_callVX h 498 rfl lkX11_174 sh_93 rfl rfl (t_X11_isNumber _ L _ hL ((hI2.1.2 15 (by decide)).trans eL1) hI2.2.2.2.1 hI2.2.2.1 _ (by omega) _) rfl rfl rfl dX11_isLine_495 (fun x2 MM2 h2 => ?_)
                refine j_top h2.1 ?_
                refine j_if_eqB h 505 501 dX11_isLine_498 (by decide) rfl (fun c_498 => ?_) (fun c_498 => ?_)
                · have hZ := rmI_bad (i := 2) hI2 (by decide) (by decide) (by decide) h2 c_498
                  refine j_iconst h 506 rfl (nI 0) (by decide) dX11_isLine_505 ?_
                  exact j_ret h hr (by decide) dX11_isLine_506 ⟨_, rfl, li_of hf1 hf2 hk9 (by decide) hw1 (by first | exact hZ | exact rmI_end hI3 (Or.inr ⟨by decide, by decide⟩))⟩
                · have hI3 := rmI_step (i := 2) hI2 (by decide) (by decide) (by decide : 23 ≤ 600) rfl h2 c_498 (fun z => absurd z.2.1 (by decide))
                  refine j_iconst h 502 rfl (nI 1) (by decide) dX11_isLine_501 ?_
                  refine j_goto h 506 dX11_isLine_502 (by decide) ?_
                  exact j_ret h hr (by decide) dX11_isLine_506 ⟨_, rfl, li_of hf1 hf2 hk9 (by decide) hw1 (by first | exact hZ | exact rmI_end hI3 (Or.inr ⟨by decide, by decide⟩))⟩
          | 8, ht9 =>
            cases ht9
            have hk9 : wK (M 99) L p = 8 := kd_k wK_le (by decide) c_184
            rw [c_184] at hw1
            have hI0 := rmI_0 (L := L) (k := 8) (w := w) hT9 hf4
            refine j_aload_n h 508 rfl rfl dX11_isLine_507 ?_
            refine j_iload_n h 509 rfl rfl dX11_isLine_508 ?_
            refine j_iconst h 510 rfl (nI 1) (by decide) dX11_isLine_509 ?_
            refine j_iaddN h 511 rfl dX11_isLine_510 ?_
            refine j_iconst h 512 rfl (nI 0) (by decide) dX11_isLine_511 ?_
            refine j_bipush h 514 rfl (nI 23) (by decide) dX11_isLine_512 ?_
            refine j_callVX h 517 rfl lkX11_174 sh_93 rfl rfl (t_X11_isNumber _ L _ hL ((hI0.1.2 15 (by decide)).trans eL1) hI0.2.2.2.1 hI0.2.2.1 _ (by omega) _) rfl rfl rfl dX11_isLine_514 (fun x0 MM0 h0 => ?_)
            refine j_top h0.1 ?_
            refine j_if_eqB h 537 520 dX11_isLine_517 (by decide) rfl (fun c_517 => ?_) (fun c_517 => ?_)
            · have hZ := rmI_bad (i := 0) hI0 (by decide) (by decide) (by decide) h0 c_517
              refine j_iconst h 538 rfl (nI 0) (by decide) dX11_isLine_537 ?_
              exact j_ret h hr (by decide) dX11_isLine_538 ⟨_, rfl, li_of hf1 hf2 hk9 (by decide) hw1 (by first | exact hZ | exact rmI_end hI2 (Or.inr ⟨by decide, by decide⟩))⟩
            · have hI1 := rmI_step (i := 0) hI0 (by decide) (by decide) (by decide : 23 ≤ 600) rfl h0 c_517 (fun z => absurd z.2.1 (by decide))
              refine j_aload_n h 521 rfl rfl dX11_isLine_520 ?_
              refine j_iload_n h 522 rfl rfl dX11_isLine_521 ?_
              refine j_iconst h 523 rfl (nI 2) (by decide) dX11_isLine_522 ?_
              refine j_iaddN h 524 rfl dX11_isLine_523 ?_
              refine j_iconst h 525 rfl (nI 0) (by decide) dX11_isLine_524 ?_
              refine j_bipush h 527 rfl (nI 23) (by decide) dX11_isLine_525 ?_
              refine j_callVX h 530 rfl lkX11_174 sh_93 rfl rfl (t_X11_isNumber _ L _ hL ((hI1.1.2 15 (by decide)).trans eL1) hI1.2.2.2.1 hI1.2.2.1 _ (by omega) _) rfl rfl rfl dX11_isLine_527 (fun x1 MM1 h1 => ?_)
              refine j_top h1.1 ?_
              refine j_if_eqB h 537 533 dX11_isLine_530 (by decide) rfl (fun c_530 => ?_) (fun c_530 => ?_)
              · have hZ := rmI_bad (i := 1) hI1 (by decide) (by decide) (by decide) h1 c_530
                refine j_iconst h 538 rfl (nI 0) (by decide) dX11_isLine_537 ?_
                exact j_ret h hr (by decide) dX11_isLine_538 ⟨_, rfl, li_of hf1 hf2 hk9 (by decide) hw1 (by first | exact hZ | exact rmI_end hI2 (Or.inr ⟨by decide, by decide⟩))⟩
              · have hI2 := rmI_step (i := 1) hI1 (by decide) (by decide) (by decide : 23 ≤ 600) rfl h1 c_530 (fun z => absurd z.1 (by decide))
                refine j_iconst h 534 rfl (nI 1) (by decide) dX11_isLine_533 ?_
                refine j_goto h 538 dX11_isLine_534 (by decide) ?_
                exact j_ret h hr (by decide) dX11_isLine_538 ⟨_, rfl, li_of hf1 hf2 hk9 (by decide) hw1 (by first | exact hZ | exact rmI_end hI2 (Or.inr ⟨by decide, by decide⟩))⟩
          | 9, ht9 =>
            cases ht9
            have hk9 : wK (M 99) L p = 9 := kd_k wK_le (by decide) c_184
            rw [c_184] at hw1
            have hI0 := rmI_0 (L := L) (k := 9) (w := w) hT9 hf4
            refine j_aload_n h 540 rfl rfl dX11_isLine_539 ?_
            refine j_iload_n h 541 rfl rfl dX11_isLine_540 ?_
            refine j_iconst h 542 rfl (nI 1) (by decide) dX11_isLine_541 ?_
            refine j_iaddN h 543 rfl dX11_isLine_542 ?_
            refine j_iconst h 544 rfl (nI 0) (by decide) dX11_isLine_543 ?_
            refine j_iconst h 545 rfl (nI 4) (by decide) dX11_isLine_544 ?_
            refine j_callVX h 548 rfl lkX11_174 sh_93 rfl rfl (t_X11_isNumber _ L _ hL ((hI0.1.2 15 (by decide)).trans eL1) hI0.2.2.2.1 hI0.2.2.1 _ (by omega) _) rfl rfl rfl dX11_isLine_545 (fun x0 MM0 h0 => ?_)
            have hZ := rmI_last (i := 0) hI0 (by decide) (by decide) (by decide : 4 ≤ 600) rfl h0 (fun z => absurd z.2 (by decide)) (Or.inr ⟨by decide, by decide⟩)
            refine j_top hZ.1 ?_
            exact j_ret h hr hb_nar dX11_isLine_548 ⟨_, rfl, li_of hf1 hf2 hk9 (by decide) hw1 (by rw [← hZ.1]; exact hZ)⟩
          | n9 + 10, ht9 => cases ht9
        · have hk9 : wK (M 99) L p = 10 := kd_o wK_le (fun k hk z => tsw_out (n := 10) (by decide) c_184 k hk (by rw [z, Nat.zero_add]))
          refine j_aload_n h 550 rfl rfl dX11_isLine_549 ?_
          refine j_callVX h 553 rfl lkX11_170 sh_93 rfl rfl (t_X11_fails _) rfl rfl rfl dX11_isLine_550 (fun x8 M8 hM8 => ?_)
          obtain ⟨rfl, rfl⟩ := hM8
          exact j_ret h hr (by decide) dX11_isLine_553 ⟨_, rfl, li_no hf1 hf2 hf3 hk9⟩
      refine j_iconst h 169 rfl (-1) (by decide) dX11_isLine_168 ?_
      refine j_icmp_ne h 176 172 dX11_isLine_169 (by decide) rfl (fun c_169 => ?_) (fun c_169 => ?_)
      · skip
        refine j_iload_n h 177 rfl rfl dX11_isLine_176 ?_
        exact K177 _ (by show _ = kdE (frs (mtB (M 99) (skB (M 99) L p) (wT (M 99) L p)) 10 0); rw [← kd_ab]; first | rw [if_neg c_169] | rw [if_pos c_169])
      · skip
        refine j_iload_n h 173 rfl rfl dX11_isLine_172 ?_
        refine j_goto h 177 dX11_isLine_173 (by decide) ?_
        exact K177 _ (by show _ = kdE (frs (mtB (M 99) (skB (M 99) L p) (wT (M 99) L p)) 10 0); rw [← kd_ab]; first | rw [if_neg c_169] | rw [if_pos c_169])
    refine j_aload_n h 82 rfl rfl dX11_isLine_81 ?_
    refine j_getL h 85 rfl glX11_150 sh_93 rfl dX11_isLine_82 ?_
    refine j_topL hM9.2.2.2.2.1 ?_
    refine j_ldc2 h 88 rfl (4272932) cnX11_187 dX11_isLine_85 ?_
    refine j_lcmp h 89 rfl dX11_isLine_88 ?_
    refine j_if_ne h 96 92 dX11_isLine_89 (by decide) rfl (fun c_89 => ?_) (fun c_89 => ?_)
    · have m5 : ¬ mtB (M 99) (skB (M 99) L p) (wT (M 99) L p) 5 = true := fun z => c_89 ((lg_cmp_eq _ _).mpr (((tok_W (k := 5) (by decide) hs9).mpr z).trans (show nL (wN 5 (hLen.getD 5 0)) = (4272932 : Int64) by decide)))
      refine j_aload_n h 97 rfl rfl dX11_isLine_96 ?_
      refine j_getL h 100 rfl glX11_150 sh_93 rfl dX11_isLine_97 ?_
      refine j_topL hM9.2.2.2.2.1 ?_
      refine j_ldc2 h 103 rfl (307058) cnX11_189 dX11_isLine_100 ?_
      refine j_lcmp h 104 rfl dX11_isLine_103 ?_
      refine j_if_ne h 112 107 dX11_isLine_104 (by decide) rfl (fun c_104 => ?_) (fun c_104 => ?_)
      · have m6 : ¬ mtB (M 99) (skB (M 99) L p) (wT (M 99) L p) 6 = true := fun z => c_104 ((lg_cmp_eq _ _).mpr (((tok_W (k := 6) (by decide) hs9).mpr z).trans (show nL (wN 6 (hLen.getD 6 0)) = (307058 : Int64) by decide)))
        refine j_aload_n h 113 rfl rfl dX11_isLine_112 ?_
        refine j_getL h 116 rfl glX11_150 sh_93 rfl dX11_isLine_113 ?_
        refine j_topL hM9.2.2.2.2.1 ?_
        refine j_ldc2 h 119 rfl (380396) cnX11_191 dX11_isLine_116 ?_
        refine j_lcmp h 120 rfl dX11_isLine_119 ?_
        refine j_if_ne h 128 123 dX11_isLine_120 (by decide) rfl (fun c_120 => ?_) (fun c_120 => ?_)
        · have m7 : ¬ mtB (M 99) (skB (M 99) L p) (wT (M 99) L p) 7 = true := fun z => c_120 ((lg_cmp_eq _ _).mpr (((tok_W (k := 7) (by decide) hs9).mpr z).trans (show nL (wN 7 (hLen.getD 7 0)) = (380396 : Int64) by decide)))
          refine j_aload_n h 129 rfl rfl dX11_isLine_128 ?_
          refine j_getL h 132 rfl glX11_150 sh_93 rfl dX11_isLine_129 ?_
          refine j_topL hM9.2.2.2.2.1 ?_
          refine j_ldc2 h 135 rfl (168755) cnX11_193 dX11_isLine_132 ?_
          refine j_lcmp h 136 rfl dX11_isLine_135 ?_
          refine j_if_ne h 144 139 dX11_isLine_136 (by decide) rfl (fun c_136 => ?_) (fun c_136 => ?_)
          · have m8 : ¬ mtB (M 99) (skB (M 99) L p) (wT (M 99) L p) 8 = true := fun z => c_136 ((lg_cmp_eq _ _).mpr (((tok_W (k := 8) (by decide) hs9).mpr z).trans (show nL (wN 8 (hLen.getD 8 0)) = (168755 : Int64) by decide)))
            refine j_aload_n h 145 rfl rfl dX11_isLine_144 ?_
            refine j_getL h 148 rfl glX11_150 sh_93 rfl dX11_isLine_145 ?_
            refine j_topL hM9.2.2.2.2.1 ?_
            refine j_ldc2 h 151 rfl (40586) cnX11_195 dX11_isLine_148 ?_
            refine j_lcmp h 152 rfl dX11_isLine_151 ?_
            refine j_if_ne h 160 155 dX11_isLine_152 (by decide) rfl (fun c_152 => ?_) (fun c_152 => ?_)
            · have m9 : ¬ mtB (M 99) (skB (M 99) L p) (wT (M 99) L p) 9 = true := fun z => c_152 ((lg_cmp_eq _ _).mpr (((tok_W (k := 9) (by decide) hs9).mpr z).trans (show nL (wN 9 (hLen.getD 9 0)) = (40586 : Int64) by decide)))
              refine j_iconst h 161 rfl (-1) (by decide) dX11_isLine_160 ?_
              exact K161 _ (by unfold kB; first | rw [if_neg m5, if_neg m6, if_neg m7, if_neg m8, if_neg m9] | rw [if_neg m5, if_neg m6, if_neg m7, if_neg m8, if_pos m9] | rw [if_neg m5, if_neg m6, if_neg m7, if_pos m8] | rw [if_neg m5, if_neg m6, if_pos m7] | rw [if_neg m5, if_pos m6] | rw [if_pos m5])
            · have m9 : mtB (M 99) (skB (M 99) L p) (wT (M 99) L p) 9 = true := (tok_W (k := 9) (by decide) hs9).mp (((lg_cmp_eq _ _).mp c_152).trans (show (40586 : Int64) = nL (wN 9 (hLen.getD 9 0)) by decide))
              refine j_bipush h 157 rfl (nI 9) (by decide) dX11_isLine_155 ?_
              refine j_goto h 161 dX11_isLine_157 (by decide) ?_
              exact K161 _ (by unfold kB; first | rw [if_neg m5, if_neg m6, if_neg m7, if_neg m8, if_neg m9] | rw [if_neg m5, if_neg m6, if_neg m7, if_neg m8, if_pos m9] | rw [if_neg m5, if_neg m6, if_neg m7, if_pos m8] | rw [if_neg m5, if_neg m6, if_pos m7] | rw [if_neg m5, if_pos m6] | rw [if_pos m5])
          · have m8 : mtB (M 99) (skB (M 99) L p) (wT (M 99) L p) 8 = true := (tok_W (k := 8) (by decide) hs9).mp (((lg_cmp_eq _ _).mp c_136).trans (show (168755 : Int64) = nL (wN 8 (hLen.getD 8 0)) by decide))
            refine j_bipush h 141 rfl (nI 8) (by decide) dX11_isLine_139 ?_
            refine j_goto h 161 dX11_isLine_141 (by decide) ?_
            exact K161 _ (by unfold kB; first | rw [if_neg m5, if_neg m6, if_neg m7, if_neg m8, if_neg m9] | rw [if_neg m5, if_neg m6, if_neg m7, if_neg m8, if_pos m9] | rw [if_neg m5, if_neg m6, if_neg m7, if_pos m8] | rw [if_neg m5, if_neg m6, if_pos m7] | rw [if_neg m5, if_pos m6] | rw [if_pos m5])
        · have m7 : mtB (M 99) (skB (M 99) L p) (wT (M 99) L p) 7 = true := (tok_W (k := 7) (by decide) hs9).mp (((lg_cmp_eq _ _).mp c_120).trans (show (380396 : Int64) = nL (wN 7 (hLen.getD 7 0)) by decide))
          refine j_bipush h 125 rfl (nI 7) (by decide) dX11_isLine_123 ?_
          refine j_goto h 161 dX11_isLine_125 (by decide) ?_
          exact K161 _ (by unfold kB; first | rw [if_neg m5, if_neg m6, if_neg m7, if_neg m8, if_neg m9] | rw [if_neg m5, if_neg m6, if_neg m7, if_neg m8, if_pos m9] | rw [if_neg m5, if_neg m6, if_neg m7, if_pos m8] | rw [if_neg m5, if_neg m6, if_pos m7] | rw [if_neg m5, if_pos m6] | rw [if_pos m5])
      · have m6 : mtB (M 99) (skB (M 99) L p) (wT (M 99) L p) 6 = true := (tok_W (k := 6) (by decide) hs9).mp (((lg_cmp_eq _ _).mp c_104).trans (show (307058 : Int64) = nL (wN 6 (hLen.getD 6 0)) by decide))
        refine j_bipush h 109 rfl (nI 6) (by decide) dX11_isLine_107 ?_
        refine j_goto h 161 dX11_isLine_109 (by decide) ?_
        exact K161 _ (by unfold kB; first | rw [if_neg m5, if_neg m6, if_neg m7, if_neg m8, if_neg m9] | rw [if_neg m5, if_neg m6, if_neg m7, if_neg m8, if_pos m9] | rw [if_neg m5, if_neg m6, if_neg m7, if_pos m8] | rw [if_neg m5, if_neg m6, if_pos m7] | rw [if_neg m5, if_pos m6] | rw [if_pos m5])
    · have m5 : mtB (M 99) (skB (M 99) L p) (wT (M 99) L p) 5 = true := (tok_W (k := 5) (by decide) hs9).mp (((lg_cmp_eq _ _).mp c_89).trans (show (4272932 : Int64) = nL (wN 5 (hLen.getD 5 0)) by decide))
      refine j_iconst h 93 rfl (nI 5) (by decide) dX11_isLine_92 ?_
      refine j_goto h 161 dX11_isLine_93 (by decide) ?_
      exact K161 _ (by unfold kB; first | rw [if_neg m5, if_neg m6, if_neg m7, if_neg m8, if_neg m9] | rw [if_neg m5, if_neg m6, if_neg m7, if_neg m8, if_pos m9] | rw [if_neg m5, if_neg m6, if_neg m7, if_pos m8] | rw [if_neg m5, if_neg m6, if_pos m7] | rw [if_neg m5, if_pos m6] | rw [if_pos m5])
  refine j_aload_n h 5 rfl rfl dX11_isLine_4 ?_
  refine j_getL h 8 rfl glX11_150 sh_93 rfl dX11_isLine_5 ?_
  refine j_topL hM9.2.2.2.2.1 ?_
  refine j_ldc2 h 11 rfl (365647) cnX11_177 dX11_isLine_8 ?_
  refine j_lcmp h 12 rfl dX11_isLine_11 ?_
  refine j_if_ne h 19 15 dX11_isLine_12 (by decide) rfl (fun c_12 => ?_) (fun c_12 => ?_)
  · have m0 : ¬ mtB (M 99) (skB (M 99) L p) (wT (M 99) L p) 0 = true := fun z => c_12 ((lg_cmp_eq _ _).mpr (((tok_W (k := 0) (by decide) hs9).mpr z).trans (show nL (wN 0 (hLen.getD 0 0)) = (365647 : Int64) by decide)))
    refine j_aload_n h 20 rfl rfl dX11_isLine_19 ?_
    refine j_getL h 23 rfl glX11_150 sh_93 rfl dX11_isLine_20 ?_
    refine j_topL hM9.2.2.2.2.1 ?_
    refine j_ldc2 h 26 rfl (90090) cnX11_179 dX11_isLine_23 ?_
    refine j_lcmp h 27 rfl dX11_isLine_26 ?_
    refine j_if_ne h 34 30 dX11_isLine_27 (by decide) rfl (fun c_27 => ?_) (fun c_27 => ?_)
    · have m1 : ¬ mtB (M 99) (skB (M 99) L p) (wT (M 99) L p) 1 = true := fun z => c_27 ((lg_cmp_eq _ _).mpr (((tok_W (k := 1) (by decide) hs9).mpr z).trans (show nL (wN 1 (hLen.getD 1 0)) = (90090 : Int64) by decide)))
      refine j_aload_n h 35 rfl rfl dX11_isLine_34 ?_
      refine j_getL h 38 rfl glX11_150 sh_93 rfl dX11_isLine_35 ?_
      refine j_topL hM9.2.2.2.2.1 ?_
      refine j_ldc2 h 41 rfl (14173) cnX11_181 dX11_isLine_38 ?_
      refine j_lcmp h 42 rfl dX11_isLine_41 ?_
      refine j_if_ne h 49 45 dX11_isLine_42 (by decide) rfl (fun c_42 => ?_) (fun c_42 => ?_)
      · have m2 : ¬ mtB (M 99) (skB (M 99) L p) (wT (M 99) L p) 2 = true := fun z => c_42 ((lg_cmp_eq _ _).mpr (((tok_W (k := 2) (by decide) hs9).mpr z).trans (show nL (wN 2 (hLen.getD 2 0)) = (14173 : Int64) by decide)))
        refine j_aload_n h 50 rfl rfl dX11_isLine_49 ?_
        refine j_getL h 53 rfl glX11_150 sh_93 rfl dX11_isLine_50 ?_
        refine j_topL hM9.2.2.2.2.1 ?_
        refine j_ldc2 h 56 rfl (14432) cnX11_183 dX11_isLine_53 ?_
        refine j_lcmp h 57 rfl dX11_isLine_56 ?_
        refine j_if_ne h 64 60 dX11_isLine_57 (by decide) rfl (fun c_57 => ?_) (fun c_57 => ?_)
        · have m3 : ¬ mtB (M 99) (skB (M 99) L p) (wT (M 99) L p) 3 = true := fun z => c_57 ((lg_cmp_eq _ _).mpr (((tok_W (k := 3) (by decide) hs9).mpr z).trans (show nL (wN 3 (hLen.getD 3 0)) = (14432 : Int64) by decide)))
          refine j_aload_n h 65 rfl rfl dX11_isLine_64 ?_
          refine j_getL h 68 rfl glX11_150 sh_93 rfl dX11_isLine_65 ?_
          refine j_topL hM9.2.2.2.2.1 ?_
          refine j_ldc2 h 71 rfl (4562600) cnX11_185 dX11_isLine_68 ?_
          refine j_lcmp h 72 rfl dX11_isLine_71 ?_
          refine j_if_ne h 79 75 dX11_isLine_72 (by decide) rfl (fun c_72 => ?_) (fun c_72 => ?_)
          · have m4 : ¬ mtB (M 99) (skB (M 99) L p) (wT (M 99) L p) 4 = true := fun z => c_72 ((lg_cmp_eq _ _).mpr (((tok_W (k := 4) (by decide) hs9).mpr z).trans (show nL (wN 4 (hLen.getD 4 0)) = (4562600 : Int64) by decide)))
            refine j_iconst h 80 rfl (-1) (by decide) dX11_isLine_79 ?_
            exact K80 _ (by unfold kA; first | rw [if_neg m0, if_neg m1, if_neg m2, if_neg m3, if_neg m4] | rw [if_neg m0, if_neg m1, if_neg m2, if_neg m3, if_pos m4] | rw [if_neg m0, if_neg m1, if_neg m2, if_pos m3] | rw [if_neg m0, if_neg m1, if_pos m2] | rw [if_neg m0, if_pos m1] | rw [if_pos m0])
          · have m4 : mtB (M 99) (skB (M 99) L p) (wT (M 99) L p) 4 = true := (tok_W (k := 4) (by decide) hs9).mp (((lg_cmp_eq _ _).mp c_72).trans (show (4562600 : Int64) = nL (wN 4 (hLen.getD 4 0)) by decide))
            refine j_iconst h 76 rfl (nI 4) (by decide) dX11_isLine_75 ?_
            refine j_goto h 80 dX11_isLine_76 (by decide) ?_
            exact K80 _ (by unfold kA; first | rw [if_neg m0, if_neg m1, if_neg m2, if_neg m3, if_neg m4] | rw [if_neg m0, if_neg m1, if_neg m2, if_neg m3, if_pos m4] | rw [if_neg m0, if_neg m1, if_neg m2, if_pos m3] | rw [if_neg m0, if_neg m1, if_pos m2] | rw [if_neg m0, if_pos m1] | rw [if_pos m0])
        · have m3 : mtB (M 99) (skB (M 99) L p) (wT (M 99) L p) 3 = true := (tok_W (k := 3) (by decide) hs9).mp (((lg_cmp_eq _ _).mp c_57).trans (show (14432 : Int64) = nL (wN 3 (hLen.getD 3 0)) by decide))
          refine j_iconst h 61 rfl (nI 3) (by decide) dX11_isLine_60 ?_
          refine j_goto h 80 dX11_isLine_61 (by decide) ?_
          exact K80 _ (by unfold kA; first | rw [if_neg m0, if_neg m1, if_neg m2, if_neg m3, if_neg m4] | rw [if_neg m0, if_neg m1, if_neg m2, if_neg m3, if_pos m4] | rw [if_neg m0, if_neg m1, if_neg m2, if_pos m3] | rw [if_neg m0, if_neg m1, if_pos m2] | rw [if_neg m0, if_pos m1] | rw [if_pos m0])
      · have m2 : mtB (M 99) (skB (M 99) L p) (wT (M 99) L p) 2 = true := (tok_W (k := 2) (by decide) hs9).mp (((lg_cmp_eq _ _).mp c_42).trans (show (14173 : Int64) = nL (wN 2 (hLen.getD 2 0)) by decide))
        refine j_iconst h 46 rfl (nI 2) (by decide) dX11_isLine_45 ?_
        refine j_goto h 80 dX11_isLine_46 (by decide) ?_
        exact K80 _ (by unfold kA; first | rw [if_neg m0, if_neg m1, if_neg m2, if_neg m3, if_neg m4] | rw [if_neg m0, if_neg m1, if_neg m2, if_neg m3, if_pos m4] | rw [if_neg m0, if_neg m1, if_neg m2, if_pos m3] | rw [if_neg m0, if_neg m1, if_pos m2] | rw [if_neg m0, if_pos m1] | rw [if_pos m0])
    · have m1 : mtB (M 99) (skB (M 99) L p) (wT (M 99) L p) 1 = true := (tok_W (k := 1) (by decide) hs9).mp (((lg_cmp_eq _ _).mp c_27).trans (show (90090 : Int64) = nL (wN 1 (hLen.getD 1 0)) by decide))
      refine j_iconst h 31 rfl (nI 1) (by decide) dX11_isLine_30 ?_
      refine j_goto h 80 dX11_isLine_31 (by decide) ?_
      exact K80 _ (by unfold kA; first | rw [if_neg m0, if_neg m1, if_neg m2, if_neg m3, if_neg m4] | rw [if_neg m0, if_neg m1, if_neg m2, if_neg m3, if_pos m4] | rw [if_neg m0, if_neg m1, if_neg m2, if_pos m3] | rw [if_neg m0, if_neg m1, if_pos m2] | rw [if_neg m0, if_pos m1] | rw [if_pos m0])
  · have m0 : mtB (M 99) (skB (M 99) L p) (wT (M 99) L p) 0 = true := (tok_W (k := 0) (by decide) hs9).mp (((lg_cmp_eq _ _).mp c_12).trans (show (365647 : Int64) = nL (wN 0 (hLen.getD 0 0)) by decide))
    refine j_iconst h 16 rfl (nI 0) (by decide) dX11_isLine_15 ?_
    refine j_goto h 80 dX11_isLine_16 (by decide) ?_
    exact K80 _ (by unfold kA; first | rw [if_neg m0, if_neg m1, if_neg m2, if_neg m3, if_neg m4] | rw [if_neg m0, if_neg m1, if_neg m2, if_neg m3, if_pos m4] | rw [if_neg m0, if_neg m1, if_neg m2, if_pos m3] | rw [if_neg m0, if_neg m1, if_pos m2] | rw [if_neg m0, if_pos m1] | rw [if_pos m0])
