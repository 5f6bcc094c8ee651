/-! the law's loop -/
def Scr (X : hC) (L : Nat) (xs : Nat → Int32) : Prop :=
  match X with
  | (_, _, _, _, s, _, _, _, _, _, _, _, ρ, A, _, _, _) => va_X (ρ 600) L xs s s.heap ∧ ρ 600 < s.heap.size ∧ ¬ A (ρ 600) ∧ L ≤ 3072
theorem j_slen {X : hC} {own : String} {cc : ByteArray} {d pc L : Nat} {xs : Nat → Int32} {lv : List (Option Value)} {st : List Value} {M : hM} (h : Ok X own cc d) (q : Nat) (hq : pc + 1 = q) (hs : Scr X L xs) (hd : decode cc pc = .ok (.arraylength, 1)) (kk : J X q lv (.int (nI L) :: st) M) : J X pc lv (.ref 600 :: st) M := by
  obtain ⟨p, l, e, R, s, m, args, below, meth, c, D, ⟨cI, cZ, cQ⟩, ρ, A, Q, kc, ks⟩ := X
  subst hq; obtain ⟨hx, hb, -⟩ := h
  obtain ⟨s1, s2, s3, -⟩ := hs
  intro hn H locs ls hP hS hl
  exact va_slen hx hb s1 s2 s3 hS hd (kk hn H locs ls hP hS hl)
theorem j_sld {X : hC} {own : String} {cc : ByteArray} {d pc L : Nat} {xs : Nat → Int32} {lv : List (Option Value)} {st : List Value} {M : hM} {i : Int32} (h : Ok X own cc d) (q : Nat) (hq : pc + 1 = q) (hs : Scr X L xs) (j : Nat) (hi : i = nI j) (hj : j < L) (hd : decode cc pc = .ok (.iaload, 1)) (kk : J X q lv (.int (xs j) :: st) M) : J X pc lv (.int i :: .ref 600 :: st) M := by
  obtain ⟨p, l, e, R, s, m, args, below, meth, c, D, ⟨cI, cZ, cQ⟩, ρ, A, Q, kc, ks⟩ := X
  subst hq; subst hi; obtain ⟨hx, hb, -⟩ := h
  obtain ⟨s1, s2, s3, s4⟩ := hs
  intro hn H locs ls hP hS hl
  refine va_sld hx hb s1 s2 s3 hS (vp_in_nI hj (by omega)) hd ?_
  rw [nI_clamp (by omega)]
  exact kk hn H locs ls hP hS hl
theorem sub6 {L i : Nat} (hL : L ≤ 3072) (hi : i ≤ L) (h : ¬ nI L - nI 6 < nI i) : i + 6 ≤ L := by
  by_cases q : 6 ≤ L
  · rw [nI_sub q] at h
    rw [nI_ltI (by omega) (by omega)] at h
    omega
  · exfalso
    apply h
    have hl : L < 6 := by omega
    clear h q hL
    have : ∀ L' : Fin 6, ∀ i' : Fin 6, nI L'.val - nI 6 < nI i'.val := by decide
    exact this ⟨L, hl⟩ ⟨i, by omega⟩
set_option maxRecDepth 100000 in
set_option maxHeartbeats 4000000 in
/-- from the loop's head, whatever is told, the law comes to its end with 1 -/
theorem law_loop {X : hC} {L : Nat} {xs : Nat → Int32} (h : Ok X RL cL_law 10) (hScr : Scr X L xs) (hEnd : ∀ lv M, J X 785 lv [.int (nI 1)] M) : ∀ n k (M : hM), 3080 - 6 * k < n → 6 * k ≤ L → Inv M → J X 18 [some (.ref 600), some (.ref 0), some (.ref 93), some (.int (nI (6 * k)))] [] M := by
  have hS3 : L ≤ 3072 := by
    obtain ⟨p, l, e, R, s, m, args, below, meth, c, D, ⟨cI, cZ, cQ⟩, ρ, A, Q, kc, ks⟩ := X
    exact hScr.2.2.2
  intro n
  induction n with
  | zero => intro k M hn; omega
  | succ n ih =>
  intro k M hn hk hI
  refine j_iload_n h 19 rfl rfl dL_law_18 ?_
  refine j_aload_n h 20 rfl rfl dL_law_19 ?_
  refine j_slen h 21 rfl hScr dL_law_20 ?_
  refine j_bipush h 23 rfl (nI 6) (by decide) dL_law_21 ?_
  refine j_isub h 24 rfl dL_law_23 ?_
  refine j_icmp_gt h 784 27 dL_law_24 (by decide) rfl (fun c_24 => ?_) (fun c_24 => ?_)
  · skip
    refine j_iconst h 785 rfl (nI 1) (by decide) dL_law_784 ?_
    exact hEnd _ _
  · have hk6 := sub6 hS3 hk c_24
    refine j_aload_n h 28 rfl rfl dL_law_27 ?_
    refine j_iload_n h 29 rfl rfl dL_law_28 ?_
    refine j_sld h 30 rfl hScr _ rfl (by omega) dL_law_29 ?_
    refine j_bipush h 32 rfl (nI 31) (by decide) dL_law_30 ?_
    refine j_iand h 33 rfl dL_law_32 ?_
    refine j_tsw h 778 0 [128, 191, 204, 217, 230, 263, 296, 319, 362, 385, 418, 441, 464, 517, 550, 593, 626, 669, 692, 755] dL_law_33 (by decide) (by decide) (by decide) (by decide) (by decide) (fun i9 t9 ht9 c_33 => ?_) (fun c_33 => ?_)
    · match i9, ht9 with
      | 0, ht9 =>
        cases ht9
        obtain ⟨P1, hc1, hk1⟩ := two_write (((xs (6 * k + 1)).toInt64 <<< ((nI 32).toInt64 &&& 63)) ||| ((xs (6 * k + 2)).toInt64 &&& (4294967295))) (xs (6 * k + 3)) M hI
        refine j_aload_n h 129 rfl rfl dL_law_128 ?_
        refine j_aload_n h 130 rfl rfl dL_law_129 ?_
        refine j_iload_n h 131 rfl rfl dL_law_130 ?_
        refine j_iconst h 132 rfl (nI 1) (by decide) dL_law_131 ?_
        refine j_iaddN h 133 rfl dL_law_132 ?_
        refine j_sld h 134 rfl hScr _ rfl (by omega) dL_law_133 ?_
        refine j_i2l h 135 rfl dL_law_134 ?_
        refine j_bipush h 137 rfl (nI 32) (by decide) dL_law_135 ?_
        refine j_lshl h 138 rfl dL_law_137 ?_
        refine j_aload_n h 139 rfl rfl dL_law_138 ?_
        refine j_iload_n h 140 rfl rfl dL_law_139 ?_
        refine j_iconst h 141 rfl (nI 2) (by decide) dL_law_140 ?_
        refine j_iaddN h 142 rfl dL_law_141 ?_
        refine j_sld h 143 rfl hScr _ rfl (by omega) dL_law_142 ?_
        refine j_i2l h 144 rfl dL_law_143 ?_
        refine j_ldc2 h 147 rfl (4294967295) cnL_13 dL_law_144 ?_
        refine j_land h 148 rfl dL_law_147 ?_
        refine j_lor h 149 rfl dL_law_148 ?_
        refine j_aload_n h 150 rfl rfl dL_law_149 ?_
        refine j_iload_n h 151 rfl rfl dL_law_150 ?_
        refine j_iconst h 152 rfl (nI 3) (by decide) dL_law_151 ?_
        refine j_iaddN h 153 rfl dL_law_152 ?_
        refine j_sld h 154 rfl hScr _ rfl (by omega) dL_law_153 ?_
        refine j_callVX h 157 rfl lkL_15 sh_0 rfl rfl hc1 rfl rfl rfl dL_law_154 (fun x1 M1 h1 => ?_)
        obtain ⟨P2, hc2, hk2⟩ := hk1 x1 M1 h1
        refine j_aload_n h 158 rfl rfl dL_law_157 ?_
        refine j_aload_n h 159 rfl rfl dL_law_158 ?_
        refine j_iload_n h 160 rfl rfl dL_law_159 ?_
        refine j_iconst h 161 rfl (nI 1) (by decide) dL_law_160 ?_
        refine j_iaddN h 162 rfl dL_law_161 ?_
        refine j_sld h 163 rfl hScr _ rfl (by omega) dL_law_162 ?_
        refine j_i2l h 164 rfl dL_law_163 ?_
        refine j_bipush h 166 rfl (nI 32) (by decide) dL_law_164 ?_
        refine j_lshl h 167 rfl dL_law_166 ?_
        refine j_aload_n h 168 rfl rfl dL_law_167 ?_
        refine j_iload_n h 169 rfl rfl dL_law_168 ?_
        refine j_iconst h 170 rfl (nI 2) (by decide) dL_law_169 ?_
        refine j_iaddN h 171 rfl dL_law_170 ?_
        refine j_sld h 172 rfl hScr _ rfl (by omega) dL_law_171 ?_
        refine j_i2l h 173 rfl dL_law_172 ?_
        refine j_ldc2 h 176 rfl (4294967295) cnL_13 dL_law_173 ?_
        refine j_land h 177 rfl dL_law_176 ?_
        refine j_lor h 178 rfl dL_law_177 ?_
        refine j_aload_n h 179 rfl rfl dL_law_178 ?_
        refine j_iload_n h 180 rfl rfl dL_law_179 ?_
        refine j_iconst h 181 rfl (nI 3) (by decide) dL_law_180 ?_
        refine j_iaddN h 182 rfl dL_law_181 ?_
        refine j_sld h 183 rfl hScr _ rfl (by omega) dL_law_182 ?_
        refine j_callVX h 186 rfl lkL_19 sh_93 rfl rfl hc2 rfl rfl rfl dL_law_183 (fun x2 M2 h2 => ?_)
        obtain ⟨rfl, hI2⟩ := hk2 x2 M2 h2
        refine j_icmp_eq h 778 189 dL_law_186 (by decide) rfl (fun c_186 => ?_) (fun c_186 => absurd rfl c_186)
        refine j_iincK h 781 rfl 6 (by decide) rfl rfl dL_law_778 ?_
        refine j_goto h 18 dL_law_781 (by decide) ?_
        exact ih (k + 1) _ (by omega) (by omega) hI2
      | 1, ht9 =>
        cases ht9
        obtain ⟨P1, hc1, hk1⟩ := two_erase M hI
        refine j_aload_n h 192 rfl rfl dL_law_191 ?_
        refine j_callVX h 195 rfl lkL_20 sh_0 rfl rfl hc1 rfl rfl rfl dL_law_192 (fun x1 M1 h1 => ?_)
        obtain ⟨P2, hc2, hk2⟩ := hk1 x1 M1 h1
        refine j_aload_n h 196 rfl rfl dL_law_195 ?_
        refine j_callVX h 199 rfl lkL_24 sh_93 rfl rfl hc2 rfl rfl rfl dL_law_196 (fun x2 M2 h2 => ?_)
        obtain ⟨rfl, hI2⟩ := hk2 x2 M2 h2
        refine j_icmp_eq h 778 202 dL_law_199 (by decide) rfl (fun c_199 => ?_) (fun c_199 => absurd rfl c_199)
        refine j_iincK h 781 rfl 6 (by decide) rfl rfl dL_law_778 ?_
        refine j_goto h 18 dL_law_781 (by decide) ?_
        exact ih (k + 1) _ (by omega) (by omega) hI2
      | 2, ht9 =>
        cases ht9
        obtain ⟨P1, hc1, hk1⟩ := two_fault M hI
        refine j_aload_n h 205 rfl rfl dL_law_204 ?_
        refine j_callVX h 208 rfl lkL_25 sh_0 rfl rfl hc1 rfl rfl rfl dL_law_205 (fun x1 M1 h1 => ?_)
        obtain ⟨P2, hc2, hk2⟩ := hk1 x1 M1 h1
        refine j_aload_n h 209 rfl rfl dL_law_208 ?_
        refine j_callVX h 212 rfl lkL_28 sh_93 rfl rfl hc2 rfl rfl rfl dL_law_209 (fun x2 M2 h2 => ?_)
        obtain ⟨rfl, hI2⟩ := hk2 x2 M2 h2
        refine j_icmp_eq h 778 215 dL_law_212 (by decide) rfl (fun c_212 => ?_) (fun c_212 => absurd rfl c_212)
        refine j_iincK h 781 rfl 6 (by decide) rfl rfl dL_law_778 ?_
        refine j_goto h 18 dL_law_781 (by decide) ?_
        exact ih (k + 1) _ (by omega) (by omega) hI2
      | 3, ht9 =>
        cases ht9
        obtain ⟨P1, hc1, hk1⟩ := two_week M hI
        refine j_aload_n h 218 rfl rfl dL_law_217 ?_
        refine j_callVX h 221 rfl lkL_29 sh_0 rfl rfl hc1 rfl rfl rfl dL_law_218 (fun x1 M1 h1 => ?_)
        obtain ⟨P2, hc2, hk2⟩ := hk1 x1 M1 h1
        refine j_aload_n h 222 rfl rfl dL_law_221 ?_
        refine j_callVX h 225 rfl lkL_32 sh_93 rfl rfl hc2 rfl rfl rfl dL_law_222 (fun x2 M2 h2 => ?_)
        obtain ⟨rfl, hI2⟩ := hk2 x2 M2 h2
        refine j_icmp_eq h 778 228 dL_law_225 (by decide) rfl (fun c_225 => ?_) (fun c_225 => absurd rfl c_225)
        refine j_iincK h 781 rfl 6 (by decide) rfl rfl dL_law_778 ?_
        refine j_goto h 18 dL_law_781 (by decide) ?_
        exact ih (k + 1) _ (by omega) (by omega) hI2
      | 4, ht9 =>
        cases ht9
        obtain ⟨P1, hc1, hk1⟩ := two_room (xs (6 * k + 1)) (xs (6 * k + 2)) M hI
        refine j_aload_n h 231 rfl rfl dL_law_230 ?_
        refine j_aload_n h 232 rfl rfl dL_law_231 ?_
        refine j_iload_n h 233 rfl rfl dL_law_232 ?_
        refine j_iconst h 234 rfl (nI 1) (by decide) dL_law_233 ?_
        refine j_iaddN h 235 rfl dL_law_234 ?_
        refine j_sld h 236 rfl hScr _ rfl (by omega) dL_law_235 ?_
        refine j_aload_n h 237 rfl rfl dL_law_236 ?_
        refine j_iload_n h 238 rfl rfl dL_law_237 ?_
        refine j_iconst h 239 rfl (nI 2) (by decide) dL_law_238 ?_
        refine j_iaddN h 240 rfl dL_law_239 ?_
        refine j_sld h 241 rfl hScr _ rfl (by omega) dL_law_240 ?_
        refine j_callVX h 244 rfl lkL_33 sh_0 rfl rfl hc1 rfl rfl rfl dL_law_241 (fun x1 M1 h1 => ?_)
        obtain ⟨P2, hc2, hk2⟩ := hk1 x1 M1 h1
        refine j_aload_n h 245 rfl rfl dL_law_244 ?_
        refine j_aload_n h 246 rfl rfl dL_law_245 ?_
        refine j_iload_n h 247 rfl rfl dL_law_246 ?_
        refine j_iconst h 248 rfl (nI 1) (by decide) dL_law_247 ?_
        refine j_iaddN h 249 rfl dL_law_248 ?_
        refine j_sld h 250 rfl hScr _ rfl (by omega) dL_law_249 ?_
        refine j_aload_n h 251 rfl rfl dL_law_250 ?_
        refine j_iload_n h 252 rfl rfl dL_law_251 ?_
        refine j_iconst h 253 rfl (nI 2) (by decide) dL_law_252 ?_
        refine j_iaddN h 254 rfl dL_law_253 ?_
        refine j_sld h 255 rfl hScr _ rfl (by omega) dL_law_254 ?_
        refine j_callVX h 258 rfl lkL_37 sh_93 rfl rfl hc2 rfl rfl rfl dL_law_255 (fun x2 M2 h2 => ?_)
        obtain ⟨rfl, hI2⟩ := hk2 x2 M2 h2
        refine j_icmp_eq h 778 261 dL_law_258 (by decide) rfl (fun c_258 => ?_) (fun c_258 => absurd rfl c_258)
        refine j_iincK h 781 rfl 6 (by decide) rfl rfl dL_law_778 ?_
        refine j_goto h 18 dL_law_781 (by decide) ?_
        exact ih (k + 1) _ (by omega) (by omega) hI2
      | 5, ht9 =>
        cases ht9
        obtain ⟨P1, hc1, hk1⟩ := two_door (xs (6 * k + 1)) (xs (6 * k + 2)) M hI
        refine j_aload_n h 264 rfl rfl dL_law_263 ?_
        refine j_aload_n h 265 rfl rfl dL_law_264 ?_
        refine j_iload_n h 266 rfl rfl dL_law_265 ?_
        refine j_iconst h 267 rfl (nI 1) (by decide) dL_law_266 ?_
        refine j_iaddN h 268 rfl dL_law_267 ?_
        refine j_sld h 269 rfl hScr _ rfl (by omega) dL_law_268 ?_
        refine j_aload_n h 270 rfl rfl dL_law_269 ?_
        refine j_iload_n h 271 rfl rfl dL_law_270 ?_
        refine j_iconst h 272 rfl (nI 2) (by decide) dL_law_271 ?_
        refine j_iaddN h 273 rfl dL_law_272 ?_
        refine j_sld h 274 rfl hScr _ rfl (by omega) dL_law_273 ?_
        refine j_callVX h 277 rfl lkL_38 sh_0 rfl rfl hc1 rfl rfl rfl dL_law_274 (fun x1 M1 h1 => ?_)
        obtain ⟨P2, hc2, hk2⟩ := hk1 x1 M1 h1
        refine j_aload_n h 278 rfl rfl dL_law_277 ?_
        refine j_aload_n h 279 rfl rfl dL_law_278 ?_
        refine j_iload_n h 280 rfl rfl dL_law_279 ?_
        refine j_iconst h 281 rfl (nI 1) (by decide) dL_law_280 ?_
        refine j_iaddN h 282 rfl dL_law_281 ?_
        refine j_sld h 283 rfl hScr _ rfl (by omega) dL_law_282 ?_
        refine j_aload_n h 284 rfl rfl dL_law_283 ?_
        refine j_iload_n h 285 rfl rfl dL_law_284 ?_
        refine j_iconst h 286 rfl (nI 2) (by decide) dL_law_285 ?_
        refine j_iaddN h 287 rfl dL_law_286 ?_
        refine j_sld h 288 rfl hScr _ rfl (by omega) dL_law_287 ?_
        refine j_callVX h 291 rfl lkL_41 sh_93 rfl rfl hc2 rfl rfl rfl dL_law_288 (fun x2 M2 h2 => ?_)
        obtain ⟨rfl, hI2⟩ := hk2 x2 M2 h2
        refine j_icmp_eq h 778 294 dL_law_291 (by decide) rfl (fun c_291 => ?_) (fun c_291 => absurd rfl c_291)
        refine j_iincK h 781 rfl 6 (by decide) rfl rfl dL_law_778 ?_
        refine j_goto h 18 dL_law_781 (by decide) ?_
        exact ih (k + 1) _ (by omega) (by omega) hI2
      | 6, ht9 =>
        cases ht9
        obtain ⟨P1, hc1, hk1⟩ := two_out (xs (6 * k + 1)) M hI
        refine j_aload_n h 297 rfl rfl dL_law_296 ?_
        refine j_aload_n h 298 rfl rfl dL_law_297 ?_
        refine j_iload_n h 299 rfl rfl dL_law_298 ?_
        refine j_iconst h 300 rfl (nI 1) (by decide) dL_law_299 ?_
        refine j_iaddN h 301 rfl dL_law_300 ?_
        refine j_sld h 302 rfl hScr _ rfl (by omega) dL_law_301 ?_
        refine j_callVX h 305 rfl lkL_42 sh_0 rfl rfl hc1 rfl rfl rfl dL_law_302 (fun x1 M1 h1 => ?_)
        obtain ⟨P2, hc2, hk2⟩ := hk1 x1 M1 h1
        refine j_aload_n h 306 rfl rfl dL_law_305 ?_
        refine j_aload_n h 307 rfl rfl dL_law_306 ?_
        refine j_iload_n h 308 rfl rfl dL_law_307 ?_
        refine j_iconst h 309 rfl (nI 1) (by decide) dL_law_308 ?_
        refine j_iaddN h 310 rfl dL_law_309 ?_
        refine j_sld h 311 rfl hScr _ rfl (by omega) dL_law_310 ?_
        refine j_callVX h 314 rfl lkL_46 sh_93 rfl rfl hc2 rfl rfl rfl dL_law_311 (fun x2 M2 h2 => ?_)
        obtain ⟨rfl, hI2⟩ := hk2 x2 M2 h2
        refine j_icmp_eq h 778 317 dL_law_314 (by decide) rfl (fun c_314 => ?_) (fun c_314 => absurd rfl c_314)
        refine j_iincK h 781 rfl 6 (by decide) rfl rfl dL_law_778 ?_
        refine j_goto h 18 dL_law_781 (by decide) ?_
        exact ih (k + 1) _ (by omega) (by omega) hI2
      | 7, ht9 =>
        cases ht9
        obtain ⟨P1, hc1, hk1⟩ := two_warm (xs (6 * k + 1)) (xs (6 * k + 2)) (xs (6 * k + 3)) M hI
        refine j_aload_n h 320 rfl rfl dL_law_319 ?_
        refine j_aload_n h 321 rfl rfl dL_law_320 ?_
        refine j_iload_n h 322 rfl rfl dL_law_321 ?_
        refine j_iconst h 323 rfl (nI 1) (by decide) dL_law_322 ?_
        refine j_iaddN h 324 rfl dL_law_323 ?_
        refine j_sld h 325 rfl hScr _ rfl (by omega) dL_law_324 ?_
        refine j_aload_n h 326 rfl rfl dL_law_325 ?_
        refine j_iload_n h 327 rfl rfl dL_law_326 ?_
        refine j_iconst h 328 rfl (nI 2) (by decide) dL_law_327 ?_
        refine j_iaddN h 329 rfl dL_law_328 ?_
        refine j_sld h 330 rfl hScr _ rfl (by omega) dL_law_329 ?_
        refine j_aload_n h 331 rfl rfl dL_law_330 ?_
        refine j_iload_n h 332 rfl rfl dL_law_331 ?_
        refine j_iconst h 333 rfl (nI 3) (by decide) dL_law_332 ?_
        refine j_iaddN h 334 rfl dL_law_333 ?_
        refine j_sld h 335 rfl hScr _ rfl (by omega) dL_law_334 ?_
        refine j_callVX h 338 rfl lkL_47 sh_0 rfl rfl hc1 rfl rfl rfl dL_law_335 (fun x1 M1 h1 => ?_)
        obtain ⟨P2, hc2, hk2⟩ := hk1 x1 M1 h1
        refine j_aload_n h 339 rfl rfl dL_law_338 ?_
        refine j_aload_n h 340 rfl rfl dL_law_339 ?_
        refine j_iload_n h 341 rfl rfl dL_law_340 ?_
        refine j_iconst h 342 rfl (nI 1) (by decide) dL_law_341 ?_
        refine j_iaddN h 343 rfl dL_law_342 ?_
        refine j_sld h 344 rfl hScr _ rfl (by omega) dL_law_343 ?_
        refine j_aload_n h 345 rfl rfl dL_law_344 ?_
        refine j_iload_n h 346 rfl rfl dL_law_345 ?_
        refine j_iconst h 347 rfl (nI 2) (by decide) dL_law_346 ?_
        refine j_iaddN h 348 rfl dL_law_347 ?_
        refine j_sld h 349 rfl hScr _ rfl (by omega) dL_law_348 ?_
        refine j_aload_n h 350 rfl rfl dL_law_349 ?_
        refine j_iload_n h 351 rfl rfl dL_law_350 ?_
        refine j_iconst h 352 rfl (nI 3) (by decide) dL_law_351 ?_
        refine j_iaddN h 353 rfl dL_law_352 ?_
        refine j_sld h 354 rfl hScr _ rfl (by omega) dL_law_353 ?_
        refine j_callVX h 357 rfl lkL_51 sh_93 rfl rfl hc2 rfl rfl rfl dL_law_354 (fun x2 M2 h2 => ?_)
        obtain ⟨rfl, hI2⟩ := hk2 x2 M2 h2
        refine j_icmp_eq h 778 360 dL_law_357 (by decide) rfl (fun c_357 => ?_) (fun c_357 => absurd rfl c_357)
        refine j_iincK h 781 rfl 6 (by decide) rfl rfl dL_law_778 ?_
        refine j_goto h 18 dL_law_781 (by decide) ?_
        exact ih (k + 1) _ (by omega) (by omega) hI2
      | 8, ht9 =>
        cases ht9
        obtain ⟨P1, hc1, hk1⟩ := two_night (xs (6 * k + 1)) M hI
        refine j_aload_n h 363 rfl rfl dL_law_362 ?_
        refine j_aload_n h 364 rfl rfl dL_law_363 ?_
        refine j_iload_n h 365 rfl rfl dL_law_364 ?_
        refine j_iconst h 366 rfl (nI 1) (by decide) dL_law_365 ?_
        refine j_iaddN h 367 rfl dL_law_366 ?_
        refine j_sld h 368 rfl hScr _ rfl (by omega) dL_law_367 ?_
        refine j_callVX h 371 rfl lkL_52 sh_0 rfl rfl hc1 rfl rfl rfl dL_law_368 (fun x1 M1 h1 => ?_)
        obtain ⟨P2, hc2, hk2⟩ := hk1 x1 M1 h1
        refine j_aload_n h 372 rfl rfl dL_law_371 ?_
        refine j_aload_n h 373 rfl rfl dL_law_372 ?_
        refine j_iload_n h 374 rfl rfl dL_law_373 ?_
        refine j_iconst h 375 rfl (nI 1) (by decide) dL_law_374 ?_
        refine j_iaddN h 376 rfl dL_law_375 ?_
        refine j_sld h 377 rfl hScr _ rfl (by omega) dL_law_376 ?_
        refine j_callVX h 380 rfl lkL_55 sh_93 rfl rfl hc2 rfl rfl rfl dL_law_377 (fun x2 M2 h2 => ?_)
        obtain ⟨rfl, hI2⟩ := hk2 x2 M2 h2
        refine j_icmp_eq h 778 383 dL_law_380 (by decide) rfl (fun c_380 => ?_) (fun c_380 => absurd rfl c_380)
        refine j_iincK h 781 rfl 6 (by decide) rfl rfl dL_law_778 ?_
        refine j_goto h 18 dL_law_781 (by decide) ?_
        exact ih (k + 1) _ (by omega) (by omega) hI2
      | 9, ht9 =>
        cases ht9
        obtain ⟨P1, hc1, hk1⟩ := two_above (xs (6 * k + 1)) (xs (6 * k + 2)) M hI
        refine j_aload_n h 386 rfl rfl dL_law_385 ?_
        refine j_aload_n h 387 rfl rfl dL_law_386 ?_
        refine j_iload_n h 388 rfl rfl dL_law_387 ?_
        refine j_iconst h 389 rfl (nI 1) (by decide) dL_law_388 ?_
        refine j_iaddN h 390 rfl dL_law_389 ?_
        refine j_sld h 391 rfl hScr _ rfl (by omega) dL_law_390 ?_
        refine j_aload_n h 392 rfl rfl dL_law_391 ?_
        refine j_iload_n h 393 rfl rfl dL_law_392 ?_
        refine j_iconst h 394 rfl (nI 2) (by decide) dL_law_393 ?_
        refine j_iaddN h 395 rfl dL_law_394 ?_
        refine j_sld h 396 rfl hScr _ rfl (by omega) dL_law_395 ?_
        refine j_callVX h 399 rfl lkL_56 sh_0 rfl rfl hc1 rfl rfl rfl dL_law_396 (fun x1 M1 h1 => ?_)
        obtain ⟨P2, hc2, hk2⟩ := hk1 x1 M1 h1
        refine j_aload_n h 400 rfl rfl dL_law_399 ?_
        refine j_aload_n h 401 rfl rfl dL_law_400 ?_
        refine j_iload_n h 402 rfl rfl dL_law_401 ?_
        refine j_iconst h 403 rfl (nI 1) (by decide) dL_law_402 ?_
        refine j_iaddN h 404 rfl dL_law_403 ?_
        refine j_sld h 405 rfl hScr _ rfl (by omega) dL_law_404 ?_
        refine j_aload_n h 406 rfl rfl dL_law_405 ?_
        refine j_iload_n h 407 rfl rfl dL_law_406 ?_
        refine j_iconst h 408 rfl (nI 2) (by decide) dL_law_407 ?_
        refine j_iaddN h 409 rfl dL_law_408 ?_
        refine j_sld h 410 rfl hScr _ rfl (by omega) dL_law_409 ?_
        refine j_callVX h 413 rfl lkL_59 sh_93 rfl rfl hc2 rfl rfl rfl dL_law_410 (fun x2 M2 h2 => ?_)
        obtain ⟨rfl, hI2⟩ := hk2 x2 M2 h2
        refine j_icmp_eq h 778 416 dL_law_413 (by decide) rfl (fun c_413 => ?_) (fun c_413 => absurd rfl c_413)
        refine j_iincK h 781 rfl 6 (by decide) rfl rfl dL_law_778 ?_
        refine j_goto h 18 dL_law_781 (by decide) ?_
        exact ih (k + 1) _ (by omega) (by omega) hI2
      | 10, ht9 =>
        cases ht9
        obtain ⟨P1, hc1, hk1⟩ := two_costs (xs (6 * k + 1)) M hI
        refine j_aload_n h 419 rfl rfl dL_law_418 ?_
        refine j_aload_n h 420 rfl rfl dL_law_419 ?_
        refine j_iload_n h 421 rfl rfl dL_law_420 ?_
        refine j_iconst h 422 rfl (nI 1) (by decide) dL_law_421 ?_
        refine j_iaddN h 423 rfl dL_law_422 ?_
        refine j_sld h 424 rfl hScr _ rfl (by omega) dL_law_423 ?_
        refine j_callVX h 427 rfl lkL_60 sh_0 rfl rfl hc1 rfl rfl rfl dL_law_424 (fun x1 M1 h1 => ?_)
        obtain ⟨P2, hc2, hk2⟩ := hk1 x1 M1 h1
        refine j_aload_n h 428 rfl rfl dL_law_427 ?_
        refine j_aload_n h 429 rfl rfl dL_law_428 ?_
        refine j_iload_n h 430 rfl rfl dL_law_429 ?_
        refine j_iconst h 431 rfl (nI 1) (by decide) dL_law_430 ?_
        refine j_iaddN h 432 rfl dL_law_431 ?_
        refine j_sld h 433 rfl hScr _ rfl (by omega) dL_law_432 ?_
        refine j_callVX h 436 rfl lkL_63 sh_93 rfl rfl hc2 rfl rfl rfl dL_law_433 (fun x2 M2 h2 => ?_)
        obtain ⟨rfl, hI2⟩ := hk2 x2 M2 h2
        refine j_icmp_eq h 778 439 dL_law_436 (by decide) rfl (fun c_436 => ?_) (fun c_436 => absurd rfl c_436)
        refine j_iincK h 781 rfl 6 (by decide) rfl rfl dL_law_778 ?_
        refine j_goto h 18 dL_law_781 (by decide) ?_
        exact ih (k + 1) _ (by omega) (by omega) hI2
      | 11, ht9 =>
        cases ht9
        obtain ⟨P1, hc1, hk1⟩ := two_clock (xs (6 * k + 1)) M hI
        refine j_aload_n h 442 rfl rfl dL_law_441 ?_
        refine j_aload_n h 443 rfl rfl dL_law_442 ?_
        refine j_iload_n h 444 rfl rfl dL_law_443 ?_
        refine j_iconst h 445 rfl (nI 1) (by decide) dL_law_444 ?_
        refine j_iaddN h 446 rfl dL_law_445 ?_
        refine j_sld h 447 rfl hScr _ rfl (by omega) dL_law_446 ?_
        refine j_callVX h 450 rfl lkL_64 sh_0 rfl rfl hc1 rfl rfl rfl dL_law_447 (fun x1 M1 h1 => ?_)
        obtain ⟨P2, hc2, hk2⟩ := hk1 x1 M1 h1
        refine j_aload_n h 451 rfl rfl dL_law_450 ?_
        refine j_aload_n h 452 rfl rfl dL_law_451 ?_
        refine j_iload_n h 453 rfl rfl dL_law_452 ?_
        refine j_iconst h 454 rfl (nI 1) (by decide) dL_law_453 ?_
        refine j_iaddN h 455 rfl dL_law_454 ?_
        refine j_sld h 456 rfl hScr _ rfl (by omega) dL_law_455 ?_
        refine j_callVX h 459 rfl lkL_67 sh_93 rfl rfl hc2 rfl rfl rfl dL_law_456 (fun x2 M2 h2 => ?_)
        obtain ⟨rfl, hI2⟩ := hk2 x2 M2 h2
        refine j_icmp_eq h 778 462 dL_law_459 (by decide) rfl (fun c_459 => ?_) (fun c_459 => absurd rfl c_459)
        refine j_iincK h 781 rfl 6 (by decide) rfl rfl dL_law_778 ?_
        refine j_goto h 18 dL_law_781 (by decide) ?_
        exact ih (k + 1) _ (by omega) (by omega) hI2
      | 12, ht9 =>
        cases ht9
        obtain ⟨P1, hc1, hk1⟩ := two_work (xs (6 * k + 1)) (xs (6 * k + 2)) (xs (6 * k + 3)) (xs (6 * k + 4)) M hI
        refine j_aload_n h 465 rfl rfl dL_law_464 ?_
        refine j_aload_n h 466 rfl rfl dL_law_465 ?_
        refine j_iload_n h 467 rfl rfl dL_law_466 ?_
        refine j_iconst h 468 rfl (nI 1) (by decide) dL_law_467 ?_
        refine j_iaddN h 469 rfl dL_law_468 ?_
        refine j_sld h 470 rfl hScr _ rfl (by omega) dL_law_469 ?_
        refine j_aload_n h 471 rfl rfl dL_law_470 ?_
        refine j_iload_n h 472 rfl rfl dL_law_471 ?_
        refine j_iconst h 473 rfl (nI 2) (by decide) dL_law_472 ?_
        refine j_iaddN h 474 rfl dL_law_473 ?_
        refine j_sld h 475 rfl hScr _ rfl (by omega) dL_law_474 ?_
        refine j_aload_n h 476 rfl rfl dL_law_475 ?_
        refine j_iload_n h 477 rfl rfl dL_law_476 ?_
        refine j_iconst h 478 rfl (nI 3) (by decide) dL_law_477 ?_
        refine j_iaddN h 479 rfl dL_law_478 ?_
        refine j_sld h 480 rfl hScr _ rfl (by omega) dL_law_479 ?_
        refine j_aload_n h 481 rfl rfl dL_law_480 ?_
        refine j_iload_n h 482 rfl rfl dL_law_481 ?_
        refine j_iconst h 483 rfl (nI 4) (by decide) dL_law_482 ?_
        refine j_iaddN h 484 rfl dL_law_483 ?_
        refine j_sld h 485 rfl hScr _ rfl (by omega) dL_law_484 ?_
        refine j_callVX h 488 rfl lkL_68 sh_0 rfl rfl hc1 rfl rfl rfl dL_law_485 (fun x1 M1 h1 => ?_)
        obtain ⟨P2, hc2, hk2⟩ := hk1 x1 M1 h1
        refine j_aload_n h 489 rfl rfl dL_law_488 ?_
        refine j_aload_n h 490 rfl rfl dL_law_489 ?_
        refine j_iload_n h 491 rfl rfl dL_law_490 ?_
        refine j_iconst h 492 rfl (nI 1) (by decide) dL_law_491 ?_
        refine j_iaddN h 493 rfl dL_law_492 ?_
        refine j_sld h 494 rfl hScr _ rfl (by omega) dL_law_493 ?_
        refine j_aload_n h 495 rfl rfl dL_law_494 ?_
        refine j_iload_n h 496 rfl rfl dL_law_495 ?_
        refine j_iconst h 497 rfl (nI 2) (by decide) dL_law_496 ?_
        refine j_iaddN h 498 rfl dL_law_497 ?_
        refine j_sld h 499 rfl hScr _ rfl (by omega) dL_law_498 ?_
        refine j_aload_n h 500 rfl rfl dL_law_499 ?_
        refine j_iload_n h 501 rfl rfl dL_law_500 ?_
        refine j_iconst h 502 rfl (nI 3) (by decide) dL_law_501 ?_
        refine j_iaddN h 503 rfl dL_law_502 ?_
        refine j_sld h 504 rfl hScr _ rfl (by omega) dL_law_503 ?_
        refine j_aload_n h 505 rfl rfl dL_law_504 ?_
        refine j_iload_n h 506 rfl rfl dL_law_505 ?_
        refine j_iconst h 507 rfl (nI 4) (by decide) dL_law_506 ?_
        refine j_iaddN h 508 rfl dL_law_507 ?_
        refine j_sld h 509 rfl hScr _ rfl (by omega) dL_law_508 ?_
        refine j_callVX h 512 rfl lkL_72 sh_93 rfl rfl hc2 rfl rfl rfl dL_law_509 (fun x2 M2 h2 => ?_)
        obtain ⟨rfl, hI2⟩ := hk2 x2 M2 h2
        refine j_icmp_eq h 778 515 dL_law_512 (by decide) rfl (fun c_512 => ?_) (fun c_512 => absurd rfl c_512)
        refine j_iincK h 781 rfl 6 (by decide) rfl rfl dL_law_778 ?_
        refine j_goto h 18 dL_law_781 (by decide) ?_
        exact ih (k + 1) _ (by omega) (by omega) hI2
      | 13, ht9 =>
        cases ht9
        obtain ⟨P1, hc1, hk1⟩ := two_works (xs (6 * k + 1)) (xs (6 * k + 2)) M hI
        refine j_aload_n h 518 rfl rfl dL_law_517 ?_
        refine j_aload_n h 519 rfl rfl dL_law_518 ?_
        refine j_iload_n h 520 rfl rfl dL_law_519 ?_
        refine j_iconst h 521 rfl (nI 1) (by decide) dL_law_520 ?_
        refine j_iaddN h 522 rfl dL_law_521 ?_
        refine j_sld h 523 rfl hScr _ rfl (by omega) dL_law_522 ?_
        refine j_aload_n h 524 rfl rfl dL_law_523 ?_
        refine j_iload_n h 525 rfl rfl dL_law_524 ?_
        refine j_iconst h 526 rfl (nI 2) (by decide) dL_law_525 ?_
        refine j_iaddN h 527 rfl dL_law_526 ?_
        refine j_sld h 528 rfl hScr _ rfl (by omega) dL_law_527 ?_
        refine j_callVX h 531 rfl lkL_73 sh_0 rfl rfl hc1 rfl rfl rfl dL_law_528 (fun x1 M1 h1 => ?_)
        obtain ⟨P2, hc2, hk2⟩ := hk1 x1 M1 h1
        refine j_aload_n h 532 rfl rfl dL_law_531 ?_
        refine j_aload_n h 533 rfl rfl dL_law_532 ?_
        refine j_iload_n h 534 rfl rfl dL_law_533 ?_
        refine j_iconst h 535 rfl (nI 1) (by decide) dL_law_534 ?_
        refine j_iaddN h 536 rfl dL_law_535 ?_
        refine j_sld h 537 rfl hScr _ rfl (by omega) dL_law_536 ?_
        refine j_aload_n h 538 rfl rfl dL_law_537 ?_
        refine j_iload_n h 539 rfl rfl dL_law_538 ?_
        refine j_iconst h 540 rfl (nI 2) (by decide) dL_law_539 ?_
        refine j_iaddN h 541 rfl dL_law_540 ?_
        refine j_sld h 542 rfl hScr _ rfl (by omega) dL_law_541 ?_
        refine j_callVX h 545 rfl lkL_76 sh_93 rfl rfl hc2 rfl rfl rfl dL_law_542 (fun x2 M2 h2 => ?_)
        obtain ⟨rfl, hI2⟩ := hk2 x2 M2 h2
        refine j_icmp_eq h 778 548 dL_law_545 (by decide) rfl (fun c_545 => ?_) (fun c_545 => absurd rfl c_545)
        refine j_iincK h 781 rfl 6 (by decide) rfl rfl dL_law_778 ?_
        refine j_goto h 18 dL_law_781 (by decide) ?_
        exact ih (k + 1) _ (by omega) (by omega) hI2
      | 14, ht9 =>
        cases ht9
        obtain ⟨P1, hc1, hk1⟩ := two_read (xs (6 * k + 1)) (xs (6 * k + 2)) (xs (6 * k + 3)) M hI
        refine j_aload_n h 551 rfl rfl dL_law_550 ?_
        refine j_aload_n h 552 rfl rfl dL_law_551 ?_
        refine j_iload_n h 553 rfl rfl dL_law_552 ?_
        refine j_iconst h 554 rfl (nI 1) (by decide) dL_law_553 ?_
        refine j_iaddN h 555 rfl dL_law_554 ?_
        refine j_sld h 556 rfl hScr _ rfl (by omega) dL_law_555 ?_
        refine j_aload_n h 557 rfl rfl dL_law_556 ?_
        refine j_iload_n h 558 rfl rfl dL_law_557 ?_
        refine j_iconst h 559 rfl (nI 2) (by decide) dL_law_558 ?_
        refine j_iaddN h 560 rfl dL_law_559 ?_
        refine j_sld h 561 rfl hScr _ rfl (by omega) dL_law_560 ?_
        refine j_aload_n h 562 rfl rfl dL_law_561 ?_
        refine j_iload_n h 563 rfl rfl dL_law_562 ?_
        refine j_iconst h 564 rfl (nI 3) (by decide) dL_law_563 ?_
        refine j_iaddN h 565 rfl dL_law_564 ?_
        refine j_sld h 566 rfl hScr _ rfl (by omega) dL_law_565 ?_
        refine j_callVX h 569 rfl lkL_77 sh_0 rfl rfl hc1 rfl rfl rfl dL_law_566 (fun x1 M1 h1 => ?_)
        obtain ⟨P2, hc2, hk2⟩ := hk1 x1 M1 h1
        refine j_aload_n h 570 rfl rfl dL_law_569 ?_
        refine j_aload_n h 571 rfl rfl dL_law_570 ?_
        refine j_iload_n h 572 rfl rfl dL_law_571 ?_
        refine j_iconst h 573 rfl (nI 1) (by decide) dL_law_572 ?_
        refine j_iaddN h 574 rfl dL_law_573 ?_
        refine j_sld h 575 rfl hScr _ rfl (by omega) dL_law_574 ?_
        refine j_aload_n h 576 rfl rfl dL_law_575 ?_
        refine j_iload_n h 577 rfl rfl dL_law_576 ?_
        refine j_iconst h 578 rfl (nI 2) (by decide) dL_law_577 ?_
        refine j_iaddN h 579 rfl dL_law_578 ?_
        refine j_sld h 580 rfl hScr _ rfl (by omega) dL_law_579 ?_
        refine j_aload_n h 581 rfl rfl dL_law_580 ?_
        refine j_iload_n h 582 rfl rfl dL_law_581 ?_
        refine j_iconst h 583 rfl (nI 3) (by decide) dL_law_582 ?_
        refine j_iaddN h 584 rfl dL_law_583 ?_
        refine j_sld h 585 rfl hScr _ rfl (by omega) dL_law_584 ?_
        refine j_callVX h 588 rfl lkL_80 sh_93 rfl rfl hc2 rfl rfl rfl dL_law_585 (fun x2 M2 h2 => ?_)
        obtain ⟨rfl, hI2⟩ := hk2 x2 M2 h2
        refine j_icmp_eq h 778 591 dL_law_588 (by decide) rfl (fun c_588 => ?_) (fun c_588 => absurd rfl c_588)
        refine j_iincK h 781 rfl 6 (by decide) rfl rfl dL_law_778 ?_
        refine j_goto h 18 dL_law_781 (by decide) ?_
        exact ih (k + 1) _ (by omega) (by omega) hI2
      | 15, ht9 =>
        cases ht9
        obtain ⟨P1, hc1, hk1⟩ := two_learnt (xs (6 * k + 1)) (xs (6 * k + 2)) M hI
        refine j_aload_n h 594 rfl rfl dL_law_593 ?_
        refine j_aload_n h 595 rfl rfl dL_law_594 ?_
        refine j_iload_n h 596 rfl rfl dL_law_595 ?_
        refine j_iconst h 597 rfl (nI 1) (by decide) dL_law_596 ?_
        refine j_iaddN h 598 rfl dL_law_597 ?_
        refine j_sld h 599 rfl hScr _ rfl (by omega) dL_law_598 ?_
        refine j_aload_n h 600 rfl rfl dL_law_599 ?_
        refine j_iload_n h 601 rfl rfl dL_law_600 ?_
        refine j_iconst h 602 rfl (nI 2) (by decide) dL_law_601 ?_
        refine j_iaddN h 603 rfl dL_law_602 ?_
        refine j_sld h 604 rfl hScr _ rfl (by omega) dL_law_603 ?_
        refine j_callVX h 607 rfl lkL_81 sh_0 rfl rfl hc1 rfl rfl rfl dL_law_604 (fun x1 M1 h1 => ?_)
        obtain ⟨P2, hc2, hk2⟩ := hk1 x1 M1 h1
        refine j_aload_n h 608 rfl rfl dL_law_607 ?_
        refine j_aload_n h 609 rfl rfl dL_law_608 ?_
        refine j_iload_n h 610 rfl rfl dL_law_609 ?_
        refine j_iconst h 611 rfl (nI 1) (by decide) dL_law_610 ?_
        refine j_iaddN h 612 rfl dL_law_611 ?_
        refine j_sld h 613 rfl hScr _ rfl (by omega) dL_law_612 ?_
        refine j_aload_n h 614 rfl rfl dL_law_613 ?_
        refine j_iload_n h 615 rfl rfl dL_law_614 ?_
        refine j_iconst h 616 rfl (nI 2) (by decide) dL_law_615 ?_
        refine j_iaddN h 617 rfl dL_law_616 ?_
        refine j_sld h 618 rfl hScr _ rfl (by omega) dL_law_617 ?_
        refine j_callVX h 621 rfl lkL_84 sh_93 rfl rfl hc2 rfl rfl rfl dL_law_618 (fun x2 M2 h2 => ?_)
        obtain ⟨rfl, hI2⟩ := hk2 x2 M2 h2
        refine j_icmp_eq h 778 624 dL_law_621 (by decide) rfl (fun c_621 => ?_) (fun c_621 => absurd rfl c_621)
        refine j_iincK h 781 rfl 6 (by decide) rfl rfl dL_law_778 ?_
        refine j_goto h 18 dL_law_781 (by decide) ?_
        exact ih (k + 1) _ (by omega) (by omega) hI2
      | 16, ht9 =>
        cases ht9
        obtain ⟨P1, hc1, hk1⟩ := two_flat (xs (6 * k + 1)) (xs (6 * k + 2)) (xs (6 * k + 3)) M hI
        refine j_aload_n h 627 rfl rfl dL_law_626 ?_
        refine j_aload_n h 628 rfl rfl dL_law_627 ?_
        refine j_iload_n h 629 rfl rfl dL_law_628 ?_
        refine j_iconst h 630 rfl (nI 1) (by decide) dL_law_629 ?_
        refine j_iaddN h 631 rfl dL_law_630 ?_
        refine j_sld h 632 rfl hScr _ rfl (by omega) dL_law_631 ?_
        refine j_aload_n h 633 rfl rfl dL_law_632 ?_
        refine j_iload_n h 634 rfl rfl dL_law_633 ?_
        refine j_iconst h 635 rfl (nI 2) (by decide) dL_law_634 ?_
        refine j_iaddN h 636 rfl dL_law_635 ?_
        refine j_sld h 637 rfl hScr _ rfl (by omega) dL_law_636 ?_
        refine j_aload_n h 638 rfl rfl dL_law_637 ?_
        refine j_iload_n h 639 rfl rfl dL_law_638 ?_
        refine j_iconst h 640 rfl (nI 3) (by decide) dL_law_639 ?_
        refine j_iaddN h 641 rfl dL_law_640 ?_
        refine j_sld h 642 rfl hScr _ rfl (by omega) dL_law_641 ?_
        refine j_callVX h 645 rfl lkL_85 sh_0 rfl rfl hc1 rfl rfl rfl dL_law_642 (fun x1 M1 h1 => ?_)
        obtain ⟨P2, hc2, hk2⟩ := hk1 x1 M1 h1
        refine j_aload_n h 646 rfl rfl dL_law_645 ?_
        refine j_aload_n h 647 rfl rfl dL_law_646 ?_
        refine j_iload_n h 648 rfl rfl dL_law_647 ?_
        refine j_iconst h 649 rfl (nI 1) (by decide) dL_law_648 ?_
        refine j_iaddN h 650 rfl dL_law_649 ?_
        refine j_sld h 651 rfl hScr _ rfl (by omega) dL_law_650 ?_
        refine j_aload_n h 652 rfl rfl dL_law_651 ?_
        refine j_iload_n h 653 rfl rfl dL_law_652 ?_
        refine j_iconst h 654 rfl (nI 2) (by decide) dL_law_653 ?_
        refine j_iaddN h 655 rfl dL_law_654 ?_
        refine j_sld h 656 rfl hScr _ rfl (by omega) dL_law_655 ?_
        refine j_aload_n h 657 rfl rfl dL_law_656 ?_
        refine j_iload_n h 658 rfl rfl dL_law_657 ?_
        refine j_iconst h 659 rfl (nI 3) (by decide) dL_law_658 ?_
        refine j_iaddN h 660 rfl dL_law_659 ?_
        refine j_sld h 661 rfl hScr _ rfl (by omega) dL_law_660 ?_
        refine j_callVX h 664 rfl lkL_88 sh_93 rfl rfl hc2 rfl rfl rfl dL_law_661 (fun x2 M2 h2 => ?_)
        obtain ⟨rfl, hI2⟩ := hk2 x2 M2 h2
        refine j_icmp_eq h 778 667 dL_law_664 (by decide) rfl (fun c_664 => ?_) (fun c_664 => absurd rfl c_664)
        refine j_iincK h 781 rfl 6 (by decide) rfl rfl dL_law_778 ?_
        refine j_goto h 18 dL_law_781 (by decide) ?_
        exact ih (k + 1) _ (by omega) (by omega) hI2
      | 17, ht9 =>
        cases ht9
        obtain ⟨P1, hc1, hk1⟩ := two_ring (xs (6 * k + 1)) M hI
        refine j_aload_n h 670 rfl rfl dL_law_669 ?_
        refine j_aload_n h 671 rfl rfl dL_law_670 ?_
        refine j_iload_n h 672 rfl rfl dL_law_671 ?_
        refine j_iconst h 673 rfl (nI 1) (by decide) dL_law_672 ?_
        refine j_iaddN h 674 rfl dL_law_673 ?_
        refine j_sld h 675 rfl hScr _ rfl (by omega) dL_law_674 ?_
        refine j_callVX h 678 rfl lkL_89 sh_0 rfl rfl hc1 rfl rfl rfl dL_law_675 (fun x1 M1 h1 => ?_)
        obtain ⟨P2, hc2, hk2⟩ := hk1 x1 M1 h1
        refine j_aload_n h 679 rfl rfl dL_law_678 ?_
        refine j_aload_n h 680 rfl rfl dL_law_679 ?_
        refine j_iload_n h 681 rfl rfl dL_law_680 ?_
        refine j_iconst h 682 rfl (nI 1) (by decide) dL_law_681 ?_
        refine j_iaddN h 683 rfl dL_law_682 ?_
        refine j_sld h 684 rfl hScr _ rfl (by omega) dL_law_683 ?_
        refine j_callVX h 687 rfl lkL_92 sh_93 rfl rfl hc2 rfl rfl rfl dL_law_684 (fun x2 M2 h2 => ?_)
        obtain ⟨rfl, hI2⟩ := hk2 x2 M2 h2
        refine j_icmp_eq h 778 690 dL_law_687 (by decide) rfl (fun c_687 => ?_) (fun c_687 => absurd rfl c_687)
        refine j_iincK h 781 rfl 6 (by decide) rfl rfl dL_law_778 ?_
        refine j_goto h 18 dL_law_781 (by decide) ?_
        exact ih (k + 1) _ (by omega) (by omega) hI2
      | 18, ht9 =>
        cases ht9
        obtain ⟨P1, hc1, hk1⟩ := two_street (xs (6 * k + 1)) (xs (6 * k + 2)) (xs (6 * k + 3)) (xs (6 * k + 4)) (xs (6 * k + 5)) M hI
        refine j_aload_n h 693 rfl rfl dL_law_692 ?_
        refine j_aload_n h 694 rfl rfl dL_law_693 ?_
        refine j_iload_n h 695 rfl rfl dL_law_694 ?_
        refine j_iconst h 696 rfl (nI 1) (by decide) dL_law_695 ?_
        refine j_iaddN h 697 rfl dL_law_696 ?_
        refine j_sld h 698 rfl hScr _ rfl (by omega) dL_law_697 ?_
        refine j_aload_n h 699 rfl rfl dL_law_698 ?_
        refine j_iload_n h 700 rfl rfl dL_law_699 ?_
        refine j_iconst h 701 rfl (nI 2) (by decide) dL_law_700 ?_
        refine j_iaddN h 702 rfl dL_law_701 ?_
        refine j_sld h 703 rfl hScr _ rfl (by omega) dL_law_702 ?_
        refine j_aload_n h 704 rfl rfl dL_law_703 ?_
        refine j_iload_n h 705 rfl rfl dL_law_704 ?_
        refine j_iconst h 706 rfl (nI 3) (by decide) dL_law_705 ?_
        refine j_iaddN h 707 rfl dL_law_706 ?_
        refine j_sld h 708 rfl hScr _ rfl (by omega) dL_law_707 ?_
        refine j_aload_n h 709 rfl rfl dL_law_708 ?_
        refine j_iload_n h 710 rfl rfl dL_law_709 ?_
        refine j_iconst h 711 rfl (nI 4) (by decide) dL_law_710 ?_
        refine j_iaddN h 712 rfl dL_law_711 ?_
        refine j_sld h 713 rfl hScr _ rfl (by omega) dL_law_712 ?_
        refine j_aload_n h 714 rfl rfl dL_law_713 ?_
        refine j_iload_n h 715 rfl rfl dL_law_714 ?_
        refine j_iconst h 716 rfl (nI 5) (by decide) dL_law_715 ?_
        refine j_iaddN h 717 rfl dL_law_716 ?_
        refine j_sld h 718 rfl hScr _ rfl (by omega) dL_law_717 ?_
        refine j_callVX h 721 rfl lkL_93 sh_0 rfl rfl hc1 rfl rfl rfl dL_law_718 (fun x1 M1 h1 => ?_)
        obtain ⟨P2, hc2, hk2⟩ := hk1 x1 M1 h1
        refine j_aload_n h 722 rfl rfl dL_law_721 ?_
        refine j_aload_n h 723 rfl rfl dL_law_722 ?_
        refine j_iload_n h 724 rfl rfl dL_law_723 ?_
        refine j_iconst h 725 rfl (nI 1) (by decide) dL_law_724 ?_
        refine j_iaddN h 726 rfl dL_law_725 ?_
        refine j_sld h 727 rfl hScr _ rfl (by omega) dL_law_726 ?_
        refine j_aload_n h 728 rfl rfl dL_law_727 ?_
        refine j_iload_n h 729 rfl rfl dL_law_728 ?_
        refine j_iconst h 730 rfl (nI 2) (by decide) dL_law_729 ?_
        refine j_iaddN h 731 rfl dL_law_730 ?_
        refine j_sld h 732 rfl hScr _ rfl (by omega) dL_law_731 ?_
        refine j_aload_n h 733 rfl rfl dL_law_732 ?_
        refine j_iload_n h 734 rfl rfl dL_law_733 ?_
        refine j_iconst h 735 rfl (nI 3) (by decide) dL_law_734 ?_
        refine j_iaddN h 736 rfl dL_law_735 ?_
        refine j_sld h 737 rfl hScr _ rfl (by omega) dL_law_736 ?_
        refine j_aload_n h 738 rfl rfl dL_law_737 ?_
        refine j_iload_n h 739 rfl rfl dL_law_738 ?_
        refine j_iconst h 740 rfl (nI 4) (by decide) dL_law_739 ?_
        refine j_iaddN h 741 rfl dL_law_740 ?_
        refine j_sld h 742 rfl hScr _ rfl (by omega) dL_law_741 ?_
        refine j_aload_n h 743 rfl rfl dL_law_742 ?_
        refine j_iload_n h 744 rfl rfl dL_law_743 ?_
        refine j_iconst h 745 rfl (nI 5) (by decide) dL_law_744 ?_
        refine j_iaddN h 746 rfl dL_law_745 ?_
        refine j_sld h 747 rfl hScr _ rfl (by omega) dL_law_746 ?_
        refine j_callVX h 750 rfl lkL_97 sh_93 rfl rfl hc2 rfl rfl rfl dL_law_747 (fun x2 M2 h2 => ?_)
        obtain ⟨rfl, hI2⟩ := hk2 x2 M2 h2
        refine j_icmp_eq h 778 753 dL_law_750 (by decide) rfl (fun c_750 => ?_) (fun c_750 => absurd rfl c_750)
        refine j_iincK h 781 rfl 6 (by decide) rfl rfl dL_law_778 ?_
        refine j_goto h 18 dL_law_781 (by decide) ?_
        exact ih (k + 1) _ (by omega) (by omega) hI2
      | 19, ht9 =>
        cases ht9
        obtain ⟨P1, hc1, hk1⟩ := two_count (xs (6 * k + 1)) M hI
        refine j_aload_n h 756 rfl rfl dL_law_755 ?_
        refine j_aload_n h 757 rfl rfl dL_law_756 ?_
        refine j_iload_n h 758 rfl rfl dL_law_757 ?_
        refine j_iconst h 759 rfl (nI 1) (by decide) dL_law_758 ?_
        refine j_iaddN h 760 rfl dL_law_759 ?_
        refine j_sld h 761 rfl hScr _ rfl (by omega) dL_law_760 ?_
        refine j_callVX h 764 rfl lkL_98 sh_0 rfl rfl hc1 rfl rfl rfl dL_law_761 (fun x1 M1 h1 => ?_)
        obtain ⟨P2, hc2, hk2⟩ := hk1 x1 M1 h1
        refine j_aload_n h 765 rfl rfl dL_law_764 ?_
        refine j_aload_n h 766 rfl rfl dL_law_765 ?_
        refine j_iload_n h 767 rfl rfl dL_law_766 ?_
        refine j_iconst h 768 rfl (nI 1) (by decide) dL_law_767 ?_
        refine j_iaddN h 769 rfl dL_law_768 ?_
        refine j_sld h 770 rfl hScr _ rfl (by omega) dL_law_769 ?_
        refine j_callVX h 773 rfl lkL_101 sh_93 rfl rfl hc2 rfl rfl rfl dL_law_770 (fun x2 M2 h2 => ?_)
        obtain ⟨rfl, hI2⟩ := hk2 x2 M2 h2
        refine j_icmp_eq h 778 776 dL_law_773 (by decide) rfl (fun c_773 => ?_) (fun c_773 => absurd rfl c_773)
        refine j_iincK h 781 rfl 6 (by decide) rfl rfl dL_law_778 ?_
        refine j_goto h 18 dL_law_781 (by decide) ?_
        exact ih (k + 1) _ (by omega) (by omega) hI2
      | n9 + 20, ht9 => cases ht9
    · have hI2 := hI
      refine j_iincK h 781 rfl 6 (by decide) rfl rfl dL_law_778 ?_
      refine j_goto h 18 dL_law_781 (by decide) ?_
      exact ih (k + 1) _ (by omega) (by omega) hI2
