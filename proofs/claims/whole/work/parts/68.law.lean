/-! the law: its cases, its loop -/
abbrev zL (i : Nat) : List (Option Value) := [some (.ref 500000), some (.ref 0), some (.ref 108), some (.int (nI i))]
section LW
variable {p : Program} {l : Launch} {e : Env} {s : State} {m : MethodId} {below : List Frame} {meth : Method} {c : Code} {b Lx : Nat} {xs : Nat → Int32} {D : va_G} {tc : Nat → ClassId} {adB : Nat → Nat} {k n pc q i : Nat} {st : List Value} {S : zw_S} {gi : Nat → Nat → Int32} {gl : Nat → Nat → Int64} {f : Option Nat}
theorem zl_arg {j : Nat} {jj : Int} (hE : lE p s m meth c b Lx xs D tc adB) (hL : Lx ≤ 3584) (h1 : decode code pc = .ok (.aload_n 0, 1)) (h2 : decode code (pc + 1) = .ok (.iload_n 3, 1)) (h3 : decode code (pc + 2) = .ok (.iconst jj, 1)) (h4 : decode code (pc + 3) = .ok (.iadd, 1)) (h5 : decode code (pc + 4) = .ok (.iaload, 1)) (hj : Int32.ofInt jj = nI j) (hij : i + j < Lx) (hq : pc + 5 = q) (kk : zV p l e s m below meth c b D tc adB k n q (zL i) (.int (xs (i + j)) :: st) S) : zV p l e s m below meth c b D tc adB k n pc (zL i) st S := by
  subst hq
  refine zl_aload (i := 0) hE h1 rfl rfl rfl ?_
  refine zl_iload (i := 3) hE h2 rfl rfl rfl ?_
  refine zl_iconst (v := nI j) hE h3 hj rfl ?_
  refine zl_iadd hE h4 rfl ?_
  rw [nI_add]
  refine zl_sld hE h5 (vp_in_nI hij (by omega)) rfl ?_
  rw [nI_clamp (by omega)]
  exact kk
theorem zl_arg6 {j : Nat} {jj : Int} (hE : lE p s m meth c b Lx xs D tc adB) (hL : Lx ≤ 3584) (h1 : decode code pc = .ok (.aload_n 0, 1)) (h2 : decode code (pc + 1) = .ok (.iload_n 3, 1)) (h3 : decode code (pc + 2) = .ok (.bipush jj, 2)) (h4 : decode code (pc + 4) = .ok (.iadd, 1)) (h5 : decode code (pc + 5) = .ok (.iaload, 1)) (hj : (Int8.ofInt jj).toInt32 = nI j) (hij : i + j < Lx) (hq : pc + 6 = q) (kk : zV p l e s m below meth c b D tc adB k n q (zL i) (.int (xs (i + j)) :: st) S) : zV p l e s m below meth c b D tc adB k n pc (zL i) st S := by
  subst hq
  refine zl_aload (i := 0) hE h1 rfl rfl rfl ?_
  refine zl_iload (i := 3) hE h2 rfl rfl rfl ?_
  refine zl_bipush (v := nI j) hE h3 hj rfl ?_
  refine zl_iadd hE h4 rfl ?_
  rw [nI_add]
  refine zl_sld hE h5 (vp_in_nI hij (by omega)) rfl ?_
  rw [nI_clamp (by omega)]
  exact kk
theorem lc_sort (hE : lE p s m meth c b Lx xs D tc adB) (hL : Lx ≤ 3584) (hi : i + 7 ≤ Lx) (hk : k ≤ 600000) (hn : n ≤ 7302250) (hR : zRel gi gl) (kk : ∀ gi gl f, zRel gi gl → zV p l e s m below meth c b D tc adB k n 1154 (zL i) [] (zs gi gl f)) : zV p l e s m below meth c b D tc adB k n 180 (zL i) [] (zs gi gl f) := by
  refine zl_aload (i := 1) hE dL_law_180 rfl rfl rfl ?_
  refine zl_arg (j := 1) hE hL dL_law_181 dL_law_182 dL_law_183 dL_law_184 dL_law_185 rfl (by omega) rfl ?_
  refine zl_arg (j := 2) hE hL dL_law_186 dL_law_187 dL_law_188 dL_law_189 dL_law_190 rfl (by omega) rfl ?_
  refine zl_arg (j := 3) hE hL dL_law_191 dL_law_192 dL_law_193 dL_law_194 dL_law_195 rfl (by omega) rfl ?_
  refine zl_arg (j := 4) hE hL dL_law_196 dL_law_197 dL_law_198 dL_law_199 dL_law_200 rfl (by omega) rfl ?_
  refine zl_arg (j := 5) hE hL dL_law_201 dL_law_202 dL_law_203 dL_law_204 dL_law_205 rfl (by omega) rfl ?_
  refine zl_arg6 (j := 6) hE hL dL_law_206 dL_law_207 dL_law_208 dL_law_210 dL_law_211 rfl (by omega) rfl ?_
  refine zl_callV (y' := mX7_sort) (As := [.int (xs (i + 1)), .int (xs (i + 2)), .int (xs (i + 3)), .int (xs (i + 4)), .int (xs (i + 5)), .int (xs (i + 6))]) (b' := 0) (ci := 7) hE dL_law_212 ml_RL_13 ok_mX7_sort (by decide) rfl (by decide) rfl (Nat.le_of_ble_eq_true rfl) (Nat.le_of_ble_eq_true rfl) hk hn (Or.inl rfl) (op_sort (l := l) (D := D) (tc := tc) 0 _ _ _ _ _ _ hR) ?_
  rintro r S1 ⟨x, rfl, gi1, gl1, f1, rfl, h2⟩
  show zV p l e s m below meth c b D tc adB k n 215 (zL i) [.int x] (zs gi1 gl1 f1)
  refine zl_aload (i := 2) hE dL_law_215 rfl rfl rfl ?_
  refine zl_arg (j := 1) hE hL dL_law_216 dL_law_217 dL_law_218 dL_law_219 dL_law_220 rfl (by omega) rfl ?_
  refine zl_arg (j := 2) hE hL dL_law_221 dL_law_222 dL_law_223 dL_law_224 dL_law_225 rfl (by omega) rfl ?_
  refine zl_arg (j := 3) hE hL dL_law_226 dL_law_227 dL_law_228 dL_law_229 dL_law_230 rfl (by omega) rfl ?_
  refine zl_arg (j := 4) hE hL dL_law_231 dL_law_232 dL_law_233 dL_law_234 dL_law_235 rfl (by omega) rfl ?_
  refine zl_arg (j := 5) hE hL dL_law_236 dL_law_237 dL_law_238 dL_law_239 dL_law_240 rfl (by omega) rfl ?_
  refine zl_arg6 (j := 6) hE hL dL_law_241 dL_law_242 dL_law_243 dL_law_245 dL_law_246 rfl (by omega) rfl ?_
  refine zl_callV (y' := mX8_sort) (As := [.int (xs (i + 1)), .int (xs (i + 2)), .int (xs (i + 3)), .int (xs (i + 4)), .int (xs (i + 5)), .int (xs (i + 6))]) (b' := 108) (ci := 8) hE dL_law_247 ml_RL_17 ok_mX8_sort (by decide) rfl (by decide) rfl (Nat.le_of_ble_eq_true rfl) (Nat.le_of_ble_eq_true rfl) hk hn (Or.inl rfl) (h2) ?_
  rintro r S2 ⟨x2, rfl, hx, gi2, gl2, f2, rfl, hR2⟩
  show zV p l e s m below meth c b D tc adB k n 250 (zL i) [.int x2, .int x] (zs gi2 gl2 f2)
  exact zl_icmp_eq (t := 1154) hE dL_law_250 rfl hx.symm (kk gi2 gl2 f2 hR2)
theorem lc_of (hE : lE p s m meth c b Lx xs D tc adB) (hL : Lx ≤ 3584) (hi : i + 7 ≤ Lx) (hk : k ≤ 600000) (hn : n ≤ 7302250) (hR : zRel gi gl) (kk : ∀ gi gl f, zRel gi gl → zV p l e s m below meth c b D tc adB k n 1154 (zL i) [] (zs gi gl f)) : zV p l e s m below meth c b D tc adB k n 255 (zL i) [] (zs gi gl f) := by
  refine zl_aload (i := 1) hE dL_law_255 rfl rfl rfl ?_
  refine zl_arg (j := 1) hE hL dL_law_256 dL_law_257 dL_law_258 dL_law_259 dL_law_260 rfl (by omega) rfl ?_
  refine zl_arg (j := 2) hE hL dL_law_261 dL_law_262 dL_law_263 dL_law_264 dL_law_265 rfl (by omega) rfl ?_
  refine zl_callV (y' := mX7_of) (As := [.int (xs (i + 1)), .int (xs (i + 2))]) (b' := 0) (ci := 7) hE dL_law_266 ml_RL_18 ok_mX7_of (by decide) rfl (by decide) rfl (Nat.le_of_ble_eq_true rfl) (Nat.le_of_ble_eq_true rfl) hk hn (Or.inl rfl) (op_of (l := l) (D := D) (tc := tc) 0 _ _ hR) ?_
  rintro r S1 ⟨x, rfl, gi1, gl1, f1, rfl, h2⟩
  show zV p l e s m below meth c b D tc adB k n 269 (zL i) [.int x] (zs gi1 gl1 f1)
  refine zl_aload (i := 2) hE dL_law_269 rfl rfl rfl ?_
  refine zl_arg (j := 1) hE hL dL_law_270 dL_law_271 dL_law_272 dL_law_273 dL_law_274 rfl (by omega) rfl ?_
  refine zl_arg (j := 2) hE hL dL_law_275 dL_law_276 dL_law_277 dL_law_278 dL_law_279 rfl (by omega) rfl ?_
  refine zl_callV (y' := mX8_of) (As := [.int (xs (i + 1)), .int (xs (i + 2))]) (b' := 108) (ci := 8) hE dL_law_280 ml_RL_22 ok_mX8_of (by decide) rfl (by decide) rfl (Nat.le_of_ble_eq_true rfl) (Nat.le_of_ble_eq_true rfl) hk hn (Or.inl rfl) (h2) ?_
  rintro r S2 ⟨x2, rfl, hx, gi2, gl2, f2, rfl, hR2⟩
  show zV p l e s m below meth c b D tc adB k n 283 (zL i) [.int x2, .int x] (zs gi2 gl2 f2)
  exact zl_icmp_eq (t := 1154) hE dL_law_283 rfl hx.symm (kk gi2 gl2 f2 hR2)
theorem lc_herd (hE : lE p s m meth c b Lx xs D tc adB) (hL : Lx ≤ 3584) (hi : i + 7 ≤ Lx) (hk : k ≤ 600000) (hn : n ≤ 7302250) (hR : zRel gi gl) (kk : ∀ gi gl f, zRel gi gl → zV p l e s m below meth c b D tc adB k n 1154 (zL i) [] (zs gi gl f)) : zV p l e s m below meth c b D tc adB k n 288 (zL i) [] (zs gi gl f) := by
  refine zl_aload (i := 1) hE dL_law_288 rfl rfl rfl ?_
  refine zl_arg (j := 1) hE hL dL_law_289 dL_law_290 dL_law_291 dL_law_292 dL_law_293 rfl (by omega) rfl ?_
  refine zl_arg (j := 2) hE hL dL_law_294 dL_law_295 dL_law_296 dL_law_297 dL_law_298 rfl (by omega) rfl ?_
  refine zl_arg (j := 3) hE hL dL_law_299 dL_law_300 dL_law_301 dL_law_302 dL_law_303 rfl (by omega) rfl ?_
  refine zl_callV (y' := mX7_herd) (As := [.int (xs (i + 1)), .int (xs (i + 2)), .int (xs (i + 3))]) (b' := 0) (ci := 7) hE dL_law_304 ml_RL_23 ok_mX7_herd (by decide) rfl (by decide) rfl (Nat.le_of_ble_eq_true rfl) (Nat.le_of_ble_eq_true rfl) hk hn (Or.inl rfl) (op_herd (l := l) (D := D) (tc := tc) 0 _ _ _ hR) ?_
  rintro r S1 ⟨x, rfl, gi1, gl1, f1, rfl, h2⟩
  show zV p l e s m below meth c b D tc adB k n 307 (zL i) [.int x] (zs gi1 gl1 f1)
  refine zl_aload (i := 2) hE dL_law_307 rfl rfl rfl ?_
  refine zl_arg (j := 1) hE hL dL_law_308 dL_law_309 dL_law_310 dL_law_311 dL_law_312 rfl (by omega) rfl ?_
  refine zl_arg (j := 2) hE hL dL_law_313 dL_law_314 dL_law_315 dL_law_316 dL_law_317 rfl (by omega) rfl ?_
  refine zl_arg (j := 3) hE hL dL_law_318 dL_law_319 dL_law_320 dL_law_321 dL_law_322 rfl (by omega) rfl ?_
  refine zl_callV (y' := mX8_herd) (As := [.int (xs (i + 1)), .int (xs (i + 2)), .int (xs (i + 3))]) (b' := 108) (ci := 8) hE dL_law_323 ml_RL_27 ok_mX8_herd (by decide) rfl (by decide) rfl (Nat.le_of_ble_eq_true rfl) (Nat.le_of_ble_eq_true rfl) hk hn (Or.inl rfl) (h2) ?_
  rintro r S2 ⟨x2, rfl, hx, gi2, gl2, f2, rfl, hR2⟩
  show zV p l e s m below meth c b D tc adB k n 326 (zL i) [.int x2, .int x] (zs gi2 gl2 f2)
  exact zl_icmp_eq (t := 1154) hE dL_law_326 rfl hx.symm (kk gi2 gl2 f2 hR2)
theorem lc_row (hE : lE p s m meth c b Lx xs D tc adB) (hL : Lx ≤ 3584) (hi : i + 7 ≤ Lx) (hk : k ≤ 600000) (hn : n ≤ 7302250) (hR : zRel gi gl) (kk : ∀ gi gl f, zRel gi gl → zV p l e s m below meth c b D tc adB k n 1154 (zL i) [] (zs gi gl f)) : zV p l e s m below meth c b D tc adB k n 331 (zL i) [] (zs gi gl f) := by
  refine zl_aload (i := 1) hE dL_law_331 rfl rfl rfl ?_
  refine zl_arg (j := 1) hE hL dL_law_332 dL_law_333 dL_law_334 dL_law_335 dL_law_336 rfl (by omega) rfl ?_
  refine zl_arg (j := 2) hE hL dL_law_337 dL_law_338 dL_law_339 dL_law_340 dL_law_341 rfl (by omega) rfl ?_
  refine zl_arg (j := 3) hE hL dL_law_342 dL_law_343 dL_law_344 dL_law_345 dL_law_346 rfl (by omega) rfl ?_
  refine zl_callV (y' := mX7_row) (As := [.int (xs (i + 1)), .int (xs (i + 2)), .int (xs (i + 3))]) (b' := 0) (ci := 7) hE dL_law_347 ml_RL_28 ok_mX7_row (by decide) rfl (by decide) rfl (Nat.le_of_ble_eq_true rfl) (Nat.le_of_ble_eq_true rfl) hk hn (Or.inl rfl) (op_row (l := l) (D := D) (tc := tc) 0 _ _ _ hR) ?_
  rintro r S1 ⟨x, rfl, gi1, gl1, f1, rfl, h2⟩
  show zV p l e s m below meth c b D tc adB k n 350 (zL i) [.int x] (zs gi1 gl1 f1)
  refine zl_aload (i := 2) hE dL_law_350 rfl rfl rfl ?_
  refine zl_arg (j := 1) hE hL dL_law_351 dL_law_352 dL_law_353 dL_law_354 dL_law_355 rfl (by omega) rfl ?_
  refine zl_arg (j := 2) hE hL dL_law_356 dL_law_357 dL_law_358 dL_law_359 dL_law_360 rfl (by omega) rfl ?_
  refine zl_arg (j := 3) hE hL dL_law_361 dL_law_362 dL_law_363 dL_law_364 dL_law_365 rfl (by omega) rfl ?_
  refine zl_callV (y' := mX8_row) (As := [.int (xs (i + 1)), .int (xs (i + 2)), .int (xs (i + 3))]) (b' := 108) (ci := 8) hE dL_law_366 ml_RL_31 ok_mX8_row (by decide) rfl (by decide) rfl (Nat.le_of_ble_eq_true rfl) (Nat.le_of_ble_eq_true rfl) hk hn (Or.inl rfl) (h2) ?_
  rintro r S2 ⟨x2, rfl, hx, gi2, gl2, f2, rfl, hR2⟩
  show zV p l e s m below meth c b D tc adB k n 369 (zL i) [.int x2, .int x] (zs gi2 gl2 f2)
  exact zl_icmp_eq (t := 1154) hE dL_law_369 rfl hx.symm (kk gi2 gl2 f2 hR2)
theorem lc_month (hE : lE p s m meth c b Lx xs D tc adB) (hL : Lx ≤ 3584) (hi : i + 7 ≤ Lx) (hk : k ≤ 600000) (hn : n ≤ 7302250) (hR : zRel gi gl) (kk : ∀ gi gl f, zRel gi gl → zV p l e s m below meth c b D tc adB k n 1154 (zL i) [] (zs gi gl f)) : zV p l e s m below meth c b D tc adB k n 374 (zL i) [] (zs gi gl f) := by
  refine zl_aload (i := 1) hE dL_law_374 rfl rfl rfl ?_
  refine zl_arg (j := 1) hE hL dL_law_375 dL_law_376 dL_law_377 dL_law_378 dL_law_379 rfl (by omega) rfl ?_
  refine zl_callV (y' := mX7_month) (As := [.int (xs (i + 1))]) (b' := 0) (ci := 7) hE dL_law_380 ml_RL_32 ok_mX7_month (by decide) rfl (by decide) rfl (Nat.le_of_ble_eq_true rfl) (Nat.le_of_ble_eq_true rfl) hk hn (Or.inl rfl) (op_month (l := l) (D := D) (tc := tc) 0 _ hR) ?_
  rintro r S1 ⟨x, rfl, gi1, gl1, f1, rfl, h2⟩
  show zV p l e s m below meth c b D tc adB k n 383 (zL i) [.int x] (zs gi1 gl1 f1)
  refine zl_aload (i := 2) hE dL_law_383 rfl rfl rfl ?_
  refine zl_arg (j := 1) hE hL dL_law_384 dL_law_385 dL_law_386 dL_law_387 dL_law_388 rfl (by omega) rfl ?_
  refine zl_callV (y' := mX8_month) (As := [.int (xs (i + 1))]) (b' := 108) (ci := 8) hE dL_law_389 ml_RL_36 ok_mX8_month (by decide) rfl (by decide) rfl (Nat.le_of_ble_eq_true rfl) (Nat.le_of_ble_eq_true rfl) hk hn (Or.inl rfl) (h2) ?_
  rintro r S2 ⟨x2, rfl, hx, gi2, gl2, f2, rfl, hR2⟩
  show zV p l e s m below meth c b D tc adB k n 392 (zL i) [.int x2, .int x] (zs gi2 gl2 f2)
  exact zl_icmp_eq (t := 1154) hE dL_law_392 rfl hx.symm (kk gi2 gl2 f2 hR2)
theorem lc_tell (hE : lE p s m meth c b Lx xs D tc adB) (hL : Lx ≤ 3584) (hi : i + 7 ≤ Lx) (hk : k ≤ 600000) (hn : n ≤ 7302250) (hR : zRel gi gl) (kk : ∀ gi gl f, zRel gi gl → zV p l e s m below meth c b D tc adB k n 1154 (zL i) [] (zs gi gl f)) : zV p l e s m below meth c b D tc adB k n 397 (zL i) [] (zs gi gl f) := by
  refine zl_aload (i := 1) hE dL_law_397 rfl rfl rfl ?_
  refine zl_arg (j := 1) hE hL dL_law_398 dL_law_399 dL_law_400 dL_law_401 dL_law_402 rfl (by omega) rfl ?_
  refine zl_arg (j := 2) hE hL dL_law_403 dL_law_404 dL_law_405 dL_law_406 dL_law_407 rfl (by omega) rfl ?_
  refine zl_callV (y' := mX7_tell) (As := [.int (xs (i + 1)), .int (xs (i + 2))]) (b' := 0) (ci := 7) hE dL_law_408 ml_RL_37 ok_mX7_tell (by decide) rfl (by decide) rfl (Nat.le_of_ble_eq_true rfl) (Nat.le_of_ble_eq_true rfl) hk hn (Or.inl rfl) (op_tell (l := l) (D := D) (tc := tc) 0 _ _ hR) ?_
  rintro r S1 ⟨x, rfl, gi1, gl1, f1, rfl, h2⟩
  show zV p l e s m below meth c b D tc adB k n 411 (zL i) [.int x] (zs gi1 gl1 f1)
  refine zl_aload (i := 2) hE dL_law_411 rfl rfl rfl ?_
  refine zl_arg (j := 1) hE hL dL_law_412 dL_law_413 dL_law_414 dL_law_415 dL_law_416 rfl (by omega) rfl ?_
  refine zl_arg (j := 2) hE hL dL_law_417 dL_law_418 dL_law_419 dL_law_420 dL_law_421 rfl (by omega) rfl ?_
  refine zl_callV (y' := mX8_tell) (As := [.int (xs (i + 1)), .int (xs (i + 2))]) (b' := 108) (ci := 8) hE dL_law_422 ml_RL_40 ok_mX8_tell (by decide) rfl (by decide) rfl (Nat.le_of_ble_eq_true rfl) (Nat.le_of_ble_eq_true rfl) hk hn (Or.inl rfl) (h2) ?_
  rintro r S2 ⟨x2, rfl, hx, gi2, gl2, f2, rfl, hR2⟩
  show zV p l e s m below meth c b D tc adB k n 425 (zL i) [.int x2, .int x] (zs gi2 gl2 f2)
  exact zl_icmp_eq (t := 1154) hE dL_law_425 rfl hx.symm (kk gi2 gl2 f2 hR2)
theorem lc_feed (hE : lE p s m meth c b Lx xs D tc adB) (hL : Lx ≤ 3584) (hi : i + 7 ≤ Lx) (hk : k ≤ 600000) (hn : n ≤ 7302250) (hR : zRel gi gl) (kk : ∀ gi gl f, zRel gi gl → zV p l e s m below meth c b D tc adB k n 1154 (zL i) [] (zs gi gl f)) : zV p l e s m below meth c b D tc adB k n 430 (zL i) [] (zs gi gl f) := by
  refine zl_aload (i := 1) hE dL_law_430 rfl rfl rfl ?_
  refine zl_arg (j := 1) hE hL dL_law_431 dL_law_432 dL_law_433 dL_law_434 dL_law_435 rfl (by omega) rfl ?_
  refine zl_callV (y' := mX7_feed) (As := [.int (xs (i + 1))]) (b' := 0) (ci := 7) hE dL_law_436 ml_RL_41 ok_mX7_feed (by decide) rfl (by decide) rfl (Nat.le_of_ble_eq_true rfl) (Nat.le_of_ble_eq_true rfl) hk hn (Or.inl rfl) (op_feed (l := l) (D := D) (tc := tc) 0 _ hR) ?_
  rintro r S1 ⟨x, rfl, gi1, gl1, f1, rfl, h2⟩
  show zV p l e s m below meth c b D tc adB k n 439 (zL i) [.int x] (zs gi1 gl1 f1)
  refine zl_aload (i := 2) hE dL_law_439 rfl rfl rfl ?_
  refine zl_arg (j := 1) hE hL dL_law_440 dL_law_441 dL_law_442 dL_law_443 dL_law_444 rfl (by omega) rfl ?_
  refine zl_callV (y' := mX8_feed) (As := [.int (xs (i + 1))]) (b' := 108) (ci := 8) hE dL_law_445 ml_RL_44 ok_mX8_feed (by decide) rfl (by decide) rfl (Nat.le_of_ble_eq_true rfl) (Nat.le_of_ble_eq_true rfl) hk hn (Or.inl rfl) (h2) ?_
  rintro r S2 ⟨x2, rfl, hx, gi2, gl2, f2, rfl, hR2⟩
  show zV p l e s m below meth c b D tc adB k n 448 (zL i) [.int x2, .int x] (zs gi2 gl2 f2)
  exact zl_icmp_eq (t := 1154) hE dL_law_448 rfl hx.symm (kk gi2 gl2 f2 hR2)
theorem lc_fence (hE : lE p s m meth c b Lx xs D tc adB) (hL : Lx ≤ 3584) (hi : i + 7 ≤ Lx) (hk : k ≤ 600000) (hn : n ≤ 7302250) (hR : zRel gi gl) (kk : ∀ gi gl f, zRel gi gl → zV p l e s m below meth c b D tc adB k n 1154 (zL i) [] (zs gi gl f)) : zV p l e s m below meth c b D tc adB k n 453 (zL i) [] (zs gi gl f) := by
  refine zl_aload (i := 1) hE dL_law_453 rfl rfl rfl ?_
  refine zl_callV (y' := mX7_fence) (As := []) (b' := 0) (ci := 7) hE dL_law_454 ml_RL_45 ok_mX7_fence (by decide) rfl (by decide) rfl (Nat.le_of_ble_eq_true rfl) (Nat.le_of_ble_eq_true rfl) hk hn (Or.inl rfl) (op_fence (l := l) (D := D) (tc := tc) 0 hR) ?_
  rintro r S1 ⟨x, rfl, gi1, gl1, f1, rfl, h2⟩
  show zV p l e s m below meth c b D tc adB k n 457 (zL i) [.int x] (zs gi1 gl1 f1)
  refine zl_aload (i := 2) hE dL_law_457 rfl rfl rfl ?_
  refine zl_callV (y' := mX8_fence) (As := []) (b' := 108) (ci := 8) hE dL_law_458 ml_RL_49 ok_mX8_fence (by decide) rfl (by decide) rfl (Nat.le_of_ble_eq_true rfl) (Nat.le_of_ble_eq_true rfl) hk hn (Or.inl rfl) (h2) ?_
  rintro r S2 ⟨x2, rfl, hx, gi2, gl2, f2, rfl, hR2⟩
  show zV p l e s m below meth c b D tc adB k n 461 (zL i) [.int x2, .int x] (zs gi2 gl2 f2)
  exact zl_icmp_eq (t := 1154) hE dL_law_461 rfl hx.symm (kk gi2 gl2 f2 hR2)
theorem lc_told (hE : lE p s m meth c b Lx xs D tc adB) (hL : Lx ≤ 3584) (hi : i + 7 ≤ Lx) (hk : k ≤ 600000) (hn : n ≤ 7302250) (hR : zRel gi gl) (kk : ∀ gi gl f, zRel gi gl → zV p l e s m below meth c b D tc adB k n 1154 (zL i) [] (zs gi gl f)) : zV p l e s m below meth c b D tc adB k n 466 (zL i) [] (zs gi gl f) := by
  refine zl_aload (i := 1) hE dL_law_466 rfl rfl rfl ?_
  refine zl_arg (j := 1) hE hL dL_law_467 dL_law_468 dL_law_469 dL_law_470 dL_law_471 rfl (by omega) rfl ?_
  refine zl_callV (y' := mX7_told) (As := [.int (xs (i + 1))]) (b' := 0) (ci := 7) hE dL_law_472 ml_RL_50 ok_mX7_told (by decide) rfl (by decide) rfl (Nat.le_of_ble_eq_true rfl) (Nat.le_of_ble_eq_true rfl) hk hn (Or.inl rfl) (op_told (l := l) (D := D) (tc := tc) 0 _ hR) ?_
  rintro r S1 ⟨x, rfl, gi1, gl1, f1, rfl, h2⟩
  show zV p l e s m below meth c b D tc adB k n 475 (zL i) [.int x] (zs gi1 gl1 f1)
  refine zl_aload (i := 2) hE dL_law_475 rfl rfl rfl ?_
  refine zl_arg (j := 1) hE hL dL_law_476 dL_law_477 dL_law_478 dL_law_479 dL_law_480 rfl (by omega) rfl ?_
  refine zl_callV (y' := mX8_told) (As := [.int (xs (i + 1))]) (b' := 108) (ci := 8) hE dL_law_481 ml_RL_53 ok_mX8_told (by decide) rfl (by decide) rfl (Nat.le_of_ble_eq_true rfl) (Nat.le_of_ble_eq_true rfl) hk hn (Or.inl rfl) (h2) ?_
  rintro r S2 ⟨x2, rfl, hx, gi2, gl2, f2, rfl, hR2⟩
  show zV p l e s m below meth c b D tc adB k n 484 (zL i) [.int x2, .int x] (zs gi2 gl2 f2)
  exact zl_icmp_eq (t := 1154) hE dL_law_484 rfl hx.symm (kk gi2 gl2 f2 hR2)
theorem lc_fits (hE : lE p s m meth c b Lx xs D tc adB) (hL : Lx ≤ 3584) (hi : i + 7 ≤ Lx) (hk : k ≤ 600000) (hn : n ≤ 7302250) (hR : zRel gi gl) (kk : ∀ gi gl f, zRel gi gl → zV p l e s m below meth c b D tc adB k n 1154 (zL i) [] (zs gi gl f)) : zV p l e s m below meth c b D tc adB k n 489 (zL i) [] (zs gi gl f) := by
  refine zl_aload (i := 1) hE dL_law_489 rfl rfl rfl ?_
  refine zl_arg (j := 1) hE hL dL_law_490 dL_law_491 dL_law_492 dL_law_493 dL_law_494 rfl (by omega) rfl ?_
  refine zl_callV (y' := mX7_fits) (As := [.int (xs (i + 1))]) (b' := 0) (ci := 7) hE dL_law_495 ml_RL_54 ok_mX7_fits (by decide) rfl (by decide) rfl (Nat.le_of_ble_eq_true rfl) (Nat.le_of_ble_eq_true rfl) hk hn (Or.inl rfl) (op_fits (l := l) (D := D) (tc := tc) 0 _ hR) ?_
  rintro r S1 ⟨x, rfl, gi1, gl1, f1, rfl, h2⟩
  show zV p l e s m below meth c b D tc adB k n 498 (zL i) [.int x] (zs gi1 gl1 f1)
  refine zl_aload (i := 2) hE dL_law_498 rfl rfl rfl ?_
  refine zl_arg (j := 1) hE hL dL_law_499 dL_law_500 dL_law_501 dL_law_502 dL_law_503 rfl (by omega) rfl ?_
  refine zl_callV (y' := mX8_fits) (As := [.int (xs (i + 1))]) (b' := 108) (ci := 8) hE dL_law_504 ml_RL_57 ok_mX8_fits (by decide) rfl (by decide) rfl (Nat.le_of_ble_eq_true rfl) (Nat.le_of_ble_eq_true rfl) hk hn (Or.inl rfl) (h2) ?_
  rintro r S2 ⟨x2, rfl, hx, gi2, gl2, f2, rfl, hR2⟩
  show zV p l e s m below meth c b D tc adB k n 507 (zL i) [.int x2, .int x] (zs gi2 gl2 f2)
  exact zl_icmp_eq (t := 1154) hE dL_law_507 rfl hx.symm (kk gi2 gl2 f2 hR2)
theorem lc_bars (hE : lE p s m meth c b Lx xs D tc adB) (hL : Lx ≤ 3584) (hi : i + 7 ≤ Lx) (hk : k ≤ 600000) (hn : n ≤ 7302250) (hR : zRel gi gl) (kk : ∀ gi gl f, zRel gi gl → zV p l e s m below meth c b D tc adB k n 1154 (zL i) [] (zs gi gl f)) : zV p l e s m below meth c b D tc adB k n 512 (zL i) [] (zs gi gl f) := by
  refine zl_aload (i := 1) hE dL_law_512 rfl rfl rfl ?_
  refine zl_callV (y' := mX7_bars) (As := []) (b' := 0) (ci := 7) hE dL_law_513 ml_RL_58 ok_mX7_bars (by decide) rfl (by decide) rfl (Nat.le_of_ble_eq_true rfl) (Nat.le_of_ble_eq_true rfl) hk hn (Or.inl rfl) (op_bars (l := l) (D := D) (tc := tc) 0 hR) ?_
  rintro r S1 ⟨x, rfl, gi1, gl1, f1, rfl, h2⟩
  show zV p l e s m below meth c b D tc adB k n 516 (zL i) [.int x] (zs gi1 gl1 f1)
  refine zl_aload (i := 2) hE dL_law_516 rfl rfl rfl ?_
  refine zl_callV (y' := mX8_bars) (As := []) (b' := 108) (ci := 8) hE dL_law_517 ml_RL_61 ok_mX8_bars (by decide) rfl (by decide) rfl (Nat.le_of_ble_eq_true rfl) (Nat.le_of_ble_eq_true rfl) hk hn (Or.inl rfl) (h2) ?_
  rintro r S2 ⟨x2, rfl, hx, gi2, gl2, f2, rfl, hR2⟩
  show zV p l e s m below meth c b D tc adB k n 520 (zL i) [.int x2, .int x] (zs gi2 gl2 f2)
  exact zl_icmp_eq (t := 1154) hE dL_law_520 rfl hx.symm (kk gi2 gl2 f2 hR2)
theorem lc_hole (hE : lE p s m meth c b Lx xs D tc adB) (hL : Lx ≤ 3584) (hi : i + 7 ≤ Lx) (hk : k ≤ 600000) (hn : n ≤ 7302250) (hR : zRel gi gl) (kk : ∀ gi gl f, zRel gi gl → zV p l e s m below meth c b D tc adB k n 1154 (zL i) [] (zs gi gl f)) : zV p l e s m below meth c b D tc adB k n 525 (zL i) [] (zs gi gl f) := by
  refine zl_aload (i := 1) hE dL_law_525 rfl rfl rfl ?_
  refine zl_arg (j := 1) hE hL dL_law_526 dL_law_527 dL_law_528 dL_law_529 dL_law_530 rfl (by omega) rfl ?_
  refine zl_callV (y' := mX7_hole) (As := [.int (xs (i + 1))]) (b' := 0) (ci := 7) hE dL_law_531 ml_RL_62 ok_mX7_hole (by decide) rfl (by decide) rfl (Nat.le_of_ble_eq_true rfl) (Nat.le_of_ble_eq_true rfl) hk hn (Or.inl rfl) (op_hole (l := l) (D := D) (tc := tc) 0 _ hR) ?_
  rintro r S1 ⟨x, rfl, gi1, gl1, f1, rfl, h2⟩
  show zV p l e s m below meth c b D tc adB k n 534 (zL i) [.int x] (zs gi1 gl1 f1)
  refine zl_aload (i := 2) hE dL_law_534 rfl rfl rfl ?_
  refine zl_arg (j := 1) hE hL dL_law_535 dL_law_536 dL_law_537 dL_law_538 dL_law_539 rfl (by omega) rfl ?_
  refine zl_callV (y' := mX8_hole) (As := [.int (xs (i + 1))]) (b' := 108) (ci := 8) hE dL_law_540 ml_RL_65 ok_mX8_hole (by decide) rfl (by decide) rfl (Nat.le_of_ble_eq_true rfl) (Nat.le_of_ble_eq_true rfl) hk hn (Or.inl rfl) (h2) ?_
  rintro r S2 ⟨x2, rfl, hx, gi2, gl2, f2, rfl, hR2⟩
  show zV p l e s m below meth c b D tc adB k n 543 (zL i) [.int x2, .int x] (zs gi2 gl2 f2)
  exact zl_icmp_eq (t := 1154) hE dL_law_543 rfl hx.symm (kk gi2 gl2 f2 hR2)
theorem lc_alike (hE : lE p s m meth c b Lx xs D tc adB) (hL : Lx ≤ 3584) (hi : i + 7 ≤ Lx) (hk : k ≤ 600000) (hn : n ≤ 7302250) (hR : zRel gi gl) (kk : ∀ gi gl f, zRel gi gl → zV p l e s m below meth c b D tc adB k n 1154 (zL i) [] (zs gi gl f)) : zV p l e s m below meth c b D tc adB k n 548 (zL i) [] (zs gi gl f) := by
  refine zl_aload (i := 1) hE dL_law_548 rfl rfl rfl ?_
  refine zl_arg (j := 1) hE hL dL_law_549 dL_law_550 dL_law_551 dL_law_552 dL_law_553 rfl (by omega) rfl ?_
  refine zl_callV (y' := mX7_alike) (As := [.int (xs (i + 1))]) (b' := 0) (ci := 7) hE dL_law_554 ml_RL_66 ok_mX7_alike (by decide) rfl (by decide) rfl (Nat.le_of_ble_eq_true rfl) (Nat.le_of_ble_eq_true rfl) hk hn (Or.inl rfl) (op_alike (l := l) (D := D) (tc := tc) 0 _ hR) ?_
  rintro r S1 ⟨x, rfl, gi1, gl1, f1, rfl, h2⟩
  show zV p l e s m below meth c b D tc adB k n 557 (zL i) [.int x] (zs gi1 gl1 f1)
  refine zl_aload (i := 2) hE dL_law_557 rfl rfl rfl ?_
  refine zl_arg (j := 1) hE hL dL_law_558 dL_law_559 dL_law_560 dL_law_561 dL_law_562 rfl (by omega) rfl ?_
  refine zl_callV (y' := mX8_alike) (As := [.int (xs (i + 1))]) (b' := 108) (ci := 8) hE dL_law_563 ml_RL_69 ok_mX8_alike (by decide) rfl (by decide) rfl (Nat.le_of_ble_eq_true rfl) (Nat.le_of_ble_eq_true rfl) hk hn (Or.inl rfl) (h2) ?_
  rintro r S2 ⟨x2, rfl, hx, gi2, gl2, f2, rfl, hR2⟩
  show zV p l e s m below meth c b D tc adB k n 566 (zL i) [.int x2, .int x] (zs gi2 gl2 f2)
  exact zl_icmp_eq (t := 1154) hE dL_law_566 rfl hx.symm (kk gi2 gl2 f2 hR2)
theorem lc_missed (hE : lE p s m meth c b Lx xs D tc adB) (hL : Lx ≤ 3584) (hi : i + 7 ≤ Lx) (hk : k ≤ 600000) (hn : n ≤ 7302250) (hR : zRel gi gl) (kk : ∀ gi gl f, zRel gi gl → zV p l e s m below meth c b D tc adB k n 1154 (zL i) [] (zs gi gl f)) : zV p l e s m below meth c b D tc adB k n 571 (zL i) [] (zs gi gl f) := by
  refine zl_aload (i := 1) hE dL_law_571 rfl rfl rfl ?_
  refine zl_callV (y' := mX7_missed) (As := []) (b' := 0) (ci := 7) hE dL_law_572 ml_RL_70 ok_mX7_missed (by decide) rfl (by decide) rfl (Nat.le_of_ble_eq_true rfl) (Nat.le_of_ble_eq_true rfl) hk hn (Or.inl rfl) (op_missed (l := l) (D := D) (tc := tc) 0 hR) ?_
  rintro r S1 ⟨x, rfl, gi1, gl1, f1, rfl, h2⟩
  show zV p l e s m below meth c b D tc adB k n 575 (zL i) [.int x] (zs gi1 gl1 f1)
  refine zl_aload (i := 2) hE dL_law_575 rfl rfl rfl ?_
  refine zl_callV (y' := mX8_missed) (As := []) (b' := 108) (ci := 8) hE dL_law_576 ml_RL_73 ok_mX8_missed (by decide) rfl (by decide) rfl (Nat.le_of_ble_eq_true rfl) (Nat.le_of_ble_eq_true rfl) hk hn (Or.inl rfl) (h2) ?_
  rintro r S2 ⟨x2, rfl, hx, gi2, gl2, f2, rfl, hR2⟩
  show zV p l e s m below meth c b D tc adB k n 579 (zL i) [.int x2, .int x] (zs gi2 gl2 f2)
  exact zl_icmp_eq (t := 1154) hE dL_law_579 rfl hx.symm (kk gi2 gl2 f2 hR2)
theorem lc_mix (hE : lE p s m meth c b Lx xs D tc adB) (hL : Lx ≤ 3584) (hi : i + 7 ≤ Lx) (hk : k ≤ 600000) (hn : n ≤ 7302250) (hR : zRel gi gl) (kk : ∀ gi gl f, zRel gi gl → zV p l e s m below meth c b D tc adB k n 1154 (zL i) [] (zs gi gl f)) : zV p l e s m below meth c b D tc adB k n 584 (zL i) [] (zs gi gl f) := by
  refine zl_aload (i := 1) hE dL_law_584 rfl rfl rfl ?_
  refine zl_callV (y' := mX7_mix) (As := []) (b' := 0) (ci := 7) hE dL_law_585 ml_RL_74 ok_mX7_mix (by decide) rfl (by decide) rfl (Nat.le_of_ble_eq_true rfl) (Nat.le_of_ble_eq_true rfl) hk hn (Or.inl rfl) (op_mix (l := l) (D := D) (tc := tc) 0 hR) ?_
  rintro r S1 ⟨x, rfl, gi1, gl1, f1, rfl, h2⟩
  show zV p l e s m below meth c b D tc adB k n 588 (zL i) [.int x] (zs gi1 gl1 f1)
  refine zl_aload (i := 2) hE dL_law_588 rfl rfl rfl ?_
  refine zl_callV (y' := mX8_mix) (As := []) (b' := 108) (ci := 8) hE dL_law_589 ml_RL_77 ok_mX8_mix (by decide) rfl (by decide) rfl (Nat.le_of_ble_eq_true rfl) (Nat.le_of_ble_eq_true rfl) hk hn (Or.inl rfl) (h2) ?_
  rintro r S2 ⟨x2, rfl, hx, gi2, gl2, f2, rfl, hR2⟩
  show zV p l e s m below meth c b D tc adB k n 592 (zL i) [.int x2, .int x] (zs gi2 gl2 f2)
  exact zl_icmp_eq (t := 1154) hE dL_law_592 rfl hx.symm (kk gi2 gl2 f2 hR2)
theorem lc_prices (hE : lE p s m meth c b Lx xs D tc adB) (hL : Lx ≤ 3584) (hi : i + 7 ≤ Lx) (hk : k ≤ 600000) (hn : n ≤ 7302250) (hR : zRel gi gl) (kk : ∀ gi gl f, zRel gi gl → zV p l e s m below meth c b D tc adB k n 1154 (zL i) [] (zs gi gl f)) : zV p l e s m below meth c b D tc adB k n 597 (zL i) [] (zs gi gl f) := by
  refine zl_aload (i := 1) hE dL_law_597 rfl rfl rfl ?_
  refine zl_arg (j := 1) hE hL dL_law_598 dL_law_599 dL_law_600 dL_law_601 dL_law_602 rfl (by omega) rfl ?_
  refine zl_callV (y' := mX7_prices) (As := [.int (xs (i + 1))]) (b' := 0) (ci := 7) hE dL_law_603 ml_RL_78 ok_mX7_prices (by decide) rfl (by decide) rfl (Nat.le_of_ble_eq_true rfl) (Nat.le_of_ble_eq_true rfl) hk hn (Or.inl rfl) (op_prices (l := l) (D := D) (tc := tc) 0 _ hR) ?_
  rintro r S1 ⟨x, rfl, gi1, gl1, f1, rfl, h2⟩
  show zV p l e s m below meth c b D tc adB k n 606 (zL i) [.int x] (zs gi1 gl1 f1)
  refine zl_aload (i := 2) hE dL_law_606 rfl rfl rfl ?_
  refine zl_arg (j := 1) hE hL dL_law_607 dL_law_608 dL_law_609 dL_law_610 dL_law_611 rfl (by omega) rfl ?_
  refine zl_callV (y' := mX8_prices) (As := [.int (xs (i + 1))]) (b' := 108) (ci := 8) hE dL_law_612 ml_RL_81 ok_mX8_prices (by decide) rfl (by decide) rfl (Nat.le_of_ble_eq_true rfl) (Nat.le_of_ble_eq_true rfl) hk hn (Or.inl rfl) (h2) ?_
  rintro r S2 ⟨x2, rfl, hx, gi2, gl2, f2, rfl, hR2⟩
  show zV p l e s m below meth c b D tc adB k n 615 (zL i) [.int x2, .int x] (zs gi2 gl2 f2)
  exact zl_icmp_eq (t := 1154) hE dL_law_615 rfl hx.symm (kk gi2 gl2 f2 hR2)
theorem lc_hid (hE : lE p s m meth c b Lx xs D tc adB) (hL : Lx ≤ 3584) (hi : i + 7 ≤ Lx) (hk : k ≤ 600000) (hn : n ≤ 7302250) (hR : zRel gi gl) (kk : ∀ gi gl f, zRel gi gl → zV p l e s m below meth c b D tc adB k n 1154 (zL i) [] (zs gi gl f)) : zV p l e s m below meth c b D tc adB k n 620 (zL i) [] (zs gi gl f) := by
  refine zl_aload (i := 1) hE dL_law_620 rfl rfl rfl ?_
  refine zl_callV (y' := mX7_hid) (As := []) (b' := 0) (ci := 7) hE dL_law_621 ml_RL_82 ok_mX7_hid (by decide) rfl (by decide) rfl (Nat.le_of_ble_eq_true rfl) (Nat.le_of_ble_eq_true rfl) hk hn (Or.inl rfl) (op_hid (l := l) (D := D) (tc := tc) 0 hR) ?_
  rintro r S1 ⟨x, rfl, gi1, gl1, f1, rfl, h2⟩
  show zV p l e s m below meth c b D tc adB k n 624 (zL i) [.int x] (zs gi1 gl1 f1)
  refine zl_aload (i := 2) hE dL_law_624 rfl rfl rfl ?_
  refine zl_callV (y' := mX8_hid) (As := []) (b' := 108) (ci := 8) hE dL_law_625 ml_RL_85 ok_mX8_hid (by decide) rfl (by decide) rfl (Nat.le_of_ble_eq_true rfl) (Nat.le_of_ble_eq_true rfl) hk hn (Or.inl rfl) (h2) ?_
  rintro r S2 ⟨x2, rfl, hx, gi2, gl2, f2, rfl, hR2⟩
  show zV p l e s m below meth c b D tc adB k n 628 (zL i) [.int x2, .int x] (zs gi2 gl2 f2)
  exact zl_icmp_eq (t := 1154) hE dL_law_628 rfl hx.symm (kk gi2 gl2 f2 hR2)
theorem lc_months (hE : lE p s m meth c b Lx xs D tc adB) (hL : Lx ≤ 3584) (hi : i + 7 ≤ Lx) (hk : k ≤ 600000) (hn : n ≤ 7302250) (hR : zRel gi gl) (kk : ∀ gi gl f, zRel gi gl → zV p l e s m below meth c b D tc adB k n 1154 (zL i) [] (zs gi gl f)) : zV p l e s m below meth c b D tc adB k n 633 (zL i) [] (zs gi gl f) := by
  refine zl_aload (i := 1) hE dL_law_633 rfl rfl rfl ?_
  refine zl_callV (y' := mX7_months) (As := []) (b' := 0) (ci := 7) hE dL_law_634 ml_RL_86 ok_mX7_months (by decide) rfl (by decide) rfl (Nat.le_of_ble_eq_true rfl) (Nat.le_of_ble_eq_true rfl) hk hn (Or.inl rfl) (op_months (l := l) (D := D) (tc := tc) 0 hR) ?_
  rintro r S1 ⟨x, rfl, gi1, gl1, f1, rfl, h2⟩
  show zV p l e s m below meth c b D tc adB k n 637 (zL i) [.int x] (zs gi1 gl1 f1)
  refine zl_aload (i := 2) hE dL_law_637 rfl rfl rfl ?_
  refine zl_callV (y' := mX8_months) (As := []) (b' := 108) (ci := 8) hE dL_law_638 ml_RL_89 ok_mX8_months (by decide) rfl (by decide) rfl (Nat.le_of_ble_eq_true rfl) (Nat.le_of_ble_eq_true rfl) hk hn (Or.inl rfl) (h2) ?_
  rintro r S2 ⟨x2, rfl, hx, gi2, gl2, f2, rfl, hR2⟩
  show zV p l e s m below meth c b D tc adB k n 641 (zL i) [.int x2, .int x] (zs gi2 gl2 f2)
  exact zl_icmp_eq (t := 1154) hE dL_law_641 rfl hx.symm (kk gi2 gl2 f2 hR2)
theorem lc_odds (hE : lE p s m meth c b Lx xs D tc adB) (hL : Lx ≤ 3584) (hi : i + 7 ≤ Lx) (hk : k ≤ 600000) (hn : n ≤ 7302250) (hR : zRel gi gl) (kk : ∀ gi gl f, zRel gi gl → zV p l e s m below meth c b D tc adB k n 1154 (zL i) [] (zs gi gl f)) : zV p l e s m below meth c b D tc adB k n 646 (zL i) [] (zs gi gl f) := by
  refine zl_aload (i := 1) hE dL_law_646 rfl rfl rfl ?_
  refine zl_arg (j := 1) hE hL dL_law_647 dL_law_648 dL_law_649 dL_law_650 dL_law_651 rfl (by omega) rfl ?_
  refine zl_arg (j := 2) hE hL dL_law_652 dL_law_653 dL_law_654 dL_law_655 dL_law_656 rfl (by omega) rfl ?_
  refine zl_callV (y' := mX7_odds) (As := [.int (xs (i + 1)), .int (xs (i + 2))]) (b' := 0) (ci := 7) hE dL_law_657 ml_RL_90 ok_mX7_odds (by decide) rfl (by decide) rfl (Nat.le_of_ble_eq_true rfl) (Nat.le_of_ble_eq_true rfl) hk hn (Or.inl rfl) (op_odds (l := l) (D := D) (tc := tc) 0 _ _ hR) ?_
  rintro r S1 ⟨x, rfl, gi1, gl1, f1, rfl, h2⟩
  show zV p l e s m below meth c b D tc adB k n 660 (zL i) [.long x] (zs gi1 gl1 f1)
  refine zl_aload (i := 2) hE dL_law_660 rfl rfl rfl ?_
  refine zl_arg (j := 1) hE hL dL_law_661 dL_law_662 dL_law_663 dL_law_664 dL_law_665 rfl (by omega) rfl ?_
  refine zl_arg (j := 2) hE hL dL_law_666 dL_law_667 dL_law_668 dL_law_669 dL_law_670 rfl (by omega) rfl ?_
  refine zl_callV (y' := mX8_odds) (As := [.int (xs (i + 1)), .int (xs (i + 2))]) (b' := 108) (ci := 8) hE dL_law_671 ml_RL_94 ok_mX8_odds (by decide) rfl (by decide) rfl (Nat.le_of_ble_eq_true rfl) (Nat.le_of_ble_eq_true rfl) hk hn (Or.inl rfl) (h2) ?_
  rintro r S2 ⟨x2, rfl, hx, gi2, gl2, f2, rfl, hR2⟩
  show zV p l e s m below meth c b D tc adB k n 674 (zL i) [.long x2, .long x] (zs gi2 gl2 f2)
  refine zl_lcmp hE dL_law_674 rfl ?_
  exact zl_if_eq (t := 1154) hE dL_law_675 rfl ((lg_cmp_eq _ _).mpr hx.symm) (kk gi2 gl2 f2 hR2)
theorem lc_mean (hE : lE p s m meth c b Lx xs D tc adB) (hL : Lx ≤ 3584) (hi : i + 7 ≤ Lx) (hk : k ≤ 600000) (hn : n ≤ 7302250) (hR : zRel gi gl) (kk : ∀ gi gl f, zRel gi gl → zV p l e s m below meth c b D tc adB k n 1154 (zL i) [] (zs gi gl f)) : zV p l e s m below meth c b D tc adB k n 680 (zL i) [] (zs gi gl f) := by
  refine zl_aload (i := 1) hE dL_law_680 rfl rfl rfl ?_
  refine zl_arg (j := 1) hE hL dL_law_681 dL_law_682 dL_law_683 dL_law_684 dL_law_685 rfl (by omega) rfl ?_
  refine zl_arg (j := 2) hE hL dL_law_686 dL_law_687 dL_law_688 dL_law_689 dL_law_690 rfl (by omega) rfl ?_
  refine zl_callV (y' := mX7_mean) (As := [.int (xs (i + 1)), .int (xs (i + 2))]) (b' := 0) (ci := 7) hE dL_law_691 ml_RL_95 ok_mX7_mean (by decide) rfl (by decide) rfl (Nat.le_of_ble_eq_true rfl) (Nat.le_of_ble_eq_true rfl) hk hn (Or.inl rfl) (op_mean (l := l) (D := D) (tc := tc) 0 _ _ hR) ?_
  rintro r S1 ⟨x, rfl, gi1, gl1, f1, rfl, h2⟩
  show zV p l e s m below meth c b D tc adB k n 694 (zL i) [.long x] (zs gi1 gl1 f1)
  refine zl_aload (i := 2) hE dL_law_694 rfl rfl rfl ?_
  refine zl_arg (j := 1) hE hL dL_law_695 dL_law_696 dL_law_697 dL_law_698 dL_law_699 rfl (by omega) rfl ?_
  refine zl_arg (j := 2) hE hL dL_law_700 dL_law_701 dL_law_702 dL_law_703 dL_law_704 rfl (by omega) rfl ?_
  refine zl_callV (y' := mX8_mean) (As := [.int (xs (i + 1)), .int (xs (i + 2))]) (b' := 108) (ci := 8) hE dL_law_705 ml_RL_98 ok_mX8_mean (by decide) rfl (by decide) rfl (Nat.le_of_ble_eq_true rfl) (Nat.le_of_ble_eq_true rfl) hk hn (Or.inl rfl) (h2) ?_
  rintro r S2 ⟨x2, rfl, hx, gi2, gl2, f2, rfl, hR2⟩
  show zV p l e s m below meth c b D tc adB k n 708 (zL i) [.long x2, .long x] (zs gi2 gl2 f2)
  refine zl_lcmp hE dL_law_708 rfl ?_
  exact zl_if_eq (t := 1154) hE dL_law_709 rfl ((lg_cmp_eq _ _).mpr hx.symm) (kk gi2 gl2 f2 hR2)
theorem lc_book (hE : lE p s m meth c b Lx xs D tc adB) (hL : Lx ≤ 3584) (hi : i + 7 ≤ Lx) (hk : k ≤ 600000) (hn : n ≤ 7302250) (hR : zRel gi gl) (kk : ∀ gi gl f, zRel gi gl → zV p l e s m below meth c b D tc adB k n 1154 (zL i) [] (zs gi gl f)) : zV p l e s m below meth c b D tc adB k n 714 (zL i) [] (zs gi gl f) := by
  refine zl_aload (i := 1) hE dL_law_714 rfl rfl rfl ?_
  refine zl_arg (j := 1) hE hL dL_law_715 dL_law_716 dL_law_717 dL_law_718 dL_law_719 rfl (by omega) rfl ?_
  refine zl_arg (j := 2) hE hL dL_law_720 dL_law_721 dL_law_722 dL_law_723 dL_law_724 rfl (by omega) rfl ?_
  refine zl_callV (y' := mX7_book) (As := [.int (xs (i + 1)), .int (xs (i + 2))]) (b' := 0) (ci := 7) hE dL_law_725 ml_RL_99 ok_mX7_book (by decide) rfl (by decide) rfl (Nat.le_of_ble_eq_true rfl) (Nat.le_of_ble_eq_true rfl) hk hn (Or.inl rfl) (op_book (l := l) (D := D) (tc := tc) 0 _ _ hR) ?_
  rintro r S1 ⟨x, rfl, gi1, gl1, f1, rfl, h2⟩
  show zV p l e s m below meth c b D tc adB k n 728 (zL i) [.int x] (zs gi1 gl1 f1)
  refine zl_aload (i := 2) hE dL_law_728 rfl rfl rfl ?_
  refine zl_arg (j := 1) hE hL dL_law_729 dL_law_730 dL_law_731 dL_law_732 dL_law_733 rfl (by omega) rfl ?_
  refine zl_arg (j := 2) hE hL dL_law_734 dL_law_735 dL_law_736 dL_law_737 dL_law_738 rfl (by omega) rfl ?_
  refine zl_callV (y' := mX8_book) (As := [.int (xs (i + 1)), .int (xs (i + 2))]) (b' := 108) (ci := 8) hE dL_law_739 ml_RL_102 ok_mX8_book (by decide) rfl (by decide) rfl (Nat.le_of_ble_eq_true rfl) (Nat.le_of_ble_eq_true rfl) hk hn (Or.inl rfl) (h2) ?_
  rintro r S2 ⟨x2, rfl, hx, gi2, gl2, f2, rfl, hR2⟩
  show zV p l e s m below meth c b D tc adB k n 742 (zL i) [.int x2, .int x] (zs gi2 gl2 f2)
  exact zl_icmp_eq (t := 1154) hE dL_law_742 rfl hx.symm (kk gi2 gl2 f2 hR2)
theorem lc_looked (hE : lE p s m meth c b Lx xs D tc adB) (hL : Lx ≤ 3584) (hi : i + 7 ≤ Lx) (hk : k ≤ 600000) (hn : n ≤ 7302250) (hR : zRel gi gl) (kk : ∀ gi gl f, zRel gi gl → zV p l e s m below meth c b D tc adB k n 1154 (zL i) [] (zs gi gl f)) : zV p l e s m below meth c b D tc adB k n 747 (zL i) [] (zs gi gl f) := by
  refine zl_aload (i := 1) hE dL_law_747 rfl rfl rfl ?_
  refine zl_callV (y' := mX7_looked) (As := []) (b' := 0) (ci := 7) hE dL_law_748 ml_RL_103 ok_mX7_looked (by decide) rfl (by decide) rfl (Nat.le_of_ble_eq_true rfl) (Nat.le_of_ble_eq_true rfl) hk hn (Or.inl rfl) (op_looked (l := l) (D := D) (tc := tc) 0 hR) ?_
  rintro r S1 ⟨x, rfl, gi1, gl1, f1, rfl, h2⟩
  show zV p l e s m below meth c b D tc adB k n 751 (zL i) [.int x] (zs gi1 gl1 f1)
  refine zl_aload (i := 2) hE dL_law_751 rfl rfl rfl ?_
  refine zl_callV (y' := mX8_looked) (As := []) (b' := 108) (ci := 8) hE dL_law_752 ml_RL_106 ok_mX8_looked (by decide) rfl (by decide) rfl (Nat.le_of_ble_eq_true rfl) (Nat.le_of_ble_eq_true rfl) hk hn (Or.inl rfl) (h2) ?_
  rintro r S2 ⟨x2, rfl, hx, gi2, gl2, f2, rfl, hR2⟩
  show zV p l e s m below meth c b D tc adB k n 755 (zL i) [.int x2, .int x] (zs gi2 gl2 f2)
  exact zl_icmp_eq (t := 1154) hE dL_law_755 rfl hx.symm (kk gi2 gl2 f2 hR2)
theorem lc_judge (hE : lE p s m meth c b Lx xs D tc adB) (hL : Lx ≤ 3584) (hi : i + 7 ≤ Lx) (hk : k ≤ 600000) (hn : n ≤ 7302250) (hR : zRel gi gl) (kk : ∀ gi gl f, zRel gi gl → zV p l e s m below meth c b D tc adB k n 1154 (zL i) [] (zs gi gl f)) : zV p l e s m below meth c b D tc adB k n 760 (zL i) [] (zs gi gl f) := by
  refine zl_aload (i := 1) hE dL_law_760 rfl rfl rfl ?_
  refine zl_arg (j := 1) hE hL dL_law_761 dL_law_762 dL_law_763 dL_law_764 dL_law_765 rfl (by omega) rfl ?_
  refine zl_arg (j := 2) hE hL dL_law_766 dL_law_767 dL_law_768 dL_law_769 dL_law_770 rfl (by omega) rfl ?_
  refine zl_callV (y' := mX7_judge) (As := [.int (xs (i + 1)), .int (xs (i + 2))]) (b' := 0) (ci := 7) hE dL_law_771 ml_RL_107 ok_mX7_judge (by decide) rfl (by decide) rfl (Nat.le_of_ble_eq_true rfl) (Nat.le_of_ble_eq_true rfl) hk hn (Or.inl rfl) (op_judge (l := l) (D := D) (tc := tc) 0 _ _ hR) ?_
  rintro r S1 ⟨x, rfl, gi1, gl1, f1, rfl, h2⟩
  show zV p l e s m below meth c b D tc adB k n 774 (zL i) [.int x] (zs gi1 gl1 f1)
  refine zl_aload (i := 2) hE dL_law_774 rfl rfl rfl ?_
  refine zl_arg (j := 1) hE hL dL_law_775 dL_law_776 dL_law_777 dL_law_778 dL_law_779 rfl (by omega) rfl ?_
  refine zl_arg (j := 2) hE hL dL_law_780 dL_law_781 dL_law_782 dL_law_783 dL_law_784 rfl (by omega) rfl ?_
  refine zl_callV (y' := mX8_judge) (As := [.int (xs (i + 1)), .int (xs (i + 2))]) (b' := 108) (ci := 8) hE dL_law_785 ml_RL_110 ok_mX8_judge (by decide) rfl (by decide) rfl (Nat.le_of_ble_eq_true rfl) (Nat.le_of_ble_eq_true rfl) hk hn (Or.inl rfl) (h2) ?_
  rintro r S2 ⟨x2, rfl, hx, gi2, gl2, f2, rfl, hR2⟩
  show zV p l e s m below meth c b D tc adB k n 788 (zL i) [.int x2, .int x] (zs gi2 gl2 f2)
  exact zl_icmp_eq (t := 1154) hE dL_law_788 rfl hx.symm (kk gi2 gl2 f2 hR2)
theorem lc_image (hE : lE p s m meth c b Lx xs D tc adB) (hL : Lx ≤ 3584) (hi : i + 7 ≤ Lx) (hk : k ≤ 600000) (hn : n ≤ 7302250) (hR : zRel gi gl) (kk : ∀ gi gl f, zRel gi gl → zV p l e s m below meth c b D tc adB k n 1154 (zL i) [] (zs gi gl f)) : zV p l e s m below meth c b D tc adB k n 793 (zL i) [] (zs gi gl f) := by
  refine zl_aload (i := 1) hE dL_law_793 rfl rfl rfl ?_
  refine zl_callV (y' := mX7_image) (As := []) (b' := 0) (ci := 7) hE dL_law_794 ml_RL_111 ok_mX7_image (by decide) rfl (by decide) rfl (Nat.le_of_ble_eq_true rfl) (Nat.le_of_ble_eq_true rfl) hk hn (Or.inl rfl) (op_image (l := l) (D := D) (tc := tc) 0 hR) ?_
  rintro r S1 ⟨x, rfl, gi1, gl1, f1, rfl, h2⟩
  show zV p l e s m below meth c b D tc adB k n 797 (zL i) [.int x] (zs gi1 gl1 f1)
  refine zl_aload (i := 2) hE dL_law_797 rfl rfl rfl ?_
  refine zl_callV (y' := mX8_image) (As := []) (b' := 108) (ci := 8) hE dL_law_798 ml_RL_114 ok_mX8_image (by decide) rfl (by decide) rfl (Nat.le_of_ble_eq_true rfl) (Nat.le_of_ble_eq_true rfl) hk hn (Or.inl rfl) (h2) ?_
  rintro r S2 ⟨x2, rfl, hx, gi2, gl2, f2, rfl, hR2⟩
  show zV p l e s m below meth c b D tc adB k n 801 (zL i) [.int x2, .int x] (zs gi2 gl2 f2)
  exact zl_icmp_eq (t := 1154) hE dL_law_801 rfl hx.symm (kk gi2 gl2 f2 hR2)
theorem lc_undo (hE : lE p s m meth c b Lx xs D tc adB) (hL : Lx ≤ 3584) (hi : i + 7 ≤ Lx) (hk : k ≤ 600000) (hn : n ≤ 7302250) (hR : zRel gi gl) (kk : ∀ gi gl f, zRel gi gl → zV p l e s m below meth c b D tc adB k n 1154 (zL i) [] (zs gi gl f)) : zV p l e s m below meth c b D tc adB k n 806 (zL i) [] (zs gi gl f) := by
  refine zl_aload (i := 1) hE dL_law_806 rfl rfl rfl ?_
  refine zl_callV (y' := mX7_undo) (As := []) (b' := 0) (ci := 7) hE dL_law_807 ml_RL_115 ok_mX7_undo (by decide) rfl (by decide) rfl (Nat.le_of_ble_eq_true rfl) (Nat.le_of_ble_eq_true rfl) hk hn (Or.inl rfl) (op_undo (l := l) (D := D) (tc := tc) 0 hR) ?_
  rintro r S1 ⟨x, rfl, gi1, gl1, f1, rfl, h2⟩
  show zV p l e s m below meth c b D tc adB k n 810 (zL i) [.int x] (zs gi1 gl1 f1)
  refine zl_aload (i := 2) hE dL_law_810 rfl rfl rfl ?_
  refine zl_callV (y' := mX8_undo) (As := []) (b' := 108) (ci := 8) hE dL_law_811 ml_RL_118 ok_mX8_undo (by decide) rfl (by decide) rfl (Nat.le_of_ble_eq_true rfl) (Nat.le_of_ble_eq_true rfl) hk hn (Or.inl rfl) (h2) ?_
  rintro r S2 ⟨x2, rfl, hx, gi2, gl2, f2, rfl, hR2⟩
  show zV p l e s m below meth c b D tc adB k n 814 (zL i) [.int x2, .int x] (zs gi2 gl2 f2)
  exact zl_icmp_eq (t := 1154) hE dL_law_814 rfl hx.symm (kk gi2 gl2 f2 hR2)
theorem lc_act (hE : lE p s m meth c b Lx xs D tc adB) (hL : Lx ≤ 3584) (hi : i + 7 ≤ Lx) (hk : k ≤ 600000) (hn : n ≤ 7302250) (hR : zRel gi gl) (kk : ∀ gi gl f, zRel gi gl → zV p l e s m below meth c b D tc adB k n 1154 (zL i) [] (zs gi gl f)) : zV p l e s m below meth c b D tc adB k n 819 (zL i) [] (zs gi gl f) := by
  refine zl_aload (i := 1) hE dL_law_819 rfl rfl rfl ?_
  refine zl_arg (j := 1) hE hL dL_law_820 dL_law_821 dL_law_822 dL_law_823 dL_law_824 rfl (by omega) rfl ?_
  refine zl_arg (j := 2) hE hL dL_law_825 dL_law_826 dL_law_827 dL_law_828 dL_law_829 rfl (by omega) rfl ?_
  refine zl_arg (j := 3) hE hL dL_law_830 dL_law_831 dL_law_832 dL_law_833 dL_law_834 rfl (by omega) rfl ?_
  refine zl_callV (y' := mX7_act) (As := [.int (xs (i + 1)), .int (xs (i + 2)), .int (xs (i + 3))]) (b' := 0) (ci := 7) hE dL_law_835 ml_RL_119 ok_mX7_act (by decide) rfl (by decide) rfl (Nat.le_of_ble_eq_true rfl) (Nat.le_of_ble_eq_true rfl) hk hn (Or.inl rfl) (op_act (l := l) (D := D) (tc := tc) 0 _ _ _ hR) ?_
  rintro r S1 ⟨x, rfl, gi1, gl1, f1, rfl, h2⟩
  show zV p l e s m below meth c b D tc adB k n 838 (zL i) [.int x] (zs gi1 gl1 f1)
  refine zl_aload (i := 2) hE dL_law_838 rfl rfl rfl ?_
  refine zl_arg (j := 1) hE hL dL_law_839 dL_law_840 dL_law_841 dL_law_842 dL_law_843 rfl (by omega) rfl ?_
  refine zl_arg (j := 2) hE hL dL_law_844 dL_law_845 dL_law_846 dL_law_847 dL_law_848 rfl (by omega) rfl ?_
  refine zl_arg (j := 3) hE hL dL_law_849 dL_law_850 dL_law_851 dL_law_852 dL_law_853 rfl (by omega) rfl ?_
  refine zl_callV (y' := mX8_act) (As := [.int (xs (i + 1)), .int (xs (i + 2)), .int (xs (i + 3))]) (b' := 108) (ci := 8) hE dL_law_854 ml_RL_122 ok_mX8_act (by decide) rfl (by decide) rfl (Nat.le_of_ble_eq_true rfl) (Nat.le_of_ble_eq_true rfl) hk hn (Or.inl rfl) (h2) ?_
  rintro r S2 ⟨x2, rfl, hx, gi2, gl2, f2, rfl, hR2⟩
  show zV p l e s m below meth c b D tc adB k n 857 (zL i) [.int x2, .int x] (zs gi2 gl2 f2)
  exact zl_icmp_eq (t := 1154) hE dL_law_857 rfl hx.symm (kk gi2 gl2 f2 hR2)
theorem lc_trace (hE : lE p s m meth c b Lx xs D tc adB) (hL : Lx ≤ 3584) (hi : i + 7 ≤ Lx) (hk : k ≤ 600000) (hn : n ≤ 7302250) (hR : zRel gi gl) (kk : ∀ gi gl f, zRel gi gl → zV p l e s m below meth c b D tc adB k n 1154 (zL i) [] (zs gi gl f)) : zV p l e s m below meth c b D tc adB k n 862 (zL i) [] (zs gi gl f) := by
  refine zl_aload (i := 1) hE dL_law_862 rfl rfl rfl ?_
  refine zl_arg (j := 1) hE hL dL_law_863 dL_law_864 dL_law_865 dL_law_866 dL_law_867 rfl (by omega) rfl ?_
  refine zl_callV (y' := mX7_trace) (As := [.int (xs (i + 1))]) (b' := 0) (ci := 7) hE dL_law_868 ml_RL_123 ok_mX7_trace (by decide) rfl (by decide) rfl (Nat.le_of_ble_eq_true rfl) (Nat.le_of_ble_eq_true rfl) hk hn (Or.inl rfl) (op_trace (l := l) (D := D) (tc := tc) 0 _ hR) ?_
  rintro r S1 ⟨x, rfl, gi1, gl1, f1, rfl, h2⟩
  show zV p l e s m below meth c b D tc adB k n 871 (zL i) [.int x] (zs gi1 gl1 f1)
  refine zl_aload (i := 2) hE dL_law_871 rfl rfl rfl ?_
  refine zl_arg (j := 1) hE hL dL_law_872 dL_law_873 dL_law_874 dL_law_875 dL_law_876 rfl (by omega) rfl ?_
  refine zl_callV (y' := mX8_trace) (As := [.int (xs (i + 1))]) (b' := 108) (ci := 8) hE dL_law_877 ml_RL_126 ok_mX8_trace (by decide) rfl (by decide) rfl (Nat.le_of_ble_eq_true rfl) (Nat.le_of_ble_eq_true rfl) hk hn (Or.inl rfl) (h2) ?_
  rintro r S2 ⟨x2, rfl, hx, gi2, gl2, f2, rfl, hR2⟩
  show zV p l e s m below meth c b D tc adB k n 880 (zL i) [.int x2, .int x] (zs gi2 gl2 f2)
  exact zl_icmp_eq (t := 1154) hE dL_law_880 rfl hx.symm (kk gi2 gl2 f2 hR2)
theorem lc_taken (hE : lE p s m meth c b Lx xs D tc adB) (hL : Lx ≤ 3584) (hi : i + 7 ≤ Lx) (hk : k ≤ 600000) (hn : n ≤ 7302250) (hR : zRel gi gl) (kk : ∀ gi gl f, zRel gi gl → zV p l e s m below meth c b D tc adB k n 1154 (zL i) [] (zs gi gl f)) : zV p l e s m below meth c b D tc adB k n 885 (zL i) [] (zs gi gl f) := by
  refine zl_aload (i := 1) hE dL_law_885 rfl rfl rfl ?_
  refine zl_arg (j := 1) hE hL dL_law_886 dL_law_887 dL_law_888 dL_law_889 dL_law_890 rfl (by omega) rfl ?_
  refine zl_arg (j := 2) hE hL dL_law_891 dL_law_892 dL_law_893 dL_law_894 dL_law_895 rfl (by omega) rfl ?_
  refine zl_callV (y' := mX7_taken) (As := [.int (xs (i + 1)), .int (xs (i + 2))]) (b' := 0) (ci := 7) hE dL_law_896 ml_RL_127 ok_mX7_taken (by decide) rfl (by decide) rfl (Nat.le_of_ble_eq_true rfl) (Nat.le_of_ble_eq_true rfl) hk hn (Or.inl rfl) (op_taken (l := l) (D := D) (tc := tc) 0 _ _ hR) ?_
  rintro r S1 ⟨x, rfl, gi1, gl1, f1, rfl, h2⟩
  show zV p l e s m below meth c b D tc adB k n 899 (zL i) [.int x] (zs gi1 gl1 f1)
  refine zl_aload (i := 2) hE dL_law_899 rfl rfl rfl ?_
  refine zl_arg (j := 1) hE hL dL_law_900 dL_law_901 dL_law_902 dL_law_903 dL_law_904 rfl (by omega) rfl ?_
  refine zl_arg (j := 2) hE hL dL_law_905 dL_law_906 dL_law_907 dL_law_908 dL_law_909 rfl (by omega) rfl ?_
  refine zl_callV (y' := mX8_taken) (As := [.int (xs (i + 1)), .int (xs (i + 2))]) (b' := 108) (ci := 8) hE dL_law_910 ml_RL_130 ok_mX8_taken (by decide) rfl (by decide) rfl (Nat.le_of_ble_eq_true rfl) (Nat.le_of_ble_eq_true rfl) hk hn (Or.inl rfl) (h2) ?_
  rintro r S2 ⟨x2, rfl, hx, gi2, gl2, f2, rfl, hR2⟩
  show zV p l e s m below meth c b D tc adB k n 913 (zL i) [.int x2, .int x] (zs gi2 gl2 f2)
  exact zl_icmp_eq (t := 1154) hE dL_law_913 rfl hx.symm (kk gi2 gl2 f2 hR2)
theorem lc_count (hE : lE p s m meth c b Lx xs D tc adB) (hL : Lx ≤ 3584) (hi : i + 7 ≤ Lx) (hk : k ≤ 600000) (hn : n ≤ 7302250) (hR : zRel gi gl) (kk : ∀ gi gl f, zRel gi gl → zV p l e s m below meth c b D tc adB k n 1154 (zL i) [] (zs gi gl f)) : zV p l e s m below meth c b D tc adB k n 918 (zL i) [] (zs gi gl f) := by
  refine zl_aload (i := 1) hE dL_law_918 rfl rfl rfl ?_
  refine zl_arg (j := 1) hE hL dL_law_919 dL_law_920 dL_law_921 dL_law_922 dL_law_923 rfl (by omega) rfl ?_
  refine zl_callV (y' := mX7_count) (As := [.int (xs (i + 1))]) (b' := 0) (ci := 7) hE dL_law_924 ml_RL_131 ok_mX7_count (by decide) rfl (by decide) rfl (Nat.le_of_ble_eq_true rfl) (Nat.le_of_ble_eq_true rfl) hk hn (Or.inl rfl) (op_count (l := l) (D := D) (tc := tc) 0 _ hR) ?_
  rintro r S1 ⟨x, rfl, gi1, gl1, f1, rfl, h2⟩
  show zV p l e s m below meth c b D tc adB k n 927 (zL i) [.int x] (zs gi1 gl1 f1)
  refine zl_aload (i := 2) hE dL_law_927 rfl rfl rfl ?_
  refine zl_arg (j := 1) hE hL dL_law_928 dL_law_929 dL_law_930 dL_law_931 dL_law_932 rfl (by omega) rfl ?_
  refine zl_callV (y' := mX8_count) (As := [.int (xs (i + 1))]) (b' := 108) (ci := 8) hE dL_law_933 ml_RL_134 ok_mX8_count (by decide) rfl (by decide) rfl (Nat.le_of_ble_eq_true rfl) (Nat.le_of_ble_eq_true rfl) hk hn (Or.inl rfl) (h2) ?_
  rintro r S2 ⟨x2, rfl, hx, gi2, gl2, f2, rfl, hR2⟩
  show zV p l e s m below meth c b D tc adB k n 936 (zL i) [.int x2, .int x] (zs gi2 gl2 f2)
  exact zl_icmp_eq (t := 1154) hE dL_law_936 rfl hx.symm (kk gi2 gl2 f2 hR2)
theorem lc_tape (hE : lE p s m meth c b Lx xs D tc adB) (hL : Lx ≤ 3584) (hi : i + 7 ≤ Lx) (hk : k ≤ 600000) (hn : n ≤ 7302250) (hR : zRel gi gl) (kk : ∀ gi gl f, zRel gi gl → zV p l e s m below meth c b D tc adB k n 1154 (zL i) [] (zs gi gl f)) : zV p l e s m below meth c b D tc adB k n 941 (zL i) [] (zs gi gl f) := by
  refine zl_aload (i := 1) hE dL_law_941 rfl rfl rfl ?_
  refine zl_arg (j := 1) hE hL dL_law_942 dL_law_943 dL_law_944 dL_law_945 dL_law_946 rfl (by omega) rfl ?_
  refine zl_arg (j := 2) hE hL dL_law_947 dL_law_948 dL_law_949 dL_law_950 dL_law_951 rfl (by omega) rfl ?_
  refine zl_arg (j := 3) hE hL dL_law_952 dL_law_953 dL_law_954 dL_law_955 dL_law_956 rfl (by omega) rfl ?_
  refine zl_callV (y' := mX7_tape) (As := [.int (xs (i + 1)), .int (xs (i + 2)), .int (xs (i + 3))]) (b' := 0) (ci := 7) hE dL_law_957 ml_RL_135 ok_mX7_tape (by decide) rfl (by decide) rfl (Nat.le_of_ble_eq_true rfl) (Nat.le_of_ble_eq_true rfl) hk hn (Or.inl rfl) (op_tape (l := l) (D := D) (tc := tc) 0 _ _ _ hR) ?_
  rintro r S1 ⟨x, rfl, gi1, gl1, f1, rfl, h2⟩
  show zV p l e s m below meth c b D tc adB k n 960 (zL i) [.int x] (zs gi1 gl1 f1)
  refine zl_aload (i := 2) hE dL_law_960 rfl rfl rfl ?_
  refine zl_arg (j := 1) hE hL dL_law_961 dL_law_962 dL_law_963 dL_law_964 dL_law_965 rfl (by omega) rfl ?_
  refine zl_arg (j := 2) hE hL dL_law_966 dL_law_967 dL_law_968 dL_law_969 dL_law_970 rfl (by omega) rfl ?_
  refine zl_arg (j := 3) hE hL dL_law_971 dL_law_972 dL_law_973 dL_law_974 dL_law_975 rfl (by omega) rfl ?_
  refine zl_callV (y' := mX8_tape) (As := [.int (xs (i + 1)), .int (xs (i + 2)), .int (xs (i + 3))]) (b' := 108) (ci := 8) hE dL_law_976 ml_RL_138 ok_mX8_tape (by decide) rfl (by decide) rfl (Nat.le_of_ble_eq_true rfl) (Nat.le_of_ble_eq_true rfl) hk hn (Or.inl rfl) (h2) ?_
  rintro r S2 ⟨x2, rfl, hx, gi2, gl2, f2, rfl, hR2⟩
  show zV p l e s m below meth c b D tc adB k n 979 (zL i) [.int x2, .int x] (zs gi2 gl2 f2)
  exact zl_icmp_eq (t := 1154) hE dL_law_979 rfl hx.symm (kk gi2 gl2 f2 hR2)
theorem lc_item (hE : lE p s m meth c b Lx xs D tc adB) (hL : Lx ≤ 3584) (hi : i + 7 ≤ Lx) (hk : k ≤ 600000) (hn : n ≤ 7302250) (hR : zRel gi gl) (kk : ∀ gi gl f, zRel gi gl → zV p l e s m below meth c b D tc adB k n 1154 (zL i) [] (zs gi gl f)) : zV p l e s m below meth c b D tc adB k n 984 (zL i) [] (zs gi gl f) := by
  refine zl_aload (i := 1) hE dL_law_984 rfl rfl rfl ?_
  refine zl_arg (j := 1) hE hL dL_law_985 dL_law_986 dL_law_987 dL_law_988 dL_law_989 rfl (by omega) rfl ?_
  refine zl_arg (j := 2) hE hL dL_law_990 dL_law_991 dL_law_992 dL_law_993 dL_law_994 rfl (by omega) rfl ?_
  refine zl_arg (j := 3) hE hL dL_law_995 dL_law_996 dL_law_997 dL_law_998 dL_law_999 rfl (by omega) rfl ?_
  refine zl_i2l hE dL_law_1000 rfl ?_
  refine zl_bipush (v := 32) hE dL_law_1001 rfl rfl ?_
  refine zl_lshl hE dL_law_1003 rfl rfl ?_
  refine zl_arg (j := 4) hE hL dL_law_1004 dL_law_1005 dL_law_1006 dL_law_1007 dL_law_1008 rfl (by omega) rfl ?_
  refine zl_i2l hE dL_law_1009 rfl ?_
  refine zl_ldc2 (v := 4294967295) hE dL_law_1010 kl_RL_139 rfl ?_
  refine zl_land hE dL_law_1013 rfl ?_
  refine zl_lor hE dL_law_1014 rfl ?_
  refine zl_callV (y' := mX7_item) (As := [.int (xs (i + 1)), .int (xs (i + 2)), .long (((xs (i + 3)).toInt64 <<< ((32 : Int32).toInt64 &&& 63)) ||| ((xs (i + 4)).toInt64 &&& 4294967295))]) (b' := 0) (ci := 7) hE dL_law_1015 ml_RL_141 ok_mX7_item (by decide) rfl (by decide) rfl (Nat.le_of_ble_eq_true rfl) (Nat.le_of_ble_eq_true rfl) hk hn (Or.inl rfl) (op_item (l := l) (D := D) (tc := tc) 0 _ _ _ hR) ?_
  rintro r S1 ⟨x, rfl, gi1, gl1, f1, rfl, h2⟩
  show zV p l e s m below meth c b D tc adB k n 1018 (zL i) [.int x] (zs gi1 gl1 f1)
  refine zl_aload (i := 2) hE dL_law_1018 rfl rfl rfl ?_
  refine zl_arg (j := 1) hE hL dL_law_1019 dL_law_1020 dL_law_1021 dL_law_1022 dL_law_1023 rfl (by omega) rfl ?_
  refine zl_arg (j := 2) hE hL dL_law_1024 dL_law_1025 dL_law_1026 dL_law_1027 dL_law_1028 rfl (by omega) rfl ?_
  refine zl_arg (j := 3) hE hL dL_law_1029 dL_law_1030 dL_law_1031 dL_law_1032 dL_law_1033 rfl (by omega) rfl ?_
  refine zl_i2l hE dL_law_1034 rfl ?_
  refine zl_bipush (v := 32) hE dL_law_1035 rfl rfl ?_
  refine zl_lshl hE dL_law_1037 rfl rfl ?_
  refine zl_arg (j := 4) hE hL dL_law_1038 dL_law_1039 dL_law_1040 dL_law_1041 dL_law_1042 rfl (by omega) rfl ?_
  refine zl_i2l hE dL_law_1043 rfl ?_
  refine zl_ldc2 (v := 4294967295) hE dL_law_1044 kl_RL_139 rfl ?_
  refine zl_land hE dL_law_1047 rfl ?_
  refine zl_lor hE dL_law_1048 rfl ?_
  refine zl_callV (y' := mX8_item) (As := [.int (xs (i + 1)), .int (xs (i + 2)), .long (((xs (i + 3)).toInt64 <<< ((32 : Int32).toInt64 &&& 63)) ||| ((xs (i + 4)).toInt64 &&& 4294967295))]) (b' := 108) (ci := 8) hE dL_law_1049 ml_RL_145 ok_mX8_item (by decide) rfl (by decide) rfl (Nat.le_of_ble_eq_true rfl) (Nat.le_of_ble_eq_true rfl) hk hn (Or.inl rfl) (h2) ?_
  rintro r S2 ⟨x2, rfl, hx, gi2, gl2, f2, rfl, hR2⟩
  show zV p l e s m below meth c b D tc adB k n 1052 (zL i) [.int x2, .int x] (zs gi2 gl2 f2)
  exact zl_icmp_eq (t := 1154) hE dL_law_1052 rfl hx.symm (kk gi2 gl2 f2 hR2)
theorem lc_read (hE : lE p s m meth c b Lx xs D tc adB) (hL : Lx ≤ 3584) (hi : i + 7 ≤ Lx) (hk : k ≤ 600000) (hn : n ≤ 7302250) (hR : zRel gi gl) (kk : ∀ gi gl f, zRel gi gl → zV p l e s m below meth c b D tc adB k n 1154 (zL i) [] (zs gi gl f)) : zV p l e s m below meth c b D tc adB k n 1057 (zL i) [] (zs gi gl f) := by
  refine zl_aload (i := 1) hE dL_law_1057 rfl rfl rfl ?_
  refine zl_arg (j := 1) hE hL dL_law_1058 dL_law_1059 dL_law_1060 dL_law_1061 dL_law_1062 rfl (by omega) rfl ?_
  refine zl_arg (j := 2) hE hL dL_law_1063 dL_law_1064 dL_law_1065 dL_law_1066 dL_law_1067 rfl (by omega) rfl ?_
  refine zl_callV (y' := mX7_read) (As := [.int (xs (i + 1)), .int (xs (i + 2))]) (b' := 0) (ci := 7) hE dL_law_1068 ml_RL_146 ok_mX7_read (by decide) rfl (by decide) rfl (Nat.le_of_ble_eq_true rfl) (Nat.le_of_ble_eq_true rfl) hk hn (Or.inl rfl) (op_read (l := l) (D := D) (tc := tc) 0 _ _ hR) ?_
  rintro r S1 ⟨x, rfl, gi1, gl1, f1, rfl, h2⟩
  show zV p l e s m below meth c b D tc adB k n 1071 (zL i) [.long x] (zs gi1 gl1 f1)
  refine zl_aload (i := 2) hE dL_law_1071 rfl rfl rfl ?_
  refine zl_arg (j := 1) hE hL dL_law_1072 dL_law_1073 dL_law_1074 dL_law_1075 dL_law_1076 rfl (by omega) rfl ?_
  refine zl_arg (j := 2) hE hL dL_law_1077 dL_law_1078 dL_law_1079 dL_law_1080 dL_law_1081 rfl (by omega) rfl ?_
  refine zl_callV (y' := mX8_read) (As := [.int (xs (i + 1)), .int (xs (i + 2))]) (b' := 108) (ci := 8) hE dL_law_1082 ml_RL_149 ok_mX8_read (by decide) rfl (by decide) rfl (Nat.le_of_ble_eq_true rfl) (Nat.le_of_ble_eq_true rfl) hk hn (Or.inl rfl) (h2) ?_
  rintro r S2 ⟨x2, rfl, hx, gi2, gl2, f2, rfl, hR2⟩
  show zV p l e s m below meth c b D tc adB k n 1085 (zL i) [.long x2, .long x] (zs gi2 gl2 f2)
  refine zl_lcmp hE dL_law_1085 rfl ?_
  exact zl_if_eq (t := 1154) hE dL_law_1086 rfl ((lg_cmp_eq _ _).mpr hx.symm) (kk gi2 gl2 f2 hR2)
theorem lc_shift (hE : lE p s m meth c b Lx xs D tc adB) (hL : Lx ≤ 3584) (hi : i + 7 ≤ Lx) (hk : k ≤ 600000) (hn : n ≤ 7302250) (hR : zRel gi gl) (kk : ∀ gi gl f, zRel gi gl → zV p l e s m below meth c b D tc adB k n 1154 (zL i) [] (zs gi gl f)) : zV p l e s m below meth c b D tc adB k n 1091 (zL i) [] (zs gi gl f) := by
  refine zl_aload (i := 1) hE dL_law_1091 rfl rfl rfl ?_
  refine zl_arg (j := 1) hE hL dL_law_1092 dL_law_1093 dL_law_1094 dL_law_1095 dL_law_1096 rfl (by omega) rfl ?_
  refine zl_arg (j := 2) hE hL dL_law_1097 dL_law_1098 dL_law_1099 dL_law_1100 dL_law_1101 rfl (by omega) rfl ?_
  refine zl_arg (j := 3) hE hL dL_law_1102 dL_law_1103 dL_law_1104 dL_law_1105 dL_law_1106 rfl (by omega) rfl ?_
  refine zl_arg (j := 4) hE hL dL_law_1107 dL_law_1108 dL_law_1109 dL_law_1110 dL_law_1111 rfl (by omega) rfl ?_
  refine zl_arg (j := 5) hE hL dL_law_1112 dL_law_1113 dL_law_1114 dL_law_1115 dL_law_1116 rfl (by omega) rfl ?_
  refine zl_callV (y' := mX7_shift) (As := [.int (xs (i + 1)), .int (xs (i + 2)), .int (xs (i + 3)), .int (xs (i + 4)), .int (xs (i + 5))]) (b' := 0) (ci := 7) hE dL_law_1117 ml_RL_150 ok_mX7_shift (by decide) rfl (by decide) rfl (Nat.le_of_ble_eq_true rfl) (Nat.le_of_ble_eq_true rfl) hk hn (Or.inl rfl) (op_shift (l := l) (D := D) (tc := tc) 0 _ _ _ _ _ hR) ?_
  rintro r S1 ⟨x, rfl, gi1, gl1, f1, rfl, h2⟩
  show zV p l e s m below meth c b D tc adB k n 1120 (zL i) [.int x] (zs gi1 gl1 f1)
  refine zl_aload (i := 2) hE dL_law_1120 rfl rfl rfl ?_
  refine zl_arg (j := 1) hE hL dL_law_1121 dL_law_1122 dL_law_1123 dL_law_1124 dL_law_1125 rfl (by omega) rfl ?_
  refine zl_arg (j := 2) hE hL dL_law_1126 dL_law_1127 dL_law_1128 dL_law_1129 dL_law_1130 rfl (by omega) rfl ?_
  refine zl_arg (j := 3) hE hL dL_law_1131 dL_law_1132 dL_law_1133 dL_law_1134 dL_law_1135 rfl (by omega) rfl ?_
  refine zl_arg (j := 4) hE hL dL_law_1136 dL_law_1137 dL_law_1138 dL_law_1139 dL_law_1140 rfl (by omega) rfl ?_
  refine zl_arg (j := 5) hE hL dL_law_1141 dL_law_1142 dL_law_1143 dL_law_1144 dL_law_1145 rfl (by omega) rfl ?_
  refine zl_callV (y' := mX8_shift) (As := [.int (xs (i + 1)), .int (xs (i + 2)), .int (xs (i + 3)), .int (xs (i + 4)), .int (xs (i + 5))]) (b' := 108) (ci := 8) hE dL_law_1146 ml_RL_154 ok_mX8_shift (by decide) rfl (by decide) rfl (Nat.le_of_ble_eq_true rfl) (Nat.le_of_ble_eq_true rfl) hk hn (Or.inl rfl) (h2) ?_
  rintro r S2 ⟨x2, rfl, hx, gi2, gl2, f2, rfl, hR2⟩
  show zV p l e s m below meth c b D tc adB k n 1149 (zL i) [.int x2, .int x] (zs gi2 gl2 f2)
  exact zl_icmp_eq (t := 1154) hE dL_law_1149 rfl hx.symm (kk gi2 gl2 f2 hR2)
theorem lc_switch {x : Int32} (hE : lE p s m meth c b Lx xs D tc adB) (hL : Lx ≤ 3584) (hi : i + 7 ≤ Lx) (hk : k ≤ 600000) (hn : n ≤ 7302250) (hR : zRel gi gl) (kk : ∀ gi gl f, zRel gi gl → zV p l e s m below meth c b D tc adB k n 1154 (zL i) [] (zs gi gl f)) : zV p l e s m below meth c b D tc adB k n 33 (zL i) [.int x] (zs gi gl f) := by
  by_cases hx : x.toInt < 0 ∨ 32 < x.toInt
  · exact zl_tblOut (t := 1154) hE dL_law_33 hx rfl (kk gi gl f hR)
  · obtain ⟨j, hj, rfl⟩ := z_nIof (v := x) (n := 32) (by omega) (by omega)
    rcases (by omega : j = 0 ∨ j = 1 ∨ j = 2 ∨ j = 3 ∨ j = 4 ∨ j = 5 ∨ j = 6 ∨ j = 7 ∨ j = 8 ∨ j = 9 ∨ j = 10 ∨ j = 11 ∨ j = 12 ∨ j = 13 ∨ j = 14 ∨ j = 15 ∨ j = 16 ∨ j = 17 ∨ j = 18 ∨ j = 19 ∨ j = 20 ∨ j = 21 ∨ j = 22 ∨ j = 23 ∨ j = 24 ∨ j = 25 ∨ j = 26 ∨ j = 27 ∨ j = 28 ∨ j = 29 ∨ j = 30 ∨ j = 31 ∨ j = 32) with h | h | h | h | h | h | h | h | h | h | h | h | h | h | h | h | h | h | h | h | h | h | h | h | h | h | h | h | h | h | h | h | h
    · subst h
      exact zl_tblIn (t := 180) hE dL_law_33 (by decide) (by decide) (show _ = some (147 : Int) by decide) rfl (lc_sort hE hL hi hk hn hR kk)
    · subst h
      exact zl_tblIn (t := 255) hE dL_law_33 (by decide) (by decide) (show _ = some (222 : Int) by decide) rfl (lc_of hE hL hi hk hn hR kk)
    · subst h
      exact zl_tblIn (t := 288) hE dL_law_33 (by decide) (by decide) (show _ = some (255 : Int) by decide) rfl (lc_herd hE hL hi hk hn hR kk)
    · subst h
      exact zl_tblIn (t := 331) hE dL_law_33 (by decide) (by decide) (show _ = some (298 : Int) by decide) rfl (lc_row hE hL hi hk hn hR kk)
    · subst h
      exact zl_tblIn (t := 374) hE dL_law_33 (by decide) (by decide) (show _ = some (341 : Int) by decide) rfl (lc_month hE hL hi hk hn hR kk)
    · subst h
      exact zl_tblIn (t := 397) hE dL_law_33 (by decide) (by decide) (show _ = some (364 : Int) by decide) rfl (lc_tell hE hL hi hk hn hR kk)
    · subst h
      exact zl_tblIn (t := 430) hE dL_law_33 (by decide) (by decide) (show _ = some (397 : Int) by decide) rfl (lc_feed hE hL hi hk hn hR kk)
    · subst h
      exact zl_tblIn (t := 453) hE dL_law_33 (by decide) (by decide) (show _ = some (420 : Int) by decide) rfl (lc_fence hE hL hi hk hn hR kk)
    · subst h
      exact zl_tblIn (t := 466) hE dL_law_33 (by decide) (by decide) (show _ = some (433 : Int) by decide) rfl (lc_told hE hL hi hk hn hR kk)
    · subst h
      exact zl_tblIn (t := 489) hE dL_law_33 (by decide) (by decide) (show _ = some (456 : Int) by decide) rfl (lc_fits hE hL hi hk hn hR kk)
    · subst h
      exact zl_tblIn (t := 512) hE dL_law_33 (by decide) (by decide) (show _ = some (479 : Int) by decide) rfl (lc_bars hE hL hi hk hn hR kk)
    · subst h
      exact zl_tblIn (t := 525) hE dL_law_33 (by decide) (by decide) (show _ = some (492 : Int) by decide) rfl (lc_hole hE hL hi hk hn hR kk)
    · subst h
      exact zl_tblIn (t := 548) hE dL_law_33 (by decide) (by decide) (show _ = some (515 : Int) by decide) rfl (lc_alike hE hL hi hk hn hR kk)
    · subst h
      exact zl_tblIn (t := 571) hE dL_law_33 (by decide) (by decide) (show _ = some (538 : Int) by decide) rfl (lc_missed hE hL hi hk hn hR kk)
    · subst h
      exact zl_tblIn (t := 584) hE dL_law_33 (by decide) (by decide) (show _ = some (551 : Int) by decide) rfl (lc_mix hE hL hi hk hn hR kk)
    · subst h
      exact zl_tblIn (t := 597) hE dL_law_33 (by decide) (by decide) (show _ = some (564 : Int) by decide) rfl (lc_prices hE hL hi hk hn hR kk)
    · subst h
      exact zl_tblIn (t := 620) hE dL_law_33 (by decide) (by decide) (show _ = some (587 : Int) by decide) rfl (lc_hid hE hL hi hk hn hR kk)
    · subst h
      exact zl_tblIn (t := 633) hE dL_law_33 (by decide) (by decide) (show _ = some (600 : Int) by decide) rfl (lc_months hE hL hi hk hn hR kk)
    · subst h
      exact zl_tblIn (t := 646) hE dL_law_33 (by decide) (by decide) (show _ = some (613 : Int) by decide) rfl (lc_odds hE hL hi hk hn hR kk)
    · subst h
      exact zl_tblIn (t := 680) hE dL_law_33 (by decide) (by decide) (show _ = some (647 : Int) by decide) rfl (lc_mean hE hL hi hk hn hR kk)
    · subst h
      exact zl_tblIn (t := 714) hE dL_law_33 (by decide) (by decide) (show _ = some (681 : Int) by decide) rfl (lc_book hE hL hi hk hn hR kk)
    · subst h
      exact zl_tblIn (t := 747) hE dL_law_33 (by decide) (by decide) (show _ = some (714 : Int) by decide) rfl (lc_looked hE hL hi hk hn hR kk)
    · subst h
      exact zl_tblIn (t := 760) hE dL_law_33 (by decide) (by decide) (show _ = some (727 : Int) by decide) rfl (lc_judge hE hL hi hk hn hR kk)
    · subst h
      exact zl_tblIn (t := 793) hE dL_law_33 (by decide) (by decide) (show _ = some (760 : Int) by decide) rfl (lc_image hE hL hi hk hn hR kk)
    · subst h
      exact zl_tblIn (t := 806) hE dL_law_33 (by decide) (by decide) (show _ = some (773 : Int) by decide) rfl (lc_undo hE hL hi hk hn hR kk)
    · subst h
      exact zl_tblIn (t := 819) hE dL_law_33 (by decide) (by decide) (show _ = some (786 : Int) by decide) rfl (lc_act hE hL hi hk hn hR kk)
    · subst h
      exact zl_tblIn (t := 862) hE dL_law_33 (by decide) (by decide) (show _ = some (829 : Int) by decide) rfl (lc_trace hE hL hi hk hn hR kk)
    · subst h
      exact zl_tblIn (t := 885) hE dL_law_33 (by decide) (by decide) (show _ = some (852 : Int) by decide) rfl (lc_taken hE hL hi hk hn hR kk)
    · subst h
      exact zl_tblIn (t := 918) hE dL_law_33 (by decide) (by decide) (show _ = some (885 : Int) by decide) rfl (lc_count hE hL hi hk hn hR kk)
    · subst h
      exact zl_tblIn (t := 941) hE dL_law_33 (by decide) (by decide) (show _ = some (908 : Int) by decide) rfl (lc_tape hE hL hi hk hn hR kk)
    · subst h
      exact zl_tblIn (t := 984) hE dL_law_33 (by decide) (by decide) (show _ = some (951 : Int) by decide) rfl (lc_item hE hL hi hk hn hR kk)
    · subst h
      exact zl_tblIn (t := 1057) hE dL_law_33 (by decide) (by decide) (show _ = some (1024 : Int) by decide) rfl (lc_read hE hL hi hk hn hR kk)
    · subst h
      exact zl_tblIn (t := 1091) hE dL_law_33 (by decide) (by decide) (show _ = some (1058 : Int) by decide) rfl (lc_shift hE hL hi hk hn hR kk)
theorem lc_le {i : Nat} (hL : Lx ≤ 3584) (hi : i ≤ 4000) (h : ¬ nI Lx - 7 < nI i) : i + 7 ≤ Lx := by
  by_cases h7 : 7 ≤ Lx
  · rw [show (7 : Int32) = nI 7 from rfl, z_subN h7, Int32.lt_iff_toInt_lt, nI_toInt (by omega), nI_toInt (by omega)] at h
    omega
  · refine absurd ?_ h
    rw [Int32.lt_iff_toInt_lt, nI_toInt (n := i) (by omega)]
    have key : ∀ a, a < 7 → (nI a - 7).toInt < 0 := by decide +kernel
    have := key Lx (by omega)
    omega
theorem lc_loop (hE : lE p s m meth c b Lx xs D tc adB) (hL : Lx ≤ 3584) (hk : k ≤ 600000) (hn : n ≤ 7302250) : ∀ (fuel i : Nat) (gi : Nat → Nat → Int32) (gl : Nat → Nat → Int64) (f : Option Nat), Lx + 8 ≤ i + fuel → i ≤ Lx + 7 → zRel gi gl → zV p l e s m below meth c b D tc adB k n 18 (zL i) [] (zs gi gl f) := by
  intro fuel
  induction fuel with
  | zero => intro i gi gl f h1 h2 _; omega
  | succ fuel ih =>
    intro i gi gl f h1 h2 hR
    refine zl_iload (i := 3) hE dL_law_18 rfl rfl rfl ?_
    refine zl_aload (i := 0) hE dL_law_19 rfl rfl rfl ?_
    refine zl_slen hE dL_law_20 rfl ?_
    refine zl_bipush (v := 7) hE dL_law_21 rfl rfl ?_
    refine zl_isub hE dL_law_23 rfl ?_
    refine zl_icmp_gt (t := 1160) hE dL_law_24 rfl rfl (fun _ => ?_) (fun h => ?_)
    · refine zl_iconst (v := 1) hE dL_law_1160 rfl rfl ?_
      exact zl_ret hE dL_law_1161 hk hn
    · have hi : i + 7 ≤ Lx := lc_le hL (by omega) h
      refine zl_aload (i := 0) hE dL_law_27 rfl rfl rfl ?_
      refine zl_iload (i := 3) hE dL_law_28 rfl rfl rfl ?_
      refine zl_sld hE dL_law_29 (vp_in_nI (by omega) (by omega)) rfl ?_
      refine zl_bipush (v := 63) hE dL_law_30 rfl rfl ?_
      refine zl_iand hE dL_law_32 rfl ?_
      refine lc_switch hE hL hi hk hn hR (fun gi1 gl1 f1 hR1 => ?_)
      refine zl_iinc (x' := nI (i + 7)) hE dL_law_1154 (by rw [← nI_add]; rfl) rfl rfl ?_
      refine zl_goto (t := 18) hE dL_law_1157 rfl ?_
      exact ih (i + 7) gi1 gl1 f1 (by omega) (by omega) hR1
end LW
