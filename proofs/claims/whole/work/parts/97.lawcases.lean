/-! the law: its cases -/
section LAWC
variable {K N D j LL : Nat} {xs : Nat → Int32} {h : AH} {P : AO → AH → Prop} {nm : String} {hs : List (Nat × Nat × Nat × Nat)}
set_option maxHeartbeats 1000000 in
theorem s_mould (hI : LI D h) (hD : D ≤ 90000) (hL : 5 * j + 5 ≤ LL) (hLL : LL ≤ 2560) (kk : ∀ h1, LI (D + 40) h1 → WP 12 (mLaw nm hs) (some (LL, xs)) K N 1524 [vScr, .ref 0, .ref 27, .ref 92, .int (nI (5 * j)), vU, vU, vU, vU] [] h1 P) : WP 12 (mLaw nm hs) (some (LL, xs)) (K + 48) (N + 360) 144 [vScr, .ref 0, .ref 27, .ref 92, .int (nI (5 * j)), vU, vU, vU, vU] [] h P := by
  obtain ⟨σ, μ, τ, t, f, hp, hr, hf, hS, hW⟩ := hI
  refine w_aload_n (pc := 144) (i := 1) dL_law_144 rfl rfl ?_
  refine w_arg (i := 1) (pc := 145) rfl hL hLL (by omega) (by decide) rfl rfl dL_law_145 dL_law_146 dL_law_148 dL_law_149 dL_law_150 ?_
  refine w_arg (i := 2) (pc := 151) rfl hL hLL (by omega) (by decide) rfl rfl dL_law_151 dL_law_152 dL_law_154 dL_law_155 dL_law_156 ?_
  refine w_aload_n (pc := 157) (i := 3) dL_law_157 rfl rfl ?_
  refine w_x (d := 11) (k1 := 3) (n1 := 18) (k2 := K + 45) (n2 := N + 342) (pc := 158) dL_law_158 GL_83 (c_L_mould (d := 2) (xs (5 * j + 1)) (xs (5 * j + 2)) hp hf) rfl rfl rfl rfl (by omega) (by omega) (fun av h1 q => ?_) (fun E h1 q => by obtain ⟨v, q1, q2⟩ := q; cases q1)
  obtain ⟨x, σ1, f1, rfl, hp1, hr1, hf1, use⟩ := q.use hp hr hf
  show WP 12 (mLaw nm hs) (some (LL, xs)) (K + 45) (N + 342) 161 [vScr, .ref 0, .ref 27, .ref 92, .int (nI (5 * j)), vU, vU, vU, vU] [.int x] h1 _
  refine w_istore (pc := 161) (i := 5) (ls' := [vScr, .ref 0, .ref 27, .ref 92, .int (nI (5 * j)), .int x, vU, vU, vU]) dL_law_161 (Nat.le_of_ble_eq_true rfl) rfl rfl rfl ?_
  refine w_aload_n (pc := 163) (i := 2) dL_law_163 rfl rfl ?_
  refine w_arg (i := 1) (pc := 164) rfl hL hLL (by omega) (by decide) rfl rfl dL_law_164 dL_law_165 dL_law_167 dL_law_168 dL_law_169 ?_
  refine w_arg (i := 2) (pc := 170) rfl hL hLL (by omega) (by decide) rfl rfl dL_law_170 dL_law_171 dL_law_173 dL_law_174 dL_law_175 ?_
  obtain ⟨a1, a2, a3, a4⟩ := use _ _ (ag_mould hS hW (xs (5 * j + 1)) (xs (5 * j + 2)))
  refine w_vQ2 (d := 11) (k1 := 0) (n1 := 0) (k2 := K + 45) (n2 := N + 342) (pc := 176) dL_law_176 GL_88 hr1.1.1 (c_X4_mould (d := 6) (xs (5 * j + 1)) (xs (5 * j + 2)) hr1 hS.c0 hS.c1 hS.tb) rfl rfl rfl rfl (by omega) (by omega) (fun v h2 q2 => ?_)
  obtain ⟨rfl, hr2, ho2⟩ := q2
  exact w_room (k := K) (n := N) (by omega) (by omega) (w_tail (q := 179) hr2 (ho2 92 _ (by omega) hf1) a1 a2 dL_law_179 dL_law_181 dL_law_182 dL_law_185 dL_law_187 dL_law_192 dL_law_194 dL_law_197 dL_law_198 dL_law_199 dL_law_200 dL_law_202 dL_law_203 dL_law_204 dL_law_209 (by decide) (kk _ (LI.of (hp1.keep (fun i y hi e => ho2 i y (by omega) e)) hr2 (ho2 92 _ (by omega) hf1) a3 a4)))
set_option maxHeartbeats 1000000 in
theorem s_refit (hI : LI D h) (hD : D ≤ 90000) (hL : 5 * j + 5 ≤ LL) (hLL : LL ≤ 2560) (kk : ∀ h1, LI (D + 40) h1 → WP 12 (mLaw nm hs) (some (LL, xs)) K N 1524 [vScr, .ref 0, .ref 27, .ref 92, .int (nI (5 * j)), vU, vU, vU, vU] [] h1 P) : WP 12 (mLaw nm hs) (some (LL, xs)) (K + 48) (N + 360) 212 [vScr, .ref 0, .ref 27, .ref 92, .int (nI (5 * j)), vU, vU, vU, vU] [] h P := by
  obtain ⟨σ, μ, τ, t, f, hp, hr, hf, hS, hW⟩ := hI
  refine w_aload_n (pc := 212) (i := 1) dL_law_212 rfl rfl ?_
  refine w_arg (i := 1) (pc := 213) rfl hL hLL (by omega) (by decide) rfl rfl dL_law_213 dL_law_214 dL_law_216 dL_law_217 dL_law_218 ?_
  refine w_aload_n (pc := 219) (i := 3) dL_law_219 rfl rfl ?_
  refine w_x (d := 11) (k1 := 2) (n1 := 12) (k2 := K + 46) (n2 := N + 348) (pc := 220) dL_law_220 GL_93 (c_L_refit (d := 2) (xs (5 * j + 1)) hp hf) rfl rfl rfl rfl (by omega) (by omega) (fun av h1 q => ?_) (fun E h1 q => by obtain ⟨v, q1, q2⟩ := q; cases q1)
  obtain ⟨x, σ1, f1, rfl, hp1, hr1, hf1, use⟩ := q.use hp hr hf
  show WP 12 (mLaw nm hs) (some (LL, xs)) (K + 46) (N + 348) 223 [vScr, .ref 0, .ref 27, .ref 92, .int (nI (5 * j)), vU, vU, vU, vU] [.int x] h1 _
  refine w_istore (pc := 223) (i := 5) (ls' := [vScr, .ref 0, .ref 27, .ref 92, .int (nI (5 * j)), .int x, vU, vU, vU]) dL_law_223 (Nat.le_of_ble_eq_true rfl) rfl rfl rfl ?_
  refine w_aload_n (pc := 225) (i := 2) dL_law_225 rfl rfl ?_
  refine w_arg (i := 1) (pc := 226) rfl hL hLL (by omega) (by decide) rfl rfl dL_law_226 dL_law_227 dL_law_229 dL_law_230 dL_law_231 ?_
  obtain ⟨a1, a2, a3, a4⟩ := use _ _ (ag_refit hS hW (xs (5 * j + 1)))
  refine w_vQ2 (d := 11) (k1 := 0) (n1 := 0) (k2 := K + 46) (n2 := N + 348) (pc := 232) dL_law_232 GL_96 hr1.1.1 (c_X4_refit (d := 6) (xs (5 * j + 1)) hr1 hS.c0 hS.c1 hS.tb) rfl rfl rfl rfl (by omega) (by omega) (fun v h2 q2 => ?_)
  obtain ⟨rfl, hr2, ho2⟩ := q2
  exact w_room (k := K) (n := N) (by omega) (by omega) (w_tail (q := 235) hr2 (ho2 92 _ (by omega) hf1) a1 a2 dL_law_235 dL_law_237 dL_law_238 dL_law_241 dL_law_243 dL_law_248 dL_law_250 dL_law_253 dL_law_254 dL_law_255 dL_law_256 dL_law_258 dL_law_259 dL_law_260 dL_law_265 (by decide) (kk _ (LI.of (hp1.keep (fun i y hi e => ho2 i y (by omega) e)) hr2 (ho2 92 _ (by omega) hf1) a3 a4)))
set_option maxHeartbeats 1000000 in
theorem s_maker (hI : LI D h) (hD : D ≤ 90000) (hL : 5 * j + 5 ≤ LL) (hLL : LL ≤ 2560) (kk : ∀ h1, LI (D + 40) h1 → WP 12 (mLaw nm hs) (some (LL, xs)) K N 1524 [vScr, .ref 0, .ref 27, .ref 92, .int (nI (5 * j)), vU, vU, vU, vU] [] h1 P) : WP 12 (mLaw nm hs) (some (LL, xs)) (K + 48) (N + 360) 268 [vScr, .ref 0, .ref 27, .ref 92, .int (nI (5 * j)), vU, vU, vU, vU] [] h P := by
  obtain ⟨σ, μ, τ, t, f, hp, hr, hf, hS, hW⟩ := hI
  refine w_aload_n (pc := 268) (i := 1) dL_law_268 rfl rfl ?_
  refine w_arg (i := 1) (pc := 269) rfl hL hLL (by omega) (by decide) rfl rfl dL_law_269 dL_law_270 dL_law_272 dL_law_273 dL_law_274 ?_
  refine w_aload_n (pc := 275) (i := 3) dL_law_275 rfl rfl ?_
  refine w_x (d := 11) (k1 := 2) (n1 := 12) (k2 := K + 46) (n2 := N + 348) (pc := 276) dL_law_276 GL_97 (c_L_maker (d := 2) (xs (5 * j + 1)) hp hf) rfl rfl rfl rfl (by omega) (by omega) (fun av h1 q => ?_) (fun E h1 q => by obtain ⟨v, q1, q2⟩ := q; cases q1)
  obtain ⟨x, σ1, f1, rfl, hp1, hr1, hf1, use⟩ := q.use hp hr hf
  show WP 12 (mLaw nm hs) (some (LL, xs)) (K + 46) (N + 348) 279 [vScr, .ref 0, .ref 27, .ref 92, .int (nI (5 * j)), vU, vU, vU, vU] [.int x] h1 _
  refine w_istore (pc := 279) (i := 5) (ls' := [vScr, .ref 0, .ref 27, .ref 92, .int (nI (5 * j)), .int x, vU, vU, vU]) dL_law_279 (Nat.le_of_ble_eq_true rfl) rfl rfl rfl ?_
  refine w_aload_n (pc := 281) (i := 2) dL_law_281 rfl rfl ?_
  refine w_arg (i := 1) (pc := 282) rfl hL hLL (by omega) (by decide) rfl rfl dL_law_282 dL_law_283 dL_law_285 dL_law_286 dL_law_287 ?_
  obtain ⟨a1, a2, a3, a4⟩ := use _ _ (ag_maker hS hW (xs (5 * j + 1)))
  refine w_vQ2 (d := 11) (k1 := 0) (n1 := 0) (k2 := K + 46) (n2 := N + 348) (pc := 288) dL_law_288 GL_99 hr1.1.1 (c_X4_maker (d := 6) (xs (5 * j + 1)) hr1 hS.c0 hS.c1 hS.tb) rfl rfl rfl rfl (by omega) (by omega) (fun v h2 q2 => ?_)
  obtain ⟨rfl, hr2, ho2⟩ := q2
  exact w_room (k := K) (n := N) (by omega) (by omega) (w_tail (q := 291) hr2 (ho2 92 _ (by omega) hf1) a1 a2 dL_law_291 dL_law_293 dL_law_294 dL_law_297 dL_law_299 dL_law_304 dL_law_306 dL_law_309 dL_law_310 dL_law_311 dL_law_312 dL_law_314 dL_law_315 dL_law_316 dL_law_321 (by decide) (kk _ (LI.of (hp1.keep (fun i y hi e => ho2 i y (by omega) e)) hr2 (ho2 92 _ (by omega) hf1) a3 a4)))
set_option maxHeartbeats 1000000 in
theorem s_place (hI : LI D h) (hD : D ≤ 90000) (hL : 5 * j + 5 ≤ LL) (hLL : LL ≤ 2560) (kk : ∀ h1, LI (D + 40) h1 → WP 12 (mLaw nm hs) (some (LL, xs)) K N 1524 [vScr, .ref 0, .ref 27, .ref 92, .int (nI (5 * j)), vU, vU, vU, vU] [] h1 P) : WP 12 (mLaw nm hs) (some (LL, xs)) (K + 48) (N + 360) 324 [vScr, .ref 0, .ref 27, .ref 92, .int (nI (5 * j)), vU, vU, vU, vU] [] h P := by
  obtain ⟨σ, μ, τ, t, f, hp, hr, hf, hS, hW⟩ := hI
  refine w_aload_n (pc := 324) (i := 1) dL_law_324 rfl rfl ?_
  refine w_arg (i := 1) (pc := 325) rfl hL hLL (by omega) (by decide) rfl rfl dL_law_325 dL_law_326 dL_law_328 dL_law_329 dL_law_330 ?_
  refine w_arg (i := 2) (pc := 331) rfl hL hLL (by omega) (by decide) rfl rfl dL_law_331 dL_law_332 dL_law_334 dL_law_335 dL_law_336 ?_
  refine w_aload_n (pc := 337) (i := 3) dL_law_337 rfl rfl ?_
  refine w_x (d := 11) (k1 := 3) (n1 := 18) (k2 := K + 45) (n2 := N + 342) (pc := 338) dL_law_338 GL_100 (c_L_place (d := 2) (xs (5 * j + 1)) (xs (5 * j + 2)) hp hf) rfl rfl rfl rfl (by omega) (by omega) (fun av h1 q => ?_) (fun E h1 q => by obtain ⟨v, q1, q2⟩ := q; cases q1)
  obtain ⟨x, σ1, f1, rfl, hp1, hr1, hf1, use⟩ := q.use hp hr hf
  show WP 12 (mLaw nm hs) (some (LL, xs)) (K + 45) (N + 342) 341 [vScr, .ref 0, .ref 27, .ref 92, .int (nI (5 * j)), vU, vU, vU, vU] [.int x] h1 _
  refine w_istore (pc := 341) (i := 5) (ls' := [vScr, .ref 0, .ref 27, .ref 92, .int (nI (5 * j)), .int x, vU, vU, vU]) dL_law_341 (Nat.le_of_ble_eq_true rfl) rfl rfl rfl ?_
  refine w_aload_n (pc := 343) (i := 2) dL_law_343 rfl rfl ?_
  refine w_arg (i := 1) (pc := 344) rfl hL hLL (by omega) (by decide) rfl rfl dL_law_344 dL_law_345 dL_law_347 dL_law_348 dL_law_349 ?_
  refine w_arg (i := 2) (pc := 350) rfl hL hLL (by omega) (by decide) rfl rfl dL_law_350 dL_law_351 dL_law_353 dL_law_354 dL_law_355 ?_
  obtain ⟨a1, a2, a3, a4⟩ := use _ _ (ag_place hS hW (xs (5 * j + 1)) (xs (5 * j + 2)))
  refine w_vQ2 (d := 11) (k1 := 0) (n1 := 0) (k2 := K + 45) (n2 := N + 342) (pc := 356) dL_law_356 GL_102 hr1.1.1 (c_X4_place (d := 6) (xs (5 * j + 1)) (xs (5 * j + 2)) hr1 hS.c0 hS.c1 hS.tb) rfl rfl rfl rfl (by omega) (by omega) (fun v h2 q2 => ?_)
  obtain ⟨rfl, hr2, ho2⟩ := q2
  exact w_room (k := K) (n := N) (by omega) (by omega) (w_tail (q := 359) hr2 (ho2 92 _ (by omega) hf1) a1 a2 dL_law_359 dL_law_361 dL_law_362 dL_law_365 dL_law_367 dL_law_372 dL_law_374 dL_law_377 dL_law_378 dL_law_379 dL_law_380 dL_law_382 dL_law_383 dL_law_384 dL_law_389 (by decide) (kk _ (LI.of (hp1.keep (fun i y hi e => ho2 i y (by omega) e)) hr2 (ho2 92 _ (by omega) hf1) a3 a4)))
set_option maxHeartbeats 1000000 in
theorem s_buy (hI : LI D h) (hD : D ≤ 90000) (hL : 5 * j + 5 ≤ LL) (hLL : LL ≤ 2560) (kk : ∀ h1, LI (D + 40) h1 → WP 12 (mLaw nm hs) (some (LL, xs)) K N 1524 [vScr, .ref 0, .ref 27, .ref 92, .int (nI (5 * j)), vU, vU, vU, vU] [] h1 P) : WP 12 (mLaw nm hs) (some (LL, xs)) (K + 48) (N + 360) 392 [vScr, .ref 0, .ref 27, .ref 92, .int (nI (5 * j)), vU, vU, vU, vU] [] h P := by
  obtain ⟨σ, μ, τ, t, f, hp, hr, hf, hS, hW⟩ := hI
  refine w_aload_n (pc := 392) (i := 1) dL_law_392 rfl rfl ?_
  refine w_arg (i := 1) (pc := 393) rfl hL hLL (by omega) (by decide) rfl rfl dL_law_393 dL_law_394 dL_law_396 dL_law_397 dL_law_398 ?_
  refine w_arg (i := 2) (pc := 399) rfl hL hLL (by omega) (by decide) rfl rfl dL_law_399 dL_law_400 dL_law_402 dL_law_403 dL_law_404 ?_
  refine w_aload_n (pc := 405) (i := 3) dL_law_405 rfl rfl ?_
  refine w_x (d := 11) (k1 := 3) (n1 := 18) (k2 := K + 45) (n2 := N + 342) (pc := 406) dL_law_406 GL_103 (c_L_buy (d := 2) (xs (5 * j + 1)) (xs (5 * j + 2)) hp hf) rfl rfl rfl rfl (by omega) (by omega) (fun av h1 q => ?_) (fun E h1 q => by obtain ⟨v, q1, q2⟩ := q; cases q1)
  obtain ⟨x, σ1, f1, rfl, hp1, hr1, hf1, use⟩ := q.use hp hr hf
  show WP 12 (mLaw nm hs) (some (LL, xs)) (K + 45) (N + 342) 409 [vScr, .ref 0, .ref 27, .ref 92, .int (nI (5 * j)), vU, vU, vU, vU] [.int x] h1 _
  refine w_istore (pc := 409) (i := 5) (ls' := [vScr, .ref 0, .ref 27, .ref 92, .int (nI (5 * j)), .int x, vU, vU, vU]) dL_law_409 (Nat.le_of_ble_eq_true rfl) rfl rfl rfl ?_
  refine w_aload_n (pc := 411) (i := 2) dL_law_411 rfl rfl ?_
  refine w_arg (i := 1) (pc := 412) rfl hL hLL (by omega) (by decide) rfl rfl dL_law_412 dL_law_413 dL_law_415 dL_law_416 dL_law_417 ?_
  refine w_arg (i := 2) (pc := 418) rfl hL hLL (by omega) (by decide) rfl rfl dL_law_418 dL_law_419 dL_law_421 dL_law_422 dL_law_423 ?_
  obtain ⟨a1, a2, a3, a4⟩ := use _ _ (ag_buy hS hW hD (xs (5 * j + 1)) (xs (5 * j + 2)))
  refine w_vQ2 (d := 11) (k1 := 0) (n1 := 0) (k2 := K + 45) (n2 := N + 342) (pc := 424) dL_law_424 GL_105 hr1.1.1 (c_X4_buy (d := 6) (xs (5 * j + 1)) (xs (5 * j + 2)) hr1 hS.c0 hS.c1 hS.tb) rfl rfl rfl rfl (by omega) (by omega) (fun v h2 q2 => ?_)
  obtain ⟨rfl, hr2, ho2⟩ := q2
  exact w_room (k := K) (n := N) (by omega) (by omega) (w_tail (q := 427) hr2 (ho2 92 _ (by omega) hf1) a1 a2 dL_law_427 dL_law_429 dL_law_430 dL_law_433 dL_law_435 dL_law_440 dL_law_442 dL_law_445 dL_law_446 dL_law_447 dL_law_448 dL_law_450 dL_law_451 dL_law_452 dL_law_457 (by decide) (kk _ (LI.of (hp1.keep (fun i y hi e => ho2 i y (by omega) e)) hr2 (ho2 92 _ (by omega) hf1) a3 a4)))
set_option maxHeartbeats 1000000 in
theorem s_setDry (hI : LI D h) (hD : D ≤ 90000) (hL : 5 * j + 5 ≤ LL) (hLL : LL ≤ 2560) (kk : ∀ h1, LI (D + 40) h1 → WP 12 (mLaw nm hs) (some (LL, xs)) K N 1524 [vScr, .ref 0, .ref 27, .ref 92, .int (nI (5 * j)), vU, vU, vU, vU] [] h1 P) : WP 12 (mLaw nm hs) (some (LL, xs)) (K + 48) (N + 360) 460 [vScr, .ref 0, .ref 27, .ref 92, .int (nI (5 * j)), vU, vU, vU, vU] [] h P := by
  obtain ⟨σ, μ, τ, t, f, hp, hr, hf, hS, hW⟩ := hI
  refine w_aload_n (pc := 460) (i := 1) dL_law_460 rfl rfl ?_
  refine w_arg (i := 1) (pc := 461) rfl hL hLL (by omega) (by decide) rfl rfl dL_law_461 dL_law_462 dL_law_464 dL_law_465 dL_law_466 ?_
  refine w_arg (i := 2) (pc := 467) rfl hL hLL (by omega) (by decide) rfl rfl dL_law_467 dL_law_468 dL_law_470 dL_law_471 dL_law_472 ?_
  refine w_aload_n (pc := 473) (i := 3) dL_law_473 rfl rfl ?_
  refine w_x (d := 11) (k1 := 2) (n1 := 12) (k2 := K + 46) (n2 := N + 348) (pc := 474) dL_law_474 GL_106 (c_L_setDry (d := 2) (xs (5 * j + 1)) (xs (5 * j + 2)) hp hf) rfl rfl rfl rfl (by omega) (by omega) (fun av h1 q => ?_) (fun E h1 q => by obtain ⟨v, q1, q2⟩ := q; cases q1)
  obtain ⟨x, σ1, f1, rfl, hp1, hr1, hf1, use⟩ := q.use hp hr hf
  show WP 12 (mLaw nm hs) (some (LL, xs)) (K + 46) (N + 348) 477 [vScr, .ref 0, .ref 27, .ref 92, .int (nI (5 * j)), vU, vU, vU, vU] [.int x] h1 _
  refine w_istore (pc := 477) (i := 5) (ls' := [vScr, .ref 0, .ref 27, .ref 92, .int (nI (5 * j)), .int x, vU, vU, vU]) dL_law_477 (Nat.le_of_ble_eq_true rfl) rfl rfl rfl ?_
  refine w_aload_n (pc := 479) (i := 2) dL_law_479 rfl rfl ?_
  refine w_arg (i := 1) (pc := 480) rfl hL hLL (by omega) (by decide) rfl rfl dL_law_480 dL_law_481 dL_law_483 dL_law_484 dL_law_485 ?_
  refine w_arg (i := 2) (pc := 486) rfl hL hLL (by omega) (by decide) rfl rfl dL_law_486 dL_law_487 dL_law_489 dL_law_490 dL_law_491 ?_
  obtain ⟨a1, a2, a3, a4⟩ := use _ _ (ag_setDry hS hW (xs (5 * j + 1)) (xs (5 * j + 2)))
  refine w_vQ2 (d := 11) (k1 := 0) (n1 := 0) (k2 := K + 46) (n2 := N + 348) (pc := 492) dL_law_492 GL_108 hr1.1.1 (c_X4_setDry (d := 6) (xs (5 * j + 1)) (xs (5 * j + 2)) hr1 hS.c0 hS.c1 hS.tb) rfl rfl rfl rfl (by omega) (by omega) (fun v h2 q2 => ?_)
  obtain ⟨rfl, hr2, ho2⟩ := q2
  exact w_room (k := K) (n := N) (by omega) (by omega) (w_tail (q := 495) hr2 (ho2 92 _ (by omega) hf1) a1 a2 dL_law_495 dL_law_497 dL_law_498 dL_law_501 dL_law_503 dL_law_508 dL_law_510 dL_law_513 dL_law_514 dL_law_515 dL_law_516 dL_law_518 dL_law_519 dL_law_520 dL_law_525 (by decide) (kk _ (LI.of (hp1.keep (fun i y hi e => ho2 i y (by omega) e)) hr2 (ho2 92 _ (by omega) hf1) a3 a4)))
set_option maxHeartbeats 1000000 in
theorem s_pack (hI : LI D h) (hD : D ≤ 90000) (hL : 5 * j + 5 ≤ LL) (hLL : LL ≤ 2560) (kk : ∀ h1, LI (D + 40) h1 → WP 12 (mLaw nm hs) (some (LL, xs)) K N 1524 [vScr, .ref 0, .ref 27, .ref 92, .int (nI (5 * j)), vU, vU, vU, vU] [] h1 P) : WP 12 (mLaw nm hs) (some (LL, xs)) (K + 48) (N + 360) 528 [vScr, .ref 0, .ref 27, .ref 92, .int (nI (5 * j)), vU, vU, vU, vU] [] h P := by
  obtain ⟨σ, μ, τ, t, f, hp, hr, hf, hS, hW⟩ := hI
  refine w_aload_n (pc := 528) (i := 1) dL_law_528 rfl rfl ?_
  refine w_arg (i := 1) (pc := 529) rfl hL hLL (by omega) (by decide) rfl rfl dL_law_529 dL_law_530 dL_law_532 dL_law_533 dL_law_534 ?_
  refine w_arg (i := 2) (pc := 535) rfl hL hLL (by omega) (by decide) rfl rfl dL_law_535 dL_law_536 dL_law_538 dL_law_539 dL_law_540 ?_
  refine w_arg (i := 3) (pc := 541) rfl hL hLL (by omega) (by decide) rfl rfl dL_law_541 dL_law_542 dL_law_544 dL_law_545 dL_law_546 ?_
  refine w_aload_n (pc := 547) (i := 3) dL_law_547 rfl rfl ?_
  refine w_x (d := 11) (k1 := 5) (n1 := 30) (k2 := K + 43) (n2 := N + 330) (pc := 548) dL_law_548 GL_109 (c_L_pack (d := 2) (xs (5 * j + 1)) (xs (5 * j + 2)) (xs (5 * j + 3)) hp hf) rfl rfl rfl rfl (by omega) (by omega) (fun av h1 q => ?_) (fun E h1 q => by obtain ⟨v, q1, q2⟩ := q; cases q1)
  obtain ⟨x, σ1, f1, rfl, hp1, hr1, hf1, use⟩ := q.use hp hr hf
  show WP 12 (mLaw nm hs) (some (LL, xs)) (K + 43) (N + 330) 551 [vScr, .ref 0, .ref 27, .ref 92, .int (nI (5 * j)), vU, vU, vU, vU] [.int x] h1 _
  refine w_istore (pc := 551) (i := 5) (ls' := [vScr, .ref 0, .ref 27, .ref 92, .int (nI (5 * j)), .int x, vU, vU, vU]) dL_law_551 (Nat.le_of_ble_eq_true rfl) rfl rfl rfl ?_
  refine w_aload_n (pc := 553) (i := 2) dL_law_553 rfl rfl ?_
  refine w_arg (i := 1) (pc := 554) rfl hL hLL (by omega) (by decide) rfl rfl dL_law_554 dL_law_555 dL_law_557 dL_law_558 dL_law_559 ?_
  refine w_arg (i := 2) (pc := 560) rfl hL hLL (by omega) (by decide) rfl rfl dL_law_560 dL_law_561 dL_law_563 dL_law_564 dL_law_565 ?_
  refine w_arg (i := 3) (pc := 566) rfl hL hLL (by omega) (by decide) rfl rfl dL_law_566 dL_law_567 dL_law_569 dL_law_570 dL_law_571 ?_
  obtain ⟨a1, a2, a3, a4⟩ := use _ _ (ag_pack hS hW (xs (5 * j + 1)) (xs (5 * j + 2)) (xs (5 * j + 3)))
  refine w_vQ2 (d := 11) (k1 := 0) (n1 := 0) (k2 := K + 43) (n2 := N + 330) (pc := 572) dL_law_572 GL_112 hr1.1.1 (c_X4_pack (d := 6) (xs (5 * j + 1)) (xs (5 * j + 2)) (xs (5 * j + 3)) hr1 hS.c0 hS.c1 hS.tb) rfl rfl rfl rfl (by omega) (by omega) (fun v h2 q2 => ?_)
  obtain ⟨rfl, hr2, ho2⟩ := q2
  exact w_room (k := K) (n := N) (by omega) (by omega) (w_tail (q := 575) hr2 (ho2 92 _ (by omega) hf1) a1 a2 dL_law_575 dL_law_577 dL_law_578 dL_law_581 dL_law_583 dL_law_588 dL_law_590 dL_law_593 dL_law_594 dL_law_595 dL_law_596 dL_law_598 dL_law_599 dL_law_600 dL_law_605 (by decide) (kk _ (LI.of (hp1.keep (fun i y hi e => ho2 i y (by omega) e)) hr2 (ho2 92 _ (by omega) hf1) a3 a4)))
set_option maxHeartbeats 1000000 in
theorem s_fire (hI : LI D h) (hD : D ≤ 90000) (hL : 5 * j + 5 ≤ LL) (hLL : LL ≤ 2560) (kk : ∀ h1, LI (D + 40) h1 → WP 12 (mLaw nm hs) (some (LL, xs)) K N 1524 [vScr, .ref 0, .ref 27, .ref 92, .int (nI (5 * j)), vU, vU, vU, vU] [] h1 P) : WP 12 (mLaw nm hs) (some (LL, xs)) (K + 48) (N + 360) 608 [vScr, .ref 0, .ref 27, .ref 92, .int (nI (5 * j)), vU, vU, vU, vU] [] h P := by
  obtain ⟨σ, μ, τ, t, f, hp, hr, hf, hS, hW⟩ := hI
  refine w_aload_n (pc := 608) (i := 1) dL_law_608 rfl rfl ?_
  refine w_arg (i := 1) (pc := 609) rfl hL hLL (by omega) (by decide) rfl rfl dL_law_609 dL_law_610 dL_law_612 dL_law_613 dL_law_614 ?_
  refine w_aload_n (pc := 615) (i := 3) dL_law_615 rfl rfl ?_
  refine w_x (d := 11) (k1 := 2) (n1 := 12) (k2 := K + 46) (n2 := N + 348) (pc := 616) dL_law_616 GL_113 (c_L_fire (d := 2) (xs (5 * j + 1)) hp hf) rfl rfl rfl rfl (by omega) (by omega) (fun av h1 q => ?_) (fun E h1 q => by obtain ⟨v, q1, q2⟩ := q; cases q1)
  obtain ⟨x, σ1, f1, rfl, hp1, hr1, hf1, use⟩ := q.use hp hr hf
  show WP 12 (mLaw nm hs) (some (LL, xs)) (K + 46) (N + 348) 619 [vScr, .ref 0, .ref 27, .ref 92, .int (nI (5 * j)), vU, vU, vU, vU] [.int x] h1 _
  refine w_istore (pc := 619) (i := 5) (ls' := [vScr, .ref 0, .ref 27, .ref 92, .int (nI (5 * j)), .int x, vU, vU, vU]) dL_law_619 (Nat.le_of_ble_eq_true rfl) rfl rfl rfl ?_
  refine w_aload_n (pc := 621) (i := 2) dL_law_621 rfl rfl ?_
  refine w_arg (i := 1) (pc := 622) rfl hL hLL (by omega) (by decide) rfl rfl dL_law_622 dL_law_623 dL_law_625 dL_law_626 dL_law_627 ?_
  obtain ⟨a1, a2, a3, a4⟩ := use _ _ (ag_fire hS hW (xs (5 * j + 1)))
  refine w_vQ2 (d := 11) (k1 := 0) (n1 := 0) (k2 := K + 46) (n2 := N + 348) (pc := 628) dL_law_628 GL_115 hr1.1.1 (c_X4_fire (d := 6) (xs (5 * j + 1)) hr1 hS.c0 hS.c1 hS.tb hS.fv) rfl rfl rfl rfl (by omega) (by omega) (fun v h2 q2 => ?_)
  obtain ⟨rfl, hr2, ho2⟩ := q2
  exact w_room (k := K) (n := N) (by omega) (by omega) (w_tail (q := 631) hr2 (ho2 92 _ (by omega) hf1) a1 a2 dL_law_631 dL_law_633 dL_law_634 dL_law_637 dL_law_639 dL_law_644 dL_law_646 dL_law_649 dL_law_650 dL_law_651 dL_law_652 dL_law_654 dL_law_655 dL_law_656 dL_law_661 (by decide) (kk _ (LI.of (hp1.keep (fun i y hi e => ho2 i y (by omega) e)) hr2 (ho2 92 _ (by omega) hf1) a3 a4)))
set_option maxHeartbeats 1000000 in
theorem s_order (hI : LI D h) (hD : D ≤ 90000) (hL : 5 * j + 5 ≤ LL) (hLL : LL ≤ 2560) (kk : ∀ h1, LI (D + 40) h1 → WP 12 (mLaw nm hs) (some (LL, xs)) K N 1524 [vScr, .ref 0, .ref 27, .ref 92, .int (nI (5 * j)), vU, vU, vU, vU] [] h1 P) : WP 12 (mLaw nm hs) (some (LL, xs)) (K + 48) (N + 360) 664 [vScr, .ref 0, .ref 27, .ref 92, .int (nI (5 * j)), vU, vU, vU, vU] [] h P := by
  obtain ⟨σ, μ, τ, t, f, hp, hr, hf, hS, hW⟩ := hI
  refine w_aload_n (pc := 664) (i := 1) dL_law_664 rfl rfl ?_
  refine w_arg (i := 1) (pc := 665) rfl hL hLL (by omega) (by decide) rfl rfl dL_law_665 dL_law_666 dL_law_668 dL_law_669 dL_law_670 ?_
  refine w_arg (i := 2) (pc := 671) rfl hL hLL (by omega) (by decide) rfl rfl dL_law_671 dL_law_672 dL_law_674 dL_law_675 dL_law_676 ?_
  refine w_arg (i := 3) (pc := 677) rfl hL hLL (by omega) (by decide) rfl rfl dL_law_677 dL_law_678 dL_law_680 dL_law_681 dL_law_682 ?_
  refine w_arg (i := 4) (pc := 683) rfl hL hLL (by omega) (by decide) rfl rfl dL_law_683 dL_law_684 dL_law_686 dL_law_687 dL_law_688 ?_
  refine w_aload_n (pc := 689) (i := 3) dL_law_689 rfl rfl ?_
  refine w_x (d := 11) (k1 := 5) (n1 := 30) (k2 := K + 43) (n2 := N + 330) (pc := 690) dL_law_690 GL_116 (c_L_order (d := 2) (xs (5 * j + 1)) (xs (5 * j + 2)) (xs (5 * j + 3)) (xs (5 * j + 4)) hp hf) rfl rfl rfl rfl (by omega) (by omega) (fun av h1 q => ?_) (fun E h1 q => by obtain ⟨v, q1, q2⟩ := q; cases q1)
  obtain ⟨x, σ1, f1, rfl, hp1, hr1, hf1, use⟩ := q.use hp hr hf
  show WP 12 (mLaw nm hs) (some (LL, xs)) (K + 43) (N + 330) 693 [vScr, .ref 0, .ref 27, .ref 92, .int (nI (5 * j)), vU, vU, vU, vU] [.int x] h1 _
  refine w_istore (pc := 693) (i := 5) (ls' := [vScr, .ref 0, .ref 27, .ref 92, .int (nI (5 * j)), .int x, vU, vU, vU]) dL_law_693 (Nat.le_of_ble_eq_true rfl) rfl rfl rfl ?_
  refine w_aload_n (pc := 695) (i := 2) dL_law_695 rfl rfl ?_
  refine w_arg (i := 1) (pc := 696) rfl hL hLL (by omega) (by decide) rfl rfl dL_law_696 dL_law_697 dL_law_699 dL_law_700 dL_law_701 ?_
  refine w_arg (i := 2) (pc := 702) rfl hL hLL (by omega) (by decide) rfl rfl dL_law_702 dL_law_703 dL_law_705 dL_law_706 dL_law_707 ?_
  refine w_arg (i := 3) (pc := 708) rfl hL hLL (by omega) (by decide) rfl rfl dL_law_708 dL_law_709 dL_law_711 dL_law_712 dL_law_713 ?_
  refine w_arg (i := 4) (pc := 714) rfl hL hLL (by omega) (by decide) rfl rfl dL_law_714 dL_law_715 dL_law_717 dL_law_718 dL_law_719 ?_
  obtain ⟨a1, a2, a3, a4⟩ := use _ _ (ag_order hS hW (xs (5 * j + 1)) (xs (5 * j + 2)) (xs (5 * j + 3)) (xs (5 * j + 4)))
  refine w_vQ2 (d := 11) (k1 := 1) (n1 := 5) (k2 := K + 42) (n2 := N + 325) (pc := 720) dL_law_720 GL_119 hr1.1.1 (c_X4_order (d := 6) (xs (5 * j + 1)) (xs (5 * j + 2)) (xs (5 * j + 3)) (xs (5 * j + 4)) hr1 hS.c0 hS.c1 hS.tb) rfl rfl rfl rfl (by omega) (by omega) (fun v h2 q2 => ?_)
  obtain ⟨rfl, hr2, ho2⟩ := q2
  exact w_room (k := K) (n := N) (by omega) (by omega) (w_tail (q := 723) hr2 (ho2 92 _ (by omega) hf1) a1 a2 dL_law_723 dL_law_725 dL_law_726 dL_law_729 dL_law_731 dL_law_736 dL_law_738 dL_law_741 dL_law_742 dL_law_743 dL_law_744 dL_law_746 dL_law_747 dL_law_748 dL_law_753 (by decide) (kk _ (LI.of (hp1.keep (fun i y hi e => ho2 i y (by omega) e)) hr2 (ho2 92 _ (by omega) hf1) a3 a4)))
set_option maxHeartbeats 1000000 in
theorem s_about (hI : LI D h) (hD : D ≤ 90000) (hL : 5 * j + 5 ≤ LL) (hLL : LL ≤ 2560) (kk : ∀ h1, LI (D + 40) h1 → WP 12 (mLaw nm hs) (some (LL, xs)) K N 1524 [vScr, .ref 0, .ref 27, .ref 92, .int (nI (5 * j)), vU, vU, vU, vU] [] h1 P) : WP 12 (mLaw nm hs) (some (LL, xs)) (K + 48) (N + 360) 756 [vScr, .ref 0, .ref 27, .ref 92, .int (nI (5 * j)), vU, vU, vU, vU] [] h P := by
  obtain ⟨σ, μ, τ, t, f, hp, hr, hf, hS, hW⟩ := hI
  refine w_aload_n (pc := 756) (i := 1) dL_law_756 rfl rfl ?_
  refine w_arg (i := 1) (pc := 757) rfl hL hLL (by omega) (by decide) rfl rfl dL_law_757 dL_law_758 dL_law_760 dL_law_761 dL_law_762 ?_
  refine w_arg (i := 2) (pc := 763) rfl hL hLL (by omega) (by decide) rfl rfl dL_law_763 dL_law_764 dL_law_766 dL_law_767 dL_law_768 ?_
  refine w_aload_n (pc := 769) (i := 3) dL_law_769 rfl rfl ?_
  refine w_x (d := 11) (k1 := 2) (n1 := 12) (k2 := K + 46) (n2 := N + 348) (pc := 770) dL_law_770 GL_120 (c_L_about (d := 2) (xs (5 * j + 1)) (xs (5 * j + 2)) hp hf) rfl rfl rfl rfl (by omega) (by omega) (fun av h1 q => ?_) (fun E h1 q => by obtain ⟨v, q1, q2⟩ := q; cases q1)
  obtain ⟨x, σ1, f1, rfl, hp1, hr1, hf1, use⟩ := q.use hp hr hf
  show WP 12 (mLaw nm hs) (some (LL, xs)) (K + 46) (N + 348) 773 [vScr, .ref 0, .ref 27, .ref 92, .int (nI (5 * j)), vU, vU, vU, vU] [.int x] h1 _
  refine w_istore (pc := 773) (i := 5) (ls' := [vScr, .ref 0, .ref 27, .ref 92, .int (nI (5 * j)), .int x, vU, vU, vU]) dL_law_773 (Nat.le_of_ble_eq_true rfl) rfl rfl rfl ?_
  refine w_aload_n (pc := 775) (i := 2) dL_law_775 rfl rfl ?_
  refine w_arg (i := 1) (pc := 776) rfl hL hLL (by omega) (by decide) rfl rfl dL_law_776 dL_law_777 dL_law_779 dL_law_780 dL_law_781 ?_
  refine w_arg (i := 2) (pc := 782) rfl hL hLL (by omega) (by decide) rfl rfl dL_law_782 dL_law_783 dL_law_785 dL_law_786 dL_law_787 ?_
  obtain ⟨a1, a2, a3, a4⟩ := use _ _ (ag_about hS hW (xs (5 * j + 1)) (xs (5 * j + 2)))
  refine w_vQ2 (d := 11) (k1 := 1) (n1 := 6) (k2 := K + 45) (n2 := N + 342) (pc := 788) dL_law_788 GL_122 hr1.1.1 (c_X4_about (d := 6) (xs (5 * j + 1)) (xs (5 * j + 2)) hr1 hS.c0 hS.c1 hS.tb) rfl rfl rfl rfl (by omega) (by omega) (fun v h2 q2 => ?_)
  obtain ⟨rfl, hr2, ho2⟩ := q2
  exact w_room (k := K) (n := N) (by omega) (by omega) (w_tail (q := 791) hr2 (ho2 92 _ (by omega) hf1) a1 a2 dL_law_791 dL_law_793 dL_law_794 dL_law_797 dL_law_799 dL_law_804 dL_law_806 dL_law_809 dL_law_810 dL_law_811 dL_law_812 dL_law_814 dL_law_815 dL_law_816 dL_law_821 (by decide) (kk _ (LI.of (hp1.keep (fun i y hi e => ho2 i y (by omega) e)) hr2 (ho2 92 _ (by omega) hf1) a3 a4)))
set_option maxHeartbeats 1000000 in
theorem s_told (hI : LI D h) (hD : D ≤ 90000) (hL : 5 * j + 5 ≤ LL) (hLL : LL ≤ 2560) (kk : ∀ h1, LI (D + 40) h1 → WP 12 (mLaw nm hs) (some (LL, xs)) K N 1524 [vScr, .ref 0, .ref 27, .ref 92, .int (nI (5 * j)), vU, vU, vU, vU] [] h1 P) : WP 12 (mLaw nm hs) (some (LL, xs)) (K + 48) (N + 360) 824 [vScr, .ref 0, .ref 27, .ref 92, .int (nI (5 * j)), vU, vU, vU, vU] [] h P := by
  obtain ⟨σ, μ, τ, t, f, hp, hr, hf, hS, hW⟩ := hI
  refine w_aload_n (pc := 824) (i := 1) dL_law_824 rfl rfl ?_
  refine w_arg (i := 1) (pc := 825) rfl hL hLL (by omega) (by decide) rfl rfl dL_law_825 dL_law_826 dL_law_828 dL_law_829 dL_law_830 ?_
  refine w_arg (i := 2) (pc := 831) rfl hL hLL (by omega) (by decide) rfl rfl dL_law_831 dL_law_832 dL_law_834 dL_law_835 dL_law_836 ?_
  refine w_aload_n (pc := 837) (i := 3) dL_law_837 rfl rfl ?_
  refine w_x (d := 11) (k1 := 2) (n1 := 12) (k2 := K + 46) (n2 := N + 348) (pc := 838) dL_law_838 GL_123 (c_L_told (d := 2) (xs (5 * j + 1)) (xs (5 * j + 2)) hp hf) rfl rfl rfl rfl (by omega) (by omega) (fun av h1 q => ?_) (fun E h1 q => by obtain ⟨v, q1, q2⟩ := q; cases q1)
  obtain ⟨x, σ1, f1, rfl, hp1, hr1, hf1, use⟩ := q.use hp hr hf
  show WP 12 (mLaw nm hs) (some (LL, xs)) (K + 46) (N + 348) 841 [vScr, .ref 0, .ref 27, .ref 92, .int (nI (5 * j)), vU, vU, vU, vU] [.int x] h1 _
  refine w_istore (pc := 841) (i := 5) (ls' := [vScr, .ref 0, .ref 27, .ref 92, .int (nI (5 * j)), .int x, vU, vU, vU]) dL_law_841 (Nat.le_of_ble_eq_true rfl) rfl rfl rfl ?_
  refine w_aload_n (pc := 843) (i := 2) dL_law_843 rfl rfl ?_
  refine w_arg (i := 1) (pc := 844) rfl hL hLL (by omega) (by decide) rfl rfl dL_law_844 dL_law_845 dL_law_847 dL_law_848 dL_law_849 ?_
  refine w_arg (i := 2) (pc := 850) rfl hL hLL (by omega) (by decide) rfl rfl dL_law_850 dL_law_851 dL_law_853 dL_law_854 dL_law_855 ?_
  obtain ⟨a1, a2, a3, a4⟩ := use _ _ (ag_told hS hW (xs (5 * j + 1)) (xs (5 * j + 2)))
  refine w_vQ2 (d := 11) (k1 := 0) (n1 := 0) (k2 := K + 46) (n2 := N + 348) (pc := 856) dL_law_856 GL_125 hr1.1.1 (c_X4_told (d := 6) (xs (5 * j + 1)) (xs (5 * j + 2)) hr1 hS.c0 hS.c1 hS.tb) rfl rfl rfl rfl (by omega) (by omega) (fun v h2 q2 => ?_)
  obtain ⟨rfl, hr2, ho2⟩ := q2
  exact w_room (k := K) (n := N) (by omega) (by omega) (w_tail (q := 859) hr2 (ho2 92 _ (by omega) hf1) a1 a2 dL_law_859 dL_law_861 dL_law_862 dL_law_865 dL_law_867 dL_law_872 dL_law_874 dL_law_877 dL_law_878 dL_law_879 dL_law_880 dL_law_882 dL_law_883 dL_law_884 dL_law_889 (by decide) (kk _ (LI.of (hp1.keep (fun i y hi e => ho2 i y (by omega) e)) hr2 (ho2 92 _ (by omega) hf1) a3 a4)))
set_option maxHeartbeats 1000000 in
theorem s_batch (hI : LI D h) (hD : D ≤ 90000) (hL : 5 * j + 5 ≤ LL) (hLL : LL ≤ 2560) (kk : ∀ h1, LI (D + 40) h1 → WP 12 (mLaw nm hs) (some (LL, xs)) K N 1524 [vScr, .ref 0, .ref 27, .ref 92, .int (nI (5 * j)), vU, vU, vU, vU] [] h1 P) : WP 12 (mLaw nm hs) (some (LL, xs)) (K + 48) (N + 360) 892 [vScr, .ref 0, .ref 27, .ref 92, .int (nI (5 * j)), vU, vU, vU, vU] [] h P := by
  obtain ⟨σ, μ, τ, t, f, hp, hr, hf, hS, hW⟩ := hI
  refine w_aload_n (pc := 892) (i := 1) dL_law_892 rfl rfl ?_
  refine w_arg (i := 1) (pc := 893) rfl hL hLL (by omega) (by decide) rfl rfl dL_law_893 dL_law_894 dL_law_896 dL_law_897 dL_law_898 ?_
  refine w_arg (i := 2) (pc := 899) rfl hL hLL (by omega) (by decide) rfl rfl dL_law_899 dL_law_900 dL_law_902 dL_law_903 dL_law_904 ?_
  refine w_aload_n (pc := 905) (i := 3) dL_law_905 rfl rfl ?_
  refine w_x (d := 11) (k1 := 2) (n1 := 12) (k2 := K + 46) (n2 := N + 348) (pc := 906) dL_law_906 GL_126 (c_L_batch (d := 2) (xs (5 * j + 1)) (xs (5 * j + 2)) hp hf) rfl rfl rfl rfl (by omega) (by omega) (fun av h1 q => ?_) (fun E h1 q => by obtain ⟨v, q1, q2⟩ := q; cases q1)
  obtain ⟨x, σ1, f1, rfl, hp1, hr1, hf1, use⟩ := q.use hp hr hf
  show WP 12 (mLaw nm hs) (some (LL, xs)) (K + 46) (N + 348) 909 [vScr, .ref 0, .ref 27, .ref 92, .int (nI (5 * j)), vU, vU, vU, vU] [.int x] h1 _
  refine w_istore (pc := 909) (i := 5) (ls' := [vScr, .ref 0, .ref 27, .ref 92, .int (nI (5 * j)), .int x, vU, vU, vU]) dL_law_909 (Nat.le_of_ble_eq_true rfl) rfl rfl rfl ?_
  refine w_aload_n (pc := 911) (i := 2) dL_law_911 rfl rfl ?_
  refine w_arg (i := 1) (pc := 912) rfl hL hLL (by omega) (by decide) rfl rfl dL_law_912 dL_law_913 dL_law_915 dL_law_916 dL_law_917 ?_
  refine w_arg (i := 2) (pc := 918) rfl hL hLL (by omega) (by decide) rfl rfl dL_law_918 dL_law_919 dL_law_921 dL_law_922 dL_law_923 ?_
  obtain ⟨a1, a2, a3, a4⟩ := use _ _ (ag_batch hS hW (xs (5 * j + 1)) (xs (5 * j + 2)))
  refine w_vQ2 (d := 11) (k1 := 0) (n1 := 0) (k2 := K + 46) (n2 := N + 348) (pc := 924) dL_law_924 GL_128 hr1.1.1 (c_X4_batch (d := 6) (xs (5 * j + 1)) (xs (5 * j + 2)) hr1 hS.c0 hS.c1 hS.tb) rfl rfl rfl rfl (by omega) (by omega) (fun v h2 q2 => ?_)
  obtain ⟨rfl, hr2, ho2⟩ := q2
  exact w_room (k := K) (n := N) (by omega) (by omega) (w_tail (q := 927) hr2 (ho2 92 _ (by omega) hf1) a1 a2 dL_law_927 dL_law_929 dL_law_930 dL_law_933 dL_law_935 dL_law_940 dL_law_942 dL_law_945 dL_law_946 dL_law_947 dL_law_948 dL_law_950 dL_law_951 dL_law_952 dL_law_957 (by decide) (kk _ (LI.of (hp1.keep (fun i y hi e => ho2 i y (by omega) e)) hr2 (ho2 92 _ (by omega) hf1) a3 a4)))
set_option maxHeartbeats 1000000 in
theorem s_saggar (hI : LI D h) (hD : D ≤ 90000) (hL : 5 * j + 5 ≤ LL) (hLL : LL ≤ 2560) (kk : ∀ h1, LI (D + 40) h1 → WP 12 (mLaw nm hs) (some (LL, xs)) K N 1524 [vScr, .ref 0, .ref 27, .ref 92, .int (nI (5 * j)), vU, vU, vU, vU] [] h1 P) : WP 12 (mLaw nm hs) (some (LL, xs)) (K + 48) (N + 360) 960 [vScr, .ref 0, .ref 27, .ref 92, .int (nI (5 * j)), vU, vU, vU, vU] [] h P := by
  obtain ⟨σ, μ, τ, t, f, hp, hr, hf, hS, hW⟩ := hI
  refine w_aload_n (pc := 960) (i := 1) dL_law_960 rfl rfl ?_
  refine w_arg (i := 1) (pc := 961) rfl hL hLL (by omega) (by decide) rfl rfl dL_law_961 dL_law_962 dL_law_964 dL_law_965 dL_law_966 ?_
  refine w_arg (i := 2) (pc := 967) rfl hL hLL (by omega) (by decide) rfl rfl dL_law_967 dL_law_968 dL_law_970 dL_law_971 dL_law_972 ?_
  refine w_aload_n (pc := 973) (i := 3) dL_law_973 rfl rfl ?_
  refine w_x (d := 11) (k1 := 2) (n1 := 12) (k2 := K + 46) (n2 := N + 348) (pc := 974) dL_law_974 GL_129 (c_L_saggar (d := 2) (xs (5 * j + 1)) (xs (5 * j + 2)) hp hf) rfl rfl rfl rfl (by omega) (by omega) (fun av h1 q => ?_) (fun E h1 q => by obtain ⟨v, q1, q2⟩ := q; cases q1)
  obtain ⟨x, σ1, f1, rfl, hp1, hr1, hf1, use⟩ := q.use hp hr hf
  show WP 12 (mLaw nm hs) (some (LL, xs)) (K + 46) (N + 348) 977 [vScr, .ref 0, .ref 27, .ref 92, .int (nI (5 * j)), vU, vU, vU, vU] [.int x] h1 _
  refine w_istore (pc := 977) (i := 5) (ls' := [vScr, .ref 0, .ref 27, .ref 92, .int (nI (5 * j)), .int x, vU, vU, vU]) dL_law_977 (Nat.le_of_ble_eq_true rfl) rfl rfl rfl ?_
  refine w_aload_n (pc := 979) (i := 2) dL_law_979 rfl rfl ?_
  refine w_arg (i := 1) (pc := 980) rfl hL hLL (by omega) (by decide) rfl rfl dL_law_980 dL_law_981 dL_law_983 dL_law_984 dL_law_985 ?_
  refine w_arg (i := 2) (pc := 986) rfl hL hLL (by omega) (by decide) rfl rfl dL_law_986 dL_law_987 dL_law_989 dL_law_990 dL_law_991 ?_
  obtain ⟨a1, a2, a3, a4⟩ := use _ _ (ag_saggar hS hW (xs (5 * j + 1)) (xs (5 * j + 2)))
  refine w_vQ2 (d := 11) (k1 := 0) (n1 := 0) (k2 := K + 46) (n2 := N + 348) (pc := 992) dL_law_992 GL_131 hr1.1.1 (c_X4_saggar (d := 6) (xs (5 * j + 1)) (xs (5 * j + 2)) hr1 hS.c0 hS.c1 hS.tb) rfl rfl rfl rfl (by omega) (by omega) (fun v h2 q2 => ?_)
  obtain ⟨rfl, hr2, ho2⟩ := q2
  exact w_room (k := K) (n := N) (by omega) (by omega) (w_tail (q := 995) hr2 (ho2 92 _ (by omega) hf1) a1 a2 dL_law_995 dL_law_997 dL_law_998 dL_law_1001 dL_law_1003 dL_law_1008 dL_law_1010 dL_law_1013 dL_law_1014 dL_law_1015 dL_law_1016 dL_law_1018 dL_law_1019 dL_law_1020 dL_law_1025 (by decide) (kk _ (LI.of (hp1.keep (fun i y hi e => ho2 i y (by omega) e)) hr2 (ho2 92 _ (by omega) hf1) a3 a4)))
set_option maxHeartbeats 1000000 in
theorem s_store (hI : LI D h) (hD : D ≤ 90000) (hL : 5 * j + 5 ≤ LL) (hLL : LL ≤ 2560) (kk : ∀ h1, LI (D + 40) h1 → WP 12 (mLaw nm hs) (some (LL, xs)) K N 1524 [vScr, .ref 0, .ref 27, .ref 92, .int (nI (5 * j)), vU, vU, vU, vU] [] h1 P) : WP 12 (mLaw nm hs) (some (LL, xs)) (K + 48) (N + 360) 1028 [vScr, .ref 0, .ref 27, .ref 92, .int (nI (5 * j)), vU, vU, vU, vU] [] h P := by
  obtain ⟨σ, μ, τ, t, f, hp, hr, hf, hS, hW⟩ := hI
  refine w_aload_n (pc := 1028) (i := 1) dL_law_1028 rfl rfl ?_
  refine w_arg (i := 1) (pc := 1029) rfl hL hLL (by omega) (by decide) rfl rfl dL_law_1029 dL_law_1030 dL_law_1032 dL_law_1033 dL_law_1034 ?_
  refine w_aload_n (pc := 1035) (i := 3) dL_law_1035 rfl rfl ?_
  refine w_x (d := 11) (k1 := 1) (n1 := 6) (k2 := K + 47) (n2 := N + 354) (pc := 1036) dL_law_1036 GL_132 (c_L_store (d := 2) (xs (5 * j + 1)) hp hf) rfl rfl rfl rfl (by omega) (by omega) (fun av h1 q => ?_) (fun E h1 q => by obtain ⟨v, q1, q2⟩ := q; cases q1)
  obtain ⟨x, σ1, f1, rfl, hp1, hr1, hf1, use⟩ := q.use hp hr hf
  show WP 12 (mLaw nm hs) (some (LL, xs)) (K + 47) (N + 354) 1039 [vScr, .ref 0, .ref 27, .ref 92, .int (nI (5 * j)), vU, vU, vU, vU] [.int x] h1 _
  refine w_istore (pc := 1039) (i := 5) (ls' := [vScr, .ref 0, .ref 27, .ref 92, .int (nI (5 * j)), .int x, vU, vU, vU]) dL_law_1039 (Nat.le_of_ble_eq_true rfl) rfl rfl rfl ?_
  refine w_aload_n (pc := 1041) (i := 2) dL_law_1041 rfl rfl ?_
  refine w_arg (i := 1) (pc := 1042) rfl hL hLL (by omega) (by decide) rfl rfl dL_law_1042 dL_law_1043 dL_law_1045 dL_law_1046 dL_law_1047 ?_
  obtain ⟨a1, a2, a3, a4⟩ := use _ _ (ag_store hS hW (xs (5 * j + 1)))
  refine w_vQ2 (d := 11) (k1 := 0) (n1 := 0) (k2 := K + 47) (n2 := N + 354) (pc := 1048) dL_law_1048 GL_134 hr1.1.1 (c_X4_store (d := 6) (xs (5 * j + 1)) hr1 hS.c0 hS.c1 hS.tb) rfl rfl rfl rfl (by omega) (by omega) (fun v h2 q2 => ?_)
  obtain ⟨rfl, hr2, ho2⟩ := q2
  exact w_room (k := K) (n := N) (by omega) (by omega) (w_tail (q := 1051) hr2 (ho2 92 _ (by omega) hf1) a1 a2 dL_law_1051 dL_law_1053 dL_law_1054 dL_law_1057 dL_law_1059 dL_law_1064 dL_law_1066 dL_law_1069 dL_law_1070 dL_law_1071 dL_law_1072 dL_law_1074 dL_law_1075 dL_law_1076 dL_law_1081 (by decide) (kk _ (LI.of (hp1.keep (fun i y hi e => ho2 i y (by omega) e)) hr2 (ho2 92 _ (by omega) hf1) a3 a4)))
set_option maxHeartbeats 1000000 in
theorem s_waits (hI : LI D h) (hD : D ≤ 90000) (hL : 5 * j + 5 ≤ LL) (hLL : LL ≤ 2560) (kk : ∀ h1, LI (D + 40) h1 → WP 12 (mLaw nm hs) (some (LL, xs)) K N 1524 [vScr, .ref 0, .ref 27, .ref 92, .int (nI (5 * j)), vU, vU, vU, vU] [] h1 P) : WP 12 (mLaw nm hs) (some (LL, xs)) (K + 48) (N + 360) 1084 [vScr, .ref 0, .ref 27, .ref 92, .int (nI (5 * j)), vU, vU, vU, vU] [] h P := by
  obtain ⟨σ, μ, τ, t, f, hp, hr, hf, hS, hW⟩ := hI
  refine w_aload_n (pc := 1084) (i := 1) dL_law_1084 rfl rfl ?_
  refine w_arg (i := 1) (pc := 1085) rfl hL hLL (by omega) (by decide) rfl rfl dL_law_1085 dL_law_1086 dL_law_1088 dL_law_1089 dL_law_1090 ?_
  refine w_arg (i := 2) (pc := 1091) rfl hL hLL (by omega) (by decide) rfl rfl dL_law_1091 dL_law_1092 dL_law_1094 dL_law_1095 dL_law_1096 ?_
  refine w_aload_n (pc := 1097) (i := 3) dL_law_1097 rfl rfl ?_
  refine w_x (d := 11) (k1 := 2) (n1 := 12) (k2 := K + 46) (n2 := N + 348) (pc := 1098) dL_law_1098 GL_135 (c_L_waits (d := 2) (xs (5 * j + 1)) (xs (5 * j + 2)) hp hf) rfl rfl rfl rfl (by omega) (by omega) (fun av h1 q => ?_) (fun E h1 q => by obtain ⟨v, q1, q2⟩ := q; cases q1)
  obtain ⟨x, σ1, f1, rfl, hp1, hr1, hf1, use⟩ := q.use hp hr hf
  show WP 12 (mLaw nm hs) (some (LL, xs)) (K + 46) (N + 348) 1101 [vScr, .ref 0, .ref 27, .ref 92, .int (nI (5 * j)), vU, vU, vU, vU] [.int x] h1 _
  refine w_istore (pc := 1101) (i := 5) (ls' := [vScr, .ref 0, .ref 27, .ref 92, .int (nI (5 * j)), .int x, vU, vU, vU]) dL_law_1101 (Nat.le_of_ble_eq_true rfl) rfl rfl rfl ?_
  refine w_aload_n (pc := 1103) (i := 2) dL_law_1103 rfl rfl ?_
  refine w_arg (i := 1) (pc := 1104) rfl hL hLL (by omega) (by decide) rfl rfl dL_law_1104 dL_law_1105 dL_law_1107 dL_law_1108 dL_law_1109 ?_
  refine w_arg (i := 2) (pc := 1110) rfl hL hLL (by omega) (by decide) rfl rfl dL_law_1110 dL_law_1111 dL_law_1113 dL_law_1114 dL_law_1115 ?_
  obtain ⟨a1, a2, a3, a4⟩ := use _ _ (ag_waits hS hW (xs (5 * j + 1)) (xs (5 * j + 2)))
  refine w_vQ2 (d := 11) (k1 := 0) (n1 := 0) (k2 := K + 46) (n2 := N + 348) (pc := 1116) dL_law_1116 GL_137 hr1.1.1 (c_X4_waits (d := 6) (xs (5 * j + 1)) (xs (5 * j + 2)) hr1 hS.c0 hS.c1 hS.tb) rfl rfl rfl rfl (by omega) (by omega) (fun v h2 q2 => ?_)
  obtain ⟨rfl, hr2, ho2⟩ := q2
  exact w_room (k := K) (n := N) (by omega) (by omega) (w_tail (q := 1119) hr2 (ho2 92 _ (by omega) hf1) a1 a2 dL_law_1119 dL_law_1121 dL_law_1122 dL_law_1125 dL_law_1127 dL_law_1132 dL_law_1134 dL_law_1137 dL_law_1138 dL_law_1139 dL_law_1140 dL_law_1142 dL_law_1143 dL_law_1144 dL_law_1149 (by decide) (kk _ (LI.of (hp1.keep (fun i y hi e => ho2 i y (by omega) e)) hr2 (ho2 92 _ (by omega) hf1) a3 a4)))
set_option maxHeartbeats 1000000 in
theorem s_count (hI : LI D h) (hD : D ≤ 90000) (hL : 5 * j + 5 ≤ LL) (hLL : LL ≤ 2560) (kk : ∀ h1, LI (D + 40) h1 → WP 12 (mLaw nm hs) (some (LL, xs)) K N 1524 [vScr, .ref 0, .ref 27, .ref 92, .int (nI (5 * j)), vU, vU, vU, vU] [] h1 P) : WP 12 (mLaw nm hs) (some (LL, xs)) (K + 48) (N + 360) 1152 [vScr, .ref 0, .ref 27, .ref 92, .int (nI (5 * j)), vU, vU, vU, vU] [] h P := by
  obtain ⟨σ, μ, τ, t, f, hp, hr, hf, hS, hW⟩ := hI
  refine w_aload_n (pc := 1152) (i := 1) dL_law_1152 rfl rfl ?_
  refine w_arg (i := 1) (pc := 1153) rfl hL hLL (by omega) (by decide) rfl rfl dL_law_1153 dL_law_1154 dL_law_1156 dL_law_1157 dL_law_1158 ?_
  refine w_aload_n (pc := 1159) (i := 3) dL_law_1159 rfl rfl ?_
  refine w_x (d := 11) (k1 := 1) (n1 := 6) (k2 := K + 47) (n2 := N + 354) (pc := 1160) dL_law_1160 GL_138 (c_L_count (d := 2) (xs (5 * j + 1)) hp hf) rfl rfl rfl rfl (by omega) (by omega) (fun av h1 q => ?_) (fun E h1 q => by obtain ⟨v, q1, q2⟩ := q; cases q1)
  obtain ⟨x, σ1, f1, rfl, hp1, hr1, hf1, use⟩ := q.use hp hr hf
  show WP 12 (mLaw nm hs) (some (LL, xs)) (K + 47) (N + 354) 1163 [vScr, .ref 0, .ref 27, .ref 92, .int (nI (5 * j)), vU, vU, vU, vU] [.int x] h1 _
  refine w_istore (pc := 1163) (i := 5) (ls' := [vScr, .ref 0, .ref 27, .ref 92, .int (nI (5 * j)), .int x, vU, vU, vU]) dL_law_1163 (Nat.le_of_ble_eq_true rfl) rfl rfl rfl ?_
  refine w_aload_n (pc := 1165) (i := 2) dL_law_1165 rfl rfl ?_
  refine w_arg (i := 1) (pc := 1166) rfl hL hLL (by omega) (by decide) rfl rfl dL_law_1166 dL_law_1167 dL_law_1169 dL_law_1170 dL_law_1171 ?_
  obtain ⟨a1, a2, a3, a4⟩ := use _ _ (ag_count hS hW (xs (5 * j + 1)))
  refine w_vQ2 (d := 11) (k1 := 1) (n1 := 12) (k2 := K + 46) (n2 := N + 342) (pc := 1172) dL_law_1172 GL_140 hr1.1.1 (c_X4_count (d := 6) (xs (5 * j + 1)) hr1 hS.c0 hS.c1 hS.tb) rfl rfl rfl rfl (by omega) (by omega) (fun v h2 q2 => ?_)
  obtain ⟨rfl, hr2, ho2⟩ := q2
  exact w_room (k := K) (n := N) (by omega) (by omega) (w_tail (q := 1175) hr2 (ho2 92 _ (by omega) hf1) a1 a2 dL_law_1175 dL_law_1177 dL_law_1178 dL_law_1181 dL_law_1183 dL_law_1188 dL_law_1190 dL_law_1193 dL_law_1194 dL_law_1195 dL_law_1196 dL_law_1198 dL_law_1199 dL_law_1200 dL_law_1205 (by decide) (kk _ (LI.of (hp1.keep (fun i y hi e => ho2 i y (by omega) e)) hr2 (ho2 92 _ (by omega) hf1) a3 a4)))
set_option maxHeartbeats 1000000 in
theorem s_pass (hI : LI D h) (hD : D ≤ 90000) (hL : 5 * j + 5 ≤ LL) (hLL : LL ≤ 2560) (kk : ∀ h1, LI (D + 40) h1 → WP 12 (mLaw nm hs) (some (LL, xs)) K N 1524 [vScr, .ref 0, .ref 27, .ref 92, .int (nI (5 * j)), vU, vU, vU, vU] [] h1 P) : WP 12 (mLaw nm hs) (some (LL, xs)) (K + 48) (N + 360) 1208 [vScr, .ref 0, .ref 27, .ref 92, .int (nI (5 * j)), vU, vU, vU, vU] [] h P := by
  obtain ⟨σ, μ, τ, t, f, hp, hr, hf, hS, hW⟩ := hI
  refine w_aload_n (pc := 1208) (i := 1) dL_law_1208 rfl rfl ?_
  refine w_arg (i := 1) (pc := 1209) rfl hL hLL (by omega) (by decide) rfl rfl dL_law_1209 dL_law_1210 dL_law_1212 dL_law_1213 dL_law_1214 ?_
  refine w_aload_n (pc := 1215) (i := 3) dL_law_1215 rfl rfl ?_
  refine w_x (d := 11) (k1 := 1) (n1 := 6) (k2 := K + 47) (n2 := N + 354) (pc := 1216) dL_law_1216 GL_141 (c_L_pass (d := 2) (xs (5 * j + 1)) hp hf) rfl rfl rfl rfl (by omega) (by omega) (fun av h1 q => ?_) (fun E h1 q => by obtain ⟨v, q1, q2⟩ := q; cases q1)
  obtain ⟨x, σ1, f1, rfl, hp1, hr1, hf1, use⟩ := q.use hp hr hf
  show WP 12 (mLaw nm hs) (some (LL, xs)) (K + 47) (N + 354) 1219 [vScr, .ref 0, .ref 27, .ref 92, .int (nI (5 * j)), vU, vU, vU, vU] [.int x] h1 _
  refine w_istore (pc := 1219) (i := 5) (ls' := [vScr, .ref 0, .ref 27, .ref 92, .int (nI (5 * j)), .int x, vU, vU, vU]) dL_law_1219 (Nat.le_of_ble_eq_true rfl) rfl rfl rfl ?_
  refine w_aload_n (pc := 1221) (i := 2) dL_law_1221 rfl rfl ?_
  refine w_arg (i := 1) (pc := 1222) rfl hL hLL (by omega) (by decide) rfl rfl dL_law_1222 dL_law_1223 dL_law_1225 dL_law_1226 dL_law_1227 ?_
  obtain ⟨a1, a2, a3, a4⟩ := use _ _ (ag_pass hS hW hD (xs (5 * j + 1)))
  refine w_vQ2 (d := 11) (k1 := 0) (n1 := 0) (k2 := K + 47) (n2 := N + 354) (pc := 1228) dL_law_1228 GL_143 hr1.1.1 (c_X4_pass (d := 6) (xs (5 * j + 1)) hr1 hS.c0 hS.c1 hS.tb hS.makeOk (passesOk hS hW hD)) rfl rfl rfl rfl (by omega) (by omega) (fun v h2 q2 => ?_)
  obtain ⟨rfl, hr2, ho2⟩ := q2
  exact w_room (k := K) (n := N) (by omega) (by omega) (w_tail (q := 1231) hr2 (ho2 92 _ (by omega) hf1) a1 a2 dL_law_1231 dL_law_1233 dL_law_1234 dL_law_1237 dL_law_1239 dL_law_1244 dL_law_1246 dL_law_1249 dL_law_1250 dL_law_1251 dL_law_1252 dL_law_1254 dL_law_1255 dL_law_1256 dL_law_1261 (by decide) (kk _ (LI.of (hp1.keep (fun i y hi e => ho2 i y (by omega) e)) hr2 (ho2 92 _ (by omega) hf1) a3 a4)))
set_option maxHeartbeats 1000000 in
theorem s_breaks (hI : LI D h) (hD : D ≤ 90000) (hL : 5 * j + 5 ≤ LL) (hLL : LL ≤ 2560) (kk : ∀ h1, LI (D + 40) h1 → WP 12 (mLaw nm hs) (some (LL, xs)) K N 1524 [vScr, .ref 0, .ref 27, .ref 92, .int (nI (5 * j)), vU, vU, vU, vU] [] h1 P) : WP 12 (mLaw nm hs) (some (LL, xs)) (K + 48) (N + 360) 1264 [vScr, .ref 0, .ref 27, .ref 92, .int (nI (5 * j)), vU, vU, vU, vU] [] h P := by
  obtain ⟨σ, μ, τ, t, f, hp, hr, hf, hS, hW⟩ := hI
  refine w_aload_n (pc := 1264) (i := 1) dL_law_1264 rfl rfl ?_
  refine w_arg (i := 1) (pc := 1265) rfl hL hLL (by omega) (by decide) rfl rfl dL_law_1265 dL_law_1266 dL_law_1268 dL_law_1269 dL_law_1270 ?_
  refine w_arg (i := 2) (pc := 1271) rfl hL hLL (by omega) (by decide) rfl rfl dL_law_1271 dL_law_1272 dL_law_1274 dL_law_1275 dL_law_1276 ?_
  refine w_aload_n (pc := 1277) (i := 3) dL_law_1277 rfl rfl ?_
  refine w_x (d := 11) (k1 := 2) (n1 := 12) (k2 := K + 46) (n2 := N + 348) (pc := 1278) dL_law_1278 GL_144 (c_L_breaks (d := 2) (xs (5 * j + 1)) (xs (5 * j + 2)) hp hf) rfl rfl rfl rfl (by omega) (by omega) (fun av h1 q => ?_) (fun E h1 q => by obtain ⟨v, q1, q2⟩ := q; cases q1)
  obtain ⟨x, σ1, f1, rfl, hp1, hr1, hf1, use⟩ := q.use hp hr hf
  show WP 12 (mLaw nm hs) (some (LL, xs)) (K + 46) (N + 348) 1281 [vScr, .ref 0, .ref 27, .ref 92, .int (nI (5 * j)), vU, vU, vU, vU] [.int x] h1 _
  refine w_istore (pc := 1281) (i := 5) (ls' := [vScr, .ref 0, .ref 27, .ref 92, .int (nI (5 * j)), .int x, vU, vU, vU]) dL_law_1281 (Nat.le_of_ble_eq_true rfl) rfl rfl rfl ?_
  refine w_aload_n (pc := 1283) (i := 2) dL_law_1283 rfl rfl ?_
  refine w_arg (i := 1) (pc := 1284) rfl hL hLL (by omega) (by decide) rfl rfl dL_law_1284 dL_law_1285 dL_law_1287 dL_law_1288 dL_law_1289 ?_
  refine w_arg (i := 2) (pc := 1290) rfl hL hLL (by omega) (by decide) rfl rfl dL_law_1290 dL_law_1291 dL_law_1293 dL_law_1294 dL_law_1295 ?_
  obtain ⟨a1, a2, a3, a4⟩ := use _ _ (ag_breaks hS hW (xs (5 * j + 1)) (xs (5 * j + 2)))
  refine w_vQ2 (d := 11) (k1 := 0) (n1 := 0) (k2 := K + 46) (n2 := N + 348) (pc := 1296) dL_law_1296 GL_146 hr1.1.1 (c_X4_breaks (d := 6) (xs (5 * j + 1)) (xs (5 * j + 2)) hr1 hS.c0 hS.c1 hS.tb) rfl rfl rfl rfl (by omega) (by omega) (fun v h2 q2 => ?_)
  obtain ⟨rfl, hr2, ho2⟩ := q2
  exact w_room (k := K) (n := N) (by omega) (by omega) (w_tail (q := 1299) hr2 (ho2 92 _ (by omega) hf1) a1 a2 dL_law_1299 dL_law_1301 dL_law_1302 dL_law_1305 dL_law_1307 dL_law_1312 dL_law_1314 dL_law_1317 dL_law_1318 dL_law_1319 dL_law_1320 dL_law_1322 dL_law_1323 dL_law_1324 dL_law_1329 (by decide) (kk _ (LI.of (hp1.keep (fun i y hi e => ho2 i y (by omega) e)) hr2 (ho2 92 _ (by omega) hf1) a3 a4)))
set_option maxHeartbeats 1000000 in
theorem s_advise (hI : LI D h) (hD : D ≤ 90000) (hL : 5 * j + 5 ≤ LL) (hLL : LL ≤ 2560) (kk : ∀ h1, LI (D + 40) h1 → WP 12 (mLaw nm hs) (some (LL, xs)) K N 1524 [vScr, .ref 0, .ref 27, .ref 92, .int (nI (5 * j)), vU, vU, vU, vU] [] h1 P) : WP 12 (mLaw nm hs) (some (LL, xs)) (K + 48) (N + 360) 1332 [vScr, .ref 0, .ref 27, .ref 92, .int (nI (5 * j)), vU, vU, vU, vU] [] h P := by
  obtain ⟨σ, μ, τ, t, f, hp, hr, hf, hS, hW⟩ := hI
  refine w_aload_n (pc := 1332) (i := 1) dL_law_1332 rfl rfl ?_
  refine w_vI (d := 11) (pc := 1333) dL_law_1333 GL_147 hp.1 (c_X2_advise (d := 3) hp) rfl rfl rfl rfl ?_
  refine w_aload_n (pc := 1336) (i := 2) dL_law_1336 rfl rfl ?_
  refine w_vQ2 (d := 11) (k1 := 0) (n1 := 0) (k2 := K + 48) (n2 := N + 360) (pc := 1337) dL_law_1337 GL_150 hr.1.1 (c_X4_advise (d := 6) hr hS.c0 hS.c1 hS.tb) rfl rfl rfl rfl (by omega) (by omega) (fun v h2 q2 => ?_)
  obtain ⟨rfl, hr2, ho2⟩ := q2
  show WP 12 (mLaw nm hs) (some (LL, xs)) (K + 48) (N + 360) 1340 [vScr, .ref 0, .ref 27, .ref 92, .int (nI (5 * j)), vU, vU, vU, vU] [.int (rAdvise τ), .int (kAdvise σ)] h2 _
  refine w_icmp_eq (pc := 1340) (tgt := 1524) dL_law_1340 (by decide) (fun _ => ?_) (fun c => absurd hS.advise c)
  exact w_room (k := K) (n := N) (by omega) (by omega) (kk _ (LI.of (hp.keep (fun i y hi e => ho2 i y (by omega) e)) hr2 (ho2 92 _ (by omega) hf) (hS.mono (by omega)) hW))
set_option maxHeartbeats 1000000 in
theorem s_ready (hI : LI D h) (hD : D ≤ 90000) (hL : 5 * j + 5 ≤ LL) (hLL : LL ≤ 2560) (kk : ∀ h1, LI (D + 40) h1 → WP 12 (mLaw nm hs) (some (LL, xs)) K N 1524 [vScr, .ref 0, .ref 27, .ref 92, .int (nI (5 * j)), vU, vU, vU, vU] [] h1 P) : WP 12 (mLaw nm hs) (some (LL, xs)) (K + 48) (N + 360) 1345 [vScr, .ref 0, .ref 27, .ref 92, .int (nI (5 * j)), vU, vU, vU, vU] [] h P := by
  obtain ⟨σ, μ, τ, t, f, hp, hr, hf, hS, hW⟩ := hI
  refine w_aload_n (pc := 1345) (i := 1) dL_law_1345 rfl rfl ?_
  refine w_arg (i := 1) (pc := 1346) rfl hL hLL (by omega) (by decide) rfl rfl dL_law_1346 dL_law_1347 dL_law_1349 dL_law_1350 dL_law_1351 ?_
  refine w_aload_n (pc := 1352) (i := 3) dL_law_1352 rfl rfl ?_
  obtain ⟨φ, hct⟩ := c_L_ready (d := 2) (xs (5 * j + 1)) hp hf
  refine w_x (d := 11) (k1 := 1) (n1 := 6) (k2 := K + 47) (n2 := N + 354) (pc := 1353) dL_law_1353 GL_151 hct rfl rfl rfl rfl (by omega) (by omega) (fun av h1 q => ?_) (fun E h1 q => by obtain ⟨v, q1, q2⟩ := q; cases q1)
  obtain ⟨x, σ1, f1, rfl, hp1, hr1, hf1, use⟩ := q.use hp hr hf
  show WP 12 (mLaw nm hs) (some (LL, xs)) (K + 47) (N + 354) 1356 [vScr, .ref 0, .ref 27, .ref 92, .int (nI (5 * j)), vU, vU, vU, vU] [.int x] h1 _
  refine w_istore (pc := 1356) (i := 5) (ls' := [vScr, .ref 0, .ref 27, .ref 92, .int (nI (5 * j)), .int x, vU, vU, vU]) dL_law_1356 (Nat.le_of_ble_eq_true rfl) rfl rfl rfl ?_
  refine w_aload_n (pc := 1358) (i := 2) dL_law_1358 rfl rfl ?_
  refine w_arg (i := 1) (pc := 1359) rfl hL hLL (by omega) (by decide) rfl rfl dL_law_1359 dL_law_1360 dL_law_1362 dL_law_1363 dL_law_1364 ?_
  obtain ⟨α, hct2⟩ := c_X4_ready (d := 6) (xs (5 * j + 1)) hr1 hS.c0 hS.c1 hS.tb
  obtain ⟨NN, g1, g2⟩ := ag_ready (φ := φ) (α := α) hS hW hD (xs (5 * j + 1))
  obtain ⟨a1, a2, a3, a4⟩ := use _ _ g2
  refine w_vQ2 (d := 11) (k1 := 0) (n1 := 0) (k2 := K + 47) (n2 := N + 354) (pc := 1365) dL_law_1365 GL_153 hr1.1.1 (hct2 NN g1) rfl rfl rfl rfl (by omega) (by omega) (fun v h2 q2 => ?_)
  obtain ⟨rfl, hr2, ho2⟩ := q2
  exact w_room (k := K) (n := N) (by omega) (by omega) (w_tail (q := 1368) hr2 (ho2 92 _ (by omega) hf1) a1 a2 dL_law_1368 dL_law_1370 dL_law_1371 dL_law_1374 dL_law_1376 dL_law_1381 dL_law_1383 dL_law_1386 dL_law_1387 dL_law_1388 dL_law_1389 dL_law_1391 dL_law_1392 dL_law_1393 dL_law_1398 (by decide) (kk _ (LI.of (hp1.keep (fun i y hi e => ho2 i y (by omega) e)) hr2 (ho2 92 _ (by omega) hf1) a3 a4)))
set_option maxHeartbeats 1000000 in
theorem s_foresee (hI : LI D h) (hD : D ≤ 90000) (hL : 5 * j + 5 ≤ LL) (hLL : LL ≤ 2560) (kk : ∀ h1, LI (D + 40) h1 → WP 12 (mLaw nm hs) (some (LL, xs)) K N 1524 [vScr, .ref 0, .ref 27, .ref 92, .int (nI (5 * j)), vU, vU, vU, vU] [] h1 P) : WP 12 (mLaw nm hs) (some (LL, xs)) (K + 48) (N + 360) 1401 [vScr, .ref 0, .ref 27, .ref 92, .int (nI (5 * j)), vU, vU, vU, vU] [] h P := by
  obtain ⟨σ, μ, τ, t, f, hp, hr, hf, hS, hW⟩ := hI
  refine w_aload_n (pc := 1401) (i := 1) dL_law_1401 rfl rfl ?_
  refine w_arg (i := 1) (pc := 1402) rfl hL hLL (by omega) (by decide) rfl rfl dL_law_1402 dL_law_1403 dL_law_1405 dL_law_1406 dL_law_1407 ?_
  refine w_arg (i := 2) (pc := 1408) rfl hL hLL (by omega) (by decide) rfl rfl dL_law_1408 dL_law_1409 dL_law_1411 dL_law_1412 dL_law_1413 ?_
  refine w_aload_n (pc := 1414) (i := 3) dL_law_1414 rfl rfl ?_
  obtain ⟨φ, hct⟩ := c_L_foresee (d := 2) (xs (5 * j + 1)) (xs (5 * j + 2)) hp hf
  refine w_x (d := 11) (k1 := 2) (n1 := 12) (k2 := K + 46) (n2 := N + 348) (pc := 1415) dL_law_1415 GL_154 hct rfl rfl rfl rfl (by omega) (by omega) (fun av h1 q => ?_) (fun E h1 q => by obtain ⟨v, q1, q2⟩ := q; cases q1)
  obtain ⟨x, σ1, f1, rfl, hp1, hr1, hf1, use⟩ := q.use hp hr hf
  show WP 12 (mLaw nm hs) (some (LL, xs)) (K + 46) (N + 348) 1418 [vScr, .ref 0, .ref 27, .ref 92, .int (nI (5 * j)), vU, vU, vU, vU] [.int x] h1 _
  refine w_istore (pc := 1418) (i := 5) (ls' := [vScr, .ref 0, .ref 27, .ref 92, .int (nI (5 * j)), .int x, vU, vU, vU]) dL_law_1418 (Nat.le_of_ble_eq_true rfl) rfl rfl rfl ?_
  refine w_aload_n (pc := 1420) (i := 2) dL_law_1420 rfl rfl ?_
  refine w_arg (i := 1) (pc := 1421) rfl hL hLL (by omega) (by decide) rfl rfl dL_law_1421 dL_law_1422 dL_law_1424 dL_law_1425 dL_law_1426 ?_
  refine w_arg (i := 2) (pc := 1427) rfl hL hLL (by omega) (by decide) rfl rfl dL_law_1427 dL_law_1428 dL_law_1430 dL_law_1431 dL_law_1432 ?_
  obtain ⟨α, hct2⟩ := c_X4_foresee (d := 6) (xs (5 * j + 1)) (xs (5 * j + 2)) hr1
  obtain ⟨a1, a2, a3, a4⟩ := use _ _ (ag_foresee (φ := φ) (α := α) hS hW hD (xs (5 * j + 1)) (xs (5 * j + 2)))
  refine w_vQ2 (d := 11) (k1 := 1) (n1 := 12) (k2 := K + 45) (n2 := N + 336) (pc := 1433) dL_law_1433 GL_156 hr1.1.1 (hct2 (foreseeOk (α := α) hS hD).1 (foreseeOk (α := α) hS hD).2) rfl rfl rfl rfl (by omega) (by omega) (fun v h2 q2 => ?_)
  obtain ⟨rfl, hr2, ho2⟩ := q2
  exact w_room (k := K) (n := N) (by omega) (by omega) (w_tail (q := 1436) hr2 (ho2 92 _ (by omega) hf1) a1 a2 dL_law_1436 dL_law_1438 dL_law_1439 dL_law_1442 dL_law_1444 dL_law_1449 dL_law_1451 dL_law_1454 dL_law_1455 dL_law_1456 dL_law_1457 dL_law_1459 dL_law_1460 dL_law_1461 dL_law_1466 (by decide) (kk _ (LI.of (hp1.keep (fun i y hi e => ho2 i y (by omega) e)) hr2 (ho2 92 _ (by omega) hf1) a3 a4)))
set_option maxHeartbeats 1000000 in
theorem s_mean (hI : LI D h) (hD : D ≤ 90000) (hL : 5 * j + 5 ≤ LL) (hLL : LL ≤ 2560) (kk : ∀ h1, LI (D + 40) h1 → WP 12 (mLaw nm hs) (some (LL, xs)) K N 1524 [vScr, .ref 0, .ref 27, .ref 92, .int (nI (5 * j)), vU, vU, vU, vU] [] h1 P) : WP 12 (mLaw nm hs) (some (LL, xs)) (K + 48) (N + 360) 1469 [vScr, .ref 0, .ref 27, .ref 92, .int (nI (5 * j)), vU, vU, vU, vU] [] h P := by
  obtain ⟨σ, μ, τ, t, f, hp, hr, hf, hS, hW⟩ := hI
  refine w_aload_n (pc := 1469) (i := 1) dL_law_1469 rfl rfl ?_
  refine w_vO (d := 11) (pc := 1470) dL_law_1470 GL_157 hp.1 (c_X2_mean (d := 3) hp) rfl rfl rfl rfl ?_
  refine w_dstore (pc := 1473) (i := 5) (ls' := [vScr, .ref 0, .ref 27, .ref 92, .int (nI (5 * j)), .double (kMean σ), vU, vU, vU]) dL_law_1473 (Nat.le_of_ble_eq_true rfl) rfl rfl rfl ?_
  refine w_aload_n (pc := 1475) (i := 2) dL_law_1475 rfl rfl ?_
  refine w_vQ2 (d := 11) (k1 := 0) (n1 := 0) (k2 := K + 48) (n2 := N + 360) (pc := 1476) dL_law_1476 GL_161 hr.1.1 (c_X4_mean (d := 6) hr hS.c0 hS.c1 hS.tb) rfl rfl rfl rfl (by omega) (by omega) (fun v h2 q2 => ?_)
  obtain ⟨rfl, hr2, ho2⟩ := q2
  rw [← hS.mean]
  show WP 12 (mLaw nm hs) (some (LL, xs)) (K + 48) (N + 360) 1479 [vScr, .ref 0, .ref 27, .ref 92, .int (nI (5 * j)), .double (kMean σ), vU, vU, vU] [.double (kMean σ)] h2 _
  refine w_dstore (pc := 1479) (i := 7) (ls' := [vScr, .ref 0, .ref 27, .ref 92, .int (nI (5 * j)), .double (kMean σ), vU, .double (kMean σ), vU]) dL_law_1479 (Nat.le_of_ble_eq_true rfl) rfl rfl rfl ?_
  have kk2 : WP 12 (mLaw nm hs) (some (LL, xs)) (K + 48) (N + 360) 1507 [vScr, .ref 0, .ref 27, .ref 92, .int (nI (5 * j)), .double (kMean σ), vU, .double (kMean σ), vU] [] h2 P := by
    refine w_goto (pc := 1507) (tgt := 1524) dL_law_1507 (by decide) ?_
    refine w_forget 5 (ls' := [vScr, .ref 0, .ref 27, .ref 92, .int (nI (5 * j)), vU, vU, .double (kMean σ), vU]) rfl ?_
    refine w_forget 7 (ls' := [vScr, .ref 0, .ref 27, .ref 92, .int (nI (5 * j)), vU, vU, vU, vU]) rfl ?_
    exact w_room (k := K) (n := N) (by omega) (by omega) (kk _ (LI.of (hp.keep (fun i y hi e => ho2 i y (by omega) e)) hr2 (ho2 92 _ (by omega) hf) (hS.mono (by omega)) hW))
  refine w_dload (pc := 1481) dL_law_1481 rfl ?_
  refine w_dload (pc := 1483) dL_law_1483 rfl ?_
  refine w_dcmp (pc := 1485) dL_law_1485 ?_
  refine w_if_eq (pc := 1486) (tgt := 1507) dL_law_1486 (by decide) (fun _ => kk2) (fun c9 => ?_)
  refine w_dload (pc := 1489) dL_law_1489 rfl ?_
  refine w_dload (pc := 1491) dL_law_1491 rfl ?_
  refine w_dcmp (pc := 1493) dL_law_1493 ?_
  refine w_if_eq (pc := 1494) (tgt := 1505) dL_law_1494 (by decide) (fun c8 => absurd c8 c9) (fun _ => ?_)
  refine w_dload (pc := 1497) dL_law_1497 rfl ?_
  refine w_dload (pc := 1499) dL_law_1499 rfl ?_
  refine w_dcmp (pc := 1501) dL_law_1501 ?_
  exact w_if_ne (pc := 1502) (tgt := 1507) dL_law_1502 (by decide) (fun _ => kk2) (fun c8 => absurd c8 c9)
set_option maxHeartbeats 1000000 in
theorem s_digest (hI : LI D h) (hD : D ≤ 90000) (hL : 5 * j + 5 ≤ LL) (hLL : LL ≤ 2560) (kk : ∀ h1, LI (D + 40) h1 → WP 12 (mLaw nm hs) (some (LL, xs)) K N 1524 [vScr, .ref 0, .ref 27, .ref 92, .int (nI (5 * j)), vU, vU, vU, vU] [] h1 P) : WP 12 (mLaw nm hs) (some (LL, xs)) (K + 48) (N + 360) 1510 [vScr, .ref 0, .ref 27, .ref 92, .int (nI (5 * j)), vU, vU, vU, vU] [] h P := by
  obtain ⟨σ, μ, τ, t, f, hp, hr, hf, hS, hW⟩ := hI
  refine w_aload_n (pc := 1510) (i := 1) dL_law_1510 rfl rfl ?_
  refine w_vO (d := 11) (pc := 1511) dL_law_1511 GL_162 hp.1 (c_X2_digest (d := 3) hp) rfl rfl rfl rfl ?_
  refine w_aload_n (pc := 1514) (i := 2) dL_law_1514 rfl rfl ?_
  refine w_vQ2 (d := 11) (k1 := 48) (n1 := 360) (k2 := K) (n2 := N) (pc := 1515) dL_law_1515 GL_166 hr.1.1 (c_X4_digest (d := 6) hr hS.c0 hS.c1 hS.tb) rfl rfl rfl rfl (by omega) (by omega) (fun v h2 q2 => ?_)
  obtain ⟨rfl, hr2, ho2⟩ := q2
  show WP 12 (mLaw nm hs) (some (LL, xs)) K N 1518 [vScr, .ref 0, .ref 27, .ref 92, .int (nI (5 * j)), vU, vU, vU, vU] [.long (rDig μ τ), .long (kDig σ)] h2 _
  refine w_lcmp (pc := 1518) dL_law_1518 ?_
  refine w_if_eq (pc := 1519) (tgt := 1524) dL_law_1519 (by decide) (fun _ => ?_) (fun c => absurd (by rw [hS.digest]; exact lg_self _) c)
  exact kk _ (LI.of (hp.keep (fun i y hi e => ho2 i y (by omega) e)) hr2 (ho2 92 _ (by omega) hf) (hS.mono (by omega)) hW)
end LAWC
