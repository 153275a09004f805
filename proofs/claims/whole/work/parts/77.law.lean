/-! THE LAW: its cases -/
section LAW
variable {xs : List Int32} {d y pc nx : Nat} {K : List Value} {S : x_M} {Q : Option Value → x_M → Prop} {i : Nat}
/-- 'script[i + j]' -/
theorem l_arg {j : Nat} {n : Int} {p1 p2 p3 p4 : Nat} (f1 : x_fe y pc = some (.aload 0, p1)) (f2 : x_fe y p1 = some (.iload 3, p2)) (f3 : x_fe y p2 = some (.iconst n, p3)) (f4 : x_fe y p3 = some (.iadd, p4)) (f5 : x_fe y p4 = some (.iaload, nx)) (hn : Int32.ofInt n = nI j) (hi : i + j < xs.length) (hL : xs.length ≤ 384) (k : x_E xs d y nx [.ref 0, .ref 8, .ref 56, .int (nI i)] (.int (x_oa xs 0 (i + j)) :: K) S Q) : x_E xs d y pc [.ref 0, .ref 8, .ref 56, .int (nI i)] K S Q := by
  refine e_aload f1 rfl (by decide) (e_iload f2 rfl (e_iconst f3 hn (e_iadd f4 ?_)))
  rw [nI_add]
  have hx : x_ib (nI (i + j)) (x_ol xs 0) := x_ib_n (show i + j < xs.length from hi) (by show xs.length < 2 ^ 31; omega)
  refine e_iao f5 (by omega) hx ?_
  rw [nI_clamp (by omega)]
  exact k
theorem l_case_0 (hL : xs.length ≤ 384) (hi : i + 6 ≤ xs.length) (H : x_Inv S) (k : ∀ S1, x_Inv S1 → x_E xs 60 184 997 [.ref 0, .ref 8, .ref 56, .int (nI i)] [] S1 Q) : x_E xs 60 184 156 [.ref 0, .ref 8, .ref 56, .int (nI i)] [] S Q := by
  refine e_aload f_184_156 rfl (by decide) ?_
  refine l_arg (j := 1) f_184_157 f_184_158 f_184_159 f_184_160 f_184_161 (by decide) (by omega) hL ?_
  refine l_arg (j := 2) f_184_162 f_184_163 f_184_164 f_184_165 f_184_166 (by decide) (by omega) hL ?_
  refine l_arg (j := 3) f_184_167 f_184_168 f_184_169 f_184_170 f_184_171 (by decide) (by omega) hL ?_
  refine e_vi (n := 4) (A := [.ref 8, .int (x_oa xs 0 (i + 1)), .int (x_oa xs 0 (i + 2)), .int (x_oa xs 0 (i + 3))]) (R := []) f_184_172 na_43 rfl rfl (Nat.le_of_ble_eq_true rfl) (Nat.le_of_ble_eq_true rfl) (by rw [ml_43]; exact Nat.le_of_ble_eq_true rfl) rfl (by rw [cy_43]; decide) (by rw [cy_43]; exact (by decide : x_tg 8 = 5)) (o_row (d := 56) H) (fun v S1 hp => ?_)
  refine e_aload f_184_175 rfl (by decide) ?_
  refine l_arg (j := 1) f_184_176 f_184_177 f_184_178 f_184_179 f_184_180 (by decide) (by omega) hL ?_
  refine l_arg (j := 2) f_184_181 f_184_182 f_184_183 f_184_184 f_184_185 (by decide) (by omega) hL ?_
  refine l_arg (j := 3) f_184_186 f_184_187 f_184_188 f_184_189 f_184_190 (by decide) (by omega) hL ?_
  refine e_vi (n := 4) (A := [.ref 56, .int (x_oa xs 0 (i + 1)), .int (x_oa xs 0 (i + 2)), .int (x_oa xs 0 (i + 3))]) (R := [.int v]) f_184_191 na_99 rfl rfl (Nat.le_of_ble_eq_true rfl) (Nat.le_of_ble_eq_true rfl) (by rw [ml_99]; exact Nat.le_of_ble_eq_true rfl) rfl (by rw [cy_99]; decide) (by rw [cy_99]; exact (by decide : x_tg 56 = 6)) hp (fun w S2 hq => ?_)
  obtain ⟨rfl, H2⟩ := hq
  exact e_icmp f_184_194 (fun _ => k S2 H2) (fun z => absurd (by simp [x_cc]) z)
theorem l_case_1 (hL : xs.length ≤ 384) (hi : i + 6 ≤ xs.length) (H : x_Inv S) (k : ∀ S1, x_Inv S1 → x_E xs 60 184 997 [.ref 0, .ref 8, .ref 56, .int (nI i)] [] S1 Q) : x_E xs 60 184 199 [.ref 0, .ref 8, .ref 56, .int (nI i)] [] S Q := by
  refine e_aload f_184_199 rfl (by decide) ?_
  refine l_arg (j := 1) f_184_200 f_184_201 f_184_202 f_184_203 f_184_204 (by decide) (by omega) hL ?_
  refine l_arg (j := 2) f_184_205 f_184_206 f_184_207 f_184_208 f_184_209 (by decide) (by omega) hL ?_
  refine l_arg (j := 3) f_184_210 f_184_211 f_184_212 f_184_213 f_184_214 (by decide) (by omega) hL ?_
  refine e_vi (n := 4) (A := [.ref 8, .int (x_oa xs 0 (i + 1)), .int (x_oa xs 0 (i + 2)), .int (x_oa xs 0 (i + 3))]) (R := []) f_184_215 na_47 rfl rfl (Nat.le_of_ble_eq_true rfl) (Nat.le_of_ble_eq_true rfl) (by rw [ml_47]; exact Nat.le_of_ble_eq_true rfl) rfl (by rw [cy_47]; decide) (by rw [cy_47]; exact (by decide : x_tg 8 = 5)) (o_set (d := 56) H) (fun v S1 hp => ?_)
  refine e_aload f_184_218 rfl (by decide) ?_
  refine l_arg (j := 1) f_184_219 f_184_220 f_184_221 f_184_222 f_184_223 (by decide) (by omega) hL ?_
  refine l_arg (j := 2) f_184_224 f_184_225 f_184_226 f_184_227 f_184_228 (by decide) (by omega) hL ?_
  refine l_arg (j := 3) f_184_229 f_184_230 f_184_231 f_184_232 f_184_233 (by decide) (by omega) hL ?_
  refine e_vi (n := 4) (A := [.ref 56, .int (x_oa xs 0 (i + 1)), .int (x_oa xs 0 (i + 2)), .int (x_oa xs 0 (i + 3))]) (R := [.int v]) f_184_234 na_104 rfl rfl (Nat.le_of_ble_eq_true rfl) (Nat.le_of_ble_eq_true rfl) (by rw [ml_104]; exact Nat.le_of_ble_eq_true rfl) rfl (by rw [cy_104]; decide) (by rw [cy_104]; exact (by decide : x_tg 56 = 6)) hp (fun w S2 hq => ?_)
  obtain ⟨rfl, H2⟩ := hq
  exact e_icmp f_184_237 (fun _ => k S2 H2) (fun z => absurd (by simp [x_cc]) z)
theorem l_case_2 (hL : xs.length ≤ 384) (hi : i + 6 ≤ xs.length) (H : x_Inv S) (k : ∀ S1, x_Inv S1 → x_E xs 60 184 997 [.ref 0, .ref 8, .ref 56, .int (nI i)] [] S1 Q) : x_E xs 60 184 242 [.ref 0, .ref 8, .ref 56, .int (nI i)] [] S Q := by
  refine e_aload f_184_242 rfl (by decide) ?_
  refine l_arg (j := 1) f_184_243 f_184_244 f_184_245 f_184_246 f_184_247 (by decide) (by omega) hL ?_
  refine l_arg (j := 2) f_184_248 f_184_249 f_184_250 f_184_251 f_184_252 (by decide) (by omega) hL ?_
  refine l_arg (j := 3) f_184_253 f_184_254 f_184_255 f_184_256 f_184_257 (by decide) (by omega) hL ?_
  refine l_arg (j := 4) f_184_258 f_184_259 f_184_260 f_184_261 f_184_262 (by decide) (by omega) hL ?_
  refine l_arg (j := 5) f_184_263 f_184_264 f_184_265 f_184_266 f_184_267 (by decide) (by omega) hL ?_
  refine e_vi (n := 6) (A := [.ref 8, .int (x_oa xs 0 (i + 1)), .int (x_oa xs 0 (i + 2)), .int (x_oa xs 0 (i + 3)), .int (x_oa xs 0 (i + 4)), .int (x_oa xs 0 (i + 5))]) (R := []) f_184_268 na_48 rfl rfl (Nat.le_of_ble_eq_true rfl) (Nat.le_of_ble_eq_true rfl) (by rw [ml_48]; exact Nat.le_of_ble_eq_true rfl) rfl (by rw [cy_48]; decide) (by rw [cy_48]; exact (by decide : x_tg 8 = 5)) (o_copy (d := 56) H) (fun v S1 hp => ?_)
  refine e_aload f_184_271 rfl (by decide) ?_
  refine l_arg (j := 1) f_184_272 f_184_273 f_184_274 f_184_275 f_184_276 (by decide) (by omega) hL ?_
  refine l_arg (j := 2) f_184_277 f_184_278 f_184_279 f_184_280 f_184_281 (by decide) (by omega) hL ?_
  refine l_arg (j := 3) f_184_282 f_184_283 f_184_284 f_184_285 f_184_286 (by decide) (by omega) hL ?_
  refine l_arg (j := 4) f_184_287 f_184_288 f_184_289 f_184_290 f_184_291 (by decide) (by omega) hL ?_
  refine l_arg (j := 5) f_184_292 f_184_293 f_184_294 f_184_295 f_184_296 (by decide) (by omega) hL ?_
  refine e_vi (n := 6) (A := [.ref 56, .int (x_oa xs 0 (i + 1)), .int (x_oa xs 0 (i + 2)), .int (x_oa xs 0 (i + 3)), .int (x_oa xs 0 (i + 4)), .int (x_oa xs 0 (i + 5))]) (R := [.int v]) f_184_297 na_105 rfl rfl (Nat.le_of_ble_eq_true rfl) (Nat.le_of_ble_eq_true rfl) (by rw [ml_105]; exact Nat.le_of_ble_eq_true rfl) rfl (by rw [cy_105]; decide) (by rw [cy_105]; exact (by decide : x_tg 56 = 6)) hp (fun w S2 hq => ?_)
  obtain ⟨rfl, H2⟩ := hq
  exact e_icmp f_184_300 (fun _ => k S2 H2) (fun z => absurd (by simp [x_cc]) z)
theorem l_case_3 (hL : xs.length ≤ 384) (hi : i + 6 ≤ xs.length) (H : x_Inv S) (k : ∀ S1, x_Inv S1 → x_E xs 60 184 997 [.ref 0, .ref 8, .ref 56, .int (nI i)] [] S1 Q) : x_E xs 60 184 305 [.ref 0, .ref 8, .ref 56, .int (nI i)] [] S Q := by
  refine e_aload f_184_305 rfl (by decide) ?_
  refine l_arg (j := 1) f_184_306 f_184_307 f_184_308 f_184_309 f_184_310 (by decide) (by omega) hL ?_
  refine e_vi (n := 2) (A := [.ref 8, .int (x_oa xs 0 (i + 1))]) (R := []) f_184_311 na_49 rfl rfl (Nat.le_of_ble_eq_true rfl) (Nat.le_of_ble_eq_true rfl) (by rw [ml_49]; exact Nat.le_of_ble_eq_true rfl) rfl (by rw [cy_49]; decide) (by rw [cy_49]; exact (by decide : x_tg 8 = 5)) (o_drop (d := 56) H) (fun v S1 hp => ?_)
  refine e_aload f_184_314 rfl (by decide) ?_
  refine l_arg (j := 1) f_184_315 f_184_316 f_184_317 f_184_318 f_184_319 (by decide) (by omega) hL ?_
  refine e_vi (n := 2) (A := [.ref 56, .int (x_oa xs 0 (i + 1))]) (R := [.int v]) f_184_320 na_107 rfl rfl (Nat.le_of_ble_eq_true rfl) (Nat.le_of_ble_eq_true rfl) (by rw [ml_107]; exact Nat.le_of_ble_eq_true rfl) rfl (by rw [cy_107]; decide) (by rw [cy_107]; exact (by decide : x_tg 56 = 6)) hp (fun w S2 hq => ?_)
  obtain ⟨rfl, H2⟩ := hq
  exact e_icmp f_184_323 (fun _ => k S2 H2) (fun z => absurd (by simp [x_cc]) z)
theorem l_case_4 (hL : xs.length ≤ 384) (hi : i + 6 ≤ xs.length) (H : x_Inv S) (k : ∀ S1, x_Inv S1 → x_E xs 60 184 997 [.ref 0, .ref 8, .ref 56, .int (nI i)] [] S1 Q) : x_E xs 60 184 328 [.ref 0, .ref 8, .ref 56, .int (nI i)] [] S Q := by
  refine e_aload f_184_328 rfl (by decide) ?_
  refine l_arg (j := 1) f_184_329 f_184_330 f_184_331 f_184_332 f_184_333 (by decide) (by omega) hL ?_
  refine e_i2l f_184_334 ?_
  refine e_iconst (c := 32) f_184_335 (by decide) ?_
  refine e_lshl f_184_337 ?_
  refine l_arg (j := 2) f_184_338 f_184_339 f_184_340 f_184_341 f_184_342 (by decide) (by omega) hL ?_
  refine e_i2l f_184_343 ?_
  refine e_lconst (c := 4294967295) f_184_344 (by decide) ?_
  refine e_land f_184_347 ?_
  refine e_lor f_184_348 ?_
  refine l_arg (j := 3) f_184_349 f_184_350 f_184_351 f_184_352 f_184_353 (by decide) (by omega) hL ?_
  refine e_vi (n := 3) (A := [.ref 8, .long (((Int32.toInt64 (x_oa xs 0 (i + 1))) <<< (Int32.toInt64 32 &&& 63)) ||| ((Int32.toInt64 (x_oa xs 0 (i + 2))) &&& 4294967295)), .int (x_oa xs 0 (i + 3))]) (R := []) f_184_354 na_50 rfl rfl (Nat.le_of_ble_eq_true rfl) (Nat.le_of_ble_eq_true rfl) (by rw [ml_50]; exact Nat.le_of_ble_eq_true rfl) rfl (by rw [cy_50]; decide) (by rw [cy_50]; exact (by decide : x_tg 8 = 5)) (o_feed (d := 57) H) (fun v S1 hp => ?_)
  refine e_aload f_184_357 rfl (by decide) ?_
  refine l_arg (j := 1) f_184_358 f_184_359 f_184_360 f_184_361 f_184_362 (by decide) (by omega) hL ?_
  refine e_i2l f_184_363 ?_
  refine e_iconst (c := 32) f_184_364 (by decide) ?_
  refine e_lshl f_184_366 ?_
  refine l_arg (j := 2) f_184_367 f_184_368 f_184_369 f_184_370 f_184_371 (by decide) (by omega) hL ?_
  refine e_i2l f_184_372 ?_
  refine e_lconst (c := 4294967295) f_184_373 (by decide) ?_
  refine e_land f_184_376 ?_
  refine e_lor f_184_377 ?_
  refine l_arg (j := 3) f_184_378 f_184_379 f_184_380 f_184_381 f_184_382 (by decide) (by omega) hL ?_
  refine e_vi (n := 3) (A := [.ref 56, .long (((Int32.toInt64 (x_oa xs 0 (i + 1))) <<< (Int32.toInt64 32 &&& 63)) ||| ((Int32.toInt64 (x_oa xs 0 (i + 2))) &&& 4294967295)), .int (x_oa xs 0 (i + 3))]) (R := [.int v]) f_184_383 na_108 rfl rfl (Nat.le_of_ble_eq_true rfl) (Nat.le_of_ble_eq_true rfl) (by rw [ml_108]; exact Nat.le_of_ble_eq_true rfl) rfl (by rw [cy_108]; decide) (by rw [cy_108]; exact (by decide : x_tg 56 = 6)) hp (fun w S2 hq => ?_)
  obtain ⟨rfl, H2⟩ := hq
  exact e_icmp f_184_386 (fun _ => k S2 H2) (fun z => absurd (by simp [x_cc]) z)
theorem l_case_5 (hL : xs.length ≤ 384) (hi : i + 6 ≤ xs.length) (H : x_Inv S) (k : ∀ S1, x_Inv S1 → x_E xs 60 184 997 [.ref 0, .ref 8, .ref 56, .int (nI i)] [] S1 Q) : x_E xs 60 184 391 [.ref 0, .ref 8, .ref 56, .int (nI i)] [] S Q := by
  refine e_aload f_184_391 rfl (by decide) ?_
  refine e_vi (n := 1) (A := [.ref 8]) (R := []) f_184_392 na_51 rfl rfl (Nat.le_of_ble_eq_true rfl) (Nat.le_of_ble_eq_true rfl) (by rw [ml_51]; exact Nat.le_of_ble_eq_true rfl) rfl (by rw [cy_51]; decide) (by rw [cy_51]; exact (by decide : x_tg 8 = 5)) (o_game (d := 51) H) (fun v S1 hp => ?_)
  refine e_aload f_184_395 rfl (by decide) ?_
  refine e_vi (n := 1) (A := [.ref 56]) (R := [.int v]) f_184_396 na_109 rfl rfl (Nat.le_of_ble_eq_true rfl) (Nat.le_of_ble_eq_true rfl) (by rw [ml_109]; exact Nat.le_of_ble_eq_true rfl) rfl (by rw [cy_109]; decide) (by rw [cy_109]; exact (by decide : x_tg 56 = 6)) hp (fun w S2 hq => ?_)
  obtain ⟨rfl, H2⟩ := hq
  exact e_icmp f_184_399 (fun _ => k S2 H2) (fun z => absurd (by simp [x_cc]) z)
theorem l_case_6 (hL : xs.length ≤ 384) (hi : i + 6 ≤ xs.length) (H : x_Inv S) (k : ∀ S1, x_Inv S1 → x_E xs 60 184 997 [.ref 0, .ref 8, .ref 56, .int (nI i)] [] S1 Q) : x_E xs 60 184 404 [.ref 0, .ref 8, .ref 56, .int (nI i)] [] S Q := by
  refine e_aload f_184_404 rfl (by decide) ?_
  refine e_vi (n := 1) (A := [.ref 8]) (R := []) f_184_405 na_57 rfl rfl (Nat.le_of_ble_eq_true rfl) (Nat.le_of_ble_eq_true rfl) (by rw [ml_57]; exact Nat.le_of_ble_eq_true rfl) rfl (by rw [cy_57]; decide) (by rw [cy_57]; exact (by decide : x_tg 8 = 5)) (o_fault (d := 58) H) (fun v S1 hp => ?_)
  refine e_aload f_184_408 rfl (by decide) ?_
  refine e_vi (n := 1) (A := [.ref 56]) (R := [.int v]) f_184_409 na_123 rfl rfl (Nat.le_of_ble_eq_true rfl) (Nat.le_of_ble_eq_true rfl) (by rw [ml_123]; exact Nat.le_of_ble_eq_true rfl) rfl (by rw [cy_123]; decide) (by rw [cy_123]; exact (by decide : x_tg 56 = 6)) hp (fun w S2 hq => ?_)
  obtain ⟨rfl, H2⟩ := hq
  exact e_icmp f_184_412 (fun _ => k S2 H2) (fun z => absurd (by simp [x_cc]) z)
theorem l_case_7 (hL : xs.length ≤ 384) (hi : i + 6 ≤ xs.length) (H : x_Inv S) (k : ∀ S1, x_Inv S1 → x_E xs 60 184 997 [.ref 0, .ref 8, .ref 56, .int (nI i)] [] S1 Q) : x_E xs 60 184 417 [.ref 0, .ref 8, .ref 56, .int (nI i)] [] S Q := by
  refine e_aload f_184_417 rfl (by decide) ?_
  refine l_arg (j := 1) f_184_418 f_184_419 f_184_420 f_184_421 f_184_422 (by decide) (by omega) hL ?_
  refine l_arg (j := 2) f_184_423 f_184_424 f_184_425 f_184_426 f_184_427 (by decide) (by omega) hL ?_
  refine e_vi (n := 3) (A := [.ref 8, .int (x_oa xs 0 (i + 1)), .int (x_oa xs 0 (i + 2))]) (R := []) f_184_428 na_58 rfl rfl (Nat.le_of_ble_eq_true rfl) (Nat.le_of_ble_eq_true rfl) (by rw [ml_58]; exact Nat.le_of_ble_eq_true rfl) rfl (by rw [cy_58]; decide) (by rw [cy_58]; exact (by decide : x_tg 8 = 5)) (o_holes (d := 56) H) (fun v S1 hp => ?_)
  refine e_aload f_184_431 rfl (by decide) ?_
  refine l_arg (j := 1) f_184_432 f_184_433 f_184_434 f_184_435 f_184_436 (by decide) (by omega) hL ?_
  refine l_arg (j := 2) f_184_437 f_184_438 f_184_439 f_184_440 f_184_441 (by decide) (by omega) hL ?_
  refine e_vi (n := 3) (A := [.ref 56, .int (x_oa xs 0 (i + 1)), .int (x_oa xs 0 (i + 2))]) (R := [.int v]) f_184_442 na_124 rfl rfl (Nat.le_of_ble_eq_true rfl) (Nat.le_of_ble_eq_true rfl) (by rw [ml_124]; exact Nat.le_of_ble_eq_true rfl) rfl (by rw [cy_124]; decide) (by rw [cy_124]; exact (by decide : x_tg 56 = 6)) hp (fun w S2 hq => ?_)
  obtain ⟨rfl, H2⟩ := hq
  exact e_icmp f_184_445 (fun _ => k S2 H2) (fun z => absurd (by simp [x_cc]) z)
theorem l_case_8 (hL : xs.length ≤ 384) (hi : i + 6 ≤ xs.length) (H : x_Inv S) (k : ∀ S1, x_Inv S1 → x_E xs 60 184 997 [.ref 0, .ref 8, .ref 56, .int (nI i)] [] S1 Q) : x_E xs 60 184 450 [.ref 0, .ref 8, .ref 56, .int (nI i)] [] S Q := by
  refine e_aload f_184_450 rfl (by decide) ?_
  refine l_arg (j := 1) f_184_451 f_184_452 f_184_453 f_184_454 f_184_455 (by decide) (by omega) hL ?_
  refine e_vi (n := 2) (A := [.ref 8, .int (x_oa xs 0 (i + 1))]) (R := []) f_184_456 na_61 rfl rfl (Nat.le_of_ble_eq_true rfl) (Nat.le_of_ble_eq_true rfl) (by rw [ml_61]; exact Nat.le_of_ble_eq_true rfl) rfl (by rw [cy_61]; decide) (by rw [cy_61]; exact (by decide : x_tg 8 = 5)) (o_worth (d := 56) H) (fun v S1 hp => ?_)
  refine e_aload f_184_459 rfl (by decide) ?_
  refine l_arg (j := 1) f_184_460 f_184_461 f_184_462 f_184_463 f_184_464 (by decide) (by omega) hL ?_
  refine e_vi (n := 2) (A := [.ref 56, .int (x_oa xs 0 (i + 1))]) (R := [.int v]) f_184_465 na_127 rfl rfl (Nat.le_of_ble_eq_true rfl) (Nat.le_of_ble_eq_true rfl) (by rw [ml_127]; exact Nat.le_of_ble_eq_true rfl) rfl (by rw [cy_127]; decide) (by rw [cy_127]; exact (by decide : x_tg 56 = 6)) hp (fun w S2 hq => ?_)
  obtain ⟨rfl, H2⟩ := hq
  exact e_icmp f_184_468 (fun _ => k S2 H2) (fun z => absurd (by simp [x_cc]) z)
theorem l_case_9 (hL : xs.length ≤ 384) (hi : i + 6 ≤ xs.length) (H : x_Inv S) (k : ∀ S1, x_Inv S1 → x_E xs 60 184 997 [.ref 0, .ref 8, .ref 56, .int (nI i)] [] S1 Q) : x_E xs 60 184 473 [.ref 0, .ref 8, .ref 56, .int (nI i)] [] S Q := by
  refine e_aload f_184_473 rfl (by decide) ?_
  refine l_arg (j := 1) f_184_474 f_184_475 f_184_476 f_184_477 f_184_478 (by decide) (by omega) hL ?_
  refine l_arg (j := 2) f_184_479 f_184_480 f_184_481 f_184_482 f_184_483 (by decide) (by omega) hL ?_
  refine e_vi (n := 3) (A := [.ref 8, .int (x_oa xs 0 (i + 1)), .int (x_oa xs 0 (i + 2))]) (R := []) f_184_484 na_63 rfl rfl (Nat.le_of_ble_eq_true rfl) (Nat.le_of_ble_eq_true rfl) (by rw [ml_63]; exact Nat.le_of_ble_eq_true rfl) rfl (by rw [cy_63]; decide) (by rw [cy_63]; exact (by decide : x_tg 8 = 5)) (o_play (d := 55) H) (fun v S1 hp => ?_)
  refine e_aload f_184_487 rfl (by decide) ?_
  refine l_arg (j := 1) f_184_488 f_184_489 f_184_490 f_184_491 f_184_492 (by decide) (by omega) hL ?_
  refine l_arg (j := 2) f_184_493 f_184_494 f_184_495 f_184_496 f_184_497 (by decide) (by omega) hL ?_
  refine e_vi (n := 3) (A := [.ref 56, .int (x_oa xs 0 (i + 1)), .int (x_oa xs 0 (i + 2))]) (R := [.int v]) f_184_498 na_130 rfl rfl (Nat.le_of_ble_eq_true rfl) (Nat.le_of_ble_eq_true rfl) (by rw [ml_130]; exact Nat.le_of_ble_eq_true rfl) rfl (by rw [cy_130]; decide) (by rw [cy_130]; exact (by decide : x_tg 56 = 6)) hp (fun w S2 hq => ?_)
  obtain ⟨rfl, H2⟩ := hq
  exact e_icmp f_184_501 (fun _ => k S2 H2) (fun z => absurd (by simp [x_cc]) z)
theorem l_case_10 (hL : xs.length ≤ 384) (hi : i + 6 ≤ xs.length) (H : x_Inv S) (k : ∀ S1, x_Inv S1 → x_E xs 60 184 997 [.ref 0, .ref 8, .ref 56, .int (nI i)] [] S1 Q) : x_E xs 60 184 506 [.ref 0, .ref 8, .ref 56, .int (nI i)] [] S Q := by
  refine e_aload f_184_506 rfl (by decide) ?_
  refine l_arg (j := 1) f_184_507 f_184_508 f_184_509 f_184_510 f_184_511 (by decide) (by omega) hL ?_
  refine l_arg (j := 2) f_184_512 f_184_513 f_184_514 f_184_515 f_184_516 (by decide) (by omega) hL ?_
  refine l_arg (j := 3) f_184_517 f_184_518 f_184_519 f_184_520 f_184_521 (by decide) (by omega) hL ?_
  refine e_vi (n := 4) (A := [.ref 8, .int (x_oa xs 0 (i + 1)), .int (x_oa xs 0 (i + 2)), .int (x_oa xs 0 (i + 3))]) (R := []) f_184_522 na_64 rfl rfl (Nat.le_of_ble_eq_true rfl) (Nat.le_of_ble_eq_true rfl) (by rw [ml_64]; exact Nat.le_of_ble_eq_true rfl) rfl (by rw [cy_64]; decide) (by rw [cy_64]; exact (by decide : x_tg 8 = 5)) (o_plays (d := 54) H) (fun v S1 hp => ?_)
  refine e_aload f_184_525 rfl (by decide) ?_
  refine l_arg (j := 1) f_184_526 f_184_527 f_184_528 f_184_529 f_184_530 (by decide) (by omega) hL ?_
  refine l_arg (j := 2) f_184_531 f_184_532 f_184_533 f_184_534 f_184_535 (by decide) (by omega) hL ?_
  refine l_arg (j := 3) f_184_536 f_184_537 f_184_538 f_184_539 f_184_540 (by decide) (by omega) hL ?_
  refine e_vi (n := 4) (A := [.ref 56, .int (x_oa xs 0 (i + 1)), .int (x_oa xs 0 (i + 2)), .int (x_oa xs 0 (i + 3))]) (R := [.int v]) f_184_541 na_133 rfl rfl (Nat.le_of_ble_eq_true rfl) (Nat.le_of_ble_eq_true rfl) (by rw [ml_133]; exact Nat.le_of_ble_eq_true rfl) rfl (by rw [cy_133]; decide) (by rw [cy_133]; exact (by decide : x_tg 56 = 6)) hp (fun w S2 hq => ?_)
  obtain ⟨rfl, H2⟩ := hq
  exact e_icmp f_184_544 (fun _ => k S2 H2) (fun z => absurd (by simp [x_cc]) z)
theorem l_case_11 (hL : xs.length ≤ 384) (hi : i + 6 ≤ xs.length) (H : x_Inv S) (k : ∀ S1, x_Inv S1 → x_E xs 60 184 997 [.ref 0, .ref 8, .ref 56, .int (nI i)] [] S1 Q) : x_E xs 60 184 549 [.ref 0, .ref 8, .ref 56, .int (nI i)] [] S Q := by
  refine e_aload f_184_549 rfl (by decide) ?_
  refine l_arg (j := 1) f_184_550 f_184_551 f_184_552 f_184_553 f_184_554 (by decide) (by omega) hL ?_
  refine l_arg (j := 2) f_184_555 f_184_556 f_184_557 f_184_558 f_184_559 (by decide) (by omega) hL ?_
  refine e_vi (n := 3) (A := [.ref 8, .int (x_oa xs 0 (i + 1)), .int (x_oa xs 0 (i + 2))]) (R := []) f_184_560 na_67 rfl rfl (Nat.le_of_ble_eq_true rfl) (Nat.le_of_ble_eq_true rfl) (by rw [ml_67]; exact Nat.le_of_ble_eq_true rfl) rfl (by rw [cy_67]; decide) (by rw [cy_67]; exact (by decide : x_tg 8 = 5)) (o_lots (d := 54) H) (fun v S1 hp => ?_)
  refine e_aload f_184_563 rfl (by decide) ?_
  refine l_arg (j := 1) f_184_564 f_184_565 f_184_566 f_184_567 f_184_568 (by decide) (by omega) hL ?_
  refine l_arg (j := 2) f_184_569 f_184_570 f_184_571 f_184_572 f_184_573 (by decide) (by omega) hL ?_
  refine e_vi (n := 3) (A := [.ref 56, .int (x_oa xs 0 (i + 1)), .int (x_oa xs 0 (i + 2))]) (R := [.int v]) f_184_574 na_135 rfl rfl (Nat.le_of_ble_eq_true rfl) (Nat.le_of_ble_eq_true rfl) (by rw [ml_135]; exact Nat.le_of_ble_eq_true rfl) rfl (by rw [cy_135]; decide) (by rw [cy_135]; exact (by decide : x_tg 56 = 6)) hp (fun w S2 hq => ?_)
  obtain ⟨rfl, H2⟩ := hq
  exact e_icmp f_184_577 (fun _ => k S2 H2) (fun z => absurd (by simp [x_cc]) z)
theorem l_case_12 (hL : xs.length ≤ 384) (hi : i + 6 ≤ xs.length) (H : x_Inv S) (k : ∀ S1, x_Inv S1 → x_E xs 60 184 997 [.ref 0, .ref 8, .ref 56, .int (nI i)] [] S1 Q) : x_E xs 60 184 582 [.ref 0, .ref 8, .ref 56, .int (nI i)] [] S Q := by
  refine e_aload f_184_582 rfl (by decide) ?_
  refine l_arg (j := 1) f_184_583 f_184_584 f_184_585 f_184_586 f_184_587 (by decide) (by omega) hL ?_
  refine e_vi (n := 2) (A := [.ref 8, .int (x_oa xs 0 (i + 1))]) (R := []) f_184_588 na_70 rfl rfl (Nat.le_of_ble_eq_true rfl) (Nat.le_of_ble_eq_true rfl) (by rw [ml_70]; exact Nat.le_of_ble_eq_true rfl) rfl (by rw [cy_70]; decide) (by rw [cy_70]; exact (by decide : x_tg 8 = 5)) (o_now (d := 57) H) (fun v S1 hp => ?_)
  refine e_aload f_184_591 rfl (by decide) ?_
  refine l_arg (j := 1) f_184_592 f_184_593 f_184_594 f_184_595 f_184_596 (by decide) (by omega) hL ?_
  refine e_vi (n := 2) (A := [.ref 56, .int (x_oa xs 0 (i + 1))]) (R := [.int v]) f_184_597 na_137 rfl rfl (Nat.le_of_ble_eq_true rfl) (Nat.le_of_ble_eq_true rfl) (by rw [ml_137]; exact Nat.le_of_ble_eq_true rfl) rfl (by rw [cy_137]; decide) (by rw [cy_137]; exact (by decide : x_tg 56 = 6)) hp (fun w S2 hq => ?_)
  obtain ⟨rfl, H2⟩ := hq
  exact e_icmp f_184_600 (fun _ => k S2 H2) (fun z => absurd (by simp [x_cc]) z)
theorem l_case_13 (hL : xs.length ≤ 384) (hi : i + 6 ≤ xs.length) (H : x_Inv S) (k : ∀ S1, x_Inv S1 → x_E xs 60 184 997 [.ref 0, .ref 8, .ref 56, .int (nI i)] [] S1 Q) : x_E xs 60 184 605 [.ref 0, .ref 8, .ref 56, .int (nI i)] [] S Q := by
  refine e_aload f_184_605 rfl (by decide) ?_
  refine l_arg (j := 1) f_184_606 f_184_607 f_184_608 f_184_609 f_184_610 (by decide) (by omega) hL ?_
  refine e_vi (n := 2) (A := [.ref 8, .int (x_oa xs 0 (i + 1))]) (R := []) f_184_611 na_71 rfl rfl (Nat.le_of_ble_eq_true rfl) (Nat.le_of_ble_eq_true rfl) (by rw [ml_71]; exact Nat.le_of_ble_eq_true rfl) rfl (by rw [cy_71]; decide) (by rw [cy_71]; exact (by decide : x_tg 8 = 5)) (o_best (d := 51) H) (fun v S1 hp => ?_)
  refine e_aload f_184_614 rfl (by decide) ?_
  refine l_arg (j := 1) f_184_615 f_184_616 f_184_617 f_184_618 f_184_619 (by decide) (by omega) hL ?_
  refine e_vi (n := 2) (A := [.ref 56, .int (x_oa xs 0 (i + 1))]) (R := [.int v]) f_184_620 na_139 rfl rfl (Nat.le_of_ble_eq_true rfl) (Nat.le_of_ble_eq_true rfl) (by rw [ml_139]; exact Nat.le_of_ble_eq_true rfl) rfl (by rw [cy_139]; decide) (by rw [cy_139]; exact (by decide : x_tg 56 = 6)) hp (fun w S2 hq => ?_)
  obtain ⟨rfl, H2⟩ := hq
  exact e_icmp f_184_623 (fun _ => k S2 H2) (fun z => absurd (by simp [x_cc]) z)
theorem l_case_14 (hL : xs.length ≤ 384) (hi : i + 6 ≤ xs.length) (H : x_Inv S) (k : ∀ S1, x_Inv S1 → x_E xs 60 184 997 [.ref 0, .ref 8, .ref 56, .int (nI i)] [] S1 Q) : x_E xs 60 184 628 [.ref 0, .ref 8, .ref 56, .int (nI i)] [] S Q := by
  refine e_aload f_184_628 rfl (by decide) ?_
  refine l_arg (j := 1) f_184_629 f_184_630 f_184_631 f_184_632 f_184_633 (by decide) (by omega) hL ?_
  refine l_arg (j := 2) f_184_634 f_184_635 f_184_636 f_184_637 f_184_638 (by decide) (by omega) hL ?_
  refine l_arg (j := 3) f_184_639 f_184_640 f_184_641 f_184_642 f_184_643 (by decide) (by omega) hL ?_
  refine e_vi (n := 4) (A := [.ref 8, .int (x_oa xs 0 (i + 1)), .int (x_oa xs 0 (i + 2)), .int (x_oa xs 0 (i + 3))]) (R := []) f_184_644 na_73 rfl rfl (Nat.le_of_ble_eq_true rfl) (Nat.le_of_ble_eq_true rfl) (by rw [ml_73]; exact Nat.le_of_ble_eq_true rfl) rfl (by rw [cy_73]; decide) (by rw [cy_73]; exact (by decide : x_tg 8 = 5)) (o_mean (d := 55) H) (fun v S1 hp => ?_)
  refine e_aload f_184_647 rfl (by decide) ?_
  refine l_arg (j := 1) f_184_648 f_184_649 f_184_650 f_184_651 f_184_652 (by decide) (by omega) hL ?_
  refine l_arg (j := 2) f_184_653 f_184_654 f_184_655 f_184_656 f_184_657 (by decide) (by omega) hL ?_
  refine l_arg (j := 3) f_184_658 f_184_659 f_184_660 f_184_661 f_184_662 (by decide) (by omega) hL ?_
  refine e_vi (n := 4) (A := [.ref 56, .int (x_oa xs 0 (i + 1)), .int (x_oa xs 0 (i + 2)), .int (x_oa xs 0 (i + 3))]) (R := [.int v]) f_184_663 na_143 rfl rfl (Nat.le_of_ble_eq_true rfl) (Nat.le_of_ble_eq_true rfl) (by rw [ml_143]; exact Nat.le_of_ble_eq_true rfl) rfl (by rw [cy_143]; decide) (by rw [cy_143]; exact (by decide : x_tg 56 = 6)) hp (fun w S2 hq => ?_)
  obtain ⟨rfl, H2⟩ := hq
  exact e_icmp f_184_666 (fun _ => k S2 H2) (fun z => absurd (by simp [x_cc]) z)
theorem l_case_15 (hL : xs.length ≤ 384) (hi : i + 6 ≤ xs.length) (H : x_Inv S) (k : ∀ S1, x_Inv S1 → x_E xs 60 184 997 [.ref 0, .ref 8, .ref 56, .int (nI i)] [] S1 Q) : x_E xs 60 184 671 [.ref 0, .ref 8, .ref 56, .int (nI i)] [] S Q := by
  refine e_aload f_184_671 rfl (by decide) ?_
  refine l_arg (j := 1) f_184_672 f_184_673 f_184_674 f_184_675 f_184_676 (by decide) (by omega) hL ?_
  refine l_arg (j := 2) f_184_677 f_184_678 f_184_679 f_184_680 f_184_681 (by decide) (by omega) hL ?_
  refine e_vi (n := 3) (A := [.ref 8, .int (x_oa xs 0 (i + 1)), .int (x_oa xs 0 (i + 2))]) (R := []) f_184_682 na_76 rfl rfl (Nat.le_of_ble_eq_true rfl) (Nat.le_of_ble_eq_true rfl) (by rw [ml_76]; exact Nat.le_of_ble_eq_true rfl) rfl (by rw [cy_76]; decide) (by rw [cy_76]; exact (by decide : x_tg 8 = 5)) (o_fewest (d := 53) H) (fun v S1 hp => ?_)
  refine e_aload f_184_685 rfl (by decide) ?_
  refine l_arg (j := 1) f_184_686 f_184_687 f_184_688 f_184_689 f_184_690 (by decide) (by omega) hL ?_
  refine l_arg (j := 2) f_184_691 f_184_692 f_184_693 f_184_694 f_184_695 (by decide) (by omega) hL ?_
  refine e_vi (n := 3) (A := [.ref 56, .int (x_oa xs 0 (i + 1)), .int (x_oa xs 0 (i + 2))]) (R := [.int v]) f_184_696 na_145 rfl rfl (Nat.le_of_ble_eq_true rfl) (Nat.le_of_ble_eq_true rfl) (by rw [ml_145]; exact Nat.le_of_ble_eq_true rfl) rfl (by rw [cy_145]; decide) (by rw [cy_145]; exact (by decide : x_tg 56 = 6)) hp (fun w S2 hq => ?_)
  obtain ⟨rfl, H2⟩ := hq
  exact e_icmp f_184_699 (fun _ => k S2 H2) (fun z => absurd (by simp [x_cc]) z)
theorem l_case_16 (hL : xs.length ≤ 384) (hi : i + 6 ≤ xs.length) (H : x_Inv S) (k : ∀ S1, x_Inv S1 → x_E xs 60 184 997 [.ref 0, .ref 8, .ref 56, .int (nI i)] [] S1 Q) : x_E xs 60 184 704 [.ref 0, .ref 8, .ref 56, .int (nI i)] [] S Q := by
  refine e_aload f_184_704 rfl (by decide) ?_
  refine l_arg (j := 1) f_184_705 f_184_706 f_184_707 f_184_708 f_184_709 (by decide) (by omega) hL ?_
  refine e_vi (n := 2) (A := [.ref 8, .int (x_oa xs 0 (i + 1))]) (R := []) f_184_710 na_78 rfl rfl (Nat.le_of_ble_eq_true rfl) (Nat.le_of_ble_eq_true rfl) (by rw [ml_78]; exact Nat.le_of_ble_eq_true rfl) rfl (by rw [cy_78]; decide) (by rw [cy_78]; exact (by decide : x_tg 8 = 5)) (o_triples (d := 56) H) (fun v S1 hp => ?_)
  refine e_aload f_184_713 rfl (by decide) ?_
  refine l_arg (j := 1) f_184_714 f_184_715 f_184_716 f_184_717 f_184_718 (by decide) (by omega) hL ?_
  refine e_vi (n := 2) (A := [.ref 56, .int (x_oa xs 0 (i + 1))]) (R := [.int v]) f_184_719 na_148 rfl rfl (Nat.le_of_ble_eq_true rfl) (Nat.le_of_ble_eq_true rfl) (by rw [ml_148]; exact Nat.le_of_ble_eq_true rfl) rfl (by rw [cy_148]; decide) (by rw [cy_148]; exact (by decide : x_tg 56 = 6)) hp (fun w S2 hq => ?_)
  obtain ⟨rfl, H2⟩ := hq
  exact e_icmp f_184_722 (fun _ => k S2 H2) (fun z => absurd (by simp [x_cc]) z)
theorem l_case_17 (hL : xs.length ≤ 384) (hi : i + 6 ≤ xs.length) (H : x_Inv S) (k : ∀ S1, x_Inv S1 → x_E xs 60 184 997 [.ref 0, .ref 8, .ref 56, .int (nI i)] [] S1 Q) : x_E xs 60 184 727 [.ref 0, .ref 8, .ref 56, .int (nI i)] [] S Q := by
  refine e_aload f_184_727 rfl (by decide) ?_
  refine l_arg (j := 1) f_184_728 f_184_729 f_184_730 f_184_731 f_184_732 (by decide) (by omega) hL ?_
  refine l_arg (j := 2) f_184_733 f_184_734 f_184_735 f_184_736 f_184_737 (by decide) (by omega) hL ?_
  refine e_vi (n := 3) (A := [.ref 8, .int (x_oa xs 0 (i + 1)), .int (x_oa xs 0 (i + 2))]) (R := []) f_184_738 na_80 rfl rfl (Nat.le_of_ble_eq_true rfl) (Nat.le_of_ble_eq_true rfl) (by rw [ml_80]; exact Nat.le_of_ble_eq_true rfl) rfl (by rw [cy_80]; decide) (by rw [cy_80]; exact (by decide : x_tg 8 = 5)) (o_alike (d := 55) H) (fun v S1 hp => ?_)
  refine e_aload f_184_741 rfl (by decide) ?_
  refine l_arg (j := 1) f_184_742 f_184_743 f_184_744 f_184_745 f_184_746 (by decide) (by omega) hL ?_
  refine l_arg (j := 2) f_184_747 f_184_748 f_184_749 f_184_750 f_184_751 (by decide) (by omega) hL ?_
  refine e_vi (n := 3) (A := [.ref 56, .int (x_oa xs 0 (i + 1)), .int (x_oa xs 0 (i + 2))]) (R := [.int v]) f_184_752 na_150 rfl rfl (Nat.le_of_ble_eq_true rfl) (Nat.le_of_ble_eq_true rfl) (by rw [ml_150]; exact Nat.le_of_ble_eq_true rfl) rfl (by rw [cy_150]; decide) (by rw [cy_150]; exact (by decide : x_tg 56 = 6)) hp (fun w S2 hq => ?_)
  obtain ⟨rfl, H2⟩ := hq
  exact e_icmp f_184_755 (fun _ => k S2 H2) (fun z => absurd (by simp [x_cc]) z)
theorem l_case_18 (hL : xs.length ≤ 384) (hi : i + 6 ≤ xs.length) (H : x_Inv S) (k : ∀ S1, x_Inv S1 → x_E xs 60 184 997 [.ref 0, .ref 8, .ref 56, .int (nI i)] [] S1 Q) : x_E xs 60 184 760 [.ref 0, .ref 8, .ref 56, .int (nI i)] [] S Q := by
  refine e_aload f_184_760 rfl (by decide) ?_
  refine l_arg (j := 1) f_184_761 f_184_762 f_184_763 f_184_764 f_184_765 (by decide) (by omega) hL ?_
  refine l_arg (j := 2) f_184_766 f_184_767 f_184_768 f_184_769 f_184_770 (by decide) (by omega) hL ?_
  refine l_arg (j := 3) f_184_771 f_184_772 f_184_773 f_184_774 f_184_775 (by decide) (by omega) hL ?_
  refine e_vi (n := 4) (A := [.ref 8, .int (x_oa xs 0 (i + 1)), .int (x_oa xs 0 (i + 2)), .int (x_oa xs 0 (i + 3))]) (R := []) f_184_776 na_83 rfl rfl (Nat.le_of_ble_eq_true rfl) (Nat.le_of_ble_eq_true rfl) (by rw [ml_83]; exact Nat.le_of_ble_eq_true rfl) rfl (by rw [cy_83]; decide) (by rw [cy_83]; exact (by decide : x_tg 8 = 5)) (o_fit (d := 56) H) (fun v S1 hp => ?_)
  refine e_aload f_184_779 rfl (by decide) ?_
  refine l_arg (j := 1) f_184_780 f_184_781 f_184_782 f_184_783 f_184_784 (by decide) (by omega) hL ?_
  refine l_arg (j := 2) f_184_785 f_184_786 f_184_787 f_184_788 f_184_789 (by decide) (by omega) hL ?_
  refine l_arg (j := 3) f_184_790 f_184_791 f_184_792 f_184_793 f_184_794 (by decide) (by omega) hL ?_
  refine e_vi (n := 4) (A := [.ref 56, .int (x_oa xs 0 (i + 1)), .int (x_oa xs 0 (i + 2)), .int (x_oa xs 0 (i + 3))]) (R := [.int v]) f_184_795 na_154 rfl rfl (Nat.le_of_ble_eq_true rfl) (Nat.le_of_ble_eq_true rfl) (by rw [ml_154]; exact Nat.le_of_ble_eq_true rfl) rfl (by rw [cy_154]; decide) (by rw [cy_154]; exact (by decide : x_tg 56 = 6)) hp (fun w S2 hq => ?_)
  obtain ⟨rfl, H2⟩ := hq
  exact e_icmp f_184_798 (fun _ => k S2 H2) (fun z => absurd (by simp [x_cc]) z)
theorem l_case_19 (hL : xs.length ≤ 384) (hi : i + 6 ≤ xs.length) (H : x_Inv S) (k : ∀ S1, x_Inv S1 → x_E xs 60 184 997 [.ref 0, .ref 8, .ref 56, .int (nI i)] [] S1 Q) : x_E xs 60 184 803 [.ref 0, .ref 8, .ref 56, .int (nI i)] [] S Q := by
  refine e_aload f_184_803 rfl (by decide) ?_
  refine l_arg (j := 1) f_184_804 f_184_805 f_184_806 f_184_807 f_184_808 (by decide) (by omega) hL ?_
  refine e_vi (n := 2) (A := [.ref 8, .int (x_oa xs 0 (i + 1))]) (R := []) f_184_809 na_85 rfl rfl (Nat.le_of_ble_eq_true rfl) (Nat.le_of_ble_eq_true rfl) (by rw [ml_85]; exact Nat.le_of_ble_eq_true rfl) rfl (by rw [cy_85]; decide) (by rw [cy_85]; exact (by decide : x_tg 8 = 5)) (o_image (d := 57) H) (fun v S1 hp => ?_)
  refine e_aload f_184_812 rfl (by decide) ?_
  refine l_arg (j := 1) f_184_813 f_184_814 f_184_815 f_184_816 f_184_817 (by decide) (by omega) hL ?_
  refine e_vi (n := 2) (A := [.ref 56, .int (x_oa xs 0 (i + 1))]) (R := [.int v]) f_184_818 na_156 rfl rfl (Nat.le_of_ble_eq_true rfl) (Nat.le_of_ble_eq_true rfl) (by rw [ml_156]; exact Nat.le_of_ble_eq_true rfl) rfl (by rw [cy_156]; decide) (by rw [cy_156]; exact (by decide : x_tg 56 = 6)) hp (fun w S2 hq => ?_)
  obtain ⟨rfl, H2⟩ := hq
  exact e_icmp f_184_821 (fun _ => k S2 H2) (fun z => absurd (by simp [x_cc]) z)
theorem l_case_20 (hL : xs.length ≤ 384) (hi : i + 6 ≤ xs.length) (H : x_Inv S) (k : ∀ S1, x_Inv S1 → x_E xs 60 184 997 [.ref 0, .ref 8, .ref 56, .int (nI i)] [] S1 Q) : x_E xs 60 184 826 [.ref 0, .ref 8, .ref 56, .int (nI i)] [] S Q := by
  refine e_aload f_184_826 rfl (by decide) ?_
  refine l_arg (j := 1) f_184_827 f_184_828 f_184_829 f_184_830 f_184_831 (by decide) (by omega) hL ?_
  refine e_vi (n := 2) (A := [.ref 8, .int (x_oa xs 0 (i + 1))]) (R := []) f_184_832 na_86 rfl rfl (Nat.le_of_ble_eq_true rfl) (Nat.le_of_ble_eq_true rfl) (by rw [ml_86]; exact Nat.le_of_ble_eq_true rfl) rfl (by rw [cy_86]; decide) (by rw [cy_86]; exact (by decide : x_tg 8 = 5)) (o_restore (d := 55) H) (fun v S1 hp => ?_)
  refine e_aload f_184_835 rfl (by decide) ?_
  refine l_arg (j := 1) f_184_836 f_184_837 f_184_838 f_184_839 f_184_840 (by decide) (by omega) hL ?_
  refine e_vi (n := 2) (A := [.ref 56, .int (x_oa xs 0 (i + 1))]) (R := [.int v]) f_184_841 na_158 rfl rfl (Nat.le_of_ble_eq_true rfl) (Nat.le_of_ble_eq_true rfl) (by rw [ml_158]; exact Nat.le_of_ble_eq_true rfl) rfl (by rw [cy_158]; decide) (by rw [cy_158]; exact (by decide : x_tg 56 = 6)) hp (fun w S2 hq => ?_)
  obtain ⟨rfl, H2⟩ := hq
  exact e_icmp f_184_844 (fun _ => k S2 H2) (fun z => absurd (by simp [x_cc]) z)
theorem l_case_21 (hL : xs.length ≤ 384) (hi : i + 6 ≤ xs.length) (H : x_Inv S) (k : ∀ S1, x_Inv S1 → x_E xs 60 184 997 [.ref 0, .ref 8, .ref 56, .int (nI i)] [] S1 Q) : x_E xs 60 184 849 [.ref 0, .ref 8, .ref 56, .int (nI i)] [] S Q := by
  refine e_aload f_184_849 rfl (by decide) ?_
  refine l_arg (j := 1) f_184_850 f_184_851 f_184_852 f_184_853 f_184_854 (by decide) (by omega) hL ?_
  refine e_vi (n := 2) (A := [.ref 8, .int (x_oa xs 0 (i + 1))]) (R := []) f_184_855 na_87 rfl rfl (Nat.le_of_ble_eq_true rfl) (Nat.le_of_ble_eq_true rfl) (by rw [ml_87]; exact Nat.le_of_ble_eq_true rfl) rfl (by rw [cy_87]; decide) (by rw [cy_87]; exact (by decide : x_tg 8 = 5)) (o_kind (d := 54) H) (fun v S1 hp => ?_)
  refine e_aload f_184_858 rfl (by decide) ?_
  refine l_arg (j := 1) f_184_859 f_184_860 f_184_861 f_184_862 f_184_863 (by decide) (by omega) hL ?_
  refine e_vi (n := 2) (A := [.ref 56, .int (x_oa xs 0 (i + 1))]) (R := [.int v]) f_184_864 na_159 rfl rfl (Nat.le_of_ble_eq_true rfl) (Nat.le_of_ble_eq_true rfl) (by rw [ml_159]; exact Nat.le_of_ble_eq_true rfl) rfl (by rw [cy_159]; decide) (by rw [cy_159]; exact (by decide : x_tg 56 = 6)) hp (fun w S2 hq => ?_)
  obtain ⟨rfl, H2⟩ := hq
  exact e_icmp f_184_867 (fun _ => k S2 H2) (fun z => absurd (by simp [x_cc]) z)
theorem l_case_22 (hL : xs.length ≤ 384) (hi : i + 6 ≤ xs.length) (H : x_Inv S) (k : ∀ S1, x_Inv S1 → x_E xs 60 184 997 [.ref 0, .ref 8, .ref 56, .int (nI i)] [] S1 Q) : x_E xs 60 184 872 [.ref 0, .ref 8, .ref 56, .int (nI i)] [] S Q := by
  refine e_aload f_184_872 rfl (by decide) ?_
  refine l_arg (j := 1) f_184_873 f_184_874 f_184_875 f_184_876 f_184_877 (by decide) (by omega) hL ?_
  refine l_arg (j := 2) f_184_878 f_184_879 f_184_880 f_184_881 f_184_882 (by decide) (by omega) hL ?_
  refine e_vi (n := 3) (A := [.ref 8, .int (x_oa xs 0 (i + 1)), .int (x_oa xs 0 (i + 2))]) (R := []) f_184_883 na_90 rfl rfl (Nat.le_of_ble_eq_true rfl) (Nat.le_of_ble_eq_true rfl) (by rw [ml_90]; exact Nat.le_of_ble_eq_true rfl) rfl (by rw [cy_90]; decide) (by rw [cy_90]; exact (by decide : x_tg 8 = 5)) (o_as (d := 54) H) (fun v S1 hp => ?_)
  refine e_aload f_184_886 rfl (by decide) ?_
  refine l_arg (j := 1) f_184_887 f_184_888 f_184_889 f_184_890 f_184_891 (by decide) (by omega) hL ?_
  refine l_arg (j := 2) f_184_892 f_184_893 f_184_894 f_184_895 f_184_896 (by decide) (by omega) hL ?_
  refine e_vi (n := 3) (A := [.ref 56, .int (x_oa xs 0 (i + 1)), .int (x_oa xs 0 (i + 2))]) (R := [.int v]) f_184_897 na_161 rfl rfl (Nat.le_of_ble_eq_true rfl) (Nat.le_of_ble_eq_true rfl) (by rw [ml_161]; exact Nat.le_of_ble_eq_true rfl) rfl (by rw [cy_161]; decide) (by rw [cy_161]; exact (by decide : x_tg 56 = 6)) hp (fun w S2 hq => ?_)
  obtain ⟨rfl, H2⟩ := hq
  exact e_icmp f_184_900 (fun _ => k S2 H2) (fun z => absurd (by simp [x_cc]) z)
theorem l_case_23 (hL : xs.length ≤ 384) (hi : i + 6 ≤ xs.length) (H : x_Inv S) (k : ∀ S1, x_Inv S1 → x_E xs 60 184 997 [.ref 0, .ref 8, .ref 56, .int (nI i)] [] S1 Q) : x_E xs 60 184 905 [.ref 0, .ref 8, .ref 56, .int (nI i)] [] S Q := by
  refine e_aload f_184_905 rfl (by decide) ?_
  refine l_arg (j := 1) f_184_906 f_184_907 f_184_908 f_184_909 f_184_910 (by decide) (by omega) hL ?_
  refine l_arg (j := 2) f_184_911 f_184_912 f_184_913 f_184_914 f_184_915 (by decide) (by omega) hL ?_
  refine e_vi (n := 3) (A := [.ref 8, .int (x_oa xs 0 (i + 1)), .int (x_oa xs 0 (i + 2))]) (R := []) f_184_916 na_91 rfl rfl (Nat.le_of_ble_eq_true rfl) (Nat.le_of_ble_eq_true rfl) (by rw [ml_91]; exact Nat.le_of_ble_eq_true rfl) rfl (by rw [cy_91]; decide) (by rw [cy_91]; exact (by decide : x_tg 8 = 5)) (o_ask (d := 50) H) (fun v S1 hp => ?_)
  refine e_aload f_184_919 rfl (by decide) ?_
  refine l_arg (j := 1) f_184_920 f_184_921 f_184_922 f_184_923 f_184_924 (by decide) (by omega) hL ?_
  refine l_arg (j := 2) f_184_925 f_184_926 f_184_927 f_184_928 f_184_929 (by decide) (by omega) hL ?_
  refine e_vi (n := 3) (A := [.ref 56, .int (x_oa xs 0 (i + 1)), .int (x_oa xs 0 (i + 2))]) (R := [.int v]) f_184_930 na_162 rfl rfl (Nat.le_of_ble_eq_true rfl) (Nat.le_of_ble_eq_true rfl) (by rw [ml_162]; exact Nat.le_of_ble_eq_true rfl) rfl (by rw [cy_162]; decide) (by rw [cy_162]; exact (by decide : x_tg 56 = 6)) hp (fun w S2 hq => ?_)
  obtain ⟨rfl, H2⟩ := hq
  exact e_icmp f_184_933 (fun _ => k S2 H2) (fun z => absurd (by simp [x_cc]) z)
theorem l_case_24 (hL : xs.length ≤ 384) (hi : i + 6 ≤ xs.length) (H : x_Inv S) (k : ∀ S1, x_Inv S1 → x_E xs 60 184 997 [.ref 0, .ref 8, .ref 56, .int (nI i)] [] S1 Q) : x_E xs 60 184 938 [.ref 0, .ref 8, .ref 56, .int (nI i)] [] S Q := by
  refine e_aload f_184_938 rfl (by decide) ?_
  refine l_arg (j := 1) f_184_939 f_184_940 f_184_941 f_184_942 f_184_943 (by decide) (by omega) hL ?_
  refine e_vi (n := 2) (A := [.ref 8, .int (x_oa xs 0 (i + 1))]) (R := []) f_184_944 na_94 rfl rfl (Nat.le_of_ble_eq_true rfl) (Nat.le_of_ble_eq_true rfl) (by rw [ml_94]; exact Nat.le_of_ble_eq_true rfl) rfl (by rw [cy_94]; decide) (by rw [cy_94]; exact (by decide : x_tg 8 = 5)) (o_trace (d := 57) H) (fun v S1 hp => ?_)
  refine e_aload f_184_947 rfl (by decide) ?_
  refine l_arg (j := 1) f_184_948 f_184_949 f_184_950 f_184_951 f_184_952 (by decide) (by omega) hL ?_
  refine e_vi (n := 2) (A := [.ref 56, .int (x_oa xs 0 (i + 1))]) (R := [.int v]) f_184_953 na_170 rfl rfl (Nat.le_of_ble_eq_true rfl) (Nat.le_of_ble_eq_true rfl) (by rw [ml_170]; exact Nat.le_of_ble_eq_true rfl) rfl (by rw [cy_170]; decide) (by rw [cy_170]; exact (by decide : x_tg 56 = 6)) hp (fun w S2 hq => ?_)
  obtain ⟨rfl, H2⟩ := hq
  exact e_icmp f_184_956 (fun _ => k S2 H2) (fun z => absurd (by simp [x_cc]) z)
theorem l_case_25 (hL : xs.length ≤ 384) (hi : i + 6 ≤ xs.length) (H : x_Inv S) (k : ∀ S1, x_Inv S1 → x_E xs 60 184 997 [.ref 0, .ref 8, .ref 56, .int (nI i)] [] S1 Q) : x_E xs 60 184 961 [.ref 0, .ref 8, .ref 56, .int (nI i)] [] S Q := by
  refine e_aload f_184_961 rfl (by decide) ?_
  refine l_arg (j := 1) f_184_962 f_184_963 f_184_964 f_184_965 f_184_966 (by decide) (by omega) hL ?_
  refine e_vi (n := 2) (A := [.ref 8, .int (x_oa xs 0 (i + 1))]) (R := []) f_184_967 na_95 rfl rfl (Nat.le_of_ble_eq_true rfl) (Nat.le_of_ble_eq_true rfl) (by rw [ml_95]; exact Nat.le_of_ble_eq_true rfl) rfl (by rw [cy_95]; decide) (by rw [cy_95]; exact (by decide : x_tg 8 = 5)) (o_count (d := 56) H) (fun v S1 hp => ?_)
  refine e_aload f_184_970 rfl (by decide) ?_
  refine l_arg (j := 1) f_184_971 f_184_972 f_184_973 f_184_974 f_184_975 (by decide) (by omega) hL ?_
  refine e_vi (n := 2) (A := [.ref 56, .int (x_oa xs 0 (i + 1))]) (R := [.int v]) f_184_976 na_171 rfl rfl (Nat.le_of_ble_eq_true rfl) (Nat.le_of_ble_eq_true rfl) (by rw [ml_171]; exact Nat.le_of_ble_eq_true rfl) rfl (by rw [cy_171]; decide) (by rw [cy_171]; exact (by decide : x_tg 56 = 6)) hp (fun w S2 hq => ?_)
  obtain ⟨rfl, H2⟩ := hq
  exact e_icmp f_184_979 (fun _ => k S2 H2) (fun z => absurd (by simp [x_cc]) z)
theorem l_case_26 (hL : xs.length ≤ 384) (hi : i + 6 ≤ xs.length) (H : x_Inv S) (k : ∀ S1, x_Inv S1 → x_E xs 60 184 997 [.ref 0, .ref 8, .ref 56, .int (nI i)] [] S1 Q) : x_E xs 60 184 984 [.ref 0, .ref 8, .ref 56, .int (nI i)] [] S Q := by
  refine e_aload f_184_984 rfl (by decide) ?_
  refine e_vi (n := 1) (A := [.ref 8]) (R := []) f_184_985 na_97 rfl rfl (Nat.le_of_ble_eq_true rfl) (Nat.le_of_ble_eq_true rfl) (by rw [ml_97]; exact Nat.le_of_ble_eq_true rfl) rfl (by rw [cy_97]; decide) (by rw [cy_97]; exact (by decide : x_tg 8 = 5)) (o_status (d := 58) H) (fun v S1 hp => ?_)
  refine e_aload f_184_988 rfl (by decide) ?_
  refine e_vi (n := 1) (A := [.ref 56]) (R := [.int v]) f_184_989 na_172 rfl rfl (Nat.le_of_ble_eq_true rfl) (Nat.le_of_ble_eq_true rfl) (by rw [ml_172]; exact Nat.le_of_ble_eq_true rfl) rfl (by rw [cy_172]; decide) (by rw [cy_172]; exact (by decide : x_tg 56 = 6)) hp (fun w S2 hq => ?_)
  obtain ⟨rfl, H2⟩ := hq
  exact e_icmp f_184_992 (fun _ => k S2 H2) (fun z => absurd (by simp [x_cc]) z)
theorem x_and31 (a : Int32) : ∃ c : Nat, c < 32 ∧ a &&& 31 = nI c := by
  refine ⟨a.toBitVec.toNat % 32, Nat.mod_lt _ (by decide), ?_⟩
  apply Int32.toBitVec_inj.mp
  rw [Int32.toBitVec_and, nI_bv]
  apply BitVec.eq_of_toNat_eq
  rw [BitVec.toNat_and, BitVec.toNat_ofNat, show (31 : Int32).toBitVec.toNat = 2 ^ 5 - 1 by decide, Nat.and_two_pow_sub_one_eq_mod]
  have := Nat.mod_lt a.toBitVec.toNat (show 0 < 2 ^ 5 by decide)
  omega
set_option maxHeartbeats 2000000 in
/-- a round of the law -/
theorem l_round (hL : xs.length ≤ 384) (hi : i + 6 ≤ xs.length) (H : x_Inv S) (k : ∀ S1, x_Inv S1 → x_E xs 60 184 997 [.ref 0, .ref 8, .ref 56, .int (nI i)] [] S1 Q) : x_E xs 60 184 27 [.ref 0, .ref 8, .ref 56, .int (nI i)] [] S Q := by
  refine e_aload f_184_27 rfl (by decide) (e_iload f_184_28 rfl ?_)
  have hx : x_ib (nI i) (x_ol xs 0) := x_ib_n (show i < xs.length by omega) (by show xs.length < 2 ^ 31; omega)
  refine e_iao f_184_29 (by omega) hx (e_iconst (c := 31) f_184_30 (by decide) (e_iand f_184_32 ?_))
  generalize x_oa xs 0 _ = a
  obtain ⟨c, hc, e⟩ := x_and31 a
  by_cases h27 : c < 27
  · have hcs : c = 0 ∨ c = 1 ∨ c = 2 ∨ c = 3 ∨ c = 4 ∨ c = 5 ∨ c = 6 ∨ c = 7 ∨ c = 8 ∨ c = 9 ∨ c = 10 ∨ c = 11 ∨ c = 12 ∨ c = 13 ∨ c = 14 ∨ c = 15 ∨ c = 16 ∨ c = 17 ∨ c = 18 ∨ c = 19 ∨ c = 20 ∨ c = 21 ∨ c = 22 ∨ c = 23 ∨ c = 24 ∨ c = 25 ∨ c = 26 := by omega
    rcases hcs with rfl | rfl | rfl | rfl | rfl | rfl | rfl | rfl | rfl | rfl | rfl | rfl | rfl | rfl | rfl | rfl | rfl | rfl | rfl | rfl | rfl | rfl | rfl | rfl | rfl | rfl | rfl
    · exact e_ts f_184_33 e (t := 156) (by decide +kernel) (l_case_0 hL hi H k)
    · exact e_ts f_184_33 e (t := 199) (by decide +kernel) (l_case_1 hL hi H k)
    · exact e_ts f_184_33 e (t := 242) (by decide +kernel) (l_case_2 hL hi H k)
    · exact e_ts f_184_33 e (t := 305) (by decide +kernel) (l_case_3 hL hi H k)
    · exact e_ts f_184_33 e (t := 328) (by decide +kernel) (l_case_4 hL hi H k)
    · exact e_ts f_184_33 e (t := 391) (by decide +kernel) (l_case_5 hL hi H k)
    · exact e_ts f_184_33 e (t := 404) (by decide +kernel) (l_case_6 hL hi H k)
    · exact e_ts f_184_33 e (t := 417) (by decide +kernel) (l_case_7 hL hi H k)
    · exact e_ts f_184_33 e (t := 450) (by decide +kernel) (l_case_8 hL hi H k)
    · exact e_ts f_184_33 e (t := 473) (by decide +kernel) (l_case_9 hL hi H k)
    · exact e_ts f_184_33 e (t := 506) (by decide +kernel) (l_case_10 hL hi H k)
    · exact e_ts f_184_33 e (t := 549) (by decide +kernel) (l_case_11 hL hi H k)
    · exact e_ts f_184_33 e (t := 582) (by decide +kernel) (l_case_12 hL hi H k)
    · exact e_ts f_184_33 e (t := 605) (by decide +kernel) (l_case_13 hL hi H k)
    · exact e_ts f_184_33 e (t := 628) (by decide +kernel) (l_case_14 hL hi H k)
    · exact e_ts f_184_33 e (t := 671) (by decide +kernel) (l_case_15 hL hi H k)
    · exact e_ts f_184_33 e (t := 704) (by decide +kernel) (l_case_16 hL hi H k)
    · exact e_ts f_184_33 e (t := 727) (by decide +kernel) (l_case_17 hL hi H k)
    · exact e_ts f_184_33 e (t := 760) (by decide +kernel) (l_case_18 hL hi H k)
    · exact e_ts f_184_33 e (t := 803) (by decide +kernel) (l_case_19 hL hi H k)
    · exact e_ts f_184_33 e (t := 826) (by decide +kernel) (l_case_20 hL hi H k)
    · exact e_ts f_184_33 e (t := 849) (by decide +kernel) (l_case_21 hL hi H k)
    · exact e_ts f_184_33 e (t := 872) (by decide +kernel) (l_case_22 hL hi H k)
    · exact e_ts f_184_33 e (t := 905) (by decide +kernel) (l_case_23 hL hi H k)
    · exact e_ts f_184_33 e (t := 938) (by decide +kernel) (l_case_24 hL hi H k)
    · exact e_ts f_184_33 e (t := 961) (by decide +kernel) (l_case_25 hL hi H k)
    · exact e_ts f_184_33 e (t := 984) (by decide +kernel) (l_case_26 hL hi H k)
  · have h1 := nI_toInt (show c < 2 ^ 31 by omega)
    refine e_tsd f_184_33 (t := 997) (Or.inr ?_) (by decide +kernel) (k S H)
    rw [e, h1]
    omega
/-- the law's loop -/
theorem l_loop (hL : xs.length ≤ 384) : ∀ (n i : Nat) (S : x_M), i + n = 400 → x_Inv S → x_E xs 60 184 18 [.ref 0, .ref 8, .ref 56, .int (nI i)] [] S (fun r _ => r = some (.int 1)) := by
  intro n
  induction n using Nat.strongRecOn with
  | ind n ih =>
    intro i S hn H
    refine e_iload f_184_18 rfl (e_aload f_184_19 rfl (by decide) (e_alo f_184_20 (by omega) (e_iconst (c := nI 6) f_184_21 (by decide) (e_isub f_184_23 ?_))))
    have key : x_cc .gt (nI i) (Int32.ofNat (x_ol xs 0) - nI 6) = decide (xs.length < i + 6) := by
      show decide (nI xs.length - nI 6 < nI i) = decide (xs.length < i + 6)
      by_cases h6 : 6 ≤ xs.length
      · rw [nI_sub h6]
        apply decide_eq_decide.mpr
        rw [nI_ltI (by omega) (by omega)]
        omega
      · have h0 : nI xs.length - nI 6 < 0 := by
          rcases (by omega : xs.length = 0 ∨ xs.length = 1 ∨ xs.length = 2 ∨ xs.length = 3 ∨ xs.length = 4 ∨ xs.length = 5) with h | h | h | h | h | h <;> rw [h] <;> decide
        have h1 : nI xs.length - nI 6 < nI i := Int32.lt_of_lt_of_le h0 (nI_pos' (by omega))
        rw [decide_eq_true h1, decide_eq_true (by omega)]
    refine e_icmp f_184_24 (fun _ => ?_) (fun z => ?_)
    · refine e_iconst (c := 1) f_184_1003 (by decide) (e_ireturn (ty := .boolean) f_184_1004 (by decide +kernel) (x_nz (Or.inr rfl)) rfl)
    · rw [key, decide_eq_true_eq] at z
      refine l_round hL (by omega) H (fun S1 H1 => ?_)
      refine e_inc (c := nI 6) (L' := [.ref 0, .ref 8, .ref 56, .int (nI (i + 6))]) f_184_997 rfl (by decide) (by rw [nI_add]; rfl) (e_goto f_184_1000 ?_)
      exact ih (n - 6) (by omega) (i + 6) S1 (by omega) H1
end LAW
