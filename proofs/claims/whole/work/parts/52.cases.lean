/-! the law: a case a method -/
section
variable {G : zG} {l : Launch} {b L i K : Nat} {xs : Nat → Int32} {h : Nat → Nat} {m : zM}
set_option maxRecDepth 100000 in
set_option maxHeartbeats 4000000 in
theorem case0 (hL : L ≤ 2048) (hi : i + 3 < L) (hR : Rel K h m) (hK : K ≤ 100000) (kk : ∀ (h1 : Nat → Nat) (m1 : zM), Rel (K + 1) h1 m1 → ZL G l b L xs h1 m1 882 i) : ZL G l b L xs h m 160 i := by
  obtain ⟨Q, hX, hQ⟩ := p_height (G := G) (l := l) hR  (xs (i + 1)) (xs (i + 2))
  refine Z_aload_n 161 2 dL_law_160 rfl rfl ?_
  refine Zarg (r := 1) 166 rfl rfl dL_law_161 dL_law_162 dL_law_163 dL_law_164 dL_law_165 rfl rfl (by omega) hL ?_
  refine Zarg (r := 2) 171 rfl rfl dL_law_166 dL_law_167 dL_law_168 dL_law_169 dL_law_170 rfl rfl (by omega) hL ?_
  refine Z_callV 174 [_, _] 3 hX dL_law_171 rfl qL_13 kX3_height rfl rfl (Nat.le_of_ble_eq_true rfl) rfl rfl ⟨(Nat.le_of_ble_eq_true rfl), (Nat.le_of_ble_eq_true rfl)⟩ (Nat.le_of_ble_eq_true rfl) ⟨rfl, rfl⟩ ⟨(Nat.le_of_ble_eq_true rfl), (Nat.le_of_ble_eq_true rfl)⟩ (fun r1 w1 hp1 => ?_)
  obtain ⟨v, h1, m1, rfl, rfl, hM⟩ := hQ r1 w1 hp1
  refine Z_aload_n 175 1 dL_law_174 rfl rfl ?_
  refine Zarg (r := 1) 180 rfl rfl dL_law_175 dL_law_176 dL_law_177 dL_law_178 dL_law_179 rfl rfl (by omega) hL ?_
  refine Zarg (r := 2) 185 rfl rfl dL_law_180 dL_law_181 dL_law_182 dL_law_183 dL_law_184 rfl rfl (by omega) hL ?_
  refine Z_callV 188 [_, _] 4 hM dL_law_185 rfl qL_17 kX4_height rfl rfl (Nat.le_of_ble_eq_true rfl) rfl rfl ⟨(Nat.le_of_ble_eq_true rfl), (Nat.le_of_ble_eq_true rfl)⟩ (Nat.le_of_ble_eq_true rfl) ⟨rfl, rfl⟩ ⟨(Nat.le_of_ble_eq_true rfl), (Nat.le_of_ble_eq_true rfl)⟩ (fun r2 w2 hp2 => ?_)
  obtain ⟨rfl, m2, rfl, hR2⟩ := hp2
  exact Z_icmp_eq 191 882 dL_law_188 rfl rfl (fun _ => kk h1 m2 hR2) (fun c9 => absurd rfl c9)
set_option maxRecDepth 100000 in
set_option maxHeartbeats 4000000 in
theorem case1 (hL : L ≤ 2048) (hi : i + 3 < L) (hR : Rel K h m) (hK : K ≤ 100000) (kk : ∀ (h1 : Nat → Nat) (m1 : zM), Rel (K + 1) h1 m1 → ZL G l b L xs h1 m1 882 i) : ZL G l b L xs h m 193 i := by
  obtain ⟨Q, hX, hQ⟩ := p_growth (G := G) (l := l) hR  (xs (i + 1)) (xs (i + 2))
  refine Z_aload_n 194 2 dL_law_193 rfl rfl ?_
  refine Zarg (r := 1) 199 rfl rfl dL_law_194 dL_law_195 dL_law_196 dL_law_197 dL_law_198 rfl rfl (by omega) hL ?_
  refine Zarg (r := 2) 204 rfl rfl dL_law_199 dL_law_200 dL_law_201 dL_law_202 dL_law_203 rfl rfl (by omega) hL ?_
  refine Z_callV 207 [_, _] 3 hX dL_law_204 rfl qL_18 kX3_growth rfl rfl (Nat.le_of_ble_eq_true rfl) rfl rfl ⟨(Nat.le_of_ble_eq_true rfl), (Nat.le_of_ble_eq_true rfl)⟩ (Nat.le_of_ble_eq_true rfl) ⟨rfl, rfl⟩ ⟨(Nat.le_of_ble_eq_true rfl), (Nat.le_of_ble_eq_true rfl)⟩ (fun r1 w1 hp1 => ?_)
  obtain ⟨v, h1, m1, rfl, rfl, hM⟩ := hQ r1 w1 hp1
  refine Z_aload_n 208 1 dL_law_207 rfl rfl ?_
  refine Zarg (r := 1) 213 rfl rfl dL_law_208 dL_law_209 dL_law_210 dL_law_211 dL_law_212 rfl rfl (by omega) hL ?_
  refine Zarg (r := 2) 218 rfl rfl dL_law_213 dL_law_214 dL_law_215 dL_law_216 dL_law_217 rfl rfl (by omega) hL ?_
  refine Z_callV 221 [_, _] 4 hM dL_law_218 rfl qL_21 kX4_growth rfl rfl (Nat.le_of_ble_eq_true rfl) rfl rfl ⟨(Nat.le_of_ble_eq_true rfl), (Nat.le_of_ble_eq_true rfl)⟩ (Nat.le_of_ble_eq_true rfl) ⟨rfl, rfl⟩ ⟨(Nat.le_of_ble_eq_true rfl), (Nat.le_of_ble_eq_true rfl)⟩ (fun r2 w2 hp2 => ?_)
  obtain ⟨rfl, m2, rfl, hR2⟩ := hp2
  exact Z_icmp_eq 224 882 dL_law_221 rfl rfl (fun _ => kk h1 m2 hR2) (fun c9 => absurd rfl c9)
set_option maxRecDepth 100000 in
set_option maxHeartbeats 4000000 in
theorem case2 (hL : L ≤ 2048) (hi : i + 3 < L) (hR : Rel K h m) (hK : K ≤ 100000) (kk : ∀ (h1 : Nat → Nat) (m1 : zM), Rel (K + 1) h1 m1 → ZL G l b L xs h1 m1 882 i) : ZL G l b L xs h m 226 i := by
  obtain ⟨Q, hX, hQ⟩ := p_nest (G := G) (l := l) hR  (xs (i + 1)) (xs (i + 2))
  refine Z_aload_n 227 2 dL_law_226 rfl rfl ?_
  refine Zarg (r := 1) 232 rfl rfl dL_law_227 dL_law_228 dL_law_229 dL_law_230 dL_law_231 rfl rfl (by omega) hL ?_
  refine Zarg (r := 2) 237 rfl rfl dL_law_232 dL_law_233 dL_law_234 dL_law_235 dL_law_236 rfl rfl (by omega) hL ?_
  refine Z_callV 240 [_, _] 3 hX dL_law_237 rfl qL_22 kX3_nest rfl rfl (Nat.le_of_ble_eq_true rfl) rfl rfl ⟨(Nat.le_of_ble_eq_true rfl), (Nat.le_of_ble_eq_true rfl)⟩ (Nat.le_of_ble_eq_true rfl) ⟨rfl, rfl⟩ ⟨(Nat.le_of_ble_eq_true rfl), (Nat.le_of_ble_eq_true rfl)⟩ (fun r1 w1 hp1 => ?_)
  obtain ⟨v, h1, m1, rfl, rfl, hM⟩ := hQ r1 w1 hp1
  refine Z_aload_n 241 1 dL_law_240 rfl rfl ?_
  refine Zarg (r := 1) 246 rfl rfl dL_law_241 dL_law_242 dL_law_243 dL_law_244 dL_law_245 rfl rfl (by omega) hL ?_
  refine Zarg (r := 2) 251 rfl rfl dL_law_246 dL_law_247 dL_law_248 dL_law_249 dL_law_250 rfl rfl (by omega) hL ?_
  refine Z_callV 254 [_, _] 4 hM dL_law_251 rfl qL_25 kX4_nest rfl rfl (Nat.le_of_ble_eq_true rfl) rfl rfl ⟨(Nat.le_of_ble_eq_true rfl), (Nat.le_of_ble_eq_true rfl)⟩ (Nat.le_of_ble_eq_true rfl) ⟨rfl, rfl⟩ ⟨(Nat.le_of_ble_eq_true rfl), (Nat.le_of_ble_eq_true rfl)⟩ (fun r2 w2 hp2 => ?_)
  obtain ⟨rfl, m2, rfl, hR2⟩ := hp2
  exact Z_icmp_eq 257 882 dL_law_254 rfl rfl (fun _ => kk h1 m2 hR2) (fun c9 => absurd rfl c9)
set_option maxRecDepth 100000 in
set_option maxHeartbeats 4000000 in
theorem case3 (hL : L ≤ 2048) (hi : i + 3 < L) (hR : Rel K h m) (hK : K ≤ 100000) (kk : ∀ (h1 : Nat → Nat) (m1 : zM), Rel (K + 1) h1 m1 → ZL G l b L xs h1 m1 882 i) : ZL G l b L xs h m 259 i := by
  obtain ⟨Q, hX, hQ⟩ := p_clip (G := G) (l := l) hR  (xs (i + 1)) (xs (i + 2))
  refine Z_aload_n 260 2 dL_law_259 rfl rfl ?_
  refine Zarg (r := 1) 265 rfl rfl dL_law_260 dL_law_261 dL_law_262 dL_law_263 dL_law_264 rfl rfl (by omega) hL ?_
  refine Zarg (r := 2) 270 rfl rfl dL_law_265 dL_law_266 dL_law_267 dL_law_268 dL_law_269 rfl rfl (by omega) hL ?_
  refine Z_callV 273 [_, _] 3 hX dL_law_270 rfl qL_26 kX3_clip rfl rfl (Nat.le_of_ble_eq_true rfl) rfl rfl ⟨(Nat.le_of_ble_eq_true rfl), (Nat.le_of_ble_eq_true rfl)⟩ (Nat.le_of_ble_eq_true rfl) ⟨rfl, rfl⟩ ⟨(Nat.le_of_ble_eq_true rfl), (Nat.le_of_ble_eq_true rfl)⟩ (fun r1 w1 hp1 => ?_)
  obtain ⟨v, h1, m1, rfl, rfl, hM⟩ := hQ r1 w1 hp1
  refine Z_aload_n 274 1 dL_law_273 rfl rfl ?_
  refine Zarg (r := 1) 279 rfl rfl dL_law_274 dL_law_275 dL_law_276 dL_law_277 dL_law_278 rfl rfl (by omega) hL ?_
  refine Zarg (r := 2) 284 rfl rfl dL_law_279 dL_law_280 dL_law_281 dL_law_282 dL_law_283 rfl rfl (by omega) hL ?_
  refine Z_callV 287 [_, _] 4 hM dL_law_284 rfl qL_29 kX4_clip rfl rfl (Nat.le_of_ble_eq_true rfl) rfl rfl ⟨(Nat.le_of_ble_eq_true rfl), (Nat.le_of_ble_eq_true rfl)⟩ (Nat.le_of_ble_eq_true rfl) ⟨rfl, rfl⟩ ⟨(Nat.le_of_ble_eq_true rfl), (Nat.le_of_ble_eq_true rfl)⟩ (fun r2 w2 hp2 => ?_)
  obtain ⟨rfl, m2, rfl, hR2⟩ := hp2
  exact Z_icmp_eq 290 882 dL_law_287 rfl rfl (fun _ => kk h1 m2 hR2) (fun c9 => absurd rfl c9)
set_option maxRecDepth 100000 in
set_option maxHeartbeats 4000000 in
theorem case4 (hL : L ≤ 2048) (hi : i + 3 < L) (hR : Rel K h m) (hK : K ≤ 100000) (kk : ∀ (h1 : Nat → Nat) (m1 : zM), Rel (K + 1) h1 m1 → ZL G l b L xs h1 m1 882 i) : ZL G l b L xs h m 292 i := by
  obtain ⟨Q, hX, hQ⟩ := p_plan (G := G) (l := l) hR  
  refine Z_aload_n 293 2 dL_law_292 rfl rfl ?_
  refine Z_callV 296 [] 3 hX dL_law_293 rfl qL_30 kX3_plan rfl rfl (Nat.le_of_ble_eq_true rfl) rfl rfl ⟨(Nat.le_of_ble_eq_true rfl), (Nat.le_of_ble_eq_true rfl)⟩ (Nat.le_of_ble_eq_true rfl) ⟨rfl, rfl⟩ ⟨(Nat.le_of_ble_eq_true rfl), (Nat.le_of_ble_eq_true rfl)⟩ (fun r1 w1 hp1 => ?_)
  obtain ⟨v, h1, m1, rfl, rfl, hM⟩ := hQ r1 w1 hp1
  refine Z_aload_n 297 1 dL_law_296 rfl rfl ?_
  refine Z_callV 300 [] 4 hM dL_law_297 rfl qL_34 kX4_plan rfl rfl (Nat.le_of_ble_eq_true rfl) rfl rfl ⟨(Nat.le_of_ble_eq_true rfl), (Nat.le_of_ble_eq_true rfl)⟩ (Nat.le_of_ble_eq_true rfl) ⟨rfl, rfl⟩ ⟨(Nat.le_of_ble_eq_true rfl), (Nat.le_of_ble_eq_true rfl)⟩ (fun r2 w2 hp2 => ?_)
  obtain ⟨rfl, m2, rfl, hR2⟩ := hp2
  exact Z_icmp_eq 303 882 dL_law_300 rfl rfl (fun _ => kk h1 m2 hR2) (fun c9 => absurd rfl c9)
set_option maxRecDepth 100000 in
set_option maxHeartbeats 4000000 in
theorem case5 (hL : L ≤ 2048) (hi : i + 3 < L) (hR : Rel K h m) (hK : K ≤ 100000) (kk : ∀ (h1 : Nat → Nat) (m1 : zM), Rel (K + 1) h1 m1 → ZL G l b L xs h1 m1 882 i) : ZL G l b L xs h m 305 i := by
  obtain ⟨Q, hX, hQ⟩ := p_day (G := G) (l := l) hR hK 
  refine Z_aload_n 306 2 dL_law_305 rfl rfl ?_
  refine Z_callV 309 [] 3 hX dL_law_306 rfl qL_35 kX3_day rfl rfl (Nat.le_of_ble_eq_true rfl) rfl rfl ⟨(Nat.le_of_ble_eq_true rfl), (Nat.le_of_ble_eq_true rfl)⟩ (Nat.le_of_ble_eq_true rfl) ⟨rfl, rfl⟩ ⟨(Nat.le_of_ble_eq_true rfl), (Nat.le_of_ble_eq_true rfl)⟩ (fun r1 w1 hp1 => ?_)
  obtain ⟨v, h1, m1, rfl, rfl, hM⟩ := hQ r1 w1 hp1
  refine Z_aload_n 310 1 dL_law_309 rfl rfl ?_
  refine Z_callV 313 [] 4 hM dL_law_310 rfl qL_38 kX4_day rfl rfl (Nat.le_of_ble_eq_true rfl) rfl rfl ⟨(Nat.le_of_ble_eq_true rfl), (Nat.le_of_ble_eq_true rfl)⟩ (Nat.le_of_ble_eq_true rfl) ⟨rfl, rfl⟩ ⟨(Nat.le_of_ble_eq_true rfl), (Nat.le_of_ble_eq_true rfl)⟩ (fun r2 w2 hp2 => ?_)
  obtain ⟨rfl, m2, rfl, hR2⟩ := hp2
  exact Z_icmp_eq 316 882 dL_law_313 rfl rfl (fun _ => kk h1 m2 hR2) (fun c9 => absurd rfl c9)
set_option maxRecDepth 100000 in
set_option maxHeartbeats 4000000 in
theorem case6 (hL : L ≤ 2048) (hi : i + 3 < L) (hR : Rel K h m) (hK : K ≤ 100000) (kk : ∀ (h1 : Nat → Nat) (m1 : zM), Rel (K + 1) h1 m1 → ZL G l b L xs h1 m1 882 i) : ZL G l b L xs h m 318 i := by
  obtain ⟨Q, hX, hQ⟩ := p_sign (G := G) (l := l) hR  (xs (i + 1)) (xs (i + 2)) (xs (i + 3))
  refine Z_aload_n 319 2 dL_law_318 rfl rfl ?_
  refine Zarg (r := 1) 324 rfl rfl dL_law_319 dL_law_320 dL_law_321 dL_law_322 dL_law_323 rfl rfl (by omega) hL ?_
  refine Zarg (r := 2) 329 rfl rfl dL_law_324 dL_law_325 dL_law_326 dL_law_327 dL_law_328 rfl rfl (by omega) hL ?_
  refine Zarg (r := 3) 334 rfl rfl dL_law_329 dL_law_330 dL_law_331 dL_law_332 dL_law_333 rfl rfl (by omega) hL ?_
  refine Z_callV 337 [_, _, _] 3 hX dL_law_334 rfl qL_39 kX3_sign rfl rfl (Nat.le_of_ble_eq_true rfl) rfl rfl ⟨(Nat.le_of_ble_eq_true rfl), (Nat.le_of_ble_eq_true rfl)⟩ (Nat.le_of_ble_eq_true rfl) ⟨rfl, rfl⟩ ⟨(Nat.le_of_ble_eq_true rfl), (Nat.le_of_ble_eq_true rfl)⟩ (fun r1 w1 hp1 => ?_)
  obtain ⟨v, h1, m1, rfl, rfl, hM⟩ := hQ r1 w1 hp1
  refine Z_aload_n 338 1 dL_law_337 rfl rfl ?_
  refine Zarg (r := 1) 343 rfl rfl dL_law_338 dL_law_339 dL_law_340 dL_law_341 dL_law_342 rfl rfl (by omega) hL ?_
  refine Zarg (r := 2) 348 rfl rfl dL_law_343 dL_law_344 dL_law_345 dL_law_346 dL_law_347 rfl rfl (by omega) hL ?_
  refine Zarg (r := 3) 353 rfl rfl dL_law_348 dL_law_349 dL_law_350 dL_law_351 dL_law_352 rfl rfl (by omega) hL ?_
  refine Z_callV 356 [_, _, _] 4 hM dL_law_353 rfl qL_43 kX4_sign rfl rfl (Nat.le_of_ble_eq_true rfl) rfl rfl ⟨(Nat.le_of_ble_eq_true rfl), (Nat.le_of_ble_eq_true rfl)⟩ (Nat.le_of_ble_eq_true rfl) ⟨rfl, rfl⟩ ⟨(Nat.le_of_ble_eq_true rfl), (Nat.le_of_ble_eq_true rfl)⟩ (fun r2 w2 hp2 => ?_)
  obtain ⟨rfl, m2, rfl, hR2⟩ := hp2
  exact Z_icmp_eq 359 882 dL_law_356 rfl rfl (fun _ => kk h1 m2 hR2) (fun c9 => absurd rfl c9)
set_option maxRecDepth 100000 in
set_option maxHeartbeats 4000000 in
theorem case7 (hL : L ≤ 2048) (hi : i + 3 < L) (hR : Rel K h m) (hK : K ≤ 100000) (kk : ∀ (h1 : Nat → Nat) (m1 : zM), Rel (K + 1) h1 m1 → ZL G l b L xs h1 m1 882 i) : ZL G l b L xs h m 361 i := by
  obtain ⟨Q, hX, hQ⟩ := p_cancel (G := G) (l := l) hR  (xs (i + 1))
  refine Z_aload_n 362 2 dL_law_361 rfl rfl ?_
  refine Zarg (r := 1) 367 rfl rfl dL_law_362 dL_law_363 dL_law_364 dL_law_365 dL_law_366 rfl rfl (by omega) hL ?_
  refine Z_callV 370 [_] 3 hX dL_law_367 rfl qL_44 kX3_cancel rfl rfl (Nat.le_of_ble_eq_true rfl) rfl rfl ⟨(Nat.le_of_ble_eq_true rfl), (Nat.le_of_ble_eq_true rfl)⟩ (Nat.le_of_ble_eq_true rfl) ⟨rfl, rfl⟩ ⟨(Nat.le_of_ble_eq_true rfl), (Nat.le_of_ble_eq_true rfl)⟩ (fun r1 w1 hp1 => ?_)
  obtain ⟨v, h1, m1, rfl, rfl, hM⟩ := hQ r1 w1 hp1
  refine Z_aload_n 371 1 dL_law_370 rfl rfl ?_
  refine Zarg (r := 1) 376 rfl rfl dL_law_371 dL_law_372 dL_law_373 dL_law_374 dL_law_375 rfl rfl (by omega) hL ?_
  refine Z_callV 379 [_] 4 hM dL_law_376 rfl qL_48 kX4_cancel rfl rfl (Nat.le_of_ble_eq_true rfl) rfl rfl ⟨(Nat.le_of_ble_eq_true rfl), (Nat.le_of_ble_eq_true rfl)⟩ (Nat.le_of_ble_eq_true rfl) ⟨rfl, rfl⟩ ⟨(Nat.le_of_ble_eq_true rfl), (Nat.le_of_ble_eq_true rfl)⟩ (fun r2 w2 hp2 => ?_)
  obtain ⟨rfl, m2, rfl, hR2⟩ := hp2
  exact Z_icmp_eq 382 882 dL_law_379 rfl rfl (fun _ => kk h1 m2 hR2) (fun c9 => absurd rfl c9)
set_option maxRecDepth 100000 in
set_option maxHeartbeats 4000000 in
theorem case8 (hL : L ≤ 2048) (hi : i + 3 < L) (hR : Rel K h m) (hK : K ≤ 100000) (kk : ∀ (h1 : Nat → Nat) (m1 : zM), Rel (K + 1) h1 m1 → ZL G l b L xs h1 m1 882 i) : ZL G l b L xs h m 384 i := by
  obtain ⟨Q, hX, hQ⟩ := p_freeze (G := G) (l := l) hR hK (xs (i + 1)) (xs (i + 2))
  refine Z_aload_n 385 2 dL_law_384 rfl rfl ?_
  refine Zarg (r := 1) 390 rfl rfl dL_law_385 dL_law_386 dL_law_387 dL_law_388 dL_law_389 rfl rfl (by omega) hL ?_
  refine Zarg (r := 2) 395 rfl rfl dL_law_390 dL_law_391 dL_law_392 dL_law_393 dL_law_394 rfl rfl (by omega) hL ?_
  refine Z_callV 398 [_, _] 3 hX dL_law_395 rfl qL_49 kX3_freeze rfl rfl (Nat.le_of_ble_eq_true rfl) rfl rfl ⟨(Nat.le_of_ble_eq_true rfl), (Nat.le_of_ble_eq_true rfl)⟩ (Nat.le_of_ble_eq_true rfl) ⟨rfl, rfl⟩ ⟨(Nat.le_of_ble_eq_true rfl), (Nat.le_of_ble_eq_true rfl)⟩ (fun r1 w1 hp1 => ?_)
  obtain ⟨v, h1, m1, rfl, rfl, hM⟩ := hQ r1 w1 hp1
  refine Z_aload_n 399 1 dL_law_398 rfl rfl ?_
  refine Zarg (r := 1) 404 rfl rfl dL_law_399 dL_law_400 dL_law_401 dL_law_402 dL_law_403 rfl rfl (by omega) hL ?_
  refine Zarg (r := 2) 409 rfl rfl dL_law_404 dL_law_405 dL_law_406 dL_law_407 dL_law_408 rfl rfl (by omega) hL ?_
  refine Z_callV 412 [_, _] 4 hM dL_law_409 rfl qL_52 kX4_freeze rfl rfl (Nat.le_of_ble_eq_true rfl) rfl rfl ⟨(Nat.le_of_ble_eq_true rfl), (Nat.le_of_ble_eq_true rfl)⟩ (Nat.le_of_ble_eq_true rfl) ⟨rfl, rfl⟩ ⟨(Nat.le_of_ble_eq_true rfl), (Nat.le_of_ble_eq_true rfl)⟩ (fun r2 w2 hp2 => ?_)
  obtain ⟨rfl, m2, rfl, hR2⟩ := hp2
  exact Z_icmp_eq 415 882 dL_law_412 rfl rfl (fun _ => kk h1 m2 hR2) (fun c9 => absurd rfl c9)
set_option maxRecDepth 100000 in
set_option maxHeartbeats 4000000 in
theorem case9 (hL : L ≤ 2048) (hi : i + 3 < L) (hR : Rel K h m) (hK : K ≤ 100000) (kk : ∀ (h1 : Nat → Nat) (m1 : zM), Rel (K + 1) h1 m1 → ZL G l b L xs h1 m1 882 i) : ZL G l b L xs h m 417 i := by
  obtain ⟨Q, hX, hQ⟩ := p_thaw (G := G) (l := l) hR hK (xs (i + 1))
  refine Z_aload_n 418 2 dL_law_417 rfl rfl ?_
  refine Zarg (r := 1) 423 rfl rfl dL_law_418 dL_law_419 dL_law_420 dL_law_421 dL_law_422 rfl rfl (by omega) hL ?_
  refine Z_callV 426 [_] 3 hX dL_law_423 rfl qL_53 kX3_thaw rfl rfl (Nat.le_of_ble_eq_true rfl) rfl rfl ⟨(Nat.le_of_ble_eq_true rfl), (Nat.le_of_ble_eq_true rfl)⟩ (Nat.le_of_ble_eq_true rfl) ⟨rfl, rfl⟩ ⟨(Nat.le_of_ble_eq_true rfl), (Nat.le_of_ble_eq_true rfl)⟩ (fun r1 w1 hp1 => ?_)
  obtain ⟨v, h1, m1, rfl, rfl, hM⟩ := hQ r1 w1 hp1
  refine Z_aload_n 427 1 dL_law_426 rfl rfl ?_
  refine Zarg (r := 1) 432 rfl rfl dL_law_427 dL_law_428 dL_law_429 dL_law_430 dL_law_431 rfl rfl (by omega) hL ?_
  refine Z_callV 435 [_] 4 hM dL_law_432 rfl qL_56 kX4_thaw rfl rfl (Nat.le_of_ble_eq_true rfl) rfl rfl ⟨(Nat.le_of_ble_eq_true rfl), (Nat.le_of_ble_eq_true rfl)⟩ (Nat.le_of_ble_eq_true rfl) ⟨rfl, rfl⟩ ⟨(Nat.le_of_ble_eq_true rfl), (Nat.le_of_ble_eq_true rfl)⟩ (fun r2 w2 hp2 => ?_)
  obtain ⟨rfl, m2, rfl, hR2⟩ := hp2
  exact Z_icmp_eq 438 882 dL_law_435 rfl rfl (fun _ => kk h1 m2 hR2) (fun c9 => absurd rfl c9)
set_option maxRecDepth 100000 in
set_option maxHeartbeats 4000000 in
theorem case10 (hL : L ≤ 2048) (hi : i + 3 < L) (hR : Rel K h m) (hK : K ≤ 100000) (kk : ∀ (h1 : Nat → Nat) (m1 : zM), Rel (K + 1) h1 m1 → ZL G l b L xs h1 m1 882 i) : ZL G l b L xs h m 440 i := by
  obtain ⟨Q, hX, hQ⟩ := p_append (G := G) (l := l) hR  (xs (i + 1))
  refine Z_aload_n 441 2 dL_law_440 rfl rfl ?_
  refine Zarg (r := 1) 446 rfl rfl dL_law_441 dL_law_442 dL_law_443 dL_law_444 dL_law_445 rfl rfl (by omega) hL ?_
  refine Z_callV 449 [_] 3 hX dL_law_446 rfl qL_57 kX3_append rfl rfl (Nat.le_of_ble_eq_true rfl) rfl rfl ⟨(Nat.le_of_ble_eq_true rfl), (Nat.le_of_ble_eq_true rfl)⟩ (Nat.le_of_ble_eq_true rfl) ⟨rfl, rfl⟩ ⟨(Nat.le_of_ble_eq_true rfl), (Nat.le_of_ble_eq_true rfl)⟩ (fun r1 w1 hp1 => ?_)
  obtain ⟨v, h1, m1, rfl, rfl, hM⟩ := hQ r1 w1 hp1
  refine Z_aload_n 450 1 dL_law_449 rfl rfl ?_
  refine Zarg (r := 1) 455 rfl rfl dL_law_450 dL_law_451 dL_law_452 dL_law_453 dL_law_454 rfl rfl (by omega) hL ?_
  refine Z_callV 458 [_] 4 hM dL_law_455 rfl qL_60 kX4_append rfl rfl (Nat.le_of_ble_eq_true rfl) rfl rfl ⟨(Nat.le_of_ble_eq_true rfl), (Nat.le_of_ble_eq_true rfl)⟩ (Nat.le_of_ble_eq_true rfl) ⟨rfl, rfl⟩ ⟨(Nat.le_of_ble_eq_true rfl), (Nat.le_of_ble_eq_true rfl)⟩ (fun r2 w2 hp2 => ?_)
  obtain ⟨rfl, m2, rfl, hR2⟩ := hp2
  exact Z_icmp_eq 461 882 dL_law_458 rfl rfl (fun _ => kk h1 m2 hR2) (fun c9 => absurd rfl c9)
set_option maxRecDepth 100000 in
set_option maxHeartbeats 4000000 in
theorem case11 (hL : L ≤ 2048) (hi : i + 3 < L) (hR : Rel K h m) (hK : K ≤ 100000) (kk : ∀ (h1 : Nat → Nat) (m1 : zM), Rel (K + 1) h1 m1 → ZL G l b L xs h1 m1 882 i) : ZL G l b L xs h m 463 i := by
  obtain ⟨Q, hX, hQ⟩ := p_clear (G := G) (l := l) hR  
  refine Z_aload_n 464 2 dL_law_463 rfl rfl ?_
  refine Z_callV 467 [] 3 hX dL_law_464 rfl qL_61 kX3_clear rfl rfl (Nat.le_of_ble_eq_true rfl) rfl rfl ⟨(Nat.le_of_ble_eq_true rfl), (Nat.le_of_ble_eq_true rfl)⟩ (Nat.le_of_ble_eq_true rfl) ⟨rfl, rfl⟩ ⟨(Nat.le_of_ble_eq_true rfl), (Nat.le_of_ble_eq_true rfl)⟩ (fun r1 w1 hp1 => ?_)
  obtain ⟨v, h1, m1, rfl, rfl, hM⟩ := hQ r1 w1 hp1
  refine Z_aload_n 468 1 dL_law_467 rfl rfl ?_
  refine Z_callV 471 [] 4 hM dL_law_468 rfl qL_64 kX4_clear rfl rfl (Nat.le_of_ble_eq_true rfl) rfl rfl ⟨(Nat.le_of_ble_eq_true rfl), (Nat.le_of_ble_eq_true rfl)⟩ (Nat.le_of_ble_eq_true rfl) ⟨rfl, rfl⟩ ⟨(Nat.le_of_ble_eq_true rfl), (Nat.le_of_ble_eq_true rfl)⟩ (fun r2 w2 hp2 => ?_)
  obtain ⟨rfl, m2, rfl, hR2⟩ := hp2
  exact Z_icmp_eq 474 882 dL_law_471 rfl rfl (fun _ => kk h1 m2 hR2) (fun c9 => absurd rfl c9)
set_option maxRecDepth 100000 in
set_option maxHeartbeats 4000000 in
theorem case12 (hL : L ≤ 2048) (hi : i + 3 < L) (hR : Rel K h m) (hK : K ≤ 100000) (kk : ∀ (h1 : Nat → Nat) (m1 : zM), Rel (K + 1) h1 m1 → ZL G l b L xs h1 m1 882 i) : ZL G l b L xs h m 476 i := by
  obtain ⟨Q, hX, hQ⟩ := p_fault (G := G) (l := l) hR  
  refine Z_aload_n 477 2 dL_law_476 rfl rfl ?_
  refine Z_callV 480 [] 3 hX dL_law_477 rfl qL_65 kX3_fault rfl rfl (Nat.le_of_ble_eq_true rfl) rfl rfl ⟨(Nat.le_of_ble_eq_true rfl), (Nat.le_of_ble_eq_true rfl)⟩ (Nat.le_of_ble_eq_true rfl) ⟨rfl, rfl⟩ ⟨(Nat.le_of_ble_eq_true rfl), (Nat.le_of_ble_eq_true rfl)⟩ (fun r1 w1 hp1 => ?_)
  obtain ⟨v, h1, m1, rfl, rfl, hM⟩ := hQ r1 w1 hp1
  refine Z_aload_n 481 1 dL_law_480 rfl rfl ?_
  refine Z_callV 484 [] 4 hM dL_law_481 rfl qL_68 kX4_fault rfl rfl (Nat.le_of_ble_eq_true rfl) rfl rfl ⟨(Nat.le_of_ble_eq_true rfl), (Nat.le_of_ble_eq_true rfl)⟩ (Nat.le_of_ble_eq_true rfl) ⟨rfl, rfl⟩ ⟨(Nat.le_of_ble_eq_true rfl), (Nat.le_of_ble_eq_true rfl)⟩ (fun r2 w2 hp2 => ?_)
  obtain ⟨rfl, m2, rfl, hR2⟩ := hp2
  exact Z_icmp_eq 487 882 dL_law_484 rfl rfl (fun _ => kk h1 m2 hR2) (fun c9 => absurd rfl c9)
set_option maxRecDepth 100000 in
set_option maxHeartbeats 4000000 in
theorem case13 (hL : L ≤ 2048) (hi : i + 3 < L) (hR : Rel K h m) (hK : K ≤ 100000) (kk : ∀ (h1 : Nat → Nat) (m1 : zM), Rel (K + 1) h1 m1 → ZL G l b L xs h1 m1 882 i) : ZL G l b L xs h m 489 i := by
  obtain ⟨Q, hX, hQ⟩ := p_signAll (G := G) (l := l) hR  
  refine Z_aload_n 490 2 dL_law_489 rfl rfl ?_
  refine Z_callV 493 [] 3 hX dL_law_490 rfl qL_69 kX3_signAll rfl rfl (Nat.le_of_ble_eq_true rfl) rfl rfl ⟨(Nat.le_of_ble_eq_true rfl), (Nat.le_of_ble_eq_true rfl)⟩ (Nat.le_of_ble_eq_true rfl) ⟨rfl, rfl⟩ ⟨(Nat.le_of_ble_eq_true rfl), (Nat.le_of_ble_eq_true rfl)⟩ (fun r1 w1 hp1 => ?_)
  obtain ⟨v, h1, m1, rfl, rfl, hM⟩ := hQ r1 w1 hp1
  refine Z_aload_n 494 1 dL_law_493 rfl rfl ?_
  refine Z_callV 497 [] 4 hM dL_law_494 rfl qL_72 kX4_signAll rfl rfl (Nat.le_of_ble_eq_true rfl) rfl rfl ⟨(Nat.le_of_ble_eq_true rfl), (Nat.le_of_ble_eq_true rfl)⟩ (Nat.le_of_ble_eq_true rfl) ⟨rfl, rfl⟩ ⟨(Nat.le_of_ble_eq_true rfl), (Nat.le_of_ble_eq_true rfl)⟩ (fun r2 w2 hp2 => ?_)
  obtain ⟨rfl, m2, rfl, hR2⟩ := hp2
  exact Z_icmp_eq 500 882 dL_law_497 rfl rfl (fun _ => kk h1 m2 hR2) (fun c9 => absurd rfl c9)
set_option maxRecDepth 100000 in
set_option maxHeartbeats 4000000 in
theorem case14 (hL : L ≤ 2048) (hi : i + 3 < L) (hR : Rel K h m) (hK : K ≤ 100000) (kk : ∀ (h1 : Nat → Nat) (m1 : zM), Rel (K + 1) h1 m1 → ZL G l b L xs h1 m1 882 i) : ZL G l b L xs h m 502 i := by
  obtain ⟨Q, hX, hQ⟩ := p_why (G := G) (l := l) hR  (xs (i + 1))
  refine Z_aload_n 503 2 dL_law_502 rfl rfl ?_
  refine Zarg (r := 1) 508 rfl rfl dL_law_503 dL_law_504 dL_law_505 dL_law_506 dL_law_507 rfl rfl (by omega) hL ?_
  refine Z_callV 511 [_] 3 hX dL_law_508 rfl qL_73 kX3_why rfl rfl (Nat.le_of_ble_eq_true rfl) rfl rfl ⟨(Nat.le_of_ble_eq_true rfl), (Nat.le_of_ble_eq_true rfl)⟩ (Nat.le_of_ble_eq_true rfl) ⟨rfl, rfl⟩ ⟨(Nat.le_of_ble_eq_true rfl), (Nat.le_of_ble_eq_true rfl)⟩ (fun r1 w1 hp1 => ?_)
  obtain ⟨v, h1, m1, rfl, rfl, hM⟩ := hQ r1 w1 hp1
  refine Z_aload_n 512 1 dL_law_511 rfl rfl ?_
  refine Zarg (r := 1) 517 rfl rfl dL_law_512 dL_law_513 dL_law_514 dL_law_515 dL_law_516 rfl rfl (by omega) hL ?_
  refine Z_callV 520 [_] 4 hM dL_law_517 rfl qL_76 kX4_why rfl rfl (Nat.le_of_ble_eq_true rfl) rfl rfl ⟨(Nat.le_of_ble_eq_true rfl), (Nat.le_of_ble_eq_true rfl)⟩ (Nat.le_of_ble_eq_true rfl) ⟨rfl, rfl⟩ ⟨(Nat.le_of_ble_eq_true rfl), (Nat.le_of_ble_eq_true rfl)⟩ (fun r2 w2 hp2 => ?_)
  obtain ⟨rfl, m2, rfl, hR2⟩ := hp2
  exact Z_icmp_eq 523 882 dL_law_520 rfl rfl (fun _ => kk h1 m2 hR2) (fun c9 => absurd rfl c9)
set_option maxRecDepth 100000 in
set_option maxHeartbeats 4000000 in
theorem case15 (hL : L ≤ 2048) (hi : i + 3 < L) (hR : Rel K h m) (hK : K ≤ 100000) (kk : ∀ (h1 : Nat → Nat) (m1 : zM), Rel (K + 1) h1 m1 → ZL G l b L xs h1 m1 882 i) : ZL G l b L xs h m 525 i := by
  obtain ⟨Q, hX, hQ⟩ := p_hedge (G := G) (l := l) hR  (xs (i + 1)) (xs (i + 2))
  refine Z_aload_n 526 2 dL_law_525 rfl rfl ?_
  refine Zarg (r := 1) 531 rfl rfl dL_law_526 dL_law_527 dL_law_528 dL_law_529 dL_law_530 rfl rfl (by omega) hL ?_
  refine Zarg (r := 2) 536 rfl rfl dL_law_531 dL_law_532 dL_law_533 dL_law_534 dL_law_535 rfl rfl (by omega) hL ?_
  refine Z_callV 539 [_, _] 3 hX dL_law_536 rfl qL_77 kX3_hedge rfl rfl (Nat.le_of_ble_eq_true rfl) rfl rfl ⟨(Nat.le_of_ble_eq_true rfl), (Nat.le_of_ble_eq_true rfl)⟩ (Nat.le_of_ble_eq_true rfl) ⟨rfl, rfl⟩ ⟨(Nat.le_of_ble_eq_true rfl), (Nat.le_of_ble_eq_true rfl)⟩ (fun r1 w1 hp1 => ?_)
  obtain ⟨v, h1, m1, rfl, rfl, hM⟩ := hQ r1 w1 hp1
  refine Z_aload_n 540 1 dL_law_539 rfl rfl ?_
  refine Zarg (r := 1) 545 rfl rfl dL_law_540 dL_law_541 dL_law_542 dL_law_543 dL_law_544 rfl rfl (by omega) hL ?_
  refine Zarg (r := 2) 550 rfl rfl dL_law_545 dL_law_546 dL_law_547 dL_law_548 dL_law_549 rfl rfl (by omega) hL ?_
  refine Z_callV 553 [_, _] 4 hM dL_law_550 rfl qL_80 kX4_hedge rfl rfl (Nat.le_of_ble_eq_true rfl) rfl rfl ⟨(Nat.le_of_ble_eq_true rfl), (Nat.le_of_ble_eq_true rfl)⟩ (Nat.le_of_ble_eq_true rfl) ⟨rfl, rfl⟩ ⟨(Nat.le_of_ble_eq_true rfl), (Nat.le_of_ble_eq_true rfl)⟩ (fun r2 w2 hp2 => ?_)
  obtain ⟨rfl, m2, rfl, hR2⟩ := hp2
  exact Z_icmp_eq 556 882 dL_law_553 rfl rfl (fun _ => kk h1 m2 hR2) (fun c9 => absurd rfl c9)
set_option maxRecDepth 100000 in
set_option maxHeartbeats 4000000 in
theorem case16 (hL : L ≤ 2048) (hi : i + 3 < L) (hR : Rel K h m) (hK : K ≤ 100000) (kk : ∀ (h1 : Nat → Nat) (m1 : zM), Rel (K + 1) h1 m1 → ZL G l b L xs h1 m1 882 i) : ZL G l b L xs h m 558 i := by
  obtain ⟨Q, hX, hQ⟩ := p_treaty (G := G) (l := l) hR  (xs (i + 1)) (xs (i + 2))
  refine Z_aload_n 559 2 dL_law_558 rfl rfl ?_
  refine Zarg (r := 1) 564 rfl rfl dL_law_559 dL_law_560 dL_law_561 dL_law_562 dL_law_563 rfl rfl (by omega) hL ?_
  refine Zarg (r := 2) 569 rfl rfl dL_law_564 dL_law_565 dL_law_566 dL_law_567 dL_law_568 rfl rfl (by omega) hL ?_
  refine Z_callV 572 [_, _] 3 hX dL_law_569 rfl qL_81 kX3_treaty rfl rfl (Nat.le_of_ble_eq_true rfl) rfl rfl ⟨(Nat.le_of_ble_eq_true rfl), (Nat.le_of_ble_eq_true rfl)⟩ (Nat.le_of_ble_eq_true rfl) ⟨rfl, rfl⟩ ⟨(Nat.le_of_ble_eq_true rfl), (Nat.le_of_ble_eq_true rfl)⟩ (fun r1 w1 hp1 => ?_)
  obtain ⟨v, h1, m1, rfl, rfl, hM⟩ := hQ r1 w1 hp1
  refine Z_aload_n 573 1 dL_law_572 rfl rfl ?_
  refine Zarg (r := 1) 578 rfl rfl dL_law_573 dL_law_574 dL_law_575 dL_law_576 dL_law_577 rfl rfl (by omega) hL ?_
  refine Zarg (r := 2) 583 rfl rfl dL_law_578 dL_law_579 dL_law_580 dL_law_581 dL_law_582 rfl rfl (by omega) hL ?_
  refine Z_callV 586 [_, _] 4 hM dL_law_583 rfl qL_84 kX4_treaty rfl rfl (Nat.le_of_ble_eq_true rfl) rfl rfl ⟨(Nat.le_of_ble_eq_true rfl), (Nat.le_of_ble_eq_true rfl)⟩ (Nat.le_of_ble_eq_true rfl) ⟨rfl, rfl⟩ ⟨(Nat.le_of_ble_eq_true rfl), (Nat.le_of_ble_eq_true rfl)⟩ (fun r2 w2 hp2 => ?_)
  obtain ⟨rfl, m2, rfl, hR2⟩ := hp2
  exact Z_icmp_eq 589 882 dL_law_586 rfl rfl (fun _ => kk h1 m2 hR2) (fun c9 => absurd rfl c9)
set_option maxRecDepth 100000 in
set_option maxHeartbeats 4000000 in
theorem case17 (hL : L ≤ 2048) (hi : i + 3 < L) (hR : Rel K h m) (hK : K ≤ 100000) (kk : ∀ (h1 : Nat → Nat) (m1 : zM), Rel (K + 1) h1 m1 → ZL G l b L xs h1 m1 882 i) : ZL G l b L xs h m 591 i := by
  obtain ⟨Q, hX, hQ⟩ := p_bound (G := G) (l := l) hR  (xs (i + 1)) (xs (i + 2)) (xs (i + 3))
  refine Z_aload_n 592 2 dL_law_591 rfl rfl ?_
  refine Zarg (r := 1) 597 rfl rfl dL_law_592 dL_law_593 dL_law_594 dL_law_595 dL_law_596 rfl rfl (by omega) hL ?_
  refine Zarg (r := 2) 602 rfl rfl dL_law_597 dL_law_598 dL_law_599 dL_law_600 dL_law_601 rfl rfl (by omega) hL ?_
  refine Zarg (r := 3) 607 rfl rfl dL_law_602 dL_law_603 dL_law_604 dL_law_605 dL_law_606 rfl rfl (by omega) hL ?_
  refine Z_callV 610 [_, _, _] 3 hX dL_law_607 rfl qL_85 kX3_bound rfl rfl (Nat.le_of_ble_eq_true rfl) rfl rfl ⟨(Nat.le_of_ble_eq_true rfl), (Nat.le_of_ble_eq_true rfl)⟩ (Nat.le_of_ble_eq_true rfl) ⟨rfl, rfl⟩ ⟨(Nat.le_of_ble_eq_true rfl), (Nat.le_of_ble_eq_true rfl)⟩ (fun r1 w1 hp1 => ?_)
  obtain ⟨v, h1, m1, rfl, rfl, hM⟩ := hQ r1 w1 hp1
  refine Z_aload_n 611 1 dL_law_610 rfl rfl ?_
  refine Zarg (r := 1) 616 rfl rfl dL_law_611 dL_law_612 dL_law_613 dL_law_614 dL_law_615 rfl rfl (by omega) hL ?_
  refine Zarg (r := 2) 621 rfl rfl dL_law_616 dL_law_617 dL_law_618 dL_law_619 dL_law_620 rfl rfl (by omega) hL ?_
  refine Zarg (r := 3) 626 rfl rfl dL_law_621 dL_law_622 dL_law_623 dL_law_624 dL_law_625 rfl rfl (by omega) hL ?_
  refine Z_callV 629 [_, _, _] 4 hM dL_law_626 rfl qL_88 kX4_bound rfl rfl (Nat.le_of_ble_eq_true rfl) rfl rfl ⟨(Nat.le_of_ble_eq_true rfl), (Nat.le_of_ble_eq_true rfl)⟩ (Nat.le_of_ble_eq_true rfl) ⟨rfl, rfl⟩ ⟨(Nat.le_of_ble_eq_true rfl), (Nat.le_of_ble_eq_true rfl)⟩ (fun r2 w2 hp2 => ?_)
  obtain ⟨rfl, m2, rfl, hR2⟩ := hp2
  exact Z_icmp_eq 632 882 dL_law_629 rfl rfl (fun _ => kk h1 m2 hR2) (fun c9 => absurd rfl c9)
set_option maxRecDepth 100000 in
set_option maxHeartbeats 4000000 in
theorem case18 (hL : L ≤ 2048) (hi : i + 3 < L) (hR : Rel K h m) (hK : K ≤ 100000) (kk : ∀ (h1 : Nat → Nat) (m1 : zM), Rel (K + 1) h1 m1 → ZL G l b L xs h1 m1 882 i) : ZL G l b L xs h m 634 i := by
  obtain ⟨Q, hX, hQ⟩ := p_whyNot (G := G) (l := l) hR  (xs (i + 1)) (xs (i + 2)) (xs (i + 3))
  refine Z_aload_n 635 2 dL_law_634 rfl rfl ?_
  refine Zarg (r := 1) 640 rfl rfl dL_law_635 dL_law_636 dL_law_637 dL_law_638 dL_law_639 rfl rfl (by omega) hL ?_
  refine Zarg (r := 2) 645 rfl rfl dL_law_640 dL_law_641 dL_law_642 dL_law_643 dL_law_644 rfl rfl (by omega) hL ?_
  refine Zarg (r := 3) 650 rfl rfl dL_law_645 dL_law_646 dL_law_647 dL_law_648 dL_law_649 rfl rfl (by omega) hL ?_
  refine Z_callV 653 [_, _, _] 3 hX dL_law_650 rfl qL_89 kX3_whyNot rfl rfl (Nat.le_of_ble_eq_true rfl) rfl rfl ⟨(Nat.le_of_ble_eq_true rfl), (Nat.le_of_ble_eq_true rfl)⟩ (Nat.le_of_ble_eq_true rfl) ⟨rfl, rfl⟩ ⟨(Nat.le_of_ble_eq_true rfl), (Nat.le_of_ble_eq_true rfl)⟩ (fun r1 w1 hp1 => ?_)
  obtain ⟨v, h1, m1, rfl, rfl, hM⟩ := hQ r1 w1 hp1
  refine Z_aload_n 654 1 dL_law_653 rfl rfl ?_
  refine Zarg (r := 1) 659 rfl rfl dL_law_654 dL_law_655 dL_law_656 dL_law_657 dL_law_658 rfl rfl (by omega) hL ?_
  refine Zarg (r := 2) 664 rfl rfl dL_law_659 dL_law_660 dL_law_661 dL_law_662 dL_law_663 rfl rfl (by omega) hL ?_
  refine Zarg (r := 3) 669 rfl rfl dL_law_664 dL_law_665 dL_law_666 dL_law_667 dL_law_668 rfl rfl (by omega) hL ?_
  refine Z_callV 672 [_, _, _] 4 hM dL_law_669 rfl qL_92 kX4_whyNot rfl rfl (Nat.le_of_ble_eq_true rfl) rfl rfl ⟨(Nat.le_of_ble_eq_true rfl), (Nat.le_of_ble_eq_true rfl)⟩ (Nat.le_of_ble_eq_true rfl) ⟨rfl, rfl⟩ ⟨(Nat.le_of_ble_eq_true rfl), (Nat.le_of_ble_eq_true rfl)⟩ (fun r2 w2 hp2 => ?_)
  obtain ⟨rfl, m2, rfl, hR2⟩ := hp2
  exact Z_icmp_eq 675 882 dL_law_672 rfl rfl (fun _ => kk h1 m2 hR2) (fun c9 => absurd rfl c9)
set_option maxRecDepth 100000 in
set_option maxHeartbeats 4000000 in
theorem case19 (hL : L ≤ 2048) (hi : i + 3 < L) (hR : Rel K h m) (hK : K ≤ 100000) (kk : ∀ (h1 : Nat → Nat) (m1 : zM), Rel (K + 1) h1 m1 → ZL G l b L xs h1 m1 882 i) : ZL G l b L xs h m 677 i := by
  obtain ⟨Q, hX, hQ⟩ := p_clipping (G := G) (l := l) hR  (xs (i + 1))
  refine Z_aload_n 678 2 dL_law_677 rfl rfl ?_
  refine Zarg (r := 1) 683 rfl rfl dL_law_678 dL_law_679 dL_law_680 dL_law_681 dL_law_682 rfl rfl (by omega) hL ?_
  refine Z_callV 686 [_] 3 hX dL_law_683 rfl qL_93 kX3_clipping rfl rfl (Nat.le_of_ble_eq_true rfl) rfl rfl ⟨(Nat.le_of_ble_eq_true rfl), (Nat.le_of_ble_eq_true rfl)⟩ (Nat.le_of_ble_eq_true rfl) ⟨rfl, rfl⟩ ⟨(Nat.le_of_ble_eq_true rfl), (Nat.le_of_ble_eq_true rfl)⟩ (fun r1 w1 hp1 => ?_)
  obtain ⟨v, h1, m1, rfl, rfl, hM⟩ := hQ r1 w1 hp1
  refine Z_aload_n 687 1 dL_law_686 rfl rfl ?_
  refine Zarg (r := 1) 692 rfl rfl dL_law_687 dL_law_688 dL_law_689 dL_law_690 dL_law_691 rfl rfl (by omega) hL ?_
  refine Z_callV 695 [_] 4 hM dL_law_692 rfl qL_96 kX4_clipping rfl rfl (Nat.le_of_ble_eq_true rfl) rfl rfl ⟨(Nat.le_of_ble_eq_true rfl), (Nat.le_of_ble_eq_true rfl)⟩ (Nat.le_of_ble_eq_true rfl) ⟨rfl, rfl⟩ ⟨(Nat.le_of_ble_eq_true rfl), (Nat.le_of_ble_eq_true rfl)⟩ (fun r2 w2 hp2 => ?_)
  obtain ⟨rfl, m2, rfl, hR2⟩ := hp2
  exact Z_icmp_eq 698 882 dL_law_695 rfl rfl (fun _ => kk h1 m2 hR2) (fun c9 => absurd rfl c9)
set_option maxRecDepth 100000 in
set_option maxHeartbeats 4000000 in
theorem case20 (hL : L ≤ 2048) (hi : i + 3 < L) (hR : Rel K h m) (hK : K ≤ 100000) (kk : ∀ (h1 : Nat → Nat) (m1 : zM), Rel (K + 1) h1 m1 → ZL G l b L xs h1 m1 882 i) : ZL G l b L xs h m 700 i := by
  obtain ⟨Q, hX, hQ⟩ := p_count (G := G) (l := l) hR  (xs (i + 1))
  refine Z_aload_n 701 2 dL_law_700 rfl rfl ?_
  refine Zarg (r := 1) 706 rfl rfl dL_law_701 dL_law_702 dL_law_703 dL_law_704 dL_law_705 rfl rfl (by omega) hL ?_
  refine Z_callV 709 [_] 3 hX dL_law_706 rfl qL_97 kX3_count rfl rfl (Nat.le_of_ble_eq_true rfl) rfl rfl ⟨(Nat.le_of_ble_eq_true rfl), (Nat.le_of_ble_eq_true rfl)⟩ (Nat.le_of_ble_eq_true rfl) ⟨rfl, rfl⟩ ⟨(Nat.le_of_ble_eq_true rfl), (Nat.le_of_ble_eq_true rfl)⟩ (fun r1 w1 hp1 => ?_)
  obtain ⟨v, h1, m1, rfl, rfl, hM⟩ := hQ r1 w1 hp1
  refine Z_aload_n 710 1 dL_law_709 rfl rfl ?_
  refine Zarg (r := 1) 715 rfl rfl dL_law_710 dL_law_711 dL_law_712 dL_law_713 dL_law_714 rfl rfl (by omega) hL ?_
  refine Z_callV 718 [_] 4 hM dL_law_715 rfl qL_100 kX4_count rfl rfl (Nat.le_of_ble_eq_true rfl) rfl rfl ⟨(Nat.le_of_ble_eq_true rfl), (Nat.le_of_ble_eq_true rfl)⟩ (Nat.le_of_ble_eq_true rfl) ⟨rfl, rfl⟩ ⟨(Nat.le_of_ble_eq_true rfl), (Nat.le_of_ble_eq_true rfl)⟩ (fun r2 w2 hp2 => ?_)
  obtain ⟨rfl, m2, rfl, hR2⟩ := hp2
  exact Z_icmp_eq 721 882 dL_law_718 rfl rfl (fun _ => kk h1 m2 hR2) (fun c9 => absurd rfl c9)
set_option maxRecDepth 100000 in
set_option maxHeartbeats 4000000 in
theorem case21 (hL : L ≤ 2048) (hi : i + 3 < L) (hR : Rel K h m) (hK : K ≤ 100000) (kk : ∀ (h1 : Nat → Nat) (m1 : zM), Rel (K + 1) h1 m1 → ZL G l b L xs h1 m1 882 i) : ZL G l b L xs h m 723 i := by
  obtain ⟨v, -, hX, hM⟩ := p_peace (G := G) (l := l) hR
  have e9 : Z G mL_law (EL G b L xs) QL l 83 1608 (zw h m) 761 [(6, .double v), (4, .double v), (3, .int (nI i)), (2, .ref (G.1 + 74)), (1, .ref (G.1 + 0)), (0, .ref b)] [] := Z_goto 882 dL_law_761 rfl (Z_lv [2, 3, 4, 5] rfl (kk h m (hR.mono (by omega))))
  refine Z_aload_n 724 2 dL_law_723 rfl rfl ?_
  refine Z_callV 727 [] 3 hX dL_law_724 rfl qL_101 kX3_peace rfl rfl (Nat.le_of_ble_eq_true rfl) rfl rfl ⟨(Nat.le_of_ble_eq_true rfl), (Nat.le_of_ble_eq_true rfl)⟩ (Nat.le_of_ble_eq_true rfl) ⟨rfl, rfl⟩ ⟨(Nat.le_of_ble_eq_true rfl), (Nat.le_of_ble_eq_true rfl)⟩ (fun r1 w1 hp1 => ?_)
  obtain ⟨rfl, rfl⟩ := hp1
  refine Z_dstore 729 [(4, .double v), (3, _), (2, _), (1, _), (0, _)] dL_law_727 rfl (Nat.le_of_ble_eq_true rfl) rfl ?_
  refine Z_aload_n 730 2 dL_law_729 rfl rfl ?_
  refine Z_callV 733 [] 4 hM dL_law_730 rfl qL_105 kX4_peace rfl rfl (Nat.le_of_ble_eq_true rfl) rfl rfl ⟨(Nat.le_of_ble_eq_true rfl), (Nat.le_of_ble_eq_true rfl)⟩ (Nat.le_of_ble_eq_true rfl) ⟨rfl, rfl⟩ ⟨(Nat.le_of_ble_eq_true rfl), (Nat.le_of_ble_eq_true rfl)⟩ (fun r2 w2 hp2 => ?_)
  obtain ⟨rfl, rfl⟩ := hp2
  refine Z_dstore 735 [(6, .double v), (4, .double v), (3, _), (2, _), (1, _), (0, _)] dL_law_733 rfl (Nat.le_of_ble_eq_true rfl) rfl ?_
  refine Z_dload 737 1 dL_law_735 rfl rfl ?_
  refine Z_dload 739 0 dL_law_737 rfl rfl ?_
  refine Z_dcmp 740 dL_law_739 rfl ?_
  refine Z_if_eq 743 761 dL_law_740 rfl rfl (fun _ => e9) (fun c1 => ?_)
  refine Z_dload 745 1 dL_law_743 rfl rfl ?_
  refine Z_dload 747 1 dL_law_745 rfl rfl ?_
  refine Z_dcmp 748 dL_law_747 rfl ?_
  refine Z_if_eq 751 759 dL_law_748 rfl rfl (fun c2 => absurd c2 c1) (fun _ => ?_)
  refine Z_dload 753 0 dL_law_751 rfl rfl ?_
  refine Z_dload 755 0 dL_law_753 rfl rfl ?_
  refine Z_dcmp 756 dL_law_755 rfl ?_
  exact Z_if_ne 759 761 dL_law_756 rfl rfl (fun _ => e9) (fun c3 => absurd c1 c3)
set_option maxRecDepth 100000 in
set_option maxHeartbeats 4000000 in
theorem case22 (hL : L ≤ 2048) (hi : i + 3 < L) (hR : Rel K h m) (hK : K ≤ 100000) (kk : ∀ (h1 : Nat → Nat) (m1 : zM), Rel (K + 1) h1 m1 → ZL G l b L xs h1 m1 882 i) : ZL G l b L xs h m 764 i := by
  obtain ⟨Q, hX, hQ⟩ := p_ifDays (G := G) (l := l) hR  (xs (i + 1)) (xs (i + 2))
  refine Z_aload_n 765 2 dL_law_764 rfl rfl ?_
  refine Zarg (r := 1) 770 rfl rfl dL_law_765 dL_law_766 dL_law_767 dL_law_768 dL_law_769 rfl rfl (by omega) hL ?_
  refine Zarg (r := 2) 775 rfl rfl dL_law_770 dL_law_771 dL_law_772 dL_law_773 dL_law_774 rfl rfl (by omega) hL ?_
  refine Z_callV 778 [_, _] 3 hX dL_law_775 rfl qL_106 kX3_ifDays rfl rfl (Nat.le_of_ble_eq_true rfl) rfl rfl ⟨(Nat.le_of_ble_eq_true rfl), (Nat.le_of_ble_eq_true rfl)⟩ (Nat.le_of_ble_eq_true rfl) ⟨rfl, rfl⟩ ⟨(Nat.le_of_ble_eq_true rfl), (Nat.le_of_ble_eq_true rfl)⟩ (fun r1 w1 hp1 => ?_)
  obtain ⟨v, h1, m1, rfl, rfl, hM⟩ := hQ r1 w1 hp1
  refine Z_aload_n 779 1 dL_law_778 rfl rfl ?_
  refine Zarg (r := 1) 784 rfl rfl dL_law_779 dL_law_780 dL_law_781 dL_law_782 dL_law_783 rfl rfl (by omega) hL ?_
  refine Zarg (r := 2) 789 rfl rfl dL_law_784 dL_law_785 dL_law_786 dL_law_787 dL_law_788 rfl rfl (by omega) hL ?_
  refine Z_callV 792 [_, _] 4 hM dL_law_789 rfl qL_109 kX4_ifDays rfl rfl (Nat.le_of_ble_eq_true rfl) rfl rfl ⟨(Nat.le_of_ble_eq_true rfl), (Nat.le_of_ble_eq_true rfl)⟩ (Nat.le_of_ble_eq_true rfl) ⟨rfl, rfl⟩ ⟨(Nat.le_of_ble_eq_true rfl), (Nat.le_of_ble_eq_true rfl)⟩ (fun r2 w2 hp2 => ?_)
  obtain ⟨rfl, m2, rfl, hR2⟩ := hp2
  exact Z_icmp_eq 795 882 dL_law_792 rfl rfl (fun _ => kk h1 m2 hR2) (fun c9 => absurd rfl c9)
set_option maxRecDepth 100000 in
set_option maxHeartbeats 4000000 in
theorem case23 (hL : L ≤ 2048) (hi : i + 3 < L) (hR : Rel K h m) (hK : K ≤ 100000) (kk : ∀ (h1 : Nat → Nat) (m1 : zM), Rel (K + 1) h1 m1 → ZL G l b L xs h1 m1 882 i) : ZL G l b L xs h m 797 i := by
  obtain ⟨Q, hX, hQ⟩ := p_breaksIn (G := G) (l := l) hR  
  refine Z_aload_n 798 2 dL_law_797 rfl rfl ?_
  refine Z_callV 801 [] 3 hX dL_law_798 rfl qL_110 kX3_breaksIn rfl rfl (Nat.le_of_ble_eq_true rfl) rfl rfl ⟨(Nat.le_of_ble_eq_true rfl), (Nat.le_of_ble_eq_true rfl)⟩ (Nat.le_of_ble_eq_true rfl) ⟨rfl, rfl⟩ ⟨(Nat.le_of_ble_eq_true rfl), (Nat.le_of_ble_eq_true rfl)⟩ (fun r1 w1 hp1 => ?_)
  obtain ⟨v, h1, m1, rfl, rfl, hM⟩ := hQ r1 w1 hp1
  refine Z_aload_n 802 1 dL_law_801 rfl rfl ?_
  refine Z_callV 805 [] 4 hM dL_law_802 rfl qL_113 kX4_breaksIn rfl rfl (Nat.le_of_ble_eq_true rfl) rfl rfl ⟨(Nat.le_of_ble_eq_true rfl), (Nat.le_of_ble_eq_true rfl)⟩ (Nat.le_of_ble_eq_true rfl) ⟨rfl, rfl⟩ ⟨(Nat.le_of_ble_eq_true rfl), (Nat.le_of_ble_eq_true rfl)⟩ (fun r2 w2 hp2 => ?_)
  obtain ⟨rfl, m2, rfl, hR2⟩ := hp2
  exact Z_icmp_eq 808 882 dL_law_805 rfl rfl (fun _ => kk h1 m2 hR2) (fun c9 => absurd rfl c9)
set_option maxRecDepth 100000 in
set_option maxHeartbeats 4000000 in
theorem case24 (hL : L ≤ 2048) (hi : i + 3 < L) (hR : Rel K h m) (hK : K ≤ 100000) (kk : ∀ (h1 : Nat → Nat) (m1 : zM), Rel (K + 1) h1 m1 → ZL G l b L xs h1 m1 882 i) : ZL G l b L xs h m 810 i := by
  obtain ⟨Q, hX, hQ⟩ := p_tightest (G := G) (l := l) hR  (xs (i + 1)) (xs (i + 2))
  refine Z_aload_n 811 2 dL_law_810 rfl rfl ?_
  refine Zarg (r := 1) 816 rfl rfl dL_law_811 dL_law_812 dL_law_813 dL_law_814 dL_law_815 rfl rfl (by omega) hL ?_
  refine Zarg (r := 2) 821 rfl rfl dL_law_816 dL_law_817 dL_law_818 dL_law_819 dL_law_820 rfl rfl (by omega) hL ?_
  refine Z_callV 824 [_, _] 3 hX dL_law_821 rfl qL_114 kX3_tightest rfl rfl (Nat.le_of_ble_eq_true rfl) rfl rfl ⟨(Nat.le_of_ble_eq_true rfl), (Nat.le_of_ble_eq_true rfl)⟩ (Nat.le_of_ble_eq_true rfl) ⟨rfl, rfl⟩ ⟨(Nat.le_of_ble_eq_true rfl), (Nat.le_of_ble_eq_true rfl)⟩ (fun r1 w1 hp1 => ?_)
  obtain ⟨v, h1, m1, rfl, rfl, hM⟩ := hQ r1 w1 hp1
  refine Z_aload_n 825 1 dL_law_824 rfl rfl ?_
  refine Zarg (r := 1) 830 rfl rfl dL_law_825 dL_law_826 dL_law_827 dL_law_828 dL_law_829 rfl rfl (by omega) hL ?_
  refine Zarg (r := 2) 835 rfl rfl dL_law_830 dL_law_831 dL_law_832 dL_law_833 dL_law_834 rfl rfl (by omega) hL ?_
  refine Z_callV 838 [_, _] 4 hM dL_law_835 rfl qL_117 kX4_tightest rfl rfl (Nat.le_of_ble_eq_true rfl) rfl rfl ⟨(Nat.le_of_ble_eq_true rfl), (Nat.le_of_ble_eq_true rfl)⟩ (Nat.le_of_ble_eq_true rfl) ⟨rfl, rfl⟩ ⟨(Nat.le_of_ble_eq_true rfl), (Nat.le_of_ble_eq_true rfl)⟩ (fun r2 w2 hp2 => ?_)
  obtain ⟨rfl, m2, rfl, hR2⟩ := hp2
  exact Z_icmp_eq 841 882 dL_law_838 rfl rfl (fun _ => kk h1 m2 hR2) (fun c9 => absurd rfl c9)
set_option maxRecDepth 100000 in
set_option maxHeartbeats 4000000 in
theorem case25 (hL : L ≤ 2048) (hi : i + 3 < L) (hR : Rel K h m) (hK : K ≤ 100000) (kk : ∀ (h1 : Nat → Nat) (m1 : zM), Rel (K + 1) h1 m1 → ZL G l b L xs h1 m1 882 i) : ZL G l b L xs h m 843 i := by
  obtain ⟨Q, hX, hQ⟩ := p_undo (G := G) (l := l) hR  
  refine Z_aload_n 844 2 dL_law_843 rfl rfl ?_
  refine Z_callV 847 [] 3 hX dL_law_844 rfl qL_118 kX3_undo rfl rfl (Nat.le_of_ble_eq_true rfl) rfl rfl ⟨(Nat.le_of_ble_eq_true rfl), (Nat.le_of_ble_eq_true rfl)⟩ (Nat.le_of_ble_eq_true rfl) ⟨rfl, rfl⟩ ⟨(Nat.le_of_ble_eq_true rfl), (Nat.le_of_ble_eq_true rfl)⟩ (fun r1 w1 hp1 => ?_)
  obtain ⟨v, h1, m1, rfl, rfl, hM⟩ := hQ r1 w1 hp1
  refine Z_aload_n 848 1 dL_law_847 rfl rfl ?_
  refine Z_callV 851 [] 4 hM dL_law_848 rfl qL_121 kX4_undo rfl rfl (Nat.le_of_ble_eq_true rfl) rfl rfl ⟨(Nat.le_of_ble_eq_true rfl), (Nat.le_of_ble_eq_true rfl)⟩ (Nat.le_of_ble_eq_true rfl) ⟨rfl, rfl⟩ ⟨(Nat.le_of_ble_eq_true rfl), (Nat.le_of_ble_eq_true rfl)⟩ (fun r2 w2 hp2 => ?_)
  obtain ⟨rfl, m2, rfl, hR2⟩ := hp2
  exact Z_icmp_eq 854 882 dL_law_851 rfl rfl (fun _ => kk h1 m2 hR2) (fun c9 => absurd rfl c9)
set_option maxRecDepth 100000 in
set_option maxHeartbeats 4000000 in
theorem case26 (hL : L ≤ 2048) (hi : i + 3 < L) (hR : Rel K h m) (hK : K ≤ 100000) (kk : ∀ (h1 : Nat → Nat) (m1 : zM), Rel (K + 1) h1 m1 → ZL G l b L xs h1 m1 882 i) : ZL G l b L xs h m 856 i := by
  obtain ⟨Q, hX, hQ⟩ := p_save (G := G) (l := l) hR  
  refine Z_aload_n 857 2 dL_law_856 rfl rfl ?_
  refine Z_callV 860 [] 3 hX dL_law_857 rfl qL_122 kX3_save rfl rfl (Nat.le_of_ble_eq_true rfl) rfl rfl ⟨(Nat.le_of_ble_eq_true rfl), (Nat.le_of_ble_eq_true rfl)⟩ (Nat.le_of_ble_eq_true rfl) ⟨rfl, rfl⟩ ⟨(Nat.le_of_ble_eq_true rfl), (Nat.le_of_ble_eq_true rfl)⟩ (fun r1 w1 hp1 => ?_)
  obtain ⟨v, h1, m1, rfl, rfl, hM⟩ := hQ r1 w1 hp1
  refine Z_aload_n 861 1 dL_law_860 rfl rfl ?_
  refine Z_callV 864 [] 4 hM dL_law_861 rfl qL_125 kX4_save rfl rfl (Nat.le_of_ble_eq_true rfl) rfl rfl ⟨(Nat.le_of_ble_eq_true rfl), (Nat.le_of_ble_eq_true rfl)⟩ (Nat.le_of_ble_eq_true rfl) ⟨rfl, rfl⟩ ⟨(Nat.le_of_ble_eq_true rfl), (Nat.le_of_ble_eq_true rfl)⟩ (fun r2 w2 hp2 => ?_)
  obtain ⟨rfl, m2, rfl, hR2⟩ := hp2
  exact Z_icmp_eq 867 882 dL_law_864 rfl rfl (fun _ => kk h1 m2 hR2) (fun c9 => absurd rfl c9)
set_option maxRecDepth 100000 in
set_option maxHeartbeats 4000000 in
theorem case27 (hL : L ≤ 2048) (hi : i + 3 < L) (hR : Rel K h m) (hK : K ≤ 100000) (kk : ∀ (h1 : Nat → Nat) (m1 : zM), Rel (K + 1) h1 m1 → ZL G l b L xs h1 m1 882 i) : ZL G l b L xs h m 869 i := by
  obtain ⟨Q, hX, hQ⟩ := p_restore (G := G) (l := l) hR  
  refine Z_aload_n 870 2 dL_law_869 rfl rfl ?_
  refine Z_callV 873 [] 3 hX dL_law_870 rfl qL_126 kX3_restore rfl rfl (Nat.le_of_ble_eq_true rfl) rfl rfl ⟨(Nat.le_of_ble_eq_true rfl), (Nat.le_of_ble_eq_true rfl)⟩ (Nat.le_of_ble_eq_true rfl) ⟨rfl, rfl⟩ ⟨(Nat.le_of_ble_eq_true rfl), (Nat.le_of_ble_eq_true rfl)⟩ (fun r1 w1 hp1 => ?_)
  obtain ⟨v, h1, m1, rfl, rfl, hM⟩ := hQ r1 w1 hp1
  refine Z_aload_n 874 1 dL_law_873 rfl rfl ?_
  refine Z_callV 877 [] 4 hM dL_law_874 rfl qL_129 kX4_restore rfl rfl (Nat.le_of_ble_eq_true rfl) rfl rfl ⟨(Nat.le_of_ble_eq_true rfl), (Nat.le_of_ble_eq_true rfl)⟩ (Nat.le_of_ble_eq_true rfl) ⟨rfl, rfl⟩ ⟨(Nat.le_of_ble_eq_true rfl), (Nat.le_of_ble_eq_true rfl)⟩ (fun r2 w2 hp2 => ?_)
  obtain ⟨rfl, m2, rfl, hR2⟩ := hp2
  exact Z_icmp_eq 880 882 dL_law_877 rfl rfl (fun _ => kk h1 m2 hR2) (fun c9 => absurd rfl c9)
end
