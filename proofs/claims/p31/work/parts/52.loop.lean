/-! the law: its loop -/
section
variable {G : zG} {l : Launch} {b L : Nat} {xs : Nat → Int32}
set_option maxRecDepth 100000 in
set_option maxHeartbeats 4000000 in
theorem law381 {K n s : Nat} {h : Nat → Nat} {m : zM} (sy : Sy K h m n s) : ∀ mm : zM, Fsv m mm → Z G mL_law (EL G b L xs) QL l 74 847 (zw h mm) 381 [(2, .int (nI 1)), (1, .ref (G.1 + 0)), (0, .ref b)] [] := by
  intro mm hF
  refine Z_iload_n 382 0 dL_law_381 rfl rfl ?_
  refine Z_if_eq 385 396 dL_law_382 rfl rfl (fun c382 => absurd c382 (by decide)) (fun c382 => ?_)
  refine Z_aload_n 386 1 dL_law_385 rfl rfl ?_
  refine Z_callS 389 [_] (zL_holds sy.inv hF) dL_law_386 rfl qL_119 kL_holds rfl rfl ⟨(Nat.le_of_ble_eq_true rfl), (Nat.le_of_ble_eq_true rfl)⟩ (Nat.le_of_ble_eq_true rfl) ⟨rfl, rfl⟩ ⟨(Nat.le_of_ble_eq_true rfl), (Nat.le_of_ble_eq_true rfl)⟩ (fun r9 w9 hp9 => ?_)
  obtain ⟨rfl, mm, rfl, hF⟩ := hp9
  refine Z_if_eq 392 396 dL_law_389 rfl rfl (fun c389 => absurd c389 (by decide)) (fun c389 => ?_)
  refine Z_iconst 393 (nI 1) dL_law_392 rfl rfl ?_
  refine Z_goto 397 dL_law_393 rfl ?_
  exact Z_lawret dL_law_397 (Nat.le_of_ble_eq_true rfl) (Nat.le_of_ble_eq_true rfl)

set_option maxRecDepth 100000 in
set_option maxHeartbeats 4000000 in
theorem law326 {i : Nat} (hi : i < 54) (kk : ∀ (h : Nat → Nat) (m : zM) (n s : Nat) (kept : Int64), Sy (2 * (i + 1)) h m n s → Sn (2 * (i + 1)) m kept → ∀ mm : zM, Fsv m mm → Z G mL_law (EL G b L xs) QL l 74 847 (zw h mm) 62 [(5, .int (nI (i + 1))), (3, .long kept), (2, .int (nI 1)), (1, .ref (G.1 + 0)), (0, .ref b)] []) : ∀ (h : Nat → Nat) (m : zM) (n s : Nat) (kept : Int64), Sy (2 * i + 2) h m n s → Sn (2 * i + 2) m kept → ∀ mm : zM, Fsv m mm → Z G mL_law (EL G b L xs) QL l 74 847 (zw h mm) 326 [(5, .int (nI i)), (3, .long kept), (2, .int (nI 1)), (1, .ref (G.1 + 0)), (0, .ref b)] [] := by
  intro h m n s kept sy hS mm hF
  have hk := sy.ok
  refine Z_iload_n 327 2 dL_law_326 rfl rfl ?_
  refine Z_if_eq 330 375 dL_law_327 rfl rfl (fun c327 => absurd c327 (by decide)) (fun c327 => ?_)
  refine Z_iload 332 0 dL_law_330 rfl rfl ?_
  refine Z_bipush 334 (nI 11) dL_law_332 rfl rfl ?_
  refine Z_remN 335 dL_law_334 rfl (by omega) (by decide) (by decide) ?_
  refine Z_bipush 337 (nI 10) dL_law_335 rfl rfl ?_
  refine Z_icmp_ne 340 375 dL_law_337 rfl rfl (fun c337 => ?_) (fun c337 => ?_)
  · skip
    refine Z_iinc 378 [(5, _), (3, _), (2, _), (1, _), (0, _)] 0 _ dL_law_375 rfl (Nat.le_of_ble_eq_true rfl) rfl (nI_1 _) rfl ?_
    refine Z_goto 62 dL_law_378 rfl ?_
    first | exact kk _ _ _ _ _ (syU.mono (by omega)) (hSU.mono (by omega)) _ hF | exact kk _ _ _ _ _ (sy.mono (by omega)) (hS.mono (by omega)) _ hF
  · skip
    refine Z_aload_n 341 3 dL_law_340 rfl rfl ?_
    refine Z_bipush 343 (nI 12) dL_law_341 rfl rfl ?_
    refine Z_callV 346 [_] 3 (v_count12 hF hk) dL_law_343 rfl qL_13 kX3_count rfl rfl (Nat.le_of_ble_eq_true rfl) rfl rfl ⟨(Nat.le_of_ble_eq_true rfl), (Nat.le_of_ble_eq_true rfl)⟩ (Nat.le_of_ble_eq_true rfl) ⟨rfl, rfl⟩ ⟨(Nat.le_of_ble_eq_true rfl), (Nat.le_of_ble_eq_true rfl)⟩ (fun r9 w9 hp9 => ?_)
    obtain ⟨rfl, mm, rfl, hF⟩ := hp9
    refine Z_top (v' := .int (nI s)) (congrArg Value.int sy.st) ?_
    refine Z_istore 348 [(12, _), (5, _), (3, _), (2, _), (1, _), (0, _)] dL_law_346 rfl (Nat.le_of_ble_eq_true rfl) rfl ?_
    rcases s with _ | s
    · skip
      refine Z_aload_n 349 4 dL_law_348 rfl rfl ?_
      refine Z_callV 352 [] 3 (e_undo sy hF) dL_law_349 rfl qL_126 kX3_undo rfl rfl (Nat.le_of_ble_eq_true rfl) rfl rfl ⟨(Nat.le_of_ble_eq_true rfl), (Nat.le_of_ble_eq_true rfl)⟩ (Nat.le_of_ble_eq_true rfl) ⟨rfl, rfl⟩ ⟨(Nat.le_of_ble_eq_true rfl), (Nat.le_of_ble_eq_true rfl)⟩ (fun r9 w9 hp9 => ?_)
      obtain ⟨rfl, mm, rfl, hF⟩ := hp9
      refine Z_iload 354 0 dL_law_352 rfl rfl ?_
      refine Z_if_ne 357 362 dL_law_354 rfl rfl (fun c354 => absurd c354 (by decide)) (fun c354 => ?_)
      refine Z_bipush 359 (-2) dL_law_357 rfl rfl ?_
      refine Z_goto 366 dL_law_359 rfl ?_
      refine Z_icmp_ne 369 373 dL_law_366 rfl rfl (fun c366 => absurd c366 (by decide)) (fun c366 => ?_)
      refine Z_iconst 370 (nI 1) dL_law_369 rfl rfl ?_
      refine Z_goto 374 dL_law_370 rfl ?_
      refine Z_istore_n 375 [(2, _), (12, _), (5, _), (3, _), (1, _), (0, _)] dL_law_374 rfl (Nat.le_of_ble_eq_true rfl) rfl ?_
      refine Z_iinc 378 [(5, _), (2, _), (12, _), (3, _), (1, _), (0, _)] 2 _ dL_law_375 rfl (Nat.le_of_ble_eq_true rfl) rfl (nI_1 _) rfl ?_
      refine Z_goto 62 dL_law_378 rfl ?_
      refine Z_lv [0, 3, 1, 4, 5] rfl ?_
      first | exact kk _ _ _ _ _ (syU.mono (by omega)) (hSU.mono (by omega)) _ hF | exact kk _ _ _ _ _ (sy.mono (by omega)) (hS.mono (by omega)) _ hF
    · obtain ⟨n2, hI2⟩ := sy.2.2.1.2.2 s (Nat.lt_succ_self s)
      have hs4 := sy.s4
      refine Z_aload_n 349 4 dL_law_348 rfl rfl ?_
      refine Z_callV 352 [] 3 (v_undo sy hF hI2) dL_law_349 rfl qL_126 kX3_undo rfl rfl (Nat.le_of_ble_eq_true rfl) rfl rfl ⟨(Nat.le_of_ble_eq_true rfl), (Nat.le_of_ble_eq_true rfl)⟩ (Nat.le_of_ble_eq_true rfl) ⟨rfl, rfl⟩ ⟨(Nat.le_of_ble_eq_true rfl), (Nat.le_of_ble_eq_true rfl)⟩ (fun r9 w9 hp9 => ?_)
      obtain ⟨rfl, U, rfl, syU, eU, e10, e6⟩ := hp9
      have hk := syU.ok
      have hF : Fsv U U := Fsv.rf
      have hSU := hS.to e10 e6
      refine Z_iload 354 0 dL_law_352 rfl rfl ?_
      refine Z_if_ne 357 362 dL_law_354 rfl rfl (fun c354 => ?_) (fun c354 => absurd (nI_ne0 (Nat.succ_pos s) (by omega)) c354)
      refine Z_iload 364 0 dL_law_362 rfl rfl ?_
      refine Z_iconst 365 (nI 1) dL_law_364 rfl rfl ?_
      refine Z_isub 366 dL_law_365 rfl ?_
      refine Z_icmp_ne 369 373 dL_law_366 rfl rfl (fun c366 => absurd c366 (fun z => z (pk_sub (a := s + 1) (b := 1) (by omega)).symm)) (fun c366 => ?_)
      refine Z_iconst 370 (nI 1) dL_law_369 rfl rfl ?_
      refine Z_goto 374 dL_law_370 rfl ?_
      refine Z_istore_n 375 [(2, _), (12, _), (5, _), (3, _), (1, _), (0, _)] dL_law_374 rfl (Nat.le_of_ble_eq_true rfl) rfl ?_
      refine Z_iinc 378 [(5, _), (2, _), (12, _), (3, _), (1, _), (0, _)] 2 _ dL_law_375 rfl (Nat.le_of_ble_eq_true rfl) rfl (nI_1 _) rfl ?_
      refine Z_goto 62 dL_law_378 rfl ?_
      refine Z_lv [0, 3, 1, 4, 5] rfl ?_
      first | exact kk _ _ _ _ _ (syU.mono (by omega)) (hSU.mono (by omega)) _ hF | exact kk _ _ _ _ _ (sy.mono (by omega)) (hS.mono (by omega)) _ hF

set_option maxRecDepth 100000 in
set_option maxHeartbeats 4000000 in
theorem law257 {i : Nat} (hi : i < 54) (kk : ∀ (h : Nat → Nat) (m : zM) (n s : Nat) (kept : Int64), Sy (2 * (i + 1)) h m n s → Sn (2 * (i + 1)) m kept → ∀ mm : zM, Fsv m mm → Z G mL_law (EL G b L xs) QL l 74 847 (zw h mm) 62 [(5, .int (nI (i + 1))), (3, .long kept), (2, .int (nI 1)), (1, .ref (G.1 + 0)), (0, .ref b)] []) : ∀ (h : Nat → Nat) (m : zM) (n s : Nat) (kept : Int64), Sy (2 * i + 1) h m n s → Sn (2 * i + 1) m kept → ∀ mm : zM, Fsv m mm → Z G mL_law (EL G b L xs) QL l 74 847 (zw h mm) 257 [(5, .int (nI i)), (3, .long kept), (2, .int (nI 1)), (1, .ref (G.1 + 0)), (0, .ref b)] [] := by
  intro h m n s kept sy hS mm hF
  have hk := sy.ok
  have hs4 := sy.s4
  refine Z_iload_n 258 2 dL_law_257 rfl rfl ?_
  refine Z_if_eq 261 326 dL_law_258 rfl rfl (fun c258 => absurd c258 (by decide)) (fun c258 => ?_)
  refine Z_iload 263 0 dL_law_261 rfl rfl ?_
  refine Z_bipush 265 (nI 15) dL_law_263 rfl rfl ?_
  refine Z_remN 266 dL_law_265 rfl (by omega) (by decide) (by decide) ?_
  refine Z_bipush 268 (nI 14) dL_law_266 rfl rfl ?_
  refine Z_icmp_ne 271 326 dL_law_268 rfl rfl (fun c268 => ?_) (fun c268 => ?_)
  · skip
    first | exact law326 hi kk _ _ _ _ _ syS (by rw [lkV_eq eS syS.ok]; exact hS9) _ hF | exact law326 hi kk _ _ _ _ _ (sy.mono (by omega)) (hS.mono (by omega)) _ hF
  · skip
    obtain ⟨h6, n2, hI2, ek⟩ := hS
    refine Z_aload_n 272 3 dL_law_271 rfl rfl ?_
    refine Z_callV 275 [] 3 (v_restore sy hF h6 hI2) dL_law_272 rfl qL_129 kX3_restore rfl rfl (Nat.le_of_ble_eq_true rfl) rfl rfl ⟨(Nat.le_of_ble_eq_true rfl), (Nat.le_of_ble_eq_true rfl)⟩ (Nat.le_of_ble_eq_true rfl) ⟨rfl, rfl⟩ ⟨(Nat.le_of_ble_eq_true rfl), (Nat.le_of_ble_eq_true rfl)⟩ (fun r9 w9 hp9 => ?_)
    obtain ⟨rfl, R, rfl, hA, hA2, hTop⟩ := hp9
    have hk := hA.1.ok
    have hF : Fsv R R := Fsv.rf
    have sy2 : Sy (2 * i + 1 + 1) (hRem h s) R n2 (sN s - 1 + 1) := by
      have e : sN s - 1 + 1 = sN s := by
        unfold sN
        split <;> omega
      rw [e]
      exact hA.1
    have hI3 : Inv (2 * i + 1 + 1) (aS R (hRem h s (sN s - 1))) n := (sy.inv.mono (Nat.le_succ _)).eqs hTop.sym
    refine Z_istore 277 [(12, _), (5, _), (3, _), (2, _), (1, _), (0, _)] dL_law_275 rfl (Nat.le_of_ble_eq_true rfl) rfl ?_
    refine Z_iload 279 0 dL_law_277 rfl rfl ?_
    refine Z_aload_n 280 4 dL_law_279 rfl rfl ?_
    refine Z_iconst 281 (nI 1) dL_law_280 rfl rfl ?_
    refine Z_callV 284 [_] 3 (v_count1 hF hk) dL_law_281 rfl qL_13 kX3_count rfl rfl (Nat.le_of_ble_eq_true rfl) rfl rfl ⟨(Nat.le_of_ble_eq_true rfl), (Nat.le_of_ble_eq_true rfl)⟩ (Nat.le_of_ble_eq_true rfl) ⟨rfl, rfl⟩ ⟨(Nat.le_of_ble_eq_true rfl), (Nat.le_of_ble_eq_true rfl)⟩ (fun r9 w9 hp9 => ?_)
    obtain ⟨rfl, mm, rfl, hF⟩ := hp9
    refine Z_icmp_ne 287 319 dL_law_284 rfl rfl (fun c284 => absurd c284 (fun z => z rfl)) (fun c284 => ?_)
    refine Z_aload_n 288 4 dL_law_287 rfl rfl ?_
    refine Z_callS 291 [_] (zL_look hF hk) dL_law_288 rfl qL_65 kL_look rfl rfl ⟨(Nat.le_of_ble_eq_true rfl), (Nat.le_of_ble_eq_true rfl)⟩ (Nat.le_of_ble_eq_true rfl) ⟨rfl, rfl⟩ ⟨(Nat.le_of_ble_eq_true rfl), (Nat.le_of_ble_eq_true rfl)⟩ (fun r9 w9 hp9 => ?_)
    obtain ⟨rfl, mm, rfl, hF⟩ := hp9
    refine Z_lload_n 292 2 dL_law_291 rfl rfl ?_
    refine Z_lcmpE 293 dL_law_292 rfl (by rw [ek]; exact lkV_eq hA2 hk) ?_
    refine Z_if_ne 296 319 dL_law_293 rfl rfl (fun c293 => absurd c293 (by decide)) (fun c293 => ?_)
    refine Z_aload_n 297 4 dL_law_296 rfl rfl ?_
    refine Z_callV 300 [] 3 (v_undo sy2 hF hI3) dL_law_297 rfl qL_126 kX3_undo rfl rfl (Nat.le_of_ble_eq_true rfl) rfl rfl ⟨(Nat.le_of_ble_eq_true rfl), (Nat.le_of_ble_eq_true rfl)⟩ (Nat.le_of_ble_eq_true rfl) ⟨rfl, rfl⟩ ⟨(Nat.le_of_ble_eq_true rfl), (Nat.le_of_ble_eq_true rfl)⟩ (fun r9 w9 hp9 => ?_)
    obtain ⟨rfl, U, rfl, syU, eU, e10, e6⟩ := hp9
    have hk := syU.ok
    have hF : Fsv U U := Fsv.rf
    refine Z_if_lt 303 319 dL_law_300 rfl rfl (fun c300 => absurd c300 (nI_pos (by unfold sN; split <;> omega))) (fun c300 => ?_)
    refine Z_aload_n 304 4 dL_law_303 rfl rfl ?_
    refine Z_callV 307 [] 3 (v_save syU hF) dL_law_304 rfl qL_132 kX3_save rfl rfl (Nat.le_of_ble_eq_true rfl) rfl rfl ⟨(Nat.le_of_ble_eq_true rfl), (Nat.le_of_ble_eq_true rfl)⟩ (Nat.le_of_ble_eq_true rfl) ⟨rfl, rfl⟩ ⟨(Nat.le_of_ble_eq_true rfl), (Nat.le_of_ble_eq_true rfl)⟩ (fun r9 w9 hp9 => ?_)
    obtain ⟨rfl, S9, rfl, syS, eS, hS9⟩ := hp9
    have hk := syS.ok
    have hF : Fsv S9 S9 := Fsv.rf
    refine Z_aload_n 308 4 dL_law_307 rfl rfl ?_
    refine Z_iconst 309 (nI 1) dL_law_308 rfl rfl ?_
    refine Z_callV 312 [_] 3 (v_count1 hF hk) dL_law_309 rfl qL_13 kX3_count rfl rfl (Nat.le_of_ble_eq_true rfl) rfl rfl ⟨(Nat.le_of_ble_eq_true rfl), (Nat.le_of_ble_eq_true rfl)⟩ (Nat.le_of_ble_eq_true rfl) ⟨rfl, rfl⟩ ⟨(Nat.le_of_ble_eq_true rfl), (Nat.le_of_ble_eq_true rfl)⟩ (fun r9 w9 hp9 => ?_)
    obtain ⟨rfl, mm, rfl, hF⟩ := hp9
    refine Z_icmp_ne 315 319 dL_law_312 rfl rfl (fun c312 => absurd c312 (fun z => z rfl)) (fun c312 => ?_)
    refine Z_iconst 316 (nI 1) dL_law_315 rfl rfl ?_
    refine Z_goto 320 dL_law_316 rfl ?_
    refine Z_istore_n 321 [(2, _), (12, _), (5, _), (3, _), (1, _), (0, _)] dL_law_320 rfl (Nat.le_of_ble_eq_true rfl) rfl ?_
    refine Z_aload_n 322 4 dL_law_321 rfl rfl ?_
    refine Z_callS 325 [_] (zL_look hF hk) dL_law_322 rfl qL_65 kL_look rfl rfl ⟨(Nat.le_of_ble_eq_true rfl), (Nat.le_of_ble_eq_true rfl)⟩ (Nat.le_of_ble_eq_true rfl) ⟨rfl, rfl⟩ ⟨(Nat.le_of_ble_eq_true rfl), (Nat.le_of_ble_eq_true rfl)⟩ (fun r9 w9 hp9 => ?_)
    obtain ⟨rfl, mm, rfl, hF⟩ := hp9
    refine Z_lstore_n 326 [(3, _), (2, _), (12, _), (5, _), (1, _), (0, _)] dL_law_325 rfl (Nat.le_of_ble_eq_true rfl) rfl ?_
    refine Z_lv [3, 0, 1, 4, 5] rfl ?_
    first | exact law326 hi kk _ _ _ _ _ syS (by rw [lkV_eq eS syS.ok]; exact hS9) _ hF | exact law326 hi kk _ _ _ _ _ (sy.mono (by omega)) (hS.mono (by omega)) _ hF

set_option maxRecDepth 100000 in
set_option maxHeartbeats 4000000 in
theorem law157 {i : Nat} (hi : i < 54) (kk : ∀ (h : Nat → Nat) (m : zM) (n s : Nat) (kept : Int64), Sy (2 * (i + 1)) h m n s → Sn (2 * (i + 1)) m kept → ∀ mm : zM, Fsv m mm → Z G mL_law (EL G b L xs) QL l 74 847 (zw h mm) 62 [(5, .int (nI (i + 1))), (3, .long kept), (2, .int (nI 1)), (1, .ref (G.1 + 0)), (0, .ref b)] []) {h h1 : Nat → Nat} {m m1 : zM} {n n1 s s1 : Nat} {kept : Int64} (sy : Sy (2 * i) h m n s) (hS : Sn (2 * i) m kept) (hA : Act (2 * i) h m n s h1 m1 n1 s1) (y : Int32) : ∀ mm : zM, Fsv m1 mm → Z G mL_law (EL G b L xs) QL l 74 847 (zw h1 mm) 157 [(10, .int (nI s)), (8, .long (lkV m n)), (7, .int y), (5, .int (nI i)), (3, .long kept), (2, .int (nI 1)), (1, .ref (G.1 + 0)), (0, .ref b)] [] := by
  intro mm hF
  have hk := hA.1.ok
  have hs4 := sy.s4
  have hs14 := hA.1.s4
  have hS1 : Sn (2 * i + 1) m1 kept := (hS.mono (Nat.le_succ _)).to hA.2.1.1 hA.2.1.2
  refine Z_aload_n 158 6 dL_law_157 rfl rfl ?_
  refine Z_bipush 160 (nI 12) dL_law_158 rfl rfl ?_
  refine Z_callV 163 [_] 3 (v_count12 hF hk) dL_law_160 rfl qL_13 kX3_count rfl rfl (Nat.le_of_ble_eq_true rfl) rfl rfl ⟨(Nat.le_of_ble_eq_true rfl), (Nat.le_of_ble_eq_true rfl)⟩ (Nat.le_of_ble_eq_true rfl) ⟨rfl, rfl⟩ ⟨(Nat.le_of_ble_eq_true rfl), (Nat.le_of_ble_eq_true rfl)⟩ (fun r9 w9 hp9 => ?_)
  obtain ⟨rfl, mm, rfl, hF⟩ := hp9
  refine Z_top (v' := .int (nI s1)) (congrArg Value.int hA.1.st) ?_
  refine Z_istore 165 [(11, _), (10, _), (8, _), (7, _), (5, _), (3, _), (2, _), (1, _), (0, _)] dL_law_163 rfl (Nat.le_of_ble_eq_true rfl) rfl ?_
  refine Z_iload_n 166 6 dL_law_165 rfl rfl ?_
  refine Z_if_eq 169 205 dL_law_166 rfl rfl (fun c166 => absurd c166 (by decide)) (fun c166 => ?_)
  rcases hA.2.2 with ⟨es, en, eE⟩ | ⟨es, eE⟩
  · skip
    refine Z_iload 171 0 dL_law_169 rfl rfl ?_
    refine Z_iload 173 1 dL_law_171 rfl rfl ?_
    refine Z_icmp_ne 176 192 dL_law_173 rfl rfl (fun c173 => absurd c173 (fun z => z (by rw [es]))) (fun c173 => ?_)
    refine Z_iload 178 1 dL_law_176 rfl rfl ?_
    refine Z_iconst 179 (nI 4) dL_law_178 rfl rfl ?_
    refine Z_icmp_eq 182 201 dL_law_179 rfl rfl (fun c179 => ?_) (fun c179 => ?_)
    · skip
      refine Z_iconst 202 (nI 1) dL_law_201 rfl rfl ?_
      refine Z_goto 206 dL_law_202 rfl ?_
      refine Z_istore_n 207 [(2, _), (11, _), (10, _), (8, _), (7, _), (5, _), (3, _), (1, _), (0, _)] dL_law_206 rfl (Nat.le_of_ble_eq_true rfl) rfl ?_
      refine Z_iload_n 208 0 dL_law_207 rfl rfl ?_
      refine Z_if_eq 211 257 dL_law_208 rfl rfl (fun c208 => absurd c208 (by decide)) (fun c208 => ?_)
      refine Z_iload 213 1 dL_law_211 rfl rfl ?_
      refine Z_iload 215 2 dL_law_213 rfl rfl ?_
      refine Z_iconst 216 (nI 1) dL_law_215 rfl rfl ?_
      refine Z_iadd 217 dL_law_216 rfl ?_
      refine Z_icmp_ne 220 257 dL_law_217 rfl rfl (fun c217 => ?_) (fun c217 => absurd (fun z => absurd (eqN (z.trans (nI_add s 1)) (by omega) (by omega)) (by omega)) c217)
      refine Z_lv [5, 6, 0, 7, 8] rfl ?_
      first | exact law257 hi kk _ _ _ _ _ syU (hS1.to e10 e6) _ hF | exact law257 hi kk _ _ _ _ _ hA.1 hS1 _ hF
    · skip
      refine Z_aload_n 183 7 dL_law_182 rfl rfl ?_
      refine Z_callS 186 [_] (zL_look hF hk) dL_law_183 rfl qL_65 kL_look rfl rfl ⟨(Nat.le_of_ble_eq_true rfl), (Nat.le_of_ble_eq_true rfl)⟩ (Nat.le_of_ble_eq_true rfl) ⟨rfl, rfl⟩ ⟨(Nat.le_of_ble_eq_true rfl), (Nat.le_of_ble_eq_true rfl)⟩ (fun r9 w9 hp9 => ?_)
      obtain ⟨rfl, mm, rfl, hF⟩ := hp9
      refine Z_lload 188 2 dL_law_186 rfl rfl ?_
      refine Z_lcmpE 189 dL_law_188 rfl (by subst en; exact lkV_eq eE hk) ?_
      refine Z_if_eq 192 201 dL_law_189 rfl rfl (fun c189 => ?_) (fun c189 => absurd (by decide) c189)
      refine Z_iconst 202 (nI 1) dL_law_201 rfl rfl ?_
      refine Z_goto 206 dL_law_202 rfl ?_
      refine Z_istore_n 207 [(2, _), (11, _), (10, _), (8, _), (7, _), (5, _), (3, _), (1, _), (0, _)] dL_law_206 rfl (Nat.le_of_ble_eq_true rfl) rfl ?_
      refine Z_iload_n 208 0 dL_law_207 rfl rfl ?_
      refine Z_if_eq 211 257 dL_law_208 rfl rfl (fun c208 => absurd c208 (by decide)) (fun c208 => ?_)
      refine Z_iload 213 1 dL_law_211 rfl rfl ?_
      refine Z_iload 215 2 dL_law_213 rfl rfl ?_
      refine Z_iconst 216 (nI 1) dL_law_215 rfl rfl ?_
      refine Z_iadd 217 dL_law_216 rfl ?_
      refine Z_icmp_ne 220 257 dL_law_217 rfl rfl (fun c217 => ?_) (fun c217 => absurd (fun z => absurd (eqN (z.trans (nI_add s 1)) (by omega) (by omega)) (by omega)) c217)
      refine Z_lv [5, 6, 0, 7, 8] rfl ?_
      first | exact law257 hi kk _ _ _ _ _ syU (hS1.to e10 e6) _ hF | exact law257 hi kk _ _ _ _ _ hA.1 hS1 _ hF
  · rcases (show s < 4 ∨ ¬ s < 4 from Decidable.em _) with h4 | h4
    · have es2 : s1 = s + 1 := es.trans (sN_lt h4)
      have eE2 : EqS n (aS m1 (h1 s)) m := by
        have z := eE
        rw [es2, Nat.add_sub_cancel] at z
        exact z
      have sy1 : Sy (2 * i + 1) h1 m1 n1 (s + 1) := by
        rw [← es2]
        exact hA.1
      have hI2 : Inv (2 * i + 1) (aS m1 (h1 s)) n := (sy.inv.mono (Nat.le_succ _)).eqs eE2.sym
      refine Z_iload 171 0 dL_law_169 rfl rfl ?_
      refine Z_iload 173 1 dL_law_171 rfl rfl ?_
      refine Z_icmp_ne 176 192 dL_law_173 rfl rfl (fun c173 => ?_) (fun c173 => absurd (fun z => absurd (eqN z (by omega) (by omega)) (by omega)) c173)
      refine Z_iload 194 0 dL_law_192 rfl rfl ?_
      refine Z_iload 196 1 dL_law_194 rfl rfl ?_
      refine Z_iconst 197 (nI 1) dL_law_196 rfl rfl ?_
      refine Z_iadd 198 dL_law_197 rfl ?_
      refine Z_icmp_ne 201 205 dL_law_198 rfl rfl (fun c198 => absurd c198 (fun z => z (by rw [es2]; exact (nI_add s 1).symm))) (fun c198 => ?_)
      refine Z_iconst 202 (nI 1) dL_law_201 rfl rfl ?_
      refine Z_goto 206 dL_law_202 rfl ?_
      refine Z_istore_n 207 [(2, _), (11, _), (10, _), (8, _), (7, _), (5, _), (3, _), (1, _), (0, _)] dL_law_206 rfl (Nat.le_of_ble_eq_true rfl) rfl ?_
      refine Z_iload_n 208 0 dL_law_207 rfl rfl ?_
      refine Z_if_eq 211 257 dL_law_208 rfl rfl (fun c208 => absurd c208 (by decide)) (fun c208 => ?_)
      refine Z_iload 213 1 dL_law_211 rfl rfl ?_
      refine Z_iload 215 2 dL_law_213 rfl rfl ?_
      refine Z_iconst 216 (nI 1) dL_law_215 rfl rfl ?_
      refine Z_iadd 217 dL_law_216 rfl ?_
      refine Z_icmp_ne 220 257 dL_law_217 rfl rfl (fun c217 => absurd c217 (fun z => z (by rw [es2]; exact (nI_add s 1).symm))) (fun c217 => ?_)
      refine Z_iload 222 4 dL_law_220 rfl rfl ?_
      refine Z_bipush 224 (nI 8) dL_law_222 rfl rfl ?_
      refine Z_ishr 225 dL_law_224 rfl ?_
      refine Z_iconst 226 (nI 3) dL_law_225 rfl rfl ?_
      refine Z_callS 229 [_, _] (zL_low _ 3 (by decide)) dL_law_226 rfl qL_39 kL_low rfl rfl ⟨(Nat.le_of_ble_eq_true rfl), (Nat.le_of_ble_eq_true rfl)⟩ (Nat.le_of_ble_eq_true rfl) ⟨rfl, rfl⟩ ⟨(Nat.le_of_ble_eq_true rfl), (Nat.le_of_ble_eq_true rfl)⟩ (fun r9 w9 hp9 => ?_)
      obtain ⟨⟨q226, hq226, rfl⟩, rfl⟩ := hp9
      refine Z_if_ne 232 257 dL_law_229 rfl rfl (fun c229 => ?_) (fun c229 => ?_)
      · skip
        refine Z_lv [5, 6, 0, 7, 8] rfl ?_
        first | exact law257 hi kk _ _ _ _ _ syU (hS1.to e10 e6) _ hF | exact law257 hi kk _ _ _ _ _ hA.1 hS1 _ hF
      · skip
        refine Z_aload_n 233 7 dL_law_232 rfl rfl ?_
        refine Z_callV 236 [] 3 (v_undo sy1 hF hI2) dL_law_233 rfl qL_126 kX3_undo rfl rfl (Nat.le_of_ble_eq_true rfl) rfl rfl ⟨(Nat.le_of_ble_eq_true rfl), (Nat.le_of_ble_eq_true rfl)⟩ (Nat.le_of_ble_eq_true rfl) ⟨rfl, rfl⟩ ⟨(Nat.le_of_ble_eq_true rfl), (Nat.le_of_ble_eq_true rfl)⟩ (fun r9 w9 hp9 => ?_)
        obtain ⟨rfl, U, rfl, syU, eU, e10, e6⟩ := hp9
        have hk := syU.ok
        have hF : Fsv U U := Fsv.rf
        refine Z_iload 238 2 dL_law_236 rfl rfl ?_
        refine Z_icmp_ne 241 255 dL_law_238 rfl rfl (fun c238 => absurd c238 (fun z => z rfl)) (fun c238 => ?_)
        refine Z_aload_n 242 7 dL_law_241 rfl rfl ?_
        refine Z_callS 245 [_] (zL_look hF hk) dL_law_242 rfl qL_65 kL_look rfl rfl ⟨(Nat.le_of_ble_eq_true rfl), (Nat.le_of_ble_eq_true rfl)⟩ (Nat.le_of_ble_eq_true rfl) ⟨rfl, rfl⟩ ⟨(Nat.le_of_ble_eq_true rfl), (Nat.le_of_ble_eq_true rfl)⟩ (fun r9 w9 hp9 => ?_)
        obtain ⟨rfl, mm, rfl, hF⟩ := hp9
        refine Z_lload 247 3 dL_law_245 rfl rfl ?_
        refine Z_lcmpE 248 dL_law_247 rfl (lkV_eq (eU.trans eE2) hk) ?_
        refine Z_if_ne 251 255 dL_law_248 rfl rfl (fun c248 => absurd c248 (by decide)) (fun c248 => ?_)
        refine Z_iconst 252 (nI 1) dL_law_251 rfl rfl ?_
        refine Z_goto 256 dL_law_252 rfl ?_
        refine Z_istore_n 257 [(2, _), (11, _), (10, _), (8, _), (7, _), (5, _), (3, _), (1, _), (0, _)] dL_law_256 rfl (Nat.le_of_ble_eq_true rfl) rfl ?_
        refine Z_lv [5, 6, 0, 7, 8] rfl ?_
        first | exact law257 hi kk _ _ _ _ _ syU (hS1.to e10 e6) _ hF | exact law257 hi kk _ _ _ _ _ hA.1 hS1 _ hF
    · have es2 : s1 = 4 := es.trans (sN_ge h4)
      have e4 : s = 4 := by omega
      refine Z_iload 171 0 dL_law_169 rfl rfl ?_
      refine Z_iload 173 1 dL_law_171 rfl rfl ?_
      refine Z_icmp_ne 176 192 dL_law_173 rfl rfl (fun c173 => absurd c173 (fun z => z (by rw [es2, e4]))) (fun c173 => ?_)
      refine Z_iload 178 1 dL_law_176 rfl rfl ?_
      refine Z_iconst 179 (nI 4) dL_law_178 rfl rfl ?_
      refine Z_icmp_eq 182 201 dL_law_179 rfl rfl (fun c179 => ?_) (fun c179 => absurd ((by rw [e4])) c179)
      refine Z_iconst 202 (nI 1) dL_law_201 rfl rfl ?_
      refine Z_goto 206 dL_law_202 rfl ?_
      refine Z_istore_n 207 [(2, _), (11, _), (10, _), (8, _), (7, _), (5, _), (3, _), (1, _), (0, _)] dL_law_206 rfl (Nat.le_of_ble_eq_true rfl) rfl ?_
      refine Z_iload_n 208 0 dL_law_207 rfl rfl ?_
      refine Z_if_eq 211 257 dL_law_208 rfl rfl (fun c208 => absurd c208 (by decide)) (fun c208 => ?_)
      refine Z_iload 213 1 dL_law_211 rfl rfl ?_
      refine Z_iload 215 2 dL_law_213 rfl rfl ?_
      refine Z_iconst 216 (nI 1) dL_law_215 rfl rfl ?_
      refine Z_iadd 217 dL_law_216 rfl ?_
      refine Z_icmp_ne 220 257 dL_law_217 rfl rfl (fun c217 => ?_) (fun c217 => absurd (fun z => absurd (eqN (z.trans (nI_add s 1)) (by omega) (by omega)) (by omega)) c217)
      refine Z_lv [5, 6, 0, 7, 8] rfl ?_
      first | exact law257 hi kk _ _ _ _ _ syU (hS1.to e10 e6) _ hF | exact law257 hi kk _ _ _ _ _ hA.1 hS1 _ hF

set_option maxRecDepth 100000 in
set_option maxHeartbeats 4000000 in
theorem law62 (hL : L ≤ 260) : ∀ (t i : Nat), i + t = 54 → ∀ (h : Nat → Nat) (m : zM) (n s : Nat) (kept : Int64), Sy (2 * i) h m n s → Sn (2 * i) m kept → ∀ mm : zM, Fsv m mm → Z G mL_law (EL G b L xs) QL l 74 847 (zw h mm) 62 [(5, .int (nI i)), (3, .long kept), (2, .int (nI 1)), (1, .ref (G.1 + 0)), (0, .ref b)] [] := by
  intro t
  induction t with
  | zero =>
    intro i hi h m n s kept sy hS mm hF
    have e9 : i = 54 := by omega
    subst e9
    have hk := sy.ok
    refine Z_iload 64 0 dL_law_62 rfl rfl ?_
    refine Z_bipush 66 (nI 54) dL_law_64 rfl rfl ?_
    refine Z_icmp_ge 69 381 dL_law_66 rfl rfl (fun c66 => ?_) (fun c66 => absurd (nI_le (Nat.le_refl _) (by omega)) c66)
    refine Z_lv [2, 3, 4] rfl ?_
    exact law381 sy mm hF
  | succ t ih =>
    intro i hi h m n s kept sy hS mm hF
    have hlt : i < 54 := by omega
    have hk := sy.ok
    refine Z_iload 64 0 dL_law_62 rfl rfl ?_
    refine Z_bipush 66 (nI 54) dL_law_64 rfl rfl ?_
    refine Z_icmp_ge 69 381 dL_law_66 rfl rfl (fun c66 => absurd c66 (nI_ge hlt (by omega))) (fun c66 => ?_)
    refine Z_iload_n 70 2 dL_law_69 rfl rfl ?_
    refine Z_if_eq 73 381 dL_law_70 rfl rfl (fun c70 => absurd c70 (by decide)) (fun c70 => ?_)
    refine Z_aload_n 74 4 dL_law_73 rfl rfl ?_
    refine Z_iconst 75 (nI 2) dL_law_74 rfl rfl ?_
    refine Z_iload 77 0 dL_law_75 rfl rfl ?_
    refine Z_imul 78 dL_law_77 rfl ?_
    refine Z_top (v' := .int (nI (2 * i))) (congrArg Value.int (pk_mul 2 i)) ?_
    refine Z_callSS 81 (fun s h => h.1) [_, _] (zL_lot (b := b) (L := L) (xs := xs) (2 * i) (by omega) hL) dL_law_78 rfl qL_135 kL_lot rfl rfl ⟨(Nat.le_of_ble_eq_true rfl), (Nat.le_of_ble_eq_true rfl)⟩ (Nat.le_of_ble_eq_true rfl) ⟨rfl, rfl⟩ ⟨(Nat.le_of_ble_eq_true rfl), (Nat.le_of_ble_eq_true rfl)⟩ (fun r9 w9 hp9 => ?_)
    obtain ⟨⟨v6, rfl⟩, rfl⟩ := hp9
    refine Z_istore 83 [(6, _), (5, _), (3, _), (2, _), (1, _), (0, _)] dL_law_81 rfl (Nat.le_of_ble_eq_true rfl) rfl ?_
    refine Z_aload_n 84 5 dL_law_83 rfl rfl ?_
    refine Z_iconst 85 (nI 2) dL_law_84 rfl rfl ?_
    refine Z_iload 87 1 dL_law_85 rfl rfl ?_
    refine Z_imul 88 dL_law_87 rfl ?_
    refine Z_iconst 89 (nI 1) dL_law_88 rfl rfl ?_
    refine Z_iadd 90 dL_law_89 rfl ?_
    refine Z_top (v' := .int (nI (2 * i + 1))) (congrArg Value.int (by rw [pk_mul, nI_add])) ?_
    refine Z_callSS 93 (fun s h => h.1) [_, _] (zL_lot (b := b) (L := L) (xs := xs) (2 * i + 1) (by omega) hL) dL_law_90 rfl qL_135 kL_lot rfl rfl ⟨(Nat.le_of_ble_eq_true rfl), (Nat.le_of_ble_eq_true rfl)⟩ (Nat.le_of_ble_eq_true rfl) ⟨rfl, rfl⟩ ⟨(Nat.le_of_ble_eq_true rfl), (Nat.le_of_ble_eq_true rfl)⟩ (fun r9 w9 hp9 => ?_)
    obtain ⟨⟨v7, rfl⟩, rfl⟩ := hp9
    refine Z_istore 95 [(7, _), (6, _), (5, _), (3, _), (2, _), (1, _), (0, _)] dL_law_93 rfl (Nat.le_of_ble_eq_true rfl) rfl ?_
    refine Z_aload_n 96 5 dL_law_95 rfl rfl ?_
    refine Z_callS 99 [_] (zL_look hF hk) dL_law_96 rfl qL_65 kL_look rfl rfl ⟨(Nat.le_of_ble_eq_true rfl), (Nat.le_of_ble_eq_true rfl)⟩ (Nat.le_of_ble_eq_true rfl) ⟨rfl, rfl⟩ ⟨(Nat.le_of_ble_eq_true rfl), (Nat.le_of_ble_eq_true rfl)⟩ (fun r9 w9 hp9 => ?_)
    obtain ⟨rfl, mm, rfl, hF⟩ := hp9
    refine Z_lstore 101 [(8, _), (7, _), (6, _), (5, _), (3, _), (2, _), (1, _), (0, _)] dL_law_99 rfl (Nat.le_of_ble_eq_true rfl) rfl ?_
    refine Z_aload_n 102 6 dL_law_101 rfl rfl ?_
    refine Z_bipush 104 (nI 12) dL_law_102 rfl rfl ?_
    refine Z_callV 107 [_] 3 (v_count12 hF hk) dL_law_104 rfl qL_13 kX3_count rfl rfl (Nat.le_of_ble_eq_true rfl) rfl rfl ⟨(Nat.le_of_ble_eq_true rfl), (Nat.le_of_ble_eq_true rfl)⟩ (Nat.le_of_ble_eq_true rfl) ⟨rfl, rfl⟩ ⟨(Nat.le_of_ble_eq_true rfl), (Nat.le_of_ble_eq_true rfl)⟩ (fun r9 w9 hp9 => ?_)
    obtain ⟨rfl, mm, rfl, hF⟩ := hp9
    refine Z_top (v' := .int (nI s)) (congrArg Value.int sy.st) ?_
    refine Z_istore 109 [(10, _), (8, _), (7, _), (6, _), (5, _), (3, _), (2, _), (1, _), (0, _)] dL_law_107 rfl (Nat.le_of_ble_eq_true rfl) rfl ?_
    refine Z_aload_n 110 7 dL_law_109 rfl rfl ?_
    refine Z_iload 112 3 dL_law_110 rfl rfl ?_
    refine Z_iload 114 2 dL_law_112 rfl rfl ?_
    refine Z_callS 117 [_, _, _] (zL_acts sy (by omega) hF _ _) dL_law_114 rfl qL_139 kL_acts rfl rfl ⟨(Nat.le_of_ble_eq_true rfl), (Nat.le_of_ble_eq_true rfl)⟩ (Nat.le_of_ble_eq_true rfl) ⟨rfl, rfl⟩ ⟨(Nat.le_of_ble_eq_true rfl), (Nat.le_of_ble_eq_true rfl)⟩ (fun r9 w9 hp9 => ?_)
    obtain ⟨rfl, h1, m1, n1, s1, rfl, hA⟩ := hp9
    have hk := hA.1.ok
    have hF : Fsv m1 m1 := Fsv.rf
    refine Z_if_eq 120 155 dL_law_117 rfl rfl (fun c117 => absurd c117 (by decide)) (fun c117 => ?_)
    refine Z_iload 122 4 dL_law_120 rfl rfl ?_
    refine Z_iconst 123 (nI 4) dL_law_122 rfl rfl ?_
    refine Z_remN 124 dL_law_123 rfl (by omega) (by decide) (by decide) ?_
    refine Z_if_gt 127 134 dL_law_124 rfl rfl (fun c124 => ?_) (fun c124 => ?_)
    · skip
      refine Z_iload 136 4 dL_law_134 rfl rfl ?_
      refine Z_iconst 137 (nI 4) dL_law_136 rfl rfl ?_
      refine Z_remN 138 dL_law_137 rfl (by omega) (by decide) (by decide) ?_
      refine Z_iconst 139 (nI 2) dL_law_138 rfl rfl ?_
      refine Z_icmp_ne 142 151 dL_law_139 rfl rfl (fun c139 => ?_) (fun c139 => ?_)
      · skip
        refine Z_iconst 152 (nI 1) dL_law_151 rfl rfl ?_
        refine Z_goto 156 dL_law_152 rfl ?_
        refine Z_istore_n 157 [(2, _), (10, _), (8, _), (7, _), (6, _), (5, _), (3, _), (1, _), (0, _)] dL_law_156 rfl (Nat.le_of_ble_eq_true rfl) rfl ?_
        refine Z_lv [1, 2, 3, 5, 6, 0, 7, 8] rfl ?_
        exact law157 hlt (fun h m n s kept a b => ih (i + 1) (by omega) h m n s kept a b) sy hS hA v7 _ hF
      · skip
        refine Z_aload_n 143 7 dL_law_142 rfl rfl ?_
        refine Z_iload 145 2 dL_law_143 rfl rfl ?_
        refine Z_callS 148 [_, _] (zL_would hA.1.inv hF _) dL_law_145 rfl qL_123 kL_would rfl rfl ⟨(Nat.le_of_ble_eq_true rfl), (Nat.le_of_ble_eq_true rfl)⟩ (Nat.le_of_ble_eq_true rfl) ⟨rfl, rfl⟩ ⟨(Nat.le_of_ble_eq_true rfl), (Nat.le_of_ble_eq_true rfl)⟩ (fun r9 w9 hp9 => ?_)
        obtain ⟨rfl, mm, rfl, hF⟩ := hp9
        refine Z_if_eq 151 155 dL_law_148 rfl rfl (fun c148 => absurd c148 (by decide)) (fun c148 => ?_)
        refine Z_iconst 152 (nI 1) dL_law_151 rfl rfl ?_
        refine Z_goto 156 dL_law_152 rfl ?_
        refine Z_istore_n 157 [(2, _), (10, _), (8, _), (7, _), (6, _), (5, _), (3, _), (1, _), (0, _)] dL_law_156 rfl (Nat.le_of_ble_eq_true rfl) rfl ?_
        refine Z_lv [1, 2, 3, 5, 6, 0, 7, 8] rfl ?_
        exact law157 hlt (fun h m n s kept a b => ih (i + 1) (by omega) h m n s kept a b) sy hS hA v7 _ hF
    · skip
      refine Z_aload_n 128 7 dL_law_127 rfl rfl ?_
      refine Z_callS 131 [_] (zL_holds hA.1.inv hF) dL_law_128 rfl qL_119 kL_holds rfl rfl ⟨(Nat.le_of_ble_eq_true rfl), (Nat.le_of_ble_eq_true rfl)⟩ (Nat.le_of_ble_eq_true rfl) ⟨rfl, rfl⟩ ⟨(Nat.le_of_ble_eq_true rfl), (Nat.le_of_ble_eq_true rfl)⟩ (fun r9 w9 hp9 => ?_)
      obtain ⟨rfl, mm, rfl, hF⟩ := hp9
      refine Z_if_eq 134 155 dL_law_131 rfl rfl (fun c131 => absurd c131 (by decide)) (fun c131 => ?_)
      refine Z_iload 136 4 dL_law_134 rfl rfl ?_
      refine Z_iconst 137 (nI 4) dL_law_136 rfl rfl ?_
      refine Z_remN 138 dL_law_137 rfl (by omega) (by decide) (by decide) ?_
      refine Z_iconst 139 (nI 2) dL_law_138 rfl rfl ?_
      refine Z_icmp_ne 142 151 dL_law_139 rfl rfl (fun c139 => ?_) (fun c139 => ?_)
      · skip
        refine Z_iconst 152 (nI 1) dL_law_151 rfl rfl ?_
        refine Z_goto 156 dL_law_152 rfl ?_
        refine Z_istore_n 157 [(2, _), (10, _), (8, _), (7, _), (6, _), (5, _), (3, _), (1, _), (0, _)] dL_law_156 rfl (Nat.le_of_ble_eq_true rfl) rfl ?_
        refine Z_lv [1, 2, 3, 5, 6, 0, 7, 8] rfl ?_
        exact law157 hlt (fun h m n s kept a b => ih (i + 1) (by omega) h m n s kept a b) sy hS hA v7 _ hF
      · skip
        refine Z_aload_n 143 7 dL_law_142 rfl rfl ?_
        refine Z_iload 145 2 dL_law_143 rfl rfl ?_
        refine Z_callS 148 [_, _] (zL_would hA.1.inv hF _) dL_law_145 rfl qL_123 kL_would rfl rfl ⟨(Nat.le_of_ble_eq_true rfl), (Nat.le_of_ble_eq_true rfl)⟩ (Nat.le_of_ble_eq_true rfl) ⟨rfl, rfl⟩ ⟨(Nat.le_of_ble_eq_true rfl), (Nat.le_of_ble_eq_true rfl)⟩ (fun r9 w9 hp9 => ?_)
        obtain ⟨rfl, mm, rfl, hF⟩ := hp9
        refine Z_if_eq 151 155 dL_law_148 rfl rfl (fun c148 => absurd c148 (by decide)) (fun c148 => ?_)
        refine Z_iconst 152 (nI 1) dL_law_151 rfl rfl ?_
        refine Z_goto 156 dL_law_152 rfl ?_
        refine Z_istore_n 157 [(2, _), (10, _), (8, _), (7, _), (6, _), (5, _), (3, _), (1, _), (0, _)] dL_law_156 rfl (Nat.le_of_ble_eq_true rfl) rfl ?_
        refine Z_lv [1, 2, 3, 5, 6, 0, 7, 8] rfl ?_
        exact law157 hlt (fun h m n s kept a b => ih (i + 1) (by omega) h m n s kept a b) sy hS hA v7 _ hF

end
