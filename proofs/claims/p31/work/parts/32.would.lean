/-! would -/
theorem fl_n {P : Prop} {B : Int32} (h : (P ∧ ¬ B = 0) ∨ (¬ P ∧ B = 0)) (c : B = 0) : ¬ P := h.elim (fun z => absurd c z.2) (fun z => z.1)
theorem fl_y {P : Prop} {B : Int32} (h : (P ∧ ¬ B = 0) ∨ (¬ P ∧ B = 0)) (c : ¬ B = 0) : P := h.elim (fun z => z.1) (fun z => absurd z.2 c)
section
variable {K n : Nat} {m : zM} {a b : Nat} {bd tg : Int32}
theorem bd_901 (hI : Inv K m n) (ha : a < 9) (hb : b < 9) (hB : BdP m n a b bd) (ho : ¬ WOff a b) (c : ¬ bd = -4) : ¬ bd < nI 901 := by
  rcases bd_yes hI ha hb hB ho with z | z
  · exact absurd z c
  · exact nlt z.1
theorem bd_2000 (hI : Inv K m n) (ha : a < 9) (hb : b < 9) (hB : BdP m n a b bd) (ho : ¬ WOff a b) (c : ¬ bd = -4) : ¬ nI 2000 ≤ bd := by
  rcases bd_yes hI ha hb hB ho with z | z
  · exact absurd z c
  · intro y
    rw [i32_le] at y
    have e2 : (nI 2000).toInt = 2000 := rfl
    omega
theorem tg_70 (ha : a < 9) (hb : b < 9) (h : TgP m n a b tg) (hno : ¬ WNo a b) (c : ¬ tg = -4) : ¬ tg < nI 70 ∧ ¬ nI 160 < tg := by
  rcases tg_yes ha hb h hno with z | z
  · exact absurd z c
  · exact ⟨nlt z.1, nlt z.2⟩
end
theorem cnt_le0 {a : Nat} (h : nI a ≤ 0) (ha : a < 2 ^ 31) : a = 0 := z_cnt (Int32.not_lt.mpr h) ha
set_option maxRecDepth 100000 in
set_option maxHeartbeats 4000000 in
theorem lL_would466 {G : zG} {l : Launch} {h : Nat → Nat} {m : zM} {K n : Nat} (hI : Inv K m n)  {br : Int32} (hbr : brkIn (bcA m n) br) : ∀ mm : zM, Fsv m mm → Z G mL_would (fun _ => True) (zN G (fun r w => r = some (.int (nI 1)) ∧ ∃ m', w = zw h m' ∧ Fsv m m') 0 0) l 0 0 (zw h mm) 466 [(11, .int br), (0, .ref (G.1 + 0))] [] := by
  intro mm hF
  have hn := hI.n14
  have hk := hI.ok
  have g := hI.g
  have l2 : cB m n ≤ n := cnt_le _ n
  refine Z_iload 468 0 dL_would_466 rfl rfl ?_
  refine Z_if_ne 471 475 dL_would_468 rfl rfl (fun c468 => ?_) (fun c468 => ?_)
  · skip
    refine Z_iconst 476 (nI 0) dL_would_475 rfl rfl ?_
    refine Z_aload_n 477 1 dL_would_476 rfl rfl ?_
    refine Z_iconst 478 (nI 3) dL_would_477 rfl rfl ?_
    refine Z_callV 481 [_] 3 (v_count3 hF hk) dL_would_478 rfl qL_13 kX3_count rfl rfl (Nat.le_of_ble_eq_true rfl) rfl rfl ⟨(Nat.le_of_ble_eq_true rfl), (Nat.le_of_ble_eq_true rfl)⟩ (Nat.le_of_ble_eq_true rfl) ⟨rfl, rfl⟩ ⟨(Nat.le_of_ble_eq_true rfl), (Nat.le_of_ble_eq_true rfl)⟩ (fun r9 w9 hp9 => ?_)
    obtain ⟨rfl, mm, rfl, hF⟩ := hp9
    refine Z_if_le 484 488 dL_would_481 rfl rfl (fun c481 => ?_) (fun c481 => ?_)
    · skip
      refine Z_iconst 489 (nI 0) dL_would_488 rfl rfl ?_
      refine Z_icmp_ne 492 496 dL_would_489 rfl rfl (fun c489 => absurd c489 ((by first | exact fun z => z rfl | exact absurd (br_0 hbr (Classical.not_not.mp c468)) (by rw [cnt_le0 c481 (by omega)]; decide) | exact absurd (br_1 hbr c468) (fun z => c481 (by rw [z]; decide))))) (fun c489 => ?_)
      refine Z_iconst 493 (nI 1) dL_would_492 rfl rfl ?_
      refine Z_goto 497 dL_would_493 rfl ?_
      exact Z_zret dL_would_497 rfl (by first | exact Or.inl rfl | exact Or.inr rfl | exact bI_01) ⟨rfl, mm, rfl, hF⟩
    · skip
      refine Z_iconst 485 (nI 1) dL_would_484 rfl rfl ?_
      refine Z_goto 489 dL_would_485 rfl ?_
      refine Z_icmp_ne 492 496 dL_would_489 rfl rfl (fun c489 => absurd c489 ((by first | exact fun z => z rfl | exact absurd (br_0 hbr (Classical.not_not.mp c468)) (by rw [cnt_le0 c481 (by omega)]; decide) | exact absurd (br_1 hbr c468) (fun z => c481 (by rw [z]; decide))))) (fun c489 => ?_)
      refine Z_iconst 493 (nI 1) dL_would_492 rfl rfl ?_
      refine Z_goto 497 dL_would_493 rfl ?_
      exact Z_zret dL_would_497 rfl (by first | exact Or.inl rfl | exact Or.inr rfl | exact bI_01) ⟨rfl, mm, rfl, hF⟩
  · skip
    refine Z_iconst 472 (nI 1) dL_would_471 rfl rfl ?_
    refine Z_goto 476 dL_would_472 rfl ?_
    refine Z_aload_n 477 1 dL_would_476 rfl rfl ?_
    refine Z_iconst 478 (nI 3) dL_would_477 rfl rfl ?_
    refine Z_callV 481 [_] 3 (v_count3 hF hk) dL_would_478 rfl qL_13 kX3_count rfl rfl (Nat.le_of_ble_eq_true rfl) rfl rfl ⟨(Nat.le_of_ble_eq_true rfl), (Nat.le_of_ble_eq_true rfl)⟩ (Nat.le_of_ble_eq_true rfl) ⟨rfl, rfl⟩ ⟨(Nat.le_of_ble_eq_true rfl), (Nat.le_of_ble_eq_true rfl)⟩ (fun r9 w9 hp9 => ?_)
    obtain ⟨rfl, mm, rfl, hF⟩ := hp9
    refine Z_if_le 484 488 dL_would_481 rfl rfl (fun c481 => ?_) (fun c481 => ?_)
    · skip
      refine Z_iconst 489 (nI 0) dL_would_488 rfl rfl ?_
      refine Z_icmp_ne 492 496 dL_would_489 rfl rfl (fun c489 => absurd c489 ((by first | exact fun z => z rfl | exact absurd (br_0 hbr (Classical.not_not.mp c468)) (by rw [cnt_le0 c481 (by omega)]; decide) | exact absurd (br_1 hbr c468) (fun z => c481 (by rw [z]; decide))))) (fun c489 => ?_)
      refine Z_iconst 493 (nI 1) dL_would_492 rfl rfl ?_
      refine Z_goto 497 dL_would_493 rfl ?_
      exact Z_zret dL_would_497 rfl (by first | exact Or.inl rfl | exact Or.inr rfl | exact bI_01) ⟨rfl, mm, rfl, hF⟩
    · skip
      refine Z_iconst 485 (nI 1) dL_would_484 rfl rfl ?_
      refine Z_goto 489 dL_would_485 rfl ?_
      refine Z_icmp_ne 492 496 dL_would_489 rfl rfl (fun c489 => absurd c489 ((by first | exact fun z => z rfl | exact absurd (br_0 hbr (Classical.not_not.mp c468)) (by rw [cnt_le0 c481 (by omega)]; decide) | exact absurd (br_1 hbr c468) (fun z => c481 (by rw [z]; decide))))) (fun c489 => ?_)
      refine Z_iconst 493 (nI 1) dL_would_492 rfl rfl ?_
      refine Z_goto 497 dL_would_493 rfl ?_
      exact Z_zret dL_would_497 rfl (by first | exact Or.inl rfl | exact Or.inr rfl | exact bI_01) ⟨rfl, mm, rfl, hF⟩

set_option maxRecDepth 100000 in
set_option maxHeartbeats 4000000 in
theorem lL_would447 {G : zG} {l : Launch} {h : Nat → Nat} {m : zM} {K n : Nat} (hI : Inv K m n)  {br : Int32} (hbr : brkIn (bcA m n) br) : ∀ mm : zM, Fsv m mm → Z G mL_would (fun _ => True) (zN G (fun r w => r = some (.int (nI 1)) ∧ ∃ m', w = zw h m' ∧ Fsv m m') 0 0) l 0 0 (zw h mm) 447 [(11, .int br), (0, .ref (G.1 + 0))] [] := by
  intro mm hF
  have hn := hI.n14
  have hk := hI.ok
  have g := hI.g
  refine Z_iload 449 0 dL_would_447 rfl rfl ?_
  refine Z_bipush 451 (-4) dL_would_449 rfl rfl ?_
  refine Z_icmp_eq 454 466 dL_would_451 rfl rfl (fun c451 => ?_) (fun c451 => ?_)
  · skip
    exact lL_would466 hI hbr mm hF
  · skip
    refine Z_iload 456 0 dL_would_454 rfl rfl ?_
    refine Z_if_lt 459 496 dL_would_456 rfl rfl (fun c456 => absurd c456 ((by obtain ⟨k, k1, k2, -, -⟩ := br_rng hbr c451; rw [k2]; exact nI_pos (by omega)))) (fun c456 => ?_)
    refine Z_iload 461 0 dL_would_459 rfl rfl ?_
    refine Z_bipush 463 (nI 60) dL_would_461 rfl rfl ?_
    refine Z_icmp_gt 466 496 dL_would_463 rfl rfl (fun c463 => absurd c463 ((by obtain ⟨k, k1, k2, -, -⟩ := br_rng hbr c451; rw [k2]; exact nI_nlt k1 (by decide)))) (fun c463 => ?_)
    exact lL_would466 hI hbr mm hF

theorem w9_0 {w9 : Nat} (hw : w9 < 4) (h : nI w9 - nI 1 = 0) : w9 = 1 := by
  have e : w9 = 0 ∨ w9 = 1 ∨ w9 = 2 ∨ w9 = 3 := by omega
  rcases e with rfl | rfl | rfl | rfl <;> first | rfl | exact absurd h (by decide)
theorem w9_1 {w9 : Nat} (h : ¬ nI w9 - nI 1 = 0) : ¬ w9 = 1 := fun z => h (by rw [z]; decide)
set_option maxRecDepth 100000 in
set_option maxHeartbeats 4000000 in
theorem lL_would341 {G : zG} {l : Launch} {h : Nat → Nat} {m : zM} {K n : Nat} (hI : Inv K m n)  {D w9 : Nat} (hD : D < 32) (hw : w9 < 4) {v br B14 : Int32} (hv : DyP m n D w9 v) (hbr : brkIn (bcA m n) br) (hB : (DBad D w9 ∧ ¬ B14 = 0) ∨ (¬ DBad D w9 ∧ B14 = 0)) : ∀ mm : zM, Fsv m mm → Z G mL_would (fun _ => True) (zN G (fun r w => r = some (.int (nI 1)) ∧ ∃ m', w = zw h m' ∧ Fsv m m') 0 0) l 0 0 (zw h mm) 341 [(15, .int (nI 1)), (14, .int B14), (11, .int br), (10, .int v), (9, .int (nI w9 - nI 1)), (8, .int (nI D)), (0, .ref (G.1 + 0))] [] := by
  intro mm hF
  have hn := hI.n14
  have hk := hI.ok
  have g := hI.g
  refine Z_iload 343 0 dL_would_341 rfl rfl ?_
  refine Z_if_eq 346 496 dL_would_343 rfl rfl (fun c343 => absurd c343 (by decide)) (fun c343 => ?_)
  refine Z_iload 348 1 dL_would_346 rfl rfl ?_
  refine Z_if_eq 351 360 dL_would_348 rfl rfl (fun c348 => ?_) (fun c348 => ?_)
  · skip
    have nb : ¬ DBad D w9 := fl_n hB c348
    refine Z_iload 362 4 dL_would_360 rfl rfl ?_
    refine Z_if_ne 365 429 dL_would_362 rfl rfl (fun c362 => ?_) (fun c362 => ?_)
    · skip
      obtain ⟨d1, d2, ev⟩ := dy_2 hv nb (w9_1 c362)
      have ds := dy_sum hI ⟨d1, d2⟩
      refine Z_iload 431 3 dL_would_429 rfl rfl ?_
      refine Z_aload_n 432 6 dL_would_431 rfl rfl ?_
      refine Z_iconst 433 (nI 4) dL_would_432 rfl rfl ?_
      refine Z_callV 436 [_] 3 (v_count4 hF hk) dL_would_433 rfl qL_13 kX3_count rfl rfl (Nat.le_of_ble_eq_true rfl) rfl rfl ⟨(Nat.le_of_ble_eq_true rfl), (Nat.le_of_ble_eq_true rfl)⟩ (Nat.le_of_ble_eq_true rfl) ⟨rfl, rfl⟩ ⟨(Nat.le_of_ble_eq_true rfl), (Nat.le_of_ble_eq_true rfl)⟩ (fun r9 w9 hp9 => ?_)
      obtain ⟨rfl, mm, rfl, hF⟩ := hp9
      refine Z_icmp_lt 439 496 dL_would_436 rfl rfl (fun c436 => absurd c436 ((by rw [ev]; exact nlt ds.1))) (fun c436 => ?_)
      refine Z_iload 441 3 dL_would_439 rfl rfl ?_
      refine Z_sipush 444 (nI 792) dL_would_441 rfl rfl ?_
      refine Z_icmp_gt 447 496 dL_would_444 rfl rfl (fun c444 => absurd c444 ((by rw [ev]; exact nlt ds.2))) (fun c444 => ?_)
      refine Z_lv [2, 6] rfl ?_
      exact lL_would447 hI hbr mm hF
    · skip
      obtain ⟨d1, d2, ev⟩ := dy_1 hv nb (w9_0 hw (Classical.not_not.mp c362))
      have lb := bc_le m n D
      refine Z_iload 367 3 dL_would_365 rfl rfl ?_
      refine Z_if_lt 370 496 dL_would_367 rfl rfl (fun c367 => absurd c367 ((by rw [ev]; exact nI_pos (by omega)))) (fun c367 => ?_)
      refine Z_iload 372 3 dL_would_370 rfl rfl ?_
      refine Z_aload_n 373 6 dL_would_372 rfl rfl ?_
      refine Z_iconst 374 (nI 1) dL_would_373 rfl rfl ?_
      refine Z_callV 377 [_] 3 (v_count1 hF hk) dL_would_374 rfl qL_13 kX3_count rfl rfl (Nat.le_of_ble_eq_true rfl) rfl rfl ⟨(Nat.le_of_ble_eq_true rfl), (Nat.le_of_ble_eq_true rfl)⟩ (Nat.le_of_ble_eq_true rfl) ⟨rfl, rfl⟩ ⟨(Nat.le_of_ble_eq_true rfl), (Nat.le_of_ble_eq_true rfl)⟩ (fun r9 w9 hp9 => ?_)
      obtain ⟨rfl, mm, rfl, hF⟩ := hp9
      refine Z_icmp_gt 380 496 dL_would_377 rfl rfl (fun c377 => absurd c377 ((by rw [ev]; exact nI_nlt lb (by omega)))) (fun c377 => ?_)
      refine Z_iload 382 2 dL_would_380 rfl rfl ?_
      refine Z_bipush 384 (-4) dL_would_382 rfl rfl ?_
      refine Z_icmp_eq 387 399 dL_would_384 rfl rfl (fun c384 => ?_) (fun c384 => ?_)
      · skip
        refine Z_iload 401 2 dL_would_399 rfl rfl ?_
        refine Z_bipush 403 (-4) dL_would_401 rfl rfl ?_
        refine Z_icmp_ne 406 414 dL_would_403 rfl rfl (fun c403 => ?_) (fun c403 => ?_)
        · skip
          refine Z_iload 416 5 dL_would_414 rfl rfl ?_
          refine Z_iload 418 2 dL_would_416 rfl rfl ?_
          refine Z_icmp_ge 421 447 dL_would_418 rfl rfl (fun c418 => ?_) (fun c418 => ?_)
          · skip
            refine Z_lv [2, 6] rfl ?_
            exact lL_would447 hI hbr mm hF
          · skip
            refine Z_iload 423 3 dL_would_421 rfl rfl ?_
            refine Z_if_ne 426 496 dL_would_423 rfl rfl (fun c423 => absurd c423 (fun z => z (by obtain ⟨k, k1, k2, k3, k4⟩ := br_rng hbr c403; rw [ev, k4 D (by rw [k2] at c418; exact (nI_ltI (by omega) (by omega)).mp (Int32.not_le.mp c418))]; rfl))) (fun c423 => ?_)
            refine Z_goto 447 dL_would_426 rfl ?_
            refine Z_lv [2, 6] rfl ?_
            exact lL_would447 hI hbr mm hF
        · skip
          refine Z_iload 408 3 dL_would_406 rfl rfl ?_
          refine Z_if_ne 411 496 dL_would_408 rfl rfl (fun c408 => absurd c408 (fun z => z (by rw [ev, br_none hbr (Classical.not_not.mp c403) D (by omega)]; rfl))) (fun c408 => ?_)
          refine Z_goto 447 dL_would_411 rfl ?_
          refine Z_lv [2, 6] rfl ?_
          exact lL_would447 hI hbr mm hF
      · skip
        refine Z_iload 389 5 dL_would_387 rfl rfl ?_
        refine Z_iload 391 2 dL_would_389 rfl rfl ?_
        refine Z_icmp_ne 394 399 dL_would_391 rfl rfl (fun c391 => ?_) (fun c391 => ?_)
        · skip
          refine Z_iload 401 2 dL_would_399 rfl rfl ?_
          refine Z_bipush 403 (-4) dL_would_401 rfl rfl ?_
          refine Z_icmp_ne 406 414 dL_would_403 rfl rfl (fun c403 => ?_) (fun c403 => ?_)
          · skip
            refine Z_iload 416 5 dL_would_414 rfl rfl ?_
            refine Z_iload 418 2 dL_would_416 rfl rfl ?_
            refine Z_icmp_ge 421 447 dL_would_418 rfl rfl (fun c418 => ?_) (fun c418 => ?_)
            · skip
              refine Z_lv [2, 6] rfl ?_
              exact lL_would447 hI hbr mm hF
            · skip
              refine Z_iload 423 3 dL_would_421 rfl rfl ?_
              refine Z_if_ne 426 496 dL_would_423 rfl rfl (fun c423 => absurd c423 (fun z => z (by obtain ⟨k, k1, k2, k3, k4⟩ := br_rng hbr c403; rw [ev, k4 D (by rw [k2] at c418; exact (nI_ltI (by omega) (by omega)).mp (Int32.not_le.mp c418))]; rfl))) (fun c423 => ?_)
              refine Z_goto 447 dL_would_426 rfl ?_
              refine Z_lv [2, 6] rfl ?_
              exact lL_would447 hI hbr mm hF
          · skip
            refine Z_iload 408 3 dL_would_406 rfl rfl ?_
            refine Z_if_ne 411 496 dL_would_408 rfl rfl (fun c408 => absurd c408 (fun z => z (by rw [ev, br_none hbr (Classical.not_not.mp c403) D (by omega)]; rfl))) (fun c408 => ?_)
            refine Z_goto 447 dL_would_411 rfl ?_
            refine Z_lv [2, 6] rfl ?_
            exact lL_would447 hI hbr mm hF
        · skip
          refine Z_iload 396 3 dL_would_394 rfl rfl ?_
          refine Z_if_le 399 496 dL_would_396 rfl rfl (fun c396 => absurd c396 ((by obtain ⟨k, k1, k2, k3, -⟩ := br_rng hbr c384; rw [ev]; have e := (nI_eq (a := D) (b := k) (by omega) (by omega)).mp ((Classical.not_not.mp c391).trans k2); rw [e]; exact nI_nle k3 (by have := bc_le m n k; omega)))) (fun c396 => ?_)
          refine Z_iload 401 2 dL_would_399 rfl rfl ?_
          refine Z_bipush 403 (-4) dL_would_401 rfl rfl ?_
          refine Z_icmp_ne 406 414 dL_would_403 rfl rfl (fun c403 => ?_) (fun c403 => ?_)
          · skip
            refine Z_iload 416 5 dL_would_414 rfl rfl ?_
            refine Z_iload 418 2 dL_would_416 rfl rfl ?_
            refine Z_icmp_ge 421 447 dL_would_418 rfl rfl (fun c418 => ?_) (fun c418 => ?_)
            · skip
              refine Z_lv [2, 6] rfl ?_
              exact lL_would447 hI hbr mm hF
            · skip
              refine Z_iload 423 3 dL_would_421 rfl rfl ?_
              refine Z_if_ne 426 496 dL_would_423 rfl rfl (fun c423 => absurd c423 (fun z => z (by obtain ⟨k, k1, k2, k3, k4⟩ := br_rng hbr c403; rw [ev, k4 D (by rw [k2] at c418; exact (nI_ltI (by omega) (by omega)).mp (Int32.not_le.mp c418))]; rfl))) (fun c423 => ?_)
              refine Z_goto 447 dL_would_426 rfl ?_
              refine Z_lv [2, 6] rfl ?_
              exact lL_would447 hI hbr mm hF
          · skip
            refine Z_iload 408 3 dL_would_406 rfl rfl ?_
            refine Z_if_ne 411 496 dL_would_408 rfl rfl (fun c408 => absurd c408 (fun z => z (by rw [ev, br_none hbr (Classical.not_not.mp c403) D (by omega)]; rfl))) (fun c408 => ?_)
            refine Z_goto 447 dL_would_411 rfl ?_
            refine Z_lv [2, 6] rfl ?_
            exact lL_would447 hI hbr mm hF
  · skip
    have nb : DBad D w9 := fl_y hB c348
    refine Z_iload 353 3 dL_would_351 rfl rfl ?_
    refine Z_iconst 354 (-1) dL_would_353 rfl rfl ?_
    refine Z_icmp_ne 357 496 dL_would_354 rfl rfl (fun c354 => absurd c354 (fun z => z (dy_bad hv nb))) (fun c354 => ?_)
    refine Z_goto 447 dL_would_357 rfl ?_
    refine Z_lv [2, 6] rfl ?_
    exact lL_would447 hI hbr mm hF

set_option maxRecDepth 100000 in
set_option maxHeartbeats 4000000 in
theorem lL_would281 {G : zG} {l : Launch} {h : Nat → Nat} {m : zM} {K n : Nat} (hI : Inv K m n)  {D w9 : Nat} (hD : D < 32) (hw : w9 < 4) {v br B14 : Int32} (hv : DyP m n D w9 v) (hbr : brkIn (bcA m n) br) (hB : (DBad D w9 ∧ ¬ B14 = 0) ∨ (¬ DBad D w9 ∧ B14 = 0)) {a b : Nat} (ha : a < 9) (hb : b < 9) {d wy bd tg B12 B13 : Int32} (hwy : WyP m n a b d wy) (hbd : BdP m n a b bd) (htg : TgP m n a b tg) (h12 : (WOff a b ∧ ¬ B12 = 0) ∨ (¬ WOff a b ∧ B12 = 0)) (h13 : (WNo a b ∧ ¬ B13 = 0) ∨ (¬ WNo a b ∧ B13 = 0)) : ∀ mm : zM, Fsv m mm → Z G mL_would (fun _ => True) (zN G (fun r w => r = some (.int (nI 1)) ∧ ∃ m', w = zw h m' ∧ Fsv m m') 0 0) l 0 0 (zw h mm) 281 [(14, .int B14), (13, .int B13), (12, .int B12), (11, .int br), (10, .int v), (9, .int (nI w9 - nI 1)), (8, .int (nI D)), (7, .int tg), (6, .int bd), (5, .int wy), (4, .int d), (3, .int (nI b)), (2, .int (nI a)), (0, .ref (G.1 + 0))] [] := by
  intro mm hF
  have hn := hI.n14
  have hk := hI.ok
  have g := hI.g
  refine Z_iload 283 2 dL_would_281 rfl rfl ?_
  refine Z_if_eq 286 295 dL_would_283 rfl rfl (fun c283 => ?_) (fun c283 => ?_)
  · skip
    have no : ¬ WOff a b := fl_n h12 c283
    refine Z_iload_n 296 12 dL_would_295 rfl rfl ?_
    refine Z_iload_n 297 11 dL_would_296 rfl rfl ?_
    refine Z_icmp_ne 300 311 dL_would_297 rfl rfl (fun c297 => ?_) (fun c297 => ?_)
    · skip
      refine Z_iload 313 8 dL_would_311 rfl rfl ?_
      refine Z_bipush 315 (-4) dL_would_313 rfl rfl ?_
      refine Z_icmp_eq 318 334 dL_would_315 rfl rfl (fun c315 => ?_) (fun c315 => ?_)
      · skip
        refine Z_iconst 335 (nI 1) dL_would_334 rfl rfl ?_
        refine Z_goto 339 dL_would_335 rfl ?_
        refine Z_istore 341 [(15, _), (14, _), (13, _), (12, _), (11, _), (10, _), (9, _), (8, _), (7, _), (6, _), (5, _), (4, _), (3, _), (2, _), (0, _)] dL_would_339 rfl (Nat.le_of_ble_eq_true rfl) rfl ?_
        refine Z_lv [0, 1, 4, 5, 6, 7, 14] rfl ?_
        exact lL_would341 hI hD hw hv hbr hB mm hF
      · skip
        refine Z_iload 320 8 dL_would_318 rfl rfl ?_
        refine Z_sipush 323 (nI 901) dL_would_320 rfl rfl ?_
        refine Z_icmp_lt 326 338 dL_would_323 rfl rfl (fun c323 => absurd c323 (bd_901 hI ha hb hbd no c315)) (fun c323 => ?_)
        refine Z_iload 328 8 dL_would_326 rfl rfl ?_
        refine Z_sipush 331 (nI 2000) dL_would_328 rfl rfl ?_
        refine Z_icmp_ge 334 338 dL_would_331 rfl rfl (fun c331 => absurd c331 (bd_2000 hI ha hb hbd no c315)) (fun c331 => ?_)
        refine Z_iconst 335 (nI 1) dL_would_334 rfl rfl ?_
        refine Z_goto 339 dL_would_335 rfl ?_
        refine Z_istore 341 [(15, _), (14, _), (13, _), (12, _), (11, _), (10, _), (9, _), (8, _), (7, _), (6, _), (5, _), (4, _), (3, _), (2, _), (0, _)] dL_would_339 rfl (Nat.le_of_ble_eq_true rfl) rfl ?_
        refine Z_lv [0, 1, 4, 5, 6, 7, 14] rfl ?_
        exact lL_would341 hI hD hw hv hbr hB mm hF
    · skip
      refine Z_iload 302 8 dL_would_300 rfl rfl ?_
      refine Z_sipush 305 (nI 1000) dL_would_302 rfl rfl ?_
      refine Z_icmp_ne 308 338 dL_would_305 rfl rfl (fun c305 => absurd c305 ((by have e : a = b := (nI_eq (by omega) (by omega)).mp (Classical.not_not.mp c297); subst e; exact fun z => z (bd_self hI ha hbd no)))) (fun c305 => ?_)
      refine Z_goto 334 dL_would_308 rfl ?_
      refine Z_iconst 335 (nI 1) dL_would_334 rfl rfl ?_
      refine Z_goto 339 dL_would_335 rfl ?_
      refine Z_istore 341 [(15, _), (14, _), (13, _), (12, _), (11, _), (10, _), (9, _), (8, _), (7, _), (6, _), (5, _), (4, _), (3, _), (2, _), (0, _)] dL_would_339 rfl (Nat.le_of_ble_eq_true rfl) rfl ?_
      refine Z_lv [0, 1, 4, 5, 6, 7, 14] rfl ?_
      exact lL_would341 hI hD hw hv hbr hB mm hF
  · skip
    have no : WOff a b := fl_y h12 c283
    refine Z_iload 288 8 dL_would_286 rfl rfl ?_
    refine Z_iconst 289 (-1) dL_would_288 rfl rfl ?_
    refine Z_icmp_ne 292 338 dL_would_289 rfl rfl (fun c289 => absurd c289 (fun z => z (bd_off ha hb hbd no))) (fun c289 => ?_)
    refine Z_goto 334 dL_would_292 rfl ?_
    refine Z_iconst 335 (nI 1) dL_would_334 rfl rfl ?_
    refine Z_goto 339 dL_would_335 rfl ?_
    refine Z_istore 341 [(15, _), (14, _), (13, _), (12, _), (11, _), (10, _), (9, _), (8, _), (7, _), (6, _), (5, _), (4, _), (3, _), (2, _), (0, _)] dL_would_339 rfl (Nat.le_of_ble_eq_true rfl) rfl ?_
    refine Z_lv [0, 1, 4, 5, 6, 7, 14] rfl ?_
    exact lL_would341 hI hD hw hv hbr hB mm hF

set_option maxRecDepth 100000 in
set_option maxHeartbeats 4000000 in
theorem lL_would204 {G : zG} {l : Launch} {h : Nat → Nat} {m : zM} {K n : Nat} (hI : Inv K m n)  {D w9 : Nat} (hD : D < 32) (hw : w9 < 4) {v br B14 : Int32} (hv : DyP m n D w9 v) (hbr : brkIn (bcA m n) br) (hB : (DBad D w9 ∧ ¬ B14 = 0) ∨ (¬ DBad D w9 ∧ B14 = 0)) {a b : Nat} (ha : a < 9) (hb : b < 9) {d wy bd tg B12 B13 : Int32} (hwy : WyP m n a b d wy) (hbd : BdP m n a b bd) (htg : TgP m n a b tg) (h12 : (WOff a b ∧ ¬ B12 = 0) ∨ (¬ WOff a b ∧ B12 = 0)) (h13 : (WNo a b ∧ ¬ B13 = 0) ∨ (¬ WNo a b ∧ B13 = 0)) : ∀ mm : zM, Fsv m mm → Z G mL_would (fun _ => True) (zN G (fun r w => r = some (.int (nI 1)) ∧ ∃ m', w = zw h m' ∧ Fsv m m') 0 0) l 0 0 (zw h mm) 204 [(14, .int B14), (13, .int B13), (12, .int B12), (11, .int br), (10, .int v), (9, .int (nI w9 - nI 1)), (8, .int (nI D)), (7, .int tg), (6, .int bd), (5, .int wy), (4, .int d), (3, .int (nI b)), (2, .int (nI a)), (0, .ref (G.1 + 0))] [] := by
  intro mm hF
  have hn := hI.n14
  have hk := hI.ok
  have g := hI.g
  refine Z_iload 206 1 dL_would_204 rfl rfl ?_
  refine Z_if_ne 209 223 dL_would_206 rfl rfl (fun c206 => ?_) (fun c206 => ?_)
  · skip
    have no : WNo a b := fl_y h13 c206
    refine Z_iload 225 9 dL_would_223 rfl rfl ?_
    refine Z_iconst 226 (-1) dL_would_225 rfl rfl ?_
    refine Z_icmp_ne 229 338 dL_would_226 rfl rfl (fun c226 => absurd c226 ((by first | exact fun z => z (wy_no ha hb hwy (Or.inl no)) | exact fun z => z (wy_no ha hb hwy (Or.inr (Or.inl c213))) | exact fun z => z (wy_no ha hb hwy (Or.inr (Or.inr (Int32.not_le.mp c220))))))) (fun c226 => ?_)
    refine Z_goto 281 dL_would_229 rfl ?_
    exact lL_would281 hI hD hw hv hbr hB ha hb hwy hbd htg h12 h13 mm hF
  · skip
    have no : ¬ WNo a b := fl_n h13 (Classical.not_not.mp c206)
    refine Z_iload 211 10 dL_would_209 rfl rfl ?_
    refine Z_bipush 213 (-30) dL_would_211 rfl rfl ?_
    refine Z_icmp_lt 216 223 dL_would_213 rfl rfl (fun c213 => ?_) (fun c213 => ?_)
    · skip
      refine Z_iload 225 9 dL_would_223 rfl rfl ?_
      refine Z_iconst 226 (-1) dL_would_225 rfl rfl ?_
      refine Z_icmp_ne 229 338 dL_would_226 rfl rfl (fun c226 => absurd c226 ((by first | exact fun z => z (wy_no ha hb hwy (Or.inl no)) | exact fun z => z (wy_no ha hb hwy (Or.inr (Or.inl c213))) | exact fun z => z (wy_no ha hb hwy (Or.inr (Or.inr (Int32.not_le.mp c220))))))) (fun c226 => ?_)
      refine Z_goto 281 dL_would_229 rfl ?_
      exact lL_would281 hI hD hw hv hbr hB ha hb hwy hbd htg h12 h13 mm hF
    · skip
      refine Z_iload 218 10 dL_would_216 rfl rfl ?_
      refine Z_bipush 220 (nI 60) dL_would_218 rfl rfl ?_
      refine Z_icmp_le 223 232 dL_would_220 rfl rfl (fun c220 => ?_) (fun c220 => ?_)
      · skip
        refine Z_iload 234 9 dL_would_232 rfl rfl ?_
        refine Z_iload 236 7 dL_would_234 rfl rfl ?_
        refine Z_bipush 238 (-4) dL_would_236 rfl rfl ?_
        refine Z_icmp_eq 241 251 dL_would_238 rfl rfl (fun c238 => ?_) (fun c238 => ?_)
        · skip
          refine Z_iconst 252 (nI 1) dL_would_251 rfl rfl ?_
          refine Z_goto 278 dL_would_252 rfl ?_
          refine Z_icmp_ne 281 338 dL_would_278 rfl rfl (fun c278 => absurd c278 ((by first | exact fun z => z (wy_1 ha hb hwy htg no c213 c220 (Or.inl c238)) | exact fun z => z (wy_1 ha hb hwy htg no c213 c220 (Or.inr c248)) | exact fun z => z ((wy_2 hI ha hb hwy hbd htg no c213 c220 c238 c248).elim (fun y => y.2) (fun y => absurd c259 y.1.1)) | exact fun z => z ((wy_2 hI ha hb hwy hbd htg no c213 c220 c238 c248).elim (fun y => y.2) (fun y => absurd c270 y.1.2)) | exact fun z => z ((wy_2 hI ha hb hwy hbd htg no c213 c220 c238 c248).elim (fun y => absurd y.1 (fun q => q.elim c259 c270)) (fun y => y.2))))) (fun c278 => ?_)
          exact lL_would281 hI hD hw hv hbr hB ha hb hwy hbd htg h12 h13 mm hF
        · skip
          refine Z_iload 243 10 dL_would_241 rfl rfl ?_
          refine Z_iload 245 7 dL_would_243 rfl rfl ?_
          refine Z_bipush 247 (nI 100) dL_would_245 rfl rfl ?_
          refine Z_isub 248 dL_would_247 rfl ?_
          refine Z_icmp_ge 251 255 dL_would_248 rfl rfl (fun c248 => ?_) (fun c248 => ?_)
          · skip
            refine Z_iload 257 8 dL_would_255 rfl rfl ?_
            refine Z_bipush 259 (-4) dL_would_257 rfl rfl ?_
            refine Z_icmp_eq 262 277 dL_would_259 rfl rfl (fun c259 => ?_) (fun c259 => ?_)
            · skip
              refine Z_iconst 278 (nI 0) dL_would_277 rfl rfl ?_
              refine Z_icmp_ne 281 338 dL_would_278 rfl rfl (fun c278 => absurd c278 ((by first | exact fun z => z (wy_1 ha hb hwy htg no c213 c220 (Or.inl c238)) | exact fun z => z (wy_1 ha hb hwy htg no c213 c220 (Or.inr c248)) | exact fun z => z ((wy_2 hI ha hb hwy hbd htg no c213 c220 c238 c248).elim (fun y => y.2) (fun y => absurd c259 y.1.1)) | exact fun z => z ((wy_2 hI ha hb hwy hbd htg no c213 c220 c238 c248).elim (fun y => y.2) (fun y => absurd c270 y.1.2)) | exact fun z => z ((wy_2 hI ha hb hwy hbd htg no c213 c220 c238 c248).elim (fun y => absurd y.1 (fun q => q.elim c259 c270)) (fun y => y.2))))) (fun c278 => ?_)
              exact lL_would281 hI hD hw hv hbr hB ha hb hwy hbd htg h12 h13 mm hF
            · skip
              refine Z_iload 264 8 dL_would_262 rfl rfl ?_
              refine Z_sipush 267 (nI 1000) dL_would_264 rfl rfl ?_
              refine Z_iload 269 10 dL_would_267 rfl rfl ?_
              refine Z_iadd 270 dL_would_269 rfl ?_
              refine Z_icmp_gt 273 277 dL_would_270 rfl rfl (fun c270 => ?_) (fun c270 => ?_)
              · skip
                refine Z_iconst 278 (nI 0) dL_would_277 rfl rfl ?_
                refine Z_icmp_ne 281 338 dL_would_278 rfl rfl (fun c278 => absurd c278 ((by first | exact fun z => z (wy_1 ha hb hwy htg no c213 c220 (Or.inl c238)) | exact fun z => z (wy_1 ha hb hwy htg no c213 c220 (Or.inr c248)) | exact fun z => z ((wy_2 hI ha hb hwy hbd htg no c213 c220 c238 c248).elim (fun y => y.2) (fun y => absurd c259 y.1.1)) | exact fun z => z ((wy_2 hI ha hb hwy hbd htg no c213 c220 c238 c248).elim (fun y => y.2) (fun y => absurd c270 y.1.2)) | exact fun z => z ((wy_2 hI ha hb hwy hbd htg no c213 c220 c238 c248).elim (fun y => absurd y.1 (fun q => q.elim c259 c270)) (fun y => y.2))))) (fun c278 => ?_)
                exact lL_would281 hI hD hw hv hbr hB ha hb hwy hbd htg h12 h13 mm hF
              · skip
                refine Z_iconst 274 (nI 2) dL_would_273 rfl rfl ?_
                refine Z_goto 278 dL_would_274 rfl ?_
                refine Z_icmp_ne 281 338 dL_would_278 rfl rfl (fun c278 => absurd c278 ((by first | exact fun z => z (wy_1 ha hb hwy htg no c213 c220 (Or.inl c238)) | exact fun z => z (wy_1 ha hb hwy htg no c213 c220 (Or.inr c248)) | exact fun z => z ((wy_2 hI ha hb hwy hbd htg no c213 c220 c238 c248).elim (fun y => y.2) (fun y => absurd c259 y.1.1)) | exact fun z => z ((wy_2 hI ha hb hwy hbd htg no c213 c220 c238 c248).elim (fun y => y.2) (fun y => absurd c270 y.1.2)) | exact fun z => z ((wy_2 hI ha hb hwy hbd htg no c213 c220 c238 c248).elim (fun y => absurd y.1 (fun q => q.elim c259 c270)) (fun y => y.2))))) (fun c278 => ?_)
                exact lL_would281 hI hD hw hv hbr hB ha hb hwy hbd htg h12 h13 mm hF
          · skip
            refine Z_iconst 252 (nI 1) dL_would_251 rfl rfl ?_
            refine Z_goto 278 dL_would_252 rfl ?_
            refine Z_icmp_ne 281 338 dL_would_278 rfl rfl (fun c278 => absurd c278 ((by first | exact fun z => z (wy_1 ha hb hwy htg no c213 c220 (Or.inl c238)) | exact fun z => z (wy_1 ha hb hwy htg no c213 c220 (Or.inr c248)) | exact fun z => z ((wy_2 hI ha hb hwy hbd htg no c213 c220 c238 c248).elim (fun y => y.2) (fun y => absurd c259 y.1.1)) | exact fun z => z ((wy_2 hI ha hb hwy hbd htg no c213 c220 c238 c248).elim (fun y => y.2) (fun y => absurd c270 y.1.2)) | exact fun z => z ((wy_2 hI ha hb hwy hbd htg no c213 c220 c238 c248).elim (fun y => absurd y.1 (fun q => q.elim c259 c270)) (fun y => y.2))))) (fun c278 => ?_)
            exact lL_would281 hI hD hw hv hbr hB ha hb hwy hbd htg h12 h13 mm hF
      · skip
        refine Z_iload 225 9 dL_would_223 rfl rfl ?_
        refine Z_iconst 226 (-1) dL_would_225 rfl rfl ?_
        refine Z_icmp_ne 229 338 dL_would_226 rfl rfl (fun c226 => absurd c226 ((by first | exact fun z => z (wy_no ha hb hwy (Or.inl no)) | exact fun z => z (wy_no ha hb hwy (Or.inr (Or.inl c213))) | exact fun z => z (wy_no ha hb hwy (Or.inr (Or.inr (Int32.not_le.mp c220))))))) (fun c226 => ?_)
        refine Z_goto 281 dL_would_229 rfl ?_
        exact lL_would281 hI hD hw hv hbr hB ha hb hwy hbd htg h12 h13 mm hF

set_option maxRecDepth 100000 in
set_option maxHeartbeats 4000000 in
theorem lL_would168 {G : zG} {l : Launch} {h : Nat → Nat} {m : zM} {K n : Nat} (hI : Inv K m n)  {D w9 : Nat} (hD : D < 32) (hw : w9 < 4) {v br B14 : Int32} (hv : DyP m n D w9 v) (hbr : brkIn (bcA m n) br) (hB : (DBad D w9 ∧ ¬ B14 = 0) ∨ (¬ DBad D w9 ∧ B14 = 0)) {a b : Nat} (ha : a < 9) (hb : b < 9) {d wy bd tg B12 B13 : Int32} (hwy : WyP m n a b d wy) (hbd : BdP m n a b bd) (htg : TgP m n a b tg) (h12 : (WOff a b ∧ ¬ B12 = 0) ∨ (¬ WOff a b ∧ B12 = 0)) (h13 : (WNo a b ∧ ¬ B13 = 0) ∨ (¬ WNo a b ∧ B13 = 0)) : ∀ mm : zM, Fsv m mm → Z G mL_would (fun _ => True) (zN G (fun r w => r = some (.int (nI 1)) ∧ ∃ m', w = zw h m' ∧ Fsv m m') 0 0) l 0 0 (zw h mm) 168 [(14, .int B14), (13, .int B13), (12, .int B12), (11, .int br), (10, .int v), (9, .int (nI w9 - nI 1)), (8, .int (nI D)), (7, .int tg), (6, .int bd), (5, .int wy), (4, .int d), (3, .int (nI b)), (2, .int (nI a)), (0, .ref (G.1 + 0))] [] := by
  intro mm hF
  have hn := hI.n14
  have hk := hI.ok
  have g := hI.g
  refine Z_iload 170 1 dL_would_168 rfl rfl ?_
  refine Z_if_eq 173 182 dL_would_170 rfl rfl (fun c170 => ?_) (fun c170 => ?_)
  · skip
    have no : ¬ WNo a b := fl_n h13 c170
    refine Z_iload 184 7 dL_would_182 rfl rfl ?_
    refine Z_bipush 186 (-4) dL_would_184 rfl rfl ?_
    refine Z_icmp_eq 189 204 dL_would_186 rfl rfl (fun c186 => ?_) (fun c186 => ?_)
    · skip
      exact lL_would204 hI hD hw hv hbr hB ha hb hwy hbd htg h12 h13 mm hF
    · skip
      refine Z_iload 191 7 dL_would_189 rfl rfl ?_
      refine Z_bipush 193 (nI 70) dL_would_191 rfl rfl ?_
      refine Z_icmp_lt 196 338 dL_would_193 rfl rfl (fun c193 => absurd c193 ((tg_70 ha hb htg no c186).1)) (fun c193 => ?_)
      refine Z_iload 198 7 dL_would_196 rfl rfl ?_
      refine Z_sipush 201 (nI 160) dL_would_198 rfl rfl ?_
      refine Z_icmp_gt 204 338 dL_would_201 rfl rfl (fun c201 => absurd c201 ((tg_70 ha hb htg no c186).2)) (fun c201 => ?_)
      exact lL_would204 hI hD hw hv hbr hB ha hb hwy hbd htg h12 h13 mm hF
  · skip
    have no : WNo a b := fl_y h13 c170
    refine Z_iload 175 7 dL_would_173 rfl rfl ?_
    refine Z_iconst 176 (-1) dL_would_175 rfl rfl ?_
    refine Z_icmp_ne 179 338 dL_would_176 rfl rfl (fun c176 => absurd c176 (fun z => z (tg_no ha hb htg no))) (fun c176 => ?_)
    refine Z_goto 204 dL_would_179 rfl ?_
    exact lL_would204 hI hD hw hv hbr hB ha hb hwy hbd htg h12 h13 mm hF

theorem bad_3 {w9 : Nat} (hw : w9 < 4) : (nI w9 - nI 1 < 0 → w9 = 0) ∧ (¬ nI w9 - nI 1 < 0 → ¬ w9 = 0) ∧ (nI w9 - nI 1 ≤ nI 1 → ¬ w9 = 3) ∧ (¬ nI w9 - nI 1 ≤ nI 1 → w9 = 3) := by
  have e : w9 = 0 ∨ w9 = 1 ∨ w9 = 2 ∨ w9 = 3 := by omega
  rcases e with rfl | rfl | rfl | rfl <;> decide
set_option maxRecDepth 100000 in
set_option maxHeartbeats 4000000 in
theorem lL_would138 {G : zG} {l : Launch} {h : Nat → Nat} {m : zM} {K n : Nat} (hI : Inv K m n)  {D w9 : Nat} (hD : D < 32) (hw : w9 < 4) {v br : Int32} (hv : DyP m n D w9 v) (hbr : brkIn (bcA m n) br) {a b : Nat} (ha : a < 9) (hb : b < 9) {d wy bd tg B12 B13 : Int32} (hwy : WyP m n a b d wy) (hbd : BdP m n a b bd) (htg : TgP m n a b tg) (h12 : (WOff a b ∧ ¬ B12 = 0) ∨ (¬ WOff a b ∧ B12 = 0)) (h13 : (WNo a b ∧ ¬ B13 = 0) ∨ (¬ WNo a b ∧ B13 = 0)) : ∀ mm : zM, Fsv m mm → Z G mL_would (fun _ => True) (zN G (fun r w => r = some (.int (nI 1)) ∧ ∃ m', w = zw h m' ∧ Fsv m m') 0 0) l 0 0 (zw h mm) 138 [(13, .int B13), (12, .int B12), (11, .int br), (10, .int v), (9, .int (nI w9 - nI 1)), (8, .int (nI D)), (7, .int tg), (6, .int bd), (5, .int wy), (4, .int d), (3, .int (nI b)), (2, .int (nI a)), (0, .ref (G.1 + 0))] [] := by
  intro mm hF
  have hn := hI.n14
  have hk := hI.ok
  have g := hI.g
  refine Z_iload 140 5 dL_would_138 rfl rfl ?_
  refine Z_if_eq 143 161 dL_would_140 rfl rfl (fun c140 => ?_) (fun c140 => ?_)
  · skip
    refine Z_iconst 162 (nI 1) dL_would_161 rfl rfl ?_
    refine Z_goto 166 dL_would_162 rfl ?_
    refine Z_istore 168 [(14, _), (13, _), (12, _), (11, _), (10, _), (9, _), (8, _), (7, _), (6, _), (5, _), (4, _), (3, _), (2, _), (0, _)] dL_would_166 rfl (Nat.le_of_ble_eq_true rfl) rfl ?_
    refine lL_would168 hI hD hw hv hbr (Or.inl ⟨?_, by decide⟩) ha hb hwy hbd htg h12 h13 mm hF
    first | exact Or.inl ((nI_eq (b := 0) (by omega) (by omega)).mp (c140.trans nI_0.symm)) | exact Or.inr (Or.inl ((nI_eq (by omega) (by omega)).mp c147)) | exact Or.inr (Or.inr (Or.inl ((bad_3 hw).1 c152))) | exact Or.inr (Or.inr (Or.inr ((bad_3 hw).2.2.2 c158)))
  · skip
    refine Z_iload 145 5 dL_would_143 rfl rfl ?_
    refine Z_bipush 147 (nI 31) dL_would_145 rfl rfl ?_
    refine Z_icmp_eq 150 161 dL_would_147 rfl rfl (fun c147 => ?_) (fun c147 => ?_)
    · skip
      refine Z_iconst 162 (nI 1) dL_would_161 rfl rfl ?_
      refine Z_goto 166 dL_would_162 rfl ?_
      refine Z_istore 168 [(14, _), (13, _), (12, _), (11, _), (10, _), (9, _), (8, _), (7, _), (6, _), (5, _), (4, _), (3, _), (2, _), (0, _)] dL_would_166 rfl (Nat.le_of_ble_eq_true rfl) rfl ?_
      refine lL_would168 hI hD hw hv hbr (Or.inl ⟨?_, by decide⟩) ha hb hwy hbd htg h12 h13 mm hF
      first | exact Or.inl ((nI_eq (b := 0) (by omega) (by omega)).mp (c140.trans nI_0.symm)) | exact Or.inr (Or.inl ((nI_eq (by omega) (by omega)).mp c147)) | exact Or.inr (Or.inr (Or.inl ((bad_3 hw).1 c152))) | exact Or.inr (Or.inr (Or.inr ((bad_3 hw).2.2.2 c158)))
    · skip
      refine Z_iload 152 4 dL_would_150 rfl rfl ?_
      refine Z_if_lt 155 161 dL_would_152 rfl rfl (fun c152 => ?_) (fun c152 => ?_)
      · skip
        refine Z_iconst 162 (nI 1) dL_would_161 rfl rfl ?_
        refine Z_goto 166 dL_would_162 rfl ?_
        refine Z_istore 168 [(14, _), (13, _), (12, _), (11, _), (10, _), (9, _), (8, _), (7, _), (6, _), (5, _), (4, _), (3, _), (2, _), (0, _)] dL_would_166 rfl (Nat.le_of_ble_eq_true rfl) rfl ?_
        refine lL_would168 hI hD hw hv hbr (Or.inl ⟨?_, by decide⟩) ha hb hwy hbd htg h12 h13 mm hF
        first | exact Or.inl ((nI_eq (b := 0) (by omega) (by omega)).mp (c140.trans nI_0.symm)) | exact Or.inr (Or.inl ((nI_eq (by omega) (by omega)).mp c147)) | exact Or.inr (Or.inr (Or.inl ((bad_3 hw).1 c152))) | exact Or.inr (Or.inr (Or.inr ((bad_3 hw).2.2.2 c158)))
      · skip
        refine Z_iload 157 4 dL_would_155 rfl rfl ?_
        refine Z_iconst 158 (nI 1) dL_would_157 rfl rfl ?_
        refine Z_icmp_le 161 165 dL_would_158 rfl rfl (fun c158 => ?_) (fun c158 => ?_)
        · skip
          refine Z_iconst 166 (nI 0) dL_would_165 rfl rfl ?_
          refine Z_istore 168 [(14, _), (13, _), (12, _), (11, _), (10, _), (9, _), (8, _), (7, _), (6, _), (5, _), (4, _), (3, _), (2, _), (0, _)] dL_would_166 rfl (Nat.le_of_ble_eq_true rfl) rfl ?_
          refine lL_would168 hI hD hw hv hbr (Or.inr ⟨fun z => ?_, rfl⟩) ha hb hwy hbd htg h12 h13 mm hF
          rcases z with z | z | z | z
          · exact c140 (by rw [z]; rfl)
          · exact c147 (by rw [z])
          · exact (bad_3 hw).2.1 c152 z
          · exact (bad_3 hw).2.2.1 c158 z
        · skip
          refine Z_iconst 162 (nI 1) dL_would_161 rfl rfl ?_
          refine Z_goto 166 dL_would_162 rfl ?_
          refine Z_istore 168 [(14, _), (13, _), (12, _), (11, _), (10, _), (9, _), (8, _), (7, _), (6, _), (5, _), (4, _), (3, _), (2, _), (0, _)] dL_would_166 rfl (Nat.le_of_ble_eq_true rfl) rfl ?_
          refine lL_would168 hI hD hw hv hbr (Or.inl ⟨?_, by decide⟩) ha hb hwy hbd htg h12 h13 mm hF
          first | exact Or.inl ((nI_eq (b := 0) (by omega) (by omega)).mp (c140.trans nI_0.symm)) | exact Or.inr (Or.inl ((nI_eq (by omega) (by omega)).mp c147)) | exact Or.inr (Or.inr (Or.inl ((bad_3 hw).1 c152))) | exact Or.inr (Or.inr (Or.inr ((bad_3 hw).2.2.2 c158)))

set_option maxRecDepth 100000 in
set_option maxHeartbeats 4000000 in
theorem lL_would121 {G : zG} {l : Launch} {h : Nat → Nat} {m : zM} {K n : Nat} (hI : Inv K m n)  {D w9 : Nat} (hD : D < 32) (hw : w9 < 4) {v br : Int32} (hv : DyP m n D w9 v) (hbr : brkIn (bcA m n) br) {a b : Nat} (ha : a < 9) (hb : b < 9) {d wy bd tg B12 : Int32} (hwy : WyP m n a b d wy) (hbd : BdP m n a b bd) (htg : TgP m n a b tg) (h12 : (WOff a b ∧ ¬ B12 = 0) ∨ (¬ WOff a b ∧ B12 = 0)) : ∀ mm : zM, Fsv m mm → Z G mL_would (fun _ => True) (zN G (fun r w => r = some (.int (nI 1)) ∧ ∃ m', w = zw h m' ∧ Fsv m m') 0 0) l 0 0 (zw h mm) 121 [(12, .int B12), (11, .int br), (10, .int v), (9, .int (nI w9 - nI 1)), (8, .int (nI D)), (7, .int tg), (6, .int bd), (5, .int wy), (4, .int d), (3, .int (nI b)), (2, .int (nI a)), (0, .ref (G.1 + 0))] [] := by
  intro mm hF
  have hn := hI.n14
  have hk := hI.ok
  have g := hI.g
  refine Z_iload 123 0 dL_would_121 rfl rfl ?_
  refine Z_if_ne 126 131 dL_would_123 rfl rfl (fun c123 => ?_) (fun c123 => ?_)
  · skip
    refine Z_iconst 132 (nI 1) dL_would_131 rfl rfl ?_
    refine Z_goto 136 dL_would_132 rfl ?_
    refine Z_istore 138 [(13, _), (12, _), (11, _), (10, _), (9, _), (8, _), (7, _), (6, _), (5, _), (4, _), (3, _), (2, _), (0, _)] dL_would_136 rfl (Nat.le_of_ble_eq_true rfl) rfl ?_
    refine lL_would138 hI hD hw hv hbr ha hb hwy hbd htg h12 (Or.inl ⟨?_, by decide⟩) mm hF
    rcases h12 with z | z
    · exact Or.inl z.1
    · first | exact absurd z.2 c123 | exact Or.inr ((nI_eq (by omega) (by omega)).mp (Classical.not_not.mp c128))
  · skip
    refine Z_iload_n 127 10 dL_would_126 rfl rfl ?_
    refine Z_iload_n 128 9 dL_would_127 rfl rfl ?_
    refine Z_icmp_ne 131 135 dL_would_128 rfl rfl (fun c128 => ?_) (fun c128 => ?_)
    · skip
      refine Z_iconst 136 (nI 0) dL_would_135 rfl rfl ?_
      refine Z_istore 138 [(13, _), (12, _), (11, _), (10, _), (9, _), (8, _), (7, _), (6, _), (5, _), (4, _), (3, _), (2, _), (0, _)] dL_would_136 rfl (Nat.le_of_ble_eq_true rfl) rfl ?_
      refine lL_would138 hI hD hw hv hbr ha hb hwy hbd htg h12 (Or.inr ⟨fun z => ?_, rfl⟩) mm hF
      rcases z with z | z
      · rcases h12 with y | y
        · exact y.2 (Classical.not_not.mp c123)
        · exact y.1 z
      · exact c128 (by rw [z])
    · skip
      refine Z_iconst 132 (nI 1) dL_would_131 rfl rfl ?_
      refine Z_goto 136 dL_would_132 rfl ?_
      refine Z_istore 138 [(13, _), (12, _), (11, _), (10, _), (9, _), (8, _), (7, _), (6, _), (5, _), (4, _), (3, _), (2, _), (0, _)] dL_would_136 rfl (Nat.le_of_ble_eq_true rfl) rfl ?_
      refine lL_would138 hI hD hw hv hbr ha hb hwy hbd htg h12 (Or.inl ⟨?_, by decide⟩) mm hF
      rcases h12 with z | z
      · exact Or.inl z.1
      · first | exact absurd z.2 c123 | exact Or.inr ((nI_eq (by omega) (by omega)).mp (Classical.not_not.mp c128))

set_option maxRecDepth 100000 in
set_option maxHeartbeats 4000000 in
theorem lL_would102 {G : zG} {l : Launch} {h : Nat → Nat} {m : zM} {K n : Nat} (hI : Inv K m n)  {D w9 : Nat} (hD : D < 32) (hw : w9 < 4) {v br : Int32} (hv : DyP m n D w9 v) (hbr : brkIn (bcA m n) br) {a b : Nat} (ha : a < 9) (hb : b < 9) {d wy bd tg : Int32} (hwy : WyP m n a b d wy) (hbd : BdP m n a b bd) (htg : TgP m n a b tg) : ∀ mm : zM, Fsv m mm → Z G mL_would (fun _ => True) (zN G (fun r w => r = some (.int (nI 1)) ∧ ∃ m', w = zw h m' ∧ Fsv m m') 0 0) l 0 0 (zw h mm) 102 [(11, .int br), (10, .int v), (9, .int (nI w9 - nI 1)), (8, .int (nI D)), (7, .int tg), (6, .int bd), (5, .int wy), (4, .int d), (3, .int (nI b)), (2, .int (nI a)), (0, .ref (G.1 + 0))] [] := by
  intro mm hF
  have hn := hI.n14
  have hk := hI.ok
  have g := hI.g
  refine Z_iload_n 103 9 dL_would_102 rfl rfl ?_
  refine Z_bipush 105 (nI 8) dL_would_103 rfl rfl ?_
  refine Z_icmp_eq 108 114 dL_would_105 rfl rfl (fun c105 => ?_) (fun c105 => ?_)
  · skip
    refine Z_iconst 115 (nI 1) dL_would_114 rfl rfl ?_
    refine Z_goto 119 dL_would_115 rfl ?_
    refine Z_istore 121 [(12, _), (11, _), (10, _), (9, _), (8, _), (7, _), (6, _), (5, _), (4, _), (3, _), (2, _), (0, _)] dL_would_119 rfl (Nat.le_of_ble_eq_true rfl) rfl ?_
    refine lL_would121 hI hD hw hv hbr ha hb hwy hbd htg (Or.inl ⟨?_, by decide⟩) mm hF
    first | exact Or.inl ((nI_eq (by omega) (by omega)).mp c105) | exact Or.inr ((nI_eq (by omega) (by omega)).mp (Classical.not_not.mp c111))
  · skip
    refine Z_iload_n 109 8 dL_would_108 rfl rfl ?_
    refine Z_bipush 111 (nI 8) dL_would_109 rfl rfl ?_
    refine Z_icmp_ne 114 118 dL_would_111 rfl rfl (fun c111 => ?_) (fun c111 => ?_)
    · skip
      refine Z_iconst 119 (nI 0) dL_would_118 rfl rfl ?_
      refine Z_istore 121 [(12, _), (11, _), (10, _), (9, _), (8, _), (7, _), (6, _), (5, _), (4, _), (3, _), (2, _), (0, _)] dL_would_119 rfl (Nat.le_of_ble_eq_true rfl) rfl ?_
      refine lL_would121 hI hD hw hv hbr ha hb hwy hbd htg (Or.inr ⟨fun z => ?_, rfl⟩) mm hF
      rcases z with z | z
      · exact c105 (by rw [z])
      · exact c111 (by rw [z])
    · skip
      refine Z_iconst 115 (nI 1) dL_would_114 rfl rfl ?_
      refine Z_goto 119 dL_would_115 rfl ?_
      refine Z_istore 121 [(12, _), (11, _), (10, _), (9, _), (8, _), (7, _), (6, _), (5, _), (4, _), (3, _), (2, _), (0, _)] dL_would_119 rfl (Nat.le_of_ble_eq_true rfl) rfl ?_
      refine lL_would121 hI hD hw hv hbr ha hb hwy hbd htg (Or.inl ⟨?_, by decide⟩) mm hF
      first | exact Or.inl ((nI_eq (by omega) (by omega)).mp c105) | exact Or.inr ((nI_eq (by omega) (by omega)).mp (Classical.not_not.mp c111))

set_option maxRecDepth 100000 in
set_option maxHeartbeats 4000000 in
theorem zL_would {G : zG} {l : Launch} {h : Nat → Nat} {m : zM} {K n : Nat} {mm : zM} (hI : Inv K m n) (hF : Fsv m mm) (x : Int32) : zMet G l yL_would mL_would [.ref (G.1 + 0), .int x] (zw h mm) (fun r w => r = some (.int (nI 1)) ∧ ∃ m', w = zw h m' ∧ Fsv m m') 0 0 := by
  refine zMet_of [(0, .ref (G.1 + 0)), (1, .int x)] (by decide +kernel) rfl (Or.inl rfl) (Nat.le_of_ble_eq_true rfl) rfl ?_
  have hn := hI.n14
  have hk := hI.ok
  have g := hI.g
  refine Z_iload_n 1 1 dL_would_0 rfl rfl ?_
  refine Z_bipush 3 (nI 9) dL_would_1 rfl rfl ?_
  refine Z_callS 6 [_, _] (zL_low _ 9 (by decide)) dL_would_3 rfl qL_39 kL_low rfl rfl ⟨(Nat.le_of_ble_eq_true rfl), (Nat.le_of_ble_eq_true rfl)⟩ (Nat.le_of_ble_eq_true rfl) ⟨rfl, rfl⟩ ⟨(Nat.le_of_ble_eq_true rfl), (Nat.le_of_ble_eq_true rfl)⟩ (fun r9 w9 hp9 => ?_)
  obtain ⟨⟨q3, hq3, rfl⟩, rfl⟩ := hp9
  refine Z_istore_n 7 [(2, _), (0, _), (1, _)] dL_would_6 rfl (Nat.le_of_ble_eq_true rfl) rfl ?_
  refine Z_iload_n 8 2 dL_would_7 rfl rfl ?_
  refine Z_iconst 9 (nI 3) dL_would_8 rfl rfl ?_
  refine Z_ishr 10 dL_would_9 rfl ?_
  refine Z_bipush 12 (nI 9) dL_would_10 rfl rfl ?_
  refine Z_callS 15 [_, _] (zL_low _ 9 (by decide)) dL_would_12 rfl qL_39 kL_low rfl rfl ⟨(Nat.le_of_ble_eq_true rfl), (Nat.le_of_ble_eq_true rfl)⟩ (Nat.le_of_ble_eq_true rfl) ⟨rfl, rfl⟩ ⟨(Nat.le_of_ble_eq_true rfl), (Nat.le_of_ble_eq_true rfl)⟩ (fun r9 w9 hp9 => ?_)
  obtain ⟨⟨q12, hq12, rfl⟩, rfl⟩ := hp9
  refine Z_istore_n 16 [(3, _), (2, _), (0, _), (1, _)] dL_would_15 rfl (Nat.le_of_ble_eq_true rfl) rfl ?_
  refine Z_iload_n 17 3 dL_would_16 rfl rfl ?_
  refine Z_bipush 19 (nI 6) dL_would_17 rfl rfl ?_
  refine Z_ishr 20 dL_would_19 rfl ?_
  refine Z_bipush 22 (nI 93) dL_would_20 rfl rfl ?_
  refine Z_callS 25 [_, _] (zL_low _ 93 (by decide)) dL_would_22 rfl qL_39 kL_low rfl rfl ⟨(Nat.le_of_ble_eq_true rfl), (Nat.le_of_ble_eq_true rfl)⟩ (Nat.le_of_ble_eq_true rfl) ⟨rfl, rfl⟩ ⟨(Nat.le_of_ble_eq_true rfl), (Nat.le_of_ble_eq_true rfl)⟩ (fun r9 w9 hp9 => ?_)
  obtain ⟨⟨q22, hq22, rfl⟩, rfl⟩ := hp9
  refine Z_bipush 27 (nI 31) dL_would_25 rfl rfl ?_
  refine Z_isub 28 dL_would_27 rfl ?_
  refine Z_istore 30 [(4, _), (3, _), (2, _), (0, _), (1, _)] dL_would_28 rfl (Nat.le_of_ble_eq_true rfl) rfl ?_
  refine Z_aload_n 31 3 dL_would_30 rfl rfl ?_
  refine Z_iload_n 32 2 dL_would_31 rfl rfl ?_
  refine Z_iload_n 33 1 dL_would_32 rfl rfl ?_
  refine Z_iload 35 0 dL_would_33 rfl rfl ?_
  refine Z_callV 38 [_, _, _] 3 (v_whyNot hF g (by omega) (by omega) _) dL_would_35 rfl qL_42 kX3_whyNot rfl rfl (Nat.le_of_ble_eq_true rfl) rfl rfl ⟨(Nat.le_of_ble_eq_true rfl), (Nat.le_of_ble_eq_true rfl)⟩ (Nat.le_of_ble_eq_true rfl) ⟨rfl, rfl⟩ ⟨(Nat.le_of_ble_eq_true rfl), (Nat.le_of_ble_eq_true rfl)⟩ (fun r9 w9 hp9 => ?_)
  obtain ⟨wy, rfl, hwy, mm, rfl, hF⟩ := hp9
  refine Z_istore 40 [(5, _), (4, _), (3, _), (2, _), (0, _), (1, _)] dL_would_38 rfl (Nat.le_of_ble_eq_true rfl) rfl ?_
  refine Z_aload_n 41 4 dL_would_40 rfl rfl ?_
  refine Z_iload_n 42 3 dL_would_41 rfl rfl ?_
  refine Z_iload_n 43 2 dL_would_42 rfl rfl ?_
  refine Z_iload_n 44 5 dL_would_43 rfl rfl ?_
  refine Z_iconst 45 (nI 5) dL_would_44 rfl rfl ?_
  refine Z_ishr 46 dL_would_45 rfl ?_
  refine Z_iconst 47 (nI 2) dL_would_46 rfl rfl ?_
  refine Z_callS 50 [_, _] (zL_low _ 2 (by decide)) dL_would_47 rfl qL_39 kL_low rfl rfl ⟨(Nat.le_of_ble_eq_true rfl), (Nat.le_of_ble_eq_true rfl)⟩ (Nat.le_of_ble_eq_true rfl) ⟨rfl, rfl⟩ ⟨(Nat.le_of_ble_eq_true rfl), (Nat.le_of_ble_eq_true rfl)⟩ (fun r9 w9 hp9 => ?_)
  obtain ⟨⟨q47, hq47, rfl⟩, rfl⟩ := hp9
  refine Z_callV 53 [_, _, _] 3 (v_boundX hF g (by omega) (by omega) (by omega)) dL_would_50 rfl qL_31 kX3_bound rfl rfl (Nat.le_of_ble_eq_true rfl) rfl rfl ⟨(Nat.le_of_ble_eq_true rfl), (Nat.le_of_ble_eq_true rfl)⟩ (Nat.le_of_ble_eq_true rfl) ⟨rfl, rfl⟩ ⟨(Nat.le_of_ble_eq_true rfl), (Nat.le_of_ble_eq_true rfl)⟩ (fun r9 w9 hp9 => ?_)
  obtain ⟨bd, rfl, hbd, mm, rfl, hF⟩ := hp9
  refine Z_istore 55 [(6, _), (5, _), (4, _), (3, _), (2, _), (0, _), (1, _)] dL_would_53 rfl (Nat.le_of_ble_eq_true rfl) rfl ?_
  refine Z_aload_n 56 5 dL_would_55 rfl rfl ?_
  refine Z_iload_n 57 4 dL_would_56 rfl rfl ?_
  refine Z_iload_n 58 3 dL_would_57 rfl rfl ?_
  refine Z_callV 61 [_, _] 3 (v_tight hF g (by omega) (by omega)) dL_would_58 rfl qL_45 kX3_tightest rfl rfl (Nat.le_of_ble_eq_true rfl) rfl rfl ⟨(Nat.le_of_ble_eq_true rfl), (Nat.le_of_ble_eq_true rfl)⟩ (Nat.le_of_ble_eq_true rfl) ⟨rfl, rfl⟩ ⟨(Nat.le_of_ble_eq_true rfl), (Nat.le_of_ble_eq_true rfl)⟩ (fun r9 w9 hp9 => ?_)
  obtain ⟨tg, rfl, htg, mm, rfl, hF⟩ := hp9
  refine Z_istore 63 [(7, _), (6, _), (5, _), (4, _), (3, _), (2, _), (0, _), (1, _)] dL_would_61 rfl (Nat.le_of_ble_eq_true rfl) rfl ?_
  refine Z_iload_n 64 7 dL_would_63 rfl rfl ?_
  refine Z_bipush 66 (nI 7) dL_would_64 rfl rfl ?_
  refine Z_ishr 67 dL_would_66 rfl ?_
  refine Z_bipush 69 (nI 32) dL_would_67 rfl rfl ?_
  refine Z_callS 72 [_, _] (zL_low _ 32 (by decide)) dL_would_69 rfl qL_39 kL_low rfl rfl ⟨(Nat.le_of_ble_eq_true rfl), (Nat.le_of_ble_eq_true rfl)⟩ (Nat.le_of_ble_eq_true rfl) ⟨rfl, rfl⟩ ⟨(Nat.le_of_ble_eq_true rfl), (Nat.le_of_ble_eq_true rfl)⟩ (fun r9 w9 hp9 => ?_)
  obtain ⟨⟨q69, hq69, rfl⟩, rfl⟩ := hp9
  refine Z_istore 74 [(8, _), (7, _), (6, _), (5, _), (4, _), (3, _), (2, _), (0, _), (1, _)] dL_would_72 rfl (Nat.le_of_ble_eq_true rfl) rfl ?_
  refine Z_iload_n 75 8 dL_would_74 rfl rfl ?_
  refine Z_bipush 77 (nI 10) dL_would_75 rfl rfl ?_
  refine Z_ishr 78 dL_would_77 rfl ?_
  refine Z_iconst 79 (nI 4) dL_would_78 rfl rfl ?_
  refine Z_callS 82 [_, _] (zL_low _ 4 (by decide)) dL_would_79 rfl qL_39 kL_low rfl rfl ⟨(Nat.le_of_ble_eq_true rfl), (Nat.le_of_ble_eq_true rfl)⟩ (Nat.le_of_ble_eq_true rfl) ⟨rfl, rfl⟩ ⟨(Nat.le_of_ble_eq_true rfl), (Nat.le_of_ble_eq_true rfl)⟩ (fun r9 w9 hp9 => ?_)
  obtain ⟨⟨q79, hq79, rfl⟩, rfl⟩ := hp9
  refine Z_iconst 83 (nI 1) dL_would_82 rfl rfl ?_
  refine Z_isub 84 dL_would_83 rfl ?_
  refine Z_istore 86 [(9, _), (8, _), (7, _), (6, _), (5, _), (4, _), (3, _), (2, _), (0, _), (1, _)] dL_would_84 rfl (Nat.le_of_ble_eq_true rfl) rfl ?_
  refine Z_aload_n 87 8 dL_would_86 rfl rfl ?_
  refine Z_iload 89 1 dL_would_87 rfl rfl ?_
  refine Z_iload 91 0 dL_would_89 rfl rfl ?_
  refine Z_callV 94 [_, _] 3 (v_ifDays hF hk (by omega) (by omega)) dL_would_91 rfl qL_48 kX3_ifDays rfl rfl (Nat.le_of_ble_eq_true rfl) rfl rfl ⟨(Nat.le_of_ble_eq_true rfl), (Nat.le_of_ble_eq_true rfl)⟩ (Nat.le_of_ble_eq_true rfl) ⟨rfl, rfl⟩ ⟨(Nat.le_of_ble_eq_true rfl), (Nat.le_of_ble_eq_true rfl)⟩ (fun r9 w9 hp9 => ?_)
  obtain ⟨v, rfl, hv, mm, rfl, hF⟩ := hp9
  refine Z_istore 96 [(10, _), (9, _), (8, _), (7, _), (6, _), (5, _), (4, _), (3, _), (2, _), (0, _), (1, _)] dL_would_94 rfl (Nat.le_of_ble_eq_true rfl) rfl ?_
  refine Z_aload_n 97 9 dL_would_96 rfl rfl ?_
  refine Z_callV 100 [] 3 (v_breaksIn hF hk) dL_would_97 rfl qL_51 kX3_breaksIn rfl rfl (Nat.le_of_ble_eq_true rfl) rfl rfl ⟨(Nat.le_of_ble_eq_true rfl), (Nat.le_of_ble_eq_true rfl)⟩ (Nat.le_of_ble_eq_true rfl) ⟨rfl, rfl⟩ ⟨(Nat.le_of_ble_eq_true rfl), (Nat.le_of_ble_eq_true rfl)⟩ (fun r9 w9 hp9 => ?_)
  obtain ⟨br, rfl, hbr, mm, rfl, hF⟩ := hp9
  refine Z_istore 102 [(11, _), (10, _), (9, _), (8, _), (7, _), (6, _), (5, _), (4, _), (3, _), (2, _), (0, _), (1, _)] dL_would_100 rfl (Nat.le_of_ble_eq_true rfl) rfl ?_
  refine Z_lv [0, 1, 2, 3, 4, 5, 6, 7, 8, 9, 10] rfl ?_
  exact lL_would102 hI hq69 hq79 hv hbr hq3 hq12 hwy hbd htg mm hF

