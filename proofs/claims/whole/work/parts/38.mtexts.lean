/-! the model: whole texts -/
theorem bB_v {b : Bool} : bB b = 0 ∨ bB b = 1 := by
  cases b
  · exact Or.inl rfl
  · exact Or.inr rfl
set_option maxRecDepth 100000 in
set_option maxHeartbeats 4000000 in
theorem lX4_it0 {G : zG} {l : Launch} {h : Nat → Nat} (PP : Option Value → zW → Prop) (mm : zM) (hF : mm 74 11 = nI 0) (hP : PP (some (.int (nI 0))) (zw h mm)) : Z G mX4_isText (fun _ => True) (zN G (PP) 0 0) l 0 0 (zw h mm) 14 [(0, .ref (G.1 + 74))] [] := by
  refine Z_aload_n 15 0 dX4_isText_14 rfl rfl ?_
  refine Z_getI 18 dX4_isText_15 rfl fX4_141 (Nat.le_of_ble_eq_true rfl) rfl rfl ?_
  refine Z_top (congrArg Value.int hF) ?_
  refine Z_if_eq 21 64 dX4_isText_18 rfl rfl (fun c18 => ?_) (fun c18 => absurd (rfl) c18)
  refine Z_aload_n 65 0 dX4_isText_64 rfl rfl ?_
  refine Z_getI 68 dX4_isText_65 rfl fX4_141 (Nat.le_of_ble_eq_true rfl) rfl rfl ?_
  refine Z_top (congrArg Value.int hF) ?_
  exact Z_zret dX4_isText_68 rfl (by first | exact Or.inl rfl | exact Or.inr rfl | exact bI_01) hP
set_option maxRecDepth 100000 in
set_option maxHeartbeats 4000000 in
theorem lX4_it {G : zG} {l : Launch} {h : Nat → Nat} {m : zM} (x : Nat → Int32) (L : Nat) (hx9 : x = hx (m 79) L) (hL : L ≤ 60) (hC : Cb x) : ∀ (T K : Nat) (mm : zM) (B : Bool), L + 1 ≤ sq x K + T → FtB m mm → Good x L K → Rd mm x L (pEn x (sq x K)) B → (B = true ↔ pOk x (sq x K)) → Z G mX4_isText (fun _ => True) (zN G (fun r w => ∃ m' K B v, w = zw h m' ∧ FtB m m' ∧ Good x L K ∧ r = some (.int (bB B)) ∧ m' 74 10 = v ∧ ((B = true ∧ pOk x (sq x K) ∧ pEn x (sq x K) = L ∧ Rd m' x L L true) ∨ (B = false ∧ Flt x L K v ∧ ¬ v = -4))) 0 0) l 0 0 (zw h mm) 14 [(0, .ref (G.1 + 74))] [] := by
  intro T
  induction T with
  | zero =>
    intro K mm B h1 hF hG hR hB
    have := hG.le
    omega
  | succ T ih =>
    intro K mm B h1 hF hG hR hB
    have hsl := hG.le
    have hin := pEn_in x (sq x K)
    refine Z_aload_n 15 0 dX4_isText_14 rfl rfl ?_
    refine Z_getI 18 dX4_isText_15 rfl fX4_141 (Nat.le_of_ble_eq_true rfl) rfl rfl ?_
    refine Z_top (congrArg Value.int hR.2.2.2.2) ?_
    refine Z_if_eq 21 64 dX4_isText_18 rfl rfl (fun c18 => ?_) (fun c18 => ?_)
    · skip
      have hb : B = false := bB_0 c18
      have nok : ¬ pOk x (sq x K) := fun z => by
        rw [hB.mpr z] at hb
        exact absurd hb (by decide)
      refine Z_aload_n 65 0 dX4_isText_64 rfl rfl ?_
      refine Z_getI 68 dX4_isText_65 rfl fX4_141 (Nat.le_of_ble_eq_true rfl) rfl rfl ?_
      refine Z_top (congrArg Value.int hR.2.2.2.2) ?_
      exact Z_zret dX4_isText_68 rfl bB_v (by first | exact ⟨mm, K, true, _, rfl, hF, hG, rfl, hR.2.2.2.1, Or.inl ⟨rfl, ok, by omega, by rw [show pEn x (sq x K) = L by omega] at hR; exact hR⟩⟩ | exact ⟨mm, K, B, _, rfl, hF, hG, rfl, hR.2.2.2.1, Or.inr ⟨hb, Or.inl ⟨nok, rfl⟩, nIm4 (by have := pEn_in x (sq x K); have := hG.le; omega)⟩⟩)
    · skip
      have hb : B = true := bB_1 c18
      have ok : pOk x (sq x K) := hB.mp hb
      have hle := pEn_le hx9 ok
      subst hb
      refine Z_aload_n 22 0 dX4_isText_21 rfl rfl ?_
      refine Z_getI 25 dX4_isText_22 rfl fX4_138 (Nat.le_of_ble_eq_true rfl) rfl rfl ?_
      refine Z_top (v' := .int (nI (pEn x (sq x K)))) (congrArg Value.int (hR.2.2.2.1)) ?_
      refine Z_aload_n 26 0 dX4_isText_25 rfl rfl ?_
      refine Z_getI 29 dX4_isText_26 rfl fX4_135 (Nat.le_of_ble_eq_true rfl) rfl rfl ?_
      refine Z_top (v' := .int (nI L)) (congrArg Value.int (hR.1)) ?_
      refine Z_icmp_ge 32 64 dX4_isText_29 rfl rfl (fun c29 => ?_) (fun c29 => ?_)
      · skip
        have hge : L ≤ pEn x (sq x K) := (nI_leI (by omega) (by omega)).mp c29
        refine Z_aload_n 65 0 dX4_isText_64 rfl rfl ?_
        refine Z_getI 68 dX4_isText_65 rfl fX4_141 (Nat.le_of_ble_eq_true rfl) rfl rfl ?_
        refine Z_top (congrArg Value.int hR.2.2.2.2) ?_
        exact Z_zret dX4_isText_68 rfl bB_v (by first | exact ⟨mm, K, true, _, rfl, hF, hG, rfl, hR.2.2.2.1, Or.inl ⟨rfl, ok, by omega, by rw [show pEn x (sq x K) = L by omega] at hR; exact hR⟩⟩ | exact ⟨mm, K, B, _, rfl, hF, hG, rfl, hR.2.2.2.1, Or.inr ⟨hb, Or.inl ⟨nok, rfl⟩, nIm4 (by have := pEn_in x (sq x K); have := hG.le; omega)⟩⟩)
      · skip
        have hlt : pEn x (sq x K) < L := by
          rcases Nat.lt_or_ge (pEn x (sq x K)) L with g | g
          · exact g
          · exact absurd (nI_le g (by omega)) c29
        refine Z_aload_n 33 0 dX4_isText_32 rfl rfl ?_
        refine Z_aload_n 34 0 dX4_isText_33 rfl rfl ?_
        refine Z_callV 37 [] 4 (zX4_here (m := mm) x L _ _ hR (by omega)) dX4_isText_34 rfl qX4_145 kX4_here rfl rfl (Nat.le_of_ble_eq_true rfl) rfl rfl ⟨(Nat.le_of_ble_eq_true rfl), (Nat.le_of_ble_eq_true rfl)⟩ (Nat.le_of_ble_eq_true rfl) ⟨rfl, rfl⟩ ⟨(Nat.le_of_ble_eq_true rfl), (Nat.le_of_ble_eq_true rfl)⟩ (fun r9 w9 hp9 => ?_)
        obtain ⟨rfl, rfl⟩ := hp9
        refine Z_bipush 39 (nI 59) dX4_isText_37 rfl rfl ?_
        refine Z_icmp_ne 42 46 dX4_isText_39 rfl rfl (fun c39 => ?_) (fun c39 => ?_)
        · skip
          refine Z_iconst 47 (nI 0) dX4_isText_46 rfl rfl ?_
          refine Z_callV 50 [_] 4 (zX4_takes (m := mm) x L _ _ hR (by omega) _ (decide (x (pEn x (sq x K)) = nI 59)) (by first | exact (bI_f c39).symm.trans bI_bB | exact (bI_t (Decidable.not_not.mp c39)).symm.trans bI_bB)) dX4_isText_47 rfl qX4_148 kX4_takes rfl rfl (Nat.le_of_ble_eq_true rfl) rfl rfl ⟨(Nat.le_of_ble_eq_true rfl), (Nat.le_of_ble_eq_true rfl)⟩ (Nat.le_of_ble_eq_true rfl) ⟨rfl, rfl⟩ ⟨(Nat.le_of_ble_eq_true rfl), (Nat.le_of_ble_eq_true rfl)⟩ (fun r9 w9 hp9 => ?_)
          obtain ⟨m2, rfl, hr8, hA2, hR2⟩ := hp9
          cases hr8
          refine Z_aload_n 51 0 dX4_isText_50 rfl rfl ?_
          refine Z_getI 54 dX4_isText_51 rfl fX4_141 (Nat.le_of_ble_eq_true rfl) rfl rfl ?_
          refine Z_top (congrArg Value.int hR2.2.2.2.2) ?_
          refine Z_if_eq 57 14 dX4_isText_54 rfl rfl (fun c54 => ?_) (fun c54 => ?_)
          · skip
            have h59 : ¬ x (pEn x (sq x K)) = nI 59 := of_decide_eq_false (bB_0 c54)
            have ef : (true && decide (x (pEn x (sq x K)) = nI 59)) = false := bB_0 c54
            rw [ef] at hR2
            exact lX4_it0 _ m2 hR2.2.2.2.2 ⟨m2, K, false, nI (pEn x (sq x K)), rfl, hF.trans hA2.b, hG, rfl, hR2.2.2.2.1, Or.inr ⟨rfl, Or.inr (Or.inr ⟨ok, hlt, h59, rfl⟩), nIm4 (by omega)⟩⟩
          · skip
            have h59 : x (pEn x (sq x K)) = nI 59 := of_decide_eq_true (bB_1 c54)
            have ef : (true && decide (x (pEn x (sq x K)) = nI 59)) = true := bB_1 c54
            rw [ef] at hR2
            have hG2 := hG.succ ok hlt h59
            have hp2 := pOk_en ok
            refine Z_aload_n 58 0 dX4_isText_57 rfl rfl ?_
            refine Z_callV 61 [] 4 (zX4_takesPart (m := m2) x L (sq x (K + 1)) hR2 (by have : sq x (K + 1) = pEn x (sq x K) + 1 := rfl; omega) hC) dX4_isText_58 rfl qX4_167 kX4_takesPart rfl rfl (Nat.le_of_ble_eq_true rfl) rfl rfl ⟨(Nat.le_of_ble_eq_true rfl), (Nat.le_of_ble_eq_true rfl)⟩ (Nat.le_of_ble_eq_true rfl) ⟨rfl, rfl⟩ ⟨(Nat.le_of_ble_eq_true rfl), (Nat.le_of_ble_eq_true rfl)⟩ (fun r9 w9 hp9 => ?_)
            obtain ⟨m3, B3, rfl, hr8, hF3, hR3, hB3, -⟩ := hp9
            cases hr8
            refine Z_goto 14 dX4_isText_61 rfl ?_
            exact ih (K + 1) m3 B3 (by have : sq x (K + 1) = pEn x (sq x K) + 1 := rfl; omega) ((hF.trans hA2.b).trans hF3) hG2 hR3 hB3
        · skip
          refine Z_iconst 43 (nI 1) dX4_isText_42 rfl rfl ?_
          refine Z_goto 47 dX4_isText_43 rfl ?_
          refine Z_callV 50 [_] 4 (zX4_takes (m := mm) x L _ _ hR (by omega) _ (decide (x (pEn x (sq x K)) = nI 59)) (by first | exact (bI_f c39).symm.trans bI_bB | exact (bI_t (Decidable.not_not.mp c39)).symm.trans bI_bB)) dX4_isText_47 rfl qX4_148 kX4_takes rfl rfl (Nat.le_of_ble_eq_true rfl) rfl rfl ⟨(Nat.le_of_ble_eq_true rfl), (Nat.le_of_ble_eq_true rfl)⟩ (Nat.le_of_ble_eq_true rfl) ⟨rfl, rfl⟩ ⟨(Nat.le_of_ble_eq_true rfl), (Nat.le_of_ble_eq_true rfl)⟩ (fun r9 w9 hp9 => ?_)
          obtain ⟨m2, rfl, hr8, hA2, hR2⟩ := hp9
          cases hr8
          refine Z_aload_n 51 0 dX4_isText_50 rfl rfl ?_
          refine Z_getI 54 dX4_isText_51 rfl fX4_141 (Nat.le_of_ble_eq_true rfl) rfl rfl ?_
          refine Z_top (congrArg Value.int hR2.2.2.2.2) ?_
          refine Z_if_eq 57 14 dX4_isText_54 rfl rfl (fun c54 => ?_) (fun c54 => ?_)
          · skip
            have h59 : ¬ x (pEn x (sq x K)) = nI 59 := of_decide_eq_false (bB_0 c54)
            have ef : (true && decide (x (pEn x (sq x K)) = nI 59)) = false := bB_0 c54
            rw [ef] at hR2
            exact lX4_it0 _ m2 hR2.2.2.2.2 ⟨m2, K, false, nI (pEn x (sq x K)), rfl, hF.trans hA2.b, hG, rfl, hR2.2.2.2.1, Or.inr ⟨rfl, Or.inr (Or.inr ⟨ok, hlt, h59, rfl⟩), nIm4 (by omega)⟩⟩
          · skip
            have h59 : x (pEn x (sq x K)) = nI 59 := of_decide_eq_true (bB_1 c54)
            have ef : (true && decide (x (pEn x (sq x K)) = nI 59)) = true := bB_1 c54
            rw [ef] at hR2
            have hG2 := hG.succ ok hlt h59
            have hp2 := pOk_en ok
            refine Z_aload_n 58 0 dX4_isText_57 rfl rfl ?_
            refine Z_callV 61 [] 4 (zX4_takesPart (m := m2) x L (sq x (K + 1)) hR2 (by have : sq x (K + 1) = pEn x (sq x K) + 1 := rfl; omega) hC) dX4_isText_58 rfl qX4_167 kX4_takesPart rfl rfl (Nat.le_of_ble_eq_true rfl) rfl rfl ⟨(Nat.le_of_ble_eq_true rfl), (Nat.le_of_ble_eq_true rfl)⟩ (Nat.le_of_ble_eq_true rfl) ⟨rfl, rfl⟩ ⟨(Nat.le_of_ble_eq_true rfl), (Nat.le_of_ble_eq_true rfl)⟩ (fun r9 w9 hp9 => ?_)
            obtain ⟨m3, B3, rfl, hr8, hF3, hR3, hB3, -⟩ := hp9
            cases hr8
            refine Z_goto 14 dX4_isText_61 rfl ?_
            exact ih (K + 1) m3 B3 (by have : sq x (K + 1) = pEn x (sq x K) + 1 := rfl; omega) ((hF.trans hA2.b).trans hF3) hG2 hR3 hB3
set_option maxRecDepth 100000 in
set_option maxHeartbeats 4000000 in
theorem zX4_isText {G : zG} {l : Launch} {h : Nat → Nat} {m : zM} (x : Nat → Int32) (L : Nat) (hx9 : x = hx (m 79) L) (hL : L ≤ 60) (hC : Cb x) (hl : m 74 7 = nI L) : zMet G l yX4_isText mX4_isText [.ref (G.1 + 74)] (zw h m) (fun r w => ∃ m' K B v, w = zw h m' ∧ FtB m m' ∧ Good x L K ∧ r = some (.int (bB B)) ∧ m' 74 10 = v ∧ ((B = true ∧ pOk x (sq x K) ∧ pEn x (sq x K) = L ∧ Rd m' x L L true) ∨ (B = false ∧ Flt x L K v ∧ ¬ v = -4))) 0 0 := by
  refine zMet_of [(0, .ref (G.1 + 74))] (by decide +kernel) rfl (Or.inl rfl) (Nat.le_of_ble_eq_true rfl) rfl ?_
  refine Z_aload_n 1 0 dX4_isText_0 rfl rfl ?_
  refine Z_iconst 2 (nI 0) dX4_isText_1 rfl rfl ?_
  refine Z_putI 5 .int dX4_isText_2 rfl fX4_138 ft_4_10 (Nat.le_of_ble_eq_true rfl) rfl rfl rfl rfl ?_
  refine Z_aload_n 6 0 dX4_isText_5 rfl rfl ?_
  refine Z_iconst 7 (nI 1) dX4_isText_6 rfl rfl ?_
  refine Z_putI 10 .boolean dX4_isText_7 rfl fX4_141 ft_4_11 (Nat.le_of_ble_eq_true rfl) rfl rfl rfl rfl ?_
  have hR0 : Rd (up2 (up2 m 74 10 (nI 0)) 74 11 (nI 1)) x L (sq x 0) true := ⟨by rw [up2_ne _ _ (by decide), up2_ne _ _ (by decide)]; exact hl, hL, by rw [up2_na _ _ _ (by decide), up2_na _ _ _ (by decide)]; exact hx9, by rw [up2_ne _ _ (by decide)]; exact up2_eq _ _ _ _, up2_eq _ _ _ _⟩
  have hF0 : FtB m (up2 (up2 m 74 10 (nI 0)) 74 11 (nI 1)) := (FtB.rf.up (by decide)).up (by decide)
  refine Z_aload_n 11 0 dX4_isText_10 rfl rfl ?_
  refine Z_callV 14 [] 4 (zX4_takesPart (m := (up2 (up2 m 74 10 (nI 0)) 74 11 (nI 1))) x L (sq x 0) hR0 (show 0 < 800 by decide) hC) dX4_isText_11 rfl qX4_167 kX4_takesPart rfl rfl (Nat.le_of_ble_eq_true rfl) rfl rfl ⟨(Nat.le_of_ble_eq_true rfl), (Nat.le_of_ble_eq_true rfl)⟩ (Nat.le_of_ble_eq_true rfl) ⟨rfl, rfl⟩ ⟨(Nat.le_of_ble_eq_true rfl), (Nat.le_of_ble_eq_true rfl)⟩ (fun r9 w9 hp9 => ?_)
  obtain ⟨m3, B3, rfl, hr8, hF3, hR3, hB3, -⟩ := hp9
  cases hr8
  exact lX4_it x L hx9 hL hC (L + 1) 0 m3 B3 (by omega) (hF0.trans hF3) (fun i hi => absurd hi (Nat.not_lt_zero i)) hR3 hB3

set_option maxRecDepth 100000 in
set_option maxHeartbeats 4000000 in
theorem zX4_fault {G : zG} {l : Launch} {h : Nat → Nat} {m : zM} (x : Nat → Int32) (L : Nat) (hx9 : x = hx (m 79) L) (hL : L ≤ 60) (hC : Cb x) (hl : m 74 7 = nI L) : zMet G l yX4_fault mX4_fault [.ref (G.1 + 74)] (zw h m) (fun r w => ∃ m' K v, w = zw h m' ∧ FtB m m' ∧ Good x L K ∧ r = some (.int v) ∧ Flt x L K v) 0 0 := by
  refine zMet_of [(0, .ref (G.1 + 74))] (by decide +kernel) rfl (Or.inl rfl) (Nat.le_of_ble_eq_true rfl) rfl ?_
  refine Z_aload_n 1 0 dX4_fault_0 rfl rfl ?_
  refine Z_callV 4 [] 4 (zX4_isText x L hx9 hL hC hl) dX4_fault_1 rfl qX4_170 kX4_isText rfl rfl (Nat.le_of_ble_eq_true rfl) rfl rfl ⟨(Nat.le_of_ble_eq_true rfl), (Nat.le_of_ble_eq_true rfl)⟩ (Nat.le_of_ble_eq_true rfl) ⟨rfl, rfl⟩ ⟨(Nat.le_of_ble_eq_true rfl), (Nat.le_of_ble_eq_true rfl)⟩ (fun r9 w9 hp9 => ?_)
  obtain ⟨m2, K, B, v, rfl, hF2, hG, hr8, hv, hr9⟩ := hp9
  cases hr8
  rcases hr9 with ⟨rfl, h1, h2, h3⟩ | ⟨rfl, h1, h2⟩
  · skip
    refine Z_if_eq 7 12 dX4_fault_4 rfl rfl (fun c4 => absurd c4 (by decide)) (fun c4 => ?_)
    refine Z_bipush 9 (-4) dX4_fault_7 rfl rfl ?_
    refine Z_goto 16 dX4_fault_9 rfl ?_
    exact Z_iret dX4_fault_16 rfl ⟨m2, K, _, rfl, hF2, hG, rfl, Or.inr (Or.inl ⟨h1, h2, rfl⟩)⟩
  · skip
    refine Z_if_eq 7 12 dX4_fault_4 rfl rfl (fun c4 => ?_) (fun c4 => absurd (rfl) c4)
    refine Z_aload_n 13 0 dX4_fault_12 rfl rfl ?_
    refine Z_getI 16 dX4_fault_13 rfl fX4_138 (Nat.le_of_ble_eq_true rfl) rfl rfl ?_
    refine Z_top (congrArg Value.int hv) ?_
    exact Z_iret dX4_fault_16 rfl ⟨m2, K, _, rfl, hF2, hG, rfl, h1⟩
