/-! looks that ask the surveyor; plan -/
theorem eLF (m : zM) : eL m (fun t => decide (0 = 1 ∨ sForce m 1 t)) = eL m (pFo m) := by rw [pF0]
theorem ofI {x : Int32} {i : Int} (h : x.toInt = i) : x = Int32.ofInt i := by
  rw [← h]
  exact (Int32.ofInt_toInt x).symm
set_option maxRecDepth 100000 in
set_option maxHeartbeats 4000000 in
theorem eX3_whyNot {G : zG} {l : Launch} {h : Nat → Nat} {m : zM} (x1 x2 d : Int32) (hne : ¬ agr x1 x2 d) : zMet G l yX3_whyNot mX3_whyNot [.ref (G.1 + 0), .int x1, .int x2, .int d] (zw h m) (fun r w => r = some (.int (-1)) ∧ w = zw h m) 0 0 := by
  refine zMet_of [(0, .ref (G.1 + 0)), (1, .int x1), (2, .int x2), (3, .int d)] (by decide +kernel) rfl (Or.inl rfl) (Nat.le_of_ble_eq_true rfl) rfl ?_
  refine Z_iload_n 1 1 dX3_whyNot_0 rfl rfl ?_
  refine Z_iload_n 2 2 dX3_whyNot_1 rfl rfl ?_
  refine Z_iload_n 3 3 dX3_whyNot_2 rfl rfl ?_
  refine Z_callS 6 [_, _, _] (zX3_isAgreement _ _ _) dX3_whyNot_3 rfl qX3_174 kX3_isAgreement rfl rfl ⟨(Nat.le_of_ble_eq_true rfl), (Nat.le_of_ble_eq_true rfl)⟩ (Nat.le_of_ble_eq_true rfl) ⟨rfl, rfl⟩ ⟨(Nat.le_of_ble_eq_true rfl), (Nat.le_of_ble_eq_true rfl)⟩ (fun r9 w9 hp9 => ?_)
  obtain ⟨rfl, rfl⟩ := hp9
  refine Z_if_eq 9 19 dX3_whyNot_6 rfl rfl (fun c6 => ?_) (fun c6 => absurd (bI_z hne) c6)
  refine Z_iconst 20 (-1) dX3_whyNot_19 rfl rfl ?_
  exact Z_iret dX3_whyNot_20 rfl ⟨rfl, rfl⟩

set_option maxRecDepth 100000 in
set_option maxHeartbeats 4000000 in
theorem zX3_whyNot {G : zG} {l : Launch} {h : Nat → Nat} {m : zM} (n : Nat) (g9 : gOk m n) (f o : Nat) (hf : f < 8) (ho : o < 8) (d : Int32) (hd2 : -60 ≤ d.toInt ∧ d.toInt ≤ 60) (hag : agr (nI f) (nI o) d) : zMet G l yX3_whyNot mX3_whyNot [.ref (G.1 + 0), .int (nI f), .int (nI o), .int d] (zw h m) (fun r w => ∃ m' y, w = zw h m' ∧ Fsv m m' ∧ Top (Yb f) (eB m (pFo m)) n y ∧ (∀ q, q < 8 → y q = zK9 ∨ (-8000 ≤ y q ∧ y q ≤ 8000)) ∧ ∃ v, r = some (.int v) ∧ rsn (Fea (eN m f o d) (n + 1)) (y o) d.toInt v) 0 0 := by
  refine zMet_of [(0, .ref (G.1 + 0)), (1, .int (nI f)), (2, .int (nI o)), (3, .int d)] (by decide +kernel) rfl (Or.inl rfl) (Nat.le_of_ble_eq_true rfl) rfl ?_
  refine Z_iload_n 1 1 dX3_whyNot_0 rfl rfl ?_
  refine Z_iload_n 2 2 dX3_whyNot_1 rfl rfl ?_
  refine Z_iload_n 3 3 dX3_whyNot_2 rfl rfl ?_
  refine Z_callS 6 [_, _, _] (zX3_isAgreement _ _ _) dX3_whyNot_3 rfl qX3_174 kX3_isAgreement rfl rfl ⟨(Nat.le_of_ble_eq_true rfl), (Nat.le_of_ble_eq_true rfl)⟩ (Nat.le_of_ble_eq_true rfl) ⟨rfl, rfl⟩ ⟨(Nat.le_of_ble_eq_true rfl), (Nat.le_of_ble_eq_true rfl)⟩ (fun r9 w9 hp9 => ?_)
  obtain ⟨rfl, rfl⟩ := hp9
  refine Z_if_eq 9 19 dX3_whyNot_6 rfl rfl (fun c6 => absurd c6 (bI_ne hag)) (fun c6 => ?_)
  refine Z_aload_n 10 0 dX3_whyNot_9 rfl rfl ?_
  refine Z_iload_n 11 1 dX3_whyNot_10 rfl rfl ?_
  refine Z_iload_n 12 2 dX3_whyNot_11 rfl rfl ?_
  refine Z_iload_n 13 3 dX3_whyNot_12 rfl rfl ?_
  refine Z_callV 16 [_, _, _] 3 (zX3_reasonAgainst n g9 f o hf ho d hd2) dX3_whyNot_13 rfl qX3_178 kX3_reasonAgainst rfl rfl (Nat.le_of_ble_eq_true rfl) rfl rfl ⟨(Nat.le_of_ble_eq_true rfl), (Nat.le_of_ble_eq_true rfl)⟩ (Nat.le_of_ble_eq_true rfl) ⟨rfl, rfl⟩ ⟨(Nat.le_of_ble_eq_true rfl), (Nat.le_of_ble_eq_true rfl)⟩ (fun r9 w9 hp9 => ?_)
  obtain ⟨m2, y2, rfl, hV2, hT2, hY2, rr, rfl, hR2⟩ := hp9
  refine Z_goto 20 dX3_whyNot_16 rfl ?_
  exact Z_iret dX3_whyNot_20 rfl ⟨m2, y2, rfl, hV2, hT2, hY2, rr, rfl, hR2⟩

set_option maxRecDepth 100000 in
set_option maxHeartbeats 4000000 in
theorem zX3_hedge4 {G : zG} {l : Launch} {h : Nat → Nat} {m : zM} (n : Nat) (g9 : gOk m n) (i : Nat) (hi : i < 8) : zMet G l yX3_hedge mX3_hedge [.ref (G.1 + 0), .int (nI i), .int (nI 4)] (zw h m) (fun r w => ∃ m' y, w = zw h m' ∧ Fsv m m' ∧ Top (HgtY (m 2)) (eL m (pFo m)) n y ∧ (((∀ q, q < 8 → 0 ≤ y q) ∧ r = some (.int (Int32.ofInt (y i)))) ∨ ((∃ q, q < 8 ∧ y q < 0) ∧ r = some (.int (-4))))) 0 0 := by
  refine zMet_of [(0, .ref (G.1 + 0)), (1, .int (nI i)), (2, .int (nI 4))] (by decide +kernel) rfl (Or.inl rfl) (Nat.le_of_ble_eq_true rfl) rfl ?_
  obtain ⟨f9, hp⟩ := g9.potL (fun t => decide (0 = 1 ∨ sForce m 1 t))
  refine Z_iload_n 1 1 dX3_hedge_0 rfl rfl ?_
  refine Z_callS 4 [_] (zX3_isHedge _) dX3_hedge_1 rfl qX3_37 kX3_isHedge rfl rfl ⟨(Nat.le_of_ble_eq_true rfl), (Nat.le_of_ble_eq_true rfl)⟩ (Nat.le_of_ble_eq_true rfl) ⟨rfl, rfl⟩ ⟨(Nat.le_of_ble_eq_true rfl), (Nat.le_of_ble_eq_true rfl)⟩ (fun r9 w9 hp9 => ?_)
  obtain ⟨rfl, rfl⟩ := hp9
  refine Z_if_ne 7 9 dX3_hedge_4 rfl rfl (fun c4 => ?_) (fun c4 => absurd (bI_ne (hdgN hi)) c4)
  refine Z_iload_n 10 2 dX3_hedge_9 rfl rfl ?_
  refine Z_tabIn 103 (off := 93) dX3_hedge_10 (by decide) (by decide) (by decide) rfl ?_
  refine Z_aload_n 104 0 dX3_hedge_103 rfl rfl ?_
  refine Z_getR 107 dX3_hedge_104 rfl fX3_26 (Nat.le_of_ble_eq_true rfl) rfl rfl ?_
  refine Z_aload_n 108 0 dX3_hedge_107 rfl rfl ?_
  refine Z_getR 111 dX3_hedge_108 rfl fX3_10 (Nat.le_of_ble_eq_true rfl) rfl rfl ?_
  refine Z_callV 114 [_] 2 (zX2_findLeastClipping n g9.1 g9.2.1 g9.2.2.1 f9 hp) dX3_hedge_111 rfl qX3_69 kX2_findLeastClipping rfl rfl (Nat.le_of_ble_eq_true rfl) rfl rfl ⟨(Nat.le_of_ble_eq_true rfl), (Nat.le_of_ble_eq_true rfl)⟩ (Nat.le_of_ble_eq_true rfl) ⟨rfl, rfl⟩ ⟨(Nat.le_of_ble_eq_true rfl), (Nat.le_of_ble_eq_true rfl)⟩ (fun r9 w9 hp9 => ?_)
  obtain ⟨m2, y, rfl, hF2, hT2, hL2, hr9⟩ := hp9
  rw [eLF] at hT2
  have hV2 := hF2.v (by decide)
  rcases hr9 with ⟨hr8, hr9⟩ | ⟨hr8, hr9⟩
  · cases hr8
    refine Z_if_eq 117 129 dX3_hedge_114 rfl rfl (fun c114 => absurd c114 (by decide)) (fun c114 => ?_)
    refine Z_aload_n 118 0 dX3_hedge_117 rfl rfl ?_
    refine Z_getR 121 dX3_hedge_118 rfl fX3_26 (Nat.le_of_ble_eq_true rfl) rfl rfl ?_
    refine Z_getR 124 dX3_hedge_121 rfl fX3_77 (Nat.le_of_ble_eq_true rfl) rfl rfl ?_
    refine Z_iload_n 125 1 dX3_hedge_124 rfl rfl ?_
    refine Z_ialn 126 dX3_hedge_125 rfl (Nat.le_of_ble_eq_true rfl) rfl (by first | assumption | omega) (by decide) ?_
    refine Z_goto 131 dX3_hedge_126 rfl ?_
    exact Z_iret dX3_hedge_131 rfl ⟨m2, y, rfl, hV2, hT2, Or.inl ⟨hr9, by rw [ofI (hL2 i hi).1]⟩⟩
  · cases hr8
    refine Z_if_eq 117 129 dX3_hedge_114 rfl rfl (fun c114 => ?_) (fun c114 => absurd (by decide) c114)
    refine Z_bipush 131 (-4) dX3_hedge_129 rfl rfl ?_
    exact Z_iret dX3_hedge_131 rfl ⟨m2, y, rfl, hV2, hT2, Or.inr ⟨hr9, rfl⟩⟩

set_option maxRecDepth 100000 in
set_option maxHeartbeats 4000000 in
theorem eX3_clipping {G : zG} {l : Launch} {h : Nat → Nat} {m : zM} (x : Int32) (hne : ¬ (¬ x < 0 ∧ ¬ nI 1 < x)) : zMet G l yX3_clipping mX3_clipping [.ref (G.1 + 0), .int x] (zw h m) (fun r w => r = some (.int (-1)) ∧ w = zw h m) 0 0 := by
  refine zMet_of [(0, .ref (G.1 + 0)), (1, .int x)] (by decide +kernel) rfl (Or.inl rfl) (Nat.le_of_ble_eq_true rfl) rfl ?_
  refine Z_iload_n 1 1 dX3_clipping_0 rfl rfl ?_
  refine Z_if_lt 4 9 dX3_clipping_1 rfl rfl (fun c1 => ?_) (fun c1 => ?_)
  · skip
    refine Z_iconst 10 (-1) dX3_clipping_9 rfl rfl ?_
    exact Z_iret dX3_clipping_10 rfl ⟨rfl, rfl⟩
  · skip
    refine Z_iload_n 5 1 dX3_clipping_4 rfl rfl ?_
    refine Z_iconst 6 (nI 1) dX3_clipping_5 rfl rfl ?_
    refine Z_icmp_le 9 11 dX3_clipping_6 rfl rfl (fun c6 => ?_) (fun c6 => ?_)
    · skip
      exact absurd ⟨c1, Int32.not_lt.mpr c6⟩ hne
    · skip
      refine Z_iconst 10 (-1) dX3_clipping_9 rfl rfl ?_
      exact Z_iret dX3_clipping_10 rfl ⟨rfl, rfl⟩

set_option maxRecDepth 100000 in
set_option maxHeartbeats 4000000 in
theorem zX3_clipping0 {G : zG} {l : Launch} {h : Nat → Nat} {m : zM} (n : Nat) (g9 : gOk m n)  : zMet G l yX3_clipping mX3_clipping [.ref (G.1 + 0), .int (nI 0)] (zw h m) (fun r w => ∃ m' y, w = zw h m' ∧ Fsv m m' ∧ Top (HgtY (m 2)) (eL m (pFo m)) n y ∧ (((∀ q, q < 8 → 0 ≤ y q) ∧ r = some (.int (sumI (m 2) 8 - sumI (fun q => Int32.ofInt (y q)) 8))) ∨ ((∃ q, q < 8 ∧ y q < 0) ∧ r = some (.int (-4))))) 0 0 := by
  refine zMet_of [(0, .ref (G.1 + 0)), (1, .int (nI 0))] (by decide +kernel) rfl (Or.inl rfl) (Nat.le_of_ble_eq_true rfl) rfl ?_
  obtain ⟨f9, hp⟩ := g9.potL (fun t => decide (0 = 1 ∨ sForce m 1 t))
  refine Z_iload_n 1 1 dX3_clipping_0 rfl rfl ?_
  refine Z_if_lt 4 9 dX3_clipping_1 rfl rfl (fun c1 => absurd c1 (by decide)) (fun c1 => ?_)
  refine Z_iload_n 5 1 dX3_clipping_4 rfl rfl ?_
  refine Z_iconst 6 (nI 1) dX3_clipping_5 rfl rfl ?_
  refine Z_icmp_le 9 11 dX3_clipping_6 rfl rfl (fun c6 => ?_) (fun c6 => absurd (by decide) c6)
  refine Z_iload_n 12 1 dX3_clipping_11 rfl rfl ?_
  refine Z_if_ne 15 29 dX3_clipping_12 rfl rfl (fun c12 => absurd c12 (by decide)) (fun c12 => ?_)
  refine Z_aload_n 16 0 dX3_clipping_15 rfl rfl ?_
  refine Z_getR 19 dX3_clipping_16 rfl fX3_26 (Nat.le_of_ble_eq_true rfl) rfl rfl ?_
  refine Z_aload_n 20 0 dX3_clipping_19 rfl rfl ?_
  refine Z_getR 23 dX3_clipping_20 rfl fX3_10 (Nat.le_of_ble_eq_true rfl) rfl rfl ?_
  refine Z_callV 26 [_] 2 (zX2_findLeastClipping n g9.1 g9.2.1 g9.2.2.1 f9 hp) dX3_clipping_23 rfl qX3_69 kX2_findLeastClipping rfl rfl (Nat.le_of_ble_eq_true rfl) rfl rfl ⟨(Nat.le_of_ble_eq_true rfl), (Nat.le_of_ble_eq_true rfl)⟩ (Nat.le_of_ble_eq_true rfl) ⟨rfl, rfl⟩ ⟨(Nat.le_of_ble_eq_true rfl), (Nat.le_of_ble_eq_true rfl)⟩ (fun r9 w9 hp9 => ?_)
  obtain ⟨m2, y, rfl, hF2, hT2, hL2, hr9⟩ := hp9
  rw [eLF] at hT2
  have hV2 := hF2.v (by decide)
  refine Z_goto 40 dX3_clipping_26 rfl ?_
  rcases hr9 with ⟨hr8, hr9⟩ | ⟨hr8, hr9⟩
  · cases hr8
    refine Z_istore_n 41 [(2, _), (0, _), (1, _)] dX3_clipping_40 rfl (Nat.le_of_ble_eq_true rfl) rfl ?_
    refine Z_iload_n 42 0 dX3_clipping_41 rfl rfl ?_
    refine Z_if_eq 45 69 dX3_clipping_42 rfl rfl (fun c42 => absurd c42 (by decide)) (fun c42 => ?_)
    refine Z_aload_n 46 1 dX3_clipping_45 rfl rfl ?_
    refine Z_getR 49 dX3_clipping_46 rfl fX3_10 (Nat.le_of_ble_eq_true rfl) rfl rfl ?_
    refine Z_getR 52 dX3_clipping_49 rfl fX3_44 (Nat.le_of_ble_eq_true rfl) rfl rfl ?_
    refine Z_callS 55 [_] (zX3_sum (m := m2) 2 (by decide) rfl) dX3_clipping_52 rfl qX3_184 kX3_sum rfl rfl ⟨(Nat.le_of_ble_eq_true rfl), (Nat.le_of_ble_eq_true rfl)⟩ (Nat.le_of_ble_eq_true rfl) ⟨rfl, rfl⟩ ⟨(Nat.le_of_ble_eq_true rfl), (Nat.le_of_ble_eq_true rfl)⟩ (fun r9 w9 hp9 => ?_)
    obtain ⟨rfl, rfl⟩ := hp9
    refine Z_aload_n 56 1 dX3_clipping_55 rfl rfl ?_
    refine Z_getR 59 dX3_clipping_56 rfl fX3_26 (Nat.le_of_ble_eq_true rfl) rfl rfl ?_
    refine Z_getR 62 dX3_clipping_59 rfl fX3_77 (Nat.le_of_ble_eq_true rfl) rfl rfl ?_
    refine Z_callS 65 [_] (zX3_sum (m := m2) 57 (by decide) rfl) dX3_clipping_62 rfl qX3_184 kX3_sum rfl rfl ⟨(Nat.le_of_ble_eq_true rfl), (Nat.le_of_ble_eq_true rfl)⟩ (Nat.le_of_ble_eq_true rfl) ⟨rfl, rfl⟩ ⟨(Nat.le_of_ble_eq_true rfl), (Nat.le_of_ble_eq_true rfl)⟩ (fun r9 w9 hp9 => ?_)
    obtain ⟨rfl, rfl⟩ := hp9
    refine Z_isub 66 dX3_clipping_65 rfl ?_
    refine Z_goto 71 dX3_clipping_66 rfl ?_
    exact Z_iret dX3_clipping_71 rfl ⟨m2, y, rfl, hV2, hT2, Or.inl ⟨hr9, by rw [hV2 2 (by decide), sumI_congr (f := m2 57) (g := fun q => Int32.ofInt (y q)) 8 (fun q hq => ofI (hL2 q hq).1)]⟩⟩
  · cases hr8
    refine Z_istore_n 41 [(2, _), (0, _), (1, _)] dX3_clipping_40 rfl (Nat.le_of_ble_eq_true rfl) rfl ?_
    refine Z_iload_n 42 0 dX3_clipping_41 rfl rfl ?_
    refine Z_if_eq 45 69 dX3_clipping_42 rfl rfl (fun c42 => ?_) (fun c42 => absurd (by decide) c42)
    refine Z_bipush 71 (-4) dX3_clipping_69 rfl rfl ?_
    exact Z_iret dX3_clipping_71 rfl ⟨m2, y, rfl, hV2, hT2, Or.inr ⟨hr9, rfl⟩⟩

set_option maxRecDepth 100000 in
set_option maxHeartbeats 4000000 in
theorem zX3_clipping1 {G : zG} {l : Launch} {h : Nat → Nat} {m : zM} (n : Nat) (g9 : gOk m n)  : zMet G l yX3_clipping mX3_clipping [.ref (G.1 + 0), .int (nI 1)] (zw h m) (fun r w => ∃ m' y, w = zw h m' ∧ Fsv m m' ∧ Top (HgtY (m 2)) (eL m (pFo m)) n y ∧ (((∀ q, q < 8 → 0 ≤ y q) ∧ r = some (.int (sumI (m 2) 8 - sumI (fun q => Int32.ofInt (y q)) 8))) ∨ ((∃ q, q < 8 ∧ y q < 0) ∧ r = some (.int (-4))))) 0 0 := by
  refine zMet_of [(0, .ref (G.1 + 0)), (1, .int (nI 1))] (by decide +kernel) rfl (Or.inl rfl) (Nat.le_of_ble_eq_true rfl) rfl ?_
  obtain ⟨f9, hp⟩ := g9.potB (pFo m)
  refine Z_iload_n 1 1 dX3_clipping_0 rfl rfl ?_
  refine Z_if_lt 4 9 dX3_clipping_1 rfl rfl (fun c1 => absurd c1 (by decide)) (fun c1 => ?_)
  refine Z_iload_n 5 1 dX3_clipping_4 rfl rfl ?_
  refine Z_iconst 6 (nI 1) dX3_clipping_5 rfl rfl ?_
  refine Z_icmp_le 9 11 dX3_clipping_6 rfl rfl (fun c6 => ?_) (fun c6 => absurd (by decide) c6)
  refine Z_iload_n 12 1 dX3_clipping_11 rfl rfl ?_
  refine Z_if_ne 15 29 dX3_clipping_12 rfl rfl (fun c12 => ?_) (fun c12 => absurd (by decide) c12)
  refine Z_aload_n 30 0 dX3_clipping_29 rfl rfl ?_
  refine Z_getR 33 dX3_clipping_30 rfl fX3_26 (Nat.le_of_ble_eq_true rfl) rfl rfl ?_
  refine Z_aload_n 34 0 dX3_clipping_33 rfl rfl ?_
  refine Z_getR 37 dX3_clipping_34 rfl fX3_10 (Nat.le_of_ble_eq_true rfl) rfl rfl ?_
  refine Z_callV 40 [_] 2 (zX2_findLeastClippingByBounds n g9.1 g9.2.1 g9.2.2.1 f9 hp) dX3_clipping_37 rfl qX3_181 kX2_findLeastClippingByBounds rfl rfl (Nat.le_of_ble_eq_true rfl) rfl rfl ⟨(Nat.le_of_ble_eq_true rfl), (Nat.le_of_ble_eq_true rfl)⟩ (Nat.le_of_ble_eq_true rfl) ⟨rfl, rfl⟩ ⟨(Nat.le_of_ble_eq_true rfl), (Nat.le_of_ble_eq_true rfl)⟩ (fun r9 w9 hp9 => ?_)
  obtain ⟨m2, y, rfl, hV2, hT2, hL2, hr9⟩ := hp9
  rcases hr9 with ⟨hr8, hr9⟩ | ⟨hr8, hr9⟩
  · cases hr8
    refine Z_istore_n 41 [(2, _), (0, _), (1, _)] dX3_clipping_40 rfl (Nat.le_of_ble_eq_true rfl) rfl ?_
    refine Z_iload_n 42 0 dX3_clipping_41 rfl rfl ?_
    refine Z_if_eq 45 69 dX3_clipping_42 rfl rfl (fun c42 => absurd c42 (by decide)) (fun c42 => ?_)
    refine Z_aload_n 46 1 dX3_clipping_45 rfl rfl ?_
    refine Z_getR 49 dX3_clipping_46 rfl fX3_10 (Nat.le_of_ble_eq_true rfl) rfl rfl ?_
    refine Z_getR 52 dX3_clipping_49 rfl fX3_44 (Nat.le_of_ble_eq_true rfl) rfl rfl ?_
    refine Z_callS 55 [_] (zX3_sum (m := m2) 2 (by decide) rfl) dX3_clipping_52 rfl qX3_184 kX3_sum rfl rfl ⟨(Nat.le_of_ble_eq_true rfl), (Nat.le_of_ble_eq_true rfl)⟩ (Nat.le_of_ble_eq_true rfl) ⟨rfl, rfl⟩ ⟨(Nat.le_of_ble_eq_true rfl), (Nat.le_of_ble_eq_true rfl)⟩ (fun r9 w9 hp9 => ?_)
    obtain ⟨rfl, rfl⟩ := hp9
    refine Z_aload_n 56 1 dX3_clipping_55 rfl rfl ?_
    refine Z_getR 59 dX3_clipping_56 rfl fX3_26 (Nat.le_of_ble_eq_true rfl) rfl rfl ?_
    refine Z_getR 62 dX3_clipping_59 rfl fX3_77 (Nat.le_of_ble_eq_true rfl) rfl rfl ?_
    refine Z_callS 65 [_] (zX3_sum (m := m2) 57 (by decide) rfl) dX3_clipping_62 rfl qX3_184 kX3_sum rfl rfl ⟨(Nat.le_of_ble_eq_true rfl), (Nat.le_of_ble_eq_true rfl)⟩ (Nat.le_of_ble_eq_true rfl) ⟨rfl, rfl⟩ ⟨(Nat.le_of_ble_eq_true rfl), (Nat.le_of_ble_eq_true rfl)⟩ (fun r9 w9 hp9 => ?_)
    obtain ⟨rfl, rfl⟩ := hp9
    refine Z_isub 66 dX3_clipping_65 rfl ?_
    refine Z_goto 71 dX3_clipping_66 rfl ?_
    exact Z_iret dX3_clipping_71 rfl ⟨m2, y, rfl, hV2, hT2, Or.inl ⟨hr9, by rw [hV2 2 (by decide), sumI_congr (f := m2 57) (g := fun q => Int32.ofInt (y q)) 8 (fun q hq => ofI (hL2 q hq))]⟩⟩
  · cases hr8
    refine Z_istore_n 41 [(2, _), (0, _), (1, _)] dX3_clipping_40 rfl (Nat.le_of_ble_eq_true rfl) rfl ?_
    refine Z_iload_n 42 0 dX3_clipping_41 rfl rfl ?_
    refine Z_if_eq 45 69 dX3_clipping_42 rfl rfl (fun c42 => ?_) (fun c42 => absurd (by decide) c42)
    refine Z_bipush 71 (-4) dX3_clipping_69 rfl rfl ?_
    exact Z_iret dX3_clipping_71 rfl ⟨m2, y, rfl, hV2, hT2, Or.inr ⟨hr9, rfl⟩⟩

set_option maxRecDepth 100000 in
set_option maxHeartbeats 4000000 in
theorem eX3_bound {G : zG} {l : Launch} {h : Nat → Nat} {m : zM} (x1 x2 x : Int32) (hne : ¬ (hdg x1 ∧ hdg x2 ∧ ¬ x < 0 ∧ ¬ nI 1 < x)) : zMet G l yX3_bound mX3_bound [.ref (G.1 + 0), .int x1, .int x2, .int x] (zw h m) (fun r w => r = some (.int (-1)) ∧ w = zw h m) 0 0 := by
  refine zMet_of [(0, .ref (G.1 + 0)), (1, .int x1), (2, .int x2), (3, .int x)] (by decide +kernel) rfl (Or.inl rfl) (Nat.le_of_ble_eq_true rfl) rfl ?_
  refine Z_iload_n 1 1 dX3_bound_0 rfl rfl ?_
  refine Z_callS 4 [_] (zX3_isHedge _) dX3_bound_1 rfl qX3_37 kX3_isHedge rfl rfl ⟨(Nat.le_of_ble_eq_true rfl), (Nat.le_of_ble_eq_true rfl)⟩ (Nat.le_of_ble_eq_true rfl) ⟨rfl, rfl⟩ ⟨(Nat.le_of_ble_eq_true rfl), (Nat.le_of_ble_eq_true rfl)⟩ (fun r9 w9 hp9 => ?_)
  obtain ⟨rfl, rfl⟩ := hp9
  refine Z_if_eq 7 23 dX3_bound_4 rfl rfl (fun c4 => ?_) (fun c4 => ?_)
  · skip
    refine Z_iconst 24 (-1) dX3_bound_23 rfl rfl ?_
    exact Z_iret dX3_bound_24 rfl ⟨rfl, rfl⟩
  · skip
    refine Z_iload_n 8 2 dX3_bound_7 rfl rfl ?_
    refine Z_callS 11 [_] (zX3_isHedge _) dX3_bound_8 rfl qX3_37 kX3_isHedge rfl rfl ⟨(Nat.le_of_ble_eq_true rfl), (Nat.le_of_ble_eq_true rfl)⟩ (Nat.le_of_ble_eq_true rfl) ⟨rfl, rfl⟩ ⟨(Nat.le_of_ble_eq_true rfl), (Nat.le_of_ble_eq_true rfl)⟩ (fun r9 w9 hp9 => ?_)
    obtain ⟨rfl, rfl⟩ := hp9
    refine Z_if_eq 14 23 dX3_bound_11 rfl rfl (fun c11 => ?_) (fun c11 => ?_)
    · skip
      refine Z_iconst 24 (-1) dX3_bound_23 rfl rfl ?_
      exact Z_iret dX3_bound_24 rfl ⟨rfl, rfl⟩
    · skip
      refine Z_iload_n 15 3 dX3_bound_14 rfl rfl ?_
      refine Z_if_lt 18 23 dX3_bound_15 rfl rfl (fun c15 => ?_) (fun c15 => ?_)
      · skip
        refine Z_iconst 24 (-1) dX3_bound_23 rfl rfl ?_
        exact Z_iret dX3_bound_24 rfl ⟨rfl, rfl⟩
      · skip
        refine Z_iload_n 19 3 dX3_bound_18 rfl rfl ?_
        refine Z_iconst 20 (nI 1) dX3_bound_19 rfl rfl ?_
        refine Z_icmp_le 23 25 dX3_bound_20 rfl rfl (fun c20 => ?_) (fun c20 => ?_)
        · skip
          exact absurd ⟨bI_1 c4, bI_1 c11, c15, Int32.not_lt.mpr c20⟩ hne
        · skip
          refine Z_iconst 24 (-1) dX3_bound_23 rfl rfl ?_
          exact Z_iret dX3_bound_24 rfl ⟨rfl, rfl⟩

theorem bnd_end {y : Int} {v : Int32} (h : (y = zK9 ∧ v.toInt = 1000000) ∨ (-16000 ≤ y ∧ y ≤ 16000 ∧ v.toInt = y)) : (v = 1000000 → y = zK9) ∧ (¬ v = 1000000 → ¬ y = zK9 ∧ (v + nI 1000).toInt = y + 1000) := by
  have z9 : zK9 = 100000 := rfl
  have e1 : (nI 1000).toInt = 1000 := rfl
  refine ⟨fun e => ?_, fun e => ?_⟩
  · rw [e, m1e6] at h
    omega
  · rcases h with h | h
    · exact absurd (i32_eq.mpr (h.2.trans m1e6.symm)) e
    · refine ⟨by omega, ?_⟩
      rw [i32_add (by omega) (by omega), e1, h.2.2]
set_option maxRecDepth 100000 in
set_option maxHeartbeats 4000000 in
theorem zX3_bound0 {G : zG} {l : Launch} {h : Nat → Nat} {m : zM} (n : Nat) (g9 : gOk m n) (f o : Nat) (hf : f < 8) (ho : o < 8) : zMet G l yX3_bound mX3_bound [.ref (G.1 + 0), .int (nI f), .int (nI o), .int (nI 0)] (zw h m) (fun r w => ∃ m' y v, w = zw h m' ∧ Fsv m m' ∧ Top (Yb f) (eB m (pFo m)) n y ∧ (∀ q, q < 8 → y q = zK9 ∨ (-8000 ≤ y q ∧ y q ≤ 8000)) ∧ r = some (.int v) ∧ ((y o = zK9 ∧ v = -4) ∨ (¬ y o = zK9 ∧ v.toInt = y o + 1000))) 0 0 := by
  refine zMet_of [(0, .ref (G.1 + 0)), (1, .int (nI f)), (2, .int (nI o)), (3, .int (nI 0))] (by decide +kernel) rfl (Or.inl rfl) (Nat.le_of_ble_eq_true rfl) rfl ?_
  obtain ⟨f9, hp⟩ := g9.potB (fun t => decide (¬ nI t = -1 ∧ sForce m 1 t))
  refine Z_iload_n 1 1 dX3_bound_0 rfl rfl ?_
  refine Z_callS 4 [_] (zX3_isHedge _) dX3_bound_1 rfl qX3_37 kX3_isHedge rfl rfl ⟨(Nat.le_of_ble_eq_true rfl), (Nat.le_of_ble_eq_true rfl)⟩ (Nat.le_of_ble_eq_true rfl) ⟨rfl, rfl⟩ ⟨(Nat.le_of_ble_eq_true rfl), (Nat.le_of_ble_eq_true rfl)⟩ (fun r9 w9 hp9 => ?_)
  obtain ⟨rfl, rfl⟩ := hp9
  refine Z_if_eq 7 23 dX3_bound_4 rfl rfl (fun c4 => absurd c4 (bI_ne (hdgN hf))) (fun c4 => ?_)
  refine Z_iload_n 8 2 dX3_bound_7 rfl rfl ?_
  refine Z_callS 11 [_] (zX3_isHedge _) dX3_bound_8 rfl qX3_37 kX3_isHedge rfl rfl ⟨(Nat.le_of_ble_eq_true rfl), (Nat.le_of_ble_eq_true rfl)⟩ (Nat.le_of_ble_eq_true rfl) ⟨rfl, rfl⟩ ⟨(Nat.le_of_ble_eq_true rfl), (Nat.le_of_ble_eq_true rfl)⟩ (fun r9 w9 hp9 => ?_)
  obtain ⟨rfl, rfl⟩ := hp9
  refine Z_if_eq 14 23 dX3_bound_11 rfl rfl (fun c11 => absurd c11 (bI_ne (hdgN ho))) (fun c11 => ?_)
  refine Z_iload_n 15 3 dX3_bound_14 rfl rfl ?_
  refine Z_if_lt 18 23 dX3_bound_15 rfl rfl (fun c15 => absurd c15 (by decide)) (fun c15 => ?_)
  refine Z_iload_n 19 3 dX3_bound_18 rfl rfl ?_
  refine Z_iconst 20 (nI 1) dX3_bound_19 rfl rfl ?_
  refine Z_icmp_le 23 25 dX3_bound_20 rfl rfl (fun c20 => ?_) (fun c20 => absurd (by decide) c20)
  refine Z_iload_n 26 3 dX3_bound_25 rfl rfl ?_
  refine Z_if_ne 29 46 dX3_bound_26 rfl rfl (fun c26 => absurd c26 (by decide)) (fun c26 => ?_)
  refine Z_aload_n 30 0 dX3_bound_29 rfl rfl ?_
  refine Z_getR 33 dX3_bound_30 rfl fX3_26 (Nat.le_of_ble_eq_true rfl) rfl rfl ?_
  refine Z_aload_n 34 0 dX3_bound_33 rfl rfl ?_
  refine Z_getR 37 dX3_bound_34 rfl fX3_10 (Nat.le_of_ble_eq_true rfl) rfl rfl ?_
  refine Z_iload_n 38 1 dX3_bound_37 rfl rfl ?_
  refine Z_iload_n 39 2 dX3_bound_38 rfl rfl ?_
  refine Z_iconst 40 (-1) dX3_bound_39 rfl rfl ?_
  refine Z_callV 43 [_, _, _, _] 2 (zX2_boundByTreaties n g9.1 g9.2.1 f o hf ho (-1) f9 hp) dX3_bound_40 rfl qX3_165 kX2_boundByTreaties rfl rfl (Nat.le_of_ble_eq_true rfl) rfl rfl ⟨(Nat.le_of_ble_eq_true rfl), (Nat.le_of_ble_eq_true rfl)⟩ (Nat.le_of_ble_eq_true rfl) ⟨rfl, rfl⟩ ⟨(Nat.le_of_ble_eq_true rfl), (Nat.le_of_ble_eq_true rfl)⟩ (fun r9 w9 hp9 => ?_)
  obtain ⟨m2, y, v2, rfl, hF2, hT2, hY2, hr9, hv2⟩ := hp9
  cases hr9
  have hT3 := hT2.congr (eBm1 g9.1.2.1)
  have hV2 := hF2.v (by decide)
  have hv3 := bnd_end (y := y o) (v := v2) (by omega)
  refine Z_goto 59 dX3_bound_43 rfl ?_
  refine Z_istore 61 [(4, _), (0, _), (1, _), (2, _), (3, _)] dX3_bound_59 rfl (Nat.le_of_ble_eq_true rfl) rfl ?_
  refine Z_iload 63 0 dX3_bound_61 rfl rfl ?_
  refine Z_ldc 65 1000000 dX3_bound_63 rfl kX3_173 ?_
  refine Z_icmp_ne 68 73 dX3_bound_65 rfl rfl (fun c65 => ?_) (fun c65 => ?_)
  · skip
    have hw9 := hv3.2 c65
    refine Z_iload 75 0 dX3_bound_73 rfl rfl ?_
    refine Z_sipush 78 (nI 1000) dX3_bound_75 rfl rfl ?_
    refine Z_iadd 79 dX3_bound_78 rfl ?_
    exact Z_iret dX3_bound_79 rfl (by first | exact ⟨m2, y, _, rfl, hV2, hT3, hY2, rfl, Or.inl ⟨hw9, rfl⟩⟩ | exact ⟨m2, y, _, rfl, hV2, hT3, hY2, rfl, Or.inr hw9⟩)
  · skip
    have hw9 := hv3.1 (by simpa using c65)
    refine Z_bipush 70 (-4) dX3_bound_68 rfl rfl ?_
    refine Z_goto 79 dX3_bound_70 rfl ?_
    exact Z_iret dX3_bound_79 rfl (by first | exact ⟨m2, y, _, rfl, hV2, hT3, hY2, rfl, Or.inl ⟨hw9, rfl⟩⟩ | exact ⟨m2, y, _, rfl, hV2, hT3, hY2, rfl, Or.inr hw9⟩)

set_option maxRecDepth 100000 in
set_option maxHeartbeats 4000000 in
theorem zX3_bound1 {G : zG} {l : Launch} {h : Nat → Nat} {m : zM} (n : Nat) (g9 : gOk m n) (f o : Nat) (hf : f < 8) (ho : o < 8) : zMet G l yX3_bound mX3_bound [.ref (G.1 + 0), .int (nI f), .int (nI o), .int (nI 1)] (zw h m) (fun r w => ∃ m' y v, w = zw h m' ∧ Fsv m m' ∧ Top (Yb f) (eB m (pFo m)) n y ∧ (∀ q, q < 8 → y q = zK9 ∨ (-8000 ≤ y q ∧ y q ≤ 8000)) ∧ r = some (.int v) ∧ ((y o = zK9 ∧ v = -4) ∨ (¬ y o = zK9 ∧ v.toInt = y o + 1000))) 0 0 := by
  refine zMet_of [(0, .ref (G.1 + 0)), (1, .int (nI f)), (2, .int (nI o)), (3, .int (nI 1))] (by decide +kernel) rfl (Or.inl rfl) (Nat.le_of_ble_eq_true rfl) rfl ?_
  obtain ⟨f9, hp⟩ := g9.potB (pFo m)
  refine Z_iload_n 1 1 dX3_bound_0 rfl rfl ?_
  refine Z_callS 4 [_] (zX3_isHedge _) dX3_bound_1 rfl qX3_37 kX3_isHedge rfl rfl ⟨(Nat.le_of_ble_eq_true rfl), (Nat.le_of_ble_eq_true rfl)⟩ (Nat.le_of_ble_eq_true rfl) ⟨rfl, rfl⟩ ⟨(Nat.le_of_ble_eq_true rfl), (Nat.le_of_ble_eq_true rfl)⟩ (fun r9 w9 hp9 => ?_)
  obtain ⟨rfl, rfl⟩ := hp9
  refine Z_if_eq 7 23 dX3_bound_4 rfl rfl (fun c4 => absurd c4 (bI_ne (hdgN hf))) (fun c4 => ?_)
  refine Z_iload_n 8 2 dX3_bound_7 rfl rfl ?_
  refine Z_callS 11 [_] (zX3_isHedge _) dX3_bound_8 rfl qX3_37 kX3_isHedge rfl rfl ⟨(Nat.le_of_ble_eq_true rfl), (Nat.le_of_ble_eq_true rfl)⟩ (Nat.le_of_ble_eq_true rfl) ⟨rfl, rfl⟩ ⟨(Nat.le_of_ble_eq_true rfl), (Nat.le_of_ble_eq_true rfl)⟩ (fun r9 w9 hp9 => ?_)
  obtain ⟨rfl, rfl⟩ := hp9
  refine Z_if_eq 14 23 dX3_bound_11 rfl rfl (fun c11 => absurd c11 (bI_ne (hdgN ho))) (fun c11 => ?_)
  refine Z_iload_n 15 3 dX3_bound_14 rfl rfl ?_
  refine Z_if_lt 18 23 dX3_bound_15 rfl rfl (fun c15 => absurd c15 (by decide)) (fun c15 => ?_)
  refine Z_iload_n 19 3 dX3_bound_18 rfl rfl ?_
  refine Z_iconst 20 (nI 1) dX3_bound_19 rfl rfl ?_
  refine Z_icmp_le 23 25 dX3_bound_20 rfl rfl (fun c20 => ?_) (fun c20 => absurd (by decide) c20)
  refine Z_iload_n 26 3 dX3_bound_25 rfl rfl ?_
  refine Z_if_ne 29 46 dX3_bound_26 rfl rfl (fun c26 => ?_) (fun c26 => absurd (by decide) c26)
  refine Z_aload_n 47 0 dX3_bound_46 rfl rfl ?_
  refine Z_getR 50 dX3_bound_47 rfl fX3_26 (Nat.le_of_ble_eq_true rfl) rfl rfl ?_
  refine Z_aload_n 51 0 dX3_bound_50 rfl rfl ?_
  refine Z_getR 54 dX3_bound_51 rfl fX3_10 (Nat.le_of_ble_eq_true rfl) rfl rfl ?_
  refine Z_iload_n 55 1 dX3_bound_54 rfl rfl ?_
  refine Z_iload_n 56 2 dX3_bound_55 rfl rfl ?_
  refine Z_callV 59 [_, _, _] 2 (zX2_boundByPairs n g9.1 g9.2.1 f9 hp f o hf ho) dX3_bound_56 rfl qX3_169 kX2_boundByPairs rfl rfl (Nat.le_of_ble_eq_true rfl) rfl rfl ⟨(Nat.le_of_ble_eq_true rfl), (Nat.le_of_ble_eq_true rfl)⟩ (Nat.le_of_ble_eq_true rfl) ⟨rfl, rfl⟩ ⟨(Nat.le_of_ble_eq_true rfl), (Nat.le_of_ble_eq_true rfl)⟩ (fun r9 w9 hp9 => ?_)
  obtain ⟨m2, v2, rfl, hF2, hr9, hv2⟩ := hp9
  cases hr9
  obtain ⟨y, hT3, hY2⟩ := topB (f := f) g9
  have hV2 := hF2.v
  have hrow := (fwM_ok hp (eB_ok g9.1 g9.2.1) 8 (by decide)).row (by decide) (eB_ok g9.1 g9.2.1) hf hT3 hY2 ho
  have hrow2 : fwM (eB m (fun t => decide (sForce m 1 t))) n 8 f o = y o := hrow
  rw [hrow2] at hv2
  have hv3 := bnd_end (y := y o) (v := v2) (by omega)
  refine Z_istore 61 [(4, _), (0, _), (1, _), (2, _), (3, _)] dX3_bound_59 rfl (Nat.le_of_ble_eq_true rfl) rfl ?_
  refine Z_iload 63 0 dX3_bound_61 rfl rfl ?_
  refine Z_ldc 65 1000000 dX3_bound_63 rfl kX3_173 ?_
  refine Z_icmp_ne 68 73 dX3_bound_65 rfl rfl (fun c65 => ?_) (fun c65 => ?_)
  · skip
    have hw9 := hv3.2 c65
    refine Z_iload 75 0 dX3_bound_73 rfl rfl ?_
    refine Z_sipush 78 (nI 1000) dX3_bound_75 rfl rfl ?_
    refine Z_iadd 79 dX3_bound_78 rfl ?_
    exact Z_iret dX3_bound_79 rfl (by first | exact ⟨m2, y, _, rfl, hV2, hT3, hY2, rfl, Or.inl ⟨hw9, rfl⟩⟩ | exact ⟨m2, y, _, rfl, hV2, hT3, hY2, rfl, Or.inr hw9⟩)
  · skip
    have hw9 := hv3.1 (by simpa using c65)
    refine Z_bipush 70 (-4) dX3_bound_68 rfl rfl ?_
    refine Z_goto 79 dX3_bound_70 rfl ?_
    exact Z_iret dX3_bound_79 rfl (by first | exact ⟨m2, y, _, rfl, hV2, hT3, hY2, rfl, Or.inl ⟨hw9, rfl⟩⟩ | exact ⟨m2, y, _, rfl, hV2, hT3, hY2, rfl, Or.inr hw9⟩)
