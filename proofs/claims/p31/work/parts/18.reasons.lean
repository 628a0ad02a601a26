/-! reasons, bounds, clippings of HedgeTreaties -/
/-- all signed treaties, as edges for levels -/
def eA (m : zM) : Nat → Ed := fun t => (true, sF m 1 t, sO m 1 t, (m 8 t).toInt)
/-- the street at 1 is in order: its n treaties are possible together -/
def gOk (m : zM) (n : Nat) : Prop := sOk m 1 n ∧ dOk m n ∧ (∀ q, q < 8 → 0 ≤ (m 2 q).toInt ∧ (m 2 q).toInt ≤ 99) ∧ Fea (eA m) n
abbrev pFo (m : zM) : Nat → Bool := fun t => decide (sForce m 1 t)
theorem gOk.potL {m : zM} {n : Nat} (g : gOk m n) (p : Nat → Bool) : ∃ f, Pot (eL m p) n f := by
  obtain ⟨z, -, h2⟩ := g.2.2.2
  refine ⟨z, fun t ht _ => ?_⟩
  have a := g.1.2.2 t ht
  exact ⟨a.1.2, a.2.2, h2 t ht rfl⟩
theorem gOk.potB {m : zM} {n : Nat} (g : gOk m n) (p : Nat → Bool) : ∃ f, Pot (eB m p) n f := by
  obtain ⟨z, -, h2⟩ := g.2.2.2
  refine ⟨fun q => - z q, fun t ht _ => ?_⟩
  have a := g.1.2.2 t ht
  refine ⟨a.2.2, a.1.2, ?_⟩
  have h3 : z (sF m 1 t) ≤ z (sO m 1 t) + (m 8 t).toInt := h2 t ht rfl
  show - z (sO m 1 t) ≤ - z (sF m 1 t) + (m 8 t).toInt
  omega
theorem Top.congr {y0 y : Nat → Int} {e e' : Nat → Ed} {n : Nat} (he : ∀ t, t < n → e' t = e t) (h : Top y0 e n y) : Top y0 e' n y := by
  have f : ∀ z, Fx z e n → Fx z e' n := fun z hz t ht => by rw [he t ht]; exact hz t ht
  have f' : ∀ z, Fx z e' n → Fx z e n := fun z hz t ht => by rw [← he t ht]; exact hz t ht
  exact ⟨h.1, f _ h.2.1, fun z h1 h2 => h.2.2 z h1 (f' z h2)⟩
theorem nIm1 {t : Nat} (ht : t < 2 ^ 31) : ¬ nI t = -1 := fun h => by
  have := nI_pos ht
  rw [h] at this
  exact this (by decide)
theorem eBm1 {m : zM} {n : Nat} (hn : n ≤ 14) (t : Nat) (ht : t < n) : eB m (pFo m) t = eB m (fun t => decide (¬ nI t = -1 ∧ sForce m 1 t)) t := by
  show (decide (sForce m 1 t), sO m 1 t, sF m 1 t, (m 8 t).toInt) = (decide (¬ nI t = -1 ∧ sForce m 1 t), sO m 1 t, sF m 1 t, (m 8 t).toInt)
  by_cases g : sForce m 1 t
  · rw [decide_eq_true g, decide_eq_true (⟨nIm1 (by omega), g⟩ : ¬ nI t = -1 ∧ sForce m 1 t)]
  · rw [decide_eq_false g, decide_eq_false (fun z => g z.2)]
/-- a reason out of what is possible and a bound -/
def rsn (Pp : Prop) (b d : Int) (r : Int32) : Prop := (¬ Pp ∧ r = nI 1) ∨ (Pp ∧ b ≤ d ∧ r = nI 2) ∨ (Pp ∧ ¬ b ≤ d ∧ r = nI 0)
theorem rsn.one {P1 P2 : Prop} {b1 b2 d : Int} {r1 r2 : Int32} (hP : P1 ↔ P2) (hb : b1 ≤ d ↔ b2 ≤ d) (h1 : rsn P1 b1 d r1) (h2 : rsn P2 b2 d r2) : r1 = r2 := by
  rcases h1 with ⟨a1, rfl⟩ | ⟨a1, a2, rfl⟩ | ⟨a1, a2, rfl⟩ <;> rcases h2 with ⟨c1, rfl⟩ | ⟨c1, c2, rfl⟩ | ⟨c1, c2, rfl⟩ <;> first | rfl | exact absurd (hP.mpr c1) a1 | exact absurd (hP.mp a1) c1 | exact absurd (hb.mpr c2) a2 | exact absurd (hb.mp a2) c2
theorem Fsv.sOk {m m' : zM} {n : Nat} (hF : Fsv m m') (hk : sOk m 1 n) : sOk m' 1 n :=
  sOk_congr (by rw [hF 1 (by decide)]) (fun k _ => by rw [hF (1 + 5) (by decide)]) (fun k _ => by rw [hF (1 + 6) (by decide)]) hk
theorem Fsv.dOk {m m' : zM} {n : Nat} (hF : Fsv m m') (hd : dOk m n) : dOk m' n := fun t ht => by
  rw [hF 8 (by decide)]
  exact hd t ht
theorem Fsv.eB {m m' : zM} {x : Int32} (hF : Fsv m m') : eB m' (fun t => decide (¬ nI t = x ∧ sForce m' 1 t)) = eB m (fun t => decide (¬ nI t = x ∧ sForce m 1 t)) := by
  funext t
  unfold Jvm.Pilot.CHedgeTreatiesLaw_law_r6356_2a1716.eB sForce sF sO
  rw [hF (1 + 8) (by decide), hF 1 (by decide), hF (1 + 5) (by decide), hF (1 + 6) (by decide), hF 8 (by decide)]
theorem Fsv.gOk {m m' : zM} {n : Nat} (hF : Fsv m m') (g : gOk m n) : gOk m' n := by
  refine ⟨hF.sOk g.1, hF.dOk g.2.1, ?_, ?_⟩
  · rw [hF 2 (by decide)]
    exact g.2.2.1
  · have e : eA m' = eA m := by
      funext t
      unfold eA sF sO
      rw [hF (1 + 5) (by decide), hF (1 + 6) (by decide), hF 8 (by decide)]
    rw [e]
    exact g.2.2.2
theorem topB {m : zM} {n f : Nat} (g9 : gOk m n) : ∃ y, Top (Yb f) (eB m (pFo m)) n y ∧ ∀ q, q < 8 → y q = zK9 ∨ (-8000 ≤ y q ∧ y q ≤ 8000) := by
  obtain ⟨f9, hp⟩ := g9.potB (pFo m)
  have hn := g9.1.2.1
  refine ⟨_, sk_top (sk_7 (y := Yb f) hp), fun q hq => ?_⟩
  have h0 : Fin9 60 (Yb f) := fun q _ => by
    unfold Yb
    by_cases g : q = f
    · rw [if_pos g]
      right
      omega
    · rw [if_neg g]
      exact Or.inl rfl
  have := sk_fin (y := Yb f) (e := (eB m (pFo m))) (n := n) (by omega) (by decide) h0 (fun t ht hpt => by
    have := eB_ok g9.1 g9.2.1 t ht hpt
    exact ⟨this.2.1, this.2.2.1, this.2.2.2⟩) 7 q hq
  omega
set_option maxRecDepth 100000 in
set_option maxHeartbeats 4000000 in
theorem zX3_reasonAgainst {G : zG} {l : Launch} {h : Nat → Nat} {m : zM} (n : Nat) (g9 : gOk m n) (f o : Nat) (hf : f < 8) (ho : o < 8) (d : Int32) (hd2 : -60 ≤ d.toInt ∧ d.toInt ≤ 60) : zMet G l yX3_reasonAgainst mX3_reasonAgainst [.ref (G.1 + 0), .int (nI f), .int (nI o), .int d] (zw h m) (fun r w => ∃ m' y, w = zw h m' ∧ Fsv m m' ∧ Top (Yb f) (eB m (pFo m)) n y ∧ (∀ q, q < 8 → y q = zK9 ∨ (-8000 ≤ y q ∧ y q ≤ 8000)) ∧ ∃ v, r = some (.int v) ∧ rsn (Fea (eN m f o d) (n + 1)) (y o) d.toInt v) 0 0 := by
  refine zMet_of [(0, .ref (G.1 + 0)), (1, .int (nI f)), (2, .int (nI o)), (3, .int d)] (by decide +kernel) rfl (Or.inl rfl) (Nat.le_of_ble_eq_true rfl) rfl ?_
  have hn := g9.1.2.1
  refine Z_aload_n 1 0 dX3_reasonAgainst_0 rfl rfl ?_
  refine Z_getR 4 dX3_reasonAgainst_1 rfl fX3_26 (Nat.le_of_ble_eq_true rfl) rfl rfl ?_
  refine Z_aload_n 5 0 dX3_reasonAgainst_4 rfl rfl ?_
  refine Z_getR 8 dX3_reasonAgainst_5 rfl fX3_10 (Nat.le_of_ble_eq_true rfl) rfl rfl ?_
  refine Z_iload_n 9 1 dX3_reasonAgainst_8 rfl rfl ?_
  refine Z_iload_n 10 2 dX3_reasonAgainst_9 rfl rfl ?_
  refine Z_iload_n 11 3 dX3_reasonAgainst_10 rfl rfl ?_
  refine Z_callV 14 [_, _, _, _] 2 (zX2_isPossibleWith n g9.1 g9.2.1 f o hf ho d hd2) dX3_reasonAgainst_11 rfl qX3_206 kX2_isPossibleWith rfl rfl (Nat.le_of_ble_eq_true rfl) rfl rfl ⟨(Nat.le_of_ble_eq_true rfl), (Nat.le_of_ble_eq_true rfl)⟩ (Nat.le_of_ble_eq_true rfl) ⟨rfl, rfl⟩ ⟨(Nat.le_of_ble_eq_true rfl), (Nat.le_of_ble_eq_true rfl)⟩ (fun r9 w9 hp9 => ?_)
  obtain ⟨m2, rfl, hF2, hr9⟩ := hp9
  have hV2 := hF2.v (by decide)
  obtain ⟨y1, hT1, hY1⟩ := topB (f := f) g9
  rcases hr9 with ⟨rfl, hfe⟩ | ⟨rfl, hfe⟩
  · obtain ⟨f9, hp⟩ := g9.potB (fun t => decide (¬ nI t = -1 ∧ sForce m 1 t))
    refine Z_if_ne 17 19 dX3_reasonAgainst_14 rfl rfl (fun c14 => ?_) (fun c14 => absurd (by decide) c14)
    refine Z_aload_n 20 0 dX3_reasonAgainst_19 rfl rfl ?_
    refine Z_getR 23 dX3_reasonAgainst_20 rfl fX3_26 (Nat.le_of_ble_eq_true rfl) rfl rfl ?_
    refine Z_aload_n 24 0 dX3_reasonAgainst_23 rfl rfl ?_
    refine Z_getR 27 dX3_reasonAgainst_24 rfl fX3_10 (Nat.le_of_ble_eq_true rfl) rfl rfl ?_
    refine Z_iload_n 28 1 dX3_reasonAgainst_27 rfl rfl ?_
    refine Z_iload_n 29 2 dX3_reasonAgainst_28 rfl rfl ?_
    refine Z_iconst 30 (-1) dX3_reasonAgainst_29 rfl rfl ?_
    refine Z_callV 33 [_, _, _, _] 2 (zX2_boundByTreaties (m := m2) n (hV2.sOk g9.1) (hV2.dOk g9.2.1) f o hf ho (-1) f9 (by rw [hV2.eB]; exact hp)) dX3_reasonAgainst_30 rfl qX3_165 kX2_boundByTreaties rfl rfl (Nat.le_of_ble_eq_true rfl) rfl rfl ⟨(Nat.le_of_ble_eq_true rfl), (Nat.le_of_ble_eq_true rfl)⟩ (Nat.le_of_ble_eq_true rfl) ⟨rfl, rfl⟩ ⟨(Nat.le_of_ble_eq_true rfl), (Nat.le_of_ble_eq_true rfl)⟩ (fun r9 w9 hp9 => ?_)
    obtain ⟨m3, y2, v2, rfl, hF3, hT2, hY2, hr9, hv2⟩ := hp9
    cases hr9
    rw [hV2.eB] at hT2
    have hT3 := hT2.congr (eBm1 hn)
    refine Z_iload_n 34 3 dX3_reasonAgainst_33 rfl rfl ?_
    refine Z_icmp_gt 37 41 dX3_reasonAgainst_34 rfl rfl (fun c34 => ?_) (fun c34 => ?_)
    · skip
      have hge : ¬ y2 o ≤ d.toInt := fun z => by
        rw [i32_lt] at c34
        have z9 : zK9 = 100000 := rfl
        omega
      refine Z_iconst 42 (nI 0) dX3_reasonAgainst_41 rfl rfl ?_
      refine Z_istore 44 [(4, _), (0, _), (1, _), (2, _), (3, _)] dX3_reasonAgainst_42 rfl (Nat.le_of_ble_eq_true rfl) rfl ?_
      refine Z_iload 46 0 dX3_reasonAgainst_44 rfl rfl ?_
      refine Z_if_eq 49 53 dX3_reasonAgainst_46 rfl rfl (fun _ => ?_) (fun c => absurd rfl c)
      refine Z_iconst 54 (nI 0) dX3_reasonAgainst_53 rfl rfl ?_
      exact Z_iret dX3_reasonAgainst_54 rfl ⟨m3, y2, rfl, hV2.trans (hF3.v (by decide)), hT3, hY2, _, rfl, Or.inr (Or.inr ⟨hfe, hge, rfl⟩)⟩
    · skip
      have hge : y2 o ≤ d.toInt := by
        rw [i32_lt] at c34
        have z9 : zK9 = 100000 := rfl
        omega
      refine Z_iconst 38 (nI 1) dX3_reasonAgainst_37 rfl rfl ?_
      refine Z_goto 42 dX3_reasonAgainst_38 rfl ?_
      refine Z_istore 44 [(4, _), (0, _), (1, _), (2, _), (3, _)] dX3_reasonAgainst_42 rfl (Nat.le_of_ble_eq_true rfl) rfl ?_
      refine Z_iload 46 0 dX3_reasonAgainst_44 rfl rfl ?_
      refine Z_if_eq 49 53 dX3_reasonAgainst_46 rfl rfl (fun c => absurd c (by decide)) (fun _ => ?_)
      refine Z_iconst 50 (nI 2) dX3_reasonAgainst_49 rfl rfl ?_
      refine Z_goto 54 dX3_reasonAgainst_50 rfl ?_
      exact Z_iret dX3_reasonAgainst_54 rfl ⟨m3, y2, rfl, hV2.trans (hF3.v (by decide)), hT3, hY2, _, rfl, Or.inr (Or.inl ⟨hfe, hge, rfl⟩)⟩
  · refine Z_if_ne 17 19 dX3_reasonAgainst_14 rfl rfl (fun c => absurd rfl c) (fun _ => ?_)
    refine Z_iconst 18 (nI 1) dX3_reasonAgainst_17 rfl rfl ?_
    exact Z_iret dX3_reasonAgainst_18 rfl ⟨m2, y1, rfl, hV2, hT1, hY1, _, rfl, Or.inl ⟨hfe, rfl⟩⟩
set_option maxRecDepth 100000 in
set_option maxHeartbeats 4000000 in
theorem zX3_signOne {G : zG} {l : Launch} {h : Nat → Nat} {m : zM} (n : Nat) (g9 : gOk m n) (f o : Nat) (hf : f < 8) (ho : o < 8) (d : Int32) (hd2 : -60 ≤ d.toInt ∧ d.toInt ≤ 60) (hn14 : n < 14) : zMet G l yX3_signOne mX3_signOne [.ref (G.1 + 0), .int (nI f), .int (nI o), .int d] (zw h m) (fun r w => ∃ m' y rr, Fsv m m' ∧ Top (Yb f) (eB m (pFo m)) n y ∧ (∀ q, q < 8 → y q = zK9 ∨ (-8000 ≤ y q ∧ y q ≤ 8000)) ∧ rsn (Fea (eN m f o d) (n + 1)) (y o) d.toInt rr ∧ ((rr = nI 0 ∧ r = some (.int (nI (10 + n))) ∧ w = zw h (addM m' 1 n (nI f) (nI o) d)) ∨ (¬ rr = nI 0 ∧ r = some (.int rr) ∧ w = zw h (refM m')))) 0 0 := by
  refine zMet_of [(0, .ref (G.1 + 0)), (1, .int (nI f)), (2, .int (nI o)), (3, .int d)] (by decide +kernel) rfl (Or.inl rfl) (Nat.le_of_ble_eq_true rfl) rfl ?_
  refine Z_aload_n 1 0 dX3_signOne_0 rfl rfl ?_
  refine Z_iload_n 2 1 dX3_signOne_1 rfl rfl ?_
  refine Z_iload_n 3 2 dX3_signOne_2 rfl rfl ?_
  refine Z_iload_n 4 3 dX3_signOne_3 rfl rfl ?_
  refine Z_callV 7 [_, _, _] 3 (zX3_reasonAgainst n g9 f o hf ho d hd2) dX3_signOne_4 rfl qX3_178 kX3_reasonAgainst rfl rfl (Nat.le_of_ble_eq_true rfl) rfl rfl ⟨(Nat.le_of_ble_eq_true rfl), (Nat.le_of_ble_eq_true rfl)⟩ (Nat.le_of_ble_eq_true rfl) ⟨rfl, rfl⟩ ⟨(Nat.le_of_ble_eq_true rfl), (Nat.le_of_ble_eq_true rfl)⟩ (fun r9 w9 hp9 => ?_)
  obtain ⟨m2, y2, rfl, hV2, hT2, hY2, rr, rfl, hR2⟩ := hp9
  refine Z_istore 9 [(4, _), (0, _), (1, _), (2, _), (3, _)] dX3_signOne_7 rfl (Nat.le_of_ble_eq_true rfl) rfl ?_
  refine Z_iload 11 0 dX3_signOne_9 rfl rfl ?_
  refine Z_if_eq 14 21 dX3_signOne_11 rfl rfl (fun c11 => ?_) (fun c11 => ?_)
  · skip
    refine Z_aload_n 22 1 dX3_signOne_21 rfl rfl ?_
    refine Z_getR 25 dX3_signOne_22 rfl fX3_10 (Nat.le_of_ble_eq_true rfl) rfl rfl ?_
    refine Z_iload_n 26 2 dX3_signOne_25 rfl rfl ?_
    refine Z_iload_n 27 3 dX3_signOne_26 rfl rfl ?_
    refine Z_iload_n 28 4 dX3_signOne_27 rfl rfl ?_
    refine Z_callV 31 [_, _, _] 1 (zX1_addTreaty 1 (Or.inl rfl) n hn14 ((congrFun (hV2 1 (by decide)) 8).trans g9.1.1) _ _ _) dX3_signOne_28 rfl qX3_221 kX1_addTreaty rfl rfl (Nat.le_of_ble_eq_true rfl) rfl rfl ⟨(Nat.le_of_ble_eq_true rfl), (Nat.le_of_ble_eq_true rfl)⟩ (Nat.le_of_ble_eq_true rfl) ⟨rfl, rfl⟩ ⟨(Nat.le_of_ble_eq_true rfl), (Nat.le_of_ble_eq_true rfl)⟩ (fun r9 w9 hp9 => ?_)
    obtain ⟨rfl, rfl⟩ := hp9
    refine Z_bipush 33 (nI 10) dX3_signOne_31 rfl rfl ?_
    refine Z_aload_n 34 1 dX3_signOne_33 rfl rfl ?_
    refine Z_getR 37 dX3_signOne_34 rfl fX3_10 (Nat.le_of_ble_eq_true rfl) rfl rfl ?_
    refine Z_getI 40 dX3_signOne_37 rfl fX3_101 (Nat.le_of_ble_eq_true rfl) rfl rfl ?_
    refine Z_top (v' := .int (nI (n + 1))) (congrArg Value.int (by simp [addM, up2])) ?_
    refine Z_iadd 41 dX3_signOne_40 rfl ?_
    refine Z_iconst 42 (nI 1) dX3_signOne_41 rfl rfl ?_
    refine Z_isub 43 dX3_signOne_42 rfl ?_
    refine Z_top (v' := .int (nI (10 + n))) (congrArg Value.int (by rw [nI_add]; exact nI_pred (10 + n))) ?_
    exact Z_iret dX3_signOne_43 rfl ⟨m2, y2, rr, hV2, hT2, hY2, hR2, Or.inl ⟨c11, rfl, rfl⟩⟩
  · skip
    refine Z_aload_n 15 1 dX3_signOne_14 rfl rfl ?_
    refine Z_iload 17 0 dX3_signOne_15 rfl rfl ?_
    refine Z_callV 20 [_] 3 (zX3_refuse _) dX3_signOne_17 rfl qX3_61 kX3_refuse rfl rfl (Nat.le_of_ble_eq_true rfl) rfl rfl ⟨(Nat.le_of_ble_eq_true rfl), (Nat.le_of_ble_eq_true rfl)⟩ (Nat.le_of_ble_eq_true rfl) ⟨rfl, rfl⟩ ⟨(Nat.le_of_ble_eq_true rfl), (Nat.le_of_ble_eq_true rfl)⟩ (fun r9 w9 hp9 => ?_)
    obtain ⟨rfl, rfl⟩ := hp9
    exact Z_iret dX3_signOne_20 rfl ⟨m2, y2, rr, hV2, hT2, hY2, hR2, Or.inr ⟨c11, rfl, rfl⟩⟩

set_option maxRecDepth 100000 in
set_option maxHeartbeats 4000000 in
theorem eX3_sign {G : zG} {l : Launch} {h : Nat → Nat} {m : zM} (n : Nat) (hk : m 1 8 = nI n) (x1 x2 d : Int32) (hne : ¬ esg n x1 x2 d = 0) : zMet G l yX3_sign mX3_sign [.ref (G.1 + 0), .int x1, .int x2, .int d] (zw h m) (fun r w => r = some (.int (esg n x1 x2 d)) ∧ w = zw h m) 0 0 := by
  refine zMet_of [(0, .ref (G.1 + 0)), (1, .int x1), (2, .int x2), (3, .int d)] (by decide +kernel) rfl (Or.inl rfl) (Nat.le_of_ble_eq_true rfl) rfl ?_
  refine Z_aload_n 1 0 dX3_sign_0 rfl rfl ?_
  refine Z_iload_n 2 1 dX3_sign_1 rfl rfl ?_
  refine Z_iload_n 3 2 dX3_sign_2 rfl rfl ?_
  refine Z_iload_n 4 3 dX3_sign_3 rfl rfl ?_
  refine Z_callV 7 [_, _, _] 3 (zX3_errorOfSigning n hk _ _ _) dX3_sign_4 rfl qX3_87 kX3_errorOfSigning rfl rfl (Nat.le_of_ble_eq_true rfl) rfl rfl ⟨(Nat.le_of_ble_eq_true rfl), (Nat.le_of_ble_eq_true rfl)⟩ (Nat.le_of_ble_eq_true rfl) ⟨rfl, rfl⟩ ⟨(Nat.le_of_ble_eq_true rfl), (Nat.le_of_ble_eq_true rfl)⟩ (fun r9 w9 hp9 => ?_)
  obtain ⟨rfl, rfl⟩ := hp9
  refine Z_istore 9 [(4, _), (0, _), (1, _), (2, _), (3, _)] dX3_sign_7 rfl (Nat.le_of_ble_eq_true rfl) rfl ?_
  refine Z_iload 11 0 dX3_sign_9 rfl rfl ?_
  refine Z_if_eq 14 17 dX3_sign_11 rfl rfl (fun c11 => absurd c11 (hne)) (fun c11 => ?_)
  refine Z_iload 16 0 dX3_sign_14 rfl rfl ?_
  exact Z_iret dX3_sign_16 rfl ⟨rfl, rfl⟩

set_option maxRecDepth 100000 in
set_option maxHeartbeats 4000000 in
theorem zX3_sign {G : zG} {l : Launch} {h : Nat → Nat} {m : zM} (s : Nat) (hs : s ≤ 4) (hst : m 0 5 = nI s) (hh : hOk h) (n : Nat) (g9 : gOk (mRem h m s) n) (f o : Nat) (hf : f < 8) (ho : o < 8) (d : Int32) (hd2 : -60 ≤ d.toInt ∧ d.toInt ≤ 60) (hn14 : n < 14) (hk : m 1 8 = nI n) (hes : esg n (nI f) (nI o) d = 0) : zMet G l yX3_sign mX3_sign [.ref (G.1 + 0), .int (nI f), .int (nI o), .int d] (zw h m) (fun r w => ∃ m' y rr, Fsv (mRem h m s) m' ∧ Top (Yb f) (eB (mRem h m s) (pFo (mRem h m s))) n y ∧ (∀ q, q < 8 → y q = zK9 ∨ (-8000 ≤ y q ∧ y q ≤ 8000)) ∧ rsn (Fea (eN (mRem h m s) f o d) (n + 1)) (y o) d.toInt rr ∧ ((rr = nI 0 ∧ r = some (.int (nI (10 + n))) ∧ w = zw (hRem h s) (addM m' 1 n (nI f) (nI o) d)) ∨ (¬ rr = nI 0 ∧ r = some (.int rr) ∧ w = zw (hRem h s) (refM m')))) 0 0 := by
  refine zMet_of [(0, .ref (G.1 + 0)), (1, .int (nI f)), (2, .int (nI o)), (3, .int d)] (by decide +kernel) rfl (Or.inl rfl) (Nat.le_of_ble_eq_true rfl) rfl ?_
  refine Z_aload_n 1 0 dX3_sign_0 rfl rfl ?_
  refine Z_iload_n 2 1 dX3_sign_1 rfl rfl ?_
  refine Z_iload_n 3 2 dX3_sign_2 rfl rfl ?_
  refine Z_iload_n 4 3 dX3_sign_3 rfl rfl ?_
  refine Z_callV 7 [_, _, _] 3 (zX3_errorOfSigning n hk _ _ _) dX3_sign_4 rfl qX3_87 kX3_errorOfSigning rfl rfl (Nat.le_of_ble_eq_true rfl) rfl rfl ⟨(Nat.le_of_ble_eq_true rfl), (Nat.le_of_ble_eq_true rfl)⟩ (Nat.le_of_ble_eq_true rfl) ⟨rfl, rfl⟩ ⟨(Nat.le_of_ble_eq_true rfl), (Nat.le_of_ble_eq_true rfl)⟩ (fun r9 w9 hp9 => ?_)
  obtain ⟨rfl, rfl⟩ := hp9
  refine Z_istore 9 [(4, _), (0, _), (1, _), (2, _), (3, _)] dX3_sign_7 rfl (Nat.le_of_ble_eq_true rfl) rfl ?_
  refine Z_iload 11 0 dX3_sign_9 rfl rfl ?_
  refine Z_if_eq 14 17 dX3_sign_11 rfl rfl (fun c11 => ?_) (fun c11 => absurd (hes) c11)
  refine Z_aload_n 18 1 dX3_sign_17 rfl rfl ?_
  refine Z_callV 21 [] 3 (zX3_remember s hs hst hh) dX3_sign_18 rfl qX3_41 kX3_remember rfl rfl (Nat.le_of_ble_eq_true rfl) rfl rfl ⟨(Nat.le_of_ble_eq_true rfl), (Nat.le_of_ble_eq_true rfl)⟩ (Nat.le_of_ble_eq_true rfl) ⟨rfl, rfl⟩ ⟨(Nat.le_of_ble_eq_true rfl), (Nat.le_of_ble_eq_true rfl)⟩ (fun r9 w9 hp9 => ?_)
  obtain ⟨rfl, rfl⟩ := hp9
  refine Z_aload_n 22 1 dX3_sign_21 rfl rfl ?_
  refine Z_iload_n 23 2 dX3_sign_22 rfl rfl ?_
  refine Z_iload_n 24 3 dX3_sign_23 rfl rfl ?_
  refine Z_iload_n 25 4 dX3_sign_24 rfl rfl ?_
  refine Z_callV 28 [_, _, _] 3 (zX3_signOne (m := mRem h m s) n g9 f o hf ho d hd2 hn14) dX3_sign_25 rfl qX3_91 kX3_signOne rfl rfl (Nat.le_of_ble_eq_true rfl) rfl rfl ⟨(Nat.le_of_ble_eq_true rfl), (Nat.le_of_ble_eq_true rfl)⟩ (Nat.le_of_ble_eq_true rfl) ⟨rfl, rfl⟩ ⟨(Nat.le_of_ble_eq_true rfl), (Nat.le_of_ble_eq_true rfl)⟩ (fun r9 w9 hp9 => ?_)
  obtain ⟨m2, y2, rr, hV2, hT2, hY2, hR2, hq9⟩ := hp9
  rcases hq9 with ⟨e1, rfl, rfl⟩ | ⟨e1, rfl, rfl⟩
  · exact Z_iret dX3_sign_28 rfl ⟨m2, y2, rr, hV2, hT2, hY2, hR2, Or.inl ⟨e1, rfl, rfl⟩⟩
  · exact Z_iret dX3_sign_28 rfl ⟨m2, y2, rr, hV2, hT2, hY2, hR2, Or.inr ⟨e1, rfl, rfl⟩⟩

set_option maxRecDepth 100000 in
set_option maxHeartbeats 4000000 in
theorem zX3_isNothingNewBesideOthers {G : zG} {l : Launch} {h : Nat → Nat} {m : zM} (n : Nat) (g9 : gOk m n) (t : Nat) (ht : t < n) : zMet G l yX3_isNothingNewBesideOthers mX3_isNothingNewBesideOthers [.ref (G.1 + 0), .int (nI t)] (zw h m) (fun r w => ∃ m' y, w = zw h m' ∧ Fsv m m' ∧ Top (Yb (sF m 1 t)) (eB m (fun t9 => decide (¬ nI t9 = nI t ∧ sForce m 1 t9))) n y ∧ (∀ q, q < 8 → y q = zK9 ∨ (-8000 ≤ y q ∧ y q ≤ 8000)) ∧ r = some (.int (bI (y (sO m 1 t) ≤ (m 8 t).toInt)))) 0 0 := by
  refine zMet_of [(0, .ref (G.1 + 0)), (1, .int (nI t))] (by decide +kernel) rfl (Or.inl rfl) (Nat.le_of_ble_eq_true rfl) rfl ?_
  have hn := g9.1.2.1
  have hfo := g9.1.2.2 t ht
  have hdd := g9.2.1 t ht
  obtain ⟨f9, hp⟩ := g9.potB (fun t9 => decide (¬ nI t9 = nI t ∧ sForce m 1 t9))
  refine Z_aload_n 1 0 dX3_isNothingNewBesideOthers_0 rfl rfl ?_
  refine Z_getR 4 dX3_isNothingNewBesideOthers_1 rfl fX3_10 (Nat.le_of_ble_eq_true rfl) rfl rfl ?_
  refine Z_getR 7 dX3_isNothingNewBesideOthers_4 rfl fX3_150 (Nat.le_of_ble_eq_true rfl) rfl rfl ?_
  refine Z_iload_n 8 1 dX3_isNothingNewBesideOthers_7 rfl rfl ?_
  refine Z_ialn 9 dX3_isNothingNewBesideOthers_8 rfl (Nat.le_of_ble_eq_true rfl) rfl (by omega) (by decide) ?_
  refine Z_top (v' := .int (nI (sF m 1 t))) (congrArg Value.int hfo.1.1) ?_
  refine Z_istore_n 10 [(2, _), (0, _), (1, _)] dX3_isNothingNewBesideOthers_9 rfl (Nat.le_of_ble_eq_true rfl) rfl ?_
  refine Z_aload_n 11 1 dX3_isNothingNewBesideOthers_10 rfl rfl ?_
  refine Z_getR 14 dX3_isNothingNewBesideOthers_11 rfl fX3_10 (Nat.le_of_ble_eq_true rfl) rfl rfl ?_
  refine Z_getR 17 dX3_isNothingNewBesideOthers_14 rfl fX3_153 (Nat.le_of_ble_eq_true rfl) rfl rfl ?_
  refine Z_iload_n 18 2 dX3_isNothingNewBesideOthers_17 rfl rfl ?_
  refine Z_ialn 19 dX3_isNothingNewBesideOthers_18 rfl (Nat.le_of_ble_eq_true rfl) rfl (by omega) (by decide) ?_
  refine Z_top (v' := .int (nI (sO m 1 t))) (congrArg Value.int hfo.2.1) ?_
  refine Z_istore_n 20 [(3, _), (2, _), (0, _), (1, _)] dX3_isNothingNewBesideOthers_19 rfl (Nat.le_of_ble_eq_true rfl) rfl ?_
  refine Z_aload_n 21 2 dX3_isNothingNewBesideOthers_20 rfl rfl ?_
  refine Z_getR 24 dX3_isNothingNewBesideOthers_21 rfl fX3_26 (Nat.le_of_ble_eq_true rfl) rfl rfl ?_
  refine Z_aload_n 25 2 dX3_isNothingNewBesideOthers_24 rfl rfl ?_
  refine Z_getR 28 dX3_isNothingNewBesideOthers_25 rfl fX3_10 (Nat.le_of_ble_eq_true rfl) rfl rfl ?_
  refine Z_iload_n 29 1 dX3_isNothingNewBesideOthers_28 rfl rfl ?_
  refine Z_iload_n 30 0 dX3_isNothingNewBesideOthers_29 rfl rfl ?_
  refine Z_iload_n 31 3 dX3_isNothingNewBesideOthers_30 rfl rfl ?_
  refine Z_callV 34 [_, _, _, _] 2 (zX2_boundByTreaties n g9.1 g9.2.1 (sF m 1 t) (sO m 1 t) hfo.1.2 hfo.2.2 (nI t) f9 hp) dX3_isNothingNewBesideOthers_31 rfl qX3_165 kX2_boundByTreaties rfl rfl (Nat.le_of_ble_eq_true rfl) rfl rfl ⟨(Nat.le_of_ble_eq_true rfl), (Nat.le_of_ble_eq_true rfl)⟩ (Nat.le_of_ble_eq_true rfl) ⟨rfl, rfl⟩ ⟨(Nat.le_of_ble_eq_true rfl), (Nat.le_of_ble_eq_true rfl)⟩ (fun r9 w9 hp9 => ?_)
  obtain ⟨m2, y2, v2, rfl, hF2, hT2, hY2, hr9, hv2⟩ := hp9
  cases hr9
  refine Z_aload_n 35 2 dX3_isNothingNewBesideOthers_34 rfl rfl ?_
  refine Z_getR 38 dX3_isNothingNewBesideOthers_35 rfl fX3_10 (Nat.le_of_ble_eq_true rfl) rfl rfl ?_
  refine Z_getR 41 dX3_isNothingNewBesideOthers_38 rfl fX3_156 (Nat.le_of_ble_eq_true rfl) rfl rfl ?_
  refine Z_iload_n 42 3 dX3_isNothingNewBesideOthers_41 rfl rfl ?_
  refine Z_ialn 43 dX3_isNothingNewBesideOthers_42 rfl (Nat.le_of_ble_eq_true rfl) rfl (by omega) (by decide) ?_
  refine Z_top (v' := .int (m 8 t)) (congrArg Value.int (by rw [hF2 8 (by decide)])) ?_
  refine Z_icmp_gt 46 50 dX3_isNothingNewBesideOthers_43 rfl rfl (fun c43 => ?_) (fun c43 => ?_)
  · skip
    have hge : ¬ y2 (sO m 1 t) ≤ (m 8 t).toInt := fun z => by
      rw [i32_lt] at c43
      have z9 : zK9 = 100000 := rfl
      omega
    refine Z_iconst 51 (nI 0) dX3_isNothingNewBesideOthers_50 rfl rfl ?_
    exact Z_zret dX3_isNothingNewBesideOthers_51 rfl (by first | exact Or.inl rfl | exact Or.inr rfl | exact bI_01) (by first | exact ⟨m2, y2, rfl, hF2.v (by decide), hT2, hY2, bRf hge⟩ | exact ⟨m2, y2, rfl, hF2.v (by decide), hT2, hY2, bRt hge⟩)
  · skip
    have hge : y2 (sO m 1 t) ≤ (m 8 t).toInt := by
      rw [i32_lt] at c43
      have z9 : zK9 = 100000 := rfl
      omega
    refine Z_iconst 47 (nI 1) dX3_isNothingNewBesideOthers_46 rfl rfl ?_
    refine Z_goto 51 dX3_isNothingNewBesideOthers_47 rfl ?_
    exact Z_zret dX3_isNothingNewBesideOthers_51 rfl (by first | exact Or.inl rfl | exact Or.inr rfl | exact bI_01) (by first | exact ⟨m2, y2, rfl, hF2.v (by decide), hT2, hY2, bRf hge⟩ | exact ⟨m2, y2, rfl, hF2.v (by decide), hT2, hY2, bRt hge⟩)

set_option maxRecDepth 100000 in
set_option maxHeartbeats 4000000 in
theorem zX3_treaty7 {G : zG} {l : Launch} {h : Nat → Nat} {m : zM} (n : Nat) (g9 : gOk m n) (t : Nat) (ht : t < n) : zMet G l yX3_treaty mX3_treaty [.ref (G.1 + 0), .int (nI t), .int (nI 7)] (zw h m) (fun r w => ∃ m' y, w = zw h m' ∧ Fsv m m' ∧ Top (Yb (sF m 1 t)) (eB m (fun t9 => decide (¬ nI t9 = nI t ∧ sForce m 1 t9))) n y ∧ (∀ q, q < 8 → y q = zK9 ∨ (-8000 ≤ y q ∧ y q ≤ 8000)) ∧ r = some (.int (bI (y (sO m 1 t) ≤ (m 8 t).toInt)))) 0 0 := by
  refine zMet_of [(0, .ref (G.1 + 0)), (1, .int (nI t)), (2, .int (nI 7))] (by decide +kernel) rfl (Or.inl rfl) (Nat.le_of_ble_eq_true rfl) rfl ?_
  have hn := g9.1.2.1
  refine Z_aload_n 1 0 dX3_treaty_0 rfl rfl ?_
  refine Z_iload_n 2 1 dX3_treaty_1 rfl rfl ?_
  refine Z_callV 5 [_] 3 (zX3_isTreaty n g9.1.1 _) dX3_treaty_2 rfl qX3_94 kX3_isTreaty rfl rfl (Nat.le_of_ble_eq_true rfl) rfl rfl ⟨(Nat.le_of_ble_eq_true rfl), (Nat.le_of_ble_eq_true rfl)⟩ (Nat.le_of_ble_eq_true rfl) ⟨rfl, rfl⟩ ⟨(Nat.le_of_ble_eq_true rfl), (Nat.le_of_ble_eq_true rfl)⟩ (fun r9 w9 hp9 => ?_)
  obtain ⟨rfl, rfl⟩ := hp9
  refine Z_if_ne 8 10 dX3_treaty_5 rfl rfl (fun c5 => ?_) (fun c5 => absurd (bI_ne (rngN ht (by omega))) c5)
  refine Z_iload_n 11 2 dX3_treaty_10 rfl rfl ?_
  refine Z_tabIn 147 (off := 136) dX3_treaty_11 (by decide) (by decide) (by decide) rfl ?_
  refine Z_aload_n 148 0 dX3_treaty_147 rfl rfl ?_
  refine Z_iload_n 149 1 dX3_treaty_148 rfl rfl ?_
  refine Z_callV 152 [_] 3 (zX3_isNothingNewBesideOthers n g9 t ht) dX3_treaty_149 rfl qX3_162 kX3_isNothingNewBesideOthers rfl rfl (Nat.le_of_ble_eq_true rfl) rfl rfl ⟨(Nat.le_of_ble_eq_true rfl), (Nat.le_of_ble_eq_true rfl)⟩ (Nat.le_of_ble_eq_true rfl) ⟨rfl, rfl⟩ ⟨(Nat.le_of_ble_eq_true rfl), (Nat.le_of_ble_eq_true rfl)⟩ (fun r9 w9 hp9 => ?_)
  obtain ⟨m2, y2, rfl, hV2, hT2, hY2, hr9⟩ := hp9
  cases hr9
  refine Z_if_eq 155 159 dX3_treaty_152 rfl rfl (fun c152 => ?_) (fun c152 => ?_)
  · skip
    refine Z_iconst 160 (nI 0) dX3_treaty_159 rfl rfl ?_
    exact Z_iret dX3_treaty_160 rfl (by first | exact ⟨m2, y2, rfl, hV2, hT2, hY2, bI_if c152⟩ | exact ⟨m2, y2, rfl, hV2, hT2, hY2, bI_if0 c152⟩)
  · skip
    refine Z_iconst 156 (nI 1) dX3_treaty_155 rfl rfl ?_
    refine Z_goto 160 dX3_treaty_156 rfl ?_
    exact Z_iret dX3_treaty_160 rfl (by first | exact ⟨m2, y2, rfl, hV2, hT2, hY2, bI_if c152⟩ | exact ⟨m2, y2, rfl, hV2, hT2, hY2, bI_if0 c152⟩)
