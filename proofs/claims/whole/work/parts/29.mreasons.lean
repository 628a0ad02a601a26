/-! the model: reasons, signing, plan, clipping -/
def Fm (m m' : zM) : Prop := ∀ q, q ≠ 80 → q ≠ 81 → m' q = m q
theorem Fm.rf {m : zM} : Fm m m := fun _ _ _ => rfl
theorem Fm.trans {m m1 m2 : zM} (h1 : Fm m m1) (h2 : Fm m1 m2) : Fm m m2 := fun q a b => (h2 q a b).trans (h1 q a b)
theorem Fr.m0 {m m' : zM} (h : Fr 80 m m') : Fm m m' := fun q a _ => h q a
theorem Fr.m1 {m m' : zM} (h : Fr 81 m m') : Fm m m' := fun q _ b => h q b
theorem Fm.r {m m' : zM} (h : Fm m m') : m' 75 = m 75 := h 75 (by decide) (by decide)
abbrev Fin8 (y : Nat → Int) : Prop := ∀ q, q < 8 → y q = zK9 ∨ (-8000 ≤ y q ∧ y q ≤ 8000)
theorem nIm4b {t : Nat} (ht : t < 2 ^ 31) : ¬ nI t = -4 := fun h => by
  have := nI_pos ht
  rw [h] at this
  exact this (by decide)
theorem eBm4 {m : zM} {n : Nat} (hn : n ≤ 14) (t : Nat) (ht : t < n) : eB m (pFo m) t = eB m (fun t => decide (¬ nI t = -4 ∧ sForce m 1 t)) t := by
  show (decide (sForce m 1 t), sO m 1 t, sF m 1 t, (m 8 t).toInt) = (decide (¬ nI t = -4 ∧ sForce m 1 t), sO m 1 t, sF m 1 t, (m 8 t).toInt)
  by_cases g : sForce m 1 t
  · rw [decide_eq_true g, decide_eq_true (⟨nIm4b (by omega), g⟩ : ¬ nI t = -4 ∧ sForce m 1 t)]
  · rw [decide_eq_false g, decide_eq_false (fun z => g z.2)]
theorem rsn.in {P1 : Prop} {b d : Int} {r : Int32} (h : rsn P1 b d r) : r = nI 1 ∨ r = nI 2 ∨ r = nI 0 := by
  rcases h with ⟨-, h⟩ | ⟨-, -, h⟩ | ⟨-, -, h⟩
  · exact Or.inl h
  · exact Or.inr (Or.inl h)
  · exact Or.inr (Or.inr h)
theorem rsn.le {P1 : Prop} {b d : Int} {r : Int32} (h : rsn P1 b d r) (c : r ≤ 0) : r = nI 0 := by
  rcases h.in with rfl | rfl | rfl
  · exact absurd c (by decide)
  · exact absurd c (by decide)
  · rfl
theorem rsn.nle {P1 : Prop} {b d : Int} {r : Int32} (c : ¬ r ≤ 0) : ¬ r = nI 0 := fun z => c (by rw [z]; decide)
set_option maxRecDepth 100000 in
set_option maxHeartbeats 4000000 in
theorem zX4_reasonToSign {G : zG} {l : Launch} {h : Nat → Nat} {m : zM} (n : Nat) (g9 : gOk (vR (m 75)) n) (f o : Nat) (hf : f < 8) (ho : o < 8) (d : Int32) (hd : -60 ≤ d.toInt ∧ d.toInt ≤ 60) : zMet G l yX4_reasonToSign mX4_reasonToSign [.ref (G.1 + 74), .int (nI f), .int (nI o), .int d] (zw h m) (fun r w => ∃ m' y v, w = zw h m' ∧ Fm m m' ∧ Top (Yb f) (eB (vR (m 75)) (pFo (vR (m 75)))) n y ∧ Fin8 y ∧ r = some (.int v) ∧ rsn (Fea (eN (vR (m 75)) f o d) (n + 1)) (y o) d.toInt v) 0 0 := by
  refine zMet_of [(0, .ref (G.1 + 74)), (1, .int (nI f)), (2, .int (nI o)), (3, .int d)] (by decide +kernel) rfl (Or.inl rfl) (Nat.le_of_ble_eq_true rfl) rfl ?_
  have hn := g9.1.2.1
  obtain ⟨y1, hT1, hY1⟩ := topB (f := f) g9
  obtain ⟨f9, hp⟩ := g9.potB (fun t => decide (¬ nI t = -4 ∧ sForce (vR (m 75)) 1 t))
  refine Z_aload_n 1 0 dX4_reasonToSign_0 rfl rfl ?_
  refine Z_iload_n 2 1 dX4_reasonToSign_1 rfl rfl ?_
  refine Z_iload_n 3 2 dX4_reasonToSign_2 rfl rfl ?_
  refine Z_iload_n 4 3 dX4_reasonToSign_3 rfl rfl ?_
  refine Z_callV 7 [_, _, _] 4 (zX4_isPossible n g9 f o hf ho d hd) dX4_reasonToSign_4 rfl qX4_80 kX4_isPossible rfl rfl (Nat.le_of_ble_eq_true rfl) rfl rfl ⟨(Nat.le_of_ble_eq_true rfl), (Nat.le_of_ble_eq_true rfl)⟩ (Nat.le_of_ble_eq_true rfl) ⟨rfl, rfl⟩ ⟨(Nat.le_of_ble_eq_true rfl), (Nat.le_of_ble_eq_true rfl)⟩ (fun r9 w9 hp9 => ?_)
  obtain ⟨m2, rfl, hF2, hr9⟩ := hp9
  rcases hr9 with ⟨hr8, hfe⟩ | ⟨hr8, hfe⟩
  · cases hr8
    have e75 : m2 75 = m 75 := hF2 75 (by decide)
    refine Z_if_ne 10 14 dX4_reasonToSign_7 rfl rfl (fun c7 => ?_) (fun c7 => absurd (by decide) c7)
    refine Z_aload_n 15 0 dX4_reasonToSign_14 rfl rfl ?_
    refine Z_iload_n 16 1 dX4_reasonToSign_15 rfl rfl ?_
    refine Z_iload_n 17 2 dX4_reasonToSign_16 rfl rfl ?_
    refine Z_bipush 19 (-4) dX4_reasonToSign_17 rfl rfl ?_
    refine Z_callV 22 [_, _, _] 4 (zX4_boundBut (m := m2) n (by rw [e75]; exact g9.1) (by rw [e75]; exact g9.2.1) f o hf ho (-4) f9 (by rw [e75]; exact hp)) dX4_reasonToSign_19 rfl qX4_83 kX4_boundBut rfl rfl (Nat.le_of_ble_eq_true rfl) rfl rfl ⟨(Nat.le_of_ble_eq_true rfl), (Nat.le_of_ble_eq_true rfl)⟩ (Nat.le_of_ble_eq_true rfl) ⟨rfl, rfl⟩ ⟨(Nat.le_of_ble_eq_true rfl), (Nat.le_of_ble_eq_true rfl)⟩ (fun r9 w9 hp9 => ?_)
    rw [e75] at hp9
    obtain ⟨m3, y, v, rfl, hF3, hT3, hY3, hr9, hv⟩ := hp9
    cases hr9
    have hT4 := hT3.congr (eBm4 hn)
    have hFm := hF2.m0.trans hF3.m1
    refine Z_iload_n 23 3 dX4_reasonToSign_22 rfl rfl ?_
    refine Z_icmp_gt 26 30 dX4_reasonToSign_23 rfl rfl (fun c23 => ?_) (fun c23 => ?_)
    · skip
      have hge : ¬ y o ≤ d.toInt := by
        rw [i32_lt] at c23
        omega
      refine Z_iconst 31 (nI 0) dX4_reasonToSign_30 rfl rfl ?_
      exact Z_iret dX4_reasonToSign_31 rfl (by first | exact ⟨m3, y, _, rfl, hFm, hT4, hY3, rfl, Or.inr (Or.inr ⟨FeI.iff.mpr hfe, hge, rfl⟩)⟩ | exact ⟨m3, y, _, rfl, hFm, hT4, hY3, rfl, Or.inr (Or.inl ⟨FeI.iff.mpr hfe, hge, rfl⟩)⟩)
    · skip
      have hge : y o ≤ d.toInt := by
        rw [i32_lt] at c23
        omega
      refine Z_iconst 27 (nI 2) dX4_reasonToSign_26 rfl rfl ?_
      refine Z_goto 31 dX4_reasonToSign_27 rfl ?_
      exact Z_iret dX4_reasonToSign_31 rfl (by first | exact ⟨m3, y, _, rfl, hFm, hT4, hY3, rfl, Or.inr (Or.inr ⟨FeI.iff.mpr hfe, hge, rfl⟩)⟩ | exact ⟨m3, y, _, rfl, hFm, hT4, hY3, rfl, Or.inr (Or.inl ⟨FeI.iff.mpr hfe, hge, rfl⟩)⟩)
  · cases hr8
    refine Z_if_ne 10 14 dX4_reasonToSign_7 rfl rfl (fun c7 => absurd c7 (fun q => q rfl)) (fun c7 => ?_)
    refine Z_iconst 11 (nI 1) dX4_reasonToSign_10 rfl rfl ?_
    refine Z_goto 31 dX4_reasonToSign_11 rfl ?_
    exact Z_iret dX4_reasonToSign_31 rfl ⟨m2, y1, _, rfl, hF2.m0, hT1, hY1, rfl, Or.inl ⟨fun z => hfe (FeI.iff.mp z), rfl⟩⟩

def adM (m : zM) (n : Nat) (f o d : Int32) : zM := up2 (up2 (up2 (up2 (up2 (up2 m 75 (39 + 4 * n + 0) f) 75 (39 + 4 * n + 1) o) 75 (39 + 4 * n + 2) d) 75 (39 + 4 * n + 3) (nI 0)) 75 2 (nI (n + 1))) 75 3 (m 75 3 + nI 1)
abbrev rfM (m : zM) : zM := up2 m 75 4 (m 75 4 + nI 1)
set_option maxRecDepth 100000 in
set_option maxHeartbeats 4000000 in
theorem zX4_goSign {G : zG} {l : Launch} {h : Nat → Nat} {m : zM} (n : Nat) (g9 : gOk (vR (m 75)) n) (f o : Nat) (hf : f < 8) (ho : o < 8) (d : Int32) (hd : -60 ≤ d.toInt ∧ d.toInt ≤ 60) (hn14 : n < 14) : zMet G l yX4_goSign mX4_goSign [.ref (G.1 + 74), .int (nI f), .int (nI o), .int d] (zw h m) (fun r w => ∃ m' y rr, Fm m m' ∧ Top (Yb f) (eB (vR (m 75)) (pFo (vR (m 75)))) n y ∧ Fin8 y ∧ rsn (Fea (eN (vR (m 75)) f o d) (n + 1)) (y o) d.toInt rr ∧ ((rr = nI 0 ∧ r = some (.int (nI (10 + n))) ∧ w = zw h (adM m' n (nI f) (nI o) d)) ∨ (¬ rr = nI 0 ∧ r = some (.int rr) ∧ w = zw h (rfM m')))) 0 0 := by
  refine zMet_of [(0, .ref (G.1 + 74)), (1, .int (nI f)), (2, .int (nI o)), (3, .int d)] (by decide +kernel) rfl (Or.inl rfl) (Nat.le_of_ble_eq_true rfl) rfl ?_
  refine Z_aload_n 1 0 dX4_goSign_0 rfl rfl ?_
  refine Z_iload_n 2 1 dX4_goSign_1 rfl rfl ?_
  refine Z_iload_n 3 2 dX4_goSign_2 rfl rfl ?_
  refine Z_iload_n 4 3 dX4_goSign_3 rfl rfl ?_
  refine Z_callV 7 [_, _, _] 4 (zX4_reasonToSign n g9 f o hf ho d hd) dX4_goSign_4 rfl qX4_94 kX4_reasonToSign rfl rfl (Nat.le_of_ble_eq_true rfl) rfl rfl ⟨(Nat.le_of_ble_eq_true rfl), (Nat.le_of_ble_eq_true rfl)⟩ (Nat.le_of_ble_eq_true rfl) ⟨rfl, rfl⟩ ⟨(Nat.le_of_ble_eq_true rfl), (Nat.le_of_ble_eq_true rfl)⟩ (fun r9 w9 hp9 => ?_)
  obtain ⟨m2, y, rr, rfl, hFm, hT, hY, hr9, hR⟩ := hp9
  cases hr9
  refine Z_istore 9 [(4, _), (0, _), (1, _), (2, _), (3, _)] dX4_goSign_7 rfl (Nat.le_of_ble_eq_true rfl) rfl ?_
  refine Z_iload 11 0 dX4_goSign_9 rfl rfl ?_
  refine Z_if_le 14 21 dX4_goSign_11 rfl rfl (fun c11 => ?_) (fun c11 => ?_)
  · skip
    refine Z_aload_n 22 1 dX4_goSign_21 rfl rfl ?_
    refine Z_getR 25 dX4_goSign_22 rfl fX4_7 (Nat.le_of_ble_eq_true rfl) rfl rfl ?_
    refine Z_iconst 26 (nI 2) dX4_goSign_25 rfl rfl ?_
    refine Z_ialn 27 dX4_goSign_26 rfl (Nat.le_of_ble_eq_true rfl) rfl (by first | assumption | omega) (by decide) ?_
    refine Z_top (v' := .int (nI n)) (congrArg Value.int ((congrFun hFm.r 2).trans g9.1.1)) ?_
    refine Z_istore 29 [(5, _), (4, _), (0, _), (1, _), (2, _), (3, _)] dX4_goSign_27 rfl (Nat.le_of_ble_eq_true rfl) rfl ?_
    refine Z_aload_n 30 2 dX4_goSign_29 rfl rfl ?_
    refine Z_iload 32 0 dX4_goSign_30 rfl rfl ?_
    refine Z_iconst 33 (nI 0) dX4_goSign_32 rfl rfl ?_
    refine Z_iload_n 34 3 dX4_goSign_33 rfl rfl ?_
    refine Z_callV 37 [_, _, _] 4 (zX4_laysTreaty n 0 hn14 (by decide) _) dX4_goSign_34 rfl qX4_100 kX4_laysTreaty rfl rfl (Nat.le_of_ble_eq_true rfl) rfl rfl ⟨(Nat.le_of_ble_eq_true rfl), (Nat.le_of_ble_eq_true rfl)⟩ (Nat.le_of_ble_eq_true rfl) ⟨rfl, rfl⟩ ⟨(Nat.le_of_ble_eq_true rfl), (Nat.le_of_ble_eq_true rfl)⟩ (fun r9 w9 hp9 => ?_)
    obtain ⟨rfl, rfl⟩ := hp9
    refine Z_aload_n 38 2 dX4_goSign_37 rfl rfl ?_
    refine Z_iload 40 0 dX4_goSign_38 rfl rfl ?_
    refine Z_iconst 41 (nI 1) dX4_goSign_40 rfl rfl ?_
    refine Z_iload_n 42 4 dX4_goSign_41 rfl rfl ?_
    refine Z_callV 45 [_, _, _] 4 (zX4_laysTreaty n 1 hn14 (by decide) _) dX4_goSign_42 rfl qX4_100 kX4_laysTreaty rfl rfl (Nat.le_of_ble_eq_true rfl) rfl rfl ⟨(Nat.le_of_ble_eq_true rfl), (Nat.le_of_ble_eq_true rfl)⟩ (Nat.le_of_ble_eq_true rfl) ⟨rfl, rfl⟩ ⟨(Nat.le_of_ble_eq_true rfl), (Nat.le_of_ble_eq_true rfl)⟩ (fun r9 w9 hp9 => ?_)
    obtain ⟨rfl, rfl⟩ := hp9
    refine Z_aload_n 46 2 dX4_goSign_45 rfl rfl ?_
    refine Z_iload 48 0 dX4_goSign_46 rfl rfl ?_
    refine Z_iconst 49 (nI 2) dX4_goSign_48 rfl rfl ?_
    refine Z_iload_n 50 5 dX4_goSign_49 rfl rfl ?_
    refine Z_callV 53 [_, _, _] 4 (zX4_laysTreaty n 2 hn14 (by decide) _) dX4_goSign_50 rfl qX4_100 kX4_laysTreaty rfl rfl (Nat.le_of_ble_eq_true rfl) rfl rfl ⟨(Nat.le_of_ble_eq_true rfl), (Nat.le_of_ble_eq_true rfl)⟩ (Nat.le_of_ble_eq_true rfl) ⟨rfl, rfl⟩ ⟨(Nat.le_of_ble_eq_true rfl), (Nat.le_of_ble_eq_true rfl)⟩ (fun r9 w9 hp9 => ?_)
    obtain ⟨rfl, rfl⟩ := hp9
    refine Z_aload_n 54 2 dX4_goSign_53 rfl rfl ?_
    refine Z_iload 56 0 dX4_goSign_54 rfl rfl ?_
    refine Z_iconst 57 (nI 3) dX4_goSign_56 rfl rfl ?_
    refine Z_iconst 58 (nI 0) dX4_goSign_57 rfl rfl ?_
    refine Z_callV 61 [_, _, _] 4 (zX4_laysTreaty n 3 hn14 (by decide) _) dX4_goSign_58 rfl qX4_100 kX4_laysTreaty rfl rfl (Nat.le_of_ble_eq_true rfl) rfl rfl ⟨(Nat.le_of_ble_eq_true rfl), (Nat.le_of_ble_eq_true rfl)⟩ (Nat.le_of_ble_eq_true rfl) ⟨rfl, rfl⟩ ⟨(Nat.le_of_ble_eq_true rfl), (Nat.le_of_ble_eq_true rfl)⟩ (fun r9 w9 hp9 => ?_)
    obtain ⟨rfl, rfl⟩ := hp9
    refine Z_aload_n 62 2 dX4_goSign_61 rfl rfl ?_
    refine Z_getR 65 dX4_goSign_62 rfl fX4_7 (Nat.le_of_ble_eq_true rfl) rfl rfl ?_
    refine Z_iconst 66 (nI 2) dX4_goSign_65 rfl rfl ?_
    refine Z_dup2 67 dX4_goSign_66 rfl rfl rfl ?_
    refine Z_ialn 68 dX4_goSign_67 rfl (Nat.le_of_ble_eq_true rfl) rfl (by first | assumption | omega) (by decide) ?_
    refine Z_top (v' := .int (nI n)) (congrArg Value.int (by rw [up2_ne _ _ (by omega), up2_ne _ _ (by omega), up2_ne _ _ (by omega), up2_ne _ _ (by omega)]; exact (congrFun hFm.r 2).trans g9.1.1)) ?_
    refine Z_iconst 69 (nI 1) dX4_goSign_68 rfl rfl ?_
    refine Z_iadd 70 dX4_goSign_69 rfl ?_
    refine Z_top (v' := .int (nI (n + 1))) (congrArg Value.int (nI_1 n)) ?_
    refine Z_iasn 71 dX4_goSign_70 rfl (Nat.le_of_ble_eq_true rfl) rfl (by first | assumption | omega) (by decide) ?_
    refine Z_aload_n 72 2 dX4_goSign_71 rfl rfl ?_
    refine Z_getR 75 dX4_goSign_72 rfl fX4_7 (Nat.le_of_ble_eq_true rfl) rfl rfl ?_
    refine Z_iconst 76 (nI 3) dX4_goSign_75 rfl rfl ?_
    refine Z_dup2 77 dX4_goSign_76 rfl rfl rfl ?_
    refine Z_ialn 78 dX4_goSign_77 rfl (Nat.le_of_ble_eq_true rfl) rfl (by first | assumption | omega) (by decide) ?_
    refine Z_top (v' := .int (m2 75 3)) (congrArg Value.int (by rw [up2_ne _ _ (by decide), up2_ne _ _ (by omega), up2_ne _ _ (by omega), up2_ne _ _ (by omega), up2_ne _ _ (by omega)])) ?_
    refine Z_iconst 79 (nI 1) dX4_goSign_78 rfl rfl ?_
    refine Z_iadd 80 dX4_goSign_79 rfl ?_
    refine Z_iasn 81 dX4_goSign_80 rfl (Nat.le_of_ble_eq_true rfl) rfl (by first | assumption | omega) (by decide) ?_
    refine Z_bipush 83 (nI 10) dX4_goSign_81 rfl rfl ?_
    refine Z_iload 85 0 dX4_goSign_83 rfl rfl ?_
    refine Z_iadd 86 dX4_goSign_85 rfl ?_
    refine Z_top (v' := .int (nI (10 + n))) (congrArg Value.int (nI_add _ _)) ?_
    exact Z_iret dX4_goSign_86 rfl ⟨m2, y, rr, hFm, hT, hY, hR, Or.inl ⟨hR.le c11, rfl, rfl⟩⟩
  · skip
    refine Z_aload_n 15 1 dX4_goSign_14 rfl rfl ?_
    refine Z_iload 17 0 dX4_goSign_15 rfl rfl ?_
    refine Z_callV 20 [_] 4 (zX4_refuses _) dX4_goSign_17 rfl qX4_97 kX4_refuses rfl rfl (Nat.le_of_ble_eq_true rfl) rfl rfl ⟨(Nat.le_of_ble_eq_true rfl), (Nat.le_of_ble_eq_true rfl)⟩ (Nat.le_of_ble_eq_true rfl) ⟨rfl, rfl⟩ ⟨(Nat.le_of_ble_eq_true rfl), (Nat.le_of_ble_eq_true rfl)⟩ (fun r9 w9 hp9 => ?_)
    obtain ⟨rfl, rfl⟩ := hp9
    exact Z_iret dX4_goSign_20 rfl ⟨m2, y, rr, hFm, hT, hY, hR, Or.inr ⟨fun z => c11 (by rw [z]; decide), rfl, rfl⟩⟩

set_option maxRecDepth 100000 in
set_option maxHeartbeats 4000000 in
theorem zX4_saysNothing {G : zG} {l : Launch} {h : Nat → Nat} {m : zM} (n : Nat) (g9 : gOk (vR (m 75)) n) (t : Nat) (ht : t < n) : zMet G l yX4_saysNothing mX4_saysNothing [.ref (G.1 + 74), .int (nI t)] (zw h m) (fun r w => ∃ m' y, w = zw h m' ∧ Fm m m' ∧ Top (Yb (sF (vR (m 75)) 1 t)) (eB (vR (m 75)) (fun t9 => decide (¬ nI t9 = nI t ∧ sForce (vR (m 75)) 1 t9))) n y ∧ Fin8 y ∧ r = some (.int (bI (y (sO (vR (m 75)) 1 t) ≤ ((vR (m 75)) 8 t).toInt)))) 0 0 := by
  refine zMet_of [(0, .ref (G.1 + 74)), (1, .int (nI t))] (by decide +kernel) rfl (Or.inl rfl) (Nat.le_of_ble_eq_true rfl) rfl ?_
  have hn := g9.1.2.1
  have hfo := g9.1.2.2 t ht
  obtain ⟨f9, hp⟩ := g9.potB (fun t9 => decide (¬ nI t9 = nI t ∧ sForce (vR (m 75)) 1 t9))
  refine Z_aload_n 1 0 dX4_saysNothing_0 rfl rfl ?_
  refine Z_aload_n 2 0 dX4_saysNothing_1 rfl rfl ?_
  refine Z_iload_n 3 1 dX4_saysNothing_2 rfl rfl ?_
  refine Z_iconst 4 (nI 0) dX4_saysNothing_3 rfl rfl ?_
  refine Z_callV 7 [_, _] 4 (zX4_ofTreaty (m := m) t 0 (by omega) (by decide)) dX4_saysNothing_4 rfl qX4_54 kX4_ofTreaty rfl rfl (Nat.le_of_ble_eq_true rfl) rfl rfl ⟨(Nat.le_of_ble_eq_true rfl), (Nat.le_of_ble_eq_true rfl)⟩ (Nat.le_of_ble_eq_true rfl) ⟨rfl, rfl⟩ ⟨(Nat.le_of_ble_eq_true rfl), (Nat.le_of_ble_eq_true rfl)⟩ (fun r9 w9 hp9 => ?_)
  obtain ⟨rfl, rfl⟩ := hp9
  refine Z_top (v' := .int (nI (sF (vR (m 75)) 1 t))) (congrArg Value.int (hfo.1.1)) ?_
  refine Z_aload_n 8 0 dX4_saysNothing_7 rfl rfl ?_
  refine Z_iload_n 9 1 dX4_saysNothing_8 rfl rfl ?_
  refine Z_iconst 10 (nI 1) dX4_saysNothing_9 rfl rfl ?_
  refine Z_callV 13 [_, _] 4 (zX4_ofTreaty (m := m) t 1 (by omega) (by decide)) dX4_saysNothing_10 rfl qX4_54 kX4_ofTreaty rfl rfl (Nat.le_of_ble_eq_true rfl) rfl rfl ⟨(Nat.le_of_ble_eq_true rfl), (Nat.le_of_ble_eq_true rfl)⟩ (Nat.le_of_ble_eq_true rfl) ⟨rfl, rfl⟩ ⟨(Nat.le_of_ble_eq_true rfl), (Nat.le_of_ble_eq_true rfl)⟩ (fun r9 w9 hp9 => ?_)
  obtain ⟨rfl, rfl⟩ := hp9
  refine Z_top (v' := .int (nI (sO (vR (m 75)) 1 t))) (congrArg Value.int (hfo.2.1)) ?_
  refine Z_iload_n 14 1 dX4_saysNothing_13 rfl rfl ?_
  refine Z_callV 17 [_, _, _] 4 (zX4_boundBut n g9.1 g9.2.1 (sF (vR (m 75)) 1 t) (sO (vR (m 75)) 1 t) hfo.1.2 hfo.2.2 (nI t) f9 hp) dX4_saysNothing_14 rfl qX4_83 kX4_boundBut rfl rfl (Nat.le_of_ble_eq_true rfl) rfl rfl ⟨(Nat.le_of_ble_eq_true rfl), (Nat.le_of_ble_eq_true rfl)⟩ (Nat.le_of_ble_eq_true rfl) ⟨rfl, rfl⟩ ⟨(Nat.le_of_ble_eq_true rfl), (Nat.le_of_ble_eq_true rfl)⟩ (fun r9 w9 hp9 => ?_)
  obtain ⟨m2, y2, v2, rfl, hF2, hT2, hY2, hr9, hv2⟩ := hp9
  cases hr9
  refine Z_aload_n 18 0 dX4_saysNothing_17 rfl rfl ?_
  refine Z_iload_n 19 1 dX4_saysNothing_18 rfl rfl ?_
  refine Z_iconst 20 (nI 2) dX4_saysNothing_19 rfl rfl ?_
  refine Z_callV 23 [_, _] 4 (zX4_ofTreaty (m := m2) t 2 (by omega) (by decide)) dX4_saysNothing_20 rfl qX4_54 kX4_ofTreaty rfl rfl (Nat.le_of_ble_eq_true rfl) rfl rfl ⟨(Nat.le_of_ble_eq_true rfl), (Nat.le_of_ble_eq_true rfl)⟩ (Nat.le_of_ble_eq_true rfl) ⟨rfl, rfl⟩ ⟨(Nat.le_of_ble_eq_true rfl), (Nat.le_of_ble_eq_true rfl)⟩ (fun r9 w9 hp9 => ?_)
  obtain ⟨rfl, rfl⟩ := hp9
  refine Z_top (v' := .int ((vR (m 75)) 8 t)) (congrArg Value.int (congrFun (hF2 75 (by decide)) _)) ?_
  refine Z_icmp_gt 26 30 dX4_saysNothing_23 rfl rfl (fun c23 => ?_) (fun c23 => ?_)
  · skip
    refine Z_iconst 31 (nI 0) dX4_saysNothing_30 rfl rfl ?_
    exact Z_zret dX4_saysNothing_31 rfl (by first | exact Or.inl rfl | exact Or.inr rfl | exact bI_01) (by first | exact ⟨m2, y2, rfl, hF2.m1, hT2, hY2, bRt (by rw [i32_lt] at c23; omega)⟩ | exact ⟨m2, y2, rfl, hF2.m1, hT2, hY2, bRf (by rw [i32_lt] at c23; omega)⟩)
  · skip
    refine Z_iconst 27 (nI 1) dX4_saysNothing_26 rfl rfl ?_
    refine Z_goto 31 dX4_saysNothing_27 rfl ?_
    exact Z_zret dX4_saysNothing_31 rfl (by first | exact Or.inl rfl | exact Or.inr rfl | exact bI_01) (by first | exact ⟨m2, y2, rfl, hF2.m1, hT2, hY2, bRt (by rw [i32_lt] at c23; omega)⟩ | exact ⟨m2, y2, rfl, hF2.m1, hT2, hY2, bRf (by rw [i32_lt] at c23; omega)⟩)

set_option maxRecDepth 100000 in
set_option maxHeartbeats 4000000 in
theorem zX4_boundOf {G : zG} {l : Launch} {h : Nat → Nat} {m : zM} (n : Nat) (g9 : gOk (vR (m 75)) n) (f o : Nat) (hf : f < 8) (ho : o < 8) : zMet G l yX4_boundOf mX4_boundOf [.ref (G.1 + 74), .int (nI f), .int (nI o)] (zw h m) (fun r w => ∃ m' y v, w = zw h m' ∧ Fm m m' ∧ Top (Yb f) (eB (vR (m 75)) (pFo (vR (m 75)))) n y ∧ Fin8 y ∧ r = some (.int v) ∧ ((y o = zK9 ∧ v = -4) ∨ (¬ y o = zK9 ∧ v.toInt = y o + 1000))) 0 0 := by
  refine zMet_of [(0, .ref (G.1 + 74)), (1, .int (nI f)), (2, .int (nI o))] (by decide +kernel) rfl (Or.inl rfl) (Nat.le_of_ble_eq_true rfl) rfl ?_
  have hn := g9.1.2.1
  obtain ⟨f9, hp⟩ := g9.potB (fun t => decide (¬ nI t = -4 ∧ sForce (vR (m 75)) 1 t))
  have z9 : zK9 = 100000 := rfl
  refine Z_aload_n 1 0 dX4_boundOf_0 rfl rfl ?_
  refine Z_iload_n 2 1 dX4_boundOf_1 rfl rfl ?_
  refine Z_iload_n 3 2 dX4_boundOf_2 rfl rfl ?_
  refine Z_bipush 5 (-4) dX4_boundOf_3 rfl rfl ?_
  refine Z_callV 8 [_, _, _] 4 (zX4_boundBut n g9.1 g9.2.1 f o hf ho (-4) f9 hp) dX4_boundOf_5 rfl qX4_83 kX4_boundBut rfl rfl (Nat.le_of_ble_eq_true rfl) rfl rfl ⟨(Nat.le_of_ble_eq_true rfl), (Nat.le_of_ble_eq_true rfl)⟩ (Nat.le_of_ble_eq_true rfl) ⟨rfl, rfl⟩ ⟨(Nat.le_of_ble_eq_true rfl), (Nat.le_of_ble_eq_true rfl)⟩ (fun r9 w9 hp9 => ?_)
  obtain ⟨m3, y, v, rfl, hF3, hT3, hY3, hr9, hv⟩ := hp9
  cases hr9
  have hT4 := hT3.congr (eBm4 hn)
  refine Z_istore_n 9 [(3, _), (0, _), (1, _), (2, _)] dX4_boundOf_8 rfl (Nat.le_of_ble_eq_true rfl) rfl ?_
  refine Z_iload_n 10 0 dX4_boundOf_9 rfl rfl ?_
  refine Z_ldc 12 100000 dX4_boundOf_10 rfl kX4_79 ?_
  refine Z_icmp_ne 15 20 dX4_boundOf_12 rfl rfl (fun c12 => ?_) (fun c12 => ?_)
  · skip
    refine Z_sipush 23 (nI 1000) dX4_boundOf_20 rfl rfl ?_
    refine Z_iload_n 24 0 dX4_boundOf_23 rfl rfl ?_
    refine Z_iadd 25 dX4_boundOf_24 rfl ?_
    exact Z_iret dX4_boundOf_25 rfl (by first | exact ⟨m3, y, _, rfl, hF3.m1, hT4, hY3, rfl, Or.inl ⟨by have c := i32_eq.mp (Decidable.not_not.mp c12); rw [mFAR] at c; omega, rfl⟩⟩ | exact ⟨m3, y, _, rfl, hF3.m1, hT4, hY3, rfl, Or.inr ⟨fun z => c12 (i32_eq.mpr (by rw [mFAR]; omega)), by have h1 : (nI 1000).toInt = 1000 := rfl; have h2 := hY3 o ho; have h3 : ¬ y o = zK9 := fun z => c12 (i32_eq.mpr (by rw [mFAR]; omega)); rw [i32_add (by omega) (by omega)]; omega⟩⟩)
  · skip
    refine Z_bipush 17 (-4) dX4_boundOf_15 rfl rfl ?_
    refine Z_goto 25 dX4_boundOf_17 rfl ?_
    exact Z_iret dX4_boundOf_25 rfl (by first | exact ⟨m3, y, _, rfl, hF3.m1, hT4, hY3, rfl, Or.inl ⟨by have c := i32_eq.mp (Decidable.not_not.mp c12); rw [mFAR] at c; omega, rfl⟩⟩ | exact ⟨m3, y, _, rfl, hF3.m1, hT4, hY3, rfl, Or.inr ⟨fun z => c12 (i32_eq.mpr (by rw [mFAR]; omega)), by have h1 : (nI 1000).toInt = 1000 := rfl; have h2 := hY3 o ho; have h3 : ¬ y o = zK9 := fun z => c12 (i32_eq.mpr (by rw [mFAR]; omega)); rw [i32_add (by omega) (by omega)]; omega⟩⟩)

set_option maxRecDepth 100000 in
set_option maxHeartbeats 4000000 in
theorem lX4_cn {G : zG} {l : Launch} {h : Nat → Nat} {m : zM} (PP : Option Value → zW → Prop) (m2 : zM) (y : Nat → Int) (hF2 : Fr 80 m m2) (hL2 : Lv m2 80 y 20000) (hPP : PP (some (.int (sumI (fun q => (vR (m 75)) 2 q - Int32.ofInt (y q)) 8))) (zw h m2)) : ∀ (t i : Nat), i + t = 8 → Z G mX4_clippingNow (fun _ => True) (zN G (PP) 0 0) l 0 0 (zw h m2) 14 [(2, .int (nI i)), (1, .int (sumI (fun q => (vR (m 75)) 2 q - Int32.ofInt (y q)) i)), (0, .ref (G.1 + 74))] [] := by
  intro t
  induction t with
  | zero =>
    intro i hi
    have e9 : i = 8 := by omega
    subst e9
    refine Z_iload_n 15 0 dX4_clippingNow_14 rfl rfl ?_
    refine Z_bipush 17 (nI 8) dX4_clippingNow_15 rfl rfl ?_
    refine Z_icmp_ge 20 42 dX4_clippingNow_17 rfl rfl (fun c17 => ?_) (fun c17 => absurd (nI_le (Nat.le_refl _) (by omega)) c17)
    refine Z_iload_n 43 1 dX4_clippingNow_42 rfl rfl ?_
    exact Z_iret dX4_clippingNow_43 rfl hPP
  | succ t ih =>
    intro i hi
    have hlt : i < 8 := by omega
    refine Z_iload_n 15 0 dX4_clippingNow_14 rfl rfl ?_
    refine Z_bipush 17 (nI 8) dX4_clippingNow_15 rfl rfl ?_
    refine Z_icmp_ge 20 42 dX4_clippingNow_17 rfl rfl (fun c17 => absurd c17 (nI_ge hlt (by omega))) (fun c17 => ?_)
    refine Z_iload_n 21 1 dX4_clippingNow_20 rfl rfl ?_
    refine Z_aload_n 22 2 dX4_clippingNow_21 rfl rfl ?_
    refine Z_iload_n 23 0 dX4_clippingNow_22 rfl rfl ?_
    refine Z_iconst 24 (nI 0) dX4_clippingNow_23 rfl rfl ?_
    refine Z_callV 27 [_, _] 4 (zX4_of (m := m2) i 0 hlt (by decide)) dX4_clippingNow_24 rfl qX4_50 kX4_of rfl rfl (Nat.le_of_ble_eq_true rfl) rfl rfl ⟨(Nat.le_of_ble_eq_true rfl), (Nat.le_of_ble_eq_true rfl)⟩ (Nat.le_of_ble_eq_true rfl) ⟨rfl, rfl⟩ ⟨(Nat.le_of_ble_eq_true rfl), (Nat.le_of_ble_eq_true rfl)⟩ (fun r9 w9 hp9 => ?_)
    obtain ⟨rfl, rfl⟩ := hp9
    refine Z_top (v' := .int ((vR (m 75)) 2 i)) (congrArg Value.int (congrFun (hF2 75 (by decide)) _)) ?_
    refine Z_aload_n 28 2 dX4_clippingNow_27 rfl rfl ?_
    refine Z_getR 31 dX4_clippingNow_28 rfl fX4_25 (Nat.le_of_ble_eq_true rfl) rfl rfl ?_
    refine Z_iload_n 32 0 dX4_clippingNow_31 rfl rfl ?_
    refine Z_ialn 33 dX4_clippingNow_32 rfl (Nat.le_of_ble_eq_true rfl) rfl hlt (by decide) ?_
    refine Z_top (v' := .int (Int32.ofInt (y i))) (congrArg Value.int (ofI (hL2 i hlt).1)) ?_
    refine Z_isub 34 dX4_clippingNow_33 rfl ?_
    refine Z_iadd 35 dX4_clippingNow_34 rfl ?_
    refine Z_istore_n 36 [(1, _), (2, _), (0, _)] dX4_clippingNow_35 rfl (Nat.le_of_ble_eq_true rfl) rfl ?_
    refine Z_iinc 39 [(2, _), (1, _), (0, _)] 1 _ dX4_clippingNow_36 rfl (Nat.le_of_ble_eq_true rfl) rfl (nI_1 _) rfl ?_
    refine Z_goto 14 dX4_clippingNow_39 rfl ?_
    exact ih (i + 1) (by omega)

set_option maxRecDepth 100000 in
set_option maxHeartbeats 4000000 in
theorem zX4_clippingNow {G : zG} {l : Launch} {h : Nat → Nat} {m : zM} (n : Nat) (g9 : gOk (vR (m 75)) n) : zMet G l yX4_clippingNow mX4_clippingNow [.ref (G.1 + 74)] (zw h m) (fun r w => ∃ m', w = zw h m' ∧ Fm m m' ∧ ((∃ y, Top (HgtY ((vR (m 75)) 2)) (eL (vR (m 75)) (pFo (vR (m 75)))) n y ∧ (∀ q, q < 8 → 0 ≤ y q) ∧ r = some (.int (sumI (fun q => (vR (m 75)) 2 q - Int32.ofInt (y q)) 8))) ∨ ((∀ y9, Top (HgtY ((vR (m 75)) 2)) (eL (vR (m 75)) (pFo (vR (m 75)))) n y9 → ∃ q, q < 8 ∧ y9 q < 0) ∧ r = some (.int (-4))))) 0 0 := by
  refine zMet_of [(0, .ref (G.1 + 74))] (by decide +kernel) rfl (Or.inl rfl) (Nat.le_of_ble_eq_true rfl) rfl ?_
  refine Z_aload_n 1 0 dX4_clippingNow_0 rfl rfl ?_
  refine Z_callV 4 [] 4 (zX4_hasLeast n g9) dX4_clippingNow_1 rfl qX4_103 kX4_hasLeast rfl rfl (Nat.le_of_ble_eq_true rfl) rfl rfl ⟨(Nat.le_of_ble_eq_true rfl), (Nat.le_of_ble_eq_true rfl)⟩ (Nat.le_of_ble_eq_true rfl) ⟨rfl, rfl⟩ ⟨(Nat.le_of_ble_eq_true rfl), (Nat.le_of_ble_eq_true rfl)⟩ (fun r9 w9 hp9 => ?_)
  obtain ⟨m2, y, rfl, hF2, hL2, hr9⟩ := hp9
  rcases hr9 with ⟨hr8, hpos, hT⟩ | ⟨hr8, hneg⟩
  · cases hr8
    refine Z_if_ne 7 10 dX4_clippingNow_4 rfl rfl (fun c4 => ?_) (fun c4 => absurd (by decide) c4)
    refine Z_iconst 11 (nI 0) dX4_clippingNow_10 rfl rfl ?_
    refine Z_istore_n 12 [(1, _), (0, _)] dX4_clippingNow_11 rfl (Nat.le_of_ble_eq_true rfl) rfl ?_
    refine Z_iconst 13 (nI 0) dX4_clippingNow_12 rfl rfl ?_
    refine Z_istore_n 14 [(2, _), (1, _), (0, _)] dX4_clippingNow_13 rfl (Nat.le_of_ble_eq_true rfl) rfl ?_
    exact lX4_cn _ m2 y hF2 hL2 ⟨m2, rfl, hF2.m0, Or.inl ⟨y, hT, hpos, rfl⟩⟩ 8 0 (by omega)
  · cases hr8
    refine Z_if_ne 7 10 dX4_clippingNow_4 rfl rfl (fun c4 => absurd c4 (fun q => q rfl)) (fun c4 => ?_)
    refine Z_bipush 9 (-4) dX4_clippingNow_7 rfl rfl ?_
    exact Z_iret dX4_clippingNow_9 rfl ⟨m2, rfl, hF2.m0, Or.inr ⟨hneg, rfl⟩⟩
