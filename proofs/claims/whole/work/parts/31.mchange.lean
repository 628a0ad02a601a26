/-! the model: the changes -/
theorem rec_75 (m : zM) (s : Nat) : recM m s 75 = m 75 := by
  unfold recM
  split
  · rw [up2_na _ _ _ (by decide), cpR_na _ (by decide)]
  · rw [up2_na _ _ _ (by decide), cpR_na _ (by decide), up2_na _ _ _ (by decide)]
    funext k
    unfold shf
    rw [if_neg (fun z => absurd z.1 (by decide))]
theorem recm_q (m : zM) (s : Nat) {q : Nat} (h1 : q ≠ 74) (h2 : q ≠ 77) : recM m s q = m q := by
  unfold recM
  split
  · rw [up2_na _ _ _ h1, cpR_na _ h2]
  · rw [up2_na _ _ _ h1, cpR_na _ h2, up2_na _ _ _ h1]
    funext k
    unfold shf
    rw [if_neg (fun z => h2 z.1)]
theorem rec_74 (m : zM) (s : Nat) {k : Nat} (h : k ≠ 3) : recM m s 74 k = m 74 k := by
  unfold recM
  split
  · rw [up2_ne _ _ (fun z => h z.2), cpR_na _ (by decide)]
  · rw [up2_ne _ _ (fun z => h z.2), cpR_na _ (by decide), up2_ne _ _ (fun z => h z.2)]
    unfold shf
    rw [if_neg (fun z => absurd z.1 (by decide))]
theorem sOk_row {r : Nat → Int32} {m : zM} {n : Nat} (e : m 75 = r) (h : sOk (vR r) 1 n) : sOk (vR (m 75)) 1 n := by rw [e]; exact h
set_option maxRecDepth 100000 in
set_option maxHeartbeats 4000000 in
theorem eX4_height {G : zG} {l : Launch} {h : Nat → Nat} {m : zM} (x y : Int32) (hne : ¬ (hdg x ∧ ¬ y < 0 ∧ ¬ nI 99 < y)) : zMet G l yX4_height mX4_height [.ref (G.1 + 74), .int x, .int y] (zw h m) (fun r w => r = some (.int (-1)) ∧ w = zw h m) 0 0 := by
  refine zMet_of [(0, .ref (G.1 + 74)), (1, .int x), (2, .int y)] (by decide +kernel) rfl (Or.inl rfl) (Nat.le_of_ble_eq_true rfl) rfl ?_
  refine Z_iload_n 1 1 dX4_height_0 rfl rfl ?_
  refine Z_callS 4 [_] (zX4_isHedge _) dX4_height_1 rfl qX4_87 kX4_isHedge rfl rfl ⟨(Nat.le_of_ble_eq_true rfl), (Nat.le_of_ble_eq_true rfl)⟩ (Nat.le_of_ble_eq_true rfl) ⟨rfl, rfl⟩ ⟨(Nat.le_of_ble_eq_true rfl), (Nat.le_of_ble_eq_true rfl)⟩ (fun r9 w9 hp9 => ?_)
  obtain ⟨rfl, rfl⟩ := hp9
  refine Z_if_eq 7 17 dX4_height_4 rfl rfl (fun c4 => ?_) (fun c4 => ?_)
  · skip
    refine Z_iconst 18 (-1) dX4_height_17 rfl rfl ?_
    exact Z_iret dX4_height_18 rfl ⟨rfl, rfl⟩
  · skip
    refine Z_iload_n 8 2 dX4_height_7 rfl rfl ?_
    refine Z_iconst 9 (nI 0) dX4_height_8 rfl rfl ?_
    refine Z_bipush 11 (nI 99) dX4_height_9 rfl rfl ?_
    refine Z_callS 14 [_, _, _] (zX4_in _ _ _) dX4_height_11 rfl qX4_46 kX4_in rfl rfl ⟨(Nat.le_of_ble_eq_true rfl), (Nat.le_of_ble_eq_true rfl)⟩ (Nat.le_of_ble_eq_true rfl) ⟨rfl, rfl⟩ ⟨(Nat.le_of_ble_eq_true rfl), (Nat.le_of_ble_eq_true rfl)⟩ (fun r9 w9 hp9 => ?_)
    obtain ⟨rfl, rfl⟩ := hp9
    refine Z_if_ne 17 19 dX4_height_14 rfl rfl (fun c14 => absurd c14 (fun q => hne ⟨bI_1 c4, bI_1 q⟩)) (fun c14 => ?_)
    refine Z_iconst 18 (-1) dX4_height_17 rfl rfl ?_
    exact Z_iret dX4_height_18 rfl ⟨rfl, rfl⟩

set_option maxRecDepth 100000 in
set_option maxHeartbeats 4000000 in
theorem zX4_height {G : zG} {l : Launch} {h : Nat → Nat} {m : zM} (s : Nat) (hs : s ≤ 4) (hst : m 74 3 = nI s) (i : Nat) (hi : i < 8) (y : Int32) (hy0 : ¬ y < 0) (hy1 : ¬ nI 99 < y) : zMet G l yX4_height mX4_height [.ref (G.1 + 74), .int (nI i), .int y] (zw h m) (fun r w => r = some (.int (m 75 (7 + 4 * i + 0))) ∧ w = zw h (up2 (recM m s) 75 (7 + 4 * i + 0) (y))) 0 0 := by
  refine zMet_of [(0, .ref (G.1 + 74)), (1, .int (nI i)), (2, .int y)] (by decide +kernel) rfl (Or.inl rfl) (Nat.le_of_ble_eq_true rfl) rfl ?_
  refine Z_iload_n 1 1 dX4_height_0 rfl rfl ?_
  refine Z_callS 4 [_] (zX4_isHedge _) dX4_height_1 rfl qX4_87 kX4_isHedge rfl rfl ⟨(Nat.le_of_ble_eq_true rfl), (Nat.le_of_ble_eq_true rfl)⟩ (Nat.le_of_ble_eq_true rfl) ⟨rfl, rfl⟩ ⟨(Nat.le_of_ble_eq_true rfl), (Nat.le_of_ble_eq_true rfl)⟩ (fun r9 w9 hp9 => ?_)
  obtain ⟨rfl, rfl⟩ := hp9
  refine Z_if_eq 7 17 dX4_height_4 rfl rfl (fun c4 => absurd c4 (bI_ne (hdgN hi))) (fun c4 => ?_)
  refine Z_iload_n 8 2 dX4_height_7 rfl rfl ?_
  refine Z_iconst 9 (nI 0) dX4_height_8 rfl rfl ?_
  refine Z_bipush 11 (nI 99) dX4_height_9 rfl rfl ?_
  refine Z_callS 14 [_, _, _] (zX4_in _ _ _) dX4_height_11 rfl qX4_46 kX4_in rfl rfl ⟨(Nat.le_of_ble_eq_true rfl), (Nat.le_of_ble_eq_true rfl)⟩ (Nat.le_of_ble_eq_true rfl) ⟨rfl, rfl⟩ ⟨(Nat.le_of_ble_eq_true rfl), (Nat.le_of_ble_eq_true rfl)⟩ (fun r9 w9 hp9 => ?_)
  obtain ⟨rfl, rfl⟩ := hp9
  refine Z_if_ne 17 19 dX4_height_14 rfl rfl (fun c14 => ?_) (fun c14 => absurd (bI_ne ⟨hy0, hy1⟩) c14)
  refine Z_aload_n 20 0 dX4_height_19 rfl rfl ?_
  refine Z_callV 23 [] 4 (zX4_records s hs hst) dX4_height_20 rfl qX4_113 kX4_records rfl rfl (Nat.le_of_ble_eq_true rfl) rfl rfl ⟨(Nat.le_of_ble_eq_true rfl), (Nat.le_of_ble_eq_true rfl)⟩ (Nat.le_of_ble_eq_true rfl) ⟨rfl, rfl⟩ ⟨(Nat.le_of_ble_eq_true rfl), (Nat.le_of_ble_eq_true rfl)⟩ (fun r9 w9 hp9 => ?_)
  obtain ⟨rfl, rfl⟩ := hp9
  refine Z_aload_n 24 0 dX4_height_23 rfl rfl ?_
  refine Z_iload_n 25 1 dX4_height_24 rfl rfl ?_
  refine Z_iconst 26 (nI 0) dX4_height_25 rfl rfl ?_
  refine Z_callV 29 [_, _] 4 (zX4_of (m := (recM m s)) i 0 hi (by decide)) dX4_height_26 rfl qX4_50 kX4_of rfl rfl (Nat.le_of_ble_eq_true rfl) rfl rfl ⟨(Nat.le_of_ble_eq_true rfl), (Nat.le_of_ble_eq_true rfl)⟩ (Nat.le_of_ble_eq_true rfl) ⟨rfl, rfl⟩ ⟨(Nat.le_of_ble_eq_true rfl), (Nat.le_of_ble_eq_true rfl)⟩ (fun r9 w9 hp9 => ?_)
  obtain ⟨rfl, rfl⟩ := hp9
  refine Z_top (v' := .int (m 75 (7 + 4 * i + 0))) (congrArg Value.int (congrFun (rec_75 m s) _)) ?_
  refine Z_istore_n 30 [(3, _), (0, _), (1, _), (2, _)] dX4_height_29 rfl (Nat.le_of_ble_eq_true rfl) rfl ?_
  refine Z_aload_n 31 1 dX4_height_30 rfl rfl ?_
  refine Z_iload_n 32 2 dX4_height_31 rfl rfl ?_
  refine Z_iconst 33 (nI 0) dX4_height_32 rfl rfl ?_
  refine Z_iload_n 34 3 dX4_height_33 rfl rfl ?_
  refine Z_callV 37 [_, _, _] 4 (zX4_lays (m := (recM m s)) i 0 hi (by decide) _) dX4_height_34 rfl qX4_34 kX4_lays rfl rfl (Nat.le_of_ble_eq_true rfl) rfl rfl ⟨(Nat.le_of_ble_eq_true rfl), (Nat.le_of_ble_eq_true rfl)⟩ (Nat.le_of_ble_eq_true rfl) ⟨rfl, rfl⟩ ⟨(Nat.le_of_ble_eq_true rfl), (Nat.le_of_ble_eq_true rfl)⟩ (fun r9 w9 hp9 => ?_)
  obtain ⟨rfl, rfl⟩ := hp9
  refine Z_iload_n 38 0 dX4_height_37 rfl rfl ?_
  exact Z_iret dX4_height_38 rfl ⟨rfl, rfl⟩

set_option maxRecDepth 100000 in
set_option maxHeartbeats 4000000 in
theorem eX4_growth {G : zG} {l : Launch} {h : Nat → Nat} {m : zM} (x y : Int32) (hne : ¬ (hdg x ∧ ¬ y < 0 ∧ ¬ nI 5 < y)) : zMet G l yX4_growth mX4_growth [.ref (G.1 + 74), .int x, .int y] (zw h m) (fun r w => r = some (.int (-1)) ∧ w = zw h m) 0 0 := by
  refine zMet_of [(0, .ref (G.1 + 74)), (1, .int x), (2, .int y)] (by decide +kernel) rfl (Or.inl rfl) (Nat.le_of_ble_eq_true rfl) rfl ?_
  refine Z_iload_n 1 1 dX4_growth_0 rfl rfl ?_
  refine Z_callS 4 [_] (zX4_isHedge _) dX4_growth_1 rfl qX4_87 kX4_isHedge rfl rfl ⟨(Nat.le_of_ble_eq_true rfl), (Nat.le_of_ble_eq_true rfl)⟩ (Nat.le_of_ble_eq_true rfl) ⟨rfl, rfl⟩ ⟨(Nat.le_of_ble_eq_true rfl), (Nat.le_of_ble_eq_true rfl)⟩ (fun r9 w9 hp9 => ?_)
  obtain ⟨rfl, rfl⟩ := hp9
  refine Z_if_eq 7 16 dX4_growth_4 rfl rfl (fun c4 => ?_) (fun c4 => ?_)
  · skip
    refine Z_iconst 17 (-1) dX4_growth_16 rfl rfl ?_
    exact Z_iret dX4_growth_17 rfl ⟨rfl, rfl⟩
  · skip
    refine Z_iload_n 8 2 dX4_growth_7 rfl rfl ?_
    refine Z_iconst 9 (nI 0) dX4_growth_8 rfl rfl ?_
    refine Z_iconst 10 (nI 5) dX4_growth_9 rfl rfl ?_
    refine Z_callS 13 [_, _, _] (zX4_in _ _ _) dX4_growth_10 rfl qX4_46 kX4_in rfl rfl ⟨(Nat.le_of_ble_eq_true rfl), (Nat.le_of_ble_eq_true rfl)⟩ (Nat.le_of_ble_eq_true rfl) ⟨rfl, rfl⟩ ⟨(Nat.le_of_ble_eq_true rfl), (Nat.le_of_ble_eq_true rfl)⟩ (fun r9 w9 hp9 => ?_)
    obtain ⟨rfl, rfl⟩ := hp9
    refine Z_if_ne 16 18 dX4_growth_13 rfl rfl (fun c13 => absurd c13 (fun q => hne ⟨bI_1 c4, bI_1 q⟩)) (fun c13 => ?_)
    refine Z_iconst 17 (-1) dX4_growth_16 rfl rfl ?_
    exact Z_iret dX4_growth_17 rfl ⟨rfl, rfl⟩

set_option maxRecDepth 100000 in
set_option maxHeartbeats 4000000 in
theorem zX4_growth {G : zG} {l : Launch} {h : Nat → Nat} {m : zM} (s : Nat) (hs : s ≤ 4) (hst : m 74 3 = nI s) (i : Nat) (hi : i < 8) (y : Int32) (hy0 : ¬ y < 0) (hy1 : ¬ nI 5 < y) : zMet G l yX4_growth mX4_growth [.ref (G.1 + 74), .int (nI i), .int y] (zw h m) (fun r w => r = some (.int (m 75 (7 + 4 * i + 1))) ∧ w = zw h (up2 (recM m s) 75 (7 + 4 * i + 1) (y))) 0 0 := by
  refine zMet_of [(0, .ref (G.1 + 74)), (1, .int (nI i)), (2, .int y)] (by decide +kernel) rfl (Or.inl rfl) (Nat.le_of_ble_eq_true rfl) rfl ?_
  refine Z_iload_n 1 1 dX4_growth_0 rfl rfl ?_
  refine Z_callS 4 [_] (zX4_isHedge _) dX4_growth_1 rfl qX4_87 kX4_isHedge rfl rfl ⟨(Nat.le_of_ble_eq_true rfl), (Nat.le_of_ble_eq_true rfl)⟩ (Nat.le_of_ble_eq_true rfl) ⟨rfl, rfl⟩ ⟨(Nat.le_of_ble_eq_true rfl), (Nat.le_of_ble_eq_true rfl)⟩ (fun r9 w9 hp9 => ?_)
  obtain ⟨rfl, rfl⟩ := hp9
  refine Z_if_eq 7 16 dX4_growth_4 rfl rfl (fun c4 => absurd c4 (bI_ne (hdgN hi))) (fun c4 => ?_)
  refine Z_iload_n 8 2 dX4_growth_7 rfl rfl ?_
  refine Z_iconst 9 (nI 0) dX4_growth_8 rfl rfl ?_
  refine Z_iconst 10 (nI 5) dX4_growth_9 rfl rfl ?_
  refine Z_callS 13 [_, _, _] (zX4_in _ _ _) dX4_growth_10 rfl qX4_46 kX4_in rfl rfl ⟨(Nat.le_of_ble_eq_true rfl), (Nat.le_of_ble_eq_true rfl)⟩ (Nat.le_of_ble_eq_true rfl) ⟨rfl, rfl⟩ ⟨(Nat.le_of_ble_eq_true rfl), (Nat.le_of_ble_eq_true rfl)⟩ (fun r9 w9 hp9 => ?_)
  obtain ⟨rfl, rfl⟩ := hp9
  refine Z_if_ne 16 18 dX4_growth_13 rfl rfl (fun c13 => ?_) (fun c13 => absurd (bI_ne ⟨hy0, hy1⟩) c13)
  refine Z_aload_n 19 0 dX4_growth_18 rfl rfl ?_
  refine Z_callV 22 [] 4 (zX4_records s hs hst) dX4_growth_19 rfl qX4_113 kX4_records rfl rfl (Nat.le_of_ble_eq_true rfl) rfl rfl ⟨(Nat.le_of_ble_eq_true rfl), (Nat.le_of_ble_eq_true rfl)⟩ (Nat.le_of_ble_eq_true rfl) ⟨rfl, rfl⟩ ⟨(Nat.le_of_ble_eq_true rfl), (Nat.le_of_ble_eq_true rfl)⟩ (fun r9 w9 hp9 => ?_)
  obtain ⟨rfl, rfl⟩ := hp9
  refine Z_aload_n 23 0 dX4_growth_22 rfl rfl ?_
  refine Z_iload_n 24 1 dX4_growth_23 rfl rfl ?_
  refine Z_iconst 25 (nI 1) dX4_growth_24 rfl rfl ?_
  refine Z_callV 28 [_, _] 4 (zX4_of (m := (recM m s)) i 1 hi (by decide)) dX4_growth_25 rfl qX4_50 kX4_of rfl rfl (Nat.le_of_ble_eq_true rfl) rfl rfl ⟨(Nat.le_of_ble_eq_true rfl), (Nat.le_of_ble_eq_true rfl)⟩ (Nat.le_of_ble_eq_true rfl) ⟨rfl, rfl⟩ ⟨(Nat.le_of_ble_eq_true rfl), (Nat.le_of_ble_eq_true rfl)⟩ (fun r9 w9 hp9 => ?_)
  obtain ⟨rfl, rfl⟩ := hp9
  refine Z_top (v' := .int (m 75 (7 + 4 * i + 1))) (congrArg Value.int (congrFun (rec_75 m s) _)) ?_
  refine Z_istore_n 29 [(3, _), (0, _), (1, _), (2, _)] dX4_growth_28 rfl (Nat.le_of_ble_eq_true rfl) rfl ?_
  refine Z_aload_n 30 1 dX4_growth_29 rfl rfl ?_
  refine Z_iload_n 31 2 dX4_growth_30 rfl rfl ?_
  refine Z_iconst 32 (nI 1) dX4_growth_31 rfl rfl ?_
  refine Z_iload_n 33 3 dX4_growth_32 rfl rfl ?_
  refine Z_callV 36 [_, _, _] 4 (zX4_lays (m := (recM m s)) i 1 hi (by decide) _) dX4_growth_33 rfl qX4_34 kX4_lays rfl rfl (Nat.le_of_ble_eq_true rfl) rfl rfl ⟨(Nat.le_of_ble_eq_true rfl), (Nat.le_of_ble_eq_true rfl)⟩ (Nat.le_of_ble_eq_true rfl) ⟨rfl, rfl⟩ ⟨(Nat.le_of_ble_eq_true rfl), (Nat.le_of_ble_eq_true rfl)⟩ (fun r9 w9 hp9 => ?_)
  obtain ⟨rfl, rfl⟩ := hp9
  refine Z_iload_n 37 0 dX4_growth_36 rfl rfl ?_
  exact Z_iret dX4_growth_37 rfl ⟨rfl, rfl⟩

set_option maxRecDepth 100000 in
set_option maxHeartbeats 4000000 in
theorem eX4_nest {G : zG} {l : Launch} {h : Nat → Nat} {m : zM} (x y : Int32) (hne : ¬ (hdg x ∧ ¬ y < 0 ∧ ¬ nI 30 < y)) : zMet G l yX4_nest mX4_nest [.ref (G.1 + 74), .int x, .int y] (zw h m) (fun r w => r = some (.int (-1)) ∧ w = zw h m) 0 0 := by
  refine zMet_of [(0, .ref (G.1 + 74)), (1, .int x), (2, .int y)] (by decide +kernel) rfl (Or.inl rfl) (Nat.le_of_ble_eq_true rfl) rfl ?_
  refine Z_iload_n 1 1 dX4_nest_0 rfl rfl ?_
  refine Z_callS 4 [_] (zX4_isHedge _) dX4_nest_1 rfl qX4_87 kX4_isHedge rfl rfl ⟨(Nat.le_of_ble_eq_true rfl), (Nat.le_of_ble_eq_true rfl)⟩ (Nat.le_of_ble_eq_true rfl) ⟨rfl, rfl⟩ ⟨(Nat.le_of_ble_eq_true rfl), (Nat.le_of_ble_eq_true rfl)⟩ (fun r9 w9 hp9 => ?_)
  obtain ⟨rfl, rfl⟩ := hp9
  refine Z_if_eq 7 17 dX4_nest_4 rfl rfl (fun c4 => ?_) (fun c4 => ?_)
  · skip
    refine Z_iconst 18 (-1) dX4_nest_17 rfl rfl ?_
    exact Z_iret dX4_nest_18 rfl ⟨rfl, rfl⟩
  · skip
    refine Z_iload_n 8 2 dX4_nest_7 rfl rfl ?_
    refine Z_iconst 9 (nI 0) dX4_nest_8 rfl rfl ?_
    refine Z_bipush 11 (nI 30) dX4_nest_9 rfl rfl ?_
    refine Z_callS 14 [_, _, _] (zX4_in _ _ _) dX4_nest_11 rfl qX4_46 kX4_in rfl rfl ⟨(Nat.le_of_ble_eq_true rfl), (Nat.le_of_ble_eq_true rfl)⟩ (Nat.le_of_ble_eq_true rfl) ⟨rfl, rfl⟩ ⟨(Nat.le_of_ble_eq_true rfl), (Nat.le_of_ble_eq_true rfl)⟩ (fun r9 w9 hp9 => ?_)
    obtain ⟨rfl, rfl⟩ := hp9
    refine Z_if_ne 17 19 dX4_nest_14 rfl rfl (fun c14 => absurd c14 (fun q => hne ⟨bI_1 c4, bI_1 q⟩)) (fun c14 => ?_)
    refine Z_iconst 18 (-1) dX4_nest_17 rfl rfl ?_
    exact Z_iret dX4_nest_18 rfl ⟨rfl, rfl⟩

set_option maxRecDepth 100000 in
set_option maxHeartbeats 4000000 in
theorem zX4_nest {G : zG} {l : Launch} {h : Nat → Nat} {m : zM} (s : Nat) (hs : s ≤ 4) (hst : m 74 3 = nI s) (i : Nat) (hi : i < 8) (y : Int32) (hy0 : ¬ y < 0) (hy1 : ¬ nI 30 < y) : zMet G l yX4_nest mX4_nest [.ref (G.1 + 74), .int (nI i), .int y] (zw h m) (fun r w => r = some (.int (m 75 (7 + 4 * i + 2))) ∧ w = zw h (up2 (recM m s) 75 (7 + 4 * i + 2) (m 75 0 + y))) 0 0 := by
  refine zMet_of [(0, .ref (G.1 + 74)), (1, .int (nI i)), (2, .int y)] (by decide +kernel) rfl (Or.inl rfl) (Nat.le_of_ble_eq_true rfl) rfl ?_
  refine Z_iload_n 1 1 dX4_nest_0 rfl rfl ?_
  refine Z_callS 4 [_] (zX4_isHedge _) dX4_nest_1 rfl qX4_87 kX4_isHedge rfl rfl ⟨(Nat.le_of_ble_eq_true rfl), (Nat.le_of_ble_eq_true rfl)⟩ (Nat.le_of_ble_eq_true rfl) ⟨rfl, rfl⟩ ⟨(Nat.le_of_ble_eq_true rfl), (Nat.le_of_ble_eq_true rfl)⟩ (fun r9 w9 hp9 => ?_)
  obtain ⟨rfl, rfl⟩ := hp9
  refine Z_if_eq 7 17 dX4_nest_4 rfl rfl (fun c4 => absurd c4 (bI_ne (hdgN hi))) (fun c4 => ?_)
  refine Z_iload_n 8 2 dX4_nest_7 rfl rfl ?_
  refine Z_iconst 9 (nI 0) dX4_nest_8 rfl rfl ?_
  refine Z_bipush 11 (nI 30) dX4_nest_9 rfl rfl ?_
  refine Z_callS 14 [_, _, _] (zX4_in _ _ _) dX4_nest_11 rfl qX4_46 kX4_in rfl rfl ⟨(Nat.le_of_ble_eq_true rfl), (Nat.le_of_ble_eq_true rfl)⟩ (Nat.le_of_ble_eq_true rfl) ⟨rfl, rfl⟩ ⟨(Nat.le_of_ble_eq_true rfl), (Nat.le_of_ble_eq_true rfl)⟩ (fun r9 w9 hp9 => ?_)
  obtain ⟨rfl, rfl⟩ := hp9
  refine Z_if_ne 17 19 dX4_nest_14 rfl rfl (fun c14 => ?_) (fun c14 => absurd (bI_ne ⟨hy0, hy1⟩) c14)
  refine Z_aload_n 20 0 dX4_nest_19 rfl rfl ?_
  refine Z_callV 23 [] 4 (zX4_records s hs hst) dX4_nest_20 rfl qX4_113 kX4_records rfl rfl (Nat.le_of_ble_eq_true rfl) rfl rfl ⟨(Nat.le_of_ble_eq_true rfl), (Nat.le_of_ble_eq_true rfl)⟩ (Nat.le_of_ble_eq_true rfl) ⟨rfl, rfl⟩ ⟨(Nat.le_of_ble_eq_true rfl), (Nat.le_of_ble_eq_true rfl)⟩ (fun r9 w9 hp9 => ?_)
  obtain ⟨rfl, rfl⟩ := hp9
  refine Z_aload_n 24 0 dX4_nest_23 rfl rfl ?_
  refine Z_iload_n 25 1 dX4_nest_24 rfl rfl ?_
  refine Z_iconst 26 (nI 2) dX4_nest_25 rfl rfl ?_
  refine Z_callV 29 [_, _] 4 (zX4_of (m := (recM m s)) i 2 hi (by decide)) dX4_nest_26 rfl qX4_50 kX4_of rfl rfl (Nat.le_of_ble_eq_true rfl) rfl rfl ⟨(Nat.le_of_ble_eq_true rfl), (Nat.le_of_ble_eq_true rfl)⟩ (Nat.le_of_ble_eq_true rfl) ⟨rfl, rfl⟩ ⟨(Nat.le_of_ble_eq_true rfl), (Nat.le_of_ble_eq_true rfl)⟩ (fun r9 w9 hp9 => ?_)
  obtain ⟨rfl, rfl⟩ := hp9
  refine Z_top (v' := .int (m 75 (7 + 4 * i + 2))) (congrArg Value.int (congrFun (rec_75 m s) _)) ?_
  refine Z_istore_n 30 [(3, _), (0, _), (1, _), (2, _)] dX4_nest_29 rfl (Nat.le_of_ble_eq_true rfl) rfl ?_
  refine Z_aload_n 31 1 dX4_nest_30 rfl rfl ?_
  refine Z_iload_n 32 2 dX4_nest_31 rfl rfl ?_
  refine Z_iconst 33 (nI 2) dX4_nest_32 rfl rfl ?_
  refine Z_aload_n 34 1 dX4_nest_33 rfl rfl ?_
  refine Z_getR 37 dX4_nest_34 rfl fX4_7 (Nat.le_of_ble_eq_true rfl) rfl rfl ?_
  refine Z_iconst 38 (nI 0) dX4_nest_37 rfl rfl ?_
  refine Z_ialn 39 dX4_nest_38 rfl (Nat.le_of_ble_eq_true rfl) rfl (by first | assumption | omega) (by decide) ?_
  refine Z_top (v' := .int (m 75 0)) (congrArg Value.int (congrFun (rec_75 m s) _)) ?_
  refine Z_iload_n 40 3 dX4_nest_39 rfl rfl ?_
  refine Z_iadd 41 dX4_nest_40 rfl ?_
  refine Z_callV 44 [_, _, _] 4 (zX4_lays (m := (recM m s)) i 2 hi (by decide) _) dX4_nest_41 rfl qX4_34 kX4_lays rfl rfl (Nat.le_of_ble_eq_true rfl) rfl rfl ⟨(Nat.le_of_ble_eq_true rfl), (Nat.le_of_ble_eq_true rfl)⟩ (Nat.le_of_ble_eq_true rfl) ⟨rfl, rfl⟩ ⟨(Nat.le_of_ble_eq_true rfl), (Nat.le_of_ble_eq_true rfl)⟩ (fun r9 w9 hp9 => ?_)
  obtain ⟨rfl, rfl⟩ := hp9
  refine Z_iload_n 45 0 dX4_nest_44 rfl rfl ?_
  exact Z_iret dX4_nest_45 rfl ⟨rfl, rfl⟩

set_option maxRecDepth 100000 in
set_option maxHeartbeats 4000000 in
theorem eX4_clip {G : zG} {l : Launch} {h : Nat → Nat} {m : zM} (x y : Int32) (hne : ¬ (hdg x ∧ ¬ y < nI 1 ∧ ¬ nI 99 < y)) : zMet G l yX4_clip mX4_clip [.ref (G.1 + 74), .int x, .int y] (zw h m) (fun r w => r = some (.int (-1)) ∧ w = zw h m) 0 0 := by
  refine zMet_of [(0, .ref (G.1 + 74)), (1, .int x), (2, .int y)] (by decide +kernel) rfl (Or.inl rfl) (Nat.le_of_ble_eq_true rfl) rfl ?_
  refine Z_iload_n 1 1 dX4_clip_0 rfl rfl ?_
  refine Z_callS 4 [_] (zX4_isHedge _) dX4_clip_1 rfl qX4_87 kX4_isHedge rfl rfl ⟨(Nat.le_of_ble_eq_true rfl), (Nat.le_of_ble_eq_true rfl)⟩ (Nat.le_of_ble_eq_true rfl) ⟨rfl, rfl⟩ ⟨(Nat.le_of_ble_eq_true rfl), (Nat.le_of_ble_eq_true rfl)⟩ (fun r9 w9 hp9 => ?_)
  obtain ⟨rfl, rfl⟩ := hp9
  refine Z_if_eq 7 17 dX4_clip_4 rfl rfl (fun c4 => ?_) (fun c4 => ?_)
  · skip
    refine Z_iconst 18 (-1) dX4_clip_17 rfl rfl ?_
    exact Z_iret dX4_clip_18 rfl ⟨rfl, rfl⟩
  · skip
    refine Z_iload_n 8 2 dX4_clip_7 rfl rfl ?_
    refine Z_iconst 9 (nI 1) dX4_clip_8 rfl rfl ?_
    refine Z_bipush 11 (nI 99) dX4_clip_9 rfl rfl ?_
    refine Z_callS 14 [_, _, _] (zX4_in _ _ _) dX4_clip_11 rfl qX4_46 kX4_in rfl rfl ⟨(Nat.le_of_ble_eq_true rfl), (Nat.le_of_ble_eq_true rfl)⟩ (Nat.le_of_ble_eq_true rfl) ⟨rfl, rfl⟩ ⟨(Nat.le_of_ble_eq_true rfl), (Nat.le_of_ble_eq_true rfl)⟩ (fun r9 w9 hp9 => ?_)
    obtain ⟨rfl, rfl⟩ := hp9
    refine Z_if_ne 17 19 dX4_clip_14 rfl rfl (fun c14 => absurd c14 (fun q => hne ⟨bI_1 c4, bI_1 q⟩)) (fun c14 => ?_)
    refine Z_iconst 18 (-1) dX4_clip_17 rfl rfl ?_
    exact Z_iret dX4_clip_18 rfl ⟨rfl, rfl⟩

def mcR (r : Nat → Int32) (i : Nat) (y : Int32) : Int32 := if sNest (vR r) 1 i then nI 3 else if vR r 2 i < y then nI 4 else nI 10 + (vR r 2 i - y)
def mcM (m : zM) (i : Nat) (y : Int32) : zM := if sNest (vR (m 75)) 1 i then rfM m else if vR (m 75) 2 i < y then rfM m else clM m i y
theorem mc1 {m : zM} {i : Nat} {y : Int32} (h : sNest (vR (m 75)) 1 i) : nI 3 = mcR (m 75) i y ∧ rfM m = mcM m i y := ⟨(if_pos h).symm, (if_pos h).symm⟩
theorem mc2 {m : zM} {i : Nat} {y : Int32} (h : ¬ sNest (vR (m 75)) 1 i) (h2 : m 75 (7 + 4 * i + 0) < y) : nI 4 = mcR (m 75) i y ∧ rfM m = mcM m i y := by
  have h3 : vR (m 75) 2 i < y := h2
  constructor
  · unfold mcR
    rw [if_neg h, if_pos h3]
  · unfold mcM
    rw [if_neg h, if_pos h3]
theorem mc3 {m : zM} {i : Nat} {y : Int32} (h : ¬ sNest (vR (m 75)) 1 i) (h2 : ¬ m 75 (7 + 4 * i + 0) < y) : nI 10 + clM m i y 75 (7 + 4 * i + 0) = mcR (m 75) i y ∧ clM m i y = mcM m i y := by
  have h3 : ¬ vR (m 75) 2 i < y := h2
  constructor
  · unfold mcR
    rw [if_neg h, if_neg h3]
    show nI 10 + up2 (up2 (up2 (up2 m 75 _ _) 75 _ _) 75 _ _) 75 _ _ 75 (7 + 4 * i + 0) = _
    rw [up2_ne _ _ (by omega), up2_ne _ _ (by omega), up2_ne _ _ (by omega), up2_eq]
    rfl
  · unfold mcM
    rw [if_neg h, if_neg h3]
set_option maxRecDepth 100000 in
set_option maxHeartbeats 4000000 in
theorem zX4_clip {G : zG} {l : Launch} {h : Nat → Nat} {m : zM} (s : Nat) (hs : s ≤ 4) (hst : m 74 3 = nI s) (i : Nat) (hi : i < 8) (y : Int32) (hy0 : ¬ y < nI 1) (hy1 : ¬ nI 99 < y) : zMet G l yX4_clip mX4_clip [.ref (G.1 + 74), .int (nI i), .int y] (zw h m) (fun r w => r = some (.int (mcR ((recM m s) 75) i y)) ∧ w = zw h (mcM (recM m s) i y)) 0 0 := by
  refine zMet_of [(0, .ref (G.1 + 74)), (1, .int (nI i)), (2, .int y)] (by decide +kernel) rfl (Or.inl rfl) (Nat.le_of_ble_eq_true rfl) rfl ?_
  refine Z_iload_n 1 1 dX4_clip_0 rfl rfl ?_
  refine Z_callS 4 [_] (zX4_isHedge _) dX4_clip_1 rfl qX4_87 kX4_isHedge rfl rfl ⟨(Nat.le_of_ble_eq_true rfl), (Nat.le_of_ble_eq_true rfl)⟩ (Nat.le_of_ble_eq_true rfl) ⟨rfl, rfl⟩ ⟨(Nat.le_of_ble_eq_true rfl), (Nat.le_of_ble_eq_true rfl)⟩ (fun r9 w9 hp9 => ?_)
  obtain ⟨rfl, rfl⟩ := hp9
  refine Z_if_eq 7 17 dX4_clip_4 rfl rfl (fun c4 => absurd c4 (bI_ne (hdgN hi))) (fun c4 => ?_)
  refine Z_iload_n 8 2 dX4_clip_7 rfl rfl ?_
  refine Z_iconst 9 (nI 1) dX4_clip_8 rfl rfl ?_
  refine Z_bipush 11 (nI 99) dX4_clip_9 rfl rfl ?_
  refine Z_callS 14 [_, _, _] (zX4_in _ _ _) dX4_clip_11 rfl qX4_46 kX4_in rfl rfl ⟨(Nat.le_of_ble_eq_true rfl), (Nat.le_of_ble_eq_true rfl)⟩ (Nat.le_of_ble_eq_true rfl) ⟨rfl, rfl⟩ ⟨(Nat.le_of_ble_eq_true rfl), (Nat.le_of_ble_eq_true rfl)⟩ (fun r9 w9 hp9 => ?_)
  obtain ⟨rfl, rfl⟩ := hp9
  refine Z_if_ne 17 19 dX4_clip_14 rfl rfl (fun c14 => ?_) (fun c14 => absurd (bI_ne ⟨hy0, hy1⟩) c14)
  refine Z_aload_n 20 0 dX4_clip_19 rfl rfl ?_
  refine Z_callV 23 [] 4 (zX4_records s hs hst) dX4_clip_20 rfl qX4_113 kX4_records rfl rfl (Nat.le_of_ble_eq_true rfl) rfl rfl ⟨(Nat.le_of_ble_eq_true rfl), (Nat.le_of_ble_eq_true rfl)⟩ (Nat.le_of_ble_eq_true rfl) ⟨rfl, rfl⟩ ⟨(Nat.le_of_ble_eq_true rfl), (Nat.le_of_ble_eq_true rfl)⟩ (fun r9 w9 hp9 => ?_)
  obtain ⟨rfl, rfl⟩ := hp9
  refine Z_aload_n 24 0 dX4_clip_23 rfl rfl ?_
  refine Z_iload_n 25 1 dX4_clip_24 rfl rfl ?_
  refine Z_callV 28 [_] 4 (zX4_isNested (m := (recM m s)) i hi) dX4_clip_25 rfl qX4_106 kX4_isNested rfl rfl (Nat.le_of_ble_eq_true rfl) rfl rfl ⟨(Nat.le_of_ble_eq_true rfl), (Nat.le_of_ble_eq_true rfl)⟩ (Nat.le_of_ble_eq_true rfl) ⟨rfl, rfl⟩ ⟨(Nat.le_of_ble_eq_true rfl), (Nat.le_of_ble_eq_true rfl)⟩ (fun r9 w9 hp9 => ?_)
  obtain ⟨rfl, rfl⟩ := hp9
  refine Z_if_ne 31 41 dX4_clip_28 rfl rfl (fun c28 => ?_) (fun c28 => ?_)
  · skip
    refine Z_aload_n 42 0 dX4_clip_41 rfl rfl ?_
    refine Z_aload_n 43 0 dX4_clip_42 rfl rfl ?_
    refine Z_iload_n 44 1 dX4_clip_43 rfl rfl ?_
    refine Z_callV 47 [_] 4 (zX4_isNested (m := (recM m s)) i hi) dX4_clip_44 rfl qX4_106 kX4_isNested rfl rfl (Nat.le_of_ble_eq_true rfl) rfl rfl ⟨(Nat.le_of_ble_eq_true rfl), (Nat.le_of_ble_eq_true rfl)⟩ (Nat.le_of_ble_eq_true rfl) ⟨rfl, rfl⟩ ⟨(Nat.le_of_ble_eq_true rfl), (Nat.le_of_ble_eq_true rfl)⟩ (fun r9 w9 hp9 => ?_)
    obtain ⟨rfl, rfl⟩ := hp9
    refine Z_if_eq 50 54 dX4_clip_47 rfl rfl (fun c47 => ?_) (fun c47 => ?_)
    · skip
      refine Z_iconst 55 (nI 4) dX4_clip_54 rfl rfl ?_
      refine Z_callV 58 [_] 4 (zX4_refuses _) dX4_clip_55 rfl qX4_97 kX4_refuses rfl rfl (Nat.le_of_ble_eq_true rfl) rfl rfl ⟨(Nat.le_of_ble_eq_true rfl), (Nat.le_of_ble_eq_true rfl)⟩ (Nat.le_of_ble_eq_true rfl) ⟨rfl, rfl⟩ ⟨(Nat.le_of_ble_eq_true rfl), (Nat.le_of_ble_eq_true rfl)⟩ (fun r9 w9 hp9 => ?_)
      obtain ⟨rfl, rfl⟩ := hp9
      exact Z_iret dX4_clip_58 rfl (by first | exact ⟨congrArg (fun q => some (Value.int q)) (mc1 (bI_1 c28)).1, congrArg (zw h) (mc1 (bI_1 c28)).2⟩ | exact ⟨congrArg (fun q => some (Value.int q)) (mc1 (bI_1 c47)).1, congrArg (zw h) (mc1 (bI_1 c47)).2⟩ | exact ⟨congrArg (fun q => some (Value.int q)) (mc2 (bI_0 c47) (Int32.not_le.mp c38)).1, congrArg (zw h) (mc2 (bI_0 c47) (Int32.not_le.mp c38)).2⟩ | exact absurd c47 c28)
    · skip
      refine Z_iconst 51 (nI 3) dX4_clip_50 rfl rfl ?_
      refine Z_goto 55 dX4_clip_51 rfl ?_
      refine Z_callV 58 [_] 4 (zX4_refuses _) dX4_clip_55 rfl qX4_97 kX4_refuses rfl rfl (Nat.le_of_ble_eq_true rfl) rfl rfl ⟨(Nat.le_of_ble_eq_true rfl), (Nat.le_of_ble_eq_true rfl)⟩ (Nat.le_of_ble_eq_true rfl) ⟨rfl, rfl⟩ ⟨(Nat.le_of_ble_eq_true rfl), (Nat.le_of_ble_eq_true rfl)⟩ (fun r9 w9 hp9 => ?_)
      obtain ⟨rfl, rfl⟩ := hp9
      exact Z_iret dX4_clip_58 rfl (by first | exact ⟨congrArg (fun q => some (Value.int q)) (mc1 (bI_1 c28)).1, congrArg (zw h) (mc1 (bI_1 c28)).2⟩ | exact ⟨congrArg (fun q => some (Value.int q)) (mc1 (bI_1 c47)).1, congrArg (zw h) (mc1 (bI_1 c47)).2⟩ | exact ⟨congrArg (fun q => some (Value.int q)) (mc2 (bI_0 c47) (Int32.not_le.mp c38)).1, congrArg (zw h) (mc2 (bI_0 c47) (Int32.not_le.mp c38)).2⟩ | exact absurd c47 c28)
  · skip
    refine Z_iload_n 32 2 dX4_clip_31 rfl rfl ?_
    refine Z_aload_n 33 0 dX4_clip_32 rfl rfl ?_
    refine Z_iload_n 34 1 dX4_clip_33 rfl rfl ?_
    refine Z_iconst 35 (nI 0) dX4_clip_34 rfl rfl ?_
    refine Z_callV 38 [_, _] 4 (zX4_of i 0 hi (by decide)) dX4_clip_35 rfl qX4_50 kX4_of rfl rfl (Nat.le_of_ble_eq_true rfl) rfl rfl ⟨(Nat.le_of_ble_eq_true rfl), (Nat.le_of_ble_eq_true rfl)⟩ (Nat.le_of_ble_eq_true rfl) ⟨rfl, rfl⟩ ⟨(Nat.le_of_ble_eq_true rfl), (Nat.le_of_ble_eq_true rfl)⟩ (fun r9 w9 hp9 => ?_)
    obtain ⟨rfl, rfl⟩ := hp9
    refine Z_icmp_le 41 59 dX4_clip_38 rfl rfl (fun c38 => ?_) (fun c38 => ?_)
    · skip
      refine Z_aload_n 60 0 dX4_clip_59 rfl rfl ?_
      refine Z_iload_n 61 1 dX4_clip_60 rfl rfl ?_
      refine Z_iload_n 62 2 dX4_clip_61 rfl rfl ?_
      refine Z_callV 65 [_, _] 4 (zX4_clips i hi y) dX4_clip_62 rfl qX4_109 kX4_clips rfl rfl (Nat.le_of_ble_eq_true rfl) rfl rfl ⟨(Nat.le_of_ble_eq_true rfl), (Nat.le_of_ble_eq_true rfl)⟩ (Nat.le_of_ble_eq_true rfl) ⟨rfl, rfl⟩ ⟨(Nat.le_of_ble_eq_true rfl), (Nat.le_of_ble_eq_true rfl)⟩ (fun r9 w9 hp9 => ?_)
      obtain ⟨rfl, rfl⟩ := hp9
      refine Z_bipush 67 (nI 10) dX4_clip_65 rfl rfl ?_
      refine Z_aload_n 68 0 dX4_clip_67 rfl rfl ?_
      refine Z_iload_n 69 1 dX4_clip_68 rfl rfl ?_
      refine Z_iconst 70 (nI 0) dX4_clip_69 rfl rfl ?_
      refine Z_callV 73 [_, _] 4 (zX4_of i 0 hi (by decide)) dX4_clip_70 rfl qX4_50 kX4_of rfl rfl (Nat.le_of_ble_eq_true rfl) rfl rfl ⟨(Nat.le_of_ble_eq_true rfl), (Nat.le_of_ble_eq_true rfl)⟩ (Nat.le_of_ble_eq_true rfl) ⟨rfl, rfl⟩ ⟨(Nat.le_of_ble_eq_true rfl), (Nat.le_of_ble_eq_true rfl)⟩ (fun r9 w9 hp9 => ?_)
      obtain ⟨rfl, rfl⟩ := hp9
      refine Z_iadd 74 dX4_clip_73 rfl ?_
      exact Z_iret dX4_clip_74 rfl ⟨congrArg (fun q => some (Value.int q)) (mc3 (bI_0 (Decidable.not_not.mp c28)) (Int32.not_lt.mpr c38)).1, congrArg (zw h) (mc3 (bI_0 (Decidable.not_not.mp c28)) (Int32.not_lt.mpr c38)).2⟩
    · skip
      refine Z_aload_n 42 0 dX4_clip_41 rfl rfl ?_
      refine Z_aload_n 43 0 dX4_clip_42 rfl rfl ?_
      refine Z_iload_n 44 1 dX4_clip_43 rfl rfl ?_
      refine Z_callV 47 [_] 4 (zX4_isNested (m := (recM m s)) i hi) dX4_clip_44 rfl qX4_106 kX4_isNested rfl rfl (Nat.le_of_ble_eq_true rfl) rfl rfl ⟨(Nat.le_of_ble_eq_true rfl), (Nat.le_of_ble_eq_true rfl)⟩ (Nat.le_of_ble_eq_true rfl) ⟨rfl, rfl⟩ ⟨(Nat.le_of_ble_eq_true rfl), (Nat.le_of_ble_eq_true rfl)⟩ (fun r9 w9 hp9 => ?_)
      obtain ⟨rfl, rfl⟩ := hp9
      refine Z_if_eq 50 54 dX4_clip_47 rfl rfl (fun c47 => ?_) (fun c47 => ?_)
      · skip
        refine Z_iconst 55 (nI 4) dX4_clip_54 rfl rfl ?_
        refine Z_callV 58 [_] 4 (zX4_refuses _) dX4_clip_55 rfl qX4_97 kX4_refuses rfl rfl (Nat.le_of_ble_eq_true rfl) rfl rfl ⟨(Nat.le_of_ble_eq_true rfl), (Nat.le_of_ble_eq_true rfl)⟩ (Nat.le_of_ble_eq_true rfl) ⟨rfl, rfl⟩ ⟨(Nat.le_of_ble_eq_true rfl), (Nat.le_of_ble_eq_true rfl)⟩ (fun r9 w9 hp9 => ?_)
        obtain ⟨rfl, rfl⟩ := hp9
        exact Z_iret dX4_clip_58 rfl (by first | exact ⟨congrArg (fun q => some (Value.int q)) (mc1 (bI_1 c28)).1, congrArg (zw h) (mc1 (bI_1 c28)).2⟩ | exact ⟨congrArg (fun q => some (Value.int q)) (mc1 (bI_1 c47)).1, congrArg (zw h) (mc1 (bI_1 c47)).2⟩ | exact ⟨congrArg (fun q => some (Value.int q)) (mc2 (bI_0 c47) (Int32.not_le.mp c38)).1, congrArg (zw h) (mc2 (bI_0 c47) (Int32.not_le.mp c38)).2⟩ | exact absurd c47 c28)
      · skip
        refine Z_iconst 51 (nI 3) dX4_clip_50 rfl rfl ?_
        refine Z_goto 55 dX4_clip_51 rfl ?_
        refine Z_callV 58 [_] 4 (zX4_refuses _) dX4_clip_55 rfl qX4_97 kX4_refuses rfl rfl (Nat.le_of_ble_eq_true rfl) rfl rfl ⟨(Nat.le_of_ble_eq_true rfl), (Nat.le_of_ble_eq_true rfl)⟩ (Nat.le_of_ble_eq_true rfl) ⟨rfl, rfl⟩ ⟨(Nat.le_of_ble_eq_true rfl), (Nat.le_of_ble_eq_true rfl)⟩ (fun r9 w9 hp9 => ?_)
        obtain ⟨rfl, rfl⟩ := hp9
        exact Z_iret dX4_clip_58 rfl (by first | exact ⟨congrArg (fun q => some (Value.int q)) (mc1 (bI_1 c28)).1, congrArg (zw h) (mc1 (bI_1 c28)).2⟩ | exact ⟨congrArg (fun q => some (Value.int q)) (mc1 (bI_1 c47)).1, congrArg (zw h) (mc1 (bI_1 c47)).2⟩ | exact ⟨congrArg (fun q => some (Value.int q)) (mc2 (bI_0 c47) (Int32.not_le.mp c38)).1, congrArg (zw h) (mc2 (bI_0 c47) (Int32.not_le.mp c38)).2⟩ | exact absurd c47 c28)

set_option maxRecDepth 100000 in
set_option maxHeartbeats 4000000 in
theorem zX4_plan {G : zG} {l : Launch} {h : Nat → Nat} {m : zM} (s : Nat) (hs : s ≤ 4) (hst : m 74 3 = nI s) (n : Nat) (g9 : gOk (vR (m 75)) n) : zMet G l yX4_plan mX4_plan [.ref (G.1 + 74)] (zw h m) (fun r w => ∃ m', Fm (recM m s) m' ∧ (((∀ y9, Top (HgtY ((vR (m 75)) 2)) (eL (vR (m 75)) (pFo (vR (m 75)))) n y9 → ∃ q, q < 8 ∧ y9 q < 0) ∧ r = some (.int (nI 4)) ∧ w = zw h (rfM m')) ∨ (∃ y, Top (HgtY ((vR (m 75)) 2)) (eL (vR (m 75)) (pFo (vR (m 75)))) n y ∧ (∀ q, q < 8 → 0 ≤ y q) ∧ (((∃ q, q < 8 ∧ barQ (vR (m 75)) y q) ∧ r = some (.int (nI 3)) ∧ w = zw h (rfM m')) ∨ ((∀ q, q < 8 → ¬ barQ (vR (m 75)) y q) ∧ r = some (.int (nI 10 + mpM m' (fun q => Int32.ofInt (y q)) 8 75 6 - m' 75 6)) ∧ w = zw h (mpM m' (fun q => Int32.ofInt (y q)) 8)))))) 0 0 := by
  refine zMet_of [(0, .ref (G.1 + 74))] (by decide +kernel) rfl (Or.inl rfl) (Nat.le_of_ble_eq_true rfl) rfl ?_
  refine Z_aload_n 1 0 dX4_plan_0 rfl rfl ?_
  refine Z_callV 4 [] 4 (zX4_records s hs hst) dX4_plan_1 rfl qX4_113 kX4_records rfl rfl (Nat.le_of_ble_eq_true rfl) rfl rfl ⟨(Nat.le_of_ble_eq_true rfl), (Nat.le_of_ble_eq_true rfl)⟩ (Nat.le_of_ble_eq_true rfl) ⟨rfl, rfl⟩ ⟨(Nat.le_of_ble_eq_true rfl), (Nat.le_of_ble_eq_true rfl)⟩ (fun r9 w9 hp9 => ?_)
  obtain ⟨rfl, rfl⟩ := hp9
  refine Z_aload_n 5 0 dX4_plan_4 rfl rfl ?_
  refine Z_callV 8 [] 4 (zX4_goPlan (m := (recM m s)) n (by rw [rec_75]; exact g9)) dX4_plan_5 rfl qX4_116 kX4_goPlan rfl rfl (Nat.le_of_ble_eq_true rfl) rfl rfl ⟨(Nat.le_of_ble_eq_true rfl), (Nat.le_of_ble_eq_true rfl)⟩ (Nat.le_of_ble_eq_true rfl) ⟨rfl, rfl⟩ ⟨(Nat.le_of_ble_eq_true rfl), (Nat.le_of_ble_eq_true rfl)⟩ (fun r9 w9 hp9 => ?_)
  obtain ⟨m2, hF2, hr9⟩ := hp9
  rw [rec_75] at hr9
  rcases hr9 with ⟨h1, rfl, rfl⟩ | ⟨y, h1, h2, h3⟩
  · exact Z_iret dX4_plan_8 rfl ⟨m2, hF2, Or.inl ⟨h1, rfl, rfl⟩⟩
  rcases h3 with ⟨h3, rfl, rfl⟩ | ⟨h3, rfl, rfl⟩
  · exact Z_iret dX4_plan_8 rfl ⟨m2, hF2, Or.inr ⟨y, h1, h2, Or.inl ⟨h3, rfl, rfl⟩⟩⟩
  · exact Z_iret dX4_plan_8 rfl ⟨m2, hF2, Or.inr ⟨y, h1, h2, Or.inr ⟨h3, rfl, rfl⟩⟩⟩

def dyR (r : Nat → Int32) (k : Nat) : Int32 := if 7 ≤ k ∧ k < 39 ∧ (k - 7) % 4 = 0 then mn9 (r k + r (k + 1)) else if k = 0 then r 0 + nI 1 else r k
theorem gdM_75 (m : zM) : gdM m 8 75 = dyR (m 75) := by
  funext k
  unfold gdM dyR
  by_cases h : 7 ≤ k ∧ k < 39 ∧ (k - 7) % 4 = 0
  · rw [if_pos h, if_pos ⟨rfl, h.1, h.2.1, h.2.2, by omega⟩]
  · rw [if_neg h, if_neg (fun z => h ⟨z.2.1, z.2.2.1, z.2.2.2.1⟩), up2_ak]
theorem gdM_q (m : zM) {q : Nat} (h : q ≠ 75) : gdM m 8 q = m q := by
  funext k
  unfold gdM
  rw [if_neg (fun z => h z.1), up2_na _ _ _ h]
theorem dyR_9 (r : Nat → Int32) : vR (dyR r) 1 9 = r 0 + nI 1 := rfl
theorem dyR_1 (r : Nat → Int32) {k : Nat} (h : k = 8 ∨ k = 10 ∨ k = 11 ∨ k = 12 ∨ k = 13) : vR (dyR r) 1 k = vR r 1 k := by
  rcases h with rfl | rfl | rfl | rfl | rfl <;> rfl
theorem dyR_n {r : Nat → Int32} {k : Nat} (h : ¬ (7 ≤ k ∧ k < 39 ∧ (k - 7) % 4 = 0)) (h0 : ¬ k = 0) : dyR r k = r k := by
  unfold dyR
  rw [if_neg h, if_neg h0]
theorem dyR_2 (r : Nat → Int32) {i : Nat} (h : i < 8) : vR (dyR r) 2 i = mn9 (vR r 2 i + vR r 3 i) := by
  show dyR r (7 + 4 * i) = mn9 (r (7 + 4 * i) + r (7 + 4 * i + 1))
  unfold dyR
  rw [if_pos (by omega)]
theorem dyR_q (r : Nat → Int32) {q : Nat} (h1 : 3 ≤ q ∧ q ≤ 9) : vR (dyR r) q = vR r q := by
  funext i
  have h : q = 3 ∨ q = 4 ∨ q = 5 ∨ q = 6 ∨ q = 7 ∨ q = 8 ∨ q = 9 := by omega
  rcases h with rfl | rfl | rfl | rfl | rfl | rfl | rfl
  · exact dyR_n (r := r) (k := 7 + 4 * i + 1) (by omega) (by omega)
  · exact dyR_n (r := r) (k := 7 + 4 * i + 2) (by omega) (by omega)
  · exact dyR_n (r := r) (k := 7 + 4 * i + 3) (by omega) (by omega)
  · exact dyR_n (r := r) (k := 39 + 4 * i) (by omega) (by omega)
  · exact dyR_n (r := r) (k := 39 + 4 * i + 1) (by omega) (by omega)
  · exact dyR_n (r := r) (k := 39 + 4 * i + 2) (by omega) (by omega)
  · exact dyR_n (r := r) (k := 39 + 4 * i + 3) (by omega) (by omega)
theorem dyR_sOk {r : Nat → Int32} {n : Nat} (h : sOk (vR r) 1 n) : sOk (vR (dyR r)) 1 n :=
  sOk_congr (m := vR r) (m' := vR (dyR r)) (dyR_1 r (Or.inl rfl)) (fun k _ => congrFun (dyR_q r (q := 6) (by decide)) k) (fun k _ => congrFun (dyR_q r (q := 7) (by decide)) k) h
set_option maxRecDepth 100000 in
set_option maxHeartbeats 4000000 in
theorem zX4_day {G : zG} {l : Launch} {h : Nat → Nat} {m : zM} (s : Nat) (hs : s ≤ 4) (hst : m 74 3 = nI s) (n : Nat) (hk : sOk (vR (m 75)) 1 n) : zMet G l yX4_day mX4_day [.ref (G.1 + 74)] (zw h m) (fun r w => r = some (.int (nI (cnt (fun j => decide (bkV (vR (dyR (m 75))) j)) n))) ∧ w = zw h (gdM (recM m s) 8)) 0 0 := by
  refine zMet_of [(0, .ref (G.1 + 74))] (by decide +kernel) rfl (Or.inl rfl) (Nat.le_of_ble_eq_true rfl) rfl ?_
  have e9 : gdM (recM m s) 8 75 = (dyR (m 75)) := by rw [gdM_75, rec_75]
  refine Z_aload_n 1 0 dX4_day_0 rfl rfl ?_
  refine Z_callV 4 [] 4 (zX4_records s hs hst) dX4_day_1 rfl qX4_113 kX4_records rfl rfl (Nat.le_of_ble_eq_true rfl) rfl rfl ⟨(Nat.le_of_ble_eq_true rfl), (Nat.le_of_ble_eq_true rfl)⟩ (Nat.le_of_ble_eq_true rfl) ⟨rfl, rfl⟩ ⟨(Nat.le_of_ble_eq_true rfl), (Nat.le_of_ble_eq_true rfl)⟩ (fun r9 w9 hp9 => ?_)
  obtain ⟨rfl, rfl⟩ := hp9
  refine Z_aload_n 5 0 dX4_day_4 rfl rfl ?_
  refine Z_callV 8 [] 4 (zX4_goDay) dX4_day_5 rfl qX4_120 kX4_goDay rfl rfl (Nat.le_of_ble_eq_true rfl) rfl rfl ⟨(Nat.le_of_ble_eq_true rfl), (Nat.le_of_ble_eq_true rfl)⟩ (Nat.le_of_ble_eq_true rfl) ⟨rfl, rfl⟩ ⟨(Nat.le_of_ble_eq_true rfl), (Nat.le_of_ble_eq_true rfl)⟩ (fun r9 w9 hp9 => ?_)
  obtain ⟨rfl, rfl⟩ := hp9
  refine Z_aload_n 9 0 dX4_day_8 rfl rfl ?_
  refine Z_callV 12 [] 4 (zX4_brokenOnes (m := gdM (recM m s) 8) n (sOk_row e9 (dyR_sOk hk))) dX4_day_9 rfl qX4_123 kX4_brokenOnes rfl rfl (Nat.le_of_ble_eq_true rfl) rfl rfl ⟨(Nat.le_of_ble_eq_true rfl), (Nat.le_of_ble_eq_true rfl)⟩ (Nat.le_of_ble_eq_true rfl) ⟨rfl, rfl⟩ ⟨(Nat.le_of_ble_eq_true rfl), (Nat.le_of_ble_eq_true rfl)⟩ (fun r9 w9 hp9 => ?_)
  obtain ⟨rfl, rfl⟩ := hp9
  rw [e9]
  exact Z_iret dX4_day_12 rfl ⟨rfl, rfl⟩

theorem esg_ge {n : Nat} {f o d : Int32} (h : ¬ esg n f o d = 0) : esg n f o d < 0 := by
  unfold esg at h ⊢
  by_cases g : agr f o d
  · rw [if_pos g] at h ⊢
    by_cases g2 : nI n < nI 14
    · rw [if_pos g2] at h
      exact absurd rfl h
    · rw [if_neg g2]
      decide
  · rw [if_neg g]
    decide
set_option maxRecDepth 100000 in
set_option maxHeartbeats 4000000 in
theorem eX4_sign {G : zG} {l : Launch} {h : Nat → Nat} {m : zM} (n : Nat) (hk : m 75 2 = nI n) (hn : n ≤ 14) (x1 x2 d : Int32) (hne : ¬ esg n x1 x2 d = 0) : zMet G l yX4_sign mX4_sign [.ref (G.1 + 74), .int x1, .int x2, .int d] (zw h m) (fun r w => r = some (.int (esg n x1 x2 d)) ∧ w = zw h m) 0 0 := by
  refine zMet_of [(0, .ref (G.1 + 74)), (1, .int x1), (2, .int x2), (3, .int d)] (by decide +kernel) rfl (Or.inl rfl) (Nat.le_of_ble_eq_true rfl) rfl ?_
  refine Z_aload_n 1 0 dX4_sign_0 rfl rfl ?_
  refine Z_iload_n 2 1 dX4_sign_1 rfl rfl ?_
  refine Z_iload_n 3 2 dX4_sign_2 rfl rfl ?_
  refine Z_iload_n 4 3 dX4_sign_3 rfl rfl ?_
  refine Z_callV 7 [_, _, _] 4 (zX4_errorOfSign n hk hn _ _ _) dX4_sign_4 rfl qX4_126 kX4_errorOfSign rfl rfl (Nat.le_of_ble_eq_true rfl) rfl rfl ⟨(Nat.le_of_ble_eq_true rfl), (Nat.le_of_ble_eq_true rfl)⟩ (Nat.le_of_ble_eq_true rfl) ⟨rfl, rfl⟩ ⟨(Nat.le_of_ble_eq_true rfl), (Nat.le_of_ble_eq_true rfl)⟩ (fun r9 w9 hp9 => ?_)
  obtain ⟨rfl, rfl⟩ := hp9
  refine Z_istore 9 [(4, _), (0, _), (1, _), (2, _), (3, _)] dX4_sign_7 rfl (Nat.le_of_ble_eq_true rfl) rfl ?_
  refine Z_iload 11 0 dX4_sign_9 rfl rfl ?_
  refine Z_if_ge 14 17 dX4_sign_11 rfl rfl (fun c11 => absurd c11 (Int32.not_le.mpr (esg_ge hne))) (fun c11 => ?_)
  refine Z_iload 16 0 dX4_sign_14 rfl rfl ?_
  exact Z_iret dX4_sign_16 rfl ⟨rfl, rfl⟩

set_option maxRecDepth 100000 in
set_option maxHeartbeats 4000000 in
theorem zX4_sign {G : zG} {l : Launch} {h : Nat → Nat} {m : zM} (s : Nat) (hs : s ≤ 4) (hst : m 74 3 = nI s) (n : Nat) (g9 : gOk (vR (m 75)) n) (f o : Nat) (hf : f < 8) (ho : o < 8) (d : Int32) (hd : -60 ≤ d.toInt ∧ d.toInt ≤ 60) (hn14 : n < 14) (hes : esg n (nI f) (nI o) d = 0) : zMet G l yX4_sign mX4_sign [.ref (G.1 + 74), .int (nI f), .int (nI o), .int d] (zw h m) (fun r w => ∃ m' y rr, Fm (recM m s) m' ∧ Top (Yb f) (eB (vR (m 75)) (pFo (vR (m 75)))) n y ∧ Fin8 y ∧ rsn (Fea (eN (vR (m 75)) f o d) (n + 1)) (y o) d.toInt rr ∧ ((rr = nI 0 ∧ r = some (.int (nI (10 + n))) ∧ w = zw h (adM m' n (nI f) (nI o) d)) ∨ (¬ rr = nI 0 ∧ r = some (.int rr) ∧ w = zw h (rfM m')))) 0 0 := by
  refine zMet_of [(0, .ref (G.1 + 74)), (1, .int (nI f)), (2, .int (nI o)), (3, .int d)] (by decide +kernel) rfl (Or.inl rfl) (Nat.le_of_ble_eq_true rfl) rfl ?_
  have hk := g9.1.1
  refine Z_aload_n 1 0 dX4_sign_0 rfl rfl ?_
  refine Z_iload_n 2 1 dX4_sign_1 rfl rfl ?_
  refine Z_iload_n 3 2 dX4_sign_2 rfl rfl ?_
  refine Z_iload_n 4 3 dX4_sign_3 rfl rfl ?_
  refine Z_callV 7 [_, _, _] 4 (zX4_errorOfSign n hk g9.1.2.1 _ _ _) dX4_sign_4 rfl qX4_126 kX4_errorOfSign rfl rfl (Nat.le_of_ble_eq_true rfl) rfl rfl ⟨(Nat.le_of_ble_eq_true rfl), (Nat.le_of_ble_eq_true rfl)⟩ (Nat.le_of_ble_eq_true rfl) ⟨rfl, rfl⟩ ⟨(Nat.le_of_ble_eq_true rfl), (Nat.le_of_ble_eq_true rfl)⟩ (fun r9 w9 hp9 => ?_)
  obtain ⟨rfl, rfl⟩ := hp9
  refine Z_istore 9 [(4, _), (0, _), (1, _), (2, _), (3, _)] dX4_sign_7 rfl (Nat.le_of_ble_eq_true rfl) rfl ?_
  refine Z_iload 11 0 dX4_sign_9 rfl rfl ?_
  refine Z_if_ge 14 17 dX4_sign_11 rfl rfl (fun c11 => ?_) (fun c11 => absurd (by rw [hes]; decide) c11)
  refine Z_aload_n 18 1 dX4_sign_17 rfl rfl ?_
  refine Z_callV 21 [] 4 (zX4_records s hs hst) dX4_sign_18 rfl qX4_113 kX4_records rfl rfl (Nat.le_of_ble_eq_true rfl) rfl rfl ⟨(Nat.le_of_ble_eq_true rfl), (Nat.le_of_ble_eq_true rfl)⟩ (Nat.le_of_ble_eq_true rfl) ⟨rfl, rfl⟩ ⟨(Nat.le_of_ble_eq_true rfl), (Nat.le_of_ble_eq_true rfl)⟩ (fun r9 w9 hp9 => ?_)
  obtain ⟨rfl, rfl⟩ := hp9
  refine Z_aload_n 22 1 dX4_sign_21 rfl rfl ?_
  refine Z_iload_n 23 2 dX4_sign_22 rfl rfl ?_
  refine Z_iload_n 24 3 dX4_sign_23 rfl rfl ?_
  refine Z_iload_n 25 4 dX4_sign_24 rfl rfl ?_
  refine Z_callV 28 [_, _, _] 4 (zX4_goSign (m := (recM m s)) n (by rw [rec_75]; exact g9) f o hf ho d hd hn14) dX4_sign_25 rfl qX4_129 kX4_goSign rfl rfl (Nat.le_of_ble_eq_true rfl) rfl rfl ⟨(Nat.le_of_ble_eq_true rfl), (Nat.le_of_ble_eq_true rfl)⟩ (Nat.le_of_ble_eq_true rfl) ⟨rfl, rfl⟩ ⟨(Nat.le_of_ble_eq_true rfl), (Nat.le_of_ble_eq_true rfl)⟩ (fun r9 w9 hp9 => ?_)
  rw [rec_75] at hp9
  obtain ⟨m2, y, rr, hF2, hT, hY, hR, hq9⟩ := hp9
  rcases hq9 with ⟨e1, rfl, rfl⟩ | ⟨e1, rfl, rfl⟩
  · exact Z_iret dX4_sign_28 rfl ⟨m2, y, rr, hF2, hT, hY, hR, Or.inl ⟨e1, rfl, rfl⟩⟩
  · exact Z_iret dX4_sign_28 rfl ⟨m2, y, rr, hF2, hT, hY, hR, Or.inr ⟨e1, rfl, rfl⟩⟩
