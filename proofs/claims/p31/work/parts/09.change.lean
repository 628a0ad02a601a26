/-! HedgeTreaties: the changes, and looks without bounds -/
theorem bI_ne {p : Prop} [Decidable p] (hp : p) : ¬ bI p = 0 := fun h => bI_0 h hp
theorem bI_z {p : Prop} [Decidable p] (hp : ¬ p) : bI p = 0 := by rw [bI_f hp]; rfl
theorem hdgN {i : Nat} (hi : i < 8) : hdg (nI i) := ⟨nI_pos (by omega), nI_lt hi (by decide)⟩
theorem rngN {i n : Nat} (hi : i < n) (hn : n < 2 ^ 31) : ¬ nI i < 0 ∧ nI i < nI n := ⟨nI_pos (by omega), nI_lt hi hn⟩
abbrev refM (m : zM) : zM := up2 m 1 12 (m 1 12 + nI 1)
theorem mRem_o {h : Nat → Nat} {m : zM} {s : Nat} (hh : hOk h) {q : Nat} (h0 : q ≠ 0) (hq : q < 20 ∨ 56 ≤ q) : mRem h m s q = m q := by
  funext k
  unfold mRem
  have key : ∀ (m : zM) (i : Nat), i < 4 → cpM m (h i) 1 q k = m q k := by
    intro m i hi
    have := hh.1 i hi
    unfold IsH at this
    unfold cpM
    rw [if_neg (by omega)]
  split
  · rw [up2_ne _ _ (fun z => h0 z.1)]
    exact key m s (by omega)
  · rw [up2_ne _ _ (fun z => h0 z.1), key _ 0 (by decide), up2_ne _ _ (fun z => h0 z.1)]
theorem mRem_0 {h : Nat → Nat} {m : zM} {s : Nat} (hh : hOk h) {k : Nat} (h0 : k ≠ 5) : mRem h m s 0 k = m 0 k := by
  unfold mRem
  have key : ∀ (m : zM) (i : Nat), i < 4 → cpM m (h i) 1 0 k = m 0 k := fun m i hi => cpM_0 (hh.1 i hi)
  split
  · rw [up2_ne _ _ (fun z => h0 z.2)]
    exact key m s (by omega)
  · rw [up2_ne _ _ (fun z => h0 z.2), key _ 0 (by decide), up2_ne _ _ (fun z => h0 z.2)]
theorem sOk_congr {m m' : zM} {a n : Nat} (h8 : m' a 8 = m a 8) (h5 : ∀ k, k < n → m' (a + 5) k = m (a + 5) k) (h6 : ∀ k, k < n → m' (a + 6) k = m (a + 6) k) (hk : sOk m a n) : sOk m' a n := by
  obtain ⟨e1, e2, e3⟩ := hk
  refine ⟨h8.trans e1, e2, fun t ht => ?_⟩
  have := e3 t ht
  unfold sF sO at this ⊢
  rw [h5 t ht, h6 t ht]
  exact this
theorem mRem_sOk {h : Nat → Nat} {m : zM} {s n : Nat} (hh : hOk h) (hk : sOk m 1 n) : sOk (mRem h m s) 1 n :=
  sOk_congr (by rw [mRem_o hh (by decide) (by decide)]) (fun k _ => by rw [mRem_o hh (by decide) (by decide)]) (fun k _ => by rw [mRem_o hh (by decide) (by decide)]) hk
theorem dayM_o {m : zM} {a q : Nat} (h1 : q ≠ a) (h2 : q ≠ a + 1) : dayM m a q = m q := by
  funext k
  simp [dayM, up2, pdM, h1, h2]
theorem dayM_a {m : zM} {a k : Nat} (h : k ≠ 9) : dayM m a a k = m a k := by simp [dayM, up2, pdM, h]
theorem dayM_sOk {m : zM} {n : Nat} (hk : sOk m 1 n) : sOk (dayM m 1) 1 n :=
  sOk_congr (dayM_a (by decide)) (fun k _ => by rw [dayM_o (by decide) (by decide)]) (fun k _ => by rw [dayM_o (by decide) (by decide)]) hk
theorem brk_0 {m : zM} {a n : Nat} {P : Nat → Prop} [DecidablePred P] : cnt (fun j => decide ((sAbout m a j (-1)) ∧ P j)) n = cnt (fun j => decide (P j)) n :=
  cnt_congr n (fun j _ => by
    by_cases h : P j
    · simp [h]
    · simp [h])
set_option maxRecDepth 100000 in
set_option maxHeartbeats 4000000 in
theorem eX3_height {G : zG} {l : Launch} {h : Nat → Nat} {m : zM} (x y : Int32) (hne : ¬ (hdg x ∧ ¬ y < 0 ∧ ¬ nI 99 < y)) : zMet G l yX3_height mX3_height [.ref (G.1 + 0), .int x, .int y] (zw h m) (fun r w => r = some (.int (-1)) ∧ w = zw h m) 0 0 := by
  refine zMet_of [(0, .ref (G.1 + 0)), (1, .int x), (2, .int y)] (by decide +kernel) rfl (Or.inl rfl) (Nat.le_of_ble_eq_true rfl) rfl ?_
  refine Z_iload_n 1 1 dX3_height_0 rfl rfl ?_
  refine Z_callS 4 [_] (zX3_isHedge _) dX3_height_1 rfl qX3_37 kX3_isHedge rfl rfl ⟨(Nat.le_of_ble_eq_true rfl), (Nat.le_of_ble_eq_true rfl)⟩ (Nat.le_of_ble_eq_true rfl) ⟨rfl, rfl⟩ ⟨(Nat.le_of_ble_eq_true rfl), (Nat.le_of_ble_eq_true rfl)⟩ (fun r9 w9 hp9 => ?_)
  obtain ⟨rfl, rfl⟩ := hp9
  refine Z_if_eq 7 17 dX3_height_4 rfl rfl (fun c4 => ?_) (fun c4 => ?_)
  · skip
    refine Z_iconst 18 (-1) dX3_height_17 rfl rfl ?_
    exact Z_iret dX3_height_18 rfl ⟨rfl, rfl⟩
  · skip
    refine Z_iload_n 8 2 dX3_height_7 rfl rfl ?_
    refine Z_if_lt 11 17 dX3_height_8 rfl rfl (fun c8 => ?_) (fun c8 => ?_)
    · skip
      refine Z_iconst 18 (-1) dX3_height_17 rfl rfl ?_
      exact Z_iret dX3_height_18 rfl ⟨rfl, rfl⟩
    · skip
      refine Z_iload_n 12 2 dX3_height_11 rfl rfl ?_
      refine Z_bipush 14 (nI 99) dX3_height_12 rfl rfl ?_
      refine Z_icmp_le 17 19 dX3_height_14 rfl rfl (fun c14 => ?_) (fun c14 => ?_)
      · skip
        exact absurd ⟨bI_1 c4, c8, Int32.not_lt.mpr c14⟩ hne
      · skip
        refine Z_iconst 18 (-1) dX3_height_17 rfl rfl ?_
        exact Z_iret dX3_height_18 rfl ⟨rfl, rfl⟩

set_option maxRecDepth 100000 in
set_option maxHeartbeats 4000000 in
theorem zX3_height {G : zG} {l : Launch} {h : Nat → Nat} {m : zM} (s : Nat) (hs : s ≤ 4) (hst : m 0 5 = nI s) (hh : hOk h) (i : Nat) (hi : i < 8) (y : Int32) (hy0 : ¬ y < 0) (hy1 : ¬ nI 99 < y) : zMet G l yX3_height mX3_height [.ref (G.1 + 0), .int (nI i), .int y] (zw h m) (fun r w => r = some (.int (mRem h m s 2 i)) ∧ w = zw (hRem h s) (up2 (mRem h m s) 2 i (y))) 0 0 := by
  refine zMet_of [(0, .ref (G.1 + 0)), (1, .int (nI i)), (2, .int y)] (by decide +kernel) rfl (Or.inl rfl) (Nat.le_of_ble_eq_true rfl) rfl ?_
  refine Z_iload_n 1 1 dX3_height_0 rfl rfl ?_
  refine Z_callS 4 [_] (zX3_isHedge _) dX3_height_1 rfl qX3_37 kX3_isHedge rfl rfl ⟨(Nat.le_of_ble_eq_true rfl), (Nat.le_of_ble_eq_true rfl)⟩ (Nat.le_of_ble_eq_true rfl) ⟨rfl, rfl⟩ ⟨(Nat.le_of_ble_eq_true rfl), (Nat.le_of_ble_eq_true rfl)⟩ (fun r9 w9 hp9 => ?_)
  obtain ⟨rfl, rfl⟩ := hp9
  refine Z_if_eq 7 17 dX3_height_4 rfl rfl (fun c4 => absurd c4 (bI_ne (hdgN hi))) (fun c4 => ?_)
  refine Z_iload_n 8 2 dX3_height_7 rfl rfl ?_
  refine Z_if_lt 11 17 dX3_height_8 rfl rfl (fun c8 => absurd c8 (hy0)) (fun c8 => ?_)
  refine Z_iload_n 12 2 dX3_height_11 rfl rfl ?_
  refine Z_bipush 14 (nI 99) dX3_height_12 rfl rfl ?_
  refine Z_icmp_le 17 19 dX3_height_14 rfl rfl (fun c14 => ?_) (fun c14 => absurd (Int32.not_lt.mp hy1) c14)
  refine Z_aload_n 20 0 dX3_height_19 rfl rfl ?_
  refine Z_callV 23 [] 3 (zX3_remember s hs hst hh) dX3_height_20 rfl qX3_41 kX3_remember rfl rfl (Nat.le_of_ble_eq_true rfl) rfl rfl ⟨(Nat.le_of_ble_eq_true rfl), (Nat.le_of_ble_eq_true rfl)⟩ (Nat.le_of_ble_eq_true rfl) ⟨rfl, rfl⟩ ⟨(Nat.le_of_ble_eq_true rfl), (Nat.le_of_ble_eq_true rfl)⟩ (fun r9 w9 hp9 => ?_)
  obtain ⟨rfl, rfl⟩ := hp9
  refine Z_aload_n 24 0 dX3_height_23 rfl rfl ?_
  refine Z_getR 27 dX3_height_24 rfl fX3_10 (Nat.le_of_ble_eq_true rfl) rfl rfl ?_
  refine Z_getR 30 dX3_height_27 rfl fX3_44 (Nat.le_of_ble_eq_true rfl) rfl rfl ?_
  refine Z_iload_n 31 1 dX3_height_30 rfl rfl ?_
  refine Z_ialn 32 dX3_height_31 rfl (Nat.le_of_ble_eq_true rfl) rfl (by first | assumption | omega) (by decide) ?_
  refine Z_istore_n 33 [(3, _), (0, _), (1, _), (2, _)] dX3_height_32 rfl (Nat.le_of_ble_eq_true rfl) rfl ?_
  refine Z_aload_n 34 1 dX3_height_33 rfl rfl ?_
  refine Z_getR 37 dX3_height_34 rfl fX3_10 (Nat.le_of_ble_eq_true rfl) rfl rfl ?_
  refine Z_getR 40 dX3_height_37 rfl fX3_44 (Nat.le_of_ble_eq_true rfl) rfl rfl ?_
  refine Z_iload_n 41 2 dX3_height_40 rfl rfl ?_
  refine Z_iload_n 42 3 dX3_height_41 rfl rfl ?_
  refine Z_iasn 43 dX3_height_42 rfl (Nat.le_of_ble_eq_true rfl) rfl (by first | assumption | omega) (by decide) ?_
  refine Z_iload_n 44 0 dX3_height_43 rfl rfl ?_
  exact Z_iret dX3_height_44 rfl ⟨rfl, rfl⟩

set_option maxRecDepth 100000 in
set_option maxHeartbeats 4000000 in
theorem eX3_growth {G : zG} {l : Launch} {h : Nat → Nat} {m : zM} (x y : Int32) (hne : ¬ (hdg x ∧ ¬ y < 0 ∧ ¬ nI 5 < y)) : zMet G l yX3_growth mX3_growth [.ref (G.1 + 0), .int x, .int y] (zw h m) (fun r w => r = some (.int (-1)) ∧ w = zw h m) 0 0 := by
  refine zMet_of [(0, .ref (G.1 + 0)), (1, .int x), (2, .int y)] (by decide +kernel) rfl (Or.inl rfl) (Nat.le_of_ble_eq_true rfl) rfl ?_
  refine Z_iload_n 1 1 dX3_growth_0 rfl rfl ?_
  refine Z_callS 4 [_] (zX3_isHedge _) dX3_growth_1 rfl qX3_37 kX3_isHedge rfl rfl ⟨(Nat.le_of_ble_eq_true rfl), (Nat.le_of_ble_eq_true rfl)⟩ (Nat.le_of_ble_eq_true rfl) ⟨rfl, rfl⟩ ⟨(Nat.le_of_ble_eq_true rfl), (Nat.le_of_ble_eq_true rfl)⟩ (fun r9 w9 hp9 => ?_)
  obtain ⟨rfl, rfl⟩ := hp9
  refine Z_if_eq 7 16 dX3_growth_4 rfl rfl (fun c4 => ?_) (fun c4 => ?_)
  · skip
    refine Z_iconst 17 (-1) dX3_growth_16 rfl rfl ?_
    exact Z_iret dX3_growth_17 rfl ⟨rfl, rfl⟩
  · skip
    refine Z_iload_n 8 2 dX3_growth_7 rfl rfl ?_
    refine Z_if_lt 11 16 dX3_growth_8 rfl rfl (fun c8 => ?_) (fun c8 => ?_)
    · skip
      refine Z_iconst 17 (-1) dX3_growth_16 rfl rfl ?_
      exact Z_iret dX3_growth_17 rfl ⟨rfl, rfl⟩
    · skip
      refine Z_iload_n 12 2 dX3_growth_11 rfl rfl ?_
      refine Z_iconst 13 (nI 5) dX3_growth_12 rfl rfl ?_
      refine Z_icmp_le 16 18 dX3_growth_13 rfl rfl (fun c13 => ?_) (fun c13 => ?_)
      · skip
        exact absurd ⟨bI_1 c4, c8, Int32.not_lt.mpr c13⟩ hne
      · skip
        refine Z_iconst 17 (-1) dX3_growth_16 rfl rfl ?_
        exact Z_iret dX3_growth_17 rfl ⟨rfl, rfl⟩

set_option maxRecDepth 100000 in
set_option maxHeartbeats 4000000 in
theorem zX3_growth {G : zG} {l : Launch} {h : Nat → Nat} {m : zM} (s : Nat) (hs : s ≤ 4) (hst : m 0 5 = nI s) (hh : hOk h) (i : Nat) (hi : i < 8) (y : Int32) (hy0 : ¬ y < 0) (hy1 : ¬ nI 5 < y) : zMet G l yX3_growth mX3_growth [.ref (G.1 + 0), .int (nI i), .int y] (zw h m) (fun r w => r = some (.int (mRem h m s 3 i)) ∧ w = zw (hRem h s) (up2 (mRem h m s) 3 i (y))) 0 0 := by
  refine zMet_of [(0, .ref (G.1 + 0)), (1, .int (nI i)), (2, .int y)] (by decide +kernel) rfl (Or.inl rfl) (Nat.le_of_ble_eq_true rfl) rfl ?_
  refine Z_iload_n 1 1 dX3_growth_0 rfl rfl ?_
  refine Z_callS 4 [_] (zX3_isHedge _) dX3_growth_1 rfl qX3_37 kX3_isHedge rfl rfl ⟨(Nat.le_of_ble_eq_true rfl), (Nat.le_of_ble_eq_true rfl)⟩ (Nat.le_of_ble_eq_true rfl) ⟨rfl, rfl⟩ ⟨(Nat.le_of_ble_eq_true rfl), (Nat.le_of_ble_eq_true rfl)⟩ (fun r9 w9 hp9 => ?_)
  obtain ⟨rfl, rfl⟩ := hp9
  refine Z_if_eq 7 16 dX3_growth_4 rfl rfl (fun c4 => absurd c4 (bI_ne (hdgN hi))) (fun c4 => ?_)
  refine Z_iload_n 8 2 dX3_growth_7 rfl rfl ?_
  refine Z_if_lt 11 16 dX3_growth_8 rfl rfl (fun c8 => absurd c8 (hy0)) (fun c8 => ?_)
  refine Z_iload_n 12 2 dX3_growth_11 rfl rfl ?_
  refine Z_iconst 13 (nI 5) dX3_growth_12 rfl rfl ?_
  refine Z_icmp_le 16 18 dX3_growth_13 rfl rfl (fun c13 => ?_) (fun c13 => absurd (Int32.not_lt.mp hy1) c13)
  refine Z_aload_n 19 0 dX3_growth_18 rfl rfl ?_
  refine Z_callV 22 [] 3 (zX3_remember s hs hst hh) dX3_growth_19 rfl qX3_41 kX3_remember rfl rfl (Nat.le_of_ble_eq_true rfl) rfl rfl ⟨(Nat.le_of_ble_eq_true rfl), (Nat.le_of_ble_eq_true rfl)⟩ (Nat.le_of_ble_eq_true rfl) ⟨rfl, rfl⟩ ⟨(Nat.le_of_ble_eq_true rfl), (Nat.le_of_ble_eq_true rfl)⟩ (fun r9 w9 hp9 => ?_)
  obtain ⟨rfl, rfl⟩ := hp9
  refine Z_aload_n 23 0 dX3_growth_22 rfl rfl ?_
  refine Z_getR 26 dX3_growth_23 rfl fX3_10 (Nat.le_of_ble_eq_true rfl) rfl rfl ?_
  refine Z_getR 29 dX3_growth_26 rfl fX3_48 (Nat.le_of_ble_eq_true rfl) rfl rfl ?_
  refine Z_iload_n 30 1 dX3_growth_29 rfl rfl ?_
  refine Z_ialn 31 dX3_growth_30 rfl (Nat.le_of_ble_eq_true rfl) rfl (by first | assumption | omega) (by decide) ?_
  refine Z_istore_n 32 [(3, _), (0, _), (1, _), (2, _)] dX3_growth_31 rfl (Nat.le_of_ble_eq_true rfl) rfl ?_
  refine Z_aload_n 33 1 dX3_growth_32 rfl rfl ?_
  refine Z_getR 36 dX3_growth_33 rfl fX3_10 (Nat.le_of_ble_eq_true rfl) rfl rfl ?_
  refine Z_getR 39 dX3_growth_36 rfl fX3_48 (Nat.le_of_ble_eq_true rfl) rfl rfl ?_
  refine Z_iload_n 40 2 dX3_growth_39 rfl rfl ?_
  refine Z_iload_n 41 3 dX3_growth_40 rfl rfl ?_
  refine Z_iasn 42 dX3_growth_41 rfl (Nat.le_of_ble_eq_true rfl) rfl (by first | assumption | omega) (by decide) ?_
  refine Z_iload_n 43 0 dX3_growth_42 rfl rfl ?_
  exact Z_iret dX3_growth_43 rfl ⟨rfl, rfl⟩

set_option maxRecDepth 100000 in
set_option maxHeartbeats 4000000 in
theorem eX3_nest {G : zG} {l : Launch} {h : Nat → Nat} {m : zM} (x y : Int32) (hne : ¬ (hdg x ∧ ¬ y < 0 ∧ ¬ nI 30 < y)) : zMet G l yX3_nest mX3_nest [.ref (G.1 + 0), .int x, .int y] (zw h m) (fun r w => r = some (.int (-1)) ∧ w = zw h m) 0 0 := by
  refine zMet_of [(0, .ref (G.1 + 0)), (1, .int x), (2, .int y)] (by decide +kernel) rfl (Or.inl rfl) (Nat.le_of_ble_eq_true rfl) rfl ?_
  refine Z_iload_n 1 1 dX3_nest_0 rfl rfl ?_
  refine Z_callS 4 [_] (zX3_isHedge _) dX3_nest_1 rfl qX3_37 kX3_isHedge rfl rfl ⟨(Nat.le_of_ble_eq_true rfl), (Nat.le_of_ble_eq_true rfl)⟩ (Nat.le_of_ble_eq_true rfl) ⟨rfl, rfl⟩ ⟨(Nat.le_of_ble_eq_true rfl), (Nat.le_of_ble_eq_true rfl)⟩ (fun r9 w9 hp9 => ?_)
  obtain ⟨rfl, rfl⟩ := hp9
  refine Z_if_eq 7 17 dX3_nest_4 rfl rfl (fun c4 => ?_) (fun c4 => ?_)
  · skip
    refine Z_iconst 18 (-1) dX3_nest_17 rfl rfl ?_
    exact Z_iret dX3_nest_18 rfl ⟨rfl, rfl⟩
  · skip
    refine Z_iload_n 8 2 dX3_nest_7 rfl rfl ?_
    refine Z_if_lt 11 17 dX3_nest_8 rfl rfl (fun c8 => ?_) (fun c8 => ?_)
    · skip
      refine Z_iconst 18 (-1) dX3_nest_17 rfl rfl ?_
      exact Z_iret dX3_nest_18 rfl ⟨rfl, rfl⟩
    · skip
      refine Z_iload_n 12 2 dX3_nest_11 rfl rfl ?_
      refine Z_bipush 14 (nI 30) dX3_nest_12 rfl rfl ?_
      refine Z_icmp_le 17 19 dX3_nest_14 rfl rfl (fun c14 => ?_) (fun c14 => ?_)
      · skip
        exact absurd ⟨bI_1 c4, c8, Int32.not_lt.mpr c14⟩ hne
      · skip
        refine Z_iconst 18 (-1) dX3_nest_17 rfl rfl ?_
        exact Z_iret dX3_nest_18 rfl ⟨rfl, rfl⟩

set_option maxRecDepth 100000 in
set_option maxHeartbeats 4000000 in
theorem zX3_nest {G : zG} {l : Launch} {h : Nat → Nat} {m : zM} (s : Nat) (hs : s ≤ 4) (hst : m 0 5 = nI s) (hh : hOk h) (i : Nat) (hi : i < 8) (y : Int32) (hy0 : ¬ y < 0) (hy1 : ¬ nI 30 < y) : zMet G l yX3_nest mX3_nest [.ref (G.1 + 0), .int (nI i), .int y] (zw h m) (fun r w => r = some (.int (mRem h m s 4 i)) ∧ w = zw (hRem h s) (up2 (mRem h m s) 4 i (mRem h m s 1 9 + y))) 0 0 := by
  refine zMet_of [(0, .ref (G.1 + 0)), (1, .int (nI i)), (2, .int y)] (by decide +kernel) rfl (Or.inl rfl) (Nat.le_of_ble_eq_true rfl) rfl ?_
  refine Z_iload_n 1 1 dX3_nest_0 rfl rfl ?_
  refine Z_callS 4 [_] (zX3_isHedge _) dX3_nest_1 rfl qX3_37 kX3_isHedge rfl rfl ⟨(Nat.le_of_ble_eq_true rfl), (Nat.le_of_ble_eq_true rfl)⟩ (Nat.le_of_ble_eq_true rfl) ⟨rfl, rfl⟩ ⟨(Nat.le_of_ble_eq_true rfl), (Nat.le_of_ble_eq_true rfl)⟩ (fun r9 w9 hp9 => ?_)
  obtain ⟨rfl, rfl⟩ := hp9
  refine Z_if_eq 7 17 dX3_nest_4 rfl rfl (fun c4 => absurd c4 (bI_ne (hdgN hi))) (fun c4 => ?_)
  refine Z_iload_n 8 2 dX3_nest_7 rfl rfl ?_
  refine Z_if_lt 11 17 dX3_nest_8 rfl rfl (fun c8 => absurd c8 (hy0)) (fun c8 => ?_)
  refine Z_iload_n 12 2 dX3_nest_11 rfl rfl ?_
  refine Z_bipush 14 (nI 30) dX3_nest_12 rfl rfl ?_
  refine Z_icmp_le 17 19 dX3_nest_14 rfl rfl (fun c14 => ?_) (fun c14 => absurd (Int32.not_lt.mp hy1) c14)
  refine Z_aload_n 20 0 dX3_nest_19 rfl rfl ?_
  refine Z_callV 23 [] 3 (zX3_remember s hs hst hh) dX3_nest_20 rfl qX3_41 kX3_remember rfl rfl (Nat.le_of_ble_eq_true rfl) rfl rfl ⟨(Nat.le_of_ble_eq_true rfl), (Nat.le_of_ble_eq_true rfl)⟩ (Nat.le_of_ble_eq_true rfl) ⟨rfl, rfl⟩ ⟨(Nat.le_of_ble_eq_true rfl), (Nat.le_of_ble_eq_true rfl)⟩ (fun r9 w9 hp9 => ?_)
  obtain ⟨rfl, rfl⟩ := hp9
  refine Z_aload_n 24 0 dX3_nest_23 rfl rfl ?_
  refine Z_getR 27 dX3_nest_24 rfl fX3_10 (Nat.le_of_ble_eq_true rfl) rfl rfl ?_
  refine Z_getR 30 dX3_nest_27 rfl fX3_51 (Nat.le_of_ble_eq_true rfl) rfl rfl ?_
  refine Z_iload_n 31 1 dX3_nest_30 rfl rfl ?_
  refine Z_ialn 32 dX3_nest_31 rfl (Nat.le_of_ble_eq_true rfl) rfl (by first | assumption | omega) (by decide) ?_
  refine Z_istore_n 33 [(3, _), (0, _), (1, _), (2, _)] dX3_nest_32 rfl (Nat.le_of_ble_eq_true rfl) rfl ?_
  refine Z_aload_n 34 1 dX3_nest_33 rfl rfl ?_
  refine Z_getR 37 dX3_nest_34 rfl fX3_10 (Nat.le_of_ble_eq_true rfl) rfl rfl ?_
  refine Z_getR 40 dX3_nest_37 rfl fX3_51 (Nat.le_of_ble_eq_true rfl) rfl rfl ?_
  refine Z_iload_n 41 2 dX3_nest_40 rfl rfl ?_
  refine Z_aload_n 42 1 dX3_nest_41 rfl rfl ?_
  refine Z_getR 45 dX3_nest_42 rfl fX3_10 (Nat.le_of_ble_eq_true rfl) rfl rfl ?_
  refine Z_getI 48 dX3_nest_45 rfl fX3_54 (Nat.le_of_ble_eq_true rfl) rfl rfl ?_
  refine Z_iload_n 49 3 dX3_nest_48 rfl rfl ?_
  refine Z_iadd 50 dX3_nest_49 rfl ?_
  refine Z_iasn 51 dX3_nest_50 rfl (Nat.le_of_ble_eq_true rfl) rfl (by first | assumption | omega) (by decide) ?_
  refine Z_iload_n 52 0 dX3_nest_51 rfl rfl ?_
  exact Z_iret dX3_nest_52 rfl ⟨rfl, rfl⟩

set_option maxRecDepth 100000 in
set_option maxHeartbeats 4000000 in
theorem eX3_clip {G : zG} {l : Launch} {h : Nat → Nat} {m : zM} (x y : Int32) (hne : ¬ (hdg x ∧ ¬ y < nI 1 ∧ ¬ nI 99 < y)) : zMet G l yX3_clip mX3_clip [.ref (G.1 + 0), .int x, .int y] (zw h m) (fun r w => r = some (.int (-1)) ∧ w = zw h m) 0 0 := by
  refine zMet_of [(0, .ref (G.1 + 0)), (1, .int x), (2, .int y)] (by decide +kernel) rfl (Or.inl rfl) (Nat.le_of_ble_eq_true rfl) rfl ?_
  refine Z_iload_n 1 1 dX3_clip_0 rfl rfl ?_
  refine Z_callS 4 [_] (zX3_isHedge _) dX3_clip_1 rfl qX3_37 kX3_isHedge rfl rfl ⟨(Nat.le_of_ble_eq_true rfl), (Nat.le_of_ble_eq_true rfl)⟩ (Nat.le_of_ble_eq_true rfl) ⟨rfl, rfl⟩ ⟨(Nat.le_of_ble_eq_true rfl), (Nat.le_of_ble_eq_true rfl)⟩ (fun r9 w9 hp9 => ?_)
  obtain ⟨rfl, rfl⟩ := hp9
  refine Z_if_eq 7 18 dX3_clip_4 rfl rfl (fun c4 => ?_) (fun c4 => ?_)
  · skip
    refine Z_iconst 19 (-1) dX3_clip_18 rfl rfl ?_
    exact Z_iret dX3_clip_19 rfl ⟨rfl, rfl⟩
  · skip
    refine Z_iload_n 8 2 dX3_clip_7 rfl rfl ?_
    refine Z_iconst 9 (nI 1) dX3_clip_8 rfl rfl ?_
    refine Z_icmp_lt 12 18 dX3_clip_9 rfl rfl (fun c9 => ?_) (fun c9 => ?_)
    · skip
      refine Z_iconst 19 (-1) dX3_clip_18 rfl rfl ?_
      exact Z_iret dX3_clip_19 rfl ⟨rfl, rfl⟩
    · skip
      refine Z_iload_n 13 2 dX3_clip_12 rfl rfl ?_
      refine Z_bipush 15 (nI 99) dX3_clip_13 rfl rfl ?_
      refine Z_icmp_le 18 20 dX3_clip_15 rfl rfl (fun c15 => ?_) (fun c15 => ?_)
      · skip
        exact absurd ⟨bI_1 c4, c9, Int32.not_lt.mpr c15⟩ hne
      · skip
        refine Z_iconst 19 (-1) dX3_clip_18 rfl rfl ?_
        exact Z_iret dX3_clip_19 rfl ⟨rfl, rfl⟩

def clipR (m : zM) (i : Nat) (y : Int32) : Int32 := if sNest m 1 i then nI 3 else if m 2 i < y then nI 4 else nI 10 + (m 2 i - y)
def clipM (m : zM) (i : Nat) (y : Int32) : zM := if sNest m 1 i then refM m else if m 2 i < y then refM m else cutM m 1 i y
theorem clip_1 {m : zM} {i : Nat} {y : Int32} (h : sNest m 1 i) : clipR m i y = nI 3 ∧ clipM m i y = refM m := ⟨if_pos h, if_pos h⟩
theorem clip_2 {m : zM} {i : Nat} {y : Int32} (h : ¬ sNest m 1 i) (h2 : m 2 i < y) : clipR m i y = nI 4 ∧ clipM m i y = refM m := ⟨(if_neg h).trans (if_pos h2), (if_neg h).trans (if_pos h2)⟩
theorem clip_3 {m : zM} {i : Nat} {y : Int32} (h : ¬ sNest m 1 i) (h2 : ¬ m 2 i < y) : clipR m i y = nI 10 + (m 2 i - y) ∧ clipM m i y = cutM m 1 i y := ⟨(if_neg h).trans (if_neg h2), (if_neg h).trans (if_neg h2)⟩
theorem rw_of {G : zG} {r : Option Value} {v v' : Int32} {w : zW} {h : Nat → Nat} {m m' : zM} (e : v' = v ∧ m' = m) : some (Value.int v) = some (Value.int v') ∧ zw h m = zw h m' := by rw [e.1, e.2]; exact ⟨rfl, rfl⟩
theorem cutM_2 (m : zM) (i : Nat) (y : Int32) : cutM m 1 i y 2 i = m 2 i - y := by simp [cutM, up2]
set_option maxRecDepth 100000 in
set_option maxHeartbeats 4000000 in
theorem zX3_clip {G : zG} {l : Launch} {h : Nat → Nat} {m : zM} (s : Nat) (hs : s ≤ 4) (hst : m 0 5 = nI s) (hh : hOk h) (i : Nat) (hi : i < 8) (y : Int32) (hy0 : ¬ y < nI 1) (hy1 : ¬ nI 99 < y) : zMet G l yX3_clip mX3_clip [.ref (G.1 + 0), .int (nI i), .int y] (zw h m) (fun r w => r = some (.int (clipR (mRem h m s) i y)) ∧ w = zw (hRem h s) (clipM (mRem h m s) i y)) 0 0 := by
  refine zMet_of [(0, .ref (G.1 + 0)), (1, .int (nI i)), (2, .int y)] (by decide +kernel) rfl (Or.inl rfl) (Nat.le_of_ble_eq_true rfl) rfl ?_
  refine Z_iload_n 1 1 dX3_clip_0 rfl rfl ?_
  refine Z_callS 4 [_] (zX3_isHedge _) dX3_clip_1 rfl qX3_37 kX3_isHedge rfl rfl ⟨(Nat.le_of_ble_eq_true rfl), (Nat.le_of_ble_eq_true rfl)⟩ (Nat.le_of_ble_eq_true rfl) ⟨rfl, rfl⟩ ⟨(Nat.le_of_ble_eq_true rfl), (Nat.le_of_ble_eq_true rfl)⟩ (fun r9 w9 hp9 => ?_)
  obtain ⟨rfl, rfl⟩ := hp9
  refine Z_if_eq 7 18 dX3_clip_4 rfl rfl (fun c4 => absurd c4 (bI_ne (hdgN hi))) (fun c4 => ?_)
  refine Z_iload_n 8 2 dX3_clip_7 rfl rfl ?_
  refine Z_iconst 9 (nI 1) dX3_clip_8 rfl rfl ?_
  refine Z_icmp_lt 12 18 dX3_clip_9 rfl rfl (fun c9 => absurd c9 (hy0)) (fun c9 => ?_)
  refine Z_iload_n 13 2 dX3_clip_12 rfl rfl ?_
  refine Z_bipush 15 (nI 99) dX3_clip_13 rfl rfl ?_
  refine Z_icmp_le 18 20 dX3_clip_15 rfl rfl (fun c15 => ?_) (fun c15 => absurd (Int32.not_lt.mp hy1) c15)
  refine Z_aload_n 21 0 dX3_clip_20 rfl rfl ?_
  refine Z_callV 24 [] 3 (zX3_remember s hs hst hh) dX3_clip_21 rfl qX3_41 kX3_remember rfl rfl (Nat.le_of_ble_eq_true rfl) rfl rfl ⟨(Nat.le_of_ble_eq_true rfl), (Nat.le_of_ble_eq_true rfl)⟩ (Nat.le_of_ble_eq_true rfl) ⟨rfl, rfl⟩ ⟨(Nat.le_of_ble_eq_true rfl), (Nat.le_of_ble_eq_true rfl)⟩ (fun r9 w9 hp9 => ?_)
  obtain ⟨rfl, rfl⟩ := hp9
  refine Z_aload_n 25 0 dX3_clip_24 rfl rfl ?_
  refine Z_getR 28 dX3_clip_25 rfl fX3_10 (Nat.le_of_ble_eq_true rfl) rfl rfl ?_
  refine Z_iload_n 29 1 dX3_clip_28 rfl rfl ?_
  refine Z_callV 32 [_] 1 (zX1_isNested 1 (Or.inl rfl) i hi) dX3_clip_29 rfl qX3_58 kX1_isNested rfl rfl (Nat.le_of_ble_eq_true rfl) rfl rfl ⟨(Nat.le_of_ble_eq_true rfl), (Nat.le_of_ble_eq_true rfl)⟩ (Nat.le_of_ble_eq_true rfl) ⟨rfl, rfl⟩ ⟨(Nat.le_of_ble_eq_true rfl), (Nat.le_of_ble_eq_true rfl)⟩ (fun r9 w9 hp9 => ?_)
  obtain ⟨rfl, rfl⟩ := hp9
  refine Z_if_eq 35 41 dX3_clip_32 rfl rfl (fun c32 => ?_) (fun c32 => ?_)
  · skip
    refine Z_iload_n 42 2 dX3_clip_41 rfl rfl ?_
    refine Z_aload_n 43 0 dX3_clip_42 rfl rfl ?_
    refine Z_getR 46 dX3_clip_43 rfl fX3_10 (Nat.le_of_ble_eq_true rfl) rfl rfl ?_
    refine Z_getR 49 dX3_clip_46 rfl fX3_44 (Nat.le_of_ble_eq_true rfl) rfl rfl ?_
    refine Z_iload_n 50 1 dX3_clip_49 rfl rfl ?_
    refine Z_ialn 51 dX3_clip_50 rfl (Nat.le_of_ble_eq_true rfl) rfl (by first | assumption | omega) (by decide) ?_
    refine Z_icmp_le 54 60 dX3_clip_51 rfl rfl (fun c51 => ?_) (fun c51 => ?_)
    · skip
      refine Z_aload_n 61 0 dX3_clip_60 rfl rfl ?_
      refine Z_getR 64 dX3_clip_61 rfl fX3_10 (Nat.le_of_ble_eq_true rfl) rfl rfl ?_
      refine Z_iload_n 65 1 dX3_clip_64 rfl rfl ?_
      refine Z_iload_n 66 2 dX3_clip_65 rfl rfl ?_
      refine Z_callV 69 [_, _] 1 (zX1_cutOff 1 (Or.inl rfl) i hi y) dX3_clip_66 rfl qX3_65 kX1_cutOff rfl rfl (Nat.le_of_ble_eq_true rfl) rfl rfl ⟨(Nat.le_of_ble_eq_true rfl), (Nat.le_of_ble_eq_true rfl)⟩ (Nat.le_of_ble_eq_true rfl) ⟨rfl, rfl⟩ ⟨(Nat.le_of_ble_eq_true rfl), (Nat.le_of_ble_eq_true rfl)⟩ (fun r9 w9 hp9 => ?_)
      obtain ⟨rfl, rfl⟩ := hp9
      refine Z_bipush 71 (nI 10) dX3_clip_69 rfl rfl ?_
      refine Z_aload_n 72 0 dX3_clip_71 rfl rfl ?_
      refine Z_getR 75 dX3_clip_72 rfl fX3_10 (Nat.le_of_ble_eq_true rfl) rfl rfl ?_
      refine Z_getR 78 dX3_clip_75 rfl fX3_44 (Nat.le_of_ble_eq_true rfl) rfl rfl ?_
      refine Z_iload_n 79 1 dX3_clip_78 rfl rfl ?_
      refine Z_ialn 80 dX3_clip_79 rfl (Nat.le_of_ble_eq_true rfl) rfl (by first | assumption | omega) (by decide) ?_
      refine Z_top (v' := .int (mRem h m s 2 i - y)) (congrArg Value.int (cutM_2 _ _ _)) ?_
      refine Z_iadd 81 dX3_clip_80 rfl ?_
      exact Z_iret dX3_clip_81 rfl (rw_of (G := G) (r := none) (w := zw h m) (clip_3 (bI_0 c32) (Int32.not_lt.mpr c51)))
    · skip
      refine Z_aload_n 55 0 dX3_clip_54 rfl rfl ?_
      refine Z_iconst 56 (nI 4) dX3_clip_55 rfl rfl ?_
      refine Z_callV 59 [_] 3 (zX3_refuse _) dX3_clip_56 rfl qX3_61 kX3_refuse rfl rfl (Nat.le_of_ble_eq_true rfl) rfl rfl ⟨(Nat.le_of_ble_eq_true rfl), (Nat.le_of_ble_eq_true rfl)⟩ (Nat.le_of_ble_eq_true rfl) ⟨rfl, rfl⟩ ⟨(Nat.le_of_ble_eq_true rfl), (Nat.le_of_ble_eq_true rfl)⟩ (fun r9 w9 hp9 => ?_)
      obtain ⟨rfl, rfl⟩ := hp9
      exact Z_iret dX3_clip_59 rfl (rw_of (G := G) (r := none) (w := zw h m) (clip_2 (bI_0 c32) (Int32.not_le.mp c51)))
  · skip
    refine Z_aload_n 36 0 dX3_clip_35 rfl rfl ?_
    refine Z_iconst 37 (nI 3) dX3_clip_36 rfl rfl ?_
    refine Z_callV 40 [_] 3 (zX3_refuse _) dX3_clip_37 rfl qX3_61 kX3_refuse rfl rfl (Nat.le_of_ble_eq_true rfl) rfl rfl ⟨(Nat.le_of_ble_eq_true rfl), (Nat.le_of_ble_eq_true rfl)⟩ (Nat.le_of_ble_eq_true rfl) ⟨rfl, rfl⟩ ⟨(Nat.le_of_ble_eq_true rfl), (Nat.le_of_ble_eq_true rfl)⟩ (fun r9 w9 hp9 => ?_)
    obtain ⟨rfl, rfl⟩ := hp9
    exact Z_iret dX3_clip_40 rfl (rw_of (G := G) (r := none) (w := zw h m) (clip_1 (bI_1 c32)))

set_option maxRecDepth 100000 in
set_option maxHeartbeats 4000000 in
theorem zX3_day {G : zG} {l : Launch} {h : Nat → Nat} {m : zM} (s : Nat) (hs : s ≤ 4) (hst : m 0 5 = nI s) (hh : hOk h) (n : Nat) (hk : sOk m 1 n) : zMet G l yX3_day mX3_day [.ref (G.1 + 0)] (zw h m) (fun r w => r = some (.int (nI (cnt (fun j => decide (sBrk (dayM (mRem h m s) 1) 1 j (nI 0))) n))) ∧ w = zw (hRem h s) (dayM (mRem h m s) 1)) 0 0 := by
  refine zMet_of [(0, .ref (G.1 + 0))] (by decide +kernel) rfl (Or.inl rfl) (Nat.le_of_ble_eq_true rfl) rfl ?_
  refine Z_aload_n 1 0 dX3_day_0 rfl rfl ?_
  refine Z_callV 4 [] 3 (zX3_remember s hs hst hh) dX3_day_1 rfl qX3_41 kX3_remember rfl rfl (Nat.le_of_ble_eq_true rfl) rfl rfl ⟨(Nat.le_of_ble_eq_true rfl), (Nat.le_of_ble_eq_true rfl)⟩ (Nat.le_of_ble_eq_true rfl) ⟨rfl, rfl⟩ ⟨(Nat.le_of_ble_eq_true rfl), (Nat.le_of_ble_eq_true rfl)⟩ (fun r9 w9 hp9 => ?_)
  obtain ⟨rfl, rfl⟩ := hp9
  refine Z_aload_n 5 0 dX3_day_4 rfl rfl ?_
  refine Z_getR 8 dX3_day_5 rfl fX3_10 (Nat.le_of_ble_eq_true rfl) rfl rfl ?_
  refine Z_callV 11 [] 1 (zX1_passDay 1 (Or.inl rfl)) dX3_day_8 rfl qX3_80 kX1_passDay rfl rfl (Nat.le_of_ble_eq_true rfl) rfl rfl ⟨(Nat.le_of_ble_eq_true rfl), (Nat.le_of_ble_eq_true rfl)⟩ (Nat.le_of_ble_eq_true rfl) ⟨rfl, rfl⟩ ⟨(Nat.le_of_ble_eq_true rfl), (Nat.le_of_ble_eq_true rfl)⟩ (fun r9 w9 hp9 => ?_)
  obtain ⟨rfl, rfl⟩ := hp9
  refine Z_aload_n 12 0 dX3_day_11 rfl rfl ?_
  refine Z_getR 15 dX3_day_12 rfl fX3_10 (Nat.le_of_ble_eq_true rfl) rfl rfl ?_
  refine Z_iconst 16 (-1) dX3_day_15 rfl rfl ?_
  refine Z_iconst 17 (nI 0) dX3_day_16 rfl rfl ?_
  refine Z_callV 20 [_, _] 1 (zX1_countBroken 1 (Or.inl rfl) n (dayM_sOk (mRem_sOk hh hk)) (-1) (nI 0)) dX3_day_17 rfl qX3_83 kX1_countBroken rfl rfl (Nat.le_of_ble_eq_true rfl) rfl rfl ⟨(Nat.le_of_ble_eq_true rfl), (Nat.le_of_ble_eq_true rfl)⟩ (Nat.le_of_ble_eq_true rfl) ⟨rfl, rfl⟩ ⟨(Nat.le_of_ble_eq_true rfl), (Nat.le_of_ble_eq_true rfl)⟩ (fun r9 w9 hp9 => ?_)
  obtain ⟨rfl, rfl⟩ := hp9
  exact Z_iret dX3_day_20 rfl ⟨congrArg (fun z => some (Value.int (nI z))) brk_0, rfl⟩

set_option maxRecDepth 100000 in
set_option maxHeartbeats 4000000 in
theorem eX3_cancel {G : zG} {l : Launch} {h : Nat → Nat} {m : zM} (n : Nat) (hk : m 1 8 = nI n) (x : Int32) (hne : ¬ (¬ x < 0 ∧ x < nI n)) : zMet G l yX3_cancel mX3_cancel [.ref (G.1 + 0), .int x] (zw h m) (fun r w => r = some (.int (-1)) ∧ w = zw h m) 0 0 := by
  refine zMet_of [(0, .ref (G.1 + 0)), (1, .int x)] (by decide +kernel) rfl (Or.inl rfl) (Nat.le_of_ble_eq_true rfl) rfl ?_
  refine Z_aload_n 1 0 dX3_cancel_0 rfl rfl ?_
  refine Z_iload_n 2 1 dX3_cancel_1 rfl rfl ?_
  refine Z_callV 5 [_] 3 (zX3_isTreaty n hk _) dX3_cancel_2 rfl qX3_94 kX3_isTreaty rfl rfl (Nat.le_of_ble_eq_true rfl) rfl rfl ⟨(Nat.le_of_ble_eq_true rfl), (Nat.le_of_ble_eq_true rfl)⟩ (Nat.le_of_ble_eq_true rfl) ⟨rfl, rfl⟩ ⟨(Nat.le_of_ble_eq_true rfl), (Nat.le_of_ble_eq_true rfl)⟩ (fun r9 w9 hp9 => ?_)
  obtain ⟨rfl, rfl⟩ := hp9
  refine Z_if_ne 8 10 dX3_cancel_5 rfl rfl (fun c5 => absurd c5 (fun q => q (bI_z hne))) (fun c5 => ?_)
  refine Z_iconst 9 (-1) dX3_cancel_8 rfl rfl ?_
  exact Z_iret dX3_cancel_9 rfl ⟨rfl, rfl⟩

set_option maxRecDepth 100000 in
set_option maxHeartbeats 4000000 in
theorem zX3_cancel {G : zG} {l : Launch} {h : Nat → Nat} {m : zM} (s : Nat) (hs : s ≤ 4) (hst : m 0 5 = nI s) (hh : hOk h) (n : Nat) (hn : n ≤ 14) (hk : m 1 8 = nI n) (t : Nat) (ht : t < n) : zMet G l yX3_cancel mX3_cancel [.ref (G.1 + 0), .int (nI t)] (zw h m) (fun r w => r = some (.int (nI (n - 1))) ∧ w = zw (hRem h s) (up2 (rmM (mRem h m s) 1 t n) 1 8 (nI (n - 1)))) 0 0 := by
  refine zMet_of [(0, .ref (G.1 + 0)), (1, .int (nI t))] (by decide +kernel) rfl (Or.inl rfl) (Nat.le_of_ble_eq_true rfl) rfl ?_
  refine Z_aload_n 1 0 dX3_cancel_0 rfl rfl ?_
  refine Z_iload_n 2 1 dX3_cancel_1 rfl rfl ?_
  refine Z_callV 5 [_] 3 (zX3_isTreaty n hk _) dX3_cancel_2 rfl qX3_94 kX3_isTreaty rfl rfl (Nat.le_of_ble_eq_true rfl) rfl rfl ⟨(Nat.le_of_ble_eq_true rfl), (Nat.le_of_ble_eq_true rfl)⟩ (Nat.le_of_ble_eq_true rfl) ⟨rfl, rfl⟩ ⟨(Nat.le_of_ble_eq_true rfl), (Nat.le_of_ble_eq_true rfl)⟩ (fun r9 w9 hp9 => ?_)
  obtain ⟨rfl, rfl⟩ := hp9
  refine Z_if_ne 8 10 dX3_cancel_5 rfl rfl (fun c5 => ?_) (fun c5 => absurd (bI_ne (rngN ht (by omega))) c5)
  refine Z_aload_n 11 0 dX3_cancel_10 rfl rfl ?_
  refine Z_callV 14 [] 3 (zX3_remember s hs hst hh) dX3_cancel_11 rfl qX3_41 kX3_remember rfl rfl (Nat.le_of_ble_eq_true rfl) rfl rfl ⟨(Nat.le_of_ble_eq_true rfl), (Nat.le_of_ble_eq_true rfl)⟩ (Nat.le_of_ble_eq_true rfl) ⟨rfl, rfl⟩ ⟨(Nat.le_of_ble_eq_true rfl), (Nat.le_of_ble_eq_true rfl)⟩ (fun r9 w9 hp9 => ?_)
  obtain ⟨rfl, rfl⟩ := hp9
  refine Z_aload_n 15 0 dX3_cancel_14 rfl rfl ?_
  refine Z_getR 18 dX3_cancel_15 rfl fX3_10 (Nat.le_of_ble_eq_true rfl) rfl rfl ?_
  refine Z_iload_n 19 1 dX3_cancel_18 rfl rfl ?_
  refine Z_callV 22 [_] 1 (zX1_removeTreaty 1 (Or.inl rfl) n t ht hn (by rw [mRem_o hh (by decide) (by decide)]; exact hk)) dX3_cancel_19 rfl qX3_97 kX1_removeTreaty rfl rfl (Nat.le_of_ble_eq_true rfl) rfl rfl ⟨(Nat.le_of_ble_eq_true rfl), (Nat.le_of_ble_eq_true rfl)⟩ (Nat.le_of_ble_eq_true rfl) ⟨rfl, rfl⟩ ⟨(Nat.le_of_ble_eq_true rfl), (Nat.le_of_ble_eq_true rfl)⟩ (fun r9 w9 hp9 => ?_)
  obtain ⟨rfl, rfl⟩ := hp9
  refine Z_aload_n 23 0 dX3_cancel_22 rfl rfl ?_
  refine Z_getR 26 dX3_cancel_23 rfl fX3_10 (Nat.le_of_ble_eq_true rfl) rfl rfl ?_
  refine Z_getI 29 dX3_cancel_26 rfl fX3_101 (Nat.le_of_ble_eq_true rfl) rfl rfl ?_
  refine Z_top (v' := .int (nI (n - 1))) (congrArg Value.int (up2_eq _ _ _ _)) ?_
  exact Z_iret dX3_cancel_29 rfl ⟨rfl, rfl⟩

set_option maxRecDepth 100000 in
set_option maxHeartbeats 4000000 in
theorem eX3_freeze {G : zG} {l : Launch} {h : Nat → Nat} {m : zM} (n : Nat) (hk : m 1 8 = nI n) (x y : Int32) (hne : ¬ ((¬ x < 0 ∧ x < nI n) ∧ ¬ y < nI 1 ∧ ¬ nI 30 < y)) : zMet G l yX3_freeze mX3_freeze [.ref (G.1 + 0), .int x, .int y] (zw h m) (fun r w => r = some (.int (-1)) ∧ w = zw h m) 0 0 := by
  refine zMet_of [(0, .ref (G.1 + 0)), (1, .int x), (2, .int y)] (by decide +kernel) rfl (Or.inl rfl) (Nat.le_of_ble_eq_true rfl) rfl ?_
  refine Z_aload_n 1 0 dX3_freeze_0 rfl rfl ?_
  refine Z_iload_n 2 1 dX3_freeze_1 rfl rfl ?_
  refine Z_callV 5 [_] 3 (zX3_isTreaty n hk _) dX3_freeze_2 rfl qX3_94 kX3_isTreaty rfl rfl (Nat.le_of_ble_eq_true rfl) rfl rfl ⟨(Nat.le_of_ble_eq_true rfl), (Nat.le_of_ble_eq_true rfl)⟩ (Nat.le_of_ble_eq_true rfl) ⟨rfl, rfl⟩ ⟨(Nat.le_of_ble_eq_true rfl), (Nat.le_of_ble_eq_true rfl)⟩ (fun r9 w9 hp9 => ?_)
  obtain ⟨rfl, rfl⟩ := hp9
  refine Z_if_eq 8 19 dX3_freeze_5 rfl rfl (fun c5 => ?_) (fun c5 => ?_)
  · skip
    refine Z_iconst 20 (-1) dX3_freeze_19 rfl rfl ?_
    exact Z_iret dX3_freeze_20 rfl ⟨rfl, rfl⟩
  · skip
    refine Z_iload_n 9 2 dX3_freeze_8 rfl rfl ?_
    refine Z_iconst 10 (nI 1) dX3_freeze_9 rfl rfl ?_
    refine Z_icmp_lt 13 19 dX3_freeze_10 rfl rfl (fun c10 => ?_) (fun c10 => ?_)
    · skip
      refine Z_iconst 20 (-1) dX3_freeze_19 rfl rfl ?_
      exact Z_iret dX3_freeze_20 rfl ⟨rfl, rfl⟩
    · skip
      refine Z_iload_n 14 2 dX3_freeze_13 rfl rfl ?_
      refine Z_bipush 16 (nI 30) dX3_freeze_14 rfl rfl ?_
      refine Z_icmp_le 19 21 dX3_freeze_16 rfl rfl (fun c16 => ?_) (fun c16 => ?_)
      · skip
        exact absurd ⟨bI_1 c5, c10, Int32.not_lt.mpr c16⟩ hne
      · skip
        refine Z_iconst 20 (-1) dX3_freeze_19 rfl rfl ?_
        exact Z_iret dX3_freeze_20 rfl ⟨rfl, rfl⟩

def frM (m : zM) (t : Nat) (y : Int32) : zM := if sBrk m 1 t (nI 0) then up2 (up2 m 1 10 (m 1 10 + nI 1)) 9 t (m 1 9 + y) else up2 m 9 t (m 1 9 + y)
def frR (m : zM) (t : Nat) : Int32 := if sBrk m 1 t (nI 0) then m 1 10 + nI 1 else m 1 10
theorem fr_1 {m : zM} {t : Nat} {y : Int32} (h : sBrk m 1 t (nI 0)) : frR m t = m 1 10 + nI 1 ∧ frM m t y = up2 (up2 m 1 10 (m 1 10 + nI 1)) 9 t (m 1 9 + y) := ⟨if_pos h, if_pos h⟩
theorem fr_2 {m : zM} {t : Nat} {y : Int32} (h : ¬ sBrk m 1 t (nI 0)) : frR m t = m 1 10 ∧ frM m t y = up2 m 9 t (m 1 9 + y) := ⟨if_neg h, if_neg h⟩
set_option maxRecDepth 100000 in
set_option maxHeartbeats 4000000 in
theorem zX3_freeze {G : zG} {l : Launch} {h : Nat → Nat} {m : zM} (s : Nat) (hs : s ≤ 4) (hst : m 0 5 = nI s) (hh : hOk h) (n : Nat) (hk : sOk m 1 n) (t : Nat) (ht : t < n) (y : Int32) (hy0 : ¬ y < nI 1) (hy1 : ¬ nI 30 < y) : zMet G l yX3_freeze mX3_freeze [.ref (G.1 + 0), .int (nI t), .int y] (zw h m) (fun r w => r = some (.int (frR (mRem h m s) t)) ∧ w = zw (hRem h s) (frM (mRem h m s) t y)) 0 0 := by
  refine zMet_of [(0, .ref (G.1 + 0)), (1, .int (nI t)), (2, .int y)] (by decide +kernel) rfl (Or.inl rfl) (Nat.le_of_ble_eq_true rfl) rfl ?_
  have hn := hk.2.1
  have ht14 : t < 14 := by omega
  refine Z_aload_n 1 0 dX3_freeze_0 rfl rfl ?_
  refine Z_iload_n 2 1 dX3_freeze_1 rfl rfl ?_
  refine Z_callV 5 [_] 3 (zX3_isTreaty n hk.1 _) dX3_freeze_2 rfl qX3_94 kX3_isTreaty rfl rfl (Nat.le_of_ble_eq_true rfl) rfl rfl ⟨(Nat.le_of_ble_eq_true rfl), (Nat.le_of_ble_eq_true rfl)⟩ (Nat.le_of_ble_eq_true rfl) ⟨rfl, rfl⟩ ⟨(Nat.le_of_ble_eq_true rfl), (Nat.le_of_ble_eq_true rfl)⟩ (fun r9 w9 hp9 => ?_)
  obtain ⟨rfl, rfl⟩ := hp9
  refine Z_if_eq 8 19 dX3_freeze_5 rfl rfl (fun c5 => absurd c5 (bI_ne (rngN ht (by omega)))) (fun c5 => ?_)
  refine Z_iload_n 9 2 dX3_freeze_8 rfl rfl ?_
  refine Z_iconst 10 (nI 1) dX3_freeze_9 rfl rfl ?_
  refine Z_icmp_lt 13 19 dX3_freeze_10 rfl rfl (fun c10 => absurd c10 (hy0)) (fun c10 => ?_)
  refine Z_iload_n 14 2 dX3_freeze_13 rfl rfl ?_
  refine Z_bipush 16 (nI 30) dX3_freeze_14 rfl rfl ?_
  refine Z_icmp_le 19 21 dX3_freeze_16 rfl rfl (fun c16 => ?_) (fun c16 => absurd (Int32.not_lt.mp hy1) c16)
  refine Z_aload_n 22 0 dX3_freeze_21 rfl rfl ?_
  refine Z_callV 25 [] 3 (zX3_remember s hs hst hh) dX3_freeze_22 rfl qX3_41 kX3_remember rfl rfl (Nat.le_of_ble_eq_true rfl) rfl rfl ⟨(Nat.le_of_ble_eq_true rfl), (Nat.le_of_ble_eq_true rfl)⟩ (Nat.le_of_ble_eq_true rfl) ⟨rfl, rfl⟩ ⟨(Nat.le_of_ble_eq_true rfl), (Nat.le_of_ble_eq_true rfl)⟩ (fun r9 w9 hp9 => ?_)
  obtain ⟨rfl, rfl⟩ := hp9
  refine Z_aload_n 26 0 dX3_freeze_25 rfl rfl ?_
  refine Z_getR 29 dX3_freeze_26 rfl fX3_10 (Nat.le_of_ble_eq_true rfl) rfl rfl ?_
  refine Z_iload_n 30 1 dX3_freeze_29 rfl rfl ?_
  refine Z_callV 33 [_] 1 (zX1_isBroken 1 (Or.inl rfl) n (mRem_sOk hh hk) t ht) dX3_freeze_30 rfl qX3_104 kX1_isBroken rfl rfl (Nat.le_of_ble_eq_true rfl) rfl rfl ⟨(Nat.le_of_ble_eq_true rfl), (Nat.le_of_ble_eq_true rfl)⟩ (Nat.le_of_ble_eq_true rfl) ⟨rfl, rfl⟩ ⟨(Nat.le_of_ble_eq_true rfl), (Nat.le_of_ble_eq_true rfl)⟩ (fun r9 w9 hp9 => ?_)
  obtain ⟨rfl, rfl⟩ := hp9
  refine Z_if_eq 36 49 dX3_freeze_33 rfl rfl (fun c33 => ?_) (fun c33 => ?_)
  · skip
    refine Z_aload_n 50 0 dX3_freeze_49 rfl rfl ?_
    refine Z_getR 53 dX3_freeze_50 rfl fX3_10 (Nat.le_of_ble_eq_true rfl) rfl rfl ?_
    refine Z_getR 56 dX3_freeze_53 rfl fX3_110 (Nat.le_of_ble_eq_true rfl) rfl rfl ?_
    refine Z_iload_n 57 1 dX3_freeze_56 rfl rfl ?_
    refine Z_aload_n 58 0 dX3_freeze_57 rfl rfl ?_
    refine Z_getR 61 dX3_freeze_58 rfl fX3_10 (Nat.le_of_ble_eq_true rfl) rfl rfl ?_
    refine Z_getI 64 dX3_freeze_61 rfl fX3_54 (Nat.le_of_ble_eq_true rfl) rfl rfl ?_
    refine Z_top (v' := .int (mRem h m s 1 9)) (congrArg Value.int (by first | rfl | (simp [up2]; done))) ?_
    refine Z_iload_n 65 2 dX3_freeze_64 rfl rfl ?_
    refine Z_iadd 66 dX3_freeze_65 rfl ?_
    refine Z_iasn 67 dX3_freeze_66 rfl (Nat.le_of_ble_eq_true rfl) rfl (by first | assumption | omega) (by decide) ?_
    refine Z_aload_n 68 0 dX3_freeze_67 rfl rfl ?_
    refine Z_getR 71 dX3_freeze_68 rfl fX3_10 (Nat.le_of_ble_eq_true rfl) rfl rfl ?_
    refine Z_getI 74 dX3_freeze_71 rfl fX3_107 (Nat.le_of_ble_eq_true rfl) rfl rfl ?_
    refine Z_top (v' := .int (frR (mRem h m s) t)) (congrArg Value.int (by rw [(fr_2 (y := y) (bI_0 c33)).1]; simp [up2])) ?_
    exact Z_iret dX3_freeze_74 rfl ⟨rfl, by rw [(fr_2 (y := y) (bI_0 c33)).2]⟩
  · skip
    refine Z_aload_n 37 0 dX3_freeze_36 rfl rfl ?_
    refine Z_getR 40 dX3_freeze_37 rfl fX3_10 (Nat.le_of_ble_eq_true rfl) rfl rfl ?_
    refine Z_dup 41 dX3_freeze_40 rfl rfl ?_
    refine Z_getI 44 dX3_freeze_41 rfl fX3_107 (Nat.le_of_ble_eq_true rfl) rfl rfl ?_
    refine Z_iconst 45 (nI 1) dX3_freeze_44 rfl rfl ?_
    refine Z_iadd 46 dX3_freeze_45 rfl ?_
    refine Z_putI 49 .int dX3_freeze_46 rfl fX3_107 ft_1_10 (Nat.le_of_ble_eq_true rfl) rfl rfl rfl rfl ?_
    refine Z_aload_n 50 0 dX3_freeze_49 rfl rfl ?_
    refine Z_getR 53 dX3_freeze_50 rfl fX3_10 (Nat.le_of_ble_eq_true rfl) rfl rfl ?_
    refine Z_getR 56 dX3_freeze_53 rfl fX3_110 (Nat.le_of_ble_eq_true rfl) rfl rfl ?_
    refine Z_iload_n 57 1 dX3_freeze_56 rfl rfl ?_
    refine Z_aload_n 58 0 dX3_freeze_57 rfl rfl ?_
    refine Z_getR 61 dX3_freeze_58 rfl fX3_10 (Nat.le_of_ble_eq_true rfl) rfl rfl ?_
    refine Z_getI 64 dX3_freeze_61 rfl fX3_54 (Nat.le_of_ble_eq_true rfl) rfl rfl ?_
    refine Z_top (v' := .int (mRem h m s 1 9)) (congrArg Value.int (by first | rfl | (simp [up2]; done))) ?_
    refine Z_iload_n 65 2 dX3_freeze_64 rfl rfl ?_
    refine Z_iadd 66 dX3_freeze_65 rfl ?_
    refine Z_iasn 67 dX3_freeze_66 rfl (Nat.le_of_ble_eq_true rfl) rfl (by first | assumption | omega) (by decide) ?_
    refine Z_aload_n 68 0 dX3_freeze_67 rfl rfl ?_
    refine Z_getR 71 dX3_freeze_68 rfl fX3_10 (Nat.le_of_ble_eq_true rfl) rfl rfl ?_
    refine Z_getI 74 dX3_freeze_71 rfl fX3_107 (Nat.le_of_ble_eq_true rfl) rfl rfl ?_
    refine Z_top (v' := .int (frR (mRem h m s) t)) (congrArg Value.int (by rw [(fr_1 (y := y) (bI_1 c33)).1]; simp [up2])) ?_
    exact Z_iret dX3_freeze_74 rfl ⟨rfl, by rw [(fr_1 (y := y) (bI_1 c33)).2]⟩

set_option maxRecDepth 100000 in
set_option maxHeartbeats 4000000 in
theorem eX3_thaw {G : zG} {l : Launch} {h : Nat → Nat} {m : zM} (n : Nat) (hk : m 1 8 = nI n) (x : Int32) (hne : ¬ (¬ x < 0 ∧ x < nI n)) : zMet G l yX3_thaw mX3_thaw [.ref (G.1 + 0), .int x] (zw h m) (fun r w => r = some (.int (-1)) ∧ w = zw h m) 0 0 := by
  refine zMet_of [(0, .ref (G.1 + 0)), (1, .int x)] (by decide +kernel) rfl (Or.inl rfl) (Nat.le_of_ble_eq_true rfl) rfl ?_
  refine Z_aload_n 1 0 dX3_thaw_0 rfl rfl ?_
  refine Z_iload_n 2 1 dX3_thaw_1 rfl rfl ?_
  refine Z_callV 5 [_] 3 (zX3_isTreaty n hk _) dX3_thaw_2 rfl qX3_94 kX3_isTreaty rfl rfl (Nat.le_of_ble_eq_true rfl) rfl rfl ⟨(Nat.le_of_ble_eq_true rfl), (Nat.le_of_ble_eq_true rfl)⟩ (Nat.le_of_ble_eq_true rfl) ⟨rfl, rfl⟩ ⟨(Nat.le_of_ble_eq_true rfl), (Nat.le_of_ble_eq_true rfl)⟩ (fun r9 w9 hp9 => ?_)
  obtain ⟨rfl, rfl⟩ := hp9
  refine Z_if_ne 8 10 dX3_thaw_5 rfl rfl (fun c5 => absurd c5 (fun q => q (bI_z hne))) (fun c5 => ?_)
  refine Z_iconst 9 (-1) dX3_thaw_8 rfl rfl ?_
  exact Z_iret dX3_thaw_9 rfl ⟨rfl, rfl⟩

def thR (m : zM) (t : Nat) : Int32 := if sForce m 1 t then nI 5 else if m 1 10 < m 9 t - m 1 9 then nI 6 else nI 10 + (m 1 10 - (m 9 t - m 1 9))
def thM (m : zM) (t : Nat) : zM := if sForce m 1 t then refM m else if m 1 10 < m 9 t - m 1 9 then refM m else up2 (up2 m 1 10 (m 1 10 - (m 9 t - m 1 9))) 9 t (m 1 9)
theorem th_1 {m : zM} {t : Nat} (h : sForce m 1 t) : thR m t = nI 5 ∧ thM m t = refM m := ⟨if_pos h, if_pos h⟩
theorem th_2 {m : zM} {t : Nat} (h : ¬ sForce m 1 t) (h2 : m 1 10 < m 9 t - m 1 9) : thR m t = nI 6 ∧ thM m t = refM m := ⟨(if_neg h).trans (if_pos h2), (if_neg h).trans (if_pos h2)⟩
theorem th_3 {m : zM} {t : Nat} (h : ¬ sForce m 1 t) (h2 : ¬ m 1 10 < m 9 t - m 1 9) : thR m t = nI 10 + (m 1 10 - (m 9 t - m 1 9)) ∧ thM m t = up2 (up2 m 1 10 (m 1 10 - (m 9 t - m 1 9))) 9 t (m 1 9) := ⟨(if_neg h).trans (if_neg h2), (if_neg h).trans (if_neg h2)⟩
set_option maxRecDepth 100000 in
set_option maxHeartbeats 4000000 in
theorem zX3_thaw {G : zG} {l : Launch} {h : Nat → Nat} {m : zM} (s : Nat) (hs : s ≤ 4) (hst : m 0 5 = nI s) (hh : hOk h) (n : Nat) (hk : sOk m 1 n) (t : Nat) (ht : t < n) : zMet G l yX3_thaw mX3_thaw [.ref (G.1 + 0), .int (nI t)] (zw h m) (fun r w => r = some (.int (thR (mRem h m s) t)) ∧ w = zw (hRem h s) (thM (mRem h m s) t)) 0 0 := by
  refine zMet_of [(0, .ref (G.1 + 0)), (1, .int (nI t))] (by decide +kernel) rfl (Or.inl rfl) (Nat.le_of_ble_eq_true rfl) rfl ?_
  have hn := hk.2.1
  have ht14 : t < 14 := by omega
  refine Z_aload_n 1 0 dX3_thaw_0 rfl rfl ?_
  refine Z_iload_n 2 1 dX3_thaw_1 rfl rfl ?_
  refine Z_callV 5 [_] 3 (zX3_isTreaty n hk.1 _) dX3_thaw_2 rfl qX3_94 kX3_isTreaty rfl rfl (Nat.le_of_ble_eq_true rfl) rfl rfl ⟨(Nat.le_of_ble_eq_true rfl), (Nat.le_of_ble_eq_true rfl)⟩ (Nat.le_of_ble_eq_true rfl) ⟨rfl, rfl⟩ ⟨(Nat.le_of_ble_eq_true rfl), (Nat.le_of_ble_eq_true rfl)⟩ (fun r9 w9 hp9 => ?_)
  obtain ⟨rfl, rfl⟩ := hp9
  refine Z_if_ne 8 10 dX3_thaw_5 rfl rfl (fun c5 => ?_) (fun c5 => absurd (bI_ne (rngN ht (by omega))) c5)
  refine Z_aload_n 11 0 dX3_thaw_10 rfl rfl ?_
  refine Z_callV 14 [] 3 (zX3_remember s hs hst hh) dX3_thaw_11 rfl qX3_41 kX3_remember rfl rfl (Nat.le_of_ble_eq_true rfl) rfl rfl ⟨(Nat.le_of_ble_eq_true rfl), (Nat.le_of_ble_eq_true rfl)⟩ (Nat.le_of_ble_eq_true rfl) ⟨rfl, rfl⟩ ⟨(Nat.le_of_ble_eq_true rfl), (Nat.le_of_ble_eq_true rfl)⟩ (fun r9 w9 hp9 => ?_)
  obtain ⟨rfl, rfl⟩ := hp9
  refine Z_aload_n 15 0 dX3_thaw_14 rfl rfl ?_
  refine Z_getR 18 dX3_thaw_15 rfl fX3_10 (Nat.le_of_ble_eq_true rfl) rfl rfl ?_
  refine Z_iload_n 19 1 dX3_thaw_18 rfl rfl ?_
  refine Z_callV 22 [_] 1 (zX1_isInForce 1 (Or.inl rfl) t (by omega)) dX3_thaw_19 rfl qX3_113 kX1_isInForce rfl rfl (Nat.le_of_ble_eq_true rfl) rfl rfl ⟨(Nat.le_of_ble_eq_true rfl), (Nat.le_of_ble_eq_true rfl)⟩ (Nat.le_of_ble_eq_true rfl) ⟨rfl, rfl⟩ ⟨(Nat.le_of_ble_eq_true rfl), (Nat.le_of_ble_eq_true rfl)⟩ (fun r9 w9 hp9 => ?_)
  obtain ⟨rfl, rfl⟩ := hp9
  refine Z_if_eq 25 31 dX3_thaw_22 rfl rfl (fun c22 => ?_) (fun c22 => ?_)
  · skip
    refine Z_aload_n 32 0 dX3_thaw_31 rfl rfl ?_
    refine Z_getR 35 dX3_thaw_32 rfl fX3_10 (Nat.le_of_ble_eq_true rfl) rfl rfl ?_
    refine Z_getR 38 dX3_thaw_35 rfl fX3_110 (Nat.le_of_ble_eq_true rfl) rfl rfl ?_
    refine Z_iload_n 39 1 dX3_thaw_38 rfl rfl ?_
    refine Z_ialn 40 dX3_thaw_39 rfl (Nat.le_of_ble_eq_true rfl) rfl (by first | assumption | omega) (by decide) ?_
    refine Z_aload_n 41 0 dX3_thaw_40 rfl rfl ?_
    refine Z_getR 44 dX3_thaw_41 rfl fX3_10 (Nat.le_of_ble_eq_true rfl) rfl rfl ?_
    refine Z_getI 47 dX3_thaw_44 rfl fX3_54 (Nat.le_of_ble_eq_true rfl) rfl rfl ?_
    refine Z_isub 48 dX3_thaw_47 rfl ?_
    refine Z_istore_n 49 [(2, _), (0, _), (1, _)] dX3_thaw_48 rfl (Nat.le_of_ble_eq_true rfl) rfl ?_
    refine Z_iload_n 50 0 dX3_thaw_49 rfl rfl ?_
    refine Z_aload_n 51 1 dX3_thaw_50 rfl rfl ?_
    refine Z_getR 54 dX3_thaw_51 rfl fX3_10 (Nat.le_of_ble_eq_true rfl) rfl rfl ?_
    refine Z_getI 57 dX3_thaw_54 rfl fX3_107 (Nat.le_of_ble_eq_true rfl) rfl rfl ?_
    refine Z_icmp_le 60 67 dX3_thaw_57 rfl rfl (fun c57 => ?_) (fun c57 => ?_)
    · skip
      refine Z_aload_n 68 1 dX3_thaw_67 rfl rfl ?_
      refine Z_getR 71 dX3_thaw_68 rfl fX3_10 (Nat.le_of_ble_eq_true rfl) rfl rfl ?_
      refine Z_dup 72 dX3_thaw_71 rfl rfl ?_
      refine Z_getI 75 dX3_thaw_72 rfl fX3_107 (Nat.le_of_ble_eq_true rfl) rfl rfl ?_
      refine Z_iload_n 76 0 dX3_thaw_75 rfl rfl ?_
      refine Z_isub 77 dX3_thaw_76 rfl ?_
      refine Z_putI 80 .int dX3_thaw_77 rfl fX3_107 ft_1_10 (Nat.le_of_ble_eq_true rfl) rfl rfl rfl rfl ?_
      refine Z_aload_n 81 1 dX3_thaw_80 rfl rfl ?_
      refine Z_getR 84 dX3_thaw_81 rfl fX3_10 (Nat.le_of_ble_eq_true rfl) rfl rfl ?_
      refine Z_getR 87 dX3_thaw_84 rfl fX3_110 (Nat.le_of_ble_eq_true rfl) rfl rfl ?_
      refine Z_iload_n 88 2 dX3_thaw_87 rfl rfl ?_
      refine Z_aload_n 89 1 dX3_thaw_88 rfl rfl ?_
      refine Z_getR 92 dX3_thaw_89 rfl fX3_10 (Nat.le_of_ble_eq_true rfl) rfl rfl ?_
      refine Z_getI 95 dX3_thaw_92 rfl fX3_54 (Nat.le_of_ble_eq_true rfl) rfl rfl ?_
      refine Z_top (v' := .int (mRem h m s 1 9)) (congrArg Value.int (by simp [up2])) ?_
      refine Z_iasn 96 dX3_thaw_95 rfl (Nat.le_of_ble_eq_true rfl) rfl (by first | assumption | omega) (by decide) ?_
      refine Z_bipush 98 (nI 10) dX3_thaw_96 rfl rfl ?_
      refine Z_aload_n 99 1 dX3_thaw_98 rfl rfl ?_
      refine Z_getR 102 dX3_thaw_99 rfl fX3_10 (Nat.le_of_ble_eq_true rfl) rfl rfl ?_
      refine Z_getI 105 dX3_thaw_102 rfl fX3_107 (Nat.le_of_ble_eq_true rfl) rfl rfl ?_
      refine Z_top (v' := .int (mRem h m s 1 10 - (mRem h m s 9 t - mRem h m s 1 9))) (congrArg Value.int (by simp [up2])) ?_
      refine Z_iadd 106 dX3_thaw_105 rfl ?_
      exact Z_iret dX3_thaw_106 rfl (rw_of (G := G) (r := none) (w := zw h m) (th_3 (bI_0 c22) (Int32.not_lt.mpr c57)))
    · skip
      refine Z_aload_n 61 1 dX3_thaw_60 rfl rfl ?_
      refine Z_bipush 63 (nI 6) dX3_thaw_61 rfl rfl ?_
      refine Z_callV 66 [_] 3 (zX3_refuse _) dX3_thaw_63 rfl qX3_61 kX3_refuse rfl rfl (Nat.le_of_ble_eq_true rfl) rfl rfl ⟨(Nat.le_of_ble_eq_true rfl), (Nat.le_of_ble_eq_true rfl)⟩ (Nat.le_of_ble_eq_true rfl) ⟨rfl, rfl⟩ ⟨(Nat.le_of_ble_eq_true rfl), (Nat.le_of_ble_eq_true rfl)⟩ (fun r9 w9 hp9 => ?_)
      obtain ⟨rfl, rfl⟩ := hp9
      exact Z_iret dX3_thaw_66 rfl (rw_of (G := G) (r := none) (w := zw h m) (th_2 (bI_0 c22) (Int32.not_le.mp c57)))
  · skip
    refine Z_aload_n 26 0 dX3_thaw_25 rfl rfl ?_
    refine Z_iconst 27 (nI 5) dX3_thaw_26 rfl rfl ?_
    refine Z_callV 30 [_] 3 (zX3_refuse _) dX3_thaw_27 rfl qX3_61 kX3_refuse rfl rfl (Nat.le_of_ble_eq_true rfl) rfl rfl ⟨(Nat.le_of_ble_eq_true rfl), (Nat.le_of_ble_eq_true rfl)⟩ (Nat.le_of_ble_eq_true rfl) ⟨rfl, rfl⟩ ⟨(Nat.le_of_ble_eq_true rfl), (Nat.le_of_ble_eq_true rfl)⟩ (fun r9 w9 hp9 => ?_)
    obtain ⟨rfl, rfl⟩ := hp9
    exact Z_iret dX3_thaw_30 rfl (rw_of (G := G) (r := none) (w := zw h m) (th_1 (bI_1 c22)))

def apR (L : Nat) (x : Int32) : Int32 := if ¬ x < nI 33 ∧ ¬ nI 126 < x then (if nI L < nI 60 then nI (L + 1) else -3) else -1
def apM (m : zM) (L : Nat) (x : Int32) : zM := if ¬ x < nI 33 ∧ ¬ nI 126 < x then (if nI L < nI 60 then up2 (up2 m 69 L x) 68 1 (nI (L + 1)) else m) else m
theorem ap_1 {m : zM} {L : Nat} {x : Int32} (h : ¬ (¬ x < nI 33 ∧ ¬ nI 126 < x)) : apR L x = -1 ∧ apM m L x = m := ⟨if_neg h, if_neg h⟩
theorem ap_2 {m : zM} {L : Nat} {x : Int32} (h : ¬ x < nI 33 ∧ ¬ nI 126 < x) (h2 : ¬ nI L < nI 60) : apR L x = -3 ∧ apM m L x = m := ⟨(if_pos h).trans (if_neg h2), (if_pos h).trans (if_neg h2)⟩
theorem ap_3 {m : zM} {L : Nat} {x : Int32} (h : ¬ x < nI 33 ∧ ¬ nI 126 < x) (h2 : nI L < nI 60) : apR L x = nI (L + 1) ∧ apM m L x = up2 (up2 m 69 L x) 68 1 (nI (L + 1)) := ⟨(if_pos h).trans (if_pos h2), (if_pos h).trans (if_pos h2)⟩
set_option maxRecDepth 100000 in
set_option maxHeartbeats 4000000 in
theorem zX3_append {G : zG} {l : Launch} {h : Nat → Nat} {m : zM} (L : Nat) (hL : L ≤ 60) (hl : m 68 1 = nI L) (x : Int32) : zMet G l yX3_append mX3_append [.ref (G.1 + 0), .int x] (zw h m) (fun r w => r = some (.int (apR L x)) ∧ w = zw h (apM m L x)) 0 0 := by
  refine zMet_of [(0, .ref (G.1 + 0)), (1, .int x)] (by decide +kernel) rfl (Or.inl rfl) (Nat.le_of_ble_eq_true rfl) rfl ?_
  refine Z_iload_n 1 1 dX3_append_0 rfl rfl ?_
  refine Z_bipush 3 (nI 33) dX3_append_1 rfl rfl ?_
  refine Z_icmp_lt 6 12 dX3_append_3 rfl rfl (fun c3 => ?_) (fun c3 => ?_)
  · skip
    refine Z_iconst 13 (-1) dX3_append_12 rfl rfl ?_
    exact Z_iret dX3_append_13 rfl (by first | exact rw_of (G := G) (r := none) (w := zw h m) (ap_1 (fun q => q.1 c3)) | exact rw_of (G := G) (r := none) (w := zw h m) (ap_1 (fun q => q.2 (Int32.not_le.mp c9))))
  · skip
    refine Z_iload_n 7 1 dX3_append_6 rfl rfl ?_
    refine Z_bipush 9 (nI 126) dX3_append_7 rfl rfl ?_
    refine Z_icmp_le 12 14 dX3_append_9 rfl rfl (fun c9 => ?_) (fun c9 => ?_)
    · skip
      refine Z_aload_n 15 0 dX3_append_14 rfl rfl ?_
      refine Z_getR 18 dX3_append_15 rfl fX3_33 (Nat.le_of_ble_eq_true rfl) rfl rfl ?_
      refine Z_getI 21 dX3_append_18 rfl fX3_116 (Nat.le_of_ble_eq_true rfl) rfl rfl ?_
      refine Z_top (congrArg Value.int hl) ?_
      refine Z_bipush 23 (nI 60) dX3_append_21 rfl rfl ?_
      refine Z_icmp_lt 26 29 dX3_append_23 rfl rfl (fun c23 => ?_) (fun c23 => ?_)
      · skip
        refine Z_aload_n 30 0 dX3_append_29 rfl rfl ?_
        refine Z_getR 33 dX3_append_30 rfl fX3_33 (Nat.le_of_ble_eq_true rfl) rfl rfl ?_
        refine Z_getR 36 dX3_append_33 rfl fX3_119 (Nat.le_of_ble_eq_true rfl) rfl rfl ?_
        refine Z_aload_n 37 0 dX3_append_36 rfl rfl ?_
        refine Z_getR 40 dX3_append_37 rfl fX3_33 (Nat.le_of_ble_eq_true rfl) rfl rfl ?_
        refine Z_getI 43 dX3_append_40 rfl fX3_116 (Nat.le_of_ble_eq_true rfl) rfl rfl ?_
        refine Z_top (congrArg Value.int hl) ?_
        refine Z_iload_n 44 1 dX3_append_43 rfl rfl ?_
        refine Z_iasn 45 dX3_append_44 rfl (Nat.le_of_ble_eq_true rfl) rfl ((nI_ltI (by omega) (by decide)).mp c23) (by decide) ?_
        refine Z_aload_n 46 0 dX3_append_45 rfl rfl ?_
        refine Z_getR 49 dX3_append_46 rfl fX3_33 (Nat.le_of_ble_eq_true rfl) rfl rfl ?_
        refine Z_dup 50 dX3_append_49 rfl rfl ?_
        refine Z_getI 53 dX3_append_50 rfl fX3_116 (Nat.le_of_ble_eq_true rfl) rfl rfl ?_
        refine Z_top (v' := .int (nI L)) (congrArg Value.int (by simp [up2, hl])) ?_
        refine Z_iconst 54 (nI 1) dX3_append_53 rfl rfl ?_
        refine Z_iadd 55 dX3_append_54 rfl ?_
        refine Z_top (v' := .int (nI (L + 1))) (congrArg Value.int (nI_1 L)) ?_
        refine Z_putI 58 .int dX3_append_55 rfl fX3_116 ft_0_1 (Nat.le_of_ble_eq_true rfl) rfl rfl rfl rfl ?_
        refine Z_aload_n 59 0 dX3_append_58 rfl rfl ?_
        refine Z_getR 62 dX3_append_59 rfl fX3_33 (Nat.le_of_ble_eq_true rfl) rfl rfl ?_
        refine Z_getI 65 dX3_append_62 rfl fX3_116 (Nat.le_of_ble_eq_true rfl) rfl rfl ?_
        refine Z_top (v' := .int (nI (L + 1))) (congrArg Value.int (up2_eq _ _ _ _)) ?_
        exact Z_iret dX3_append_65 rfl (rw_of (G := G) (r := none) (w := zw h m) (ap_3 ⟨c3, Int32.not_lt.mpr c9⟩ c23))
      · skip
        refine Z_bipush 28 (-3) dX3_append_26 rfl rfl ?_
        exact Z_iret dX3_append_28 rfl (rw_of (G := G) (r := none) (w := zw h m) (ap_2 ⟨c3, Int32.not_lt.mpr c9⟩ c23))
    · skip
      refine Z_iconst 13 (-1) dX3_append_12 rfl rfl ?_
      exact Z_iret dX3_append_13 rfl (by first | exact rw_of (G := G) (r := none) (w := zw h m) (ap_1 (fun q => q.1 c3)) | exact rw_of (G := G) (r := none) (w := zw h m) (ap_1 (fun q => q.2 (Int32.not_le.mp c9))))

set_option maxRecDepth 100000 in
set_option maxHeartbeats 4000000 in
theorem zX3_clear {G : zG} {l : Launch} {h : Nat → Nat} {m : zM}  : zMet G l yX3_clear mX3_clear [.ref (G.1 + 0)] (zw h m) (fun r w => r = some (.int (m 68 1)) ∧ w = zw h (up2 m 68 1 (nI 0))) 0 0 := by
  refine zMet_of [(0, .ref (G.1 + 0))] (by decide +kernel) rfl (Or.inl rfl) (Nat.le_of_ble_eq_true rfl) rfl ?_
  refine Z_aload_n 1 0 dX3_clear_0 rfl rfl ?_
  refine Z_getR 4 dX3_clear_1 rfl fX3_33 (Nat.le_of_ble_eq_true rfl) rfl rfl ?_
  refine Z_getI 7 dX3_clear_4 rfl fX3_116 (Nat.le_of_ble_eq_true rfl) rfl rfl ?_
  refine Z_istore_n 8 [(1, _), (0, _)] dX3_clear_7 rfl (Nat.le_of_ble_eq_true rfl) rfl ?_
  refine Z_aload_n 9 1 dX3_clear_8 rfl rfl ?_
  refine Z_getR 12 dX3_clear_9 rfl fX3_33 (Nat.le_of_ble_eq_true rfl) rfl rfl ?_
  refine Z_iconst 13 (nI 0) dX3_clear_12 rfl rfl ?_
  refine Z_putI 16 .int dX3_clear_13 rfl fX3_116 ft_0_1 (Nat.le_of_ble_eq_true rfl) rfl rfl rfl rfl ?_
  refine Z_iload_n 17 0 dX3_clear_16 rfl rfl ?_
  exact Z_iret dX3_clear_17 rfl ⟨rfl, rfl⟩

def whyR (a b c x : Int32) : Int32 := if ¬ x < 0 ∧ ¬ nI 2 < x then (if a = 0 then -4 else if x = 0 then a else if x = nI 1 then b else c) else -1
set_option maxRecDepth 100000 in
set_option maxHeartbeats 4000000 in
theorem eX3_why {G : zG} {l : Launch} {h : Nat → Nat} {m : zM} (x : Int32) (hne : ¬ (¬ x < 0 ∧ ¬ nI 2 < x)) : zMet G l yX3_why mX3_why [.ref (G.1 + 0), .int x] (zw h m) (fun r w => r = some (.int (-1)) ∧ w = zw h m) 0 0 := by
  refine zMet_of [(0, .ref (G.1 + 0)), (1, .int x)] (by decide +kernel) rfl (Or.inl rfl) (Nat.le_of_ble_eq_true rfl) rfl ?_
  refine Z_iload_n 1 1 dX3_why_0 rfl rfl ?_
  refine Z_if_lt 4 9 dX3_why_1 rfl rfl (fun c1 => ?_) (fun c1 => ?_)
  · skip
    refine Z_iconst 10 (-1) dX3_why_9 rfl rfl ?_
    exact Z_iret dX3_why_10 rfl ⟨rfl, rfl⟩
  · skip
    refine Z_iload_n 5 1 dX3_why_4 rfl rfl ?_
    refine Z_iconst 6 (nI 2) dX3_why_5 rfl rfl ?_
    refine Z_icmp_le 9 11 dX3_why_6 rfl rfl (fun c6 => ?_) (fun c6 => ?_)
    · skip
      exact absurd ⟨c1, Int32.not_lt.mpr c6⟩ hne
    · skip
      refine Z_iconst 10 (-1) dX3_why_9 rfl rfl ?_
      exact Z_iret dX3_why_10 rfl ⟨rfl, rfl⟩

set_option maxRecDepth 100000 in
set_option maxHeartbeats 4000000 in
theorem zX3_why0 {G : zG} {l : Launch} {h : Nat → Nat} {m : zM}  : zMet G l yX3_why mX3_why [.ref (G.1 + 0), .int (nI 0)] (zw h m) (fun r w => r = some (.int (if m 0 7 = 0 then -4 else m 0 7)) ∧ w = zw h m) 0 0 := by
  refine zMet_of [(0, .ref (G.1 + 0)), (1, .int (nI 0))] (by decide +kernel) rfl (Or.inl rfl) (Nat.le_of_ble_eq_true rfl) rfl ?_
  refine Z_iload_n 1 1 dX3_why_0 rfl rfl ?_
  refine Z_if_lt 4 9 dX3_why_1 rfl rfl (fun c1 => absurd c1 (by decide)) (fun c1 => ?_)
  refine Z_iload_n 5 1 dX3_why_4 rfl rfl ?_
  refine Z_iconst 6 (nI 2) dX3_why_5 rfl rfl ?_
  refine Z_icmp_le 9 11 dX3_why_6 rfl rfl (fun c6 => ?_) (fun c6 => absurd (by decide) c6)
  refine Z_aload_n 12 0 dX3_why_11 rfl rfl ?_
  refine Z_getI 15 dX3_why_12 rfl fX3_126 (Nat.le_of_ble_eq_true rfl) rfl rfl ?_
  refine Z_if_ne 18 21 dX3_why_15 rfl rfl (fun c15 => ?_) (fun c15 => ?_)
  · skip
    refine Z_iload_n 22 1 dX3_why_21 rfl rfl ?_
    refine Z_look 48 (off := 26) dX3_why_22 (by decide) (by decide) rfl ?_
    refine Z_aload_n 49 0 dX3_why_48 rfl rfl ?_
    refine Z_getI 52 dX3_why_49 rfl fX3_126 (Nat.le_of_ble_eq_true rfl) rfl rfl ?_
    exact Z_iret dX3_why_52 rfl ⟨by rw [if_neg (by simpa using c15)], rfl⟩
  · skip
    refine Z_bipush 20 (-4) dX3_why_18 rfl rfl ?_
    exact Z_iret dX3_why_20 rfl ⟨by rw [if_pos (by simpa using c15)], rfl⟩

set_option maxRecDepth 100000 in
set_option maxHeartbeats 4000000 in
theorem zX3_why1 {G : zG} {l : Launch} {h : Nat → Nat} {m : zM}  : zMet G l yX3_why mX3_why [.ref (G.1 + 0), .int (nI 1)] (zw h m) (fun r w => r = some (.int (if m 0 7 = 0 then -4 else m 0 8)) ∧ w = zw h m) 0 0 := by
  refine zMet_of [(0, .ref (G.1 + 0)), (1, .int (nI 1))] (by decide +kernel) rfl (Or.inl rfl) (Nat.le_of_ble_eq_true rfl) rfl ?_
  refine Z_iload_n 1 1 dX3_why_0 rfl rfl ?_
  refine Z_if_lt 4 9 dX3_why_1 rfl rfl (fun c1 => absurd c1 (by decide)) (fun c1 => ?_)
  refine Z_iload_n 5 1 dX3_why_4 rfl rfl ?_
  refine Z_iconst 6 (nI 2) dX3_why_5 rfl rfl ?_
  refine Z_icmp_le 9 11 dX3_why_6 rfl rfl (fun c6 => ?_) (fun c6 => absurd (by decide) c6)
  refine Z_aload_n 12 0 dX3_why_11 rfl rfl ?_
  refine Z_getI 15 dX3_why_12 rfl fX3_126 (Nat.le_of_ble_eq_true rfl) rfl rfl ?_
  refine Z_if_ne 18 21 dX3_why_15 rfl rfl (fun c15 => ?_) (fun c15 => ?_)
  · skip
    refine Z_iload_n 22 1 dX3_why_21 rfl rfl ?_
    refine Z_look 53 (off := 31) dX3_why_22 (by decide) (by decide) rfl ?_
    refine Z_aload_n 54 0 dX3_why_53 rfl rfl ?_
    refine Z_getI 57 dX3_why_54 rfl fX3_135 (Nat.le_of_ble_eq_true rfl) rfl rfl ?_
    exact Z_iret dX3_why_57 rfl ⟨by rw [if_neg (by simpa using c15)], rfl⟩
  · skip
    refine Z_bipush 20 (-4) dX3_why_18 rfl rfl ?_
    exact Z_iret dX3_why_20 rfl ⟨by rw [if_pos (by simpa using c15)], rfl⟩

set_option maxRecDepth 100000 in
set_option maxHeartbeats 4000000 in
theorem zX3_why2 {G : zG} {l : Launch} {h : Nat → Nat} {m : zM}  : zMet G l yX3_why mX3_why [.ref (G.1 + 0), .int (nI 2)] (zw h m) (fun r w => r = some (.int (if m 0 7 = 0 then -4 else m 0 9)) ∧ w = zw h m) 0 0 := by
  refine zMet_of [(0, .ref (G.1 + 0)), (1, .int (nI 2))] (by decide +kernel) rfl (Or.inl rfl) (Nat.le_of_ble_eq_true rfl) rfl ?_
  refine Z_iload_n 1 1 dX3_why_0 rfl rfl ?_
  refine Z_if_lt 4 9 dX3_why_1 rfl rfl (fun c1 => absurd c1 (by decide)) (fun c1 => ?_)
  refine Z_iload_n 5 1 dX3_why_4 rfl rfl ?_
  refine Z_iconst 6 (nI 2) dX3_why_5 rfl rfl ?_
  refine Z_icmp_le 9 11 dX3_why_6 rfl rfl (fun c6 => ?_) (fun c6 => absurd (by decide) c6)
  refine Z_aload_n 12 0 dX3_why_11 rfl rfl ?_
  refine Z_getI 15 dX3_why_12 rfl fX3_126 (Nat.le_of_ble_eq_true rfl) rfl rfl ?_
  refine Z_if_ne 18 21 dX3_why_15 rfl rfl (fun c15 => ?_) (fun c15 => ?_)
  · skip
    refine Z_iload_n 22 1 dX3_why_21 rfl rfl ?_
    refine Z_look 58 (off := 36) dX3_why_22 (by decide) (by decide) rfl ?_
    refine Z_aload_n 59 0 dX3_why_58 rfl rfl ?_
    refine Z_getI 62 dX3_why_59 rfl fX3_141 (Nat.le_of_ble_eq_true rfl) rfl rfl ?_
    exact Z_iret dX3_why_62 rfl ⟨by rw [if_neg (by simpa using c15)], rfl⟩
  · skip
    refine Z_bipush 20 (-4) dX3_why_18 rfl rfl ?_
    exact Z_iret dX3_why_20 rfl ⟨by rw [if_pos (by simpa using c15)], rfl⟩
