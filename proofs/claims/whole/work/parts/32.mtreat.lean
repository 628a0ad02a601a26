/-! the model: treaties changed, looks -/
def caR (r : Nat → Int32) (t n k : Nat) : Int32 := if k = 2 then nI (n - 1) else if 39 + 4 * t ≤ k ∧ k < 95 then (if k + 4 < 95 then r (k + 4) else nI 0) else r k
def caM (m : zM) (t n i : Nat) : zM := fun q k => if q = 75 ∧ k < i then caR (m 75) t n k else if q = 75 ∧ k = 2 then nI (n - 1) else m q k
theorem caM_step {m : zM} {t n i : Nat} (h1 : 39 + 4 * t ≤ i) (h2 : i < 95) (v : Int32) (hv : v = if i + 4 < 95 then m 75 (i + 4) else nI 0) : up2 (caM m t n i) 75 i v = caM m t n (i + 1) := by
  funext q k
  unfold up2
  by_cases g : q = 75 ∧ k = i
  · obtain ⟨rfl, rfl⟩ := g
    rw [if_pos ⟨rfl, rfl⟩]
    unfold caM
    rw [if_pos ⟨rfl, by omega⟩]
    unfold caR
    rw [if_neg (by omega), if_pos ⟨h1, h2⟩]
    exact hv
  · rw [if_neg g]
    unfold caM
    by_cases g2 : q = 75 ∧ k < i
    · rw [if_pos g2, if_pos ⟨g2.1, by omega⟩]
    · rw [if_neg g2, if_neg (by omega), if_neg (by omega)]
theorem caM_0 {m : zM} {t n : Nat} : up2 m 75 2 (nI (n - 1)) = caM m t n (39 + 4 * t) := by
  funext q k
  unfold up2 caM
  by_cases g : q = 75 ∧ k < 39 + 4 * t
  · rw [if_pos g]
    unfold caR
    by_cases g2 : k = 2
    · rw [if_pos ⟨g.1, g2⟩, if_pos g2]
    · rw [if_neg (fun z => g2 z.2), if_neg g2, if_neg (by omega), g.1]
  · rw [if_neg g]
theorem caM_75 (m : zM) (t n : Nat) {k : Nat} (h : k < 95) : caM m t n 95 75 k = caR (m 75) t n k := by
  unfold caM
  rw [if_pos ⟨rfl, h⟩]
theorem caM_q (m : zM) (t n i : Nat) {q : Nat} (h : q ≠ 75) : caM m t n i q = m q := by
  funext k
  unfold caM
  rw [if_neg (fun z => h z.1), if_neg (fun z => h z.1)]
set_option maxRecDepth 100000 in
set_option maxHeartbeats 4000000 in
theorem eX4_cancel {G : zG} {l : Launch} {h : Nat → Nat} {m : zM} (n : Nat) (hk : m 75 2 = nI n) (hn : n ≤ 14) (x : Int32) (hne : ¬ (¬ x < 0 ∧ x < nI n)) : zMet G l yX4_cancel mX4_cancel [.ref (G.1 + 74), .int x] (zw h m) (fun r w => r = some (.int (-1)) ∧ w = zw h m) 0 0 := by
  refine zMet_of [(0, .ref (G.1 + 74)), (1, .int x)] (by decide +kernel) rfl (Or.inl rfl) (Nat.le_of_ble_eq_true rfl) rfl ?_
  refine Z_aload_n 1 0 dX4_cancel_0 rfl rfl ?_
  refine Z_iload_n 2 1 dX4_cancel_1 rfl rfl ?_
  refine Z_callV 5 [_] 4 (zX4_isTreaty n hk hn _) dX4_cancel_2 rfl qX4_132 kX4_isTreaty rfl rfl (Nat.le_of_ble_eq_true rfl) rfl rfl ⟨(Nat.le_of_ble_eq_true rfl), (Nat.le_of_ble_eq_true rfl)⟩ (Nat.le_of_ble_eq_true rfl) ⟨rfl, rfl⟩ ⟨(Nat.le_of_ble_eq_true rfl), (Nat.le_of_ble_eq_true rfl)⟩ (fun r9 w9 hp9 => ?_)
  obtain ⟨rfl, rfl⟩ := hp9
  refine Z_if_ne 8 10 dX4_cancel_5 rfl rfl (fun c5 => absurd c5 (fun q => hne (bI_1 q))) (fun c5 => ?_)
  refine Z_iconst 9 (-1) dX4_cancel_8 rfl rfl ?_
  exact Z_iret dX4_cancel_9 rfl ⟨rfl, rfl⟩

set_option maxRecDepth 100000 in
set_option maxHeartbeats 4000000 in
theorem lX4_cancel {G : zG} {l : Launch} {h : Nat → Nat} {m : zM} (n t9 : Nat) (ht : t9 < 14) : ∀ (t i : Nat), i + t = 95 → 39 + 4 * t9 ≤ i → Z G mX4_cancel (fun _ => True) (zN G (fun r w => r = some (.int (nI (n - 1))) ∧ w = zw h (caM m t9 n 95)) 0 0) l 0 0 (zw h (caM m t9 n i)) 31 [(2, .int (nI i)), (0, .ref (G.1 + 74))] [] := by
  intro t
  induction t with
  | zero =>
    intro i hi hy
    have e9 : i = 95 := by omega
    subst e9
    refine Z_iload_n 32 0 dX4_cancel_31 rfl rfl ?_
    refine Z_bipush 34 (nI 95) dX4_cancel_32 rfl rfl ?_
    refine Z_icmp_ge 37 69 dX4_cancel_34 rfl rfl (fun c34 => ?_) (fun c34 => absurd (nI_le (Nat.le_refl _) (by omega)) c34)
    refine Z_aload_n 70 1 dX4_cancel_69 rfl rfl ?_
    refine Z_getR 73 dX4_cancel_70 rfl fX4_7 (Nat.le_of_ble_eq_true rfl) rfl rfl ?_
    refine Z_iconst 74 (nI 2) dX4_cancel_73 rfl rfl ?_
    refine Z_ialn 75 dX4_cancel_74 rfl (Nat.le_of_ble_eq_true rfl) rfl (by first | assumption | omega) (by decide) ?_
    refine Z_top (v' := .int (nI (n - 1))) (congrArg Value.int (by show caM m t9 n 95 75 2 = _; rw [caM_75 _ _ _ (by decide)]; rfl)) ?_
    exact Z_iret dX4_cancel_75 rfl ⟨rfl, rfl⟩
  | succ t ih =>
    intro i hi hy
    have hlt : i < 95 := by omega
    refine Z_iload_n 32 0 dX4_cancel_31 rfl rfl ?_
    refine Z_bipush 34 (nI 95) dX4_cancel_32 rfl rfl ?_
    refine Z_icmp_ge 37 69 dX4_cancel_34 rfl rfl (fun c34 => absurd c34 (nI_ge hlt (by omega))) (fun c34 => ?_)
    refine Z_aload_n 38 1 dX4_cancel_37 rfl rfl ?_
    refine Z_getR 41 dX4_cancel_38 rfl fX4_7 (Nat.le_of_ble_eq_true rfl) rfl rfl ?_
    refine Z_iload_n 42 0 dX4_cancel_41 rfl rfl ?_
    refine Z_iload_n 43 0 dX4_cancel_42 rfl rfl ?_
    refine Z_iconst 44 (nI 4) dX4_cancel_43 rfl rfl ?_
    refine Z_iadd 45 dX4_cancel_44 rfl ?_
    refine Z_top (v' := .int (nI (i + 4))) (congrArg Value.int (nI_add i 4)) ?_
    refine Z_bipush 47 (nI 95) dX4_cancel_45 rfl rfl ?_
    refine Z_icmp_ge 50 61 dX4_cancel_47 rfl rfl (fun c47 => ?_) (fun c47 => ?_)
    · skip
      refine Z_iconst 62 (nI 0) dX4_cancel_61 rfl rfl ?_
      refine Z_iasn 63 dX4_cancel_62 rfl (Nat.le_of_ble_eq_true rfl) rfl hlt (by decide) ?_
      refine Z_w (w' := zw h (caM m t9 n (i + 1))) (congrArg (zw h) (caM_step hy hlt _ (by first | exact (if_pos ((nI_ltI (by omega) (by decide)).mp (Int32.not_le.mp c47))).symm | exact (if_neg (fun z => (Int32.not_le.mpr ((nI_ltI (by omega) (by decide)).mpr z)) c47)).symm))) ?_
      refine Z_iinc 66 [(2, _), (0, _)] 0 _ dX4_cancel_63 rfl (Nat.le_of_ble_eq_true rfl) rfl (nI_1 _) rfl ?_
      refine Z_goto 31 dX4_cancel_66 rfl ?_
      exact ih (i + 1) (by omega) (by omega)
    · skip
      refine Z_aload_n 51 1 dX4_cancel_50 rfl rfl ?_
      refine Z_getR 54 dX4_cancel_51 rfl fX4_7 (Nat.le_of_ble_eq_true rfl) rfl rfl ?_
      refine Z_iload_n 55 0 dX4_cancel_54 rfl rfl ?_
      refine Z_iconst 56 (nI 4) dX4_cancel_55 rfl rfl ?_
      refine Z_iadd 57 dX4_cancel_56 rfl ?_
      refine Z_top (v' := .int (nI (i + 4))) (congrArg Value.int (nI_add i 4)) ?_
      refine Z_iald 58 dX4_cancel_57 rfl (Nat.le_of_ble_eq_true rfl) rfl (vp_inN (show i + 4 < 95 from (nI_ltI (by omega) (by decide)).mp (Int32.not_le.mp c47)) (by decide)) ?_
      refine Z_top (v' := .int (m 75 (i + 4))) (congrArg Value.int (by rw [nI_clamp (by omega)]; unfold caM; rw [if_neg (by omega), if_neg (by omega)])) ?_
      refine Z_goto 62 dX4_cancel_58 rfl ?_
      refine Z_iasn 63 dX4_cancel_62 rfl (Nat.le_of_ble_eq_true rfl) rfl hlt (by decide) ?_
      refine Z_w (w' := zw h (caM m t9 n (i + 1))) (congrArg (zw h) (caM_step hy hlt _ (by first | exact (if_pos ((nI_ltI (by omega) (by decide)).mp (Int32.not_le.mp c47))).symm | exact (if_neg (fun z => (Int32.not_le.mpr ((nI_ltI (by omega) (by decide)).mpr z)) c47)).symm))) ?_
      refine Z_iinc 66 [(2, _), (0, _)] 0 _ dX4_cancel_63 rfl (Nat.le_of_ble_eq_true rfl) rfl (nI_1 _) rfl ?_
      refine Z_goto 31 dX4_cancel_66 rfl ?_
      exact ih (i + 1) (by omega) (by omega)

set_option maxRecDepth 100000 in
set_option maxHeartbeats 4000000 in
theorem zX4_cancel {G : zG} {l : Launch} {h : Nat → Nat} {m : zM} (s : Nat) (hs : s ≤ 4) (hst : m 74 3 = nI s) (n : Nat) (hk : m 75 2 = nI n) (hn : n ≤ 14) (t : Nat) (ht : t < n) : zMet G l yX4_cancel mX4_cancel [.ref (G.1 + 74), .int (nI t)] (zw h m) (fun r w => r = some (.int (nI (n - 1))) ∧ w = zw h (caM (recM m s) t n 95)) 0 0 := by
  refine zMet_of [(0, .ref (G.1 + 74)), (1, .int (nI t))] (by decide +kernel) rfl (Or.inl rfl) (Nat.le_of_ble_eq_true rfl) rfl ?_
  refine Z_aload_n 1 0 dX4_cancel_0 rfl rfl ?_
  refine Z_iload_n 2 1 dX4_cancel_1 rfl rfl ?_
  refine Z_callV 5 [_] 4 (zX4_isTreaty n hk hn _) dX4_cancel_2 rfl qX4_132 kX4_isTreaty rfl rfl (Nat.le_of_ble_eq_true rfl) rfl rfl ⟨(Nat.le_of_ble_eq_true rfl), (Nat.le_of_ble_eq_true rfl)⟩ (Nat.le_of_ble_eq_true rfl) ⟨rfl, rfl⟩ ⟨(Nat.le_of_ble_eq_true rfl), (Nat.le_of_ble_eq_true rfl)⟩ (fun r9 w9 hp9 => ?_)
  obtain ⟨rfl, rfl⟩ := hp9
  refine Z_if_ne 8 10 dX4_cancel_5 rfl rfl (fun c5 => ?_) (fun c5 => absurd (bI_ne (rngN ht (by omega))) c5)
  refine Z_aload_n 11 0 dX4_cancel_10 rfl rfl ?_
  refine Z_callV 14 [] 4 (zX4_records s hs hst) dX4_cancel_11 rfl qX4_113 kX4_records rfl rfl (Nat.le_of_ble_eq_true rfl) rfl rfl ⟨(Nat.le_of_ble_eq_true rfl), (Nat.le_of_ble_eq_true rfl)⟩ (Nat.le_of_ble_eq_true rfl) ⟨rfl, rfl⟩ ⟨(Nat.le_of_ble_eq_true rfl), (Nat.le_of_ble_eq_true rfl)⟩ (fun r9 w9 hp9 => ?_)
  obtain ⟨rfl, rfl⟩ := hp9
  refine Z_aload_n 15 0 dX4_cancel_14 rfl rfl ?_
  refine Z_getR 18 dX4_cancel_15 rfl fX4_7 (Nat.le_of_ble_eq_true rfl) rfl rfl ?_
  refine Z_iconst 19 (nI 2) dX4_cancel_18 rfl rfl ?_
  refine Z_dup2 20 dX4_cancel_19 rfl rfl rfl ?_
  refine Z_ialn 21 dX4_cancel_20 rfl (Nat.le_of_ble_eq_true rfl) rfl (by first | assumption | omega) (by decide) ?_
  refine Z_top (v' := .int (nI n)) (congrArg Value.int ((congrFun (rec_75 m s) 2).trans hk)) ?_
  refine Z_iconst 22 (nI 1) dX4_cancel_21 rfl rfl ?_
  refine Z_isub 23 dX4_cancel_22 rfl ?_
  refine Z_top (v' := .int (nI (n - 1))) (congrArg Value.int (nI_sub1 (by omega))) ?_
  refine Z_iasn 24 dX4_cancel_23 rfl (Nat.le_of_ble_eq_true rfl) rfl (by first | assumption | omega) (by decide) ?_
  refine Z_bipush 26 (nI 39) dX4_cancel_24 rfl rfl ?_
  refine Z_iconst 27 (nI 4) dX4_cancel_26 rfl rfl ?_
  refine Z_iload_n 28 1 dX4_cancel_27 rfl rfl ?_
  refine Z_imul 29 dX4_cancel_28 rfl ?_
  refine Z_iadd 30 dX4_cancel_29 rfl ?_
  refine Z_top (v' := .int (nI (39 + 4 * t))) (congrArg Value.int (by rw [pk_mul, nI_add])) ?_
  refine Z_istore_n 31 [(2, _), (0, _), (1, _)] dX4_cancel_30 rfl (Nat.le_of_ble_eq_true rfl) rfl ?_
  refine Z_lv [0, 1] rfl ?_
  refine Z_w (w' := zw h (caM (recM m s) t n (39 + 4 * t))) (congrArg (zw h) caM_0) ?_
  exact lX4_cancel (m := (recM m s)) n t (by omega) (95 - (39 + 4 * t)) (39 + 4 * t) (by omega) (Nat.le_refl _)

def mfM (m : zM) (t : Nat) (y : Int32) : zM := up2 (up2 m 75 1 (m 75 1 + bI (bkV (vR (m 75)) t))) 75 (39 + 4 * t + 3) (m 75 0 + y)
set_option maxRecDepth 100000 in
set_option maxHeartbeats 4000000 in
theorem eX4_freeze {G : zG} {l : Launch} {h : Nat → Nat} {m : zM} (n : Nat) (hk : m 75 2 = nI n) (hn : n ≤ 14) (x y : Int32) (hne : ¬ ((¬ x < 0 ∧ x < nI n) ∧ ¬ y < nI 1 ∧ ¬ nI 30 < y)) : zMet G l yX4_freeze mX4_freeze [.ref (G.1 + 74), .int x, .int y] (zw h m) (fun r w => r = some (.int (-1)) ∧ w = zw h m) 0 0 := by
  refine zMet_of [(0, .ref (G.1 + 74)), (1, .int x), (2, .int y)] (by decide +kernel) rfl (Or.inl rfl) (Nat.le_of_ble_eq_true rfl) rfl ?_
  refine Z_aload_n 1 0 dX4_freeze_0 rfl rfl ?_
  refine Z_iload_n 2 1 dX4_freeze_1 rfl rfl ?_
  refine Z_callV 5 [_] 4 (zX4_isTreaty n hk hn _) dX4_freeze_2 rfl qX4_132 kX4_isTreaty rfl rfl (Nat.le_of_ble_eq_true rfl) rfl rfl ⟨(Nat.le_of_ble_eq_true rfl), (Nat.le_of_ble_eq_true rfl)⟩ (Nat.le_of_ble_eq_true rfl) ⟨rfl, rfl⟩ ⟨(Nat.le_of_ble_eq_true rfl), (Nat.le_of_ble_eq_true rfl)⟩ (fun r9 w9 hp9 => ?_)
  obtain ⟨rfl, rfl⟩ := hp9
  refine Z_if_eq 8 18 dX4_freeze_5 rfl rfl (fun c5 => ?_) (fun c5 => ?_)
  · skip
    refine Z_iconst 19 (-1) dX4_freeze_18 rfl rfl ?_
    exact Z_iret dX4_freeze_19 rfl ⟨rfl, rfl⟩
  · skip
    refine Z_iload_n 9 2 dX4_freeze_8 rfl rfl ?_
    refine Z_iconst 10 (nI 1) dX4_freeze_9 rfl rfl ?_
    refine Z_bipush 12 (nI 30) dX4_freeze_10 rfl rfl ?_
    refine Z_callS 15 [_, _, _] (zX4_in _ _ _) dX4_freeze_12 rfl qX4_46 kX4_in rfl rfl ⟨(Nat.le_of_ble_eq_true rfl), (Nat.le_of_ble_eq_true rfl)⟩ (Nat.le_of_ble_eq_true rfl) ⟨rfl, rfl⟩ ⟨(Nat.le_of_ble_eq_true rfl), (Nat.le_of_ble_eq_true rfl)⟩ (fun r9 w9 hp9 => ?_)
    obtain ⟨rfl, rfl⟩ := hp9
    refine Z_if_ne 18 20 dX4_freeze_15 rfl rfl (fun c15 => absurd c15 (fun q => hne ⟨bI_1 c5, bI_1 q⟩)) (fun c15 => ?_)
    refine Z_iconst 19 (-1) dX4_freeze_18 rfl rfl ?_
    exact Z_iret dX4_freeze_19 rfl ⟨rfl, rfl⟩

set_option maxRecDepth 100000 in
set_option maxHeartbeats 4000000 in
theorem zX4_freeze {G : zG} {l : Launch} {h : Nat → Nat} {m : zM} (s : Nat) (hs : s ≤ 4) (hst : m 74 3 = nI s) (n : Nat) (hk : sOk (vR (m 75)) 1 n) (t : Nat) (ht : t < n) (y : Int32) (hy0 : ¬ y < nI 1) (hy1 : ¬ nI 30 < y) : zMet G l yX4_freeze mX4_freeze [.ref (G.1 + 74), .int (nI t), .int y] (zw h m) (fun r w => r = some (.int (m 75 1 + bI (bkV (vR (m 75)) t))) ∧ w = zw h (mfM (recM m s) t y)) 0 0 := by
  refine zMet_of [(0, .ref (G.1 + 74)), (1, .int (nI t)), (2, .int y)] (by decide +kernel) rfl (Or.inl rfl) (Nat.le_of_ble_eq_true rfl) rfl ?_
  have hn := hk.2.1
  refine Z_aload_n 1 0 dX4_freeze_0 rfl rfl ?_
  refine Z_iload_n 2 1 dX4_freeze_1 rfl rfl ?_
  refine Z_callV 5 [_] 4 (zX4_isTreaty n hk.1 hk.2.1 _) dX4_freeze_2 rfl qX4_132 kX4_isTreaty rfl rfl (Nat.le_of_ble_eq_true rfl) rfl rfl ⟨(Nat.le_of_ble_eq_true rfl), (Nat.le_of_ble_eq_true rfl)⟩ (Nat.le_of_ble_eq_true rfl) ⟨rfl, rfl⟩ ⟨(Nat.le_of_ble_eq_true rfl), (Nat.le_of_ble_eq_true rfl)⟩ (fun r9 w9 hp9 => ?_)
  obtain ⟨rfl, rfl⟩ := hp9
  refine Z_if_eq 8 18 dX4_freeze_5 rfl rfl (fun c5 => absurd c5 (bI_ne (rngN ht (by omega)))) (fun c5 => ?_)
  refine Z_iload_n 9 2 dX4_freeze_8 rfl rfl ?_
  refine Z_iconst 10 (nI 1) dX4_freeze_9 rfl rfl ?_
  refine Z_bipush 12 (nI 30) dX4_freeze_10 rfl rfl ?_
  refine Z_callS 15 [_, _, _] (zX4_in _ _ _) dX4_freeze_12 rfl qX4_46 kX4_in rfl rfl ⟨(Nat.le_of_ble_eq_true rfl), (Nat.le_of_ble_eq_true rfl)⟩ (Nat.le_of_ble_eq_true rfl) ⟨rfl, rfl⟩ ⟨(Nat.le_of_ble_eq_true rfl), (Nat.le_of_ble_eq_true rfl)⟩ (fun r9 w9 hp9 => ?_)
  obtain ⟨rfl, rfl⟩ := hp9
  refine Z_if_ne 18 20 dX4_freeze_15 rfl rfl (fun c15 => ?_) (fun c15 => absurd (bI_ne ⟨hy0, hy1⟩) c15)
  refine Z_aload_n 21 0 dX4_freeze_20 rfl rfl ?_
  refine Z_callV 24 [] 4 (zX4_records s hs hst) dX4_freeze_21 rfl qX4_113 kX4_records rfl rfl (Nat.le_of_ble_eq_true rfl) rfl rfl ⟨(Nat.le_of_ble_eq_true rfl), (Nat.le_of_ble_eq_true rfl)⟩ (Nat.le_of_ble_eq_true rfl) ⟨rfl, rfl⟩ ⟨(Nat.le_of_ble_eq_true rfl), (Nat.le_of_ble_eq_true rfl)⟩ (fun r9 w9 hp9 => ?_)
  obtain ⟨rfl, rfl⟩ := hp9
  refine Z_aload_n 25 0 dX4_freeze_24 rfl rfl ?_
  refine Z_getR 28 dX4_freeze_25 rfl fX4_7 (Nat.le_of_ble_eq_true rfl) rfl rfl ?_
  refine Z_iconst 29 (nI 1) dX4_freeze_28 rfl rfl ?_
  refine Z_dup2 30 dX4_freeze_29 rfl rfl rfl ?_
  refine Z_ialn 31 dX4_freeze_30 rfl (Nat.le_of_ble_eq_true rfl) rfl (by first | assumption | omega) (by decide) ?_
  refine Z_top (v' := .int (m 75 1)) (congrArg Value.int (congrFun (rec_75 m s) _)) ?_
  refine Z_aload_n 32 0 dX4_freeze_31 rfl rfl ?_
  refine Z_iload_n 33 1 dX4_freeze_32 rfl rfl ?_
  refine Z_callV 36 [_] 4 (zX4_isBroken (m := (recM m s)) n (sOk_row (rec_75 m s) hk) t ht) dX4_freeze_33 rfl qX4_65 kX4_isBroken rfl rfl (Nat.le_of_ble_eq_true rfl) rfl rfl ⟨(Nat.le_of_ble_eq_true rfl), (Nat.le_of_ble_eq_true rfl)⟩ (Nat.le_of_ble_eq_true rfl) ⟨rfl, rfl⟩ ⟨(Nat.le_of_ble_eq_true rfl), (Nat.le_of_ble_eq_true rfl)⟩ (fun r9 w9 hp9 => ?_)
  obtain ⟨rfl, rfl⟩ := hp9
  rw [rec_75]
  refine Z_if_eq 39 43 dX4_freeze_36 rfl rfl (fun c36 => ?_) (fun c36 => ?_)
  · skip
    refine Z_iconst 44 (nI 0) dX4_freeze_43 rfl rfl ?_
    refine Z_iadd 45 dX4_freeze_44 rfl ?_
    refine Z_top (v' := .int (m 75 1 + bI (bkV (vR (m 75)) t))) (congrArg Value.int (by first | rw [bI_t (bI_1 c36)] | rw [bI_f (bI_0 c36)])) ?_
    refine Z_iasn 46 dX4_freeze_45 rfl (Nat.le_of_ble_eq_true rfl) rfl (by first | assumption | omega) (by decide) ?_
    refine Z_aload_n 47 0 dX4_freeze_46 rfl rfl ?_
    refine Z_iload_n 48 1 dX4_freeze_47 rfl rfl ?_
    refine Z_iconst 49 (nI 3) dX4_freeze_48 rfl rfl ?_
    refine Z_aload_n 50 0 dX4_freeze_49 rfl rfl ?_
    refine Z_getR 53 dX4_freeze_50 rfl fX4_7 (Nat.le_of_ble_eq_true rfl) rfl rfl ?_
    refine Z_iconst 54 (nI 0) dX4_freeze_53 rfl rfl ?_
    refine Z_ialn 55 dX4_freeze_54 rfl (Nat.le_of_ble_eq_true rfl) rfl (by first | assumption | omega) (by decide) ?_
    refine Z_top (v' := .int (m 75 0)) (congrArg Value.int (by rw [up2_ne _ _ (by decide)]; exact congrFun (rec_75 m s) 0)) ?_
    refine Z_iload_n 56 2 dX4_freeze_55 rfl rfl ?_
    refine Z_iadd 57 dX4_freeze_56 rfl ?_
    refine Z_callV 60 [_, _, _] 4 (zX4_laysTreaty t 3 (by omega) (by decide) _) dX4_freeze_57 rfl qX4_100 kX4_laysTreaty rfl rfl (Nat.le_of_ble_eq_true rfl) rfl rfl ⟨(Nat.le_of_ble_eq_true rfl), (Nat.le_of_ble_eq_true rfl)⟩ (Nat.le_of_ble_eq_true rfl) ⟨rfl, rfl⟩ ⟨(Nat.le_of_ble_eq_true rfl), (Nat.le_of_ble_eq_true rfl)⟩ (fun r9 w9 hp9 => ?_)
    obtain ⟨rfl, rfl⟩ := hp9
    refine Z_aload_n 61 0 dX4_freeze_60 rfl rfl ?_
    refine Z_getR 64 dX4_freeze_61 rfl fX4_7 (Nat.le_of_ble_eq_true rfl) rfl rfl ?_
    refine Z_iconst 65 (nI 1) dX4_freeze_64 rfl rfl ?_
    refine Z_ialn 66 dX4_freeze_65 rfl (Nat.le_of_ble_eq_true rfl) rfl (by first | assumption | omega) (by decide) ?_
    refine Z_top (v' := .int (m 75 1 + bI (bkV (vR (m 75)) t))) (congrArg Value.int (by rw [up2_ne _ _ (by omega), up2_eq])) ?_
    exact Z_iret dX4_freeze_66 rfl ⟨rfl, by unfold mfM; rw [rec_75]⟩
  · skip
    refine Z_iconst 40 (nI 1) dX4_freeze_39 rfl rfl ?_
    refine Z_goto 44 dX4_freeze_40 rfl ?_
    refine Z_iadd 45 dX4_freeze_44 rfl ?_
    refine Z_top (v' := .int (m 75 1 + bI (bkV (vR (m 75)) t))) (congrArg Value.int (by first | rw [bI_t (bI_1 c36)] | rw [bI_f (bI_0 c36)])) ?_
    refine Z_iasn 46 dX4_freeze_45 rfl (Nat.le_of_ble_eq_true rfl) rfl (by first | assumption | omega) (by decide) ?_
    refine Z_aload_n 47 0 dX4_freeze_46 rfl rfl ?_
    refine Z_iload_n 48 1 dX4_freeze_47 rfl rfl ?_
    refine Z_iconst 49 (nI 3) dX4_freeze_48 rfl rfl ?_
    refine Z_aload_n 50 0 dX4_freeze_49 rfl rfl ?_
    refine Z_getR 53 dX4_freeze_50 rfl fX4_7 (Nat.le_of_ble_eq_true rfl) rfl rfl ?_
    refine Z_iconst 54 (nI 0) dX4_freeze_53 rfl rfl ?_
    refine Z_ialn 55 dX4_freeze_54 rfl (Nat.le_of_ble_eq_true rfl) rfl (by first | assumption | omega) (by decide) ?_
    refine Z_top (v' := .int (m 75 0)) (congrArg Value.int (by rw [up2_ne _ _ (by decide)]; exact congrFun (rec_75 m s) 0)) ?_
    refine Z_iload_n 56 2 dX4_freeze_55 rfl rfl ?_
    refine Z_iadd 57 dX4_freeze_56 rfl ?_
    refine Z_callV 60 [_, _, _] 4 (zX4_laysTreaty t 3 (by omega) (by decide) _) dX4_freeze_57 rfl qX4_100 kX4_laysTreaty rfl rfl (Nat.le_of_ble_eq_true rfl) rfl rfl ⟨(Nat.le_of_ble_eq_true rfl), (Nat.le_of_ble_eq_true rfl)⟩ (Nat.le_of_ble_eq_true rfl) ⟨rfl, rfl⟩ ⟨(Nat.le_of_ble_eq_true rfl), (Nat.le_of_ble_eq_true rfl)⟩ (fun r9 w9 hp9 => ?_)
    obtain ⟨rfl, rfl⟩ := hp9
    refine Z_aload_n 61 0 dX4_freeze_60 rfl rfl ?_
    refine Z_getR 64 dX4_freeze_61 rfl fX4_7 (Nat.le_of_ble_eq_true rfl) rfl rfl ?_
    refine Z_iconst 65 (nI 1) dX4_freeze_64 rfl rfl ?_
    refine Z_ialn 66 dX4_freeze_65 rfl (Nat.le_of_ble_eq_true rfl) rfl (by first | assumption | omega) (by decide) ?_
    refine Z_top (v' := .int (m 75 1 + bI (bkV (vR (m 75)) t))) (congrArg Value.int (by rw [up2_ne _ _ (by omega), up2_eq])) ?_
    exact Z_iret dX4_freeze_66 rfl ⟨rfl, by unfold mfM; rw [rec_75]⟩

set_option maxRecDepth 100000 in
set_option maxHeartbeats 4000000 in
theorem eX4_thaw {G : zG} {l : Launch} {h : Nat → Nat} {m : zM} (n : Nat) (hk : m 75 2 = nI n) (hn : n ≤ 14) (x : Int32) (hne : ¬ (¬ x < 0 ∧ x < nI n)) : zMet G l yX4_thaw mX4_thaw [.ref (G.1 + 74), .int x] (zw h m) (fun r w => r = some (.int (-1)) ∧ w = zw h m) 0 0 := by
  refine zMet_of [(0, .ref (G.1 + 74)), (1, .int x)] (by decide +kernel) rfl (Or.inl rfl) (Nat.le_of_ble_eq_true rfl) rfl ?_
  refine Z_aload_n 1 0 dX4_thaw_0 rfl rfl ?_
  refine Z_iload_n 2 1 dX4_thaw_1 rfl rfl ?_
  refine Z_callV 5 [_] 4 (zX4_isTreaty n hk hn _) dX4_thaw_2 rfl qX4_132 kX4_isTreaty rfl rfl (Nat.le_of_ble_eq_true rfl) rfl rfl ⟨(Nat.le_of_ble_eq_true rfl), (Nat.le_of_ble_eq_true rfl)⟩ (Nat.le_of_ble_eq_true rfl) ⟨rfl, rfl⟩ ⟨(Nat.le_of_ble_eq_true rfl), (Nat.le_of_ble_eq_true rfl)⟩ (fun r9 w9 hp9 => ?_)
  obtain ⟨rfl, rfl⟩ := hp9
  refine Z_if_ne 8 10 dX4_thaw_5 rfl rfl (fun c5 => absurd c5 (fun q => hne (bI_1 q))) (fun c5 => ?_)
  refine Z_iconst 9 (-1) dX4_thaw_8 rfl rfl ?_
  exact Z_iret dX4_thaw_9 rfl ⟨rfl, rfl⟩

def lef (r : Nat → Int32) (t : Nat) : Int32 := r (39 + 4 * t + 3) - r 0
def mtR (r : Nat → Int32) (t : Nat) : Int32 := if lef r t ≤ 0 then nI 5 else if r 1 < lef r t then nI 6 else nI 10 + (r 1 - lef r t)
def mtM (m : zM) (t : Nat) : zM := if lef (m 75) t ≤ 0 then rfM m else if m 75 1 < lef (m 75) t then rfM m else up2 (up2 m 75 (39 + 4 * t + 3) (m 75 0)) 75 1 (m 75 1 - lef (m 75) t)
theorem mt1 {m : zM} {t : Nat} (h : lef (m 75) t ≤ 0) : nI 5 = mtR (m 75) t ∧ rfM m = mtM m t := ⟨(if_pos h).symm, (if_pos h).symm⟩
theorem mt2 {m : zM} {t : Nat} (h : ¬ lef (m 75) t ≤ 0) (h2 : m 75 1 < lef (m 75) t) : nI 6 = mtR (m 75) t ∧ rfM m = mtM m t := by
  constructor
  · unfold mtR
    rw [if_neg h, if_pos h2]
  · unfold mtM
    rw [if_neg h, if_pos h2]
theorem mt3 {m : zM} {t : Nat} (h : ¬ lef (m 75) t ≤ 0) (h2 : ¬ m 75 1 < lef (m 75) t) : nI 10 + (m 75 1 - lef (m 75) t) = mtR (m 75) t ∧ up2 (up2 m 75 (39 + 4 * t + 3) (m 75 0)) 75 1 (m 75 1 - lef (m 75) t) = mtM m t := by
  constructor
  · unfold mtR
    rw [if_neg h, if_neg h2]
  · unfold mtM
    rw [if_neg h, if_neg h2]
set_option maxRecDepth 100000 in
set_option maxHeartbeats 4000000 in
theorem zX4_thaw {G : zG} {l : Launch} {h : Nat → Nat} {m : zM} (s : Nat) (hs : s ≤ 4) (hst : m 74 3 = nI s) (n : Nat) (hk : m 75 2 = nI n) (hn : n ≤ 14) (t : Nat) (ht : t < n) : zMet G l yX4_thaw mX4_thaw [.ref (G.1 + 74), .int (nI t)] (zw h m) (fun r w => r = some (.int (mtR ((recM m s) 75) t)) ∧ w = zw h (mtM (recM m s) t)) 0 0 := by
  refine zMet_of [(0, .ref (G.1 + 74)), (1, .int (nI t))] (by decide +kernel) rfl (Or.inl rfl) (Nat.le_of_ble_eq_true rfl) rfl ?_
  refine Z_aload_n 1 0 dX4_thaw_0 rfl rfl ?_
  refine Z_iload_n 2 1 dX4_thaw_1 rfl rfl ?_
  refine Z_callV 5 [_] 4 (zX4_isTreaty n hk hn _) dX4_thaw_2 rfl qX4_132 kX4_isTreaty rfl rfl (Nat.le_of_ble_eq_true rfl) rfl rfl ⟨(Nat.le_of_ble_eq_true rfl), (Nat.le_of_ble_eq_true rfl)⟩ (Nat.le_of_ble_eq_true rfl) ⟨rfl, rfl⟩ ⟨(Nat.le_of_ble_eq_true rfl), (Nat.le_of_ble_eq_true rfl)⟩ (fun r9 w9 hp9 => ?_)
  obtain ⟨rfl, rfl⟩ := hp9
  refine Z_if_ne 8 10 dX4_thaw_5 rfl rfl (fun c5 => ?_) (fun c5 => absurd (bI_ne (rngN ht (by omega))) c5)
  refine Z_aload_n 11 0 dX4_thaw_10 rfl rfl ?_
  refine Z_callV 14 [] 4 (zX4_records s hs hst) dX4_thaw_11 rfl qX4_113 kX4_records rfl rfl (Nat.le_of_ble_eq_true rfl) rfl rfl ⟨(Nat.le_of_ble_eq_true rfl), (Nat.le_of_ble_eq_true rfl)⟩ (Nat.le_of_ble_eq_true rfl) ⟨rfl, rfl⟩ ⟨(Nat.le_of_ble_eq_true rfl), (Nat.le_of_ble_eq_true rfl)⟩ (fun r9 w9 hp9 => ?_)
  obtain ⟨rfl, rfl⟩ := hp9
  refine Z_aload_n 15 0 dX4_thaw_14 rfl rfl ?_
  refine Z_iload_n 16 1 dX4_thaw_15 rfl rfl ?_
  refine Z_iconst 17 (nI 3) dX4_thaw_16 rfl rfl ?_
  refine Z_callV 20 [_, _] 4 (zX4_ofTreaty (m := (recM m s)) t 3 (by omega) (by decide)) dX4_thaw_17 rfl qX4_54 kX4_ofTreaty rfl rfl (Nat.le_of_ble_eq_true rfl) rfl rfl ⟨(Nat.le_of_ble_eq_true rfl), (Nat.le_of_ble_eq_true rfl)⟩ (Nat.le_of_ble_eq_true rfl) ⟨rfl, rfl⟩ ⟨(Nat.le_of_ble_eq_true rfl), (Nat.le_of_ble_eq_true rfl)⟩ (fun r9 w9 hp9 => ?_)
  obtain ⟨rfl, rfl⟩ := hp9
  refine Z_aload_n 21 0 dX4_thaw_20 rfl rfl ?_
  refine Z_getR 24 dX4_thaw_21 rfl fX4_7 (Nat.le_of_ble_eq_true rfl) rfl rfl ?_
  refine Z_iconst 25 (nI 0) dX4_thaw_24 rfl rfl ?_
  refine Z_ialn 26 dX4_thaw_25 rfl (Nat.le_of_ble_eq_true rfl) rfl (by first | assumption | omega) (by decide) ?_
  refine Z_isub 27 dX4_thaw_26 rfl ?_
  refine Z_top (v' := .int (lef ((recM m s) 75) t)) (congrArg Value.int (rfl)) ?_
  refine Z_istore_n 28 [(2, _), (0, _), (1, _)] dX4_thaw_27 rfl (Nat.le_of_ble_eq_true rfl) rfl ?_
  refine Z_iload_n 29 0 dX4_thaw_28 rfl rfl ?_
  refine Z_if_le 32 42 dX4_thaw_29 rfl rfl (fun c29 => ?_) (fun c29 => ?_)
  · skip
    refine Z_aload_n 43 1 dX4_thaw_42 rfl rfl ?_
    refine Z_iload_n 44 0 dX4_thaw_43 rfl rfl ?_
    refine Z_if_gt 47 51 dX4_thaw_44 rfl rfl (fun c44 => ?_) (fun c44 => ?_)
    · skip
      refine Z_bipush 53 (nI 6) dX4_thaw_51 rfl rfl ?_
      refine Z_callV 56 [_] 4 (zX4_refuses _) dX4_thaw_53 rfl qX4_97 kX4_refuses rfl rfl (Nat.le_of_ble_eq_true rfl) rfl rfl ⟨(Nat.le_of_ble_eq_true rfl), (Nat.le_of_ble_eq_true rfl)⟩ (Nat.le_of_ble_eq_true rfl) ⟨rfl, rfl⟩ ⟨(Nat.le_of_ble_eq_true rfl), (Nat.le_of_ble_eq_true rfl)⟩ (fun r9 w9 hp9 => ?_)
      obtain ⟨rfl, rfl⟩ := hp9
      exact Z_iret dX4_thaw_56 rfl (by first | exact ⟨congrArg (fun q => some (Value.int q)) (mt1 c29).1, congrArg (zw h) (mt1 c29).2⟩ | exact ⟨congrArg (fun q => some (Value.int q)) (mt2 c29 (Int32.not_le.mp c39)).1, congrArg (zw h) (mt2 c29 (Int32.not_le.mp c39)).2⟩ | exact absurd (Int32.not_le.mp c29) c44 | exact absurd c44 (Int32.not_lt.mpr c29))
    · skip
      refine Z_iconst 48 (nI 5) dX4_thaw_47 rfl rfl ?_
      refine Z_goto 53 dX4_thaw_48 rfl ?_
      refine Z_callV 56 [_] 4 (zX4_refuses _) dX4_thaw_53 rfl qX4_97 kX4_refuses rfl rfl (Nat.le_of_ble_eq_true rfl) rfl rfl ⟨(Nat.le_of_ble_eq_true rfl), (Nat.le_of_ble_eq_true rfl)⟩ (Nat.le_of_ble_eq_true rfl) ⟨rfl, rfl⟩ ⟨(Nat.le_of_ble_eq_true rfl), (Nat.le_of_ble_eq_true rfl)⟩ (fun r9 w9 hp9 => ?_)
      obtain ⟨rfl, rfl⟩ := hp9
      exact Z_iret dX4_thaw_56 rfl (by first | exact ⟨congrArg (fun q => some (Value.int q)) (mt1 c29).1, congrArg (zw h) (mt1 c29).2⟩ | exact ⟨congrArg (fun q => some (Value.int q)) (mt2 c29 (Int32.not_le.mp c39)).1, congrArg (zw h) (mt2 c29 (Int32.not_le.mp c39)).2⟩ | exact absurd (Int32.not_le.mp c29) c44 | exact absurd c44 (Int32.not_lt.mpr c29))
  · skip
    refine Z_iload_n 33 0 dX4_thaw_32 rfl rfl ?_
    refine Z_aload_n 34 1 dX4_thaw_33 rfl rfl ?_
    refine Z_getR 37 dX4_thaw_34 rfl fX4_7 (Nat.le_of_ble_eq_true rfl) rfl rfl ?_
    refine Z_iconst 38 (nI 1) dX4_thaw_37 rfl rfl ?_
    refine Z_ialn 39 dX4_thaw_38 rfl (Nat.le_of_ble_eq_true rfl) rfl (by first | assumption | omega) (by decide) ?_
    refine Z_icmp_le 42 57 dX4_thaw_39 rfl rfl (fun c39 => ?_) (fun c39 => ?_)
    · skip
      refine Z_aload_n 58 1 dX4_thaw_57 rfl rfl ?_
      refine Z_iload_n 59 2 dX4_thaw_58 rfl rfl ?_
      refine Z_iconst 60 (nI 3) dX4_thaw_59 rfl rfl ?_
      refine Z_aload_n 61 1 dX4_thaw_60 rfl rfl ?_
      refine Z_getR 64 dX4_thaw_61 rfl fX4_7 (Nat.le_of_ble_eq_true rfl) rfl rfl ?_
      refine Z_iconst 65 (nI 0) dX4_thaw_64 rfl rfl ?_
      refine Z_ialn 66 dX4_thaw_65 rfl (Nat.le_of_ble_eq_true rfl) rfl (by first | assumption | omega) (by decide) ?_
      refine Z_callV 69 [_, _, _] 4 (zX4_laysTreaty t 3 (by omega) (by decide) _) dX4_thaw_66 rfl qX4_100 kX4_laysTreaty rfl rfl (Nat.le_of_ble_eq_true rfl) rfl rfl ⟨(Nat.le_of_ble_eq_true rfl), (Nat.le_of_ble_eq_true rfl)⟩ (Nat.le_of_ble_eq_true rfl) ⟨rfl, rfl⟩ ⟨(Nat.le_of_ble_eq_true rfl), (Nat.le_of_ble_eq_true rfl)⟩ (fun r9 w9 hp9 => ?_)
      obtain ⟨rfl, rfl⟩ := hp9
      refine Z_aload_n 70 1 dX4_thaw_69 rfl rfl ?_
      refine Z_getR 73 dX4_thaw_70 rfl fX4_7 (Nat.le_of_ble_eq_true rfl) rfl rfl ?_
      refine Z_iconst 74 (nI 1) dX4_thaw_73 rfl rfl ?_
      refine Z_dup2 75 dX4_thaw_74 rfl rfl rfl ?_
      refine Z_ialn 76 dX4_thaw_75 rfl (Nat.le_of_ble_eq_true rfl) rfl (by first | assumption | omega) (by decide) ?_
      refine Z_top (v' := .int ((recM m s) 75 1)) (congrArg Value.int (by rw [up2_ne _ _ (by omega)])) ?_
      refine Z_iload_n 77 0 dX4_thaw_76 rfl rfl ?_
      refine Z_isub 78 dX4_thaw_77 rfl ?_
      refine Z_iasn 79 dX4_thaw_78 rfl (Nat.le_of_ble_eq_true rfl) rfl (by first | assumption | omega) (by decide) ?_
      refine Z_bipush 81 (nI 10) dX4_thaw_79 rfl rfl ?_
      refine Z_aload_n 82 1 dX4_thaw_81 rfl rfl ?_
      refine Z_getR 85 dX4_thaw_82 rfl fX4_7 (Nat.le_of_ble_eq_true rfl) rfl rfl ?_
      refine Z_iconst 86 (nI 1) dX4_thaw_85 rfl rfl ?_
      refine Z_ialn 87 dX4_thaw_86 rfl (Nat.le_of_ble_eq_true rfl) rfl (by first | assumption | omega) (by decide) ?_
      refine Z_top (v' := .int ((recM m s) 75 1 - lef ((recM m s) 75) t)) (congrArg Value.int (up2_eq _ _ _ _)) ?_
      refine Z_iadd 88 dX4_thaw_87 rfl ?_
      exact Z_iret dX4_thaw_88 rfl ⟨congrArg (fun q => some (Value.int q)) (mt3 c29 (Int32.not_lt.mpr c39)).1, congrArg (zw h) (mt3 c29 (Int32.not_lt.mpr c39)).2⟩
    · skip
      refine Z_aload_n 43 1 dX4_thaw_42 rfl rfl ?_
      refine Z_iload_n 44 0 dX4_thaw_43 rfl rfl ?_
      refine Z_if_gt 47 51 dX4_thaw_44 rfl rfl (fun c44 => ?_) (fun c44 => ?_)
      · skip
        refine Z_bipush 53 (nI 6) dX4_thaw_51 rfl rfl ?_
        refine Z_callV 56 [_] 4 (zX4_refuses _) dX4_thaw_53 rfl qX4_97 kX4_refuses rfl rfl (Nat.le_of_ble_eq_true rfl) rfl rfl ⟨(Nat.le_of_ble_eq_true rfl), (Nat.le_of_ble_eq_true rfl)⟩ (Nat.le_of_ble_eq_true rfl) ⟨rfl, rfl⟩ ⟨(Nat.le_of_ble_eq_true rfl), (Nat.le_of_ble_eq_true rfl)⟩ (fun r9 w9 hp9 => ?_)
        obtain ⟨rfl, rfl⟩ := hp9
        exact Z_iret dX4_thaw_56 rfl (by first | exact ⟨congrArg (fun q => some (Value.int q)) (mt1 c29).1, congrArg (zw h) (mt1 c29).2⟩ | exact ⟨congrArg (fun q => some (Value.int q)) (mt2 c29 (Int32.not_le.mp c39)).1, congrArg (zw h) (mt2 c29 (Int32.not_le.mp c39)).2⟩ | exact absurd (Int32.not_le.mp c29) c44 | exact absurd c44 (Int32.not_lt.mpr c29))
      · skip
        refine Z_iconst 48 (nI 5) dX4_thaw_47 rfl rfl ?_
        refine Z_goto 53 dX4_thaw_48 rfl ?_
        refine Z_callV 56 [_] 4 (zX4_refuses _) dX4_thaw_53 rfl qX4_97 kX4_refuses rfl rfl (Nat.le_of_ble_eq_true rfl) rfl rfl ⟨(Nat.le_of_ble_eq_true rfl), (Nat.le_of_ble_eq_true rfl)⟩ (Nat.le_of_ble_eq_true rfl) ⟨rfl, rfl⟩ ⟨(Nat.le_of_ble_eq_true rfl), (Nat.le_of_ble_eq_true rfl)⟩ (fun r9 w9 hp9 => ?_)
        obtain ⟨rfl, rfl⟩ := hp9
        exact Z_iret dX4_thaw_56 rfl (by first | exact ⟨congrArg (fun q => some (Value.int q)) (mt1 c29).1, congrArg (zw h) (mt1 c29).2⟩ | exact ⟨congrArg (fun q => some (Value.int q)) (mt2 c29 (Int32.not_le.mp c39)).1, congrArg (zw h) (mt2 c29 (Int32.not_le.mp c39)).2⟩ | exact absurd (Int32.not_le.mp c29) c44 | exact absurd c44 (Int32.not_lt.mpr c29))
