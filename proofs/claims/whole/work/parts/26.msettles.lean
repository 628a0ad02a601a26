/-! the model: settles, isPossible, hasLeast -/
theorem bz1 {p : Prop} [Decidable p] (h : p) : nI 1 = bI p := (bI_t h).symm
theorem bz0 {p : Prop} [Decidable p] (h : ¬ p) : nI 0 = bI p := (bI_f h).symm
def TL (m : zM) (A : Int32) (i : Nat) : Prop := (A = nI 1 ∧ ∀ q, q < i → ¬ m 80 q < 0) ∨ (A = nI 0 ∧ ∃ q, q < 8 ∧ m 80 q < 0)
theorem TL.ok {m : zM} {A : Int32} {i : Nat} (h : TL m A i) (h0 : ¬ A = 0) (h1 : ¬ m 80 i < 0) : TL m (nI 1) (i + 1) := by
  rcases h with ⟨-, h⟩ | ⟨h, -⟩
  · refine Or.inl ⟨rfl, fun q hq => ?_⟩
    rcases Nat.lt_succ_iff_lt_or_eq.mp hq with g | g
    · exact h q g
    · rw [g]
      exact h1
  · exact absurd h h0
theorem TL.no {m : zM} {A : Int32} {i : Nat} (h : TL m A i) (h0 : A = 0) : TL m (nI 0) (i + 1) := by
  rcases h with ⟨h, -⟩ | ⟨-, h⟩
  · rw [h] at h0
    exact absurd h0 (by decide)
  · exact Or.inr ⟨rfl, h⟩
set_option maxRecDepth 100000 in
set_option maxHeartbeats 4000000 in
theorem zX4_lowers {G : zG} {l : Launch} {h : Nat → Nat} {m : zM} (y : Nat → Int) (b : Int) (hb : b ≤ 50000) (hL : Lv m 80 y b) (f o : Nat) (hf : f < 8) (ho : o < 8) (d : Int32) (hd : -60 ≤ d.toInt ∧ d.toInt ≤ 60) : zMet G l yX4_lowers mX4_lowers [.ref (G.1 + 74), .int (nI f), .int (nI o), .int d] (zw h m) (fun r w => ∃ m', w = zw h m' ∧ r = some (.int (bI (hit y (true, f, o, d.toInt)))) ∧ Fr 80 m m' ∧ Lv m' 80 (rx1 y (true, f, o, d.toInt)) (b + 60)) 0 0 := by
  refine zMet_of [(0, .ref (G.1 + 74)), (1, .int (nI f)), (2, .int (nI o)), (3, .int d)] (by decide +kernel) rfl (Or.inl rfl) (Nat.le_of_ble_eq_true rfl) rfl ?_
  refine Z_aload_n 1 0 dX4_lowers_0 rfl rfl ?_
  refine Z_getR 4 dX4_lowers_1 rfl fX4_25 (Nat.le_of_ble_eq_true rfl) rfl rfl ?_
  refine Z_iload_n 5 1 dX4_lowers_4 rfl rfl ?_
  refine Z_ialn 6 dX4_lowers_5 rfl (Nat.le_of_ble_eq_true rfl) rfl (by first | assumption | omega) (by decide) ?_
  refine Z_aload_n 7 0 dX4_lowers_6 rfl rfl ?_
  refine Z_getR 10 dX4_lowers_7 rfl fX4_25 (Nat.le_of_ble_eq_true rfl) rfl rfl ?_
  refine Z_iload_n 11 2 dX4_lowers_10 rfl rfl ?_
  refine Z_ialn 12 dX4_lowers_11 rfl (Nat.le_of_ble_eq_true rfl) rfl (by first | assumption | omega) (by decide) ?_
  refine Z_iload_n 13 3 dX4_lowers_12 rfl rfl ?_
  refine Z_iadd 14 dX4_lowers_13 rfl ?_
  refine Z_icmp_le 17 21 dX4_lowers_14 rfl rfl (fun c14 => ?_) (fun c14 => ?_)
  · skip
    obtain ⟨hs1, hs2⟩ := hL.stay hb hf ho hd rfl (Int32.not_lt.mpr c14)
    refine Z_iconst 22 (nI 0) dX4_lowers_21 rfl rfl ?_
    refine Z_istore 24 [(4, _), (0, _), (1, _), (2, _), (3, _)] dX4_lowers_22 rfl (Nat.le_of_ble_eq_true rfl) rfl ?_
    refine Z_aload_n 25 1 dX4_lowers_24 rfl rfl ?_
    refine Z_getR 28 dX4_lowers_25 rfl fX4_25 (Nat.le_of_ble_eq_true rfl) rfl rfl ?_
    refine Z_iload_n 29 2 dX4_lowers_28 rfl rfl ?_
    refine Z_iload 31 0 dX4_lowers_29 rfl rfl ?_
    refine Z_if_eq 34 45 dX4_lowers_31 rfl rfl (fun c31 => ?_) (fun c31 => ?_)
    · skip
      refine Z_aload_n 46 1 dX4_lowers_45 rfl rfl ?_
      refine Z_getR 49 dX4_lowers_46 rfl fX4_25 (Nat.le_of_ble_eq_true rfl) rfl rfl ?_
      refine Z_iload_n 50 2 dX4_lowers_49 rfl rfl ?_
      refine Z_ialn 51 dX4_lowers_50 rfl (Nat.le_of_ble_eq_true rfl) rfl (by first | assumption | omega) (by decide) ?_
      refine Z_iasn 52 dX4_lowers_51 rfl (Nat.le_of_ble_eq_true rfl) rfl (by first | assumption | omega) (by decide) ?_
      refine Z_iload 54 0 dX4_lowers_52 rfl rfl ?_
      exact Z_zret dX4_lowers_54 rfl (by first | exact Or.inl rfl | exact Or.inr rfl) (by first | exact ⟨_, rfl, bRf hs2, Fr.rf.up, by rw [up2_self]; exact hs1⟩ | exact ⟨_, rfl, bRt hs2, Fr.rf.up, hs1⟩ | exact absurd rfl c31 | exact absurd c31 (by decide))
    · skip
      refine Z_aload_n 35 1 dX4_lowers_34 rfl rfl ?_
      refine Z_getR 38 dX4_lowers_35 rfl fX4_25 (Nat.le_of_ble_eq_true rfl) rfl rfl ?_
      refine Z_iload_n 39 3 dX4_lowers_38 rfl rfl ?_
      refine Z_ialn 40 dX4_lowers_39 rfl (Nat.le_of_ble_eq_true rfl) rfl (by first | assumption | omega) (by decide) ?_
      refine Z_iload_n 41 4 dX4_lowers_40 rfl rfl ?_
      refine Z_iadd 42 dX4_lowers_41 rfl ?_
      refine Z_goto 51 dX4_lowers_42 rfl ?_
      refine Z_iasn 52 dX4_lowers_51 rfl (Nat.le_of_ble_eq_true rfl) rfl (by first | assumption | omega) (by decide) ?_
      refine Z_iload 54 0 dX4_lowers_52 rfl rfl ?_
      exact Z_zret dX4_lowers_54 rfl (by first | exact Or.inl rfl | exact Or.inr rfl) (by first | exact ⟨_, rfl, bRf hs2, Fr.rf.up, by rw [up2_self]; exact hs1⟩ | exact ⟨_, rfl, bRt hs2, Fr.rf.up, hs1⟩ | exact absurd rfl c31 | exact absurd c31 (by decide))
  · skip
    obtain ⟨hs1, hs2⟩ := hL.step hb hf ho hd rfl (Int32.not_le.mp c14)
    refine Z_iconst 18 (nI 1) dX4_lowers_17 rfl rfl ?_
    refine Z_goto 22 dX4_lowers_18 rfl ?_
    refine Z_istore 24 [(4, _), (0, _), (1, _), (2, _), (3, _)] dX4_lowers_22 rfl (Nat.le_of_ble_eq_true rfl) rfl ?_
    refine Z_aload_n 25 1 dX4_lowers_24 rfl rfl ?_
    refine Z_getR 28 dX4_lowers_25 rfl fX4_25 (Nat.le_of_ble_eq_true rfl) rfl rfl ?_
    refine Z_iload_n 29 2 dX4_lowers_28 rfl rfl ?_
    refine Z_iload 31 0 dX4_lowers_29 rfl rfl ?_
    refine Z_if_eq 34 45 dX4_lowers_31 rfl rfl (fun c31 => ?_) (fun c31 => ?_)
    · skip
      refine Z_aload_n 46 1 dX4_lowers_45 rfl rfl ?_
      refine Z_getR 49 dX4_lowers_46 rfl fX4_25 (Nat.le_of_ble_eq_true rfl) rfl rfl ?_
      refine Z_iload_n 50 2 dX4_lowers_49 rfl rfl ?_
      refine Z_ialn 51 dX4_lowers_50 rfl (Nat.le_of_ble_eq_true rfl) rfl (by first | assumption | omega) (by decide) ?_
      refine Z_iasn 52 dX4_lowers_51 rfl (Nat.le_of_ble_eq_true rfl) rfl (by first | assumption | omega) (by decide) ?_
      refine Z_iload 54 0 dX4_lowers_52 rfl rfl ?_
      exact Z_zret dX4_lowers_54 rfl (by first | exact Or.inl rfl | exact Or.inr rfl) (by first | exact ⟨_, rfl, bRf hs2, Fr.rf.up, by rw [up2_self]; exact hs1⟩ | exact ⟨_, rfl, bRt hs2, Fr.rf.up, hs1⟩ | exact absurd rfl c31 | exact absurd c31 (by decide))
    · skip
      refine Z_aload_n 35 1 dX4_lowers_34 rfl rfl ?_
      refine Z_getR 38 dX4_lowers_35 rfl fX4_25 (Nat.le_of_ble_eq_true rfl) rfl rfl ?_
      refine Z_iload_n 39 3 dX4_lowers_38 rfl rfl ?_
      refine Z_ialn 40 dX4_lowers_39 rfl (Nat.le_of_ble_eq_true rfl) rfl (by first | assumption | omega) (by decide) ?_
      refine Z_iload_n 41 4 dX4_lowers_40 rfl rfl ?_
      refine Z_iadd 42 dX4_lowers_41 rfl ?_
      refine Z_goto 51 dX4_lowers_42 rfl ?_
      refine Z_iasn 52 dX4_lowers_51 rfl (Nat.le_of_ble_eq_true rfl) rfl (by first | assumption | omega) (by decide) ?_
      refine Z_iload 54 0 dX4_lowers_52 rfl rfl ?_
      exact Z_zret dX4_lowers_54 rfl (by first | exact Or.inl rfl | exact Or.inr rfl) (by first | exact ⟨_, rfl, bRf hs2, Fr.rf.up, by rw [up2_self]; exact hs1⟩ | exact ⟨_, rfl, bRt hs2, Fr.rf.up, hs1⟩ | exact absurd rfl c31 | exact absurd c31 (by decide))

set_option maxRecDepth 100000 in
set_option maxHeartbeats 4000000 in
theorem lX4_areTall {G : zG} {l : Launch} {h : Nat → Nat} {m : zM}  : ∀ (t i : Nat), i + t = 8 → ∀ A : Int32, TL m A i → Z G mX4_areTall (fun _ => True) (zN G (fun r w => w = zw h m ∧ ((r = some (.int (nI 1)) ∧ ∀ q, q < 8 → ¬ m 80 q < 0) ∨ (r = some (.int (nI 0)) ∧ ∃ q, q < 8 ∧ m 80 q < 0))) 0 0) l 0 0 (zw h m) 4 [(2, .int (nI i)), (1, .int A), (0, .ref (G.1 + 74))] [] := by
  intro t
  induction t with
  | zero =>
    intro i hi A hA
    have e9 : i = 8 := by omega
    subst e9
    refine Z_iload_n 5 0 dX4_areTall_4 rfl rfl ?_
    refine Z_bipush 7 (nI 8) dX4_areTall_5 rfl rfl ?_
    refine Z_icmp_ge 10 35 dX4_areTall_7 rfl rfl (fun c7 => ?_) (fun c7 => absurd (nI_le (Nat.le_refl _) (by omega)) c7)
    refine Z_iload_n 36 1 dX4_areTall_35 rfl rfl ?_
    rcases hA with ⟨rfl, hA⟩ | ⟨rfl, hA⟩
    · exact Z_zret dX4_areTall_36 rfl (Or.inr rfl) ⟨rfl, Or.inl ⟨rfl, hA⟩⟩
    · exact Z_zret dX4_areTall_36 rfl (Or.inl rfl) ⟨rfl, Or.inr ⟨rfl, hA⟩⟩
  | succ t ih =>
    intro i hi A hA
    have hlt : i < 8 := by omega
    refine Z_iload_n 5 0 dX4_areTall_4 rfl rfl ?_
    refine Z_bipush 7 (nI 8) dX4_areTall_5 rfl rfl ?_
    refine Z_icmp_ge 10 35 dX4_areTall_7 rfl rfl (fun c7 => absurd c7 (nI_ge hlt (by omega))) (fun c7 => ?_)
    refine Z_iload_n 11 1 dX4_areTall_10 rfl rfl ?_
    refine Z_if_eq 14 27 dX4_areTall_11 rfl rfl (fun c11 => ?_) (fun c11 => ?_)
    · skip
      refine Z_iconst 28 (nI 0) dX4_areTall_27 rfl rfl ?_
      refine Z_istore_n 29 [(1, _), (2, _), (0, _)] dX4_areTall_28 rfl (Nat.le_of_ble_eq_true rfl) rfl ?_
      refine Z_iinc 32 [(2, _), (1, _), (0, _)] 1 _ dX4_areTall_29 rfl (Nat.le_of_ble_eq_true rfl) rfl (nI_1 _) rfl ?_
      refine Z_goto 4 dX4_areTall_32 rfl ?_
      exact ih (i + 1) (by omega) _ (by first | exact hA.ok c11 (Int32.not_lt.mpr (Int32.not_lt.mp c20)) | exact hA.no c11 | exact Or.inr ⟨rfl, i, hlt, c20⟩)
    · skip
      refine Z_aload_n 15 2 dX4_areTall_14 rfl rfl ?_
      refine Z_getR 18 dX4_areTall_15 rfl fX4_25 (Nat.le_of_ble_eq_true rfl) rfl rfl ?_
      refine Z_iload_n 19 0 dX4_areTall_18 rfl rfl ?_
      refine Z_ialn 20 dX4_areTall_19 rfl (Nat.le_of_ble_eq_true rfl) rfl (by first | assumption | omega) (by decide) ?_
      refine Z_if_lt 23 27 dX4_areTall_20 rfl rfl (fun c20 => ?_) (fun c20 => ?_)
      · skip
        refine Z_iconst 28 (nI 0) dX4_areTall_27 rfl rfl ?_
        refine Z_istore_n 29 [(1, _), (2, _), (0, _)] dX4_areTall_28 rfl (Nat.le_of_ble_eq_true rfl) rfl ?_
        refine Z_iinc 32 [(2, _), (1, _), (0, _)] 1 _ dX4_areTall_29 rfl (Nat.le_of_ble_eq_true rfl) rfl (nI_1 _) rfl ?_
        refine Z_goto 4 dX4_areTall_32 rfl ?_
        exact ih (i + 1) (by omega) _ (by first | exact hA.ok c11 (Int32.not_lt.mpr (Int32.not_lt.mp c20)) | exact hA.no c11 | exact Or.inr ⟨rfl, i, hlt, c20⟩)
      · skip
        refine Z_iconst 24 (nI 1) dX4_areTall_23 rfl rfl ?_
        refine Z_goto 28 dX4_areTall_24 rfl ?_
        refine Z_istore_n 29 [(1, _), (2, _), (0, _)] dX4_areTall_28 rfl (Nat.le_of_ble_eq_true rfl) rfl ?_
        refine Z_iinc 32 [(2, _), (1, _), (0, _)] 1 _ dX4_areTall_29 rfl (Nat.le_of_ble_eq_true rfl) rfl (nI_1 _) rfl ?_
        refine Z_goto 4 dX4_areTall_32 rfl ?_
        exact ih (i + 1) (by omega) _ (by first | exact hA.ok c11 (Int32.not_lt.mpr (Int32.not_lt.mp c20)) | exact hA.no c11 | exact Or.inr ⟨rfl, i, hlt, c20⟩)

set_option maxRecDepth 100000 in
set_option maxHeartbeats 4000000 in
theorem zX4_areTall {G : zG} {l : Launch} {h : Nat → Nat} {m : zM}  : zMet G l yX4_areTall mX4_areTall [.ref (G.1 + 74)] (zw h m) (fun r w => w = zw h m ∧ ((r = some (.int (nI 1)) ∧ ∀ q, q < 8 → ¬ m 80 q < 0) ∨ (r = some (.int (nI 0)) ∧ ∃ q, q < 8 ∧ m 80 q < 0))) 0 0 := by
  refine zMet_of [(0, .ref (G.1 + 74))] (by decide +kernel) rfl (Or.inl rfl) (Nat.le_of_ble_eq_true rfl) rfl ?_
  refine Z_iconst 1 (nI 1) dX4_areTall_0 rfl rfl ?_
  refine Z_istore_n 2 [(1, _), (0, _)] dX4_areTall_1 rfl (Nat.le_of_ble_eq_true rfl) rfl ?_
  refine Z_iconst 3 (nI 0) dX4_areTall_2 rfl rfl ?_
  refine Z_istore_n 4 [(2, _), (1, _), (0, _)] dX4_areTall_3 rfl (Nat.le_of_ble_eq_true rfl) rfl ?_
  exact lX4_areTall 8 0 (by omega) _ (Or.inl ⟨rfl, fun q hq => absurd hq (Nat.not_lt_zero q)⟩)

theorem cg1 {y : Nat → Int} {e : Nat → Ed} {i : Nat} (h : chg y e i = true) : nI 1 = bI (chg y e (i + 1) = true) := bz1 (by rw [chg_s, h, Bool.true_or])
theorem cg2 {y : Nat → Int} {e : Nat → Ed} {i : Nat} (h : hit (rxs y e i) (e i)) : nI 1 = bI (chg y e (i + 1) = true) := bz1 (by rw [chg_s, decide_eq_true h, Bool.or_true])
theorem cg3 {y : Nat → Int} {e : Nat → Ed} {i : Nat} (h : ¬ chg y e i = true) (h2 : ¬ hit (rxs y e i) (e i)) : nI 0 = bI (chg y e (i + 1) = true) := bz0 (by
  rw [chg_s, decide_eq_false h2, Bool.or_false]
  exact h)
set_option maxRecDepth 100000 in
set_option maxHeartbeats 4000000 in
theorem lX4_st {G : zG} {l : Launch} {h : Nat → Nat} {m : zM} (n : Nat) (hk : sOk (vR (m 75)) 1 n) (hd : dOk (vR (m 75)) n) (fl : Nat) (hfl : fl ≤ 1) (y : Nat → Int) (b : Int) (hb : b ≤ 20000) (PP : Option Value → zW → Prop) (KK : ∀ m2, Fr 80 m m2 → Lv m2 80 (rxs y (eL (vR (m 75)) (fun t => decide (fl = 1 ∨ sForce (vR (m 75)) 1 t))) n) (b + 60 * n) → Z G mX4_settles (fun _ => True) (zN G (PP) 0 0) l 0 0 (zw h m2) 2 [(2, .int (bI (chg y (eL (vR (m 75)) (fun t => decide (fl = 1 ∨ sForce (vR (m 75)) 1 t))) n = true))), (0, .ref (G.1 + 74)), (1, .int (nI fl))] []) : ∀ (t i : Nat), i + t = n → ∀ mm : zM, Fr 80 m mm → Lv mm 80 (rxs y (eL (vR (m 75)) (fun t => decide (fl = 1 ∨ sForce (vR (m 75)) 1 t))) i) (b + 60 * i) → Z G mX4_settles (fun _ => True) (zN G (PP) 0 0) l 0 0 (zw h mm) 17 [(3, .int (nI i)), (2, .int (bI (chg y (eL (vR (m 75)) (fun t => decide (fl = 1 ∨ sForce (vR (m 75)) 1 t))) i = true))), (0, .ref (G.1 + 74)), (1, .int (nI fl))] [] := by
  intro t
  induction t with
  | zero =>
    intro i hi mm hF hL
    have e9 : i = n := by omega
    subst e9
    have hn := hk.2.1
    refine Z_iload_n 18 0 dX4_settles_17 rfl rfl ?_
    refine Z_aload_n 19 2 dX4_settles_18 rfl rfl ?_
    refine Z_getR 22 dX4_settles_19 rfl fX4_7 (Nat.le_of_ble_eq_true rfl) rfl rfl ?_
    refine Z_iconst 23 (nI 2) dX4_settles_22 rfl rfl ?_
    refine Z_ialn 24 dX4_settles_23 rfl (Nat.le_of_ble_eq_true rfl) rfl (by first | assumption | omega) (by decide) ?_
    refine Z_top (congrArg Value.int ((congrFun (hF 75 (by decide)) 2).trans hk.1)) ?_
    refine Z_icmp_ge 27 92 dX4_settles_24 rfl rfl (fun c24 => ?_) (fun c24 => absurd (nI_le (Nat.le_refl _) (by omega)) c24)
    refine Z_goto 2 dX4_settles_92 rfl ?_
    refine Z_lv [1, 2, 3] rfl ?_
    exact KK mm hF hL
  | succ t ih =>
    intro i hi mm hF hL
    have hlt : i < n := by omega
    have hn := hk.2.1
    have hc9 : b + 60 * ((i + 1 : Nat) : Int) = b + 60 * (i : Int) + 60 := by rw [Int.natCast_add]; omega
    have hfo := hk.2.2 i hlt
    have hdd := hd i hlt
    have K69 : ∀ (m2 : zM) (v : Int32), Fr 80 m m2 → Lv m2 80 (rxs y (eL (vR (m 75)) (fun t => decide (fl = 1 ∨ sForce (vR (m 75)) 1 t))) (i + 1)) (b + 60 * ((i + 1 : Nat) : Int)) → v = bI (hit (rxs y (eL (vR (m 75)) (fun t => decide (fl = 1 ∨ sForce (vR (m 75)) 1 t))) i) ((eL (vR (m 75)) (fun t => decide (fl = 1 ∨ sForce (vR (m 75)) 1 t))) i)) → Z G mX4_settles (fun _ => True) (zN G (PP) 0 0) l 0 0 (zw h m2) 69 [(3, .int (nI i)), (2, .int (bI (chg y (eL (vR (m 75)) (fun t => decide (fl = 1 ∨ sForce (vR (m 75)) 1 t))) i = true))), (0, .ref (G.1 + 74)), (1, .int (nI fl))] [.int v] := by
      intro m2 v hF2 hL2 hv
      subst hv
      refine Z_istore 71 [(4, _), (3, _), (2, _), (0, _), (1, _)] dX4_settles_69 rfl (Nat.le_of_ble_eq_true rfl) rfl ?_
      refine Z_iload_n 72 2 dX4_settles_71 rfl rfl ?_
      refine Z_if_ne 75 80 dX4_settles_72 rfl rfl (fun c72 => ?_) (fun c72 => ?_)
      · skip
        refine Z_iconst 81 (nI 1) dX4_settles_80 rfl rfl ?_
        refine Z_goto 85 dX4_settles_81 rfl ?_
        refine Z_top (v' := .int (bI (chg y (eL (vR (m 75)) (fun t => decide (fl = 1 ∨ sForce (vR (m 75)) 1 t))) (i + 1) = true))) (congrArg Value.int (by first | exact cg1 (bI_1 c72) | exact cg2 (bI_1 c77) | exact cg3 (bI_0 (Decidable.not_not.mp c72)) (bI_0 c77))) ?_
        refine Z_istore_n 86 [(2, _), (4, _), (3, _), (0, _), (1, _)] dX4_settles_85 rfl (Nat.le_of_ble_eq_true rfl) rfl ?_
        refine Z_iinc 89 [(3, _), (2, _), (4, _), (0, _), (1, _)] 2 _ dX4_settles_86 rfl (Nat.le_of_ble_eq_true rfl) rfl (nI_1 _) rfl ?_
        refine Z_goto 17 dX4_settles_89 rfl ?_
        refine Z_lv [0, 1, 3, 4] rfl ?_
        exact ih (i + 1) (by omega) m2 hF2 hL2
      · skip
        refine Z_iload 77 0 dX4_settles_75 rfl rfl ?_
        refine Z_if_eq 80 84 dX4_settles_77 rfl rfl (fun c77 => ?_) (fun c77 => ?_)
        · skip
          refine Z_iconst 85 (nI 0) dX4_settles_84 rfl rfl ?_
          refine Z_top (v' := .int (bI (chg y (eL (vR (m 75)) (fun t => decide (fl = 1 ∨ sForce (vR (m 75)) 1 t))) (i + 1) = true))) (congrArg Value.int (by first | exact cg1 (bI_1 c72) | exact cg2 (bI_1 c77) | exact cg3 (bI_0 (Decidable.not_not.mp c72)) (bI_0 c77))) ?_
          refine Z_istore_n 86 [(2, _), (4, _), (3, _), (0, _), (1, _)] dX4_settles_85 rfl (Nat.le_of_ble_eq_true rfl) rfl ?_
          refine Z_iinc 89 [(3, _), (2, _), (4, _), (0, _), (1, _)] 2 _ dX4_settles_86 rfl (Nat.le_of_ble_eq_true rfl) rfl (nI_1 _) rfl ?_
          refine Z_goto 17 dX4_settles_89 rfl ?_
          refine Z_lv [0, 1, 3, 4] rfl ?_
          exact ih (i + 1) (by omega) m2 hF2 hL2
        · skip
          refine Z_iconst 81 (nI 1) dX4_settles_80 rfl rfl ?_
          refine Z_goto 85 dX4_settles_81 rfl ?_
          refine Z_top (v' := .int (bI (chg y (eL (vR (m 75)) (fun t => decide (fl = 1 ∨ sForce (vR (m 75)) 1 t))) (i + 1) = true))) (congrArg Value.int (by first | exact cg1 (bI_1 c72) | exact cg2 (bI_1 c77) | exact cg3 (bI_0 (Decidable.not_not.mp c72)) (bI_0 c77))) ?_
          refine Z_istore_n 86 [(2, _), (4, _), (3, _), (0, _), (1, _)] dX4_settles_85 rfl (Nat.le_of_ble_eq_true rfl) rfl ?_
          refine Z_iinc 89 [(3, _), (2, _), (4, _), (0, _), (1, _)] 2 _ dX4_settles_86 rfl (Nat.le_of_ble_eq_true rfl) rfl (nI_1 _) rfl ?_
          refine Z_goto 17 dX4_settles_89 rfl ?_
          refine Z_lv [0, 1, 3, 4] rfl ?_
          exact ih (i + 1) (by omega) m2 hF2 hL2
    refine Z_iload_n 18 0 dX4_settles_17 rfl rfl ?_
    refine Z_aload_n 19 2 dX4_settles_18 rfl rfl ?_
    refine Z_getR 22 dX4_settles_19 rfl fX4_7 (Nat.le_of_ble_eq_true rfl) rfl rfl ?_
    refine Z_iconst 23 (nI 2) dX4_settles_22 rfl rfl ?_
    refine Z_ialn 24 dX4_settles_23 rfl (Nat.le_of_ble_eq_true rfl) rfl (by first | assumption | omega) (by decide) ?_
    refine Z_top (congrArg Value.int ((congrFun (hF 75 (by decide)) 2).trans hk.1)) ?_
    refine Z_icmp_ge 27 92 dX4_settles_24 rfl rfl (fun c24 => absurd c24 (nI_ge hlt (by omega))) (fun c24 => ?_)
    refine Z_iload_n 28 3 dX4_settles_27 rfl rfl ?_
    refine Z_if_ne 31 39 dX4_settles_28 rfl rfl (fun c28 => ?_) (fun c28 => ?_)
    · skip
      have g1 : fl = 1 := by
        rcases Nat.lt_or_ge fl 1 with g | g
        · exact absurd (by rw [show fl = 0 by omega]; rfl) c28
        · omega
      have hp9 : fl = 1 ∨ sForce (vR (m 75)) 1 i := Or.inl g1
      have he : (eL (vR (m 75)) (fun t => decide (fl = 1 ∨ sForce (vR (m 75)) 1 t))) i = (true, sF (vR (m 75)) 1 i, sO (vR (m 75)) 1 i, ((vR (m 75)) 8 i).toInt) := by
        show (decide _, _) = _
        rw [decide_eq_true hp9]
      refine Z_aload_n 40 2 dX4_settles_39 rfl rfl ?_
      refine Z_aload_n 41 2 dX4_settles_40 rfl rfl ?_
      refine Z_iload_n 42 0 dX4_settles_41 rfl rfl ?_
      refine Z_iconst 43 (nI 0) dX4_settles_42 rfl rfl ?_
      refine Z_callV 46 [_, _] 4 (zX4_ofTreaty (m := mm) i 0 (by omega) (by decide)) dX4_settles_43 rfl qX4_54 kX4_ofTreaty rfl rfl (Nat.le_of_ble_eq_true rfl) rfl rfl ⟨(Nat.le_of_ble_eq_true rfl), (Nat.le_of_ble_eq_true rfl)⟩ (Nat.le_of_ble_eq_true rfl) ⟨rfl, rfl⟩ ⟨(Nat.le_of_ble_eq_true rfl), (Nat.le_of_ble_eq_true rfl)⟩ (fun r9 w9 hp9 => ?_)
      obtain ⟨rfl, rfl⟩ := hp9
      refine Z_top (v' := .int (nI (sF (vR (m 75)) 1 i))) (congrArg Value.int ((congrFun (hF 75 (by decide)) _).trans (hfo.1.1))) ?_
      refine Z_aload_n 47 2 dX4_settles_46 rfl rfl ?_
      refine Z_iload_n 48 0 dX4_settles_47 rfl rfl ?_
      refine Z_iconst 49 (nI 1) dX4_settles_48 rfl rfl ?_
      refine Z_callV 52 [_, _] 4 (zX4_ofTreaty (m := mm) i 1 (by omega) (by decide)) dX4_settles_49 rfl qX4_54 kX4_ofTreaty rfl rfl (Nat.le_of_ble_eq_true rfl) rfl rfl ⟨(Nat.le_of_ble_eq_true rfl), (Nat.le_of_ble_eq_true rfl)⟩ (Nat.le_of_ble_eq_true rfl) ⟨rfl, rfl⟩ ⟨(Nat.le_of_ble_eq_true rfl), (Nat.le_of_ble_eq_true rfl)⟩ (fun r9 w9 hp9 => ?_)
      obtain ⟨rfl, rfl⟩ := hp9
      refine Z_top (v' := .int (nI (sO (vR (m 75)) 1 i))) (congrArg Value.int ((congrFun (hF 75 (by decide)) _).trans (hfo.2.1))) ?_
      refine Z_aload_n 53 2 dX4_settles_52 rfl rfl ?_
      refine Z_iload_n 54 0 dX4_settles_53 rfl rfl ?_
      refine Z_iconst 55 (nI 2) dX4_settles_54 rfl rfl ?_
      refine Z_callV 58 [_, _] 4 (zX4_ofTreaty (m := mm) i 2 (by omega) (by decide)) dX4_settles_55 rfl qX4_54 kX4_ofTreaty rfl rfl (Nat.le_of_ble_eq_true rfl) rfl rfl ⟨(Nat.le_of_ble_eq_true rfl), (Nat.le_of_ble_eq_true rfl)⟩ (Nat.le_of_ble_eq_true rfl) ⟨rfl, rfl⟩ ⟨(Nat.le_of_ble_eq_true rfl), (Nat.le_of_ble_eq_true rfl)⟩ (fun r9 w9 hp9 => ?_)
      obtain ⟨rfl, rfl⟩ := hp9
      refine Z_top (v' := .int ((vR (m 75)) 8 i)) (congrArg Value.int ((congrFun (hF 75 (by decide)) _).trans (rfl))) ?_
      refine Z_callV 61 [_, _, _] 4 (zX4_lowers (m := mm) (rxs y (eL (vR (m 75)) (fun t => decide (fl = 1 ∨ sForce (vR (m 75)) 1 t))) i) (b + 60 * i) (by omega) hL (sF (vR (m 75)) 1 i) (sO (vR (m 75)) 1 i) hfo.1.2 hfo.2.2 ((vR (m 75)) 8 i) (by omega)) dX4_settles_58 rfl qX4_72 kX4_lowers rfl rfl (Nat.le_of_ble_eq_true rfl) rfl rfl ⟨(Nat.le_of_ble_eq_true rfl), (Nat.le_of_ble_eq_true rfl)⟩ (Nat.le_of_ble_eq_true rfl) ⟨rfl, rfl⟩ ⟨(Nat.le_of_ble_eq_true rfl), (Nat.le_of_ble_eq_true rfl)⟩ (fun r9 w9 hp9 => ?_)
      obtain ⟨m2, rfl, rfl, hF2, hL2⟩ := hp9
      rw [← he] at hL2
      rw [← hc9, ← rxs_s] at hL2
      have hF3 := hF.trans hF2
      refine Z_if_eq 64 68 dX4_settles_61 rfl rfl (fun c61 => ?_) (fun c61 => ?_)
      · skip
        refine Z_iconst 69 (nI 0) dX4_settles_68 rfl rfl ?_
        exact K69 _ _ hF3 hL2 (by first | exact bz1 (by rw [he]; exact bI_1 c61) | exact bz0 (by rw [he]; exact bI_0 c61))
      · skip
        refine Z_iconst 65 (nI 1) dX4_settles_64 rfl rfl ?_
        refine Z_goto 69 dX4_settles_65 rfl ?_
        exact K69 _ _ hF3 hL2 (by first | exact bz1 (by rw [he]; exact bI_1 c61) | exact bz0 (by rw [he]; exact bI_0 c61))
    · skip
      have g0 : fl = 0 := by
        rcases Nat.lt_or_ge fl 1 with g | g
        · omega
        · exact absurd (show ¬ nI fl = 0 by rw [show fl = 1 by omega]; decide) c28
      refine Z_aload_n 32 2 dX4_settles_31 rfl rfl ?_
      refine Z_iload_n 33 0 dX4_settles_32 rfl rfl ?_
      refine Z_callV 36 [_] 4 (zX4_isForce (m := mm) i (by omega)) dX4_settles_33 rfl qX4_57 kX4_isForce rfl rfl (Nat.le_of_ble_eq_true rfl) rfl rfl ⟨(Nat.le_of_ble_eq_true rfl), (Nat.le_of_ble_eq_true rfl)⟩ (Nat.le_of_ble_eq_true rfl) ⟨rfl, rfl⟩ ⟨(Nat.le_of_ble_eq_true rfl), (Nat.le_of_ble_eq_true rfl)⟩ (fun r9 w9 hp9 => ?_)
      obtain ⟨rfl, rfl⟩ := hp9
      refine Z_if_eq 39 68 dX4_settles_36 rfl rfl (fun c36 => ?_) (fun c36 => ?_)
      · skip
        have nh : ¬ hit (rxs y (eL (vR (m 75)) (fun t => decide (fl = 1 ∨ sForce (vR (m 75)) 1 t))) i) ((eL (vR (m 75)) (fun t => decide (fl = 1 ∨ sForce (vR (m 75)) 1 t))) i) := fun g => by
          have g2 : decide (fl = 1 ∨ sForce (vR (m 75)) 1 i) = true := g.1
          rw [decide_eq_true_eq] at g2
          rcases g2 with g2 | g2
          · omega
          · exact bI_0 c36 (by rw [hF 75 (by decide)]; exact g2)
        refine Z_iconst 69 (nI 0) dX4_settles_68 rfl rfl ?_
        refine K69 _ _ hF ?_ (bz0 nh)
        rw [rxs_s, hc9]
        unfold rx1
        rw [if_neg nh]
        exact hL.mono (by omega)
      · skip
        have g9 : sForce (vR (m 75)) 1 i := by
          have := bI_1 c36
          rw [hF 75 (by decide)] at this
          exact this
        have hp9 : fl = 1 ∨ sForce (vR (m 75)) 1 i := Or.inr g9
        have he : (eL (vR (m 75)) (fun t => decide (fl = 1 ∨ sForce (vR (m 75)) 1 t))) i = (true, sF (vR (m 75)) 1 i, sO (vR (m 75)) 1 i, ((vR (m 75)) 8 i).toInt) := by
          show (decide _, _) = _
          rw [decide_eq_true hp9]
        refine Z_aload_n 40 2 dX4_settles_39 rfl rfl ?_
        refine Z_aload_n 41 2 dX4_settles_40 rfl rfl ?_
        refine Z_iload_n 42 0 dX4_settles_41 rfl rfl ?_
        refine Z_iconst 43 (nI 0) dX4_settles_42 rfl rfl ?_
        refine Z_callV 46 [_, _] 4 (zX4_ofTreaty (m := mm) i 0 (by omega) (by decide)) dX4_settles_43 rfl qX4_54 kX4_ofTreaty rfl rfl (Nat.le_of_ble_eq_true rfl) rfl rfl ⟨(Nat.le_of_ble_eq_true rfl), (Nat.le_of_ble_eq_true rfl)⟩ (Nat.le_of_ble_eq_true rfl) ⟨rfl, rfl⟩ ⟨(Nat.le_of_ble_eq_true rfl), (Nat.le_of_ble_eq_true rfl)⟩ (fun r9 w9 hp9 => ?_)
        obtain ⟨rfl, rfl⟩ := hp9
        refine Z_top (v' := .int (nI (sF (vR (m 75)) 1 i))) (congrArg Value.int ((congrFun (hF 75 (by decide)) _).trans (hfo.1.1))) ?_
        refine Z_aload_n 47 2 dX4_settles_46 rfl rfl ?_
        refine Z_iload_n 48 0 dX4_settles_47 rfl rfl ?_
        refine Z_iconst 49 (nI 1) dX4_settles_48 rfl rfl ?_
        refine Z_callV 52 [_, _] 4 (zX4_ofTreaty (m := mm) i 1 (by omega) (by decide)) dX4_settles_49 rfl qX4_54 kX4_ofTreaty rfl rfl (Nat.le_of_ble_eq_true rfl) rfl rfl ⟨(Nat.le_of_ble_eq_true rfl), (Nat.le_of_ble_eq_true rfl)⟩ (Nat.le_of_ble_eq_true rfl) ⟨rfl, rfl⟩ ⟨(Nat.le_of_ble_eq_true rfl), (Nat.le_of_ble_eq_true rfl)⟩ (fun r9 w9 hp9 => ?_)
        obtain ⟨rfl, rfl⟩ := hp9
        refine Z_top (v' := .int (nI (sO (vR (m 75)) 1 i))) (congrArg Value.int ((congrFun (hF 75 (by decide)) _).trans (hfo.2.1))) ?_
        refine Z_aload_n 53 2 dX4_settles_52 rfl rfl ?_
        refine Z_iload_n 54 0 dX4_settles_53 rfl rfl ?_
        refine Z_iconst 55 (nI 2) dX4_settles_54 rfl rfl ?_
        refine Z_callV 58 [_, _] 4 (zX4_ofTreaty (m := mm) i 2 (by omega) (by decide)) dX4_settles_55 rfl qX4_54 kX4_ofTreaty rfl rfl (Nat.le_of_ble_eq_true rfl) rfl rfl ⟨(Nat.le_of_ble_eq_true rfl), (Nat.le_of_ble_eq_true rfl)⟩ (Nat.le_of_ble_eq_true rfl) ⟨rfl, rfl⟩ ⟨(Nat.le_of_ble_eq_true rfl), (Nat.le_of_ble_eq_true rfl)⟩ (fun r9 w9 hp9 => ?_)
        obtain ⟨rfl, rfl⟩ := hp9
        refine Z_top (v' := .int ((vR (m 75)) 8 i)) (congrArg Value.int ((congrFun (hF 75 (by decide)) _).trans (rfl))) ?_
        refine Z_callV 61 [_, _, _] 4 (zX4_lowers (m := mm) (rxs y (eL (vR (m 75)) (fun t => decide (fl = 1 ∨ sForce (vR (m 75)) 1 t))) i) (b + 60 * i) (by omega) hL (sF (vR (m 75)) 1 i) (sO (vR (m 75)) 1 i) hfo.1.2 hfo.2.2 ((vR (m 75)) 8 i) (by omega)) dX4_settles_58 rfl qX4_72 kX4_lowers rfl rfl (Nat.le_of_ble_eq_true rfl) rfl rfl ⟨(Nat.le_of_ble_eq_true rfl), (Nat.le_of_ble_eq_true rfl)⟩ (Nat.le_of_ble_eq_true rfl) ⟨rfl, rfl⟩ ⟨(Nat.le_of_ble_eq_true rfl), (Nat.le_of_ble_eq_true rfl)⟩ (fun r9 w9 hp9 => ?_)
        obtain ⟨m2, rfl, rfl, hF2, hL2⟩ := hp9
        rw [← he] at hL2
        rw [← hc9, ← rxs_s] at hL2
        have hF3 := hF.trans hF2
        refine Z_if_eq 64 68 dX4_settles_61 rfl rfl (fun c61 => ?_) (fun c61 => ?_)
        · skip
          refine Z_iconst 69 (nI 0) dX4_settles_68 rfl rfl ?_
          exact K69 _ _ hF3 hL2 (by first | exact bz1 (by rw [he]; exact bI_1 c61) | exact bz0 (by rw [he]; exact bI_0 c61))
        · skip
          refine Z_iconst 65 (nI 1) dX4_settles_64 rfl rfl ?_
          refine Z_goto 69 dX4_settles_65 rfl ?_
          exact K69 _ _ hF3 hL2 (by first | exact bz1 (by rw [he]; exact bI_1 c61) | exact bz0 (by rw [he]; exact bI_0 c61))

set_option maxRecDepth 100000 in
set_option maxHeartbeats 4000000 in
theorem lX4_st95 {G : zG} {l : Launch} {h : Nat → Nat} {m : zM} (n : Nat) (hk : sOk (vR (m 75)) 1 n) (hd : dOk (vR (m 75)) n) (fl : Nat) (hfl : fl ≤ 1) (y0 : Nat → Int) (b0 : Int) (hb0 : 0 ≤ b0 ∧ b0 ≤ 12000) (f9 : Nat → Int) (hp : Pot (eL (vR (m 75)) (fun t => decide (fl = 1 ∨ sForce (vR (m 75)) 1 t))) n f9) (i : Nat) (mm : zM) (L : Int32) (hF : Fr 80 m mm) (hL : Lv mm 80 (sk y0 (eL (vR (m 75)) (fun t => decide (fl = 1 ∨ sForce (vR (m 75)) 1 t))) n i) 20000) (hx : Fx (sk y0 (eL (vR (m 75)) (fun t => decide (fl = 1 ∨ sForce (vR (m 75)) 1 t))) n i) (eL (vR (m 75)) (fun t => decide (fl = 1 ∨ sForce (vR (m 75)) 1 t))) n ∨ ∃ q, q < 8 ∧ (sk y0 (eL (vR (m 75)) (fun t => decide (fl = 1 ∨ sForce (vR (m 75)) 1 t))) n i) q < 0) : Z G mX4_settles (fun _ => True) (zN G (fun r w => ∃ m' k, w = zw h m' ∧ Fr 80 m m' ∧ Lv m' 80 (sk y0 (eL (vR (m 75)) (fun t => decide (fl = 1 ∨ sForce (vR (m 75)) 1 t))) n k) 20000 ∧ ((r = some (.int (nI 1)) ∧ (∀ q, q < 8 → 0 ≤ (sk y0 (eL (vR (m 75)) (fun t => decide (fl = 1 ∨ sForce (vR (m 75)) 1 t))) n k) q) ∧ Fx (sk y0 (eL (vR (m 75)) (fun t => decide (fl = 1 ∨ sForce (vR (m 75)) 1 t))) n k) (eL (vR (m 75)) (fun t => decide (fl = 1 ∨ sForce (vR (m 75)) 1 t))) n) ∨ (r = some (.int (nI 0)) ∧ ∃ q, q < 8 ∧ (sk y0 (eL (vR (m 75)) (fun t => decide (fl = 1 ∨ sForce (vR (m 75)) 1 t))) n k) q < 0))) 0 0) l 0 0 (zw h mm) 95 [(2, .int L), (0, .ref (G.1 + 74)), (1, .int (nI fl))] [] := by
  refine Z_aload_n 96 1 dX4_settles_95 rfl rfl ?_
  refine Z_callV 99 [] 4 (zX4_areTall (m := mm)) dX4_settles_96 rfl qX4_68 kX4_areTall rfl rfl (Nat.le_of_ble_eq_true rfl) rfl rfl ⟨(Nat.le_of_ble_eq_true rfl), (Nat.le_of_ble_eq_true rfl)⟩ (Nat.le_of_ble_eq_true rfl) ⟨rfl, rfl⟩ ⟨(Nat.le_of_ble_eq_true rfl), (Nat.le_of_ble_eq_true rfl)⟩ (fun r9 w9 hp9 => ?_)
  obtain ⟨rfl, hr9⟩ := hp9
  rcases hr9 with ⟨rfl, hr9⟩ | ⟨rfl, hr9⟩
  · refine Z_zret dX4_settles_99 rfl (Or.inr rfl) ⟨mm, i, rfl, hF, hL, Or.inl ⟨rfl, fun q hq => ?_, ?_⟩⟩
    · have a1 := hr9 q hq
      have a2 := hL q hq
      rw [i32_lt] at a1
      have z0 : (0 : Int32).toInt = 0 := rfl
      omega
    · rcases hx with hx | ⟨q, hq, hx⟩
      · exact hx
      · have a1 := hr9 q hq
        have a2 := hL q hq
        rw [i32_lt] at a1
        have z0 : (0 : Int32).toInt = 0 := rfl
        omega
  · refine Z_zret dX4_settles_99 rfl (Or.inl rfl) ⟨mm, i, rfl, hF, hL, Or.inr ⟨rfl, ?_⟩⟩
    obtain ⟨q, hq, a1⟩ := hr9
    have a2 := hL q hq
    rw [i32_lt] at a1
    have z0 : (0 : Int32).toInt = 0 := rfl
    exact ⟨q, hq, by omega⟩
set_option maxRecDepth 100000 in
set_option maxHeartbeats 4000000 in
theorem lX4_stA {G : zG} {l : Launch} {h : Nat → Nat} {m : zM} (n : Nat) (hk : sOk (vR (m 75)) 1 n) (hd : dOk (vR (m 75)) n) (fl : Nat) (hfl : fl ≤ 1) (y0 : Nat → Int) (b0 : Int) (hb0 : 0 ≤ b0 ∧ b0 ≤ 12000) (f9 : Nat → Int) (hp : Pot (eL (vR (m 75)) (fun t => decide (fl = 1 ∨ sForce (vR (m 75)) 1 t))) n f9) : ∀ (F i : Nat), i + F = 8 → ∀ (mm : zM) (L : Int32), Fr 80 m mm → Lv mm 80 (sk y0 (eL (vR (m 75)) (fun t => decide (fl = 1 ∨ sForce (vR (m 75)) 1 t))) n i) (b0 + 900 * i) → ((L = nI 1 ∧ i < 8) ∨ (L = nI 0 ∧ Fx (sk y0 (eL (vR (m 75)) (fun t => decide (fl = 1 ∨ sForce (vR (m 75)) 1 t))) n i) (eL (vR (m 75)) (fun t => decide (fl = 1 ∨ sForce (vR (m 75)) 1 t))) n)) → Z G mX4_settles (fun _ => True) (zN G (fun r w => ∃ m' k, w = zw h m' ∧ Fr 80 m m' ∧ Lv m' 80 (sk y0 (eL (vR (m 75)) (fun t => decide (fl = 1 ∨ sForce (vR (m 75)) 1 t))) n k) 20000 ∧ ((r = some (.int (nI 1)) ∧ (∀ q, q < 8 → 0 ≤ (sk y0 (eL (vR (m 75)) (fun t => decide (fl = 1 ∨ sForce (vR (m 75)) 1 t))) n k) q) ∧ Fx (sk y0 (eL (vR (m 75)) (fun t => decide (fl = 1 ∨ sForce (vR (m 75)) 1 t))) n k) (eL (vR (m 75)) (fun t => decide (fl = 1 ∨ sForce (vR (m 75)) 1 t))) n) ∨ (r = some (.int (nI 0)) ∧ ∃ q, q < 8 ∧ (sk y0 (eL (vR (m 75)) (fun t => decide (fl = 1 ∨ sForce (vR (m 75)) 1 t))) n k) q < 0))) 0 0) l 0 0 (zw h mm) 2 [(2, .int L), (0, .ref (G.1 + 74)), (1, .int (nI fl))] [] := by
  have hn := hk.2.1
  intro F
  induction F with
  | zero =>
    intro i hi mm L hF hL hx
    rcases hx with ⟨-, hx⟩ | ⟨rfl, hx⟩
    · omega
    · skip
      refine Z_iload_n 3 0 dX4_settles_2 rfl rfl ?_
      refine Z_if_eq 6 95 dX4_settles_3 rfl rfl (fun c3 => ?_) (fun c3 => absurd (rfl) c3)
      exact lX4_st95 n hk hd fl hfl y0 b0 hb0 f9 hp i mm _ hF (hL.mono (by omega)) (Or.inl hx)
  | succ F ih =>
    intro i hi mm L hF hL hx
    rcases hx with ⟨rfl, hx⟩ | ⟨rfl, hx⟩
    · skip
      refine Z_iload_n 3 0 dX4_settles_2 rfl rfl ?_
      refine Z_if_eq 6 95 dX4_settles_3 rfl rfl (fun c3 => absurd c3 (by decide)) (fun c3 => ?_)
      refine Z_aload_n 7 1 dX4_settles_6 rfl rfl ?_
      refine Z_callV 10 [] 4 (zX4_areTall (m := mm)) dX4_settles_7 rfl qX4_68 kX4_areTall rfl rfl (Nat.le_of_ble_eq_true rfl) rfl rfl ⟨(Nat.le_of_ble_eq_true rfl), (Nat.le_of_ble_eq_true rfl)⟩ (Nat.le_of_ble_eq_true rfl) ⟨rfl, rfl⟩ ⟨(Nat.le_of_ble_eq_true rfl), (Nat.le_of_ble_eq_true rfl)⟩ (fun r9 w9 hp9 => ?_)
      obtain ⟨rfl, hr9⟩ := hp9
      rcases hr9 with ⟨rfl, hr9⟩ | ⟨rfl, hr9⟩
      · skip
        refine Z_if_eq 13 95 dX4_settles_10 rfl rfl (fun c10 => absurd c10 (by decide)) (fun c10 => ?_)
        refine Z_iconst 14 (nI 0) dX4_settles_13 rfl rfl ?_
        refine Z_istore_n 15 [(2, _), (0, _), (1, _)] dX4_settles_14 rfl (Nat.le_of_ble_eq_true rfl) rfl ?_
        refine Z_iconst 16 (nI 0) dX4_settles_15 rfl rfl ?_
        refine Z_istore_n 17 [(3, _), (2, _), (0, _), (1, _)] dX4_settles_16 rfl (Nat.le_of_ble_eq_true rfl) rfl ?_
        refine lX4_st n hk hd fl hfl (sk y0 (eL (vR (m 75)) (fun t => decide (fl = 1 ∨ sForce (vR (m 75)) 1 t))) n i) (b0 + 900 * i) (by omega) _ ?_ n 0 (by omega) mm hF (hL.mono (by omega))
        intro m2 hF2 hL2
        by_cases hc : chg (sk y0 (eL (vR (m 75)) (fun t => decide (fl = 1 ∨ sForce (vR (m 75)) 1 t))) n i) (eL (vR (m 75)) (fun t => decide (fl = 1 ∨ sForce (vR (m 75)) 1 t))) n = true
        · rw [bI_t hc]
          have i7 : i ≠ 7 := fun z => by
            subst z
            rw [(Fx_chg n (sk_7 (y := y0) hp)).2] at hc
            exact absurd hc (by decide)
          exact ih (i + 1) (by omega) m2 _ hF2 (hL2.mono (by omega)) (Or.inl ⟨rfl, by omega⟩)
        · rw [bI_f hc]
          have hfx := (chg_f (y := (sk y0 (eL (vR (m 75)) (fun t => decide (fl = 1 ∨ sForce (vR (m 75)) 1 t))) n i)) n (Bool.eq_false_iff.mpr hc))
          exact ih (i + 1) (by omega) m2 _ hF2 (hL2.mono (by omega)) (Or.inr ⟨rfl, by show Fx (rxs (sk y0 (eL (vR (m 75)) (fun t => decide (fl = 1 ∨ sForce (vR (m 75)) 1 t))) n i) (eL (vR (m 75)) (fun t => decide (fl = 1 ∨ sForce (vR (m 75)) 1 t))) n) (eL (vR (m 75)) (fun t => decide (fl = 1 ∨ sForce (vR (m 75)) 1 t))) n; rw [hfx.1]; exact hfx.2⟩)
      · skip
        refine Z_if_eq 13 95 dX4_settles_10 rfl rfl (fun c10 => ?_) (fun c10 => absurd (rfl) c10)
        exact lX4_st95 n hk hd fl hfl y0 b0 hb0 f9 hp i mm _ hF (hL.mono (by omega)) (Or.inr (by
          obtain ⟨q, hq, a1⟩ := hr9
          have a2 := hL q hq
          rw [i32_lt] at a1
          have z0 : (0 : Int32).toInt = 0 := rfl
          exact ⟨q, hq, by omega⟩))
    · skip
      refine Z_iload_n 3 0 dX4_settles_2 rfl rfl ?_
      refine Z_if_eq 6 95 dX4_settles_3 rfl rfl (fun c3 => ?_) (fun c3 => absurd (rfl) c3)
      exact lX4_st95 n hk hd fl hfl y0 b0 hb0 f9 hp i mm _ hF (hL.mono (by omega)) (Or.inl hx)
set_option maxRecDepth 100000 in
set_option maxHeartbeats 4000000 in
theorem zX4_settles {G : zG} {l : Launch} {h : Nat → Nat} {m : zM} (n : Nat) (hk : sOk (vR (m 75)) 1 n) (hd : dOk (vR (m 75)) n) (fl : Nat) (hfl : fl ≤ 1) (y0 : Nat → Int) (b0 : Int) (hb0 : 0 ≤ b0 ∧ b0 ≤ 12000) (f9 : Nat → Int) (hp : Pot (eL (vR (m 75)) (fun t => decide (fl = 1 ∨ sForce (vR (m 75)) 1 t))) n f9) (hL : Lv m 80 y0 b0) : zMet G l yX4_settles mX4_settles [.ref (G.1 + 74), .int (nI fl)] (zw h m) (fun r w => ∃ m' k, w = zw h m' ∧ Fr 80 m m' ∧ Lv m' 80 (sk y0 (eL (vR (m 75)) (fun t => decide (fl = 1 ∨ sForce (vR (m 75)) 1 t))) n k) 20000 ∧ ((r = some (.int (nI 1)) ∧ (∀ q, q < 8 → 0 ≤ (sk y0 (eL (vR (m 75)) (fun t => decide (fl = 1 ∨ sForce (vR (m 75)) 1 t))) n k) q) ∧ Fx (sk y0 (eL (vR (m 75)) (fun t => decide (fl = 1 ∨ sForce (vR (m 75)) 1 t))) n k) (eL (vR (m 75)) (fun t => decide (fl = 1 ∨ sForce (vR (m 75)) 1 t))) n) ∨ (r = some (.int (nI 0)) ∧ ∃ q, q < 8 ∧ (sk y0 (eL (vR (m 75)) (fun t => decide (fl = 1 ∨ sForce (vR (m 75)) 1 t))) n k) q < 0))) 0 0 := by
  refine zMet_of [(0, .ref (G.1 + 74)), (1, .int (nI fl))] (by decide +kernel) rfl (Or.inl rfl) (Nat.le_of_ble_eq_true rfl) rfl ?_
  refine Z_iconst 1 (nI 1) dX4_settles_0 rfl rfl ?_
  refine Z_istore_n 2 [(2, _), (0, _), (1, _)] dX4_settles_1 rfl (Nat.le_of_ble_eq_true rfl) rfl ?_
  exact lX4_stA n hk hd fl hfl y0 b0 hb0 f9 hp 8 0 (by omega) m _ Fr.rf (hL.mono (by omega)) (Or.inl ⟨rfl, by decide⟩)
