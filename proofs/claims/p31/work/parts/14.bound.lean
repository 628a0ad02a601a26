/-! bounds, treaty by treaty -/
/-- the ints at the cell c are the bounds y; F where y is far -/
def BV (F : Int) (m : zM) (c : Nat) (y : Nat → Int) (b : Int) : Prop := ∀ q, q < 8 → (y q = zK9 ∧ (m c q).toInt = F) ∨ (-b ≤ y q ∧ y q ≤ b ∧ (m c q).toInt = y q)
theorem BV.mono {F : Int} {m : zM} {c : Nat} {y : Nat → Int} {b b' : Int} (h : BV F m c y b) (hb : b ≤ b') : BV F m c y b' := fun q hq => by
  have := h q hq
  omega
theorem BV.skip {F : Int} {m : zM} {c : Nat} {y : Nat → Int} {b : Int} (h : BV F m c y b) {e : Ed} (nh : ¬ hit y e) : BV F m c (rx1 y e) (b + 60) := fun q hq => by
  unfold rx1
  rw [if_neg nh]
  have a3 := h q hq
  omega
theorem BV.far {F : Int} (hF : 100000 ≤ F) {m : zM} {c : Nat} {y : Nat → Int} {b : Int} (hb : b ≤ 50000) (h : BV F m c y b) {u v : Nat} (hv : v < 8) {d : Int} (hh : (m c v).toInt = F) : ¬ hit y (true, u, v, d) := fun g => by
  have z9 : zK9 = 100000 := rfl
  have g2 : y v < 100000 := g.2.1
  have a1 := h v hv
  omega
theorem BV.stay {F : Int} (hF : 100000 ≤ F) {m : zM} {c : Nat} {y : Nat → Int} {b : Int} (hb : b ≤ 50000) (h : BV F m c y b) {u v : Nat} (hu : u < 8) (hv : v < 8) {d x : Int32} (hd : -60 ≤ d.toInt ∧ d.toInt ≤ 60) (hf : ¬ (m c v).toInt = F) (hx : x = m c v + d) (hh : ¬ x < m c u) : ¬ hit y (true, u, v, d.toInt) := fun g => by
  have z9 : zK9 = 100000 := rfl
  have g2 : y v < 100000 := g.2.1
  have g3 : y v + d.toInt < y u := g.2.2
  have a1 := h v hv
  have a2 := h u hu
  have e1 : x.toInt = y v + d.toInt := by
    rw [hx, i32_add (by omega) (by omega)]
    omega
  apply hh
  rw [i32_lt]
  omega
theorem BV.step {F : Int} (hF : 100000 ≤ F) {m : zM} {c : Nat} {y : Nat → Int} {b : Int} (hb : b ≤ 50000) (h : BV F m c y b) {u v : Nat} (hu : u < 8) (hv : v < 8) {d x : Int32} (hd : -60 ≤ d.toInt ∧ d.toInt ≤ 60) (hf : ¬ (m c v).toInt = F) (hx : x = m c v + d) (hh : x < m c u) : BV F (up2 m c u x) c (rx1 y (true, u, v, d.toInt)) (b + 60) ∧ hit y (true, u, v, d.toInt) := by
  have z9 : zK9 = 100000 := rfl
  have a1 := h v hv
  have a2 := h u hu
  have e1 : x.toInt = y v + d.toInt := by
    rw [hx, i32_add (by omega) (by omega)]
    omega
  have e2 : y v + d.toInt < y u := by
    rw [i32_lt] at hh
    omega
  have hit9 : hit y (true, u, v, d.toInt) := ⟨rfl, by show y v < 100000; omega, e2⟩
  refine ⟨fun q hq => ?_, hit9⟩
  unfold rx1
  rw [if_pos hit9]
  by_cases g : q = u
  · subst g
    rw [up2_eq]
    simp only [if_true]
    right
    omega
  · rw [up2_ne _ _ (fun z => g z.2)]
    have a3 := h q hq
    simp only [g, if_false]
    omega
theorem eB_fr {m mm : zM} {x : Int32} (hF : Fr 58 m mm) : eB mm (fun t => decide (¬ nI t = x ∧ sForce mm 1 t)) = eB m (fun t => decide (¬ nI t = x ∧ sForce m 1 t)) := by
  funext t
  unfold eB sForce sF sO
  rw [hF (1 + 8) (by decide), hF 1 (by decide), hF (1 + 5) (by decide), hF (1 + 6) (by decide), hF 8 (by decide)]
theorem m1e6 : (1000000 : Int32).toInt = 1000000 := by decide
set_option maxRecDepth 100000 in
set_option maxHeartbeats 4000000 in
theorem lX2_shortenSums {G : zG} {l : Launch} {h : Nat → Nat} {m : zM} (n : Nat) (hk : sOk m 1 n) (hd : dOk m n) (y : Nat → Int) (b : Int) (hb : b ≤ 20000) (x : Int32) : ∀ (t i : Nat), i + t = n → ∀ mm : zM, Fr 58 m mm → BV 1000000 mm 58 (rxs y (eB m (fun t => decide (¬ nI t = x ∧ sForce m 1 t))) i) (b + 60 * i) → Z G mX2_shortenSums (fun _ => True) (zN G (fun r w => ∃ m', w = zw h m' ∧ r = some (.int (bI (chg y (eB m (fun t => decide (¬ nI t = x ∧ sForce m 1 t))) n = true))) ∧ Fr 58 m m' ∧ BV 1000000 m' 58 (rxs y (eB m (fun t => decide (¬ nI t = x ∧ sForce m 1 t))) n) (b + 60 * n)) 0 0) l 0 0 (zw h mm) 5 [(4, .int (nI i)), (3, .int (bI (chg y (eB m (fun t => decide (¬ nI t = x ∧ sForce m 1 t))) i = true))), (0, .ref (G.1 + 56)), (1, .ref (G.1 + 1)), (2, .int x)] [] := by
  intro t
  induction t with
  | zero =>
    intro i hi mm hF hL
    have e9 : i = n := by omega
    subst e9
    have hn := hk.2.1
    refine Z_iload 7 0 dX2_shortenSums_5 rfl rfl ?_
    refine Z_aload_n 8 3 dX2_shortenSums_7 rfl rfl ?_
    refine Z_getI 11 dX2_shortenSums_8 rfl fX2_28 (Nat.le_of_ble_eq_true rfl) rfl rfl ?_
    refine Z_top (congrArg Value.int ((congrFun (hF 1 (by decide)) 8).trans hk.1)) ?_
    refine Z_icmp_ge 14 103 dX2_shortenSums_11 rfl rfl (fun c11 => ?_) (fun c11 => absurd (nI_le (Nat.le_refl _) (by omega)) c11)
    refine Z_iload_n 104 1 dX2_shortenSums_103 rfl rfl ?_
    exact Z_zret dX2_shortenSums_104 rfl (by first | exact Or.inl rfl | exact Or.inr rfl | exact bI_01) ⟨mm, rfl, rfl, hF, hL⟩
  | succ t ih =>
    intro i hi mm hF hL
    have hlt : i < n := by omega
    have hn := hk.2.1
    have hc9 : b + 60 * ((i + 1 : Nat) : Int) = b + 60 * (i : Int) + 60 := by rw [Int.natCast_add]; omega
    have K97 : ∀ (m2 : zM) (v : Int32), Fr 58 m m2 → BV 1000000 m2 58 (rxs y (eB m (fun t => decide (¬ nI t = x ∧ sForce m 1 t))) (i + 1)) (b + 60 * ((i + 1 : Nat) : Int)) → v = bI (chg y (eB m (fun t => decide (¬ nI t = x ∧ sForce m 1 t))) (i + 1) = true) → Z G mX2_shortenSums (fun _ => True) (zN G (fun r w => ∃ m', w = zw h m' ∧ r = some (.int (bI (chg y (eB m (fun t => decide (¬ nI t = x ∧ sForce m 1 t))) n = true))) ∧ Fr 58 m m' ∧ BV 1000000 m' 58 (rxs y (eB m (fun t => decide (¬ nI t = x ∧ sForce m 1 t))) n) (b + 60 * n)) 0 0) l 0 0 (zw h m2) 97 [(4, .int (nI i)), (3, .int v), (0, .ref (G.1 + 56)), (1, .ref (G.1 + 1)), (2, .int x)] [] := by
      intro m2 v hF2 hL2 hv
      refine Z_iinc 100 [(4, _), (3, _), (0, _), (1, _), (2, _)] 0 _ dX2_shortenSums_97 rfl (Nat.le_of_ble_eq_true rfl) rfl (nI_1 _) rfl ?_
      refine Z_goto 5 dX2_shortenSums_100 rfl ?_
      subst hv
      exact ih (i + 1) (by omega) m2 hF2 hL2
    have KN : ¬ hit (rxs y (eB m (fun t => decide (¬ nI t = x ∧ sForce m 1 t))) i) ((eB m (fun t => decide (¬ nI t = x ∧ sForce m 1 t))) i) → Z G mX2_shortenSums (fun _ => True) (zN G (fun r w => ∃ m', w = zw h m' ∧ r = some (.int (bI (chg y (eB m (fun t => decide (¬ nI t = x ∧ sForce m 1 t))) n = true))) ∧ Fr 58 m m' ∧ BV 1000000 m' 58 (rxs y (eB m (fun t => decide (¬ nI t = x ∧ sForce m 1 t))) n) (b + 60 * n)) 0 0) l 0 0 (zw h mm) 97 [(4, .int (nI i)), (3, .int (bI (chg y (eB m (fun t => decide (¬ nI t = x ∧ sForce m 1 t))) i = true))), (0, .ref (G.1 + 56)), (1, .ref (G.1 + 1)), (2, .int x)] [] := by
      intro nh
      exact K97 mm _ hF (by rw [rxs_s, hc9]; exact hL.skip nh) (by rw [chg_s, decide_eq_false nh, Bool.or_false])
    refine Z_iload 7 0 dX2_shortenSums_5 rfl rfl ?_
    refine Z_aload_n 8 3 dX2_shortenSums_7 rfl rfl ?_
    refine Z_getI 11 dX2_shortenSums_8 rfl fX2_28 (Nat.le_of_ble_eq_true rfl) rfl rfl ?_
    refine Z_top (congrArg Value.int ((congrFun (hF 1 (by decide)) 8).trans hk.1)) ?_
    refine Z_icmp_ge 14 103 dX2_shortenSums_11 rfl rfl (fun c11 => absurd c11 (nI_ge hlt (by omega))) (fun c11 => ?_)
    refine Z_aload_n 15 2 dX2_shortenSums_14 rfl rfl ?_
    refine Z_getR 18 dX2_shortenSums_15 rfl fX2_15 (Nat.le_of_ble_eq_true rfl) rfl rfl ?_
    refine Z_aload_n 19 3 dX2_shortenSums_18 rfl rfl ?_
    refine Z_getR 22 dX2_shortenSums_19 rfl fX2_34 (Nat.le_of_ble_eq_true rfl) rfl rfl ?_
    refine Z_iload 24 0 dX2_shortenSums_22 rfl rfl ?_
    refine Z_ialn 25 dX2_shortenSums_24 rfl (Nat.le_of_ble_eq_true rfl) rfl (by omega) (by decide) ?_
    refine Z_top (v' := .int (nI (sF m 1 i))) (congrArg Value.int ((congrFun (hF 6 (by decide)) i).trans (hk.2.2 i hlt).1.1)) ?_
    refine Z_ialn 26 dX2_shortenSums_25 rfl (Nat.le_of_ble_eq_true rfl) rfl (hk.2.2 i hlt).1.2 (by decide) ?_
    refine Z_istore 28 [(5, _), (4, _), (3, _), (0, _), (1, _), (2, _)] dX2_shortenSums_26 rfl (Nat.le_of_ble_eq_true rfl) rfl ?_
    refine Z_iload 30 1 dX2_shortenSums_28 rfl rfl ?_
    refine Z_iload_n 31 5 dX2_shortenSums_30 rfl rfl ?_
    refine Z_icmp_eq 34 97 dX2_shortenSums_31 rfl rfl (fun c31 => ?_) (fun c31 => ?_)
    · skip
      refine Z_lv [1, 2, 3, 4, 5] rfl ?_
      exact KN (fun g => by
        have g1 : decide (¬ nI i = x ∧ sForce m 1 i) = true := g.1
        rw [decide_eq_true_eq] at g1
        exact g1.1 c31)
    · skip
      refine Z_aload_n 35 4 dX2_shortenSums_34 rfl rfl ?_
      refine Z_iload 37 1 dX2_shortenSums_35 rfl rfl ?_
      refine Z_callV 40 [_] 1 (zX1_isInForce 1 (Or.inl rfl) i (by omega)) dX2_shortenSums_37 rfl qX2_37 kX1_isInForce rfl rfl (Nat.le_of_ble_eq_true rfl) rfl rfl ⟨(Nat.le_of_ble_eq_true rfl), (Nat.le_of_ble_eq_true rfl)⟩ (Nat.le_of_ble_eq_true rfl) ⟨rfl, rfl⟩ ⟨(Nat.le_of_ble_eq_true rfl), (Nat.le_of_ble_eq_true rfl)⟩ (fun r9 w9 hp9 => ?_)
      obtain ⟨rfl, rfl⟩ := hp9
      refine Z_if_eq 43 97 dX2_shortenSums_40 rfl rfl (fun c40 => ?_) (fun c40 => ?_)
      · skip
        refine Z_lv [1, 2, 3, 4, 5] rfl ?_
        exact KN (fun g => by
          have g1 : decide (¬ nI i = x ∧ sForce m 1 i) = true := g.1
          rw [decide_eq_true_eq] at g1
          exact bI_0 c40 (by show mm 9 i ≤ mm 1 9; rw [hF 9 (by decide), hF 1 (by decide)]; exact g1.2))
      · skip
        have hp9 : ¬ nI i = x ∧ sForce m 1 i := ⟨c31, by
          have g : mm 9 i ≤ mm 1 9 := bI_1 c40
          rw [hF 9 (by decide), hF 1 (by decide)] at g
          exact g⟩
        have he : (eB m (fun t => decide (¬ nI t = x ∧ sForce m 1 t))) i = (true, sO m 1 i, sF m 1 i, (m 8 i).toInt) := by
          show (decide _, _) = _
          rw [decide_eq_true hp9]
        have hfo := hk.2.2 i hlt
        have hdd := hd i hlt
        refine Z_iload 45 0 dX2_shortenSums_43 rfl rfl ?_
        refine Z_ldc 47 1000000 dX2_shortenSums_45 rfl kX2_23 ?_
        refine Z_icmp_ne 50 53 dX2_shortenSums_47 rfl rfl (fun c47 => ?_) (fun c47 => ?_)
        · skip
          have e47 : ¬ (mm 58 (sF m 1 i)).toInt = 1000000 := fun q => c47 (i32_eq.mpr (q.trans m1e6.symm))
          refine Z_aload_n 54 4 dX2_shortenSums_53 rfl rfl ?_
          refine Z_getR 57 dX2_shortenSums_54 rfl fX2_41 (Nat.le_of_ble_eq_true rfl) rfl rfl ?_
          refine Z_iload 59 1 dX2_shortenSums_57 rfl rfl ?_
          refine Z_ialn 60 dX2_shortenSums_59 rfl (Nat.le_of_ble_eq_true rfl) rfl (by omega) (by decide) ?_
          refine Z_top (v' := .int (nI (sO m 1 i))) (congrArg Value.int ((congrFun (hF 7 (by decide)) i).trans (hk.2.2 i hlt).2.1)) ?_
          refine Z_istore 62 [(6, _), (5, _), (4, _), (3, _), (0, _), (1, _), (2, _)] dX2_shortenSums_60 rfl (Nat.le_of_ble_eq_true rfl) rfl ?_
          refine Z_iload 64 1 dX2_shortenSums_62 rfl rfl ?_
          refine Z_aload_n 65 5 dX2_shortenSums_64 rfl rfl ?_
          refine Z_getR 68 dX2_shortenSums_65 rfl fX2_44 (Nat.le_of_ble_eq_true rfl) rfl rfl ?_
          refine Z_iload 70 2 dX2_shortenSums_68 rfl rfl ?_
          refine Z_ialn 71 dX2_shortenSums_70 rfl (Nat.le_of_ble_eq_true rfl) rfl (by omega) (by decide) ?_
          refine Z_top (v' := .int (m 8 i)) (congrArg Value.int (congrFun (hF 8 (by decide)) i)) ?_
          refine Z_iadd 72 dX2_shortenSums_71 rfl ?_
          refine Z_istore 74 [(7, _), (6, _), (5, _), (4, _), (3, _), (0, _), (1, _), (2, _)] dX2_shortenSums_72 rfl (Nat.le_of_ble_eq_true rfl) rfl ?_
          refine Z_iload 76 0 dX2_shortenSums_74 rfl rfl ?_
          refine Z_aload_n 77 5 dX2_shortenSums_76 rfl rfl ?_
          refine Z_getR 80 dX2_shortenSums_77 rfl fX2_15 (Nat.le_of_ble_eq_true rfl) rfl rfl ?_
          refine Z_iload 82 1 dX2_shortenSums_80 rfl rfl ?_
          refine Z_ialn 83 dX2_shortenSums_82 rfl (Nat.le_of_ble_eq_true rfl) rfl (hk.2.2 i hlt).2.2 (by decide) ?_
          refine Z_icmp_ge 86 97 dX2_shortenSums_83 rfl rfl (fun c83 => ?_) (fun c83 => ?_)
          · skip
            refine Z_lv [3, 4, 5, 6, 7] rfl ?_
            exact KN (by rw [he]; exact hL.stay (by decide) (by omega) hfo.2.2 hfo.1.2 (by omega) e47 rfl (Int32.not_lt.mpr c83))
          · skip
            have hst := hL.step (by decide) (by omega) hfo.2.2 hfo.1.2 (d := m 8 i) (by omega) e47 rfl (Int32.not_le.mp c83)
            refine Z_aload_n 87 5 dX2_shortenSums_86 rfl rfl ?_
            refine Z_getR 90 dX2_shortenSums_87 rfl fX2_15 (Nat.le_of_ble_eq_true rfl) rfl rfl ?_
            refine Z_iload 92 1 dX2_shortenSums_90 rfl rfl ?_
            refine Z_iload 94 0 dX2_shortenSums_92 rfl rfl ?_
            refine Z_iasn 95 dX2_shortenSums_94 rfl (Nat.le_of_ble_eq_true rfl) rfl (hk.2.2 i hlt).2.2 (by decide) ?_
            refine Z_iconst 96 (nI 1) dX2_shortenSums_95 rfl rfl ?_
            refine Z_istore_n 97 [(3, _), (7, _), (6, _), (5, _), (4, _), (0, _), (1, _), (2, _)] dX2_shortenSums_96 rfl (Nat.le_of_ble_eq_true rfl) rfl ?_
            refine Z_lv [4, 0, 5, 6, 7] rfl ?_
            exact K97 _ _ hF.up (by rw [rxs_s, he, hc9]; exact hst.1) (by rw [chg_s, he, decide_eq_true hst.2, Bool.or_true]; rfl)
        · skip
          have e47 : mm 58 (sF m 1 i) = 1000000 := by simpa using c47
          refine Z_goto 97 dX2_shortenSums_50 rfl ?_
          refine Z_lv [1, 2, 3, 4, 5] rfl ?_
          exact KN (by rw [he]; exact hL.far (by decide) (by omega) hfo.1.2 (by rw [e47]; exact m1e6))

set_option maxRecDepth 100000 in
set_option maxHeartbeats 4000000 in
theorem zX2_shortenSums {G : zG} {l : Launch} {h : Nat → Nat} {m : zM} (n : Nat) (hk : sOk m 1 n) (hd : dOk m n) (y : Nat → Int) (b : Int) (hb : b ≤ 20000) (x : Int32) (hL : BV 1000000 m 58 y b) : zMet G l yX2_shortenSums mX2_shortenSums [.ref (G.1 + 56), .ref (G.1 + 1), .int x] (zw h m) (fun r w => ∃ m', w = zw h m' ∧ r = some (.int (bI (chg y (eB m (fun t => decide (¬ nI t = x ∧ sForce m 1 t))) n = true))) ∧ Fr 58 m m' ∧ BV 1000000 m' 58 (rxs y (eB m (fun t => decide (¬ nI t = x ∧ sForce m 1 t))) n) (b + 60 * n)) 0 0 := by
  refine zMet_of [(0, .ref (G.1 + 56)), (1, .ref (G.1 + 1)), (2, .int x)] (by decide +kernel) rfl (Or.inl rfl) (Nat.le_of_ble_eq_true rfl) rfl ?_
  refine Z_iconst 1 (nI 0) dX2_shortenSums_0 rfl rfl ?_
  refine Z_istore_n 2 [(3, _), (0, _), (1, _), (2, _)] dX2_shortenSums_1 rfl (Nat.le_of_ble_eq_true rfl) rfl ?_
  refine Z_iconst 3 (nI 0) dX2_shortenSums_2 rfl rfl ?_
  refine Z_istore 5 [(4, _), (3, _), (0, _), (1, _), (2, _)] dX2_shortenSums_3 rfl (Nat.le_of_ble_eq_true rfl) rfl ?_
  exact lX2_shortenSums n hk hd y b hb x n 0 (by omega) m Fr.rf (hL.mono (by show b ≤ b + 60 * ((0 : Nat) : Int); omega))

def bsM (m : zM) (f i : Nat) : zM := fun q k => if q = 58 ∧ k < i then (if k = f then nI 0 else 1000000) else m q k
theorem bsM_t (m : zM) (f i : Nat) (h : i = f) : up2 (bsM m f i) 58 i (nI 0) = bsM m f (i + 1) := by
  funext q k
  unfold up2 bsM
  by_cases h1 : q = 58
  · subst h1
    by_cases h2 : k = i
    · subst h2
      simp [h]
    · by_cases h3 : k < i
      · simp [h2, h3, Nat.lt_succ_of_lt h3]
      · have h4 : ¬ k < i + 1 := by omega
        simp [h2, h3, h4]
  · simp [h1]
theorem bsM_f (m : zM) (f i : Nat) (h : ¬ i = f) : up2 (bsM m f i) 58 i 1000000 = bsM m f (i + 1) := by
  funext q k
  unfold up2 bsM
  by_cases h1 : q = 58
  · subst h1
    by_cases h2 : k = i
    · subst h2
      simp [h]
    · by_cases h3 : k < i
      · simp [h2, h3, Nat.lt_succ_of_lt h3]
      · have h4 : ¬ k < i + 1 := by omega
        simp [h2, h3, h4]
  · simp [h1]
theorem bsM_fr (m : zM) (f i : Nat) : Fr 58 m (bsM m f i) := fun q hq => by
  funext k
  simp [bsM, hq]
def Yb (f : Nat) : Nat → Int := fun q => if q = f then 0 else 100000
set_option maxRecDepth 100000 in
set_option maxHeartbeats 4000000 in
theorem lX2_bbt68 {G : zG} {l : Launch} {h : Nat → Nat} {m : zM} (n : Nat) (hk : sOk m 1 n) (hd : dOk m n) (f o : Nat) (hf : f < 8) (ho : o < 8) (x : Int32) (f9 : Nat → Int) (hp : Pot (eB m (fun t => decide (¬ nI t = x ∧ sForce m 1 t))) n f9) (i : Nat) (mm : zM) (L : Int32) (hF : Fr 58 m mm) (hL : BV 1000000 mm 58 (sk (Yb f) (eB m (fun t => decide (¬ nI t = x ∧ sForce m 1 t))) n i) 8000) (hx : Fx (sk (Yb f) (eB m (fun t => decide (¬ nI t = x ∧ sForce m 1 t))) n i) (eB m (fun t => decide (¬ nI t = x ∧ sForce m 1 t))) n) : Z G mX2_boundByTreaties (fun _ => True) (zN G (fun r w => ∃ m' y v, w = zw h m' ∧ Fr 58 m m' ∧ Top (Yb f) (eB m (fun t => decide (¬ nI t = x ∧ sForce m 1 t))) n y ∧ (∀ q, q < 8 → y q = zK9 ∨ (-8000 ≤ y q ∧ y q ≤ 8000)) ∧ r = some (.int v) ∧ ((y o = zK9 ∧ v.toInt = 1000000) ∨ (-8000 ≤ y o ∧ y o ≤ 8000 ∧ v.toInt = y o))) 0 0) l 0 0 (zw h mm) 68 [(6, .int (nI i)), (5, .int L), (0, .ref (G.1 + 56)), (1, .ref (G.1 + 1)), (2, .int (nI f)), (3, .int (nI o)), (4, .int x)] [] := by
  refine Z_aload_n 69 2 dX2_boundByTreaties_68 rfl rfl ?_
  refine Z_getR 72 dX2_boundByTreaties_69 rfl fX2_15 (Nat.le_of_ble_eq_true rfl) rfl rfl ?_
  refine Z_iload_n 73 5 dX2_boundByTreaties_72 rfl rfl ?_
  refine Z_ialn 74 dX2_boundByTreaties_73 rfl (Nat.le_of_ble_eq_true rfl) rfl ho (by decide) ?_
  exact Z_iret dX2_boundByTreaties_74 rfl ⟨mm, _, _, rfl, hF, sk_top hx, fun q hq => by have := hL q hq; omega, rfl, by have := hL o ho; omega⟩
set_option maxRecDepth 100000 in
set_option maxHeartbeats 4000000 in
theorem lX2_bbt {G : zG} {l : Launch} {h : Nat → Nat} {m : zM} (n : Nat) (hk : sOk m 1 n) (hd : dOk m n) (f o : Nat) (hf : f < 8) (ho : o < 8) (x : Int32) (f9 : Nat → Int) (hp : Pot (eB m (fun t => decide (¬ nI t = x ∧ sForce m 1 t))) n f9) : ∀ (t i : Nat), i + t = 8 → ∀ (mm : zM) (L : Int32), Fr 58 m mm → BV 1000000 mm 58 (sk (Yb f) (eB m (fun t => decide (¬ nI t = x ∧ sForce m 1 t))) n i) (900 * i) → ((L = nI 0 ∧ Fx (sk (Yb f) (eB m (fun t => decide (¬ nI t = x ∧ sForce m 1 t))) n i) (eB m (fun t => decide (¬ nI t = x ∧ sForce m 1 t))) n) ∨ (L = nI 1 ∧ i ≤ 7)) → Z G mX2_boundByTreaties (fun _ => True) (zN G (fun r w => ∃ m' y v, w = zw h m' ∧ Fr 58 m m' ∧ Top (Yb f) (eB m (fun t => decide (¬ nI t = x ∧ sForce m 1 t))) n y ∧ (∀ q, q < 8 → y q = zK9 ∨ (-8000 ≤ y q ∧ y q ≤ 8000)) ∧ r = some (.int v) ∧ ((y o = zK9 ∧ v.toInt = 1000000) ∨ (-8000 ≤ y o ∧ y o ≤ 8000 ∧ v.toInt = y o))) 0 0) l 0 0 (zw h mm) 41 [(6, .int (nI i)), (5, .int L), (0, .ref (G.1 + 56)), (1, .ref (G.1 + 1)), (2, .int (nI f)), (3, .int (nI o)), (4, .int x)] [] := by
  intro t
  induction t with
  | zero =>
    intro i hi mm L hF hL hQ
    have e9 : i = 8 := by omega
    subst e9
    obtain ⟨rfl, hx⟩ : L = nI 0 ∧ Fx (sk (Yb f) (eB m (fun t => decide (¬ nI t = x ∧ sForce m 1 t))) n 8) (eB m (fun t => decide (¬ nI t = x ∧ sForce m 1 t))) n := by
      rcases hQ with q | q
      · exact q
      · exact absurd q.2 (by decide)
    refine Z_iload 43 0 dX2_boundByTreaties_41 rfl rfl ?_
    refine Z_bipush 45 (nI 8) dX2_boundByTreaties_43 rfl rfl ?_
    refine Z_icmp_ge 48 68 dX2_boundByTreaties_45 rfl rfl (fun c45 => ?_) (fun c45 => absurd (nI_le (Nat.le_refl _) (by omega)) c45)
    exact lX2_bbt68 n hk hd f o hf ho x f9 hp 8 mm _ hF (hL.mono (by decide)) hx
  | succ t ih =>
    intro i hi mm L hF hL hQ
    have hlt : i < 8 := by omega
    have hn := hk.2.1
    refine Z_iload 43 0 dX2_boundByTreaties_41 rfl rfl ?_
    refine Z_bipush 45 (nI 8) dX2_boundByTreaties_43 rfl rfl ?_
    refine Z_icmp_ge 48 68 dX2_boundByTreaties_45 rfl rfl (fun c45 => absurd c45 (nI_ge hlt (by omega))) (fun c45 => ?_)
    refine Z_iload 50 1 dX2_boundByTreaties_48 rfl rfl ?_
    refine Z_if_eq 53 68 dX2_boundByTreaties_50 rfl rfl (fun c50 => ?_) (fun c50 => ?_)
    · skip
      obtain ⟨rfl, hx⟩ : L = nI 0 ∧ Fx (sk (Yb f) (eB m (fun t => decide (¬ nI t = x ∧ sForce m 1 t))) n i) (eB m (fun t => decide (¬ nI t = x ∧ sForce m 1 t))) n := by
        rcases hQ with q | q
        · exact q
        · rw [q.1] at c50
          exact absurd c50 (by decide)
      exact lX2_bbt68 n hk hd f o hf ho x f9 hp i mm _ hF (hL.mono (by omega)) hx
    · skip
      have h7 : i ≤ 7 := by omega
      refine Z_aload_n 54 2 dX2_boundByTreaties_53 rfl rfl ?_
      refine Z_aload_n 55 3 dX2_boundByTreaties_54 rfl rfl ?_
      refine Z_iload 57 6 dX2_boundByTreaties_55 rfl rfl ?_
      refine Z_callV 60 [_, _] 2 (zX2_shortenSums (m := mm) n (sOk_fr (by decide) hF hk) (dOk_fr (by decide) hF hd) (sk (Yb f) (eB m (fun t => decide (¬ nI t = x ∧ sForce m 1 t))) n i) (900 * i) (by omega) x hL) dX2_boundByTreaties_57 rfl qX2_24 kX2_shortenSums rfl rfl (Nat.le_of_ble_eq_true rfl) rfl rfl ⟨(Nat.le_of_ble_eq_true rfl), (Nat.le_of_ble_eq_true rfl)⟩ (Nat.le_of_ble_eq_true rfl) ⟨rfl, rfl⟩ ⟨(Nat.le_of_ble_eq_true rfl), (Nat.le_of_ble_eq_true rfl)⟩ (fun r9 w9 hp9 => ?_)
      obtain ⟨m2, rfl, hr9, hF2, hL2⟩ := hp9
      cases hr9
      rw [eB_fr hF] at hL2
      rw [eB_fr hF]
      refine Z_istore 62 [(5, _), (6, _), (0, _), (1, _), (2, _), (3, _), (4, _)] dX2_boundByTreaties_60 rfl (Nat.le_of_ble_eq_true rfl) rfl ?_
      refine Z_iinc 65 [(6, _), (5, _), (0, _), (1, _), (2, _), (3, _), (4, _)] 1 _ dX2_boundByTreaties_62 rfl (Nat.le_of_ble_eq_true rfl) rfl (nI_1 _) rfl ?_
      refine Z_goto 41 dX2_boundByTreaties_65 rfl ?_
      refine ih (i + 1) (by omega) m2 _ (hF.trans hF2) (hL2.mono (by rw [Int.natCast_add]; omega)) ?_
      cases hc9 : chg (sk (Yb f) (eB m (fun t => decide (¬ nI t = x ∧ sForce m 1 t))) n i) (eB m (fun t => decide (¬ nI t = x ∧ sForce m 1 t))) n with
      | false =>
        refine Or.inl ⟨rfl, ?_⟩
        obtain ⟨g1, g2⟩ := chg_f n hc9
        show Fx (rxs (sk (Yb f) (eB m (fun t => decide (¬ nI t = x ∧ sForce m 1 t))) n i) (eB m (fun t => decide (¬ nI t = x ∧ sForce m 1 t))) n) (eB m (fun t => decide (¬ nI t = x ∧ sForce m 1 t))) n
        rw [g1]
        exact g2
      | true =>
        refine Or.inr ⟨rfl, ?_⟩
        rcases Nat.lt_or_ge i 7 with g | g
        · omega
        · have e7 : i = 7 := by omega
          subst e7
          rw [(Fx_chg n (sk_7 hp)).2] at hc9
          cases hc9

set_option maxRecDepth 100000 in
set_option maxHeartbeats 4000000 in
theorem lX2_bbt1 {G : zG} {l : Launch} {h : Nat → Nat} {m : zM} (n : Nat) (hk : sOk m 1 n) (hd : dOk m n) (f o : Nat) (hf : f < 8) (ho : o < 8) (x : Int32) (f9 : Nat → Int) (hp : Pot (eB m (fun t => decide (¬ nI t = x ∧ sForce m 1 t))) n f9) : ∀ (t i : Nat), i + t = 8 → Z G mX2_boundByTreaties (fun _ => True) (zN G (fun r w => ∃ m' y v, w = zw h m' ∧ Fr 58 m m' ∧ Top (Yb f) (eB m (fun t => decide (¬ nI t = x ∧ sForce m 1 t))) n y ∧ (∀ q, q < 8 → y q = zK9 ∨ (-8000 ≤ y q ∧ y q ≤ 8000)) ∧ r = some (.int v) ∧ ((y o = zK9 ∧ v.toInt = 1000000) ∨ (-8000 ≤ y o ∧ y o ≤ 8000 ∧ v.toInt = y o))) 0 0) l 0 0 (zw h (bsM m f i)) 3 [(5, .int (nI i)), (0, .ref (G.1 + 56)), (1, .ref (G.1 + 1)), (2, .int (nI f)), (3, .int (nI o)), (4, .int x)] [] := by
  intro t
  induction t with
  | zero =>
    intro i hi
    have e9 : i = 8 := by omega
    subst e9
    refine Z_iload 5 0 dX2_boundByTreaties_3 rfl rfl ?_
    refine Z_bipush 7 (nI 8) dX2_boundByTreaties_5 rfl rfl ?_
    refine Z_icmp_ge 10 35 dX2_boundByTreaties_7 rfl rfl (fun c7 => ?_) (fun c7 => absurd (nI_le (Nat.le_refl _) (by omega)) c7)
    refine Z_iconst 36 (nI 1) dX2_boundByTreaties_35 rfl rfl ?_
    refine Z_istore 38 [(5, _), (0, _), (1, _), (2, _), (3, _), (4, _)] dX2_boundByTreaties_36 rfl (Nat.le_of_ble_eq_true rfl) rfl ?_
    refine Z_iconst 39 (nI 0) dX2_boundByTreaties_38 rfl rfl ?_
    refine Z_istore 41 [(6, _), (5, _), (0, _), (1, _), (2, _), (3, _), (4, _)] dX2_boundByTreaties_39 rfl (Nat.le_of_ble_eq_true rfl) rfl ?_
    refine lX2_bbt n hk hd f o hf ho x f9 hp 8 0 (by omega) (bsM m f 8) _ (bsM_fr m f 8) (fun q hq => ?_) (Or.inr ⟨rfl, by decide⟩)
    have a2 : bsM m f 8 58 q = if q = f then nI 0 else 1000000 := by simp [bsM, hq]
    have a3 : sk (Yb f) (eB m (fun t => decide (¬ nI t = x ∧ sForce m 1 t))) n 0 q = if q = f then 0 else 100000 := rfl
    rw [a2, a3]
    by_cases g : q = f
    · rw [if_pos g, if_pos g]
      right
      exact ⟨by decide, by decide, rfl⟩
    · rw [if_neg g, if_neg g]
      left
      exact ⟨rfl, m1e6⟩
  | succ t ih =>
    intro i hi
    have hlt : i < 8 := by omega
    refine Z_iload 5 0 dX2_boundByTreaties_3 rfl rfl ?_
    refine Z_bipush 7 (nI 8) dX2_boundByTreaties_5 rfl rfl ?_
    refine Z_icmp_ge 10 35 dX2_boundByTreaties_7 rfl rfl (fun c7 => absurd c7 (nI_ge hlt (by omega))) (fun c7 => ?_)
    refine Z_aload_n 11 1 dX2_boundByTreaties_10 rfl rfl ?_
    refine Z_getR 14 dX2_boundByTreaties_11 rfl fX2_15 (Nat.le_of_ble_eq_true rfl) rfl rfl ?_
    refine Z_iload 16 0 dX2_boundByTreaties_14 rfl rfl ?_
    refine Z_iload 18 0 dX2_boundByTreaties_16 rfl rfl ?_
    refine Z_iload_n 19 3 dX2_boundByTreaties_18 rfl rfl ?_
    refine Z_icmp_ne 22 26 dX2_boundByTreaties_19 rfl rfl (fun c19 => ?_) (fun c19 => ?_)
    · skip
      have e19 : ¬ i = f := fun q => c19 (by rw [q])
      refine Z_ldc 28 1000000 dX2_boundByTreaties_26 rfl kX2_23 ?_
      refine Z_iasn 29 dX2_boundByTreaties_28 rfl (Nat.le_of_ble_eq_true rfl) rfl hlt (by decide) ?_
      first | rw [bsM_f m f i e19] | rw [bsM_t m f i e19]
      refine Z_iinc 32 [(5, _), (0, _), (1, _), (2, _), (3, _), (4, _)] 0 _ dX2_boundByTreaties_29 rfl (Nat.le_of_ble_eq_true rfl) rfl (nI_1 _) rfl ?_
      refine Z_goto 3 dX2_boundByTreaties_32 rfl ?_
      exact ih (i + 1) (by omega)
    · skip
      have e19 : i = f := (nI_eq (by omega) (by omega)).mp (by simpa using c19)
      refine Z_iconst 23 (nI 0) dX2_boundByTreaties_22 rfl rfl ?_
      refine Z_goto 28 dX2_boundByTreaties_23 rfl ?_
      refine Z_iasn 29 dX2_boundByTreaties_28 rfl (Nat.le_of_ble_eq_true rfl) rfl hlt (by decide) ?_
      first | rw [bsM_f m f i e19] | rw [bsM_t m f i e19]
      refine Z_iinc 32 [(5, _), (0, _), (1, _), (2, _), (3, _), (4, _)] 0 _ dX2_boundByTreaties_29 rfl (Nat.le_of_ble_eq_true rfl) rfl (nI_1 _) rfl ?_
      refine Z_goto 3 dX2_boundByTreaties_32 rfl ?_
      exact ih (i + 1) (by omega)

set_option maxRecDepth 100000 in
set_option maxHeartbeats 4000000 in
theorem zX2_boundByTreaties {G : zG} {l : Launch} {h : Nat → Nat} {m : zM} (n : Nat) (hk : sOk m 1 n) (hd : dOk m n) (f o : Nat) (hf : f < 8) (ho : o < 8) (x : Int32) (f9 : Nat → Int) (hp : Pot (eB m (fun t => decide (¬ nI t = x ∧ sForce m 1 t))) n f9) : zMet G l yX2_boundByTreaties mX2_boundByTreaties [.ref (G.1 + 56), .ref (G.1 + 1), .int (nI f), .int (nI o), .int x] (zw h m) (fun r w => ∃ m' y v, w = zw h m' ∧ Fr 58 m m' ∧ Top (Yb f) (eB m (fun t => decide (¬ nI t = x ∧ sForce m 1 t))) n y ∧ (∀ q, q < 8 → y q = zK9 ∨ (-8000 ≤ y q ∧ y q ≤ 8000)) ∧ r = some (.int v) ∧ ((y o = zK9 ∧ v.toInt = 1000000) ∨ (-8000 ≤ y o ∧ y o ≤ 8000 ∧ v.toInt = y o))) 0 0 := by
  refine zMet_of [(0, .ref (G.1 + 56)), (1, .ref (G.1 + 1)), (2, .int (nI f)), (3, .int (nI o)), (4, .int x)] (by decide +kernel) rfl (Or.inl rfl) (Nat.le_of_ble_eq_true rfl) rfl ?_
  refine Z_iconst 1 (nI 0) dX2_boundByTreaties_0 rfl rfl ?_
  refine Z_istore 3 [(5, _), (0, _), (1, _), (2, _), (3, _), (4, _)] dX2_boundByTreaties_1 rfl (Nat.le_of_ble_eq_true rfl) rfl ?_
  refine Z_w (w' := zw h (bsM m f 0)) (congrArg (zw h) (by funext q k; simp [bsM])) ?_
  exact lX2_bbt1 n hk hd f o hf ho x f9 hp 8 0 (by omega)
