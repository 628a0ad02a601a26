/-! HedgeTreaties$Surveyor: levels, and bounds from one hedge on -/
theorem i32_add {x y : Int32} (h1 : -1000000000 ≤ x.toInt + y.toInt) (h2 : x.toInt + y.toInt ≤ 1000000000) : (x + y).toInt = x.toInt + y.toInt := by
  rw [Int32.toInt_add]
  exact Int.bmod_eq_of_le (by omega) (by omega)
theorem i32_sub {x y : Int32} (h1 : -1000000000 ≤ x.toInt - y.toInt) (h2 : x.toInt - y.toInt ≤ 1000000000) : (x - y).toInt = x.toInt - y.toInt := by
  rw [Int32.toInt_sub]
  exact Int.bmod_eq_of_le (by omega) (by omega)
/-- only the cell c has changed -/
def Fr (c : Nat) (m m' : zM) : Prop := ∀ q, q ≠ c → m' q = m q
theorem Fr.rf {c : Nat} {m : zM} : Fr c m m := fun _ _ => rfl
theorem Fr.trans {c : Nat} {m m1 m2 : zM} (h1 : Fr c m m1) (h2 : Fr c m1 m2) : Fr c m m2 := fun q hq => (h2 q hq).trans (h1 q hq)
theorem Fr.up {c k : Nat} {m m1 : zM} {v : Int32} (h : Fr c m m1) : Fr c m (up2 m1 c k v) := fun q hq => by
  rw [up2_na _ _ _ hq]
  exact h q hq
/-- the ints at the cell c are the levels y -/
def Lv (m : zM) (c : Nat) (y : Nat → Int) (b : Int) : Prop := ∀ q, q < 8 → (m c q).toInt = y q ∧ -b ≤ y q ∧ y q ≤ 99
theorem Lv.step {m : zM} {c f : Nat} {y : Nat → Int} {b : Int} (hb : b ≤ 50000) (h : Lv m c y b) {o : Nat} {d v : Int32} (hf : f < 8) (ho : o < 8) (hd : -60 ≤ d.toInt ∧ d.toInt ≤ 60) (hv : v = m c o + d) (hh : v < m c f) : Lv (up2 m c f v) c (rx1 y (true, f, o, d.toInt)) (b + 60) ∧ hit y (true, f, o, d.toInt) := by
  have a1 := h o ho
  have a2 := h f hf
  have e1 : v.toInt = y o + d.toInt := by
    rw [hv, i32_add (by omega) (by omega), a1.1]
  have e2 : y o + d.toInt < y f := by
    rw [i32_lt] at hh
    omega
  have hit9 : hit y (true, f, o, d.toInt) := ⟨rfl, by show y o < 100000; omega, e2⟩
  refine ⟨fun q hq => ?_, hit9⟩
  unfold rx1
  rw [if_pos hit9]
  by_cases g : q = f
  · subst g
    rw [up2_eq]
    simp only [if_true]
    omega
  · rw [up2_ne _ _ (fun z => g z.2)]
    have a3 := h q hq
    simp only [g, if_false]
    omega
theorem Lv.stay {m : zM} {c f : Nat} {y : Nat → Int} {b : Int} (hb : b ≤ 50000) (h : Lv m c y b) {o : Nat} {d v : Int32} (hf : f < 8) (ho : o < 8) (hd : -60 ≤ d.toInt ∧ d.toInt ≤ 60) (hv : v = m c o + d) (hh : ¬ v < m c f) : Lv m c (rx1 y (true, f, o, d.toInt)) (b + 60) ∧ ¬ hit y (true, f, o, d.toInt) := by
  have a1 := h o ho
  have a2 := h f hf
  have e1 : v.toInt = y o + d.toInt := by
    rw [hv, i32_add (by omega) (by omega), a1.1]
  have nh : ¬ hit y (true, f, o, d.toInt) := fun g => by
    have g3 : y o + d.toInt < y f := g.2.2
    exact hh (by rw [i32_lt]; omega)
  refine ⟨fun q hq => ?_, nh⟩
  unfold rx1
  rw [if_neg nh]
  have a3 := h q hq
  omega
theorem Lv.skip {m : zM} {c : Nat} {y : Nat → Int} {b : Int} (h : Lv m c y b) {e : Ed} (he : e.1 = false) : Lv m c (rx1 y e) (b + 60) ∧ ¬ hit y e := by
  have nh : ¬ hit y e := fun g => by
    have := g.1
    rw [he] at this
    exact absurd this (by decide)
  refine ⟨fun q hq => ?_, nh⟩
  unfold rx1
  rw [if_neg nh]
  have a3 := h q hq
  omega
theorem Lv.fr {m m' : zM} {c : Nat} {y : Nat → Int} {b : Int} (h : Lv m c y b) (e : m' c = m c) : Lv m' c y b := fun q hq => by rw [e]; exact h q hq
/-- the edges of the street at 1, for levels and for bounds -/
def eL (m : zM) (p : Nat → Bool) : Nat → Ed := fun t => (p t, sF m 1 t, sO m 1 t, (m 8 t).toInt)
def eB (m : zM) (p : Nat → Bool) : Nat → Ed := fun t => (p t, sO m 1 t, sF m 1 t, (m 8 t).toInt)
def dOk (m : zM) (n : Nat) : Prop := ∀ t, t < n → -30 ≤ (m 8 t).toInt ∧ (m 8 t).toInt ≤ 60
theorem chg_s (y : Nat → Int) (e : Nat → Ed) (t : Nat) : chg y e (t + 1) = (chg y e t || decide (hit (rxs y e t) (e t))) := rfl
theorem rxs_s (y : Nat → Int) (e : Nat → Ed) (t : Nat) : rxs y e (t + 1) = rx1 (rxs y e t) (e t) := rfl
set_option maxRecDepth 100000 in
set_option maxHeartbeats 4000000 in
theorem zX2_press {G : zG} {l : Launch} {h : Nat → Nat} {m : zM} (y : Nat → Int) (b : Int) (hb : b ≤ 50000) (hL : Lv m 57 y b) (f o : Nat) (hf : f < 8) (ho : o < 8) (d : Int32) (hd : -60 ≤ d.toInt ∧ d.toInt ≤ 60) : zMet G l yX2_press mX2_press [.ref (G.1 + 56), .int (nI f), .int (nI o), .int d] (zw h m) (fun r w => ∃ m', w = zw h m' ∧ r = some (.int (bI (hit y (true, f, o, d.toInt)))) ∧ Fr 57 m m' ∧ Lv m' 57 (rx1 y (true, f, o, d.toInt)) (b + 60)) 0 0 := by
  refine zMet_of [(0, .ref (G.1 + 56)), (1, .int (nI f)), (2, .int (nI o)), (3, .int d)] (by decide +kernel) rfl (Or.inl rfl) (Nat.le_of_ble_eq_true rfl) rfl ?_
  refine Z_aload_n 1 0 dX2_press_0 rfl rfl ?_
  refine Z_getR 4 dX2_press_1 rfl fX2_9 (Nat.le_of_ble_eq_true rfl) rfl rfl ?_
  refine Z_iload_n 5 2 dX2_press_4 rfl rfl ?_
  refine Z_ialn 6 dX2_press_5 rfl (Nat.le_of_ble_eq_true rfl) rfl (by first | assumption | omega) (by decide) ?_
  refine Z_iload_n 7 3 dX2_press_6 rfl rfl ?_
  refine Z_iadd 8 dX2_press_7 rfl ?_
  refine Z_istore 10 [(4, _), (0, _), (1, _), (2, _), (3, _)] dX2_press_8 rfl (Nat.le_of_ble_eq_true rfl) rfl ?_
  refine Z_aload_n 11 1 dX2_press_10 rfl rfl ?_
  refine Z_getR 14 dX2_press_11 rfl fX2_9 (Nat.le_of_ble_eq_true rfl) rfl rfl ?_
  refine Z_iload_n 15 2 dX2_press_14 rfl rfl ?_
  refine Z_ialn 16 dX2_press_15 rfl (Nat.le_of_ble_eq_true rfl) rfl (by first | assumption | omega) (by decide) ?_
  refine Z_iload 18 0 dX2_press_16 rfl rfl ?_
  refine Z_icmp_gt 21 23 dX2_press_18 rfl rfl (fun c18 => ?_) (fun c18 => ?_)
  · skip
    refine Z_aload_n 24 1 dX2_press_23 rfl rfl ?_
    refine Z_getR 27 dX2_press_24 rfl fX2_9 (Nat.le_of_ble_eq_true rfl) rfl rfl ?_
    refine Z_iload_n 28 2 dX2_press_27 rfl rfl ?_
    refine Z_iload 30 0 dX2_press_28 rfl rfl ?_
    refine Z_iasn 31 dX2_press_30 rfl (Nat.le_of_ble_eq_true rfl) rfl (by first | assumption | omega) (by decide) ?_
    refine Z_iconst 32 (nI 1) dX2_press_31 rfl rfl ?_
    exact Z_zret dX2_press_32 rfl (by first | exact Or.inl rfl | exact Or.inr rfl | exact bI_01) ⟨_, rfl, bRt (hL.step hb hf ho hd rfl c18).2, Fr.rf.up, (hL.step hb hf ho hd rfl c18).1⟩
  · skip
    refine Z_iconst 22 (nI 0) dX2_press_21 rfl rfl ?_
    exact Z_zret dX2_press_22 rfl (by first | exact Or.inl rfl | exact Or.inr rfl | exact bI_01) ⟨m, rfl, bRf (hL.stay hb hf ho hd rfl c18).2, Fr.rf, (hL.stay hb hf ho hd rfl c18).1⟩

set_option maxRecDepth 100000 in
set_option maxHeartbeats 4000000 in
theorem lX2_areLevelsAboveGround {G : zG} {l : Launch} {h : Nat → Nat} {m : zM}  : ∀ (t i : Nat), i + t = 8 → (∀ q, q < i → ¬ m 57 q < 0) → Z G mX2_areLevelsAboveGround (fun _ => True) (zN G (fun r w => w = zw h m ∧ ((r = some (.int (nI 1)) ∧ ∀ q, q < 8 → ¬ m 57 q < 0) ∨ (r = some (.int (nI 0)) ∧ ∃ q, q < 8 ∧ m 57 q < 0))) 0 0) l 0 0 (zw h m) 2 [(1, .int (nI i)), (0, .ref (G.1 + 56))] [] := by
  intro t
  induction t with
  | zero =>
    intro i hi hy
    have e9 : i = 8 := by omega
    subst e9
    refine Z_iload_n 3 0 dX2_areLevelsAboveGround_2 rfl rfl ?_
    refine Z_bipush 5 (nI 8) dX2_areLevelsAboveGround_3 rfl rfl ?_
    refine Z_icmp_ge 8 25 dX2_areLevelsAboveGround_5 rfl rfl (fun c5 => ?_) (fun c5 => absurd (nI_le (Nat.le_refl _) (by omega)) c5)
    refine Z_iconst 26 (nI 1) dX2_areLevelsAboveGround_25 rfl rfl ?_
    exact Z_zret dX2_areLevelsAboveGround_26 rfl (by first | exact Or.inl rfl | exact Or.inr rfl | exact bI_01) ⟨rfl, Or.inl ⟨rfl, hy⟩⟩
  | succ t ih =>
    intro i hi hy
    have hlt : i < 8 := by omega
    refine Z_iload_n 3 0 dX2_areLevelsAboveGround_2 rfl rfl ?_
    refine Z_bipush 5 (nI 8) dX2_areLevelsAboveGround_3 rfl rfl ?_
    refine Z_icmp_ge 8 25 dX2_areLevelsAboveGround_5 rfl rfl (fun c5 => absurd c5 (nI_ge hlt (by omega))) (fun c5 => ?_)
    refine Z_aload_n 9 1 dX2_areLevelsAboveGround_8 rfl rfl ?_
    refine Z_getR 12 dX2_areLevelsAboveGround_9 rfl fX2_9 (Nat.le_of_ble_eq_true rfl) rfl rfl ?_
    refine Z_iload_n 13 0 dX2_areLevelsAboveGround_12 rfl rfl ?_
    refine Z_ialn 14 dX2_areLevelsAboveGround_13 rfl (Nat.le_of_ble_eq_true rfl) rfl (by first | assumption | omega) (by decide) ?_
    refine Z_if_ge 17 19 dX2_areLevelsAboveGround_14 rfl rfl (fun c14 => ?_) (fun c14 => ?_)
    · skip
      refine Z_iinc 22 [(1, _), (0, _)] 0 _ dX2_areLevelsAboveGround_19 rfl (Nat.le_of_ble_eq_true rfl) rfl (nI_1 _) rfl ?_
      refine Z_goto 2 dX2_areLevelsAboveGround_22 rfl ?_
      exact ih (i + 1) (by omega) (fun q hq => by
        rcases Nat.lt_succ_iff_lt_or_eq.mp hq with g | g
        · exact hy q g
        · rw [g]
          exact Int32.not_lt.mpr c14)
    · skip
      refine Z_iconst 18 (nI 0) dX2_areLevelsAboveGround_17 rfl rfl ?_
      exact Z_zret dX2_areLevelsAboveGround_18 rfl (by first | exact Or.inl rfl | exact Or.inr rfl | exact bI_01) ⟨rfl, Or.inr ⟨rfl, i, hlt, Int32.not_le.mp c14⟩⟩

set_option maxRecDepth 100000 in
set_option maxHeartbeats 4000000 in
theorem zX2_areLevelsAboveGround {G : zG} {l : Launch} {h : Nat → Nat} {m : zM}  : zMet G l yX2_areLevelsAboveGround mX2_areLevelsAboveGround [.ref (G.1 + 56)] (zw h m) (fun r w => w = zw h m ∧ ((r = some (.int (nI 1)) ∧ ∀ q, q < 8 → ¬ m 57 q < 0) ∨ (r = some (.int (nI 0)) ∧ ∃ q, q < 8 ∧ m 57 q < 0))) 0 0 := by
  refine zMet_of [(0, .ref (G.1 + 56))] (by decide +kernel) rfl (Or.inl rfl) (Nat.le_of_ble_eq_true rfl) rfl ?_
  refine Z_iconst 1 (nI 0) dX2_areLevelsAboveGround_0 rfl rfl ?_
  refine Z_istore_n 2 [(1, _), (0, _)] dX2_areLevelsAboveGround_1 rfl (Nat.le_of_ble_eq_true rfl) rfl ?_
  exact lX2_areLevelsAboveGround 8 0 (by omega) (fun q hq => absurd hq (Nat.not_lt_zero q))

set_option maxRecDepth 100000 in
set_option maxHeartbeats 4000000 in
theorem lX2_pressByTreaties {G : zG} {l : Launch} {h : Nat → Nat} {m : zM} (n : Nat) (hk : sOk m 1 n) (hd : dOk m n) (y : Nat → Int) (b : Int) (hb : b ≤ 20000) (fl : Nat) (hfl : fl ≤ 1) : ∀ (t i : Nat), i + t = n → ∀ mm : zM, Fr 57 m mm → Lv mm 57 (rxs y (eL m (fun t => decide (fl = 1 ∨ sForce m 1 t))) i) (b + 60 * i) → Z G mX2_pressByTreaties (fun _ => True) (zN G (fun r w => ∃ m', w = zw h m' ∧ r = some (.int (bI (chg y (eL m (fun t => decide (fl = 1 ∨ sForce m 1 t))) n = true))) ∧ Fr 57 m m' ∧ Lv m' 57 (rxs y (eL m (fun t => decide (fl = 1 ∨ sForce m 1 t))) n) (b + 60 * n)) 0 0) l 0 0 (zw h mm) 5 [(4, .int (nI i)), (3, .int (bI (chg y (eL m (fun t => decide (fl = 1 ∨ sForce m 1 t))) i = true))), (0, .ref (G.1 + 56)), (1, .ref (G.1 + 1)), (2, .int (nI fl))] [] := by
  intro t
  induction t with
  | zero =>
    intro i hi mm hF hL
    have e9 : i = n := by omega
    subst e9
    have hn := hk.2.1
    refine Z_iload 7 0 dX2_pressByTreaties_5 rfl rfl ?_
    refine Z_aload_n 8 3 dX2_pressByTreaties_7 rfl rfl ?_
    refine Z_getI 11 dX2_pressByTreaties_8 rfl fX2_28 (Nat.le_of_ble_eq_true rfl) rfl rfl ?_
    refine Z_top (congrArg Value.int ((congrFun (hF 1 (by decide)) 8).trans hk.1)) ?_
    refine Z_icmp_ge 14 66 dX2_pressByTreaties_11 rfl rfl (fun c11 => ?_) (fun c11 => absurd (nI_le (Nat.le_refl _) (by omega)) c11)
    refine Z_iload_n 67 1 dX2_pressByTreaties_66 rfl rfl ?_
    exact Z_zret dX2_pressByTreaties_67 rfl (by first | exact Or.inl rfl | exact Or.inr rfl | exact bI_01) ⟨mm, rfl, rfl, hF, hL⟩
  | succ t ih =>
    intro i hi mm hF hL
    have hlt : i < n := by omega
    have hn := hk.2.1
    have hc9 : b + 60 * ((i + 1 : Nat) : Int) = b + 60 * (i : Int) + 60 := by rw [Int.natCast_add]; omega
    have K60 : ∀ (m2 : zM) (v : Int32), Fr 57 m m2 → Lv m2 57 (rxs y (eL m (fun t => decide (fl = 1 ∨ sForce m 1 t))) (i + 1)) (b + 60 * ((i + 1 : Nat) : Int)) → v = bI (chg y (eL m (fun t => decide (fl = 1 ∨ sForce m 1 t))) (i + 1) = true) → Z G mX2_pressByTreaties (fun _ => True) (zN G (fun r w => ∃ m', w = zw h m' ∧ r = some (.int (bI (chg y (eL m (fun t => decide (fl = 1 ∨ sForce m 1 t))) n = true))) ∧ Fr 57 m m' ∧ Lv m' 57 (rxs y (eL m (fun t => decide (fl = 1 ∨ sForce m 1 t))) n) (b + 60 * n)) 0 0) l 0 0 (zw h m2) 60 [(4, .int (nI i)), (3, .int v), (0, .ref (G.1 + 56)), (1, .ref (G.1 + 1)), (2, .int (nI fl))] [] := by
      intro m2 v hF2 hL2 hv
      refine Z_iinc 63 [(4, _), (3, _), (0, _), (1, _), (2, _)] 0 _ dX2_pressByTreaties_60 rfl (Nat.le_of_ble_eq_true rfl) rfl (nI_1 _) rfl ?_
      refine Z_goto 5 dX2_pressByTreaties_63 rfl ?_
      subst hv
      exact ih (i + 1) (by omega) m2 hF2 hL2
    have K30 : ∀ (_ : Unit), (fl = 1 ∨ sForce m 1 i) → Z G mX2_pressByTreaties (fun _ => True) (zN G (fun r w => ∃ m', w = zw h m' ∧ r = some (.int (bI (chg y (eL m (fun t => decide (fl = 1 ∨ sForce m 1 t))) n = true))) ∧ Fr 57 m m' ∧ Lv m' 57 (rxs y (eL m (fun t => decide (fl = 1 ∨ sForce m 1 t))) n) (b + 60 * n)) 0 0) l 0 0 (zw h mm) 30 [(4, .int (nI i)), (3, .int (bI (chg y (eL m (fun t => decide (fl = 1 ∨ sForce m 1 t))) i = true))), (0, .ref (G.1 + 56)), (1, .ref (G.1 + 1)), (2, .int (nI fl))] [] := by
      intro _ hp
      refine Z_aload_n 31 2 dX2_pressByTreaties_30 rfl rfl ?_
      refine Z_aload_n 32 3 dX2_pressByTreaties_31 rfl rfl ?_
      refine Z_getR 35 dX2_pressByTreaties_32 rfl fX2_34 (Nat.le_of_ble_eq_true rfl) rfl rfl ?_
      refine Z_iload 37 0 dX2_pressByTreaties_35 rfl rfl ?_
      refine Z_ialn 38 dX2_pressByTreaties_37 rfl (Nat.le_of_ble_eq_true rfl) rfl (by omega) (by decide) ?_
      refine Z_top (v' := .int (nI (sF m 1 i))) (congrArg Value.int ((congrFun (hF 6 (by decide)) i).trans (hk.2.2 i hlt).1.1)) ?_
      refine Z_aload_n 39 3 dX2_pressByTreaties_38 rfl rfl ?_
      refine Z_getR 42 dX2_pressByTreaties_39 rfl fX2_41 (Nat.le_of_ble_eq_true rfl) rfl rfl ?_
      refine Z_iload 44 0 dX2_pressByTreaties_42 rfl rfl ?_
      refine Z_ialn 45 dX2_pressByTreaties_44 rfl (Nat.le_of_ble_eq_true rfl) rfl (by omega) (by decide) ?_
      refine Z_top (v' := .int (nI (sO m 1 i))) (congrArg Value.int ((congrFun (hF 7 (by decide)) i).trans (hk.2.2 i hlt).2.1)) ?_
      refine Z_aload_n 46 3 dX2_pressByTreaties_45 rfl rfl ?_
      refine Z_getR 49 dX2_pressByTreaties_46 rfl fX2_44 (Nat.le_of_ble_eq_true rfl) rfl rfl ?_
      refine Z_iload 51 0 dX2_pressByTreaties_49 rfl rfl ?_
      refine Z_ialn 52 dX2_pressByTreaties_51 rfl (Nat.le_of_ble_eq_true rfl) rfl (by omega) (by decide) ?_
      refine Z_top (v' := .int (m 8 i)) (congrArg Value.int (congrFun (hF 8 (by decide)) i)) ?_
      refine Z_callV 55 [_, _, _] 2 (zX2_press (m := mm) (rxs y (eL m (fun t => decide (fl = 1 ∨ sForce m 1 t))) i) (b + 60 * i) (by omega) hL (sF m 1 i) (sO m 1 i) (hk.2.2 i hlt).1.2 (hk.2.2 i hlt).2.2 (m 8 i) (by have := hd i hlt; omega)) dX2_pressByTreaties_52 rfl qX2_75 kX2_press rfl rfl (Nat.le_of_ble_eq_true rfl) rfl rfl ⟨(Nat.le_of_ble_eq_true rfl), (Nat.le_of_ble_eq_true rfl)⟩ (Nat.le_of_ble_eq_true rfl) ⟨rfl, rfl⟩ ⟨(Nat.le_of_ble_eq_true rfl), (Nat.le_of_ble_eq_true rfl)⟩ (fun r9 w9 hp9 => ?_)
      obtain ⟨m2, rfl, hr9, hF2, hL2⟩ := hp9
      cases hr9
      have he : (eL m (fun t => decide (fl = 1 ∨ sForce m 1 t))) i = (true, sF m 1 i, sO m 1 i, (m 8 i).toInt) := by
        show (decide _, _) = _
        rw [decide_eq_true hp]
      refine Z_if_eq 58 60 dX2_pressByTreaties_55 rfl rfl (fun c55 => ?_) (fun c55 => ?_)
      · skip
        refine K60 _ _ (hF.trans hF2) (by rw [rxs_s, he, hc9]; exact hL2) (by rw [chg_s, he, decide_eq_false (bI_0 c55), Bool.or_false])
      · skip
        refine Z_iconst 59 (nI 1) dX2_pressByTreaties_58 rfl rfl ?_
        refine Z_istore_n 60 [(3, _), (4, _), (0, _), (1, _), (2, _)] dX2_pressByTreaties_59 rfl (Nat.le_of_ble_eq_true rfl) rfl ?_
        refine Z_lv [1, 0, 2, 3, 4] rfl ?_
        refine K60 _ _ (hF.trans hF2) (by rw [rxs_s, he, hc9]; exact hL2) (by rw [chg_s, he, decide_eq_true (bI_1 c55), Bool.or_true]; rfl)
    refine Z_iload 7 0 dX2_pressByTreaties_5 rfl rfl ?_
    refine Z_aload_n 8 3 dX2_pressByTreaties_7 rfl rfl ?_
    refine Z_getI 11 dX2_pressByTreaties_8 rfl fX2_28 (Nat.le_of_ble_eq_true rfl) rfl rfl ?_
    refine Z_top (congrArg Value.int ((congrFun (hF 1 (by decide)) 8).trans hk.1)) ?_
    refine Z_icmp_ge 14 66 dX2_pressByTreaties_11 rfl rfl (fun c11 => absurd c11 (nI_ge hlt (by omega))) (fun c11 => ?_)
    refine Z_iload_n 15 4 dX2_pressByTreaties_14 rfl rfl ?_
    refine Z_if_ne 18 30 dX2_pressByTreaties_15 rfl rfl (fun c15 => ?_) (fun c15 => ?_)
    · skip
      exact K30 () (Or.inl (by
        rcases (show fl = 0 ∨ fl = 1 by omega) with q | q
        · subst q
          exact absurd rfl c15
        · exact q))
    · skip
      refine Z_aload_n 19 3 dX2_pressByTreaties_18 rfl rfl ?_
      refine Z_iload 21 0 dX2_pressByTreaties_19 rfl rfl ?_
      refine Z_callV 24 [_] 1 (zX1_isInForce 1 (Or.inl rfl) i (by omega)) dX2_pressByTreaties_21 rfl qX2_37 kX1_isInForce rfl rfl (Nat.le_of_ble_eq_true rfl) rfl rfl ⟨(Nat.le_of_ble_eq_true rfl), (Nat.le_of_ble_eq_true rfl)⟩ (Nat.le_of_ble_eq_true rfl) ⟨rfl, rfl⟩ ⟨(Nat.le_of_ble_eq_true rfl), (Nat.le_of_ble_eq_true rfl)⟩ (fun r9 w9 hp9 => ?_)
      obtain ⟨rfl, rfl⟩ := hp9
      refine Z_if_ne 27 30 dX2_pressByTreaties_24 rfl rfl (fun c24 => ?_) (fun c24 => ?_)
      · skip
        exact K30 () (Or.inr (by
          have g : mm 9 i ≤ mm 1 9 := bI_1 c24
          rw [hF 9 (by decide), hF 1 (by decide)] at g
          exact g))
      · skip
        have np : ¬ (fl = 1 ∨ sForce m 1 i) := by
          intro q
          rcases q with q | q
          · rw [q] at c15
            exact c15 (by decide)
          · have g := bI_0 (by simpa using c24)
            exact g (by rw [hF 9 (by decide), hF 1 (by decide)]; exact q)
        have he : ((eL m (fun t => decide (fl = 1 ∨ sForce m 1 t))) i).1 = false := decide_eq_false np
        refine Z_goto 60 dX2_pressByTreaties_27 rfl ?_
        refine K60 _ _ hF (by rw [rxs_s, hc9]; exact (hL.skip he).1) (by rw [chg_s, decide_eq_false (hL.skip he).2, Bool.or_false])

set_option maxRecDepth 100000 in
set_option maxHeartbeats 4000000 in
theorem zX2_pressByTreaties {G : zG} {l : Launch} {h : Nat → Nat} {m : zM} (n : Nat) (hk : sOk m 1 n) (hd : dOk m n) (y : Nat → Int) (b : Int) (hb : b ≤ 20000) (fl : Nat) (hfl : fl ≤ 1) (hL : Lv m 57 y b) : zMet G l yX2_pressByTreaties mX2_pressByTreaties [.ref (G.1 + 56), .ref (G.1 + 1), .int (nI fl)] (zw h m) (fun r w => ∃ m', w = zw h m' ∧ r = some (.int (bI (chg y (eL m (fun t => decide (fl = 1 ∨ sForce m 1 t))) n = true))) ∧ Fr 57 m m' ∧ Lv m' 57 (rxs y (eL m (fun t => decide (fl = 1 ∨ sForce m 1 t))) n) (b + 60 * n)) 0 0 := by
  refine zMet_of [(0, .ref (G.1 + 56)), (1, .ref (G.1 + 1)), (2, .int (nI fl))] (by decide +kernel) rfl (Or.inl rfl) (Nat.le_of_ble_eq_true rfl) rfl ?_
  refine Z_iconst 1 (nI 0) dX2_pressByTreaties_0 rfl rfl ?_
  refine Z_istore_n 2 [(3, _), (0, _), (1, _), (2, _)] dX2_pressByTreaties_1 rfl (Nat.le_of_ble_eq_true rfl) rfl ?_
  refine Z_iconst 3 (nI 0) dX2_pressByTreaties_2 rfl rfl ?_
  refine Z_istore 5 [(4, _), (3, _), (0, _), (1, _), (2, _)] dX2_pressByTreaties_3 rfl (Nat.le_of_ble_eq_true rfl) rfl ?_
  exact lX2_pressByTreaties n hk hd y b hb fl hfl n 0 (by omega) m Fr.rf (fun q hq => by have := hL q hq; show (m 57 q).toInt = y q ∧ -(b + 60 * ((0 : Nat) : Int)) ≤ y q ∧ y q ≤ 99; omega)
