/-! the least clipping by bounds -/
/-- only the surveyor's cells have changed -/
def Fsv (m m' : zM) : Prop := ∀ q, ¬ (56 ≤ q ∧ q < 68) → m' q = m q
theorem Fsv.rf {m : zM} : Fsv m m := fun _ _ => rfl
theorem Fsv.trans {m m1 m2 : zM} (h1 : Fsv m m1) (h2 : Fsv m1 m2) : Fsv m m2 := fun q hq => (h2 q hq).trans (h1 q hq)
theorem Fr.v {c : Nat} {m m1 : zM} (hc : 56 ≤ c ∧ c < 68) (h : Fr c m m1) : Fsv m m1 := fun q hq => h q (by omega)
theorem Fp.v {m m1 : zM} (h : Fp m m1) : Fsv m m1 := fun q hq => h q (by omega)
theorem pF0 (m : zM) : (fun t => decide (0 = 1 ∨ sForce m 1 t)) = fun t => decide (sForce m 1 t) := by
  funext t
  by_cases g : sForce m 1 t
  · rw [decide_eq_true g, decide_eq_true (Or.inr g)]
  · rw [decide_eq_false g, decide_eq_false (fun q => q.elim (fun z => by cases z) g)]
theorem lb_s (M : Mx) (H : Nat → Int) (i j : Nat) : lb M H i (j + 1) = if M i j < zK9 ∧ H j + M i j < lb M H i j then H j + M i j else lb M H i j := rfl
theorem lb_min {M : Mx} {H : Nat → Int} {i j : Nat} {L x : Int32} (hL : L.toInt = lb M H i j) (h1 : M i j < zK9) (hx : x.toInt = H j + M i j) : (if x < L then x else L).toInt = lb M H i (j + 1) := by
  rw [lb_s]
  by_cases g : x < L
  · rw [if_pos g, hx]
    rw [i32_lt] at g
    rw [if_pos ⟨h1, by omega⟩]
  · rw [if_neg g, hL]
    rw [i32_lt] at g
    rw [if_neg (fun z => g (by omega))]
set_option maxRecDepth 100000 in
set_option maxHeartbeats 4000000 in
theorem lX2_lb2 {G : zG} {l : Launch} {h : Nat → Nat} {m : zM} (n : Nat) (hk : sOk m 1 n) (hd : dOk m n) (hh0 : ∀ q, q < 8 → 0 ≤ (m 2 q).toInt ∧ (m 2 q).toInt ≤ 99) (f9 : Nat → Int) (hp : Pot (eB m (fun t => decide (sForce m 1 t))) n f9) (mm : zM) (hF : Fsv m mm) (hM : PV mm (fwM (eB m (fun t => decide (sForce m 1 t))) n 8) 15360) (a : Nat) (ha : a < 8) (kk : ∀ L : Int32, L.toInt = lb (fwM (eB m (fun t => decide (sForce m 1 t))) n 8) (HgtY (m 2)) a 8 → Z G mX2_findLeastClippingByBounds (fun _ => True) (zN G (fun r w => ∃ m' y, w = zw h m' ∧ Fsv m m' ∧ Top (HgtY (m 2)) (eL m (fun t => decide (sForce m 1 t))) n y ∧ (∀ q, q < 8 → (m' 57 q).toInt = y q) ∧ ((r = some (.int (nI 1)) ∧ ∀ q, q < 8 → 0 ≤ y q) ∨ (r = some (.int (nI 0)) ∧ ∃ q, q < 8 ∧ y q < 0))) 0 0) l 0 0 (zw h mm) 72 [(4, .int (nI 8)), (3, .int L), (2, .int (nI a)), (0, .ref (G.1 + 56)), (1, .ref (G.1 + 1))] []) : ∀ (t i : Nat), i + t = 8 → ∀ L : Int32, L.toInt = lb (fwM (eB m (fun t => decide (sForce m 1 t))) n 8) (HgtY (m 2)) a i → Z G mX2_findLeastClippingByBounds (fun _ => True) (zN G (fun r w => ∃ m' y, w = zw h m' ∧ Fsv m m' ∧ Top (HgtY (m 2)) (eL m (fun t => decide (sForce m 1 t))) n y ∧ (∀ q, q < 8 → (m' 57 q).toInt = y q) ∧ ((r = some (.int (nI 1)) ∧ ∀ q, q < 8 → 0 ≤ y q) ∨ (r = some (.int (nI 0)) ∧ ∃ q, q < 8 ∧ y q < 0))) 0 0) l 0 0 (zw h mm) 23 [(4, .int (nI i)), (3, .int L), (2, .int (nI a)), (0, .ref (G.1 + 56)), (1, .ref (G.1 + 1))] [] := by
  intro t
  induction t with
  | zero =>
    intro i hi L hL
    have e9 : i = 8 := by omega
    subst e9
    refine Z_iload 25 0 dX2_findLeastClippingByBounds_23 rfl rfl ?_
    refine Z_bipush 27 (nI 8) dX2_findLeastClippingByBounds_25 rfl rfl ?_
    refine Z_icmp_ge 30 72 dX2_findLeastClippingByBounds_27 rfl rfl (fun c27 => ?_) (fun c27 => absurd (nI_le (Nat.le_refl _) (by omega)) c27)
    exact kk L hL
  | succ t ih =>
    intro i hi L hL
    have hlt : i < 8 := by omega
    have K66 : ∀ (L2 : Int32), L2.toInt = lb (fwM (eB m (fun t => decide (sForce m 1 t))) n 8) (HgtY (m 2)) a (i + 1) → Z G mX2_findLeastClippingByBounds (fun _ => True) (zN G (fun r w => ∃ m' y, w = zw h m' ∧ Fsv m m' ∧ Top (HgtY (m 2)) (eL m (fun t => decide (sForce m 1 t))) n y ∧ (∀ q, q < 8 → (m' 57 q).toInt = y q) ∧ ((r = some (.int (nI 1)) ∧ ∀ q, q < 8 → 0 ≤ y q) ∨ (r = some (.int (nI 0)) ∧ ∃ q, q < 8 ∧ y q < 0))) 0 0) l 0 0 (zw h mm) 66 [(4, .int (nI i)), (3, .int L2), (2, .int (nI a)), (0, .ref (G.1 + 56)), (1, .ref (G.1 + 1))] [] := by
      intro L2 hL2
      refine Z_iinc 69 [(4, _), (3, _), (2, _), (0, _), (1, _)] 0 _ dX2_findLeastClippingByBounds_66 rfl (Nat.le_of_ble_eq_true rfl) rfl (nI_1 _) rfl ?_
      refine Z_goto 23 dX2_findLeastClippingByBounds_69 rfl ?_
      exact ih (i + 1) (by omega) L2 hL2
    refine Z_iload 25 0 dX2_findLeastClippingByBounds_23 rfl rfl ?_
    refine Z_bipush 27 (nI 8) dX2_findLeastClippingByBounds_25 rfl rfl ?_
    refine Z_icmp_ge 30 72 dX2_findLeastClippingByBounds_27 rfl rfl (fun c27 => absurd c27 (nI_ge hlt (by omega))) (fun c27 => ?_)
    refine Z_aload_n 31 3 dX2_findLeastClippingByBounds_30 rfl rfl ?_
    refine Z_getR 34 dX2_findLeastClippingByBounds_31 rfl fX2_20 (Nat.le_of_ble_eq_true rfl) rfl rfl ?_
    refine Z_iload_n 35 2 dX2_findLeastClippingByBounds_34 rfl rfl ?_
    refine Z_aaln 36 dX2_findLeastClippingByBounds_35 rfl (Nat.le_of_ble_eq_true rfl) rfl ha (by decide) (if_pos ha) ?_
    refine Z_iload 38 0 dX2_findLeastClippingByBounds_36 rfl rfl ?_
    refine Z_ialn 39 dX2_findLeastClippingByBounds_38 rfl (show 60 + a < 74 by omega) (shP ha) (by first | assumption | omega) (by decide) ?_
    refine Z_ldc 41 1000000 dX2_findLeastClippingByBounds_39 rfl kX2_23 ?_
    refine Z_icmp_eq 44 66 dX2_findLeastClippingByBounds_41 rfl rfl (fun c41 => ?_) (fun c41 => ?_)
    · skip
      refine K66 L ?_
      rw [lb_s, if_neg (fun g => hM.far (by decide) ha hlt c41 g.1)]
      exact hL
    · skip
      have hnr := hM.near (by decide) ha hlt c41
      refine Z_iload_n 45 1 dX2_findLeastClippingByBounds_44 rfl rfl ?_
      refine Z_aload_n 46 4 dX2_findLeastClippingByBounds_45 rfl rfl ?_
      refine Z_getR 49 dX2_findLeastClippingByBounds_46 rfl fX2_64 (Nat.le_of_ble_eq_true rfl) rfl rfl ?_
      refine Z_iload 51 0 dX2_findLeastClippingByBounds_49 rfl rfl ?_
      refine Z_ialn 52 dX2_findLeastClippingByBounds_51 rfl (Nat.le_of_ble_eq_true rfl) rfl hlt (by decide) ?_
      refine Z_top (v' := .int (m 2 i)) (congrArg Value.int (congrFun (hF 2 (by decide)) i)) ?_
      refine Z_aload_n 53 3 dX2_findLeastClippingByBounds_52 rfl rfl ?_
      refine Z_getR 56 dX2_findLeastClippingByBounds_53 rfl fX2_20 (Nat.le_of_ble_eq_true rfl) rfl rfl ?_
      refine Z_iload_n 57 2 dX2_findLeastClippingByBounds_56 rfl rfl ?_
      refine Z_aaln 58 dX2_findLeastClippingByBounds_57 rfl (Nat.le_of_ble_eq_true rfl) rfl ha (by decide) (if_pos ha) ?_
      refine Z_iload 60 0 dX2_findLeastClippingByBounds_58 rfl rfl ?_
      refine Z_ialn 61 dX2_findLeastClippingByBounds_60 rfl (show 60 + a < 74 by omega) (shP ha) (by first | assumption | omega) (by decide) ?_
      refine Z_iadd 62 dX2_findLeastClippingByBounds_61 rfl ?_
      refine Z_min 65 dX2_findLeastClippingByBounds_62 rfl qX2_58 kmin ⟨(Nat.le_of_ble_eq_true rfl), (Nat.le_of_ble_eq_true rfl), (Nat.le_of_ble_eq_true rfl), (Nat.le_of_ble_eq_true rfl)⟩ ?_
      refine Z_istore_n 66 [(3, _), (4, _), (2, _), (0, _), (1, _)] dX2_findLeastClippingByBounds_65 rfl (Nat.le_of_ble_eq_true rfl) rfl ?_
      refine Z_lv [1, 0, 2, 3, 4] rfl ?_
      refine K66 _ (lb_min hL hnr.1 ?_)
      have g0 : HgtY (m 2) i = (m 2 i).toInt := if_pos hlt
      have g1 := hh0 i hlt
      rw [i32_add (by omega) (by omega), g0]
      omega

set_option maxRecDepth 100000 in
set_option maxHeartbeats 4000000 in
theorem lX2_lb1 {G : zG} {l : Launch} {h : Nat → Nat} {m : zM} (n : Nat) (hk : sOk m 1 n) (hd : dOk m n) (hh0 : ∀ q, q < 8 → 0 ≤ (m 2 q).toInt ∧ (m 2 q).toInt ≤ 99) (f9 : Nat → Int) (hp : Pot (eB m (fun t => decide (sForce m 1 t))) n f9) : ∀ (t i : Nat), i + t = 8 → ∀ mm : zM, Fsv m mm → PV mm (fwM (eB m (fun t => decide (sForce m 1 t))) n 8) 15360 → (∀ q, q < i → (mm 57 q).toInt = lb (fwM (eB m (fun t => decide (sForce m 1 t))) n 8) (HgtY (m 2)) q 8) → Z G mX2_findLeastClippingByBounds (fun _ => True) (zN G (fun r w => ∃ m' y, w = zw h m' ∧ Fsv m m' ∧ Top (HgtY (m 2)) (eL m (fun t => decide (sForce m 1 t))) n y ∧ (∀ q, q < 8 → (m' 57 q).toInt = y q) ∧ ((r = some (.int (nI 1)) ∧ ∀ q, q < 8 → 0 ≤ y q) ∨ (r = some (.int (nI 0)) ∧ ∃ q, q < 8 ∧ y q < 0))) 0 0) l 0 0 (zw h mm) 7 [(2, .int (nI i)), (0, .ref (G.1 + 56)), (1, .ref (G.1 + 1))] [] := by
  intro t
  induction t with
  | zero =>
    intro i hi mm hF hM hl
    have e9 : i = 8 := by omega
    subst e9
    refine Z_iload_n 8 0 dX2_findLeastClippingByBounds_7 rfl rfl ?_
    refine Z_bipush 10 (nI 8) dX2_findLeastClippingByBounds_8 rfl rfl ?_
    refine Z_icmp_ge 13 85 dX2_findLeastClippingByBounds_10 rfl rfl (fun c10 => ?_) (fun c10 => absurd (nI_le (Nat.le_refl _) (by omega)) c10)
    refine Z_aload_n 86 1 dX2_findLeastClippingByBounds_85 rfl rfl ?_
    refine Z_callV 89 [] 2 (zX2_areLevelsAboveGround (m := mm)) dX2_findLeastClippingByBounds_86 rfl qX2_71 kX2_areLevelsAboveGround rfl rfl (Nat.le_of_ble_eq_true rfl) rfl rfl ⟨(Nat.le_of_ble_eq_true rfl), (Nat.le_of_ble_eq_true rfl)⟩ (Nat.le_of_ble_eq_true rfl) ⟨rfl, rfl⟩ ⟨(Nat.le_of_ble_eq_true rfl), (Nat.le_of_ble_eq_true rfl)⟩ (fun r9 w9 hp9 => ?_)
    obtain ⟨rfl, hr9⟩ := hp9
    have htop := (fwM_ok hp (eB_ok hk hd) 8 (by decide)).levels (by decide) (eB_ok hk hd) (H := HgtY (m 2)) (fun q hq => by
      have g0 : HgtY (m 2) q = (m 2 q).toInt := if_pos hq
      rw [g0]
      exact hh0 q hq) (fun q hq => if_neg hq)
    have hlv : ∀ q, q < 8 → (mm 57 q).toInt = (if q < 8 then lb (fwM (eB m (fun t => decide (sForce m 1 t))) n 8) (HgtY (m 2)) q 8 else 0) := fun q hq => by
      rw [if_pos hq]
      exact hl q hq
    have a3 : (0 : Int32).toInt = 0 := rfl
    rcases hr9 with ⟨rfl, hr9⟩ | ⟨rfl, hr9⟩
    · refine Z_zret dX2_findLeastClippingByBounds_89 rfl (Or.inr rfl) ⟨mm, _, rfl, hF, htop, hlv, Or.inl ⟨rfl, fun q hq => ?_⟩⟩
      have a1 := hr9 q hq
      have a2 := hlv q hq
      rw [i32_lt] at a1
      show 0 ≤ (if q < 8 then lb (fwM (eB m (fun t => decide (sForce m 1 t))) n 8) (HgtY (m 2)) q 8 else 0)
      omega
    · refine Z_zret dX2_findLeastClippingByBounds_89 rfl (Or.inl rfl) ⟨mm, _, rfl, hF, htop, hlv, Or.inr ⟨rfl, ?_⟩⟩
      obtain ⟨q, hq, a1⟩ := hr9
      have a2 := hlv q hq
      rw [i32_lt] at a1
      refine ⟨q, hq, ?_⟩
      show (if q < 8 then lb (fwM (eB m (fun t => decide (sForce m 1 t))) n 8) (HgtY (m 2)) q 8 else 0) < 0
      omega
  | succ t ih =>
    intro i hi mm hF hM hl
    have hlt : i < 8 := by omega
    refine Z_iload_n 8 0 dX2_findLeastClippingByBounds_7 rfl rfl ?_
    refine Z_bipush 10 (nI 8) dX2_findLeastClippingByBounds_8 rfl rfl ?_
    refine Z_icmp_ge 13 85 dX2_findLeastClippingByBounds_10 rfl rfl (fun c10 => absurd c10 (nI_ge hlt (by omega))) (fun c10 => ?_)
    refine Z_aload_n 14 2 dX2_findLeastClippingByBounds_13 rfl rfl ?_
    refine Z_getR 17 dX2_findLeastClippingByBounds_14 rfl fX2_64 (Nat.le_of_ble_eq_true rfl) rfl rfl ?_
    refine Z_iload_n 18 0 dX2_findLeastClippingByBounds_17 rfl rfl ?_
    refine Z_ialn 19 dX2_findLeastClippingByBounds_18 rfl (Nat.le_of_ble_eq_true rfl) rfl hlt (by decide) ?_
    refine Z_top (v' := .int (m 2 i)) (congrArg Value.int (congrFun (hF 2 (by decide)) i)) ?_
    refine Z_istore_n 20 [(3, _), (2, _), (0, _), (1, _)] dX2_findLeastClippingByBounds_19 rfl (Nat.le_of_ble_eq_true rfl) rfl ?_
    refine Z_iconst 21 (nI 0) dX2_findLeastClippingByBounds_20 rfl rfl ?_
    refine Z_istore 23 [(4, _), (3, _), (2, _), (0, _), (1, _)] dX2_findLeastClippingByBounds_21 rfl (Nat.le_of_ble_eq_true rfl) rfl ?_
    refine lX2_lb2 n hk hd hh0 f9 hp mm hF hM i hlt ?_ 8 0 (by omega) _ (by show (m 2 i).toInt = HgtY (m 2) i; exact (if_pos hlt).symm)
    intro L hL
    refine Z_aload_n 73 3 dX2_findLeastClippingByBounds_72 rfl rfl ?_
    refine Z_getR 76 dX2_findLeastClippingByBounds_73 rfl fX2_9 (Nat.le_of_ble_eq_true rfl) rfl rfl ?_
    refine Z_iload_n 77 2 dX2_findLeastClippingByBounds_76 rfl rfl ?_
    refine Z_iload_n 78 1 dX2_findLeastClippingByBounds_77 rfl rfl ?_
    refine Z_iasn 79 dX2_findLeastClippingByBounds_78 rfl (Nat.le_of_ble_eq_true rfl) rfl hlt (by decide) ?_
    refine Z_iinc 82 [(2, _), (4, _), (3, _), (0, _), (1, _)] 2 _ dX2_findLeastClippingByBounds_79 rfl (Nat.le_of_ble_eq_true rfl) rfl (nI_1 _) rfl ?_
    refine Z_goto 7 dX2_findLeastClippingByBounds_82 rfl ?_
    refine Z_lv [0, 3, 4] rfl ?_
    refine ih (i + 1) (by omega) _ ?_ ?_ (fun q hq => ?_)
    · intro q hq
      rw [up2_na _ _ _ (by omega)]
      exact hF q hq
    · intro i9 j9 h1 h2
      rw [up2_na _ _ _ (by omega)]
      exact hM i9 j9 h1 h2
    · by_cases g : q = i
      · rw [g, up2_eq]
        exact hL
      · rw [up2_ne _ _ (fun z => g z.2)]
        exact hl q (by omega)

set_option maxRecDepth 100000 in
set_option maxHeartbeats 4000000 in
theorem zX2_findLeastClippingByBounds {G : zG} {l : Launch} {h : Nat → Nat} {m : zM} (n : Nat) (hk : sOk m 1 n) (hd : dOk m n) (hh0 : ∀ q, q < 8 → 0 ≤ (m 2 q).toInt ∧ (m 2 q).toInt ≤ 99) (f9 : Nat → Int) (hp : Pot (eB m (fun t => decide (sForce m 1 t))) n f9) : zMet G l yX2_findLeastClippingByBounds mX2_findLeastClippingByBounds [.ref (G.1 + 56), .ref (G.1 + 1)] (zw h m) (fun r w => ∃ m' y, w = zw h m' ∧ Fsv m m' ∧ Top (HgtY (m 2)) (eL m (fun t => decide (sForce m 1 t))) n y ∧ (∀ q, q < 8 → (m' 57 q).toInt = y q) ∧ ((r = some (.int (nI 1)) ∧ ∀ q, q < 8 → 0 ≤ y q) ∨ (r = some (.int (nI 0)) ∧ ∃ q, q < 8 ∧ y q < 0))) 0 0 := by
  refine zMet_of [(0, .ref (G.1 + 56)), (1, .ref (G.1 + 1))] (by decide +kernel) rfl (Or.inl rfl) (Nat.le_of_ble_eq_true rfl) rfl ?_
  refine Z_aload_n 1 0 dX2_findLeastClippingByBounds_0 rfl rfl ?_
  refine Z_aload_n 2 1 dX2_findLeastClippingByBounds_1 rfl rfl ?_
  refine Z_callV 5 [_] 2 (zX2_findPairs n hk hd f9 hp) dX2_findLeastClippingByBounds_2 rfl qX2_47 kX2_findPairs rfl rfl (Nat.le_of_ble_eq_true rfl) rfl rfl ⟨(Nat.le_of_ble_eq_true rfl), (Nat.le_of_ble_eq_true rfl)⟩ (Nat.le_of_ble_eq_true rfl) ⟨rfl, rfl⟩ ⟨(Nat.le_of_ble_eq_true rfl), (Nat.le_of_ble_eq_true rfl)⟩ (fun r9 w9 hp9 => ?_)
  obtain ⟨rfl, m2, rfl, hF, hM⟩ := hp9
  refine Z_iconst 6 (nI 0) dX2_findLeastClippingByBounds_5 rfl rfl ?_
  refine Z_istore_n 7 [(2, _), (0, _), (1, _)] dX2_findLeastClippingByBounds_6 rfl (Nat.le_of_ble_eq_true rfl) rfl ?_
  exact lX2_lb1 n hk hd hh0 f9 hp 8 0 (by omega) m2 hF.v hM (fun q hq => absurd hq (Nat.not_lt_zero q))
