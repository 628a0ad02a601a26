/-! the matrix of bounds in its cells -/
def PV (m : zM) (M : Mx) (b : Int) : Prop := ∀ i j, i < 8 → j < 8 → (M i j = zK9 ∧ (m (60 + i) j).toInt = 1000000) ∨ (-b ≤ M i j ∧ M i j ≤ b ∧ (m (60 + i) j).toInt = M i j)
def Fp (m m' : zM) : Prop := ∀ q, q < 60 ∨ 68 ≤ q → m' q = m q
theorem Fp.rf {m : zM} : Fp m m := fun _ _ => rfl
theorem Fp.trans {m m1 m2 : zM} (h1 : Fp m m1) (h2 : Fp m1 m2) : Fp m m2 := fun q hq => (h2 q hq).trans (h1 q hq)
theorem Fp.up {m m1 : zM} {i k : Nat} {v : Int32} (hi : i < 8) (h : Fp m m1) : Fp m (up2 m1 (60 + i) k v) := fun q hq => by
  rw [up2_na _ _ _ (by omega)]
  exact h q hq
theorem shP {h : Nat → Nat} {i : Nat} (hi : i < 8) : SH h (60 + i) = .inl 8 := by
  have h4 : i = 0 ∨ i = 1 ∨ i = 2 ∨ i = 3 ∨ i = 4 ∨ i = 5 ∨ i = 6 ∨ i = 7 := by omega
  rcases h4 with rfl | rfl | rfl | rfl | rfl | rfl | rfl | rfl <;> rfl
theorem PV.congr {m : zM} {M M' : Mx} {b : Int} (h : PV m M b) (e : ∀ i j, i < 8 → j < 8 → M' i j = M i j) : PV m M' b := fun i j hi hj => by
  rw [e i j hi hj]
  exact h i j hi hj
theorem PV.mono {m : zM} {M : Mx} {b b' : Int} (h : PV m M b) (hb : b ≤ b') : PV m M b' := fun i j hi hj => by
  have := h i j hi hj
  omega
theorem PV.far {m : zM} {M : Mx} {b : Int} (hb : b ≤ 50000) (h : PV m M b) {i j : Nat} (hi : i < 8) (hj : j < 8) (e : m (60 + i) j = 1000000) : ¬ M i j < zK9 := by
  have z9 : zK9 = 100000 := rfl
  have a := h i j hi hj
  rw [e, m1e6] at a
  omega
theorem PV.near {m : zM} {M : Mx} {b : Int} (hb : b ≤ 50000) (h : PV m M b) {i j : Nat} (hi : i < 8) (hj : j < 8) (e : ¬ m (60 + i) j = 1000000) : M i j < zK9 ∧ -b ≤ M i j ∧ M i j ≤ b ∧ (m (60 + i) j).toInt = M i j := by
  have z9 : zK9 = 100000 := rfl
  have a := h i j hi hj
  rcases a with a | a
  · exact absurd (i32_eq.mpr (a.2.trans m1e6.symm)) e
  · omega
theorem PV.jn0 {m : zM} {M : Mx} {b : Int} (h : PV m M b) {i k j : Nat} (g : ¬ (M i k < zK9 ∧ M k j < zK9 ∧ M i k + M k j < M i j)) : PV m (jn M i k j) b := by
  unfold jn
  rw [if_neg g]
  exact h
theorem PV.stay {m : zM} {M : Mx} {b : Int} (hb : b ≤ 50000) (h : PV m M b) {i k j : Nat} (hi : i < 8) (hk : k < 8) (hj : j < 8) (e1 : ¬ m (60 + i) k = 1000000) (e2 : ¬ m (60 + k) j = 1000000) (e3 : ¬ m (60 + i) k + m (60 + k) j < m (60 + i) j) : PV m (jn M i k j) b := by
  have z9 : zK9 = 100000 := rfl
  have a1 := h.near hb hi hk e1
  have a2 := h.near hb hk hj e2
  have a3 := h i j hi hj
  refine h.jn0 (fun g => e3 ?_)
  rw [i32_lt, i32_add (by omega) (by omega)]
  omega
theorem PV.step {m : zM} {M : Mx} {b : Int} (hb : b ≤ 50000) (h : PV m M b) {i k j : Nat} (hi : i < 8) (hk : k < 8) (hj : j < 8) (hB : M i k < zK9 → M k j < zK9 → -b ≤ M i k + M k j ∧ M i k + M k j ≤ b) (e1 : ¬ m (60 + i) k = 1000000) (e2 : ¬ m (60 + k) j = 1000000) (e3 : m (60 + i) k + m (60 + k) j < m (60 + i) j) : PV (up2 m (60 + i) j (m (60 + i) k + m (60 + k) j)) (jn M i k j) b := by
  have z9 : zK9 = 100000 := rfl
  have a1 := h.near hb hi hk e1
  have a2 := h.near hb hk hj e2
  have a3 := h i j hi hj
  have a4 := hB a1.1 a2.1
  have e4 : (m (60 + i) k + m (60 + k) j).toInt = M i k + M k j := by
    rw [i32_add (by omega) (by omega)]
    omega
  rw [i32_lt, e4] at e3
  unfold jn
  rw [if_pos ⟨a1.1, a2.1, by omega⟩]
  intro a c ha hc
  unfold mset
  by_cases g : a = i ∧ c = j
  · obtain ⟨rfl, rfl⟩ := g
    rw [if_pos ⟨rfl, rfl⟩, up2_eq]
    right
    omega
  · rw [if_neg g, up2_ne _ _ (fun z => g ⟨by omega, z.2⟩)]
    exact h a c ha hc
theorem PV.mnE {m : zM} {M : Mx} (h : PV m M 60) {i j : Nat} (hi : i < 8) (hj : j < 8) {d : Int32} (hd : -60 ≤ d.toInt ∧ d.toInt ≤ 60) : PV (up2 m (60 + i) j (if d < m (60 + i) j then d else m (60 + i) j)) (mn M (true, j, i, d.toInt)) 60 := by
  have z9 : zK9 = 100000 := rfl
  have a3 := h i j hi hj
  have e3 : (d < m (60 + i) j) ↔ d.toInt < M i j := by
    rw [i32_lt]
    omega
  unfold mn
  show PV _ (if true = true ∧ d.toInt < M i j then mset M i j d.toInt else M) 60
  intro a c ha hc
  by_cases g2 : d.toInt < M i j
  · rw [if_pos ⟨rfl, g2⟩, if_pos (e3.mpr g2)]
    unfold mset
    by_cases g : a = i ∧ c = j
    · obtain ⟨rfl, rfl⟩ := g
      rw [if_pos ⟨rfl, rfl⟩, up2_eq]
      right
      omega
    · rw [if_neg g, up2_ne _ _ (fun z => g ⟨by omega, z.2⟩)]
      exact h a c ha hc
  · rw [if_neg (fun z => g2 z.2), if_neg (fun z => g2 (e3.mp z))]
    by_cases g : a = i ∧ c = j
    · obtain ⟨rfl, rfl⟩ := g
      rw [up2_eq]
      exact a3
    · rw [up2_ne _ _ (fun z => g ⟨by omega, z.2⟩)]
      exact h a c ha hc
set_option maxRecDepth 100000 in
set_option maxHeartbeats 4000000 in
theorem zX2_joinPair {G : zG} {l : Launch} {h : Nat → Nat} {m : zM} (M : Mx) (b : Int) (hb : b ≤ 50000) (hM : PV m M b) (i k j : Nat) (hi : i < 8) (hk : k < 8) (hj : j < 8) (hB : M i k < zK9 → M k j < zK9 → -b ≤ M i k + M k j ∧ M i k + M k j ≤ b) : zMet G l yX2_joinPair mX2_joinPair [.ref (G.1 + 56), .int (nI i), .int (nI k), .int (nI j)] (zw h m) (fun r w => r = none ∧ ∃ m', w = zw h m' ∧ Fp m m' ∧ PV m' (jn M i k j) b) 0 0 := by
  refine zMet_of [(0, .ref (G.1 + 56)), (1, .int (nI i)), (2, .int (nI k)), (3, .int (nI j))] (by decide +kernel) rfl (Or.inl rfl) (Nat.le_of_ble_eq_true rfl) rfl ?_
  refine Z_aload_n 1 0 dX2_joinPair_0 rfl rfl ?_
  refine Z_getR 4 dX2_joinPair_1 rfl fX2_20 (Nat.le_of_ble_eq_true rfl) rfl rfl ?_
  refine Z_iload_n 5 1 dX2_joinPair_4 rfl rfl ?_
  refine Z_aaln 6 dX2_joinPair_5 rfl (Nat.le_of_ble_eq_true rfl) rfl hi (by decide) (if_pos hi) ?_
  refine Z_iload_n 7 2 dX2_joinPair_6 rfl rfl ?_
  refine Z_ialn 8 dX2_joinPair_7 rfl (show 60 + i < 74 by omega) (shP hi) hk (by decide) ?_
  refine Z_istore 10 [(4, _), (0, _), (1, _), (2, _), (3, _)] dX2_joinPair_8 rfl (Nat.le_of_ble_eq_true rfl) rfl ?_
  refine Z_aload_n 11 1 dX2_joinPair_10 rfl rfl ?_
  refine Z_getR 14 dX2_joinPair_11 rfl fX2_20 (Nat.le_of_ble_eq_true rfl) rfl rfl ?_
  refine Z_iload_n 15 3 dX2_joinPair_14 rfl rfl ?_
  refine Z_aaln 16 dX2_joinPair_15 rfl (Nat.le_of_ble_eq_true rfl) rfl hk (by decide) (if_pos hk) ?_
  refine Z_iload_n 17 4 dX2_joinPair_16 rfl rfl ?_
  refine Z_ialn 18 dX2_joinPair_17 rfl (show 60 + k < 74 by omega) (shP hk) hj (by decide) ?_
  refine Z_istore 20 [(5, _), (4, _), (0, _), (1, _), (2, _), (3, _)] dX2_joinPair_18 rfl (Nat.le_of_ble_eq_true rfl) rfl ?_
  refine Z_iload 22 1 dX2_joinPair_20 rfl rfl ?_
  refine Z_ldc 24 1000000 dX2_joinPair_22 rfl kX2_23 ?_
  refine Z_icmp_eq 27 63 dX2_joinPair_24 rfl rfl (fun c24 => ?_) (fun c24 => ?_)
  · skip
    exact Z_vret dX2_joinPair_63 rfl ⟨rfl, m, rfl, Fp.rf, hM.jn0 (fun g => hM.far hb hi hk c24 g.1)⟩
  · skip
    refine Z_iload 29 0 dX2_joinPair_27 rfl rfl ?_
    refine Z_ldc 31 1000000 dX2_joinPair_29 rfl kX2_23 ?_
    refine Z_icmp_eq 34 63 dX2_joinPair_31 rfl rfl (fun c31 => ?_) (fun c31 => ?_)
    · skip
      exact Z_vret dX2_joinPair_63 rfl ⟨rfl, m, rfl, Fp.rf, hM.jn0 (fun g => hM.far hb hk hj c31 g.2.1)⟩
    · skip
      refine Z_iload 36 1 dX2_joinPair_34 rfl rfl ?_
      refine Z_iload 38 0 dX2_joinPair_36 rfl rfl ?_
      refine Z_iadd 39 dX2_joinPair_38 rfl ?_
      refine Z_aload_n 40 2 dX2_joinPair_39 rfl rfl ?_
      refine Z_getR 43 dX2_joinPair_40 rfl fX2_20 (Nat.le_of_ble_eq_true rfl) rfl rfl ?_
      refine Z_iload_n 44 3 dX2_joinPair_43 rfl rfl ?_
      refine Z_aaln 45 dX2_joinPair_44 rfl (Nat.le_of_ble_eq_true rfl) rfl hi (by decide) (if_pos hi) ?_
      refine Z_iload_n 46 5 dX2_joinPair_45 rfl rfl ?_
      refine Z_ialn 47 dX2_joinPair_46 rfl (show 60 + i < 74 by omega) (shP hi) hj (by decide) ?_
      refine Z_icmp_ge 50 63 dX2_joinPair_47 rfl rfl (fun c47 => ?_) (fun c47 => ?_)
      · skip
        exact Z_vret dX2_joinPair_63 rfl ⟨rfl, m, rfl, Fp.rf, hM.stay hb hi hk hj c24 c31 (Int32.not_lt.mpr c47)⟩
      · skip
        refine Z_aload_n 51 2 dX2_joinPair_50 rfl rfl ?_
        refine Z_getR 54 dX2_joinPair_51 rfl fX2_20 (Nat.le_of_ble_eq_true rfl) rfl rfl ?_
        refine Z_iload_n 55 3 dX2_joinPair_54 rfl rfl ?_
        refine Z_aaln 56 dX2_joinPair_55 rfl (Nat.le_of_ble_eq_true rfl) rfl hi (by decide) (if_pos hi) ?_
        refine Z_iload_n 57 5 dX2_joinPair_56 rfl rfl ?_
        refine Z_iload 59 1 dX2_joinPair_57 rfl rfl ?_
        refine Z_iload 61 0 dX2_joinPair_59 rfl rfl ?_
        refine Z_iadd 62 dX2_joinPair_61 rfl ?_
        refine Z_iasn 63 dX2_joinPair_62 rfl (show 60 + i < 74 by omega) (shP hi) hj (by decide) ?_
        exact Z_vret dX2_joinPair_63 rfl ⟨rfl, _, rfl, Fp.rf.up hi, hM.step hb hi hk hj hB c24 c31 (Int32.not_le.mp c47)⟩

def sp1 (m : zM) (i j : Nat) : zM := fun q k => if 60 ≤ q ∧ q < 68 ∧ k < 8 ∧ (q < 60 + i ∨ (q = 60 + i ∧ k < j)) then (if q = 60 + k then nI 0 else 1000000) else m q k
theorem sp1_step (m : zM) {i j : Nat} (hi : i < 8) (hj : j < 8) (v : Int32) (hv : v = if i = j then nI 0 else 1000000) : up2 (sp1 m i j) (60 + i) j v = sp1 m i (j + 1) := by
  funext q k
  unfold up2 sp1
  by_cases h1 : q = 60 + i ∧ k = j
  · obtain ⟨rfl, rfl⟩ := h1
    rw [if_pos ⟨rfl, rfl⟩, if_pos (by omega), hv]
    by_cases g : i = k
    · rw [if_pos g, if_pos (by omega)]
    · rw [if_neg g, if_neg (by omega)]
  · rw [if_neg h1]
    by_cases h2 : 60 ≤ q ∧ q < 68 ∧ k < 8 ∧ (q < 60 + i ∨ (q = 60 + i ∧ k < j))
    · rw [if_pos h2, if_pos (show 60 ≤ q ∧ q < 68 ∧ k < 8 ∧ (q < 60 + i ∨ (q = 60 + i ∧ k < j + 1)) by omega)]
    · rw [if_neg h2, if_neg (show ¬ (60 ≤ q ∧ q < 68 ∧ k < 8 ∧ (q < 60 + i ∨ (q = 60 + i ∧ k < j + 1))) by omega)]
theorem sp1_row (m : zM) {i : Nat} : sp1 m i 8 = sp1 m (i + 1) 0 := by
  funext q k
  unfold sp1
  by_cases h2 : 60 ≤ q ∧ q < 68 ∧ k < 8 ∧ (q < 60 + i ∨ (q = 60 + i ∧ k < 8))
  · rw [if_pos h2, if_pos (show 60 ≤ q ∧ q < 68 ∧ k < 8 ∧ (q < 60 + (i + 1) ∨ (q = 60 + (i + 1) ∧ k < 0)) by omega)]
  · rw [if_neg h2, if_neg (show ¬ (60 ≤ q ∧ q < 68 ∧ k < 8 ∧ (q < 60 + (i + 1) ∨ (q = 60 + (i + 1) ∧ k < 0))) by omega)]
theorem sp1_fp (m : zM) (i j : Nat) : Fp m (sp1 m i j) := fun q hq => by
  funext k
  unfold sp1
  rw [if_neg (by omega)]
theorem sp1_PV (m : zM) : PV (sp1 m 8 0) M0 60 := fun i j hi hj => by
  unfold sp1 M0
  rw [if_pos (show 60 ≤ 60 + i ∧ 60 + i < 68 ∧ j < 8 ∧ (60 + i < 60 + 8 ∨ (60 + i = 60 + 8 ∧ j < 0)) by omega)]
  by_cases g : i = j
  · rw [if_pos g, if_pos (by omega)]
    right
    exact ⟨by decide, by decide, rfl⟩
  · rw [if_neg g, if_neg (by omega)]
    left
    exact ⟨rfl, m1e6⟩
def bk : Nat → Int
  | 0 => 60
  | k + 1 => 2 * bk k
theorem bk_le {k : Nat} (h : k ≤ 8) : 60 ≤ bk k ∧ bk k ≤ 15360 ∧ (k < 8 → bk k ≤ 7680) := by
  have h4 : k = 0 ∨ k = 1 ∨ k = 2 ∨ k = 3 ∨ k = 4 ∨ k = 5 ∨ k = 6 ∨ k = 7 ∨ k = 8 := by omega
  rcases h4 with rfl | rfl | rfl | rfl | rfl | rfl | rfl | rfl | rfl <;> decide
def fwM (e : Nat → Ed) (n : Nat) : Nat → Mx
  | 0 => ms M0 e n
  | k + 1 => stg (fwM e n k) k
theorem fwM_ok {e : Nat → Ed} {n : Nat} {f : Nat → Int} (hp : Pot e n f) (he : EdOk e n) : ∀ k, k ≤ 8 → FWk e n (fwM e n k) k (bk k)
  | 0, _ => FWk.base hp he
  | k + 1, h => by
    have := bk_le (k := k) (by omega)
    exact (fwM_ok hp he k (by omega)).step (by omega) (by omega) hp he
set_option maxRecDepth 100000 in
set_option maxHeartbeats 4000000 in
theorem lX2_sp3 {G : zG} {l : Launch} {h : Nat → Nat} {m : zM} (n : Nat) (hk : sOk m 1 n) (hd : dOk m n) : ∀ (t i : Nat), i + t = n → ∀ mm : zM, Fp m mm → PV mm (ms M0 (eB m (fun t => decide (sForce m 1 t))) i) 60 → Z G mX2_startPairs (fun _ => True) (zN G (fun r w => r = none ∧ ∃ m', w = zw h m' ∧ Fp m m' ∧ PV m' (ms M0 (eB m (fun t => decide (sForce m 1 t))) n) 60) 0 0) l 0 0 (zw h mm) 49 [(2, .int (nI i)), (0, .ref (G.1 + 56)), (1, .ref (G.1 + 1))] [] := by
  intro t
  induction t with
  | zero =>
    intro i hi mm hF hM
    have e9 : i = n := by omega
    subst e9
    have hn := hk.2.1
    refine Z_iload_n 50 0 dX2_startPairs_49 rfl rfl ?_
    refine Z_aload_n 51 2 dX2_startPairs_50 rfl rfl ?_
    refine Z_getI 54 dX2_startPairs_51 rfl fX2_28 (Nat.le_of_ble_eq_true rfl) rfl rfl ?_
    refine Z_top (congrArg Value.int ((congrFun (hF 1 (by decide)) 8).trans hk.1)) ?_
    refine Z_icmp_ge 57 113 dX2_startPairs_54 rfl rfl (fun c54 => ?_) (fun c54 => absurd (nI_le (Nat.le_refl _) (by omega)) c54)
    exact Z_vret dX2_startPairs_113 rfl ⟨rfl, mm, rfl, hF, hM⟩
  | succ t ih =>
    intro i hi mm hF hM
    have hlt : i < n := by omega
    have hn := hk.2.1
    have K107 : ∀ (m2 : zM), Fp m m2 → PV m2 (ms M0 (eB m (fun t => decide (sForce m 1 t))) (i + 1)) 60 → Z G mX2_startPairs (fun _ => True) (zN G (fun r w => r = none ∧ ∃ m', w = zw h m' ∧ Fp m m' ∧ PV m' (ms M0 (eB m (fun t => decide (sForce m 1 t))) n) 60) 0 0) l 0 0 (zw h m2) 107 [(2, .int (nI i)), (0, .ref (G.1 + 56)), (1, .ref (G.1 + 1))] [] := by
      intro m2 hF2 hM2
      refine Z_iinc 110 [(2, _), (0, _), (1, _)] 0 _ dX2_startPairs_107 rfl (Nat.le_of_ble_eq_true rfl) rfl (nI_1 _) rfl ?_
      refine Z_goto 49 dX2_startPairs_110 rfl ?_
      exact ih (i + 1) (by omega) m2 hF2 hM2
    refine Z_iload_n 50 0 dX2_startPairs_49 rfl rfl ?_
    refine Z_aload_n 51 2 dX2_startPairs_50 rfl rfl ?_
    refine Z_getI 54 dX2_startPairs_51 rfl fX2_28 (Nat.le_of_ble_eq_true rfl) rfl rfl ?_
    refine Z_top (congrArg Value.int ((congrFun (hF 1 (by decide)) 8).trans hk.1)) ?_
    refine Z_icmp_ge 57 113 dX2_startPairs_54 rfl rfl (fun c54 => absurd c54 (nI_ge hlt (by omega))) (fun c54 => ?_)
    refine Z_aload_n 58 2 dX2_startPairs_57 rfl rfl ?_
    refine Z_iload_n 59 0 dX2_startPairs_58 rfl rfl ?_
    refine Z_callV 62 [_] 1 (zX1_isInForce 1 (Or.inl rfl) i (by omega)) dX2_startPairs_59 rfl qX2_37 kX1_isInForce rfl rfl (Nat.le_of_ble_eq_true rfl) rfl rfl ⟨(Nat.le_of_ble_eq_true rfl), (Nat.le_of_ble_eq_true rfl)⟩ (Nat.le_of_ble_eq_true rfl) ⟨rfl, rfl⟩ ⟨(Nat.le_of_ble_eq_true rfl), (Nat.le_of_ble_eq_true rfl)⟩ (fun r9 w9 hp9 => ?_)
    obtain ⟨rfl, rfl⟩ := hp9
    refine Z_if_eq 65 107 dX2_startPairs_62 rfl rfl (fun c62 => ?_) (fun c62 => ?_)
    · skip
      refine K107 mm hF (hM.congr (fun a c _ _ => ?_))
      show mn (ms M0 (eB m (fun t => decide (sForce m 1 t))) i) ((eB m (fun t => decide (sForce m 1 t))) i) a c = _
      unfold mn
      rw [if_neg]
      intro g
      have g1 : decide (sForce m 1 i) = true := g.1
      rw [decide_eq_true_eq] at g1
      exact bI_0 c62 (by show mm 9 i ≤ mm 1 9; rw [hF 9 (by decide), hF 1 (by decide)]; exact g1)
    · skip
      have hp9 : sForce m 1 i := by
        have g : mm 9 i ≤ mm 1 9 := bI_1 c62
        rw [hF 9 (by decide), hF 1 (by decide)] at g
        exact g
      have he : (eB m (fun t => decide (sForce m 1 t))) i = (true, sO m 1 i, sF m 1 i, (m 8 i).toInt) := by
        show (decide _, _) = _
        rw [decide_eq_true hp9]
      have hdd := hd i hlt
      refine Z_aload_n 66 2 dX2_startPairs_65 rfl rfl ?_
      refine Z_getR 69 dX2_startPairs_66 rfl fX2_34 (Nat.le_of_ble_eq_true rfl) rfl rfl ?_
      refine Z_iload_n 70 0 dX2_startPairs_69 rfl rfl ?_
      refine Z_ialn 71 dX2_startPairs_70 rfl (Nat.le_of_ble_eq_true rfl) rfl (by omega) (by decide) ?_
      refine Z_top (v' := .int (nI (sF m 1 i))) (congrArg Value.int ((congrFun (hF 6 (by decide)) i).trans (hk.2.2 i hlt).1.1)) ?_
      refine Z_istore_n 72 [(3, _), (2, _), (0, _), (1, _)] dX2_startPairs_71 rfl (Nat.le_of_ble_eq_true rfl) rfl ?_
      refine Z_aload_n 73 3 dX2_startPairs_72 rfl rfl ?_
      refine Z_getR 76 dX2_startPairs_73 rfl fX2_41 (Nat.le_of_ble_eq_true rfl) rfl rfl ?_
      refine Z_iload_n 77 1 dX2_startPairs_76 rfl rfl ?_
      refine Z_ialn 78 dX2_startPairs_77 rfl (Nat.le_of_ble_eq_true rfl) rfl (by omega) (by decide) ?_
      refine Z_top (v' := .int (nI (sO m 1 i))) (congrArg Value.int ((congrFun (hF 7 (by decide)) i).trans (hk.2.2 i hlt).2.1)) ?_
      refine Z_istore 80 [(4, _), (3, _), (2, _), (0, _), (1, _)] dX2_startPairs_78 rfl (Nat.le_of_ble_eq_true rfl) rfl ?_
      refine Z_aload_n 81 3 dX2_startPairs_80 rfl rfl ?_
      refine Z_getR 84 dX2_startPairs_81 rfl fX2_20 (Nat.le_of_ble_eq_true rfl) rfl rfl ?_
      refine Z_iload_n 85 1 dX2_startPairs_84 rfl rfl ?_
      refine Z_aaln 86 dX2_startPairs_85 rfl (Nat.le_of_ble_eq_true rfl) rfl (hk.2.2 i hlt).1.2 (by decide) (if_pos (hk.2.2 i hlt).1.2) ?_
      refine Z_iload 88 0 dX2_startPairs_86 rfl rfl ?_
      refine Z_aload_n 89 3 dX2_startPairs_88 rfl rfl ?_
      refine Z_getR 92 dX2_startPairs_89 rfl fX2_20 (Nat.le_of_ble_eq_true rfl) rfl rfl ?_
      refine Z_iload_n 93 1 dX2_startPairs_92 rfl rfl ?_
      refine Z_aaln 94 dX2_startPairs_93 rfl (Nat.le_of_ble_eq_true rfl) rfl (hk.2.2 i hlt).1.2 (by decide) (if_pos (hk.2.2 i hlt).1.2) ?_
      refine Z_iload 96 0 dX2_startPairs_94 rfl rfl ?_
      refine Z_ialn 97 dX2_startPairs_96 rfl (by have := (hk.2.2 i hlt).1.2; exact (show 60 + sF m 1 i < 74 by omega)) (shP (hk.2.2 i hlt).1.2) (hk.2.2 i hlt).2.2 (by decide) ?_
      refine Z_aload_n 98 4 dX2_startPairs_97 rfl rfl ?_
      refine Z_getR 101 dX2_startPairs_98 rfl fX2_44 (Nat.le_of_ble_eq_true rfl) rfl rfl ?_
      refine Z_iload_n 102 2 dX2_startPairs_101 rfl rfl ?_
      refine Z_ialn 103 dX2_startPairs_102 rfl (Nat.le_of_ble_eq_true rfl) rfl (by omega) (by decide) ?_
      refine Z_top (v' := .int (m 8 i)) (congrArg Value.int (congrFun (hF 8 (by decide)) i)) ?_
      refine Z_min 106 dX2_startPairs_103 rfl qX2_58 kmin ⟨(Nat.le_of_ble_eq_true rfl), (Nat.le_of_ble_eq_true rfl), (Nat.le_of_ble_eq_true rfl), (Nat.le_of_ble_eq_true rfl)⟩ ?_
      refine Z_iasn 107 dX2_startPairs_106 rfl (by have := (hk.2.2 i hlt).1.2; exact (show 60 + sF m 1 i < 74 by omega)) (shP (hk.2.2 i hlt).1.2) (hk.2.2 i hlt).2.2 (by decide) ?_
      refine Z_lv [2, 3, 4] rfl ?_
      exact K107 _ (hF.up (hk.2.2 i hlt).1.2) (by show PV _ (mn (ms M0 (eB m (fun t => decide (sForce m 1 t))) i) ((eB m (fun t => decide (sForce m 1 t))) i)) 60; rw [he]; exact hM.mnE (hk.2.2 i hlt).1.2 (hk.2.2 i hlt).2.2 (by omega))

set_option maxRecDepth 100000 in
set_option maxHeartbeats 4000000 in
theorem lX2_sp1 {G : zG} {l : Launch} {h : Nat → Nat} {m : zM} (n : Nat) (hk : sOk m 1 n) (hd : dOk m n) (a : Nat) (ha : a < 8) (kk : Z G mX2_startPairs (fun _ => True) (zN G (fun r w => r = none ∧ ∃ m', w = zw h m' ∧ Fp m m' ∧ PV m' (ms M0 (eB m (fun t => decide (sForce m 1 t))) n) 60) 0 0) l 0 0 (zw h (sp1 m a 8)) 41 [(3, .int (nI 8)), (2, .int (nI a)), (0, .ref (G.1 + 56)), (1, .ref (G.1 + 1))] []) : ∀ (t i : Nat), i + t = 8 → Z G mX2_startPairs (fun _ => True) (zN G (fun r w => r = none ∧ ∃ m', w = zw h m' ∧ Fp m m' ∧ PV m' (ms M0 (eB m (fun t => decide (sForce m 1 t))) n) 60) 0 0) l 0 0 (zw h (sp1 m a i)) 10 [(3, .int (nI i)), (2, .int (nI a)), (0, .ref (G.1 + 56)), (1, .ref (G.1 + 1))] [] := by
  intro t
  induction t with
  | zero =>
    intro i hi
    have e9 : i = 8 := by omega
    subst e9
    refine Z_iload_n 11 0 dX2_startPairs_10 rfl rfl ?_
    refine Z_bipush 13 (nI 8) dX2_startPairs_11 rfl rfl ?_
    refine Z_icmp_ge 16 41 dX2_startPairs_13 rfl rfl (fun c13 => ?_) (fun c13 => absurd (nI_le (Nat.le_refl _) (by omega)) c13)
    exact kk
  | succ t ih =>
    intro i hi
    have hlt : i < 8 := by omega
    have K34 : ∀ (v : Int32), v = (if a = i then nI 0 else 1000000) → Z G mX2_startPairs (fun _ => True) (zN G (fun r w => r = none ∧ ∃ m', w = zw h m' ∧ Fp m m' ∧ PV m' (ms M0 (eB m (fun t => decide (sForce m 1 t))) n) 60) 0 0) l 0 0 (zw h (sp1 m a i)) 34 [(3, .int (nI i)), (2, .int (nI a)), (0, .ref (G.1 + 56)), (1, .ref (G.1 + 1))] [.int v, .int (nI i), .ref (G.1 + (60 + a))] := by
      intro v hv
      refine Z_iasn 35 dX2_startPairs_34 rfl (show 60 + a < 74 by omega) (shP ha) hlt (by decide) ?_
      rw [sp1_step m ha hlt v hv]
      refine Z_iinc 38 [(3, _), (2, _), (0, _), (1, _)] 0 _ dX2_startPairs_35 rfl (Nat.le_of_ble_eq_true rfl) rfl (nI_1 _) rfl ?_
      refine Z_goto 10 dX2_startPairs_38 rfl ?_
      exact ih (i + 1) (by omega)
    refine Z_iload_n 11 0 dX2_startPairs_10 rfl rfl ?_
    refine Z_bipush 13 (nI 8) dX2_startPairs_11 rfl rfl ?_
    refine Z_icmp_ge 16 41 dX2_startPairs_13 rfl rfl (fun c13 => absurd c13 (nI_ge hlt (by omega))) (fun c13 => ?_)
    refine Z_aload_n 17 2 dX2_startPairs_16 rfl rfl ?_
    refine Z_getR 20 dX2_startPairs_17 rfl fX2_20 (Nat.le_of_ble_eq_true rfl) rfl rfl ?_
    refine Z_iload_n 21 1 dX2_startPairs_20 rfl rfl ?_
    refine Z_aaln 22 dX2_startPairs_21 rfl (Nat.le_of_ble_eq_true rfl) rfl ha (by decide) (if_pos ha) ?_
    refine Z_iload_n 23 0 dX2_startPairs_22 rfl rfl ?_
    refine Z_iload_n 24 1 dX2_startPairs_23 rfl rfl ?_
    refine Z_iload_n 25 0 dX2_startPairs_24 rfl rfl ?_
    refine Z_icmp_ne 28 32 dX2_startPairs_25 rfl rfl (fun c25 => ?_) (fun c25 => ?_)
    · skip
      have e19 : ¬ a = i := fun q => c25 (by rw [q])
      refine Z_ldc 34 1000000 dX2_startPairs_32 rfl kX2_23 ?_
      exact K34 _ (by first | rw [if_neg e19] | rw [if_pos e19])
    · skip
      have e19 : a = i := (nI_eq (by omega) (by omega)).mp (by simpa using c25)
      refine Z_iconst 29 (nI 0) dX2_startPairs_28 rfl rfl ?_
      refine Z_goto 34 dX2_startPairs_29 rfl ?_
      exact K34 _ (by first | rw [if_neg e19] | rw [if_pos e19])

set_option maxRecDepth 100000 in
set_option maxHeartbeats 4000000 in
theorem lX2_sp2 {G : zG} {l : Launch} {h : Nat → Nat} {m : zM} (n : Nat) (hk : sOk m 1 n) (hd : dOk m n) : ∀ (t i : Nat), i + t = 8 → Z G mX2_startPairs (fun _ => True) (zN G (fun r w => r = none ∧ ∃ m', w = zw h m' ∧ Fp m m' ∧ PV m' (ms M0 (eB m (fun t => decide (sForce m 1 t))) n) 60) 0 0) l 0 0 (zw h (sp1 m i 0)) 2 [(2, .int (nI i)), (0, .ref (G.1 + 56)), (1, .ref (G.1 + 1))] [] := by
  intro t
  induction t with
  | zero =>
    intro i hi
    have e9 : i = 8 := by omega
    subst e9
    refine Z_iload_n 3 0 dX2_startPairs_2 rfl rfl ?_
    refine Z_bipush 5 (nI 8) dX2_startPairs_3 rfl rfl ?_
    refine Z_icmp_ge 8 47 dX2_startPairs_5 rfl rfl (fun c5 => ?_) (fun c5 => absurd (nI_le (Nat.le_refl _) (by omega)) c5)
    refine Z_iconst 48 (nI 0) dX2_startPairs_47 rfl rfl ?_
    refine Z_istore_n 49 [(2, _), (0, _), (1, _)] dX2_startPairs_48 rfl (Nat.le_of_ble_eq_true rfl) rfl ?_
    exact lX2_sp3 n hk hd n 0 (by omega) (sp1 m 8 0) (sp1_fp m 8 0) (sp1_PV m)
  | succ t ih =>
    intro i hi
    have hlt : i < 8 := by omega
    refine Z_iload_n 3 0 dX2_startPairs_2 rfl rfl ?_
    refine Z_bipush 5 (nI 8) dX2_startPairs_3 rfl rfl ?_
    refine Z_icmp_ge 8 47 dX2_startPairs_5 rfl rfl (fun c5 => absurd c5 (nI_ge hlt (by omega))) (fun c5 => ?_)
    refine Z_iconst 9 (nI 0) dX2_startPairs_8 rfl rfl ?_
    refine Z_istore_n 10 [(3, _), (2, _), (0, _), (1, _)] dX2_startPairs_9 rfl (Nat.le_of_ble_eq_true rfl) rfl ?_
    refine lX2_sp1 n hk hd i hlt ?_ 8 0 (by omega)
    refine Z_iinc 44 [(2, _), (3, _), (0, _), (1, _)] 1 _ dX2_startPairs_41 rfl (Nat.le_of_ble_eq_true rfl) rfl (nI_1 _) rfl ?_
    refine Z_goto 2 dX2_startPairs_44 rfl ?_
    refine Z_lv [0, 2, 3] rfl ?_
    refine Z_w (w' := zw h (sp1 m (i + 1) 0)) (congrArg (zw h) (sp1_row m)) ?_
    exact ih (i + 1) (by omega)

set_option maxRecDepth 100000 in
set_option maxHeartbeats 4000000 in
theorem zX2_startPairs {G : zG} {l : Launch} {h : Nat → Nat} {m : zM} (n : Nat) (hk : sOk m 1 n) (hd : dOk m n) : zMet G l yX2_startPairs mX2_startPairs [.ref (G.1 + 56), .ref (G.1 + 1)] (zw h m) (fun r w => r = none ∧ ∃ m', w = zw h m' ∧ Fp m m' ∧ PV m' (ms M0 (eB m (fun t => decide (sForce m 1 t))) n) 60) 0 0 := by
  refine zMet_of [(0, .ref (G.1 + 56)), (1, .ref (G.1 + 1))] (by decide +kernel) rfl (Or.inl rfl) (Nat.le_of_ble_eq_true rfl) rfl ?_
  refine Z_iconst 1 (nI 0) dX2_startPairs_0 rfl rfl ?_
  refine Z_istore_n 2 [(2, _), (0, _), (1, _)] dX2_startPairs_1 rfl (Nat.le_of_ble_eq_true rfl) rfl ?_
  refine Z_w (w' := zw h (sp1 m 0 0)) (congrArg (zw h) (by funext q k; unfold sp1; rw [if_neg (by omega)])) ?_
  exact lX2_sp2 n hk hd 8 0 (by omega)

theorem eB_ok {m : zM} {n : Nat} {p : Nat → Bool} (hk : sOk m 1 n) (hd : dOk m n) : EdOk (eB m p) n := fun t ht _ => by
  have a1 := hk.2.2 t ht
  have a2 := hd t ht
  refine ⟨a1.2.2, a1.1.2, ?_, ?_⟩
  · show -60 ≤ (m 8 t).toInt
    omega
  · show (m 8 t).toInt ≤ 60
    omega
set_option maxRecDepth 100000 in
set_option maxHeartbeats 4000000 in
theorem lX2_fp3 {G : zG} {l : Launch} {h : Nat → Nat} {m : zM} (n : Nat) (hk : sOk m 1 n) (hd : dOk m n) (f9 : Nat → Int) (hp : Pot (eB m (fun t => decide (sForce m 1 t))) n f9) (k : Nat) (hk8 : k < 8) (a : Nat) (ha : a < 8) (kk : ∀ mm : zM, Fp m mm → PV mm (cur (fwM (eB m (fun t => decide (sForce m 1 t))) n k) k a 8) (2 * bk k) → Z G mX2_findPairs (fun _ => True) (zN G (fun r w => r = none ∧ ∃ m', w = zw h m' ∧ Fp m m' ∧ PV m' (fwM (eB m (fun t => decide (sForce m 1 t))) n 8) 15360) 0 0) l 0 0 (zw h mm) 45 [(4, .int (nI 8)), (3, .int (nI a)), (2, .int (nI k)), (0, .ref (G.1 + 56)), (1, .ref (G.1 + 1))] []) : ∀ (t i : Nat), i + t = 8 → ∀ mm : zM, Fp m mm → PV mm (cur (fwM (eB m (fun t => decide (sForce m 1 t))) n k) k a i) (2 * bk k) → Z G mX2_findPairs (fun _ => True) (zN G (fun r w => r = none ∧ ∃ m', w = zw h m' ∧ Fp m m' ∧ PV m' (fwM (eB m (fun t => decide (sForce m 1 t))) n 8) 15360) 0 0) l 0 0 (zw h mm) 24 [(4, .int (nI i)), (3, .int (nI a)), (2, .int (nI k)), (0, .ref (G.1 + 56)), (1, .ref (G.1 + 1))] [] := by
  intro t
  induction t with
  | zero =>
    intro i hi mm hF hM
    have e9 : i = 8 := by omega
    subst e9
    refine Z_iload 26 0 dX2_findPairs_24 rfl rfl ?_
    refine Z_bipush 28 (nI 8) dX2_findPairs_26 rfl rfl ?_
    refine Z_icmp_ge 31 45 dX2_findPairs_28 rfl rfl (fun c28 => ?_) (fun c28 => absurd (nI_le (Nat.le_refl _) (by omega)) c28)
    exact kk mm hF hM
  | succ t ih =>
    intro i hi mm hF hM
    have hlt : i < 8 := by omega
    have hok := fwM_ok hp (eB_ok hk hd) k (by omega)
    have hbk := bk_le (k := k) (by omega)
    refine Z_iload 26 0 dX2_findPairs_24 rfl rfl ?_
    refine Z_bipush 28 (nI 8) dX2_findPairs_26 rfl rfl ?_
    refine Z_icmp_ge 31 45 dX2_findPairs_28 rfl rfl (fun c28 => absurd c28 (nI_ge hlt (by omega))) (fun c28 => ?_)
    refine Z_aload_n 32 3 dX2_findPairs_31 rfl rfl ?_
    refine Z_iload_n 33 1 dX2_findPairs_32 rfl rfl ?_
    refine Z_iload_n 34 2 dX2_findPairs_33 rfl rfl ?_
    refine Z_iload 36 0 dX2_findPairs_34 rfl rfl ?_
    refine Z_callV 39 [_, _, _] 2 (zX2_joinPair (m := mm) (cur (fwM (eB m (fun t => decide (sForce m 1 t))) n k) k a i) (2 * bk k) (by omega) hM a k i ha hk8 hlt (by rw [cur_col (hok.1 k hk8), cur_row (hok.1 k hk8)]; intro g1 g2; have z9 : zK9 = 100000 := rfl; have g3 := hok.2.2.2.2.2 a k ha hk8; have g4 := hok.2.2.2.2.2 k i hk8 hlt; omega)) dX2_findPairs_36 rfl qX2_54 kX2_joinPair rfl rfl (Nat.le_of_ble_eq_true rfl) rfl rfl ⟨(Nat.le_of_ble_eq_true rfl), (Nat.le_of_ble_eq_true rfl)⟩ (Nat.le_of_ble_eq_true rfl) ⟨rfl, rfl⟩ ⟨(Nat.le_of_ble_eq_true rfl), (Nat.le_of_ble_eq_true rfl)⟩ (fun r9 w9 hp9 => ?_)
    obtain ⟨rfl, m2, rfl, hF2, hM2⟩ := hp9
    rw [cur_step (hok.1 k hk8)] at hM2
    refine Z_iinc 42 [(4, _), (3, _), (2, _), (0, _), (1, _)] 0 _ dX2_findPairs_39 rfl (Nat.le_of_ble_eq_true rfl) rfl (nI_1 _) rfl ?_
    refine Z_goto 24 dX2_findPairs_42 rfl ?_
    exact ih (i + 1) (by omega) m2 (hF.trans hF2) hM2

theorem cur_end8 (M : Mx) (k i a c : Nat) (hc : c < 8) : cur M k (i + 1) 0 a c = cur M k i 8 a c := by
  unfold cur
  by_cases g : a < i ∨ a = i
  · rw [if_pos (by omega), if_pos (by omega)]
  · rw [if_neg (by omega), if_neg (by omega)]
theorem cur_all (M : Mx) (k a c : Nat) (ha : a < 8) : stg M k a c = cur M k 8 0 a c := by
  unfold cur
  rw [if_pos (by omega)]
set_option maxRecDepth 100000 in
set_option maxHeartbeats 4000000 in
theorem lX2_fp2 {G : zG} {l : Launch} {h : Nat → Nat} {m : zM} (n : Nat) (hk : sOk m 1 n) (hd : dOk m n) (f9 : Nat → Int) (hp : Pot (eB m (fun t => decide (sForce m 1 t))) n f9) (k : Nat) (hk8 : k < 8) (kk : ∀ mm : zM, Fp m mm → PV mm (cur (fwM (eB m (fun t => decide (sForce m 1 t))) n k) k 8 0) (2 * bk k) → Z G mX2_findPairs (fun _ => True) (zN G (fun r w => r = none ∧ ∃ m', w = zw h m' ∧ Fp m m' ∧ PV m' (fwM (eB m (fun t => decide (sForce m 1 t))) n 8) 15360) 0 0) l 0 0 (zw h mm) 51 [(3, .int (nI 8)), (2, .int (nI k)), (0, .ref (G.1 + 56)), (1, .ref (G.1 + 1))] []) : ∀ (t i : Nat), i + t = 8 → ∀ mm : zM, Fp m mm → PV mm (cur (fwM (eB m (fun t => decide (sForce m 1 t))) n k) k i 0) (2 * bk k) → Z G mX2_findPairs (fun _ => True) (zN G (fun r w => r = none ∧ ∃ m', w = zw h m' ∧ Fp m m' ∧ PV m' (fwM (eB m (fun t => decide (sForce m 1 t))) n 8) 15360) 0 0) l 0 0 (zw h mm) 15 [(3, .int (nI i)), (2, .int (nI k)), (0, .ref (G.1 + 56)), (1, .ref (G.1 + 1))] [] := by
  intro t
  induction t with
  | zero =>
    intro i hi mm hF hM
    have e9 : i = 8 := by omega
    subst e9
    refine Z_iload_n 16 0 dX2_findPairs_15 rfl rfl ?_
    refine Z_bipush 18 (nI 8) dX2_findPairs_16 rfl rfl ?_
    refine Z_icmp_ge 21 51 dX2_findPairs_18 rfl rfl (fun c18 => ?_) (fun c18 => absurd (nI_le (Nat.le_refl _) (by omega)) c18)
    exact kk mm hF hM
  | succ t ih =>
    intro i hi mm hF hM
    have hlt : i < 8 := by omega
    refine Z_iload_n 16 0 dX2_findPairs_15 rfl rfl ?_
    refine Z_bipush 18 (nI 8) dX2_findPairs_16 rfl rfl ?_
    refine Z_icmp_ge 21 51 dX2_findPairs_18 rfl rfl (fun c18 => absurd c18 (nI_ge hlt (by omega))) (fun c18 => ?_)
    refine Z_iconst 22 (nI 0) dX2_findPairs_21 rfl rfl ?_
    refine Z_istore 24 [(4, _), (3, _), (2, _), (0, _), (1, _)] dX2_findPairs_22 rfl (Nat.le_of_ble_eq_true rfl) rfl ?_
    refine lX2_fp3 n hk hd f9 hp k hk8 i hlt ?_ 8 0 (by omega) mm hF hM
    intro m2 hF2 hM2
    refine Z_iinc 48 [(3, _), (4, _), (2, _), (0, _), (1, _)] 1 _ dX2_findPairs_45 rfl (Nat.le_of_ble_eq_true rfl) rfl (nI_1 _) rfl ?_
    refine Z_goto 15 dX2_findPairs_48 rfl ?_
    refine Z_lv [0, 2, 3, 4] rfl ?_
    exact ih (i + 1) (by omega) m2 hF2 (hM2.congr (fun a c _ hc => cur_end8 _ k i a c hc))

set_option maxRecDepth 100000 in
set_option maxHeartbeats 4000000 in
theorem lX2_fp1 {G : zG} {l : Launch} {h : Nat → Nat} {m : zM} (n : Nat) (hk : sOk m 1 n) (hd : dOk m n) (f9 : Nat → Int) (hp : Pot (eB m (fun t => decide (sForce m 1 t))) n f9) : ∀ (t i : Nat), i + t = 8 → ∀ mm : zM, Fp m mm → PV mm (fwM (eB m (fun t => decide (sForce m 1 t))) n i) (bk i) → Z G mX2_findPairs (fun _ => True) (zN G (fun r w => r = none ∧ ∃ m', w = zw h m' ∧ Fp m m' ∧ PV m' (fwM (eB m (fun t => decide (sForce m 1 t))) n 8) 15360) 0 0) l 0 0 (zw h mm) 7 [(2, .int (nI i)), (0, .ref (G.1 + 56)), (1, .ref (G.1 + 1))] [] := by
  intro t
  induction t with
  | zero =>
    intro i hi mm hF hM
    have e9 : i = 8 := by omega
    subst e9
    refine Z_iload_n 8 0 dX2_findPairs_7 rfl rfl ?_
    refine Z_bipush 10 (nI 8) dX2_findPairs_8 rfl rfl ?_
    refine Z_icmp_ge 13 57 dX2_findPairs_10 rfl rfl (fun c10 => ?_) (fun c10 => absurd (nI_le (Nat.le_refl _) (by omega)) c10)
    exact Z_vret dX2_findPairs_57 rfl ⟨rfl, mm, rfl, hF, hM⟩
  | succ t ih =>
    intro i hi mm hF hM
    have hlt : i < 8 := by omega
    have hbk := bk_le (k := i) (by omega)
    refine Z_iload_n 8 0 dX2_findPairs_7 rfl rfl ?_
    refine Z_bipush 10 (nI 8) dX2_findPairs_8 rfl rfl ?_
    refine Z_icmp_ge 13 57 dX2_findPairs_10 rfl rfl (fun c10 => absurd c10 (nI_ge hlt (by omega))) (fun c10 => ?_)
    refine Z_iconst 14 (nI 0) dX2_findPairs_13 rfl rfl ?_
    refine Z_istore_n 15 [(3, _), (2, _), (0, _), (1, _)] dX2_findPairs_14 rfl (Nat.le_of_ble_eq_true rfl) rfl ?_
    refine lX2_fp2 n hk hd f9 hp i hlt ?_ 8 0 (by omega) mm hF ((hM.mono (by omega)).congr (fun a c _ _ => by rw [cur_0]))
    intro m2 hF2 hM2
    refine Z_iinc 54 [(2, _), (3, _), (0, _), (1, _)] 1 _ dX2_findPairs_51 rfl (Nat.le_of_ble_eq_true rfl) rfl (nI_1 _) rfl ?_
    refine Z_goto 7 dX2_findPairs_54 rfl ?_
    refine Z_lv [0, 2, 3] rfl ?_
    exact ih (i + 1) (by omega) m2 hF2 (hM2.congr (fun a c ha _ => cur_all _ i a c ha))

set_option maxRecDepth 100000 in
set_option maxHeartbeats 4000000 in
theorem zX2_findPairs {G : zG} {l : Launch} {h : Nat → Nat} {m : zM} (n : Nat) (hk : sOk m 1 n) (hd : dOk m n) (f9 : Nat → Int) (hp : Pot (eB m (fun t => decide (sForce m 1 t))) n f9) : zMet G l yX2_findPairs mX2_findPairs [.ref (G.1 + 56), .ref (G.1 + 1)] (zw h m) (fun r w => r = none ∧ ∃ m', w = zw h m' ∧ Fp m m' ∧ PV m' (fwM (eB m (fun t => decide (sForce m 1 t))) n 8) 15360) 0 0 := by
  refine zMet_of [(0, .ref (G.1 + 56)), (1, .ref (G.1 + 1))] (by decide +kernel) rfl (Or.inl rfl) (Nat.le_of_ble_eq_true rfl) rfl ?_
  refine Z_aload_n 1 0 dX2_findPairs_0 rfl rfl ?_
  refine Z_aload_n 2 1 dX2_findPairs_1 rfl rfl ?_
  refine Z_callV 5 [_] 2 (zX2_startPairs n hk hd) dX2_findPairs_2 rfl qX2_51 kX2_startPairs rfl rfl (Nat.le_of_ble_eq_true rfl) rfl rfl ⟨(Nat.le_of_ble_eq_true rfl), (Nat.le_of_ble_eq_true rfl)⟩ (Nat.le_of_ble_eq_true rfl) ⟨rfl, rfl⟩ ⟨(Nat.le_of_ble_eq_true rfl), (Nat.le_of_ble_eq_true rfl)⟩ (fun r9 w9 hp9 => ?_)
  obtain ⟨rfl, m2, rfl, hF, hM⟩ := hp9
  refine Z_iconst 6 (nI 0) dX2_findPairs_5 rfl rfl ?_
  refine Z_istore_n 7 [(2, _), (0, _), (1, _)] dX2_findPairs_6 rfl (Nat.le_of_ble_eq_true rfl) rfl ?_
  exact lX2_fp1 n hk hd f9 hp 8 0 (by omega) m2 hF hM

set_option maxRecDepth 100000 in
set_option maxHeartbeats 4000000 in
theorem zX2_boundByPairs {G : zG} {l : Launch} {h : Nat → Nat} {m : zM} (n : Nat) (hk : sOk m 1 n) (hd : dOk m n) (f9 : Nat → Int) (hp : Pot (eB m (fun t => decide (sForce m 1 t))) n f9) (f o : Nat) (hf : f < 8) (ho : o < 8) : zMet G l yX2_boundByPairs mX2_boundByPairs [.ref (G.1 + 56), .ref (G.1 + 1), .int (nI f), .int (nI o)] (zw h m) (fun r w => ∃ m' v, w = zw h m' ∧ Fp m m' ∧ r = some (.int v) ∧ ((fwM (eB m (fun t => decide (sForce m 1 t))) n 8 f o = zK9 ∧ v.toInt = 1000000) ∨ (-15360 ≤ fwM (eB m (fun t => decide (sForce m 1 t))) n 8 f o ∧ fwM (eB m (fun t => decide (sForce m 1 t))) n 8 f o ≤ 15360 ∧ v.toInt = fwM (eB m (fun t => decide (sForce m 1 t))) n 8 f o))) 0 0 := by
  refine zMet_of [(0, .ref (G.1 + 56)), (1, .ref (G.1 + 1)), (2, .int (nI f)), (3, .int (nI o))] (by decide +kernel) rfl (Or.inl rfl) (Nat.le_of_ble_eq_true rfl) rfl ?_
  refine Z_aload_n 1 0 dX2_boundByPairs_0 rfl rfl ?_
  refine Z_aload_n 2 1 dX2_boundByPairs_1 rfl rfl ?_
  refine Z_callV 5 [_] 2 (zX2_findPairs n hk hd f9 hp) dX2_boundByPairs_2 rfl qX2_47 kX2_findPairs rfl rfl (Nat.le_of_ble_eq_true rfl) rfl rfl ⟨(Nat.le_of_ble_eq_true rfl), (Nat.le_of_ble_eq_true rfl)⟩ (Nat.le_of_ble_eq_true rfl) ⟨rfl, rfl⟩ ⟨(Nat.le_of_ble_eq_true rfl), (Nat.le_of_ble_eq_true rfl)⟩ (fun r9 w9 hp9 => ?_)
  obtain ⟨rfl, m2, rfl, hF, hM⟩ := hp9
  refine Z_aload_n 6 0 dX2_boundByPairs_5 rfl rfl ?_
  refine Z_getR 9 dX2_boundByPairs_6 rfl fX2_20 (Nat.le_of_ble_eq_true rfl) rfl rfl ?_
  refine Z_iload_n 10 2 dX2_boundByPairs_9 rfl rfl ?_
  refine Z_aaln 11 dX2_boundByPairs_10 rfl (Nat.le_of_ble_eq_true rfl) rfl hf (by decide) (if_pos hf) ?_
  refine Z_iload_n 12 3 dX2_boundByPairs_11 rfl rfl ?_
  refine Z_ialn 13 dX2_boundByPairs_12 rfl (show 60 + f < 74 by omega) (shP hf) ho (by decide) ?_
  exact Z_iret dX2_boundByPairs_13 rfl ⟨m2, _, rfl, hF, rfl, hM f o hf ho⟩
