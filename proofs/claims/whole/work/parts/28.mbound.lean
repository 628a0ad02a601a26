/-! the model: boundBut -/
theorem mFAR : (100000 : Int32).toInt = 100000 := by decide
def f81 (m : zM) (f i : Nat) : zM := fun q k => if q = 81 ∧ k < i then (if k = f then nI 0 else 100000) else m q k
theorem f81_0 (m : zM) (f : Nat) : f81 m f 0 = m := by
  funext q k
  unfold f81
  rw [if_neg (by omega)]
theorem f81_step (m : zM) (f i : Nat) (v : Int32) (hv : v = if i = f then nI 0 else 100000) : up2 (f81 m f i) 81 i v = f81 m f (i + 1) := by
  subst hv
  funext q k
  unfold up2 f81
  by_cases h1 : q = 81 ∧ k = i
  · obtain ⟨rfl, rfl⟩ := h1
    rw [if_pos ⟨rfl, rfl⟩]
    exact (if_pos ⟨rfl, by omega⟩).symm
  · rw [if_neg h1]
    by_cases h2 : q = 81 ∧ k < i
    · rw [if_pos h2]
      exact (if_pos ⟨h2.1, by omega⟩).symm
    · rw [if_neg h2, if_neg (by omega)]
theorem f81_fr (m : zM) (f i : Nat) : Fr 81 m (f81 m f i) := fun q hq => by
  funext k
  unfold f81
  rw [if_neg (fun z => hq z.1)]
theorem f81_bv (m : zM) (f : Nat) : BV 100000 (f81 m f 8) 81 (Yb f) 0 := fun q hq => by
  unfold f81 Yb
  rw [if_pos (show 81 = 81 ∧ q < 8 from ⟨rfl, hq⟩)]
  by_cases g : q = f
  · rw [if_pos g, if_pos g]
    exact Or.inr ⟨by decide, by decide, rfl⟩
  · rw [if_neg g, if_neg g]
    exact Or.inl ⟨rfl, mFAR⟩
set_option maxRecDepth 100000 in
set_option maxHeartbeats 4000000 in
theorem lX4_bb {G : zG} {l : Launch} {h : Nat → Nat} {m : zM} (n : Nat) (hk : sOk (vR (m 75)) 1 n) (hd : dOk (vR (m 75)) n) (f o : Nat) (hf : f < 8) (ho : o < 8) (x : Int32) (y : Nat → Int) (b : Int) (hb : b ≤ 20000) (PP : Option Value → zW → Prop) (KK : ∀ m2, Fr 81 m m2 → BV 100000 m2 81 (rxs y (eB (vR (m 75)) (fun t => decide (¬ nI t = x ∧ sForce (vR (m 75)) 1 t))) n) (b + 60 * n) → Z G mX4_boundBut (fun _ => True) (zN G (PP) 0 0) l 0 0 (zw h m2) 38 [(4, .int (bI (chg y (eB (vR (m 75)) (fun t => decide (¬ nI t = x ∧ sForce (vR (m 75)) 1 t))) n = true))), (0, .ref (G.1 + 74)), (1, .int (nI f)), (2, .int (nI o)), (3, .int x)] []) : ∀ (t i : Nat), i + t = n → ∀ mm : zM, Fr 81 m mm → BV 100000 mm 81 (rxs y (eB (vR (m 75)) (fun t => decide (¬ nI t = x ∧ sForce (vR (m 75)) 1 t))) i) (b + 60 * i) → Z G mX4_boundBut (fun _ => True) (zN G (PP) 0 0) l 0 0 (zw h mm) 49 [(5, .int (nI i)), (4, .int (bI (chg y (eB (vR (m 75)) (fun t => decide (¬ nI t = x ∧ sForce (vR (m 75)) 1 t))) i = true))), (0, .ref (G.1 + 74)), (1, .int (nI f)), (2, .int (nI o)), (3, .int x)] [] := by
  intro t
  induction t with
  | zero =>
    intro i hi mm hF hL
    have e9 : i = n := by omega
    subst e9
    have hn := hk.2.1
    refine Z_iload 51 0 dX4_boundBut_49 rfl rfl ?_
    refine Z_aload_n 52 2 dX4_boundBut_51 rfl rfl ?_
    refine Z_getR 55 dX4_boundBut_52 rfl fX4_7 (Nat.le_of_ble_eq_true rfl) rfl rfl ?_
    refine Z_iconst 56 (nI 2) dX4_boundBut_55 rfl rfl ?_
    refine Z_ialn 57 dX4_boundBut_56 rfl (Nat.le_of_ble_eq_true rfl) rfl (by first | assumption | omega) (by decide) ?_
    refine Z_top (congrArg Value.int ((congrFun (hF 75 (by decide)) 2).trans hk.1)) ?_
    refine Z_icmp_ge 60 187 dX4_boundBut_57 rfl rfl (fun c57 => ?_) (fun c57 => absurd (nI_le (Nat.le_refl _) (by omega)) c57)
    refine Z_goto 38 dX4_boundBut_187 rfl ?_
    refine Z_lv [1, 2, 3, 4, 5] rfl ?_
    exact KK mm hF hL
  | succ t ih =>
    intro i hi mm hF hL
    have hlt : i < n := by omega
    have hn := hk.2.1
    have hc9 : b + 60 * ((i + 1 : Nat) : Int) = b + 60 * (i : Int) + 60 := by rw [Int.natCast_add]; omega
    have hfo := hk.2.2 i hlt
    have hdd := hd i hlt
    have K1 : hit (rxs y (eB (vR (m 75)) (fun t => decide (¬ nI t = x ∧ sForce (vR (m 75)) 1 t))) i) ((eB (vR (m 75)) (fun t => decide (¬ nI t = x ∧ sForce (vR (m 75)) 1 t))) i) → BV 100000 (up2 mm 81 (sO (vR (m 75)) 1 i) (mm 81 (sF (vR (m 75)) 1 i) + (vR (m 75)) 8 i)) 81 (rx1 (rxs y (eB (vR (m 75)) (fun t => decide (¬ nI t = x ∧ sForce (vR (m 75)) 1 t))) i) ((eB (vR (m 75)) (fun t => decide (¬ nI t = x ∧ sForce (vR (m 75)) 1 t))) i)) (b + 60 * i + 60) → Z G mX4_boundBut (fun _ => True) (zN G (PP) 0 0) l 0 0 (zw h mm) 130 [(7, .int (nI (sO (vR (m 75)) 1 i))), (6, .int (mm 81 (sF (vR (m 75)) 1 i))), (5, .int (nI i)), (4, .int (bI (chg y (eB (vR (m 75)) (fun t => decide (¬ nI t = x ∧ sForce (vR (m 75)) 1 t))) i = true))), (0, .ref (G.1 + 74)), (1, .int (nI f)), (2, .int (nI o)), (3, .int x)] [.int (nI 1)] := by
      intro hh hst
      refine Z_istore 132 [(8, _), (7, _), (6, _), (5, _), (4, _), (0, _), (1, _), (2, _), (3, _)] dX4_boundBut_130 rfl (Nat.le_of_ble_eq_true rfl) rfl ?_
      refine Z_aload_n 133 5 dX4_boundBut_132 rfl rfl ?_
      refine Z_getR 136 dX4_boundBut_133 rfl fX4_28 (Nat.le_of_ble_eq_true rfl) rfl rfl ?_
      refine Z_iload 138 1 dX4_boundBut_136 rfl rfl ?_
      refine Z_iload 140 0 dX4_boundBut_138 rfl rfl ?_
      refine Z_if_eq 143 156 dX4_boundBut_140 rfl rfl (fun c140 => absurd c140 (by decide)) (fun c140 => ?_)
      refine Z_iload 145 2 dX4_boundBut_143 rfl rfl ?_
      refine Z_aload_n 146 5 dX4_boundBut_145 rfl rfl ?_
      refine Z_iload 148 3 dX4_boundBut_146 rfl rfl ?_
      refine Z_iconst 149 (nI 2) dX4_boundBut_148 rfl rfl ?_
      refine Z_callV 152 [_, _] 4 (zX4_ofTreaty (m := mm) i 2 (by omega) (by decide)) dX4_boundBut_149 rfl qX4_54 kX4_ofTreaty rfl rfl (Nat.le_of_ble_eq_true rfl) rfl rfl ⟨(Nat.le_of_ble_eq_true rfl), (Nat.le_of_ble_eq_true rfl)⟩ (Nat.le_of_ble_eq_true rfl) ⟨rfl, rfl⟩ ⟨(Nat.le_of_ble_eq_true rfl), (Nat.le_of_ble_eq_true rfl)⟩ (fun r9 w9 hp9 => ?_)
      obtain ⟨rfl, rfl⟩ := hp9
      refine Z_top (v' := .int ((vR (m 75)) 8 i)) (congrArg Value.int ((congrFun (hF 75 (by decide)) _).trans (rfl))) ?_
      refine Z_iadd 153 dX4_boundBut_152 rfl ?_
      refine Z_goto 163 dX4_boundBut_153 rfl ?_
      refine Z_iasn 164 dX4_boundBut_163 rfl (Nat.le_of_ble_eq_true rfl) rfl hfo.2.2 (by decide) ?_
      refine Z_iload 166 4 dX4_boundBut_164 rfl rfl ?_
      refine Z_if_ne 169 174 dX4_boundBut_166 rfl rfl (fun c166 => ?_) (fun c166 => ?_)
      · skip
        refine Z_iconst 175 (nI 1) dX4_boundBut_174 rfl rfl ?_
        refine Z_goto 179 dX4_boundBut_175 rfl ?_
        refine Z_top (v' := .int (bI (chg y (eB (vR (m 75)) (fun t => decide (¬ nI t = x ∧ sForce (vR (m 75)) 1 t))) (i + 1) = true))) (congrArg Value.int (by first | exact cg1 (bI_1 c166) | exact cg2 hh)) ?_
        refine Z_istore 181 [(4, _), (8, _), (7, _), (6, _), (5, _), (0, _), (1, _), (2, _), (3, _)] dX4_boundBut_179 rfl (Nat.le_of_ble_eq_true rfl) rfl ?_
        refine Z_iinc 184 [(5, _), (4, _), (8, _), (7, _), (6, _), (0, _), (1, _), (2, _), (3, _)] 4 _ dX4_boundBut_181 rfl (Nat.le_of_ble_eq_true rfl) rfl (nI_1 _) rfl ?_
        refine Z_goto 49 dX4_boundBut_184 rfl ?_
        refine Z_lv [0, 1, 5, 6, 7, 8] rfl ?_
        exact ih (i + 1) (by omega) _ hF.up (by rw [rxs_s, hc9]; exact hst)
      · skip
        refine Z_iload 171 0 dX4_boundBut_169 rfl rfl ?_
        refine Z_if_eq 174 178 dX4_boundBut_171 rfl rfl (fun c171 => absurd c171 (by decide)) (fun c171 => ?_)
        refine Z_iconst 175 (nI 1) dX4_boundBut_174 rfl rfl ?_
        refine Z_goto 179 dX4_boundBut_175 rfl ?_
        refine Z_top (v' := .int (bI (chg y (eB (vR (m 75)) (fun t => decide (¬ nI t = x ∧ sForce (vR (m 75)) 1 t))) (i + 1) = true))) (congrArg Value.int (by first | exact cg1 (bI_1 c166) | exact cg2 hh)) ?_
        refine Z_istore 181 [(4, _), (8, _), (7, _), (6, _), (5, _), (0, _), (1, _), (2, _), (3, _)] dX4_boundBut_179 rfl (Nat.le_of_ble_eq_true rfl) rfl ?_
        refine Z_iinc 184 [(5, _), (4, _), (8, _), (7, _), (6, _), (0, _), (1, _), (2, _), (3, _)] 4 _ dX4_boundBut_181 rfl (Nat.le_of_ble_eq_true rfl) rfl (nI_1 _) rfl ?_
        refine Z_goto 49 dX4_boundBut_184 rfl ?_
        refine Z_lv [0, 1, 5, 6, 7, 8] rfl ?_
        exact ih (i + 1) (by omega) _ hF.up (by rw [rxs_s, hc9]; exact hst)
    have K0 : ¬ hit (rxs y (eB (vR (m 75)) (fun t => decide (¬ nI t = x ∧ sForce (vR (m 75)) 1 t))) i) ((eB (vR (m 75)) (fun t => decide (¬ nI t = x ∧ sForce (vR (m 75)) 1 t))) i) → Z G mX4_boundBut (fun _ => True) (zN G (PP) 0 0) l 0 0 (zw h mm) 130 [(7, .int (nI (sO (vR (m 75)) 1 i))), (6, .int (mm 81 (sF (vR (m 75)) 1 i))), (5, .int (nI i)), (4, .int (bI (chg y (eB (vR (m 75)) (fun t => decide (¬ nI t = x ∧ sForce (vR (m 75)) 1 t))) i = true))), (0, .ref (G.1 + 74)), (1, .int (nI f)), (2, .int (nI o)), (3, .int x)] [.int (nI 0)] := by
      intro hh
      refine Z_istore 132 [(8, _), (7, _), (6, _), (5, _), (4, _), (0, _), (1, _), (2, _), (3, _)] dX4_boundBut_130 rfl (Nat.le_of_ble_eq_true rfl) rfl ?_
      refine Z_aload_n 133 5 dX4_boundBut_132 rfl rfl ?_
      refine Z_getR 136 dX4_boundBut_133 rfl fX4_28 (Nat.le_of_ble_eq_true rfl) rfl rfl ?_
      refine Z_iload 138 1 dX4_boundBut_136 rfl rfl ?_
      refine Z_iload 140 0 dX4_boundBut_138 rfl rfl ?_
      refine Z_if_eq 143 156 dX4_boundBut_140 rfl rfl (fun c140 => ?_) (fun c140 => absurd (rfl) c140)
      refine Z_aload_n 157 5 dX4_boundBut_156 rfl rfl ?_
      refine Z_getR 160 dX4_boundBut_157 rfl fX4_28 (Nat.le_of_ble_eq_true rfl) rfl rfl ?_
      refine Z_iload 162 1 dX4_boundBut_160 rfl rfl ?_
      refine Z_ialn 163 dX4_boundBut_162 rfl (Nat.le_of_ble_eq_true rfl) rfl hfo.2.2 (by decide) ?_
      refine Z_iasn 164 dX4_boundBut_163 rfl (Nat.le_of_ble_eq_true rfl) rfl hfo.2.2 (by decide) ?_
      rw [up2_self]
      refine Z_iload 166 4 dX4_boundBut_164 rfl rfl ?_
      refine Z_if_ne 169 174 dX4_boundBut_166 rfl rfl (fun c166 => ?_) (fun c166 => ?_)
      · skip
        refine Z_iconst 175 (nI 1) dX4_boundBut_174 rfl rfl ?_
        refine Z_goto 179 dX4_boundBut_175 rfl ?_
        refine Z_top (v' := .int (bI (chg y (eB (vR (m 75)) (fun t => decide (¬ nI t = x ∧ sForce (vR (m 75)) 1 t))) (i + 1) = true))) (congrArg Value.int (by first | exact cg1 (bI_1 c166) | exact cg3 (bI_0 (Decidable.not_not.mp c166)) hh)) ?_
        refine Z_istore 181 [(4, _), (8, _), (7, _), (6, _), (5, _), (0, _), (1, _), (2, _), (3, _)] dX4_boundBut_179 rfl (Nat.le_of_ble_eq_true rfl) rfl ?_
        refine Z_iinc 184 [(5, _), (4, _), (8, _), (7, _), (6, _), (0, _), (1, _), (2, _), (3, _)] 4 _ dX4_boundBut_181 rfl (Nat.le_of_ble_eq_true rfl) rfl (nI_1 _) rfl ?_
        refine Z_goto 49 dX4_boundBut_184 rfl ?_
        refine Z_lv [0, 1, 5, 6, 7, 8] rfl ?_
        exact ih (i + 1) (by omega) _ hF (by rw [rxs_s, hc9]; exact hL.skip hh)
      · skip
        refine Z_iload 171 0 dX4_boundBut_169 rfl rfl ?_
        refine Z_if_eq 174 178 dX4_boundBut_171 rfl rfl (fun c171 => ?_) (fun c171 => absurd (rfl) c171)
        refine Z_iconst 179 (nI 0) dX4_boundBut_178 rfl rfl ?_
        refine Z_top (v' := .int (bI (chg y (eB (vR (m 75)) (fun t => decide (¬ nI t = x ∧ sForce (vR (m 75)) 1 t))) (i + 1) = true))) (congrArg Value.int (by first | exact cg1 (bI_1 c166) | exact cg3 (bI_0 (Decidable.not_not.mp c166)) hh)) ?_
        refine Z_istore 181 [(4, _), (8, _), (7, _), (6, _), (5, _), (0, _), (1, _), (2, _), (3, _)] dX4_boundBut_179 rfl (Nat.le_of_ble_eq_true rfl) rfl ?_
        refine Z_iinc 184 [(5, _), (4, _), (8, _), (7, _), (6, _), (0, _), (1, _), (2, _), (3, _)] 4 _ dX4_boundBut_181 rfl (Nat.le_of_ble_eq_true rfl) rfl (nI_1 _) rfl ?_
        refine Z_goto 49 dX4_boundBut_184 rfl ?_
        refine Z_lv [0, 1, 5, 6, 7, 8] rfl ?_
        exact ih (i + 1) (by omega) _ hF (by rw [rxs_s, hc9]; exact hL.skip hh)
    refine Z_iload 51 0 dX4_boundBut_49 rfl rfl ?_
    refine Z_aload_n 52 2 dX4_boundBut_51 rfl rfl ?_
    refine Z_getR 55 dX4_boundBut_52 rfl fX4_7 (Nat.le_of_ble_eq_true rfl) rfl rfl ?_
    refine Z_iconst 56 (nI 2) dX4_boundBut_55 rfl rfl ?_
    refine Z_ialn 57 dX4_boundBut_56 rfl (Nat.le_of_ble_eq_true rfl) rfl (by first | assumption | omega) (by decide) ?_
    refine Z_top (congrArg Value.int ((congrFun (hF 75 (by decide)) 2).trans hk.1)) ?_
    refine Z_icmp_ge 60 187 dX4_boundBut_57 rfl rfl (fun c57 => absurd c57 (nI_ge hlt (by omega))) (fun c57 => ?_)
    refine Z_aload_n 61 2 dX4_boundBut_60 rfl rfl ?_
    refine Z_getR 64 dX4_boundBut_61 rfl fX4_28 (Nat.le_of_ble_eq_true rfl) rfl rfl ?_
    refine Z_aload_n 65 2 dX4_boundBut_64 rfl rfl ?_
    refine Z_iload 67 0 dX4_boundBut_65 rfl rfl ?_
    refine Z_iconst 68 (nI 0) dX4_boundBut_67 rfl rfl ?_
    refine Z_callV 71 [_, _] 4 (zX4_ofTreaty (m := mm) i 0 (by omega) (by decide)) dX4_boundBut_68 rfl qX4_54 kX4_ofTreaty rfl rfl (Nat.le_of_ble_eq_true rfl) rfl rfl ⟨(Nat.le_of_ble_eq_true rfl), (Nat.le_of_ble_eq_true rfl)⟩ (Nat.le_of_ble_eq_true rfl) ⟨rfl, rfl⟩ ⟨(Nat.le_of_ble_eq_true rfl), (Nat.le_of_ble_eq_true rfl)⟩ (fun r9 w9 hp9 => ?_)
    obtain ⟨rfl, rfl⟩ := hp9
    refine Z_top (v' := .int (nI (sF (vR (m 75)) 1 i))) (congrArg Value.int ((congrFun (hF 75 (by decide)) _).trans (hfo.1.1))) ?_
    refine Z_ialn 72 dX4_boundBut_71 rfl (Nat.le_of_ble_eq_true rfl) rfl hfo.1.2 (by decide) ?_
    refine Z_istore 74 [(6, _), (5, _), (4, _), (0, _), (1, _), (2, _), (3, _)] dX4_boundBut_72 rfl (Nat.le_of_ble_eq_true rfl) rfl ?_
    refine Z_aload_n 75 3 dX4_boundBut_74 rfl rfl ?_
    refine Z_iload 77 1 dX4_boundBut_75 rfl rfl ?_
    refine Z_iconst 78 (nI 1) dX4_boundBut_77 rfl rfl ?_
    refine Z_callV 81 [_, _] 4 (zX4_ofTreaty (m := mm) i 1 (by omega) (by decide)) dX4_boundBut_78 rfl qX4_54 kX4_ofTreaty rfl rfl (Nat.le_of_ble_eq_true rfl) rfl rfl ⟨(Nat.le_of_ble_eq_true rfl), (Nat.le_of_ble_eq_true rfl)⟩ (Nat.le_of_ble_eq_true rfl) ⟨rfl, rfl⟩ ⟨(Nat.le_of_ble_eq_true rfl), (Nat.le_of_ble_eq_true rfl)⟩ (fun r9 w9 hp9 => ?_)
    obtain ⟨rfl, rfl⟩ := hp9
    refine Z_top (v' := .int (nI (sO (vR (m 75)) 1 i))) (congrArg Value.int ((congrFun (hF 75 (by decide)) _).trans (hfo.2.1))) ?_
    refine Z_istore 83 [(7, _), (6, _), (5, _), (4, _), (0, _), (1, _), (2, _), (3, _)] dX4_boundBut_81 rfl (Nat.le_of_ble_eq_true rfl) rfl ?_
    refine Z_iload 85 2 dX4_boundBut_83 rfl rfl ?_
    refine Z_iload_n 86 7 dX4_boundBut_85 rfl rfl ?_
    refine Z_icmp_eq 89 129 dX4_boundBut_86 rfl rfl (fun c86 => ?_) (fun c86 => ?_)
    · skip
      refine Z_iconst 130 (nI 0) dX4_boundBut_129 rfl rfl ?_
      exact K0 (fun g => by
        have g1 : decide (¬ nI i = x ∧ sForce (vR (m 75)) 1 i) = true := g.1
        rw [decide_eq_true_eq] at g1
        exact g1.1 c86)
    · skip
      refine Z_aload_n 90 4 dX4_boundBut_89 rfl rfl ?_
      refine Z_iload 92 2 dX4_boundBut_90 rfl rfl ?_
      refine Z_callV 95 [_] 4 (zX4_isForce (m := mm) i (by omega)) dX4_boundBut_92 rfl qX4_57 kX4_isForce rfl rfl (Nat.le_of_ble_eq_true rfl) rfl rfl ⟨(Nat.le_of_ble_eq_true rfl), (Nat.le_of_ble_eq_true rfl)⟩ (Nat.le_of_ble_eq_true rfl) ⟨rfl, rfl⟩ ⟨(Nat.le_of_ble_eq_true rfl), (Nat.le_of_ble_eq_true rfl)⟩ (fun r9 w9 hp9 => ?_)
      obtain ⟨rfl, rfl⟩ := hp9
      refine Z_if_eq 98 129 dX4_boundBut_95 rfl rfl (fun c95 => ?_) (fun c95 => ?_)
      · skip
        refine Z_iconst 130 (nI 0) dX4_boundBut_129 rfl rfl ?_
        exact K0 (fun g => by
          have g1 : decide (¬ nI i = x ∧ sForce (vR (m 75)) 1 i) = true := g.1
          rw [decide_eq_true_eq] at g1
          exact bI_0 c95 (by rw [hF 75 (by decide)]; exact g1.2))
      · skip
        have hp9 : ¬ nI i = x ∧ sForce (vR (m 75)) 1 i := ⟨c86, by
          have g := bI_1 c95
          rw [hF 75 (by decide)] at g
          exact g⟩
        have he : (eB (vR (m 75)) (fun t => decide (¬ nI t = x ∧ sForce (vR (m 75)) 1 t))) i = (true, sO (vR (m 75)) 1 i, sF (vR (m 75)) 1 i, ((vR (m 75)) 8 i).toInt) := by
          show (decide _, _) = _
          rw [decide_eq_true hp9]
        refine Z_iload 100 1 dX4_boundBut_98 rfl rfl ?_
        refine Z_ldc 102 100000 dX4_boundBut_100 rfl kX4_79 ?_
        refine Z_icmp_ge 105 129 dX4_boundBut_102 rfl rfl (fun c102 => ?_) (fun c102 => ?_)
        · skip
          have e47 : (mm 81 (sF (vR (m 75)) 1 i)).toInt = 100000 := by
            rw [i32_le, mFAR] at c102
            rcases hL _ hfo.1.2 with z | z
            · exact z.2
            · omega
          refine Z_iconst 130 (nI 0) dX4_boundBut_129 rfl rfl ?_
          exact K0 (by rw [he]; exact hL.far (by decide) (by omega) hfo.1.2 e47)
        · skip
          have e47 : ¬ (mm 81 (sF (vR (m 75)) 1 i)).toInt = 100000 := fun z => c102 (by rw [i32_le, mFAR, z]; decide)
          refine Z_iload 107 1 dX4_boundBut_105 rfl rfl ?_
          refine Z_aload_n 108 4 dX4_boundBut_107 rfl rfl ?_
          refine Z_iload 110 2 dX4_boundBut_108 rfl rfl ?_
          refine Z_iconst 111 (nI 2) dX4_boundBut_110 rfl rfl ?_
          refine Z_callV 114 [_, _] 4 (zX4_ofTreaty (m := mm) i 2 (by omega) (by decide)) dX4_boundBut_111 rfl qX4_54 kX4_ofTreaty rfl rfl (Nat.le_of_ble_eq_true rfl) rfl rfl ⟨(Nat.le_of_ble_eq_true rfl), (Nat.le_of_ble_eq_true rfl)⟩ (Nat.le_of_ble_eq_true rfl) ⟨rfl, rfl⟩ ⟨(Nat.le_of_ble_eq_true rfl), (Nat.le_of_ble_eq_true rfl)⟩ (fun r9 w9 hp9 => ?_)
          obtain ⟨rfl, rfl⟩ := hp9
          refine Z_top (v' := .int ((vR (m 75)) 8 i)) (congrArg Value.int ((congrFun (hF 75 (by decide)) _).trans (rfl))) ?_
          refine Z_iadd 115 dX4_boundBut_114 rfl ?_
          refine Z_aload_n 116 4 dX4_boundBut_115 rfl rfl ?_
          refine Z_getR 119 dX4_boundBut_116 rfl fX4_28 (Nat.le_of_ble_eq_true rfl) rfl rfl ?_
          refine Z_iload 121 0 dX4_boundBut_119 rfl rfl ?_
          refine Z_ialn 122 dX4_boundBut_121 rfl (Nat.le_of_ble_eq_true rfl) rfl hfo.2.2 (by decide) ?_
          refine Z_icmp_ge 125 129 dX4_boundBut_122 rfl rfl (fun c122 => ?_) (fun c122 => ?_)
          · skip
            refine Z_iconst 130 (nI 0) dX4_boundBut_129 rfl rfl ?_
            exact K0 (by rw [he]; exact hL.stay (by decide) (by omega) hfo.2.2 hfo.1.2 (by omega) e47 rfl (Int32.not_lt.mpr c122))
          · skip
            have hst := hL.step (by decide) (by omega) hfo.2.2 hfo.1.2 (d := (vR (m 75)) 8 i) (by omega) e47 rfl (Int32.not_le.mp c122)
            refine Z_iconst 126 (nI 1) dX4_boundBut_125 rfl rfl ?_
            refine Z_goto 130 dX4_boundBut_126 rfl ?_
            exact K1 (by rw [he]; exact hst.2) (by rw [he]; exact hst.1)

set_option maxRecDepth 100000 in
set_option maxHeartbeats 4000000 in
theorem lX4_bbA {G : zG} {l : Launch} {h : Nat → Nat} {m : zM} (n : Nat) (hk : sOk (vR (m 75)) 1 n) (hd : dOk (vR (m 75)) n) (f o : Nat) (hf : f < 8) (ho : o < 8) (x : Int32) (f9 : Nat → Int) (hp : Pot (eB (vR (m 75)) (fun t => decide (¬ nI t = x ∧ sForce (vR (m 75)) 1 t))) n f9) : ∀ (F i : Nat), i + F = 8 → ∀ (mm : zM) (L : Int32), Fr 81 m mm → BV 100000 mm 81 (sk (Yb f) (eB (vR (m 75)) (fun t => decide (¬ nI t = x ∧ sForce (vR (m 75)) 1 t))) n i) (900 * i) → ((L = nI 1 ∧ i < 8) ∨ (L = nI 0 ∧ Fx (sk (Yb f) (eB (vR (m 75)) (fun t => decide (¬ nI t = x ∧ sForce (vR (m 75)) 1 t))) n i) (eB (vR (m 75)) (fun t => decide (¬ nI t = x ∧ sForce (vR (m 75)) 1 t))) n)) → Z G mX4_boundBut (fun _ => True) (zN G (fun r w => ∃ m' y v, w = zw h m' ∧ Fr 81 m m' ∧ Top (Yb f) (eB (vR (m 75)) (fun t => decide (¬ nI t = x ∧ sForce (vR (m 75)) 1 t))) n y ∧ (∀ q, q < 8 → y q = zK9 ∨ (-8000 ≤ y q ∧ y q ≤ 8000)) ∧ r = some (.int v) ∧ v.toInt = y o) 0 0) l 0 0 (zw h mm) 38 [(4, .int L), (0, .ref (G.1 + 74)), (1, .int (nI f)), (2, .int (nI o)), (3, .int x)] [] := by
  have hn := hk.2.1
  intro F
  induction F with
  | zero =>
    intro i hi mm L hF hL hx
    rcases hx with ⟨-, hx⟩ | ⟨rfl, hx⟩
    · omega
    · skip
      refine Z_iload 40 0 dX4_boundBut_38 rfl rfl ?_
      refine Z_if_eq 43 190 dX4_boundBut_40 rfl rfl (fun c40 => ?_) (fun c40 => absurd (rfl) c40)
      refine Z_aload_n 191 1 dX4_boundBut_190 rfl rfl ?_
      refine Z_getR 194 dX4_boundBut_191 rfl fX4_28 (Nat.le_of_ble_eq_true rfl) rfl rfl ?_
      refine Z_iload_n 195 3 dX4_boundBut_194 rfl rfl ?_
      refine Z_ialn 196 dX4_boundBut_195 rfl (Nat.le_of_ble_eq_true rfl) rfl ho (by decide) ?_
      exact Z_iret dX4_boundBut_196 rfl ⟨mm, (sk (Yb f) (eB (vR (m 75)) (fun t => decide (¬ nI t = x ∧ sForce (vR (m 75)) 1 t))) n i), _, rfl, hF, sk_top hx, fun q hq => by
      have := hL q hq
      omega, rfl, by
      have := hL o ho
      have z9 : zK9 = 100000 := rfl
      omega⟩
  | succ F ih =>
    intro i hi mm L hF hL hx
    rcases hx with ⟨rfl, hx⟩ | ⟨rfl, hx⟩
    · skip
      refine Z_iload 40 0 dX4_boundBut_38 rfl rfl ?_
      refine Z_if_eq 43 190 dX4_boundBut_40 rfl rfl (fun c40 => absurd c40 (by decide)) (fun c40 => ?_)
      refine Z_iconst 44 (nI 0) dX4_boundBut_43 rfl rfl ?_
      refine Z_istore 46 [(4, _), (0, _), (1, _), (2, _), (3, _)] dX4_boundBut_44 rfl (Nat.le_of_ble_eq_true rfl) rfl ?_
      refine Z_iconst 47 (nI 0) dX4_boundBut_46 rfl rfl ?_
      refine Z_istore 49 [(5, _), (4, _), (0, _), (1, _), (2, _), (3, _)] dX4_boundBut_47 rfl (Nat.le_of_ble_eq_true rfl) rfl ?_
      refine lX4_bb n hk hd f o hf ho x (sk (Yb f) (eB (vR (m 75)) (fun t => decide (¬ nI t = x ∧ sForce (vR (m 75)) 1 t))) n i) (900 * i) (by omega) _ ?_ n 0 (by omega) mm hF (hL.mono (by omega))
      intro m2 hF2 hL2
      by_cases hc : chg (sk (Yb f) (eB (vR (m 75)) (fun t => decide (¬ nI t = x ∧ sForce (vR (m 75)) 1 t))) n i) (eB (vR (m 75)) (fun t => decide (¬ nI t = x ∧ sForce (vR (m 75)) 1 t))) n = true
      · rw [bI_t hc]
        have i7 : i ≠ 7 := fun z => by
          subst z
          rw [(Fx_chg n (sk_7 (y := Yb f) hp)).2] at hc
          exact absurd hc (by decide)
        exact ih (i + 1) (by omega) m2 _ hF2 (hL2.mono (by omega)) (Or.inl ⟨rfl, by omega⟩)
      · rw [bI_f hc]
        have hfx := (chg_f (y := (sk (Yb f) (eB (vR (m 75)) (fun t => decide (¬ nI t = x ∧ sForce (vR (m 75)) 1 t))) n i)) n (Bool.eq_false_iff.mpr hc))
        exact ih (i + 1) (by omega) m2 _ hF2 (hL2.mono (by omega)) (Or.inr ⟨rfl, by show Fx (rxs (sk (Yb f) (eB (vR (m 75)) (fun t => decide (¬ nI t = x ∧ sForce (vR (m 75)) 1 t))) n i) (eB (vR (m 75)) (fun t => decide (¬ nI t = x ∧ sForce (vR (m 75)) 1 t))) n) (eB (vR (m 75)) (fun t => decide (¬ nI t = x ∧ sForce (vR (m 75)) 1 t))) n; rw [hfx.1]; exact hfx.2⟩)
    · skip
      refine Z_iload 40 0 dX4_boundBut_38 rfl rfl ?_
      refine Z_if_eq 43 190 dX4_boundBut_40 rfl rfl (fun c40 => ?_) (fun c40 => absurd (rfl) c40)
      refine Z_aload_n 191 1 dX4_boundBut_190 rfl rfl ?_
      refine Z_getR 194 dX4_boundBut_191 rfl fX4_28 (Nat.le_of_ble_eq_true rfl) rfl rfl ?_
      refine Z_iload_n 195 3 dX4_boundBut_194 rfl rfl ?_
      refine Z_ialn 196 dX4_boundBut_195 rfl (Nat.le_of_ble_eq_true rfl) rfl ho (by decide) ?_
      exact Z_iret dX4_boundBut_196 rfl ⟨mm, (sk (Yb f) (eB (vR (m 75)) (fun t => decide (¬ nI t = x ∧ sForce (vR (m 75)) 1 t))) n i), _, rfl, hF, sk_top hx, fun q hq => by
      have := hL q hq
      omega, rfl, by
      have := hL o ho
      have z9 : zK9 = 100000 := rfl
      omega⟩
set_option maxRecDepth 100000 in
set_option maxHeartbeats 4000000 in
theorem lX4_bb0 {G : zG} {l : Launch} {h : Nat → Nat} {m : zM} (n : Nat) (hk : sOk (vR (m 75)) 1 n) (hd : dOk (vR (m 75)) n) (f o : Nat) (hf : f < 8) (ho : o < 8) (x : Int32) (f9 : Nat → Int) (hp : Pot (eB (vR (m 75)) (fun t => decide (¬ nI t = x ∧ sForce (vR (m 75)) 1 t))) n f9) : ∀ (t i : Nat), i + t = 8 → Z G mX4_boundBut (fun _ => True) (zN G (fun r w => ∃ m' y v, w = zw h m' ∧ Fr 81 m m' ∧ Top (Yb f) (eB (vR (m 75)) (fun t => decide (¬ nI t = x ∧ sForce (vR (m 75)) 1 t))) n y ∧ (∀ q, q < 8 → y q = zK9 ∨ (-8000 ≤ y q ∧ y q ≤ 8000)) ∧ r = some (.int v) ∧ v.toInt = y o) 0 0) l 0 0 (zw h (f81 m f i)) 3 [(4, .int (nI i)), (0, .ref (G.1 + 74)), (1, .int (nI f)), (2, .int (nI o)), (3, .int x)] [] := by
  intro t
  induction t with
  | zero =>
    intro i hi
    have e9 : i = 8 := by omega
    subst e9
    refine Z_iload 5 0 dX4_boundBut_3 rfl rfl ?_
    refine Z_bipush 7 (nI 8) dX4_boundBut_5 rfl rfl ?_
    refine Z_icmp_ge 10 35 dX4_boundBut_7 rfl rfl (fun c7 => ?_) (fun c7 => absurd (nI_le (Nat.le_refl _) (by omega)) c7)
    refine Z_iconst 36 (nI 1) dX4_boundBut_35 rfl rfl ?_
    refine Z_istore 38 [(4, _), (0, _), (1, _), (2, _), (3, _)] dX4_boundBut_36 rfl (Nat.le_of_ble_eq_true rfl) rfl ?_
    exact lX4_bbA n hk hd f o hf ho x f9 hp 8 0 (by omega) _ _ (f81_fr m f 8) ((f81_bv m f).mono (by omega)) (Or.inl ⟨rfl, by decide⟩)
  | succ t ih =>
    intro i hi
    have hlt : i < 8 := by omega
    refine Z_iload 5 0 dX4_boundBut_3 rfl rfl ?_
    refine Z_bipush 7 (nI 8) dX4_boundBut_5 rfl rfl ?_
    refine Z_icmp_ge 10 35 dX4_boundBut_7 rfl rfl (fun c7 => absurd c7 (nI_ge hlt (by omega))) (fun c7 => ?_)
    refine Z_aload_n 11 1 dX4_boundBut_10 rfl rfl ?_
    refine Z_getR 14 dX4_boundBut_11 rfl fX4_28 (Nat.le_of_ble_eq_true rfl) rfl rfl ?_
    refine Z_iload 16 0 dX4_boundBut_14 rfl rfl ?_
    refine Z_iload 18 0 dX4_boundBut_16 rfl rfl ?_
    refine Z_iload_n 19 2 dX4_boundBut_18 rfl rfl ?_
    refine Z_icmp_ne 22 26 dX4_boundBut_19 rfl rfl (fun c19 => ?_) (fun c19 => ?_)
    · skip
      refine Z_ldc 28 100000 dX4_boundBut_26 rfl kX4_79 ?_
      refine Z_iasn 29 dX4_boundBut_28 rfl (Nat.le_of_ble_eq_true rfl) rfl hlt (by decide) ?_
      refine Z_w (w' := zw h (f81 m f (i + 1))) (congrArg (zw h) (f81_step m f i _ (by first | exact (if_pos ((nI_eq (by omega) (by omega)).mp (Decidable.not_not.mp c19))).symm | exact (if_neg (fun z => c19 (by rw [z]))).symm))) ?_
      refine Z_iinc 32 [(4, _), (0, _), (1, _), (2, _), (3, _)] 0 _ dX4_boundBut_29 rfl (Nat.le_of_ble_eq_true rfl) rfl (nI_1 _) rfl ?_
      refine Z_goto 3 dX4_boundBut_32 rfl ?_
      exact ih (i + 1) (by omega)
    · skip
      refine Z_iconst 23 (nI 0) dX4_boundBut_22 rfl rfl ?_
      refine Z_goto 28 dX4_boundBut_23 rfl ?_
      refine Z_iasn 29 dX4_boundBut_28 rfl (Nat.le_of_ble_eq_true rfl) rfl hlt (by decide) ?_
      refine Z_w (w' := zw h (f81 m f (i + 1))) (congrArg (zw h) (f81_step m f i _ (by first | exact (if_pos ((nI_eq (by omega) (by omega)).mp (Decidable.not_not.mp c19))).symm | exact (if_neg (fun z => c19 (by rw [z]))).symm))) ?_
      refine Z_iinc 32 [(4, _), (0, _), (1, _), (2, _), (3, _)] 0 _ dX4_boundBut_29 rfl (Nat.le_of_ble_eq_true rfl) rfl (nI_1 _) rfl ?_
      refine Z_goto 3 dX4_boundBut_32 rfl ?_
      exact ih (i + 1) (by omega)

set_option maxRecDepth 100000 in
set_option maxHeartbeats 4000000 in
theorem zX4_boundBut {G : zG} {l : Launch} {h : Nat → Nat} {m : zM} (n : Nat) (hk : sOk (vR (m 75)) 1 n) (hd : dOk (vR (m 75)) n) (f o : Nat) (hf : f < 8) (ho : o < 8) (x : Int32) (f9 : Nat → Int) (hp : Pot (eB (vR (m 75)) (fun t => decide (¬ nI t = x ∧ sForce (vR (m 75)) 1 t))) n f9) : zMet G l yX4_boundBut mX4_boundBut [.ref (G.1 + 74), .int (nI f), .int (nI o), .int x] (zw h m) (fun r w => ∃ m' y v, w = zw h m' ∧ Fr 81 m m' ∧ Top (Yb f) (eB (vR (m 75)) (fun t => decide (¬ nI t = x ∧ sForce (vR (m 75)) 1 t))) n y ∧ (∀ q, q < 8 → y q = zK9 ∨ (-8000 ≤ y q ∧ y q ≤ 8000)) ∧ r = some (.int v) ∧ v.toInt = y o) 0 0 := by
  refine zMet_of [(0, .ref (G.1 + 74)), (1, .int (nI f)), (2, .int (nI o)), (3, .int x)] (by decide +kernel) rfl (Or.inl rfl) (Nat.le_of_ble_eq_true rfl) rfl ?_
  refine Z_iconst 1 (nI 0) dX4_boundBut_0 rfl rfl ?_
  refine Z_istore 3 [(4, _), (0, _), (1, _), (2, _), (3, _)] dX4_boundBut_1 rfl (Nat.le_of_ble_eq_true rfl) rfl ?_
  refine Z_w (w' := zw h (f81 m f 0)) (congrArg (zw h) (f81_0 m f).symm) ?_
  exact lX4_bb0 n hk hd f o hf ho x f9 hp 8 0 (by omega)
