/-! method by method: asks, days ahead, history -/
section
variable {G : zG} {l : Launch} {K : Nat} {h : Nat → Nat} {m : zM}
theorem bnd_one {y : Int} {v v' : Int32} (h1 : (y = zK9 ∧ v = -4) ∨ (¬ y = zK9 ∧ v.toInt = y + 1000)) (h2 : (y = zK9 ∧ v' = -4) ∨ (¬ y = zK9 ∧ v'.toInt = y + 1000)) : v' = v := by
  rcases h1 with ⟨a, rfl⟩ | ⟨a, b⟩ <;> rcases h2 with ⟨c, rfl⟩ | ⟨c, d⟩
  · rfl
  · exact absurd a c
  · exact absurd c a
  · exact i32_eq.mpr (by omega)
theorem p_bound (hR9 : Rel K h m) (x1 x2 x : Int32) : Pr G l yX3_bound mX3_bound yX4_bound mX4_bound [.int x1, .int x2, .int x] K h m := by
  obtain ⟨hh, ⟨n, hc, hI⟩, -⟩ := id hR9
  have g : gOk m n := hc.sym.g hI.1
  by_cases hq : hdg x1 ∧ hdg x2 ∧ ¬ x < 0 ∧ ¬ nI 1 < x
  · obtain ⟨f, hf, rfl⟩ := vin (by decide) hq.1.1 hq.1.2
    obtain ⟨o, ho, rfl⟩ := vin (by decide) hq.2.1.1 hq.2.1.2
    obtain ⟨j, hj, rfl⟩ := le_in (by decide) hq.2.2.1 hq.2.2.2
    have key : ∀ (r : Option Value) (w : zW), (∃ m' y v, w = zw h m' ∧ Fsv m m' ∧ Top (Yb f) (eB m (pFo m)) n y ∧ (∀ q, q < 8 → y q = zK9 ∨ (-8000 ≤ y q ∧ y q ≤ 8000)) ∧ r = some (.int v) ∧ ((y o = zK9 ∧ v = -4) ∨ (¬ y o = zK9 ∧ v.toInt = y o + 1000))) → ∃ (v : Int32) (m1 : zM), r = some (.int v) ∧ w = zw h m1 ∧ FL m m1 ∧ ∃ Q2, zMet G l yX4_bound mX4_bound [.ref (G.1 + 74), .int (nI f), .int (nI o), .int (nI j)] (zw h m1) Q2 0 0 ∧ ∀ r2 w2, Q2 r2 w2 → r2 = some (.int v) ∧ ∃ m2, w2 = zw h m2 ∧ FL m1 m2 := by
      rintro r w ⟨m1, y, v, rfl, hF, hT, hY, rfl, hv⟩
      have e75 : m1 75 = m 75 := hF 75 (by decide)
      refine ⟨v, m1, rfl, rfl, FL.v hF, _, zX4_bound (m := m1) n (by rw [e75]; exact hI.1) f o hf ho (nI j) hq.2.2.1 hq.2.2.2, fun r2 w2 hq2 => ?_⟩
      rw [e75] at hq2
      obtain ⟨m2, y2, v2, rfl, hF2, hT2, hY2, rfl, hv2⟩ := hq2
      have ey := (hc.topB hT).one hT2
      subst ey
      exact ⟨by rw [bnd_one hv hv2], m2, rfl, FL.m hF2⟩
    have e : j = 0 ∨ j = 1 := by omega
    rcases e with rfl | rfl
    · exact Pr.look hR9 (zX3_bound0 n g f o hf ho) key
    · exact Pr.look hR9 (zX3_bound1 n g f o hf ho) key
  · exact Pr.same hR9 (eX3_bound x1 x2 x hq) (eX4_bound x1 x2 x hq) rfl
theorem p_whyNot (hR9 : Rel K h m) (x1 x2 d : Int32) : Pr G l yX3_whyNot mX3_whyNot yX4_whyNot mX4_whyNot [.int x1, .int x2, .int d] K h m := by
  obtain ⟨hh, ⟨n, hc, hI⟩, -⟩ := id hR9
  have g : gOk m n := hc.sym.g hI.1
  by_cases hq : agr x1 x2 d
  · obtain ⟨f, o, rfl, rfl, hf, ho, hd1, hd2⟩ := agr_in hq
    refine Pr.look hR9 (zX3_whyNot n g f o hf ho d ⟨by omega, by omega⟩ hq) (fun r w hw => ?_)
    obtain ⟨m1, y, rfl, hF, hT, hY, v, rfl, hv⟩ := hw
    have e75 : m1 75 = m 75 := hF 75 (by decide)
    refine ⟨v, m1, rfl, rfl, FL.v hF, _, zX4_whyNot (m := m1) n (by rw [e75]; exact hI.1) f o hf ho d ⟨by omega, by omega⟩ hq, fun r2 w2 hq2 => ?_⟩
    rw [e75] at hq2
    obtain ⟨m2, y2, v2, rfl, hF2, hT2, hY2, rfl, hv2⟩ := hq2
    have ey := (hc.topB hT).one hT2
    subst ey
    exact ⟨by rw [rsn.one (hc.fea f o d) Iff.rfl hv hv2], m2, rfl, FL.m hF2⟩
  · exact Pr.same hR9 (eX3_whyNot x1 x2 d hq) (eX4_whyNot x1 x2 d hq) rfl
theorem sumI_sub (f g : Nat → Int32) : ∀ N, sumI (fun q => f q - g q) N = sumI f N - sumI g N
  | 0 => by
    show (0 : Int32) = 0 - 0
    decide
  | N + 1 => by
    show sumI (fun q => f q - g q) N + (f N - g N) = sumI f N + f N - (sumI g N + g N)
    rw [sumI_sub f g N]
    generalize sumI f N = a
    generalize sumI g N = b
    generalize f N = c
    generalize g N = d
    rw [Int32.sub_eq_add_neg, Int32.sub_eq_add_neg, Int32.sub_eq_add_neg, Int32.neg_add, Int32.sub_eq_add_neg, Int32.add_assoc, Int32.add_assoc, ← Int32.add_assoc (-b), Int32.add_comm (-b) c, Int32.add_assoc]
theorem p_clipping (hR9 : Rel K h m) (x : Int32) : Pr G l yX3_clipping mX3_clipping yX4_clipping mX4_clipping [.int x] K h m := by
  obtain ⟨hh, ⟨n, hc, hI⟩, -⟩ := id hR9
  have g : gOk m n := hc.sym.g hI.1
  by_cases hq : ¬ x < 0 ∧ ¬ nI 1 < x
  · obtain ⟨j, hj, rfl⟩ := le_in (by decide) hq.1 hq.2
    have key : ∀ (r : Option Value) (w : zW), (∃ m' y, w = zw h m' ∧ Fsv m m' ∧ Top (HgtY (m 2)) (eL m (pFo m)) n y ∧ (((∀ q, q < 8 → 0 ≤ y q) ∧ r = some (.int (sumI (m 2) 8 - sumI (fun q => Int32.ofInt (y q)) 8))) ∨ ((∃ q, q < 8 ∧ y q < 0) ∧ r = some (.int (-4))))) → ∃ (v : Int32) (m1 : zM), r = some (.int v) ∧ w = zw h m1 ∧ FL m m1 ∧ ∃ Q2, zMet G l yX4_clipping mX4_clipping [.ref (G.1 + 74), .int (nI j)] (zw h m1) Q2 0 0 ∧ ∀ r2 w2, Q2 r2 w2 → r2 = some (.int v) ∧ ∃ m2, w2 = zw h m2 ∧ FL m1 m2 := by
      rintro r w ⟨m1, y, rfl, hF, hT, hv⟩
      have e75 : m1 75 = m 75 := hF 75 (by decide)
      have hT2 := hc.topL hT
      have k2 : ∀ v, ((∀ q, q < 8 → 0 ≤ y q) ∧ v = sumI (m 2) 8 - sumI (fun q => Int32.ofInt (y q)) 8) ∨ ((∃ q, q < 8 ∧ y q < 0) ∧ v = -4) → r = some (.int v) → ∃ (v : Int32) (m1_1 : zM), r = some (.int v) ∧ zw h m1 = zw h m1_1 ∧ FL m m1_1 ∧ ∃ Q2, zMet G l yX4_clipping mX4_clipping [.ref (G.1 + 74), .int (nI j)] (zw h m1_1) Q2 0 0 ∧ ∀ r2 w2, Q2 r2 w2 → r2 = some (.int v) ∧ ∃ m2, w2 = zw h m2 ∧ FL m1_1 m2 := by
        intro v hv hr
        refine ⟨v, m1, hr, rfl, FL.v hF, _, zX4_clipping (m := m1) n (by rw [e75]; exact hI.1) (nI j) hq.1 hq.2, fun r2 w2 hq2 => ?_⟩
        rw [e75] at hq2
        obtain ⟨m2, rfl, hF2, hv2⟩ := hq2
        refine ⟨?_, m2, rfl, FL.m hF2⟩
        rcases hv2 with ⟨y2, hT3, hp, rfl⟩ | ⟨hn, rfl⟩
        · have ey := hT2.one hT3
          subst ey
          rcases hv with ⟨-, rfl⟩ | ⟨⟨q, hq, hlt⟩, -⟩
          · rw [sumI_sub, c_sum hc 2 (by decide)]
          · have := hp q hq
            omega
        · obtain ⟨q, hq, hlt⟩ := hn y hT2
          rcases hv with ⟨hp, -⟩ | ⟨-, rfl⟩
          · have := hp q hq
            omega
          · rfl
      rcases hv with ⟨a, b⟩ | ⟨a, b⟩
      · exact k2 _ (Or.inl ⟨a, rfl⟩) b
      · exact k2 _ (Or.inr ⟨a, rfl⟩) b
    have e : j = 0 ∨ j = 1 := by omega
    rcases e with rfl | rfl
    · exact Pr.look hR9 (zX3_clipping0 n g) key
    · exact Pr.look hR9 (zX3_clipping1 n g) key
  · exact Pr.same hR9 (eX3_clipping x hq) (eX4_clipping x hq) rfl
/-- the peace, on both sides -/
theorem p_peace (hR9 : Rel K h m) : ∃ v : UInt64, v &&& 0x7fffffffffffffff ≤ 0x7ff0000000000000 ∧ zMet G l yX3_peace mX3_peace [.ref (G.1 + 0)] (zw h m) (fun r w => r = some (.double v) ∧ w = zw h m) 0 0 ∧ zMet G l yX4_peace mX4_peace [.ref (G.1 + 74)] (zw h m) (fun r w => r = some (.double v) ∧ w = zw h m) 0 0 := by
  obtain ⟨hh, ⟨n, hc, hI⟩, -⟩ := id hR9
  have hk : sOk m 1 n := hc.sym.ok hI.1.1
  have hn := hI.n14
  have e1 : cnt (fun j => decide (sForce m 1 j)) n = cnt (fun j => decide (sForce (vR (m 75)) 1 j)) n := cnt_congr n (fun t ht => decide_eq_decide.mpr (hc.force ht))
  have e2 := c_brk hc hI
  have l1 := cnt_le (fun j => decide (sForce (vR (m 75)) 1 j)) n
  have l2 := cnt_le (fun j => decide (bkV (vR (m 75)) j)) n
  have a := zX3_peace (G := G) (l := l) (h := h) (m := m) n hk
  rw [e1, e2] at a
  refine ⟨_, ?_, a, zX4_peace n hI.1.1⟩
  unfold pcV
  by_cases g : cnt (fun j => decide (sForce (vR (m 75)) 1 j)) n = 0
  · rw [if_pos g]
    decide +kernel
  · rw [if_neg g]
    exact pc_num _ (by omega) _ (by omega) g
theorem p_ifDays (hR9 : Rel K h m) (x y : Int32) : Pr G l yX3_ifDays mX3_ifDays yX4_ifDays mX4_ifDays [.int x, .int y] K h m := by
  obtain ⟨hh, ⟨n, hc, hI⟩, -⟩ := id hR9
  have hk : sOk m 1 n := hc.sym.ok hI.1.1
  by_cases hx : ¬ x < nI 1 ∧ ¬ nI 30 < x
  · obtain ⟨D, hD, rfl⟩ := le_in (k := 30) (by decide) (fun z => hx.1 (by
      rw [i32_lt] at z ⊢
      have e : (0 : Int32).toInt = 0 := rfl
      have e1 : (nI 1).toInt = 1 := rfl
      omega)) hx.2
    have hD0 : 0 < D := by
      rcases Nat.eq_zero_or_pos D with g | g
      · subst g
        exact absurd (by decide) hx.1
      · exact g
    by_cases hy : ¬ y < nI 0 ∧ ¬ nI 1 < y
    · obtain ⟨j, hj, rfl⟩ := le_in (k := 1) (by decide) hy.1 hy.2
      have e : j = 0 ∨ j = 1 := by omega
      rcases e with rfl | rfl
      · refine Pr.look hR9 (zX3_ifDays0 n hk (nI D) hx.1 hx.2) (fun r w hq => ⟨_, m, hq.1, hq.2, FL.v Fsv.rf, _, zX4_ifDays0 n hI.1.1 D hD0 hD, fun r2 w2 hq2 => ?_⟩)
        obtain ⟨m2, rfl, hF, rfl⟩ := hq2
        refine ⟨?_, m2, rfl, FL.a (Or.inl rfl) hF⟩
        exact congrArg (fun z => some (Value.int (nI z))) (cnt_congr n (fun t ht => decide_eq_decide.mpr ((bk_dy hI ht (by omega)).trans (hc.brk hk ht _).symm)))
      · refine Pr.look hR9 (zX3_ifDays1 n hk (nI D) hx.1 hx.2) (fun r w hq => ⟨_, m, hq.1, hq.2, FL.v Fsv.rf, _, zX4_ifDays1 n hI.1.1 D hD0 hD, fun r2 w2 hq2 => ?_⟩)
        obtain ⟨m2, rfl, hF, rfl⟩ := hq2
        refine ⟨?_, m2, rfl, FL.a (Or.inl rfl) hF⟩
        exact congrArg (fun z => some (Value.int z)) (sumI_congr 8 (fun i hi => (dyK_h hI hi (by omega)).trans (hc.aft hi _).symm))
    · refine Pr.same hR9 (eX3_ifDaysB (nI D) hx.1 hx.2 y (fun z => hy ?_) (fun z => hy ?_)) (eX4_ifDays (nI D) y (fun z => hy z.2)) rfl
      · rw [z]
        decide
      · rw [z]
        decide
  · exact Pr.same hR9 (eX3_ifDaysA x y hx) (eX4_ifDays x y (fun z => hx z.1)) rfl
theorem p_breaksIn (hR9 : Rel K h m) : Pr G l yX3_breaksIn mX3_breaksIn yX4_breaksIn mX4_breaksIn [] K h m := by
  obtain ⟨hh, ⟨n, hc, hI⟩, -⟩ := id hR9
  have hk : sOk m 1 n := hc.sym.ok hI.1.1
  refine Pr.look hR9 (zX3_breaksIn n hk) (fun r w hq => ?_)
  obtain ⟨⟨v, rfl, hv⟩, rfl⟩ := hq
  refine ⟨v, m, rfl, rfl, FL.v Fsv.rf, _, zX4_breaksIn n hI.1.1, fun r2 w2 hq2 => ?_⟩
  obtain ⟨m2, v2, rfl, hF, rfl, hv2⟩ := hq2
  refine ⟨?_, m2, rfl, FL.a (Or.inl rfl) hF⟩
  have e := brkIn_1 (fun k hk6 => by
    have e : bcM (m 75) n k = bcA m n k := cnt_congr n (fun t ht => decide_eq_decide.mpr ((bk_dy hI ht hk6).trans (hc.brk hk ht _).symm))
    rw [e]) hv2 hv
  rw [e]
theorem p_tightest (hR9 : Rel K h m) (x1 x2 : Int32) : Pr G l yX3_tightest mX3_tightest yX4_tightest mX4_tightest [.int x1, .int x2] K h m := by
  obtain ⟨hh, ⟨n, hc, hI⟩, -⟩ := id hR9
  have g : gOk m n := hc.sym.g hI.1
  by_cases hq : hdg x1 ∧ hdg x2 ∧ ¬ x1 = x2
  · obtain ⟨f, hf, rfl⟩ := vin (by decide) hq.1.1 hq.1.2
    obtain ⟨o, ho, rfl⟩ := vin (by decide) hq.2.1.1 hq.2.1.2
    refine Pr.look hR9 (zX3_tightest n g f o hf ho ⟨hq.1, hq.2.1, hq.2.2, by decide, by decide⟩) (fun r w hw => ?_)
    obtain ⟨m1, rfl, hF, hv⟩ := hw
    have e75 : m1 75 = m 75 := hF 75 (by decide)
    have k2 : ∀ v, ((¬ FeI m n f o 60 ∧ v = -4) ∨ ∃ d : Int, -30 ≤ d ∧ d ≤ 60 ∧ FeI m n f o d ∧ (∀ e, -30 ≤ e → e < d → ¬ FeI m n f o e) ∧ v.toInt = d + 100) → r = some (.int v) → ∃ (v : Int32) (m1_1 : zM), r = some (.int v) ∧ zw h m1 = zw h m1_1 ∧ FL m m1_1 ∧ ∃ Q2, zMet G l yX4_tightest mX4_tightest [.ref (G.1 + 74), .int (nI f), .int (nI o)] (zw h m1_1) Q2 0 0 ∧ ∀ r2 w2, Q2 r2 w2 → r2 = some (.int v) ∧ ∃ m2, w2 = zw h m2 ∧ FL m1_1 m2 := by
      intro v hv hr
      refine ⟨v, m1, hr, rfl, FL.v hF, _, zX4_tightest (m := m1) n (by rw [e75]; exact hI.1) f o hf ho hq, fun r2 w2 hq2 => ?_⟩
      rw [e75] at hq2
      obtain ⟨m2, rfl, hF2, hv2⟩ := hq2
      refine ⟨?_, m2, rfl, FL.a (Or.inr (Or.inl rfl)) hF2⟩
      rcases hv2 with ⟨a, rfl⟩ | ⟨d2, a1, a2, a3, a4, v2, rfl, a5⟩
      · rcases hv with ⟨-, rfl⟩ | ⟨d, b1, b2, b3, -⟩
        · rfl
        · exact absurd (FeI.mono b2 ((hc.fe f o d).mp b3)) a
      · rcases hv with ⟨b, rfl⟩ | ⟨d, b1, b2, b3, b4, b5⟩
        · exact absurd (FeI.mono a2 ((hc.fe f o d2).mpr a3)) b
        · have e : d2 = d := by
            rcases Int.lt_trichotomy d2 d with z | z | z
            · exact absurd ((hc.fe f o d2).mpr a3) (b4 d2 a1 z)
            · exact z
            · exact absurd ((hc.fe f o d).mp b3) (a4 d b1 z)
          rw [i32_eq.mpr (show v2.toInt = v.toInt by omega)]
    rcases hv with ⟨a, b⟩ | ⟨d, a1, a2, a3, a4, v, b, a5⟩
    · exact k2 _ (Or.inl ⟨a, rfl⟩) b
    · exact k2 v (Or.inr ⟨d, a1, a2, a3, a4, a5⟩) b
  · exact Pr.same hR9 (eX3_tightest x1 x2 (fun z => hq ⟨z.1, z.2.1, z.2.2.1⟩)) (eX4_tightest x1 x2 hq) rfl
/-- the text, on both sides -/
theorem pad_x (hR9 : Rel K h m) : ∃ L, L ≤ 60 ∧ m 68 1 = nI L ∧ m 74 7 = nI L ∧ hx (m 69) L = hx (m 79) L ∧ Cb (hx (m 79) L) := by
  obtain ⟨L, hL, h1, h2, h3⟩ := hR9.2.2.2.2.1
  refine ⟨L, hL, h1, h2, ?_, fun j => ?_⟩
  · funext j
    unfold hx
    by_cases g : j < L
    · rw [if_pos g, if_pos g, (h3 j g).1]
    · rw [if_neg g, if_neg g]
  · unfold hx
    by_cases g : j < L
    · rw [if_pos g]
      exact (h3 j g).2
    · rw [if_neg g]
      decide
theorem p_fault (hR9 : Rel K h m) : Pr G l yX3_fault mX3_fault yX4_fault mX4_fault [] K h m := by
  obtain ⟨L, hL, h1, h2, hx9, hC⟩ := pad_x hR9
  refine Pr.look hR9 (zX3_fault L h1 hL) (fun r w hq => ?_)
  obtain ⟨m1, K1, v, rfl, hF, hG, rfl, hv, -⟩ := hq
  have e79 : m1 79 = m 79 := hF.1 79 (by decide)
  have e74 : m1 74 = m 74 := hF.1 74 (by decide)
  refine ⟨v, m1, rfl, rfl, FL.p hF, _, zX4_fault (m := m1) (hx (m 69) L) L (by rw [e79]; exact hx9) hL (by rw [hx9]; exact hC) (by rw [e74]; exact h2), fun r2 w2 hq2 => ?_⟩
  obtain ⟨m2, K2, v2, rfl, hF2, hG2, rfl, hv2⟩ := hq2
  exact ⟨by rw [(Flt.one hG hv hG2 hv2).2], m2, rfl, FL.t hF2⟩
theorem cpR_row (m : zM) (A x B : Nat) (k : Nat) (hk : k < 95) : cpR m A x B 0 95 B k = m A (x + k) := by
  rw [cpR_at, if_pos (by omega)]
  rfl
theorem p_undo (hR9 : Rel K h m) : Pr G l yX3_undo mX3_undo yX4_undo mX4_undo [] K h m := by
  obtain ⟨hh, ⟨n, hc, hI⟩, ⟨s, hs, hst, hst4, hH⟩, hS, hP, hT⟩ := id hR9
  cases s with
  | zero => exact Pr.same hR9 (eX3_undo hst) (eX4_undo hst4) rfl
  | succ s =>
    obtain ⟨n2, hE, hI2⟩ := hH s (by omega)
    have hsH := hh.1 s (by omega)
    have i9 := IsSt.hi hsH
    have k1 : ∀ q, ¬ (1 ≤ q ∧ q ≤ 9) → q ≠ 0 → cpM (up2 m 0 5 (nI s)) 1 (h s) q = m q := fun q a b => by rw [cp_o _ (by omega), up2_na _ _ _ b]
    have k0 : ∀ k, k ≠ 5 → cpM (up2 m 0 5 (nI s)) 1 (h s) 0 k = m 0 k := fun k a => by rw [cp_o _ (by omega), up2_ne _ _ (fun z => a z.2)]
    have k05 : cpM (up2 m 0 5 (nI s)) 1 (h s) 0 5 = nI s := by rw [cp_o _ (by omega), up2_eq]
    refine Pr.mk9 (zX3_undo s (by omega) hst hh) (fun r w hq => ⟨_, h, _, hq.1, hq.2, _, zX4_undo (m := cpM (up2 m 0 5 (nI s)) 1 (h s)) s (by omega) (by rw [k1 74 (by omega) (by decide)]; exact hst4), fun r2 w2 hq2 => ⟨hq2.1, _, hq2.2, ?_⟩⟩)
    have f0 : ∀ q, q ≠ 75 → q ≠ 74 → cpR (up2 (cpM (up2 m 0 5 (nI s)) 1 (h s)) 74 3 (nI s)) 77 (95 * s) 75 0 95 q = cpM (up2 m 0 5 (nI s)) 1 (h s) q := fun q a b => by rw [cpR_na _ a, up2_na _ _ _ b]
    have f1 : ∀ q, q ≠ 75 → q ≠ 74 → ¬ (1 ≤ q ∧ q ≤ 9) → q ≠ 0 → cpR (up2 (cpM (up2 m 0 5 (nI s)) 1 (h s)) 74 3 (nI s)) 77 (95 * s) 75 0 95 q = m q := fun q a b c d => by rw [f0 q a b, k1 q c d]
    have f4 : ∀ k, k ≠ 3 → cpR (up2 (cpM (up2 m 0 5 (nI s)) 1 (h s)) 74 3 (nI s)) 77 (95 * s) 75 0 95 74 k = m 74 k := fun k a => by rw [cpR_na _ (by decide), up2_ne _ _ (fun z => a z.2), k1 74 (by omega) (by decide)]
    have er : ∀ k, k < 95 → hR m s k = cpR (up2 (cpM (up2 m 0 5 (nI s)) 1 (h s)) 74 3 (nI s)) 77 (95 * s) 75 0 95 75 k := fun k hk => by
      rw [cpR_row _ _ _ _ _ hk, up2_na _ _ _ (by decide), k1 77 (by omega) (by decide)]
      rfl
    refine ⟨hh, ⟨n2, ?_, (hI2.row er).mono (by omega)⟩, ⟨s, by omega, ?_, ?_, fun k hk => ?_⟩, ?_, ?_, ?_⟩
    · have a : EqS n2 (cpM (up2 m 0 5 (nI s)) 1 (h s)) (aS (up2 m 0 5 (nI s)) (h s)) := aS_1.sym.trans (cp_to hI2.n14 _ 1 (h s))
      have b : EqS n2 (aS (up2 m 0 5 (nI s)) (h s)) (aS m (h s)) := aS_of (fun q x y => up2_na _ _ _ (by omega))
      exact (((a.trans b).trans hE).trans ((row_eq er).le hI2.n14)).sub (fun q x y => f0 q (by omega) (by omega))
    · rw [f0 0 (by decide) (by decide)]
      exact k05
    · rw [cpR_na _ (by decide), up2_eq]
    · obtain ⟨n3, x, y⟩ := hH k (by omega)
      have e : hR (cpR (up2 (cpM (up2 m 0 5 (nI s)) 1 (h s)) 74 3 (nI s)) 77 (95 * s) 75 0 95) k = hR m k := by
        unfold hR
        rw [f1 77 (by decide) (by decide) (by omega) (by decide)]
      have i := IsSt.hi (hh.1 k (by omega))
      rw [e]
      exact ⟨n3, (aS_of (fun q c d => f1 q (by omega) (by omega) (by omega) (by omega))).trans x, y.mono (by omega)⟩
    · unfold SnapOk
      rw [f0 0 (by decide) (by decide), k0 6 (by decide), f4 5 (by decide), f1 78 (by decide) (by decide) (by omega) (by decide)]
      rcases hS with hS | ⟨x, y, n3, z, w⟩
      · exact Or.inl hS
      · exact Or.inr ⟨x, y, n3, (aS_of (fun q c d => f1 q (by omega) (by omega) (by omega) (by omega))).trans z, w.mono (by omega)⟩
    · obtain ⟨L, a, b, c, d⟩ := hP
      refine ⟨L, a, ?_, ?_, fun j hj => ?_⟩
      · rw [f1 68 (by decide) (by decide) (by omega) (by decide)]
        exact b
      · rw [f4 7 (by decide)]
        exact c
      · rw [f1 69 (by decide) (by decide) (by omega) (by decide), f1 79 (by decide) (by decide) (by omega) (by decide)]
        exact d j hj
    · unfold StopOk
      rw [f0 0 (by decide) (by decide), k0 7 (by decide), k0 8 (by decide), k0 9 (by decide), f4 15 (by decide), f1 82 (by decide) (by decide) (by omega) (by decide)]
      exact hT
theorem p_save (hR9 : Rel K h m) : Pr G l yX3_save mX3_save yX4_save mX4_save [] K h m := by
  obtain ⟨hh, ⟨n, hc, hI⟩, ⟨s, hs, hst, hst4, hH⟩, hS, hP, hT⟩ := id hR9
  have k1 : ∀ q, ¬ (10 ≤ q ∧ q < 19) → q ≠ 0 → up2 (cpM m 10 1) 0 6 (nI 1) q = m q := fun q a b => by rw [up2_na _ _ _ b, cp_o _ (by omega)]
  have k0 : ∀ k, k ≠ 6 → up2 (cpM m 10 1) 0 6 (nI 1) 0 k = m 0 k := fun k a => by rw [up2_ne _ _ (fun z => a z.2), cp_o _ (by omega)]
  refine Pr.mk9 zX3_save (fun r w hq => ⟨_, h, _, hq.1, hq.2, _, zX4_save (m := up2 (cpM m 10 1) 0 6 (nI 1)), fun r2 w2 hq2 => ⟨?_, _, hq2.2, ?_⟩⟩)
  · rw [hq2.1, k1 75 (by omega) (by decide)]
    exact congrArg (fun z => some (Value.int z)) (hc.1 8 (by decide) (by decide)).symm
  have f0 : ∀ q, q ≠ 78 → q ≠ 74 → up2 (cpR (up2 (cpM m 10 1) 0 6 (nI 1)) 75 0 78 0 95) 74 5 (nI 1) q = up2 (cpM m 10 1) 0 6 (nI 1) q := fun q a b => by rw [up2_na _ _ _ b, cpR_na _ a]
  have f1 : ∀ q, q ≠ 78 → q ≠ 74 → ¬ (10 ≤ q ∧ q < 19) → q ≠ 0 → up2 (cpR (up2 (cpM m 10 1) 0 6 (nI 1)) 75 0 78 0 95) 74 5 (nI 1) q = m q := fun q a b c d => by rw [f0 q a b, k1 q c d]
  have f4 : ∀ k, k ≠ 5 → up2 (cpR (up2 (cpM m 10 1) 0 6 (nI 1)) 75 0 78 0 95) 74 5 (nI 1) 74 k = m 74 k := fun k a => by rw [up2_ne _ _ (fun z => a z.2), cpR_na _ (by decide), k1 74 (by omega) (by decide)]
  have er : ∀ k, k < 95 → m 75 k = up2 (cpR (up2 (cpM m 10 1) 0 6 (nI 1)) 75 0 78 0 95) 74 5 (nI 1) 78 k := fun k hk => by
    rw [up2_na _ _ _ (by decide), cpR_row _ _ _ _ _ hk, k1 75 (by omega) (by decide), Nat.zero_add]
  have f75 := f1 75 (by decide) (by decide) (by omega) (by decide)
  refine ⟨hh, ⟨n, ?_, ?_⟩, ⟨s, hs, ?_, ?_, fun k hk => ?_⟩, Or.inr ⟨?_, ?_, n, ?_, (hI.row er).mono (by omega)⟩, ?_, ?_⟩
  · rw [f75]
    exact hc.sub (fun q x y => f1 q (by omega) (by omega) (by omega) (by omega))
  · rw [f75]
    exact hI.mono (by omega)
  · rw [f0 0 (by decide) (by decide), k0 5 (by decide)]
    exact hst
  · rw [f4 3 (by decide)]
    exact hst4
  · obtain ⟨n3, x, y⟩ := hH k hk
    have e : hR (up2 (cpR (up2 (cpM m 10 1) 0 6 (nI 1)) 75 0 78 0 95) 74 5 (nI 1)) k = hR m k := by
      unfold hR
      rw [f1 77 (by decide) (by decide) (by omega) (by decide)]
    have i := IsSt.hi (hh.1 k (by omega))
    rw [e]
    exact ⟨n3, (aS_of (fun q c d => f1 q (by omega) (by omega) (by omega) (by omega))).trans x, y.mono (by omega)⟩
  · rw [f0 0 (by decide) (by decide), up2_eq]
  · rw [up2_eq]
  · have a : EqS n (aS (up2 (cpR (up2 (cpM m 10 1) 0 6 (nI 1)) 75 0 78 0 95) 74 5 (nI 1)) 10) (aS (cpM m 10 1) 10) := aS_of (fun q x y => by rw [f0 q (by omega) (by omega), up2_na _ _ _ (by omega)])
    exact (((a.trans (cp_to hI.n14 m 10 1)).trans aS_1).trans hc).trans ((row_eq er).le hI.n14)
  · obtain ⟨L, a, b, c, d⟩ := hP
    refine ⟨L, a, ?_, ?_, fun j hj => ?_⟩
    · rw [f1 68 (by decide) (by decide) (by omega) (by decide)]
      exact b
    · rw [f4 7 (by decide)]
      exact c
    · rw [f1 69 (by decide) (by decide) (by omega) (by decide), f1 79 (by decide) (by decide) (by omega) (by decide)]
      exact d j hj
  · unfold StopOk
    rw [f0 0 (by decide) (by decide), k0 7 (by decide), k0 8 (by decide), k0 9 (by decide), f4 15 (by decide), f1 82 (by decide) (by decide) (by omega) (by decide)]
    exact hT
theorem p_restore (hR9 : Rel K h m) : Pr G l yX3_restore mX3_restore yX4_restore mX4_restore [] K h m := by
  obtain ⟨hh, ⟨n, hc, hI⟩, ⟨s, hs, hst, hst4, hH⟩, hS, hP, hT⟩ := id hR9
  rcases hS with ⟨a, b⟩ | ⟨a, b, n2, hE, hI2⟩
  · exact Pr.same hR9 (eX3_restore a) (eX4_restore b) rfl
  · have hC : FC (mRem h m s) (cpM (mRem h m s) 1 10) := fun q x _ => cp_o _ (by omega)
    have e78 : cpM (mRem h m s) 1 10 78 = m 78 := hC.hi hh (by decide)
    have e10 : EqS n2 (aS (mRem h m s) 10) (aS m 10) := aS_of (fun q x y => mRem_o hh (by omega) (by omega))
    have er : ∀ k, k < 95 → m 78 k = cpR (recM (cpM (mRem h m s) 1 10) s) 78 0 75 0 95 75 k := fun k hk => by
      rw [cpR_row _ _ _ _ _ hk, recm_q _ _ (by decide) (by decide), e78, Nat.zero_add]
    refine Pr.chg hR9 hs hst (zX3_restore s hs hst hh a) hC (fun e => zX4_restore (m := cpM (mRem h m s) 1 10) s hs e (by rw [hC.hi hh (by decide)]; exact b)) ?_ (FM.q (fun q x => cpR_na _ x)) _ rfl n2 ?_ ((hI2.row er).mono (by omega))
    · rw [e78]
      exact hE.1 8 (by decide) (by decide)
    · exact ((((aS_1.sym.trans (cp_to hI2.n14 _ 1 10)).trans e10).trans hE).trans ((row_eq er).le hI2.n14))
end
