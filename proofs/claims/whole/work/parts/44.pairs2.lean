/-! method by method: pads, stops, looks -/
theorem Rel.pad {K : Nat} {h : Nat → Nat} {m m2 : zM} (g : Rel K h m) (f : ∀ q, q ≠ 68 → q ≠ 69 → q ≠ 74 → q ≠ 79 → m2 q = m q) (f4 : ∀ k, k ≠ 7 → m2 74 k = m 74 k) (p : PadOk m2) : Rel K h m2 := by
  obtain ⟨a, ⟨n, b, c⟩, ⟨s, d1, d2, d3, d4⟩, g4, -, g6⟩ := g
  have f0 : ∀ q, q < 56 → m2 q = m q := fun q x => f q (by omega) (by omega) (by omega) (by omega)
  have f75 : m2 75 = m 75 := f 75 (by decide) (by decide) (by decide) (by decide)
  have f77 : m2 77 = m 77 := f 77 (by decide) (by decide) (by decide) (by decide)
  have f78 : m2 78 = m 78 := f 78 (by decide) (by decide) (by decide) (by decide)
  have f82 : m2 82 = m 82 := f 82 (by decide) (by decide) (by decide) (by decide)
  refine ⟨a, ⟨n, ?_, ?_⟩, ⟨s, d1, ?_, ?_, fun k hk => ?_⟩, ?_, p, ?_⟩
  · rw [f75]
    exact b.sub (fun q x y => f0 q (by omega))
  · rw [f75]
    exact c
  · rw [f0 0 (by decide)]
    exact d2
  · rw [f4 3 (by omega)]
    exact d3
  · obtain ⟨n2, x, y⟩ := d4 k hk
    have e : hR m2 k = hR m k := by
      unfold hR
      rw [f77]
    have i := IsSt.hi (a.1 k (by omega))
    rw [e]
    exact ⟨n2, (aS_of (fun q c d => f0 q (by omega))).trans x, y⟩
  · unfold SnapOk
    rw [f0 0 (by decide), f4 5 (by omega), f78]
    rcases g4 with g4 | ⟨x, y, n2, z, w⟩
    · exact Or.inl g4
    · exact Or.inr ⟨x, y, n2, (aS_of (fun q c d => f0 q (by omega))).trans z, w⟩
  · unfold StopOk
    rw [f0 0 (by decide), f4 15 (by omega), f82]
    exact g6
section
variable {G : zG} {l : Launch} {yX yM : MethodName} {mX mM : zD} {as : List Value} {K : Nat} {h : Nat → Nat} {m : zM}
theorem Pr.look {Q : Option Value → zW → Prop} (hR9 : Rel K h m) (hX : zMet G l yX mX (.ref (G.1 + 0) :: as) (zw h m) Q 0 0) (hQ : ∀ r w, Q r w → ∃ (v : Int32) (m1 : zM), r = some (.int v) ∧ w = zw h m1 ∧ FL m m1 ∧ ∃ Q2, zMet G l yM mM (.ref (G.1 + 74) :: as) (zw h m1) Q2 0 0 ∧ ∀ r2 w2, Q2 r2 w2 → r2 = some (.int v) ∧ ∃ m2, w2 = zw h m2 ∧ FL m1 m2) : Pr G l yX mX yM mM as K h m := by
  refine Pr.mk9 hX (fun r w hq => ?_)
  obtain ⟨v, m1, e1, e2, f, Q2, hM, h2⟩ := hQ r w hq
  refine ⟨v, h, m1, e1, e2, Q2, hM, fun r2 w2 hq2 => ?_⟩
  obtain ⟨e3, m2, e4, f2⟩ := h2 r2 w2 hq2
  exact ⟨e3, m2, e4, (hR9.fl (f.trans f2)).mono (by omega)⟩
end
section
variable {G : zG} {l : Launch} {K : Nat} {h : Nat → Nat} {m : zM}
theorem ap_in {L : Nat} {x : Int32} (hL : L ≤ 60) (c : ¬ x < nI 33 ∧ ¬ nI 126 < x) : 0 ≤ x.toInt ∧ x.toInt ≤ 126 := by
  have a := c.1
  have b := c.2
  rw [i32_lt] at a b
  have e : (nI 33).toInt = 33 := rfl
  have f : (nI 126).toInt = 126 := rfl
  omega
theorem p_append (hR9 : Rel K h m) (x : Int32) : Pr G l yX3_append mX3_append yX4_append mX4_append [.int x] K h m := by
  obtain ⟨L, hL, h1, h2, h3⟩ := hR9.2.2.2.2.1
  have k1 : ∀ q, q ≠ 68 → q ≠ 69 → apM m L x q = m q := fun q a b => by
    unfold apM
    split
    · split
      · rw [up2_na _ _ _ a, up2_na _ _ _ b]
      · rfl
    · rfl
  refine Pr.mk9 (zX3_append L hL h1 x) (fun r w hq => ⟨_, h, _, hq.1, hq.2, _, zX4_append (m := apM m L x) L hL (by rw [k1 74 (by decide) (by decide)]; exact h2) x, fun r2 w2 hq2 => ⟨hq2.1, _, hq2.2, ?_⟩⟩)
  refine (hR9.mono (K' := K + 1) (by omega)).pad (fun q a b c d => ?_) (fun k a => ?_) ?_
  · unfold mapM
    split
    · split
      · rw [up2_na _ _ _ c, up2_na _ _ _ d]
        exact k1 q a b
      · exact k1 q a b
    · exact k1 q a b
  · unfold mapM
    split
    · split
      · rw [up2_ne _ _ (fun z => a z.2), up2_na _ _ _ (by decide), k1 74 (by decide) (by decide)]
      · rw [k1 74 (by decide) (by decide)]
    · rw [k1 74 (by decide) (by decide)]
  · unfold mapM apM
    by_cases c : ¬ x < nI 33 ∧ ¬ nI 126 < x
    · rw [if_pos c, if_pos c]
      by_cases c2 : nI L < nI 60
      · rw [if_pos c2, if_pos c2]
        have hL2 : L < 60 := (nI_ltI (by omega) (by decide)).mp c2
        refine ⟨L + 1, by omega, ?_, ?_, fun j hj => ?_⟩
        · rw [up2_na _ _ _ (by decide), up2_na _ _ _ (by decide), up2_eq]
        · rw [up2_eq]
        · have e69 : (up2 (up2 (up2 (up2 m 69 L x) 68 1 (nI (L + 1))) 79 L x) 74 7 (nI (L + 1))) 69 = up2 m 69 L x 69 := (up2_na _ _ _ (by decide)).trans ((up2_na _ _ _ (by decide)).trans (up2_na _ _ _ (by decide)))
          have e79 : (up2 (up2 (up2 (up2 m 69 L x) 68 1 (nI (L + 1))) 79 L x) 74 7 (nI (L + 1))) 79 j = if j = L then x else m 79 j := by
            rw [up2_na _ _ _ (show 79 ≠ 74 by decide), up2_ak, up2_na _ _ _ (show 79 ≠ 68 by decide), up2_na _ _ _ (show 79 ≠ 69 by decide)]
          rw [e69, e79, up2_ak]
          by_cases g : j = L
          · rw [if_pos g, if_pos g]
            exact ⟨rfl, ap_in hL c⟩
          · rw [if_neg g, if_neg g]
            exact h3 j (by omega)
      · rw [if_neg c2, if_neg c2]
        exact ⟨L, hL, h1, h2, h3⟩
    · rw [if_neg c, if_neg c]
      exact ⟨L, hL, h1, h2, h3⟩
theorem p_clear (hR9 : Rel K h m) : Pr G l yX3_clear mX3_clear yX4_clear mX4_clear [] K h m := by
  obtain ⟨L, hL, h1, h2, h3⟩ := hR9.2.2.2.2.1
  refine Pr.mk9 zX3_clear (fun r w hq => ⟨_, h, _, hq.1, hq.2, _, zX4_clear, fun r2 w2 hq2 => ⟨?_, _, hq2.2, ?_⟩⟩)
  · rw [hq2.1, up2_na _ _ _ (by decide), h1, h2]
  · refine (hR9.mono (K' := K + 1) (by omega)).pad (fun q a b c d => ?_) (fun k a => ?_) ⟨0, by decide, ?_, ?_, fun j hj => absurd hj (Nat.not_lt_zero j)⟩
    · rw [up2_na _ _ _ c, up2_na _ _ _ a]
    · rw [up2_ne _ _ (fun z => a z.2), up2_na _ _ _ (by decide)]
    · rw [up2_na _ _ _ (by decide), up2_eq]
    · rw [up2_eq]
theorem why_eq (hS : StopOk m) : (if m 0 7 = 0 then (-4 : Int32) else m 0 7) = (if m 74 15 = 0 then -4 else m 82 0) ∧ (if m 0 7 = 0 then (-4 : Int32) else m 0 8) = (if m 74 15 = 0 then -4 else m 82 1) ∧ (if m 0 7 = 0 then (-4 : Int32) else m 0 9) = (if m 74 15 = 0 then -4 else m 82 2) := by
  rcases hS with ⟨a, b⟩ | ⟨a, b, c, d, e⟩
  · rw [if_pos (show m 0 7 = 0 from a), if_pos (show m 0 7 = 0 from a), if_pos (show m 0 7 = 0 from a), if_pos (show m 74 15 = 0 from b), if_pos (show m 74 15 = 0 from b), if_pos (show m 74 15 = 0 from b)]
    exact ⟨rfl, rfl, rfl⟩
  · have b2 : ¬ m 74 15 = 0 := by
      rw [b]
      decide
    rw [if_neg a, if_neg a, if_neg a, if_neg b2, if_neg b2, if_neg b2, c, d, e]
    exact ⟨rfl, rfl, rfl⟩
theorem le_in {x : Int32} {k : Nat} (hk : k < 1000) (h0 : ¬ x < 0) (h1 : ¬ nI k < x) : ∃ j : Nat, j ≤ k ∧ x = nI j := by
  obtain ⟨j, hj, rfl⟩ := nI_of h0
  refine ⟨j, ?_, rfl⟩
  rcases Nat.lt_or_ge k j with g | g
  · exact absurd (nI_lt g hj) h1
  · exact g
theorem rg_in {x : Int32} {k : Nat} (hk : k < 1000) (h : ¬ (x.toInt < 0 ∨ (k : Int) < x.toInt)) : ∃ j : Nat, j ≤ k ∧ x = nI j := by
  refine le_in hk (fun z => ?_) (fun z => ?_)
  · rw [i32_lt] at z
    have e : (0 : Int32).toInt = 0 := rfl
    omega
  · rw [i32_lt, nI_toInt (by omega)] at z
    omega
theorem p_why (hR9 : Rel K h m) (x : Int32) : Pr G l yX3_why mX3_why yX4_why mX4_why [.int x] K h m := by
  have hS := why_eq hR9.2.2.2.2.2
  by_cases hq : ¬ x < 0 ∧ ¬ nI 2 < x
  · obtain ⟨j, hj, rfl⟩ := le_in (by decide) hq.1 hq.2
    have e : j = 0 ∨ j = 1 ∨ j = 2 := by omega
    rcases e with rfl | rfl | rfl
    · exact Pr.same hR9 zX3_why0 zX4_why0 hS.1
    · exact Pr.same hR9 zX3_why1 zX4_why1 hS.2.1
    · exact Pr.same hR9 zX3_why2 zX4_why2 hS.2.2
  · exact Pr.same hR9 (eX3_why x hq) (eX4_why x hq) rfl
section
variable {n : Nat}
theorem c_force (hc : EqS n m (vR (m 75))) : nI (cnt (fun j => decide (sForce m 1 j)) n) = nI (cnt (fun j => decide (sForce (vR (m 75)) 1 j)) n) := congrArg nI (cnt_congr n (fun t ht => decide_eq_decide.mpr (hc.force ht)))
theorem c_brk (hc : EqS n m (vR (m 75))) (hI : Inv K (m 75) n) : cnt (fun j => decide (sBrk m 1 j (nI 0))) n = cnt (fun j => decide (bkV (vR (m 75)) j)) n := cnt_congr n (fun t ht => decide_eq_decide.mpr ((hc.brk (hc.sym.ok hI.1.1) ht _).trans (bk_0 hI ht).symm))
theorem c_nest (hc : EqS n m (vR (m 75))) : nI (cnt (fun j => decide (sNest m 1 j)) 8) = nI (cnt (fun j => decide (sNest (vR (m 75)) 1 j)) 8) := congrArg nI (cnt_congr 8 (fun t ht => decide_eq_decide.mpr (hc.nest ht)))
theorem c_sum (hc : EqS n m (vR (m 75))) (q : Nat) (hq : 2 ≤ q ∧ q ≤ 5) : sumI (m q) 8 = sumI (vR (m 75) q) 8 := sumI_congr 8 (fun i hi => hc.2.1 q hq.1 hq.2 i hi)
theorem nIm1' {i : Nat} (hi : i < 8) : ¬ nI i = -1 := nIm1 (by omega)
theorem c_ab (hc : EqS n m (vR (m 75))) {i : Nat} (hi : i < 8) {t : Nat} (ht : t < n) : sAbout m 1 t (nI i) ↔ (vR (m 75) (1 + 5) t = nI i ∨ vR (m 75) (1 + 6) t = nI i) := by
  rw [hc.about ht]
  unfold sAbout
  constructor
  · rintro (g | g)
    · exact absurd g (nIm1' hi)
    · exact g
  · exact Or.inr
end
theorem p_count (hR9 : Rel K h m) (x : Int32) : Pr G l yX3_count mX3_count yX4_count mX4_count [.int x] K h m := by
  obtain ⟨hh, ⟨n, hc, hI⟩, ⟨s, hs, hst, hst4, -⟩, -, ⟨L, -, p1, p2, -⟩, -⟩ := id hR9
  have hk : sOk m 1 n := hc.sym.ok hI.1.1
  have hk4 := hI.1.1
  by_cases hq : x.toInt < 0 ∨ 12 < x.toInt
  · exact Pr.same hR9 (eX3_count x hq) (eX4_count x hq) rfl
  · obtain ⟨j, hj, rfl⟩ := rg_in (k := 12) (by decide) hq
    have e : j = 0 ∨ j = 1 ∨ j = 2 ∨ j = 3 ∨ j = 4 ∨ j = 5 ∨ j = 6 ∨ j = 7 ∨ j = 8 ∨ j = 9 ∨ j = 10 ∨ j = 11 ∨ j = 12 := by omega
    rcases e with rfl | rfl | rfl | rfl | rfl | rfl | rfl | rfl | rfl | rfl | rfl | rfl | rfl
    · exact Pr.same hR9 (zX3_count0 n hk) (zX4_count0 n hk4) hc.day
    · exact Pr.same hR9 (zX3_count1 n hk) (zX4_count1 n hk4) (hc.1 8 (by decide) (by decide))
    · exact Pr.same hR9 (zX3_count2 n hk) (zX4_count2 n hk4) (c_force hc)
    · exact Pr.same hR9 (zX3_count3 n hk) (zX4_count3 n hk4) (congrArg nI (c_brk hc hI))
    · exact Pr.same hR9 (zX3_count4 n hk) (zX4_count4 n hk4) (c_sum hc 2 (by decide))
    · exact Pr.same hR9 (zX3_count5 n hk) (zX4_count5 n hk4) (c_nest hc)
    · exact Pr.same hR9 (zX3_count6 n hk) (zX4_count6 n hk4) (hc.1 10 (by decide) (by decide))
    · exact Pr.same hR9 (zX3_count7 n hk) (zX4_count7 n hk4) (hc.1 11 (by decide) (by decide))
    · exact Pr.same hR9 (zX3_count8 n hk) (zX4_count8 n hk4) (hc.1 12 (by decide) (by decide))
    · exact Pr.same hR9 (zX3_count9 n hk) (zX4_count9 n hk4) (hc.1 13 (by decide) (by decide))
    · exact Pr.same hR9 (zX3_count10 n hk) (zX4_count10 n hk4) ((c_sum hc 5 (by decide)).trans hI.ss.symm)
    · exact Pr.same hR9 (zX3_count11 n hk) (zX4_count11 n hk4) (p1.trans p2.symm)
    · exact Pr.same hR9 (zX3_count12 n hk) (zX4_count12 n hk4) (hst.trans hst4.symm)
theorem p_hedge (hR9 : Rel K h m) (x y : Int32) : Pr G l yX3_hedge mX3_hedge yX4_hedge mX4_hedge [.int x, .int y] K h m := by
  obtain ⟨hh, ⟨n, hc, hI⟩, -⟩ := id hR9
  have hk : sOk m 1 n := hc.sym.ok hI.1.1
  have hk4 := hI.1.1
  by_cases hx : hdg x
  · obtain ⟨i, hi, rfl⟩ := vin (by decide) hx.1 hx.2
    by_cases hq : y.toInt < 0 ∨ 7 < y.toInt
    · exact Pr.same hR9 (eX3_hedgeB i hi y hq) (eX4_hedgeB i hi y hq) rfl
    · obtain ⟨j, hj, rfl⟩ := rg_in (k := 7) (by decide) hq
      have e : j = 0 ∨ j = 1 ∨ j = 2 ∨ j = 3 ∨ j = 4 ∨ j = 5 ∨ j = 6 ∨ j = 7 := by omega
      rcases e with rfl | rfl | rfl | rfl | rfl | rfl | rfl | rfl
      · exact Pr.same hR9 (zX3_hedge0 n hk i hi) (zX4_hedge0 n hk4 i hi) (hc.h2 hi)
      · exact Pr.same hR9 (zX3_hedge1 n hk i hi) (zX4_hedge1 n hk4 i hi) (hc.h3 hi)
      · exact Pr.same hR9 (zX3_hedge2 n hk i hi) (zX4_hedge2 n hk4 i hi) (bI_congr (hc.nest hi))
      · exact Pr.same hR9 (zX3_hedge3 n hk i hi) (zX4_hedge3 n hk4 i hi) (hc.2.1 4 (by decide) (by decide) i hi)
      · have g : gOk m n := hc.sym.g hI.1
        refine Pr.look hR9 (zX3_hedge4 n g i hi) (fun r w hq => ?_)
        obtain ⟨m1, y, rfl, hF, hT, hv⟩ := hq
        have e75 : m1 75 = m 75 := hF 75 (by decide)
        have key : ∀ v, ((∀ q, q < 8 → 0 ≤ y q) ∧ v = Int32.ofInt (y i)) ∨ ((∃ q, q < 8 ∧ y q < 0) ∧ v = -4) → r = some (.int v) → ∃ (v : Int32) (m1_1 : zM), r = some (.int v) ∧ zw h m1 = zw h m1_1 ∧ FL m m1_1 ∧ ∃ Q2, zMet G l yX4_hedge mX4_hedge [.ref (G.1 + 74), .int (nI i), .int (nI 4)] (zw h m1_1) Q2 0 0 ∧ ∀ r2 w2, Q2 r2 w2 → r2 = some (.int v) ∧ ∃ m2, w2 = zw h m2 ∧ FL m1_1 m2 := by
          intro v hv hr
          refine ⟨v, m1, hr, rfl, FL.v hF, _, zX4_hedge4 (m := m1) n (by rw [e75]; exact hI.1) i hi, fun r2 w2 hq2 => ?_⟩
          rw [e75] at hq2
          obtain ⟨m2, rfl, hF2, hv2⟩ := hq2
          refine ⟨?_, m2, rfl, FL.m hF2⟩
          have hT2 := hc.topL hT
          rcases hv2 with ⟨y2, hT3, hp, rfl⟩ | ⟨hn, rfl⟩
          · have ey := hT2.one hT3
            subst ey
            rcases hv with ⟨-, rfl⟩ | ⟨⟨q, hq, hlt⟩, -⟩
            · rfl
            · have := hp q hq
              omega
          · obtain ⟨q, hq, hlt⟩ := hn y hT2
            rcases hv with ⟨hp, -⟩ | ⟨-, rfl⟩
            · have := hp q hq
              omega
            · rfl
        rcases hv with ⟨a, b⟩ | ⟨a, b⟩
        · exact key _ (Or.inl ⟨a, rfl⟩) b
        · exact key _ (Or.inr ⟨a, rfl⟩) b
      · exact Pr.same hR9 (zX3_hedge5 n hk i hi) (zX4_hedge5 n hk4 i hi) (congrArg nI (cnt_congr n (fun t ht => decide_eq_decide.mpr (and_congr (c_ab hc hi ht) ((hc.brk hk ht _).trans (bk_0 hI ht).symm)))))
      · exact Pr.same hR9 (zX3_hedge6 n hk i hi) (zX4_hedge6 n hk4 i hi) (congrArg nI (cnt_congr n (fun t ht => decide_eq_decide.mpr (and_congr (c_ab hc hi ht) (hc.force ht)))))
      · exact Pr.same hR9 (zX3_hedge7 n hk i hi) (zX4_hedge7 n hk4 i hi) (hc.2.1 5 (by decide) (by decide) i hi)
  · exact Pr.same hR9 (eX3_hedgeA x y hx) (eX4_hedgeA x y hx) rfl
theorem sl_0 {n : Nat} {r : Nat → Int32} (hI : Inv K r n) {t : Nat} (ht : t < n) : slackA (vR r) 1 t (nI 0) = slk (vR r) t := by
  have a := hI.1.1.2.2 t ht
  unfold slk slackA
  rw [← dyK_h hI (k := 0) a.1.2 (by decide), ← dyK_h hI (k := 0) a.2.2 (by decide), Int32.add_comm (vR r 8 t)]
  rfl
theorem p_treaty (hR9 : Rel K h m) (x y : Int32) : Pr G l yX3_treaty mX3_treaty yX4_treaty mX4_treaty [.int x, .int y] K h m := by
  obtain ⟨hh, ⟨n, hc, hI⟩, -⟩ := id hR9
  have hn := hI.n14
  have hk : sOk m 1 n := hc.sym.ok hI.1.1
  have hk4 := hI.1.1
  by_cases hx : ¬ x < 0 ∧ x < nI n
  · obtain ⟨t, ht, rfl⟩ := vin (by omega) hx.1 hx.2
    by_cases hq : y.toInt < 0 ∨ 7 < y.toInt
    · exact Pr.same hR9 (eX3_treatyB n hn hk.1 t ht y hq) (eX4_treatyB n hn hk4.1 t ht y hq) rfl
    · obtain ⟨j, hj, rfl⟩ := rg_in (k := 7) (by decide) hq
      have e : j = 0 ∨ j = 1 ∨ j = 2 ∨ j = 3 ∨ j = 4 ∨ j = 5 ∨ j = 6 ∨ j = 7 := by omega
      rcases e with rfl | rfl | rfl | rfl | rfl | rfl | rfl | rfl
      · exact Pr.same hR9 (zX3_treaty0 n hk t ht) (zX4_treaty0 n hk4 t ht) (hc.e5 ht)
      · exact Pr.same hR9 (zX3_treaty1 n hk t ht) (zX4_treaty1 n hk4 t ht) (hc.e6 ht)
      · exact Pr.same hR9 (zX3_treaty2 n hk t ht) (zX4_treaty2 n hk4 t ht) (congrArg (· + nI 100) (hc.e7 ht))
      · exact Pr.same hR9 (zX3_treaty3 n hk t ht) (zX4_treaty3 n hk4 t ht) (bI_congr (hc.force ht))
      · exact Pr.same hR9 (zX3_treaty4 n hk t ht) (zX4_treaty4 n hk4 t ht) (bI_congr ((hc.brk hk ht _).trans (bk_0 hI ht).symm))
      · refine Pr.same hR9 (zX3_treaty5 n hk t ht) (zX4_treaty5 n hk4 t ht) ?_
        rw [hc.slack hk ht, sl_0 hI ht, Int32.add_comm]
      · exact Pr.same hR9 (zX3_treaty6 n hk t ht) (zX4_treaty6 n hk4 t ht) (hc.e8 ht)
      · have g : gOk m n := hc.sym.g hI.1
        refine Pr.look hR9 (zX3_treaty7 n g t ht) (fun r w hq => ?_)
        obtain ⟨m1, y, rfl, hF, hT, hY, rfl⟩ := hq
        have e75 : m1 75 = m 75 := hF 75 (by decide)
        refine ⟨_, m1, rfl, rfl, FL.v hF, _, zX4_treaty7 (m := m1) n (by rw [e75]; exact hI.1) t ht, fun r2 w2 hq2 => ?_⟩
        rw [e75] at hq2
        obtain ⟨m2, y2, rfl, hF2, hT2, hY2, rfl⟩ := hq2
        refine ⟨?_, m2, rfl, FL.m hF2⟩
        have hT3 := Top.congr (fun t2 h2 => (hc.eBx (nI t) h2).symm) hT
        rw [hc.F ht] at hT3
        have ey := hT3.one hT2
        subst ey
        rw [hc.O ht, hc.e7 ht]
  · exact Pr.same hR9 (eX3_treatyA n hk.1 x y hx) (eX4_treatyA n hk4.1 hn x y hx) rfl
end