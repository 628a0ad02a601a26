/-! what the looks say, in words of a memory m that the present one, mm, is but for the surveyor's cells; the least clipping and the bounds as functions -/
abbrev cF (m : zM) (n : Nat) : Nat := cnt (fun j => decide (sForce m 1 j)) n
abbrev cB (m : zM) (n : Nat) : Nat := cnt (fun j => decide (sBrk m 1 j (nI 0))) n
abbrev cN (m : zM) : Nat := cnt (fun j => decide (sNest m 1 j)) 8
abbrev cBa (m : zM) (n i : Nat) : Nat := cnt (fun j => decide (sAbout m 1 j (nI i) ∧ sBrk m 1 j (nI 0))) n
abbrev cFa (m : zM) (n i : Nat) : Nat := cnt (fun j => decide (sAbout m 1 j (nI i) ∧ sForce m 1 j)) n
noncomputable def tpL (m : zM) (n : Nat) : Nat → Int := Classical.epsilon (fun y => Top (HgtY (m 2)) (eL m (pFo m)) n y)
noncomputable def tpB (m : zM) (n f : Nat) : Nat → Int := Classical.epsilon (fun y => Top (Yb f) (eB m (pFo m)) n y)
abbrev Feas (m : zM) (n : Nat) : Prop := ∀ q, q < 8 → 0 ≤ tpL m n q
noncomputable def hd4 (m : zM) (n i : Nat) : Int32 := if Feas m n then Int32.ofInt (tpL m n i) else -4
noncomputable def clp (m : zM) (n : Nat) : Int32 := if Feas m n then sumI (m 2) 8 - sumI (fun q => Int32.ofInt (tpL m n q)) 8 else -4
noncomputable def bnd (m : zM) (n f o : Nat) : Int32 := if tpB m n f o = zK9 then -4 else Int32.ofInt (tpB m n f o + 1000)
theorem tpL_of {m : zM} {n : Nat} {y : Nat → Int} (h : Top (HgtY (m 2)) (eL m (pFo m)) n y) : tpL m n = y := (Classical.epsilon_spec (p := fun y => Top (HgtY (m 2)) (eL m (pFo m)) n y) ⟨y, h⟩).one h
theorem tpB_of {m : zM} {n f : Nat} {y : Nat → Int} (h : Top (Yb f) (eB m (pFo m)) n y) : tpB m n f = y := (Classical.epsilon_spec (p := fun y => Top (Yb f) (eB m (pFo m)) n y) ⟨y, h⟩).one h
theorem tpL_top {m : zM} {n : Nat} (g : gOk m n) : Top (HgtY (m 2)) (eL m (pFo m)) n (tpL m n) := by
  obtain ⟨f, hp⟩ := g.potL (pFo m)
  have h := sk_top (y0 := HgtY (m 2)) (sk_7 hp)
  rw [tpL_of h]
  exact h
theorem tpB_top {m : zM} {n : Nat} (g : gOk m n) (f : Nat) : Top (Yb f) (eB m (pFo m)) n (tpB m n f) := by
  obtain ⟨y, h, -⟩ := topB (f := f) g
  rw [tpB_of h]
  exact h
abbrev VP (h : Nat → Nat) (m : zM) (v : Int32) : Option Value → zW → Prop := fun r w => r = some (.int v) ∧ ∃ m', w = zw h m' ∧ Fsv m m'
theorem Fsv.eqs {m mm : zM} {n : Nat} (hF : Fsv m mm) : EqS n mm m := EqS.of (fun q a b => hF q (by omega))
section
variable {G : zG} {l : Launch} {h : Nat → Nat} {m mm : zM} {n : Nat}
theorem vw {y : MethodName} {M : zD} {as : List Value} {v v' : Int32} (hF : Fsv m mm) (hM : zMet G l y M as (zw h mm) (fun r w => r = some (.int v') ∧ w = zw h mm) 0 0) (e : v' = v) : zMet G l y M as (zw h mm) (VP h m v) 0 0 :=
  zMet_post hM (fun r w hp => ⟨by rw [hp.1, e], mm, hp.2, hF⟩)
theorem v_count0 (hF : Fsv m mm) (hk : sOk m 1 n) : zMet G l yX3_count mX3_count [.ref (G.1 + 0), .int (nI 0)] (zw h mm) (VP h m (m 1 9)) 0 0 := vw hF (zX3_count0 n (hF.sOk hk)) (by rw [hF 1 (by decide)])
theorem v_count1 (hF : Fsv m mm) (hk : sOk m 1 n) : zMet G l yX3_count mX3_count [.ref (G.1 + 0), .int (nI 1)] (zw h mm) (VP h m (nI n)) 0 0 := vw hF (zX3_count1 n (hF.sOk hk)) (by rw [hF 1 (by decide)]; exact hk.1)
theorem v_count2 (hF : Fsv m mm) (hk : sOk m 1 n) : zMet G l yX3_count mX3_count [.ref (G.1 + 0), .int (nI 2)] (zw h mm) (VP h m (nI (cF m n))) 0 0 := vw hF (zX3_count2 n (hF.sOk hk)) (congrArg nI (cnt_congr n (fun j hj => decide_eq_decide.mpr (hF.eqs.force hj))))
theorem v_count3 (hF : Fsv m mm) (hk : sOk m 1 n) : zMet G l yX3_count mX3_count [.ref (G.1 + 0), .int (nI 3)] (zw h mm) (VP h m (nI (cB m n))) 0 0 := vw hF (zX3_count3 n (hF.sOk hk)) (congrArg nI (cnt_congr n (fun j hj => decide_eq_decide.mpr (hF.eqs.brk (hF.sOk hk) hj (nI 0)))))
theorem v_count4 (hF : Fsv m mm) (hk : sOk m 1 n) : zMet G l yX3_count mX3_count [.ref (G.1 + 0), .int (nI 4)] (zw h mm) (VP h m (sumI (m 2) 8)) 0 0 := vw hF (zX3_count4 n (hF.sOk hk)) (by rw [hF 2 (by decide)])
theorem v_count5 (hF : Fsv m mm) (hk : sOk m 1 n) : zMet G l yX3_count mX3_count [.ref (G.1 + 0), .int (nI 5)] (zw h mm) (VP h m (nI (cN m))) 0 0 := vw hF (zX3_count5 n (hF.sOk hk)) (congrArg nI (cnt_congr 8 (fun j hj => decide_eq_decide.mpr ((hF.eqs (n := 0)).nest hj))))
theorem v_count6 (hF : Fsv m mm) (hk : sOk m 1 n) : zMet G l yX3_count mX3_count [.ref (G.1 + 0), .int (nI 6)] (zw h mm) (VP h m (m 1 10)) 0 0 := vw hF (zX3_count6 n (hF.sOk hk)) (by rw [hF 1 (by decide)])
theorem v_count7 (hF : Fsv m mm) (hk : sOk m 1 n) : zMet G l yX3_count mX3_count [.ref (G.1 + 0), .int (nI 7)] (zw h mm) (VP h m (m 1 11)) 0 0 := vw hF (zX3_count7 n (hF.sOk hk)) (by rw [hF 1 (by decide)])
theorem v_count8 (hF : Fsv m mm) (hk : sOk m 1 n) : zMet G l yX3_count mX3_count [.ref (G.1 + 0), .int (nI 8)] (zw h mm) (VP h m (m 1 12)) 0 0 := vw hF (zX3_count8 n (hF.sOk hk)) (by rw [hF 1 (by decide)])
theorem v_count9 (hF : Fsv m mm) (hk : sOk m 1 n) : zMet G l yX3_count mX3_count [.ref (G.1 + 0), .int (nI 9)] (zw h mm) (VP h m (m 1 13)) 0 0 := vw hF (zX3_count9 n (hF.sOk hk)) (by rw [hF 1 (by decide)])
theorem v_count10 (hF : Fsv m mm) (hk : sOk m 1 n) : zMet G l yX3_count mX3_count [.ref (G.1 + 0), .int (nI 10)] (zw h mm) (VP h m (sumI (m 5) 8)) 0 0 := vw hF (zX3_count10 n (hF.sOk hk)) (by rw [hF 5 (by decide)])
theorem v_count11 (hF : Fsv m mm) (hk : sOk m 1 n) : zMet G l yX3_count mX3_count [.ref (G.1 + 0), .int (nI 11)] (zw h mm) (VP h m (m 68 1)) 0 0 := vw hF (zX3_count11 n (hF.sOk hk)) (by rw [hF 68 (by decide)])
theorem v_count12 (hF : Fsv m mm) (hk : sOk m 1 n) : zMet G l yX3_count mX3_count [.ref (G.1 + 0), .int (nI 12)] (zw h mm) (VP h m (m 0 5)) 0 0 := vw hF (zX3_count12 n (hF.sOk hk)) (by rw [hF 0 (by decide)])
theorem v_hedge0 (hF : Fsv m mm) (hk : sOk m 1 n) {i : Nat} (hi : i < 8) : zMet G l yX3_hedge mX3_hedge [.ref (G.1 + 0), .int (nI i), .int (nI 0)] (zw h mm) (VP h m (m 2 i)) 0 0 := vw hF (zX3_hedge0 n (hF.sOk hk) i hi) (by rw [hF 2 (by decide)])
theorem v_hedge1 (hF : Fsv m mm) (hk : sOk m 1 n) {i : Nat} (hi : i < 8) : zMet G l yX3_hedge mX3_hedge [.ref (G.1 + 0), .int (nI i), .int (nI 1)] (zw h mm) (VP h m (m 3 i)) 0 0 := vw hF (zX3_hedge1 n (hF.sOk hk) i hi) (by rw [hF 3 (by decide)])
theorem v_hedge2 (hF : Fsv m mm) (hk : sOk m 1 n) {i : Nat} (hi : i < 8) : zMet G l yX3_hedge mX3_hedge [.ref (G.1 + 0), .int (nI i), .int (nI 2)] (zw h mm) (VP h m (bI (sNest m 1 i))) 0 0 := vw hF (zX3_hedge2 n (hF.sOk hk) i hi) (by unfold bI; simp only [(hF.eqs (n := 0)).nest hi])
theorem v_hedge3 (hF : Fsv m mm) (hk : sOk m 1 n) {i : Nat} (hi : i < 8) : zMet G l yX3_hedge mX3_hedge [.ref (G.1 + 0), .int (nI i), .int (nI 3)] (zw h mm) (VP h m (m 4 i)) 0 0 := vw hF (zX3_hedge3 n (hF.sOk hk) i hi) (by rw [hF 4 (by decide)])
theorem v_hedge5 (hF : Fsv m mm) (hk : sOk m 1 n) {i : Nat} (hi : i < 8) : zMet G l yX3_hedge mX3_hedge [.ref (G.1 + 0), .int (nI i), .int (nI 5)] (zw h mm) (VP h m (nI (cBa m n i))) 0 0 := vw hF (zX3_hedge5 n (hF.sOk hk) i hi) (congrArg nI (cnt_congr n (fun j hj => decide_eq_decide.mpr (and_congr (hF.eqs.about hj _) (hF.eqs.brk (hF.sOk hk) hj (nI 0))))))
theorem v_hedge6 (hF : Fsv m mm) (hk : sOk m 1 n) {i : Nat} (hi : i < 8) : zMet G l yX3_hedge mX3_hedge [.ref (G.1 + 0), .int (nI i), .int (nI 6)] (zw h mm) (VP h m (nI (cFa m n i))) 0 0 := vw hF (zX3_hedge6 n (hF.sOk hk) i hi) (congrArg nI (cnt_congr n (fun j hj => decide_eq_decide.mpr (and_congr (hF.eqs.about hj _) (hF.eqs.force hj)))))
theorem v_hedge7 (hF : Fsv m mm) (hk : sOk m 1 n) {i : Nat} (hi : i < 8) : zMet G l yX3_hedge mX3_hedge [.ref (G.1 + 0), .int (nI i), .int (nI 7)] (zw h mm) (VP h m (m 5 i)) 0 0 := vw hF (zX3_hedge7 n (hF.sOk hk) i hi) (by rw [hF 5 (by decide)])
theorem v_treaty0 (hF : Fsv m mm) (hk : sOk m 1 n) {t : Nat} (ht : t < n) : zMet G l yX3_treaty mX3_treaty [.ref (G.1 + 0), .int (nI t), .int (nI 0)] (zw h mm) (VP h m (nI (sF m 1 t))) 0 0 := vw hF (zX3_treaty0 n (hF.sOk hk) t ht) (by rw [hF 6 (by decide)]; exact (hk.2.2 t ht).1.1)
theorem v_treaty1 (hF : Fsv m mm) (hk : sOk m 1 n) {t : Nat} (ht : t < n) : zMet G l yX3_treaty mX3_treaty [.ref (G.1 + 0), .int (nI t), .int (nI 1)] (zw h mm) (VP h m (nI (sO m 1 t))) 0 0 := vw hF (zX3_treaty1 n (hF.sOk hk) t ht) (by rw [hF 7 (by decide)]; exact (hk.2.2 t ht).2.1)
theorem v_treaty2 (hF : Fsv m mm) (hk : sOk m 1 n) {t : Nat} (ht : t < n) : zMet G l yX3_treaty mX3_treaty [.ref (G.1 + 0), .int (nI t), .int (nI 2)] (zw h mm) (VP h m (m 8 t + nI 100)) 0 0 := vw hF (zX3_treaty2 n (hF.sOk hk) t ht) (by rw [hF 8 (by decide)])
theorem v_treaty3 (hF : Fsv m mm) (hk : sOk m 1 n) {t : Nat} (ht : t < n) : zMet G l yX3_treaty mX3_treaty [.ref (G.1 + 0), .int (nI t), .int (nI 3)] (zw h mm) (VP h m (bI (sForce m 1 t))) 0 0 := vw hF (zX3_treaty3 n (hF.sOk hk) t ht) (by unfold bI; simp only [hF.eqs.force ht])
theorem v_treaty4 (hF : Fsv m mm) (hk : sOk m 1 n) {t : Nat} (ht : t < n) : zMet G l yX3_treaty mX3_treaty [.ref (G.1 + 0), .int (nI t), .int (nI 4)] (zw h mm) (VP h m (bI (sBrk m 1 t (nI 0)))) 0 0 := vw hF (zX3_treaty4 n (hF.sOk hk) t ht) (by unfold bI; simp only [hF.eqs.brk (hF.sOk hk) ht])
theorem v_treaty5 (hF : Fsv m mm) (hk : sOk m 1 n) {t : Nat} (ht : t < n) : zMet G l yX3_treaty mX3_treaty [.ref (G.1 + 0), .int (nI t), .int (nI 5)] (zw h mm) (VP h m (slackA m 1 t (nI 0) + nI 1000)) 0 0 := vw hF (zX3_treaty5 n (hF.sOk hk) t ht) (by rw [hF.eqs.slack (hF.sOk hk) ht])
theorem v_treaty6 (hF : Fsv m mm) (hk : sOk m 1 n) {t : Nat} (ht : t < n) : zMet G l yX3_treaty mX3_treaty [.ref (G.1 + 0), .int (nI t), .int (nI 6)] (zw h mm) (VP h m (m 9 t)) 0 0 := vw hF (zX3_treaty6 n (hF.sOk hk) t ht) (by rw [hF 9 (by decide)])
theorem v_hedgeE (hF : Fsv m mm) (x y : Int32) (hx : ¬ hdg x) : zMet G l yX3_hedge mX3_hedge [.ref (G.1 + 0), .int x, .int y] (zw h mm) (VP h m (-1)) 0 0 := vw hF (eX3_hedgeA x y hx) rfl
theorem v_treatyE (hF : Fsv m mm) (hk : sOk m 1 n) (y : Int32) : zMet G l yX3_treaty mX3_treaty [.ref (G.1 + 0), .int (nI n), .int y] (zw h mm) (VP h m (-1)) 0 0 := vw hF (eX3_treatyA n (hF.sOk hk).1 (nI n) y (fun z => Int32.lt_irrefl z.2)) rfl
theorem v_hedge4 (hF : Fsv m mm) (g : gOk m n) {i : Nat} (hi : i < 8) : zMet G l yX3_hedge mX3_hedge [.ref (G.1 + 0), .int (nI i), .int (nI 4)] (zw h mm) (VP h m (hd4 m n i)) 0 0 :=
  zMet_post (zX3_hedge4 n (hF.gOk g) i hi) (fun r w hp => by
    obtain ⟨m', y, e, hF2, hT, hc⟩ := hp
    have ey := tpL_of (hF.eqs.topL hT)
    refine ⟨?_, m', e, hF.trans hF2⟩
    unfold hd4 Feas
    rw [ey]
    rcases hc with ⟨a, b⟩ | ⟨⟨q, a1, a2⟩, b⟩
    · rw [if_pos a, b]
    · rw [if_neg (fun z => by have := z q a1; omega), b])
theorem v_clip {y9 : Int32} (hF : Fsv m mm) (hM : zMet G l yX3_clipping mX3_clipping [.ref (G.1 + 0), .int y9] (zw h mm) (fun r w => ∃ m' y, w = zw h m' ∧ Fsv mm m' ∧ Top (HgtY (mm 2)) (eL mm (pFo mm)) n y ∧ (((∀ q, q < 8 → 0 ≤ y q) ∧ r = some (.int (sumI (mm 2) 8 - sumI (fun q => Int32.ofInt (y q)) 8))) ∨ ((∃ q, q < 8 ∧ y q < 0) ∧ r = some (.int (-4))))) 0 0) : zMet G l yX3_clipping mX3_clipping [.ref (G.1 + 0), .int y9] (zw h mm) (VP h m (clp m n)) 0 0 :=
  zMet_post hM (fun r w hp => by
    obtain ⟨m', y, e, hF2, hT, hc⟩ := hp
    have ey := tpL_of (hF.eqs.topL hT)
    refine ⟨?_, m', e, hF.trans hF2⟩
    unfold clp Feas
    rw [ey]
    rcases hc with ⟨a, b⟩ | ⟨⟨q, a1, a2⟩, b⟩
    · rw [if_pos a, b, hF 2 (by decide)]
    · rw [if_neg (fun z => by have := z q a1; omega), b])
theorem v_clipping0 (hF : Fsv m mm) (g : gOk m n) : zMet G l yX3_clipping mX3_clipping [.ref (G.1 + 0), .int (nI 0)] (zw h mm) (VP h m (clp m n)) 0 0 := v_clip hF (zX3_clipping0 n (hF.gOk g))
theorem v_clipping1 (hF : Fsv m mm) (g : gOk m n) : zMet G l yX3_clipping mX3_clipping [.ref (G.1 + 0), .int (nI 1)] (zw h mm) (VP h m (clp m n)) 0 0 := v_clip hF (zX3_clipping1 n (hF.gOk g))
theorem v_bd {f o : Nat} {y9 : Int32} (hF : Fsv m mm) (hM : zMet G l yX3_bound mX3_bound [.ref (G.1 + 0), .int (nI f), .int (nI o), .int y9] (zw h mm) (fun r w => ∃ m' y v, w = zw h m' ∧ Fsv mm m' ∧ Top (Yb f) (eB mm (pFo mm)) n y ∧ (∀ q, q < 8 → y q = zK9 ∨ (-8000 ≤ y q ∧ y q ≤ 8000)) ∧ r = some (.int v) ∧ ((y o = zK9 ∧ v = -4) ∨ (¬ y o = zK9 ∧ v.toInt = y o + 1000))) 0 0) : zMet G l yX3_bound mX3_bound [.ref (G.1 + 0), .int (nI f), .int (nI o), .int y9] (zw h mm) (VP h m (bnd m n f o)) 0 0 :=
  zMet_post hM (fun r w hp => by
    obtain ⟨m', y, v, e, hF2, hT, -, er, hc⟩ := hp
    have ey := tpB_of (hF.eqs.topB hT)
    refine ⟨?_, m', e, hF.trans hF2⟩
    unfold bnd
    rw [ey, er]
    rcases hc with ⟨a, b⟩ | ⟨a, b⟩
    · rw [if_pos a, b]
    · rw [if_neg a, ← b, Int32.ofInt_toInt])
theorem v_bound0 (hF : Fsv m mm) (g : gOk m n) {f o : Nat} (hf : f < 8) (ho : o < 8) : zMet G l yX3_bound mX3_bound [.ref (G.1 + 0), .int (nI f), .int (nI o), .int (nI 0)] (zw h mm) (VP h m (bnd m n f o)) 0 0 := v_bd hF (zX3_bound0 n (hF.gOk g) f o hf ho)
theorem v_bound1 (hF : Fsv m mm) (g : gOk m n) {f o : Nat} (hf : f < 8) (ho : o < 8) : zMet G l yX3_bound mX3_bound [.ref (G.1 + 0), .int (nI f), .int (nI o), .int (nI 1)] (zw h mm) (VP h m (bnd m n f o)) 0 0 := v_bd hF (zX3_bound1 n (hF.gOk g) f o hf ho)
theorem v_peace (hF : Fsv m mm) (hk : sOk m 1 n) : zMet G l yX3_peace mX3_peace [.ref (G.1 + 0)] (zw h mm) (fun r w => r = some (.double (pcV (cF m n) (cB m n))) ∧ ∃ m', w = zw h m' ∧ Fsv m m') 0 0 :=
  zMet_post (zX3_peace n (hF.sOk hk)) (fun r w hp => ⟨by rw [hp.1, cnt_congr n (fun j hj => decide_eq_decide.mpr (hF.eqs.force hj)), cnt_congr n (fun j hj => decide_eq_decide.mpr (hF.eqs.brk (hF.sOk hk) hj (nI 0)))], mm, hp.2, hF⟩)
end
section
variable {K n : Nat} {m : zM}
theorem tpL_le (g : gOk m n) {q : Nat} (hq : q < 8) : tpL m n q ≤ (m 2 q).toInt := by
  have := (tpL_top g).1 q
  unfold HgtY at this
  rw [if_pos hq] at this
  exact this
theorem tpL_e (g : gOk m n) {t : Nat} (ht : t < n) (hf : sForce m 1 t) : tpL m n (sF m 1 t) ≤ tpL m n (sO m 1 t) + (m 8 t).toInt := by
  have ho := (g.1.2.2 t ht).2.2
  have h1 := tpL_le g ho
  have h2 := (g.2.2.1 _ ho).2
  exact (tpL_top g).2.1 t ht (decide_eq_true hf) (show tpL m n (sO m 1 t) < zK9 by show _ < (100000 : Int); omega)
theorem tpL_tight (g : gOk m n) {i : Nat} (hi : i < 8) (hne : ¬ tpL m n i = (m 2 i).toInt) : ∃ t, t < n ∧ sF m 1 t = i ∧ sForce m 1 t ∧ tpL m n (sO m 1 t) + (m 8 t).toInt = tpL m n i := by
  apply Classical.byContradiction
  intro hno
  have hle := tpL_le g hi
  have key : ∀ t, t < n → sF m 1 t = i → sForce m 1 t → tpL m n i + 1 ≤ tpL m n (sO m 1 t) + (m 8 t).toInt := fun t ht e hf => by
    have h1 := tpL_e g ht hf
    rw [e] at h1
    have h2 : ¬ tpL m n (sO m 1 t) + (m 8 t).toInt = tpL m n i := fun z => hno ⟨t, ht, e, hf, z⟩
    omega
  have hT := tpL_top g
  have := hT.2.2 (fun q => if q = i then tpL m n i + 1 else tpL m n q) (fun q => by
    show (if q = i then tpL m n i + 1 else tpL m n q) ≤ _
    by_cases c : q = i
    · rw [if_pos c, c]
      unfold HgtY
      rw [if_pos hi]
      omega
    · rw [if_neg c]
      exact hT.1 q) (fun t ht => by
    intro e1 e2
    have hf : sForce m 1 t := of_decide_eq_true e1
    show (if sF m 1 t = i then tpL m n i + 1 else tpL m n (sF m 1 t)) ≤ (if sO m 1 t = i then tpL m n i + 1 else tpL m n (sO m 1 t)) + (m 8 t).toInt
    have h1 := tpL_e g ht hf
    by_cases c : sF m 1 t = i
    · rw [if_pos c]
      have h2 := key t ht c hf
      by_cases d : sO m 1 t = i
      · rw [if_pos d]
        rw [d] at h2
        omega
      · rw [if_neg d]
        exact h2
    · rw [if_neg c]
      by_cases d : sO m 1 t = i
      · rw [if_pos d]
        rw [d] at h1
        omega
      · rw [if_neg d]
        exact h1) i
  rw [if_pos rfl] at this
  omega
/-- where nothing is broken, nothing is clipped -/
theorem tpL_no (g : gOk m n) (hno : ∀ t, t < n → sForce m 1 t → (m 2 (sF m 1 t)).toInt ≤ (m 2 (sO m 1 t)).toInt + (m 8 t).toInt) {q : Nat} (hq : q < 8) : tpL m n q = (m 2 q).toInt := by
  have hT := tpL_top g
  have h1 := hT.2.2 (HgtY (m 2)) (fun q => Int.le_refl _) (fun t ht => by
    intro e1 e2
    have hf : sForce m 1 t := of_decide_eq_true e1
    have a := (g.1.2.2 t ht).1.2
    have b := (g.1.2.2 t ht).2.2
    show HgtY (m 2) (sF m 1 t) ≤ HgtY (m 2) (sO m 1 t) + (m 8 t).toInt
    unfold HgtY
    rw [if_pos a, if_pos b]
    exact hno t ht hf) q
  unfold HgtY at h1
  rw [if_pos hq] at h1
  have h2 := tpL_le g hq
  omega
theorem tpB_f (g : gOk m n) {f : Nat} (hf : f < 8) : (∀ q, q < 8 → -99 ≤ tpB m n f q) ∧ tpB m n f f = 0 := by
  obtain ⟨z, z1, z2⟩ := g.2.2.2
  have hT := tpB_top g f
  have h1 := hT.2.2 (fun q => if q < 8 then z f - z q else -99) (fun q => by
    show (if q < 8 then z f - z q else -99) ≤ Yb f q
    unfold Yb
    have := z1 f hf
    by_cases c : q < 8
    · have h2 := z1 q c
      rw [if_pos c]
      by_cases d : q = f
      · rw [if_pos d, d]
        omega
      · rw [if_neg d]
        omega
    · rw [if_neg c, if_neg (by omega)]
      omega) (fun t ht => by
    intro e1 e2
    have a := (g.1.2.2 t ht).1.2
    have b := (g.1.2.2 t ht).2.2
    show (if sO m 1 t < 8 then z f - z (sO m 1 t) else -99) ≤ (if sF m 1 t < 8 then z f - z (sF m 1 t) else -99) + (m 8 t).toInt
    rw [if_pos a, if_pos b]
    have := z2 t ht rfl
    have h3 : z (sF m 1 t) ≤ z (sO m 1 t) + (m 8 t).toInt := this
    omega)
  refine ⟨fun q hq => ?_, ?_⟩
  · have := h1 q
    simp only [hq, if_true] at this
    have a := z1 f hf
    have b := z1 q hq
    omega
  · have := h1 f
    simp only [hf, if_true] at this
    have h2 := hT.1 f
    unfold Yb at h2
    rw [if_pos rfl] at h2
    omega
theorem tpB_e (g : gOk m n) {t : Nat} (ht : t < n) (hf : sForce m 1 t) : tpB m n (sF m 1 t) (sO m 1 t) ≤ (m 8 t).toInt := by
  have a := (g.1.2.2 t ht).1.2
  have h0 := (tpB_f g a).2
  have := (tpB_top g (sF m 1 t)).2.1 t ht (decide_eq_true hf) (show tpB m n (sF m 1 t) (sF m 1 t) < zK9 by rw [h0]; decide)
  have h2 : tpB m n (sF m 1 t) (sO m 1 t) ≤ tpB m n (sF m 1 t) (sF m 1 t) + (m 8 t).toInt := this
  omega
theorem tpB_hi (g : gOk m n) {f q : Nat} (hf : f < 8) (hq : q < 8) : tpB m n f q = zK9 ∨ tpB m n f q ≤ 420 := by
  apply Classical.byContradiction
  intro hno
  have hz : (zK9 : Int) = 100000 := rfl
  have hT := tpB_top g f
  have h0 := (tpB_f g hf).2
  have hle : ∀ x, tpB m n f x ≤ 100000 := fun x => by
    have := hT.1 x
    unfold Yb at this
    split at this <;> omega
  have q1 : ¬ tpB m n f q = zK9 := fun z => hno (Or.inl z)
  have q2 : 420 < tpB m n f q := by
    apply Classical.byContradiction
    intro z
    exact hno (Or.inr (by omega))
  have gap : ∃ k : Nat, k < 7 ∧ ∀ x, x < 8 → ¬ (60 * (k : Int) < tpB m n f x ∧ tpB m n f x ≤ 60 * (k : Int) + 60) := by
    apply Classical.byContradiction
    intro hg
    have full : ∀ k : Nat, k < 7 → ∃ x, x < 8 ∧ 60 * (k : Int) < tpB m n f x ∧ tpB m n f x ≤ 60 * (k : Int) + 60 := fun k hk => by
      apply Classical.byContradiction
      intro hx
      exact hg ⟨k, hk, fun x hx8 z => hx ⟨x, hx8, z⟩⟩
    have ex : ∀ k : Nat, ∃ x, k < 7 → x < 8 ∧ 60 * (k : Int) < tpB m n f x ∧ tpB m n f x ≤ 60 * (k : Int) + 60 := fun k => by
      by_cases c : k < 7
      · obtain ⟨x, hx⟩ := full k c
        exact ⟨x, fun _ => hx⟩
      · exact ⟨0, fun z => absurd z c⟩
    obtain ⟨c, hc⟩ := Classical.skolem.mp ex
    obtain ⟨i, j, hij, hj, e⟩ := pigeon 8 (fun k => if k < 7 then c k else if k = 7 then f else q) (fun i hi => by
      show (if i < 7 then c i else if i = 7 then f else q) < 8
      split
      · rename_i a
        exact (hc i a).1
      · split
        · exact hf
        · exact hq)
    replace e : (if i < 7 then c i else if i = 7 then f else q) = (if j < 7 then c j else if j = 7 then f else q) := e
    by_cases a : i < 7
    · rw [if_pos a] at e
      have hi := hc i a
      by_cases b : j < 7
      · rw [if_pos b] at e
        have hj2 := hc j b
        rw [← e] at hj2
        omega
      · rw [if_neg b] at e
        by_cases d : j = 7
        · rw [if_pos d] at e
          rw [e] at hi
          omega
        · rw [if_neg d] at e
          rw [e] at hi
          omega
    · have e1 : i = 7 := by omega
      have e2 : j = 8 := by omega
      subst e1 e2
      simp only [show ¬ (7 < 7) by decide, show ¬ (8 < 7) by decide, show ¬ (8 = 7) by decide, if_true, if_false] at e
      rw [← e] at q2
      omega
  obtain ⟨k, hk, hg⟩ := gap
  have := hT.2.2 (fun x => if x < 8 ∧ 60 * (k : Int) < tpB m n f x then 100000 else tpB m n f x) (fun x => by
    show (if x < 8 ∧ 60 * (k : Int) < tpB m n f x then 100000 else tpB m n f x) ≤ Yb f x
    split
    · rename_i c
      unfold Yb
      rw [if_neg (fun z => by rw [z, h0] at c; omega)]
      omega
    · exact hT.1 x) (fun t ht => by
    intro e1 e2
    have a := (g.1.2.2 t ht).1.2
    have b := (g.1.2.2 t ht).2.2
    have hd := g.2.1 t ht
    have e3 : (if sF m 1 t < 8 ∧ 60 * (k : Int) < tpB m n f (sF m 1 t) then 100000 else tpB m n f (sF m 1 t)) < 100000 := e2
    show (if sO m 1 t < 8 ∧ 60 * (k : Int) < tpB m n f (sO m 1 t) then 100000 else tpB m n f (sO m 1 t)) ≤ (if sF m 1 t < 8 ∧ 60 * (k : Int) < tpB m n f (sF m 1 t) then 100000 else tpB m n f (sF m 1 t)) + (m 8 t).toInt
    by_cases c : sF m 1 t < 8 ∧ 60 * (k : Int) < tpB m n f (sF m 1 t)
    · rw [if_pos c] at e3
      omega
    · rw [if_neg c] at e3 ⊢
      have h5 := hT.2.1 t ht e1 (show tpB m n f (sF m 1 t) < zK9 by omega)
      have h6 : tpB m n f (sO m 1 t) ≤ tpB m n f (sF m 1 t) + (m 8 t).toInt := h5
      have h7 := hg (sO m 1 t) b
      rw [if_neg (fun z => h7 ⟨z.2, by omega⟩)]
      exact h6) q
  simp only [hq, true_and] at this
  rw [if_pos (by omega)] at this
  have := hle q
  omega
theorem bnd_int (g : gOk m n) {f o : Nat} (hf : f < 8) (ho : o < 8) : (tpB m n f o = zK9 ∧ bnd m n f o = -4) ∨ (¬ tpB m n f o = zK9 ∧ -99 ≤ tpB m n f o ∧ tpB m n f o ≤ 420 ∧ (bnd m n f o).toInt = tpB m n f o + 1000) := by
  have h1 := (tpB_f g hf).1 o ho
  rcases tpB_hi g hf ho with a | a
  · exact Or.inl ⟨a, by unfold bnd; rw [if_pos a]⟩
  · have ne : ¬ tpB m n f o = zK9 := fun z => by
      have : tpB m n f o = 100000 := z
      omega
    refine Or.inr ⟨ne, h1, a, ?_⟩
    unfold bnd
    rw [if_neg ne]
    exact Int32.toInt_ofInt_of_le (by omega) (by omega)
end
