/-! method by method: the changes -/
theorem FC.rf {a : zM} : FC a a := fun _ _ _ => rfl
theorem FC.up {a b : zM} (h : FC a b) {c k : Nat} {v : Int32} (hc : 1 ≤ c ∧ c ≤ 9) : FC a (up2 b c k v) := fun q x y => by
  rw [up2_na _ _ _ (fun z => x (by omega))]
  exact h q x y
theorem FC.v {a b c : zM} (h : FC a b) (g : Fsv b c) : FC a c := fun q x y => (g q y).trans (h q x y)
theorem FC.sv {a b : zM} (g : Fsv a b) : FC a b := fun q _ y => g q y
theorem FC.hi {h : Nat → Nat} {m m1 : zM} {s : Nat} (hh : hOk h) (g : FC (mRem h m s) m1) {q : Nat} (hq : 68 ≤ q) : m1 q = m q := by rw [g q (by omega) (by omega), mRem_o hh (by omega) (by omega)]
theorem FM.rf {a : zM} : FM a a := fun _ _ _ _ => rfl
theorem FM.up {a b : zM} (h : FM a b) {k : Nat} {v : Int32} : FM a (up2 b 75 k v) := fun q x y z => by
  rw [up2_na _ _ _ x]
  exact h q x y z
theorem FM.m {a b c : zM} (h : FM a b) (g : Fm b c) : FM a c := fun q x y z => (g q y z).trans (h q x y z)
theorem FM.fm {a b : zM} (g : Fm a b) : FM a b := fun q _ y z => g q y z
theorem FM.q {a b : zM} (g : ∀ q, q ≠ 75 → b q = a q) : FM a b := fun q x _ _ => g q x
section
variable {G : zG} {l : Launch} {yX yM : MethodName} {mX mM : zD} {as : List Value} {K : Nat} {h : Nat → Nat} {m : zM}
theorem Pr.chg {s : Nat} (hR9 : Rel K h m) (hs : s ≤ 4) (hst : m 0 5 = nI s) {v v' : Int32} {m1 m2 : zM} (hX : zMet G l yX mX (.ref (G.1 + 0) :: as) (zw h m) (fun r w => r = some (.int v) ∧ w = zw (hRem h s) m1) 0 0) (hC : FC (mRem h m s) m1) (hM : m1 74 3 = nI s → zMet G l yM mM (.ref (G.1 + 74) :: as) (zw (hRem h s) m1) (fun r w => r = some (.int v') ∧ w = zw (hRem h s) m2) 0 0) (ev : v = v') (hFM : FM (recM m1 s) m2) (r' : Nat → Int32) (e2 : m2 75 = r') (n' : Nat) (hE : EqS n' m1 (vR r')) (hI : Inv (K + 1) r' n') : Pr G l yX mX yM mM as K h m := by
  subst ev
  have hst4 : m 74 3 = nI s := by
    obtain ⟨-, -, ⟨s2, a, b, c, -⟩, -⟩ := hR9
    have e : s2 = s := (nI_eq (by omega) (by omega)).mp (b.symm.trans hst)
    rw [c, e]
  refine Pr.mk9 hX (fun r w hq => ⟨v, hRem h s, m1, hq.1, hq.2, _, hM (by rw [hC.hi hR9.1 (by decide)]; exact hst4), fun r2 w2 hq2 => ⟨hq2.1, m2, hq2.2, hR9.chg1 hs hst hC hFM ⟨n', ?_, ?_⟩⟩⟩)
  · rw [e2]
    exact hE.sub (fun q a b => by rw [hFM q (by omega) (by omega) (by omega), recm_q _ _ (by omega) (by omega)])
  · rw [e2]
    exact hI
end
theorem cur_mRem {K n s : Nat} {h : Nat → Nat} {m : zM} (hh : hOk h) (hc : EqS n m (vR (m 75))) : EqS n (mRem h m s) (vR (m 75)) := hc.sub (fun q a b => mRem_o hh (by omega) (by omega))
theorem int_in {x : Int32} {k : Nat} (hk : k < 1000) (h0 : ¬ x < 0) (h1 : ¬ nI k < x) : 0 ≤ x.toInt ∧ x.toInt ≤ k := by
  rw [i32_lt] at h0 h1
  rw [show (nI k).toInt = (k : Int) from nI_toInt (by omega)] at h1
  have e : (0 : Int32).toInt = 0 := rfl
  omega
theorem int_in1 {x : Int32} {k : Nat} (hk : k < 1000) (h0 : ¬ x < nI 1) (h1 : ¬ nI k < x) : 1 ≤ x.toInt ∧ x.toInt ≤ k := by
  rw [i32_lt] at h0 h1
  rw [show (nI k).toInt = (k : Int) from nI_toInt (by omega)] at h1
  have e : (nI 1).toInt = 1 := rfl
  omega
section
variable {G : zG} {l : Launch} {K : Nat} {h : Nat → Nat} {m : zM}
theorem p_height (hR9 : Rel K h m) (x y : Int32) : Pr G l yX3_height mX3_height yX4_height mX4_height [.int x, .int y] K h m := by
  obtain ⟨hh, ⟨n, hc, hI⟩, ⟨s, hs, hst, hst4, -⟩, -⟩ := id hR9
  by_cases hq : hdg x ∧ ¬ y < 0 ∧ ¬ nI 99 < y
  · obtain ⟨i, hi, rfl⟩ := vin (by decide) hq.1.1 hq.1.2
    have hA : EqS n (mRem h m s) (vR (m 75)) := cur_mRem (K := K) hh hc
    have hC : FC (mRem h m s) (up2 (mRem h m s) 2 i y) := FC.rf.up (by decide)
    have e75 : (up2 (mRem h m s) 2 i y) 75 = m 75 := hC.hi hh (by decide)
    exact Pr.chg hR9 hs hst (zX3_height s hs hst hh i hi y hq.2.1 hq.2.2) hC (fun e => zX4_height s hs e i hi y hq.2.1 hq.2.2) (by rw [e75]; exact hA.h2 hi) FM.rf.up (up1 (m 75) (7 + 4 * i + 0) y) (by rw [up2_75, rec_75, e75]) n (hA.uh hi (c := 0) (by decide) y) ((hI.height hi (int_in (by decide) hq.2.1 hq.2.2)).mono (by omega))
  · exact Pr.same hR9 (eX3_height x y hq) (eX4_height x y hq) rfl
theorem p_growth (hR9 : Rel K h m) (x y : Int32) : Pr G l yX3_growth mX3_growth yX4_growth mX4_growth [.int x, .int y] K h m := by
  obtain ⟨hh, ⟨n, hc, hI⟩, ⟨s, hs, hst, hst4, -⟩, -⟩ := id hR9
  by_cases hq : hdg x ∧ ¬ y < 0 ∧ ¬ nI 5 < y
  · obtain ⟨i, hi, rfl⟩ := vin (by decide) hq.1.1 hq.1.2
    have hA : EqS n (mRem h m s) (vR (m 75)) := cur_mRem (K := K) hh hc
    have hC : FC (mRem h m s) (up2 (mRem h m s) 3 i y) := FC.rf.up (by decide)
    have e75 : (up2 (mRem h m s) 3 i y) 75 = m 75 := hC.hi hh (by decide)
    exact Pr.chg hR9 hs hst (zX3_growth s hs hst hh i hi y hq.2.1 hq.2.2) hC (fun e => zX4_growth s hs e i hi y hq.2.1 hq.2.2) (by rw [e75]; exact hA.h3 hi) FM.rf.up (up1 (m 75) (7 + 4 * i + 1) y) (by rw [up2_75, rec_75, e75]) n (hA.uh hi (c := 1) (by decide) y) ((hI.growth hi (int_in (by decide) hq.2.1 hq.2.2)).mono (by omega))
  · exact Pr.same hR9 (eX3_growth x y hq) (eX4_growth x y hq) rfl
theorem p_nest (hR9 : Rel K h m) (x y : Int32) : Pr G l yX3_nest mX3_nest yX4_nest mX4_nest [.int x, .int y] K h m := by
  obtain ⟨hh, ⟨n, hc, hI⟩, ⟨s, hs, hst, hst4, -⟩, -⟩ := id hR9
  by_cases hq : hdg x ∧ ¬ y < 0 ∧ ¬ nI 30 < y
  · obtain ⟨i, hi, rfl⟩ := vin (by decide) hq.1.1 hq.1.2
    have hA : EqS n (mRem h m s) (vR (m 75)) := cur_mRem (K := K) hh hc
    have hC : FC (mRem h m s) (up2 (mRem h m s) 4 i (mRem h m s 1 9 + y)) := FC.rf.up (by decide)
    have e75 : (up2 (mRem h m s) 4 i (mRem h m s 1 9 + y)) 75 = m 75 := hC.hi hh (by decide)
    have ed : mRem h m s 1 9 = m 75 0 := hA.day
    exact Pr.chg hR9 hs hst (zX3_nest s hs hst hh i hi y hq.2.1 hq.2.2) hC (fun e => zX4_nest s hs e i hi y hq.2.1 hq.2.2) (by rw [e75]; exact hA.2.1 4 (by decide) (by decide) i hi) FM.rf.up (up1 (m 75) (7 + 4 * i + 2) (m 75 0 + y)) (by rw [up2_75, rec_75, e75]) n (by rw [ed]; exact hA.uh hi (c := 2) (by decide) _) ((hI.up _ (Or.inr (Or.inr (Or.inr (Or.inr ⟨i, hi, rfl⟩))))).mono (by omega))
  · exact Pr.same hR9 (eX3_nest x y hq) (eX4_nest x y hq) rfl
def lpR (r : Nat → Int32) (i : Nat) (y : Int32) : Nat → Int32 := if sNest (vR r) 1 i then rfR r else if vR r 2 i < y then rfR r else clR r i y
theorem mc_75 (m : zM) (i : Nat) (y : Int32) : mcM m i y 75 = lpR (m 75) i y := by
  unfold mcM lpR
  split
  · exact rf_75 m
  · split
    · exact rf_75 m
    · exact cl_75 m y
theorem mc_q (m : zM) (i : Nat) (y : Int32) {q : Nat} (hq : q ≠ 75) : mcM m i y q = m q := by
  unfold mcM
  split
  · exact up2_na _ _ _ hq
  · split
    · exact up2_na _ _ _ hq
    · exact clM_na _ _ _ hq
theorem clip_q (u : zM) (i : Nat) (y : Int32) {q : Nat} (hq : ¬ (1 ≤ q ∧ q ≤ 9)) : clipM u i y q = u q := by
  unfold clipM
  split
  · exact up2_na _ _ _ (by omega)
  · split
    · exact up2_na _ _ _ (by omega)
    · unfold cutM
      rw [up2_na _ _ _ (by omega), up2_na _ _ _ (by omega), up2_na _ _ _ (by omega)]
theorem EqS.clip {n : Nat} {u : zM} {r : Nat → Int32} (hE : EqS n u (vR r)) {i : Nat} (hi : i < 8) (y : Int32) : EqS n (clipM u i y) (vR (lpR r i y)) ∧ clipR u i y = mcR r i y := by
  have h1 := hE.nest hi
  have h2 := hE.h2 hi
  unfold clipM lpR clipR mcR
  by_cases g : sNest u 1 i
  · rw [if_pos g, if_pos g, if_pos (h1.mp g), if_pos (h1.mp g)]
    exact ⟨hE.ref, rfl⟩
  · rw [if_neg g, if_neg g, if_neg (fun z => g (h1.mpr z)), if_neg (fun z => g (h1.mpr z)), h2]
    by_cases g2 : vR r 2 i < y
    · rw [if_pos g2, if_pos g2, if_pos g2]
      exact ⟨hE.ref, rfl⟩
    · rw [if_neg g2, if_neg g2, if_neg g2]
      exact ⟨hE.cut hi y, rfl⟩
theorem Inv.clip {n : Nat} {r : Nat → Int32} (hI : Inv K r n) {i : Nat} (hi : i < 8) {y : Int32} (hy : 0 ≤ y.toInt) : Inv K (lpR r i y) n := by
  unfold lpR
  split
  · exact hI.ref
  · split
    · exact hI.ref
    · rename_i g1 g2
      rw [i32_lt] at g2
      exact hI.cut hi ⟨hy, Int.not_lt.mp g2⟩
theorem p_clip (hR9 : Rel K h m) (x y : Int32) : Pr G l yX3_clip mX3_clip yX4_clip mX4_clip [.int x, .int y] K h m := by
  obtain ⟨hh, ⟨n, hc, hI⟩, ⟨s, hs, hst, hst4, -⟩, -⟩ := id hR9
  by_cases hq : hdg x ∧ ¬ y < nI 1 ∧ ¬ nI 99 < y
  · obtain ⟨i, hi, rfl⟩ := vin (by decide) hq.1.1 hq.1.2
    have hA : EqS n (mRem h m s) (vR (m 75)) := cur_mRem (K := K) hh hc
    have hC : FC (mRem h m s) (clipM (mRem h m s) i y) := fun q a _ => clip_q _ _ _ a
    have e75 : (clipM (mRem h m s) i y) 75 = m 75 := hC.hi hh (by decide)
    have hy := int_in1 (by decide) hq.2.1 hq.2.2
    exact Pr.chg hR9 hs hst (zX3_clip s hs hst hh i hi y hq.2.1 hq.2.2) hC (fun e => zX4_clip s hs e i hi y hq.2.1 hq.2.2) (by rw [rec_75, e75]; exact (hA.clip hi y).2) (FM.q (fun q a => mc_q _ _ _ a)) (lpR (m 75) i y) (by rw [mc_75, rec_75, e75]) n (hA.clip hi y).1 ((hI.clip hi (by omega)).mono (by omega))
  · exact Pr.same hR9 (eX3_clip x y hq) (eX4_clip x y hq) rfl
theorem p_day (hR9 : Rel K h m) (hK : K ≤ 100000) : Pr G l yX3_day mX3_day yX4_day mX4_day [] K h m := by
  obtain ⟨hh, ⟨n, hc, hI⟩, ⟨s, hs, hst, hst4, -⟩, -⟩ := id hR9
  have hA : EqS n (mRem h m s) (vR (m 75)) := cur_mRem (K := K) hh hc
  have hC : FC (mRem h m s) (dayM (mRem h m s) 1) := fun q a _ => dayM_o (by omega) (by omega)
  have e75 : (dayM (mRem h m s) 1) 75 = m 75 := hC.hi hh (by decide)
  have hk : sOk m 1 n := hc.sym.ok hI.1.1
  have hI2 := hI.day hK
  have hE := hA.dayS
  refine Pr.chg hR9 hs hst (zX3_day s hs hst hh n hk) hC (fun e => zX4_day (m := dayM (mRem h m s) 1) s hs e n (by rw [e75]; exact hI.1.1)) ?_ (FM.q (fun q a => gdM_q _ a)) (dyR (m 75)) (by rw [gdM_75, rec_75, e75]) n hE hI2
  rw [e75]
  exact congrArg nI (cnt_congr n (fun t ht => decide_eq_decide.mpr ((hE.brk (hE.sym.ok hI2.1.1) ht _).trans (bk_0 hI2 ht).symm)))
theorem p_cancel (hR9 : Rel K h m) (x : Int32) : Pr G l yX3_cancel mX3_cancel yX4_cancel mX4_cancel [.int x] K h m := by
  obtain ⟨hh, ⟨n, hc, hI⟩, ⟨s, hs, hst, hst4, -⟩, -⟩ := id hR9
  have hn := hI.n14
  have hk : m 1 8 = nI n := (hc.1 8 (by decide) (by decide)).trans hI.1.1.1
  by_cases hq : ¬ x < 0 ∧ x < nI n
  · obtain ⟨t, ht, rfl⟩ := vin (by omega) hq.1 hq.2
    have hA : EqS n (mRem h m s) (vR (m 75)) := cur_mRem (K := K) hh hc
    have hC : FC (mRem h m s) (up2 (rmM (mRem h m s) 1 t n) 1 8 (nI (n - 1))) := FC.up (fun q a _ => by
      funext k
      unfold rmM
      rw [if_neg (by omega)]) (by decide)
    have e75 : (up2 (rmM (mRem h m s) 1 t n) 1 8 (nI (n - 1))) 75 = m 75 := hC.hi hh (by decide)
    have e2 : ∀ k, k < 95 → caR (m 75) t n k = caM (recM (up2 (rmM (mRem h m s) 1 t n) 1 8 (nI (n - 1))) s) t n 95 75 k := fun k hk => by rw [caM_75 _ _ _ hk, rec_75, e75]
    exact Pr.chg hR9 hs hst (zX3_cancel s hs hst hh n hn hk t ht) hC (fun e => zX4_cancel s hs e n (by rw [e75]; exact hI.1.1.1) hn t ht) rfl (FM.q (fun q a => caM_q _ _ _ _ a)) _ rfl (n - 1) ((hA.rm hn ht).trans ((row_eq e2).le (by omega))) (((hI.rm ht).row e2).mono (by omega))
  · exact Pr.same hR9 (eX3_cancel n hk x hq) (eX4_cancel n hI.1.1.1 hn x hq) rfl
theorem p_freeze (hR9 : Rel K h m) (hK : K ≤ 100000) (x y : Int32) : Pr G l yX3_freeze mX3_freeze yX4_freeze mX4_freeze [.int x, .int y] K h m := by
  obtain ⟨hh, ⟨n, hc, hI⟩, ⟨s, hs, hst, hst4, -⟩, -⟩ := id hR9
  have hn := hI.n14
  have hk : m 1 8 = nI n := (hc.1 8 (by decide) (by decide)).trans hI.1.1.1
  by_cases hq : (¬ x < 0 ∧ x < nI n) ∧ ¬ y < nI 1 ∧ ¬ nI 30 < y
  · obtain ⟨t, ht, rfl⟩ := vin (by omega) hq.1.1 hq.1.2
    have hA : EqS n (mRem h m s) (vR (m 75)) := cur_mRem (K := K) hh hc
    have hC : FC (mRem h m s) (frM (mRem h m s) t y) := fun q a _ => by
      unfold frM
      split
      · rw [up2_na _ _ _ (by omega), up2_na _ _ _ (by omega)]
      · rw [up2_na _ _ _ (by omega)]
    have e75 : (frM (mRem h m s) t y) 75 = m 75 := hC.hi hh (by decide)
    have hy := int_in1 (by decide) hq.2.1 hq.2.2
    exact Pr.chg hR9 hs hst (zX3_freeze s hs hst hh n (hc.sym.ok hI.1.1) t ht y hq.2.1 hq.2.2) hC (fun e => zX4_freeze (m := frM (mRem h m s) t y) s hs e n (by rw [e75]; exact hI.1.1) t ht y hq.2.1 hq.2.2) (by rw [e75]; exact (hA.fz hI ht y).2) (FM.q (fun q a => by unfold mfM; rw [up2_na _ _ _ a, up2_na _ _ _ a])) (fzR (m 75) t y) (by rw [fz_75, rec_75, e75]) n (hA.fz hI ht y).1 ((hI.fz hK (by omega)).mono (by omega))
  · exact Pr.same hR9 (eX3_freeze n hk x y hq) (eX4_freeze n hI.1.1.1 hn x y hq) rfl
theorem p_thaw (hR9 : Rel K h m) (hK : K ≤ 100000) (x : Int32) : Pr G l yX3_thaw mX3_thaw yX4_thaw mX4_thaw [.int x] K h m := by
  obtain ⟨hh, ⟨n, hc, hI⟩, ⟨s, hs, hst, hst4, -⟩, -⟩ := id hR9
  have hn := hI.n14
  have hk : m 1 8 = nI n := (hc.1 8 (by decide) (by decide)).trans hI.1.1.1
  by_cases hq : ¬ x < 0 ∧ x < nI n
  · obtain ⟨t, ht, rfl⟩ := vin (by omega) hq.1 hq.2
    have hA : EqS n (mRem h m s) (vR (m 75)) := cur_mRem (K := K) hh hc
    have hC : FC (mRem h m s) (thM (mRem h m s) t) := fun q a _ => by
      unfold thM
      split
      · exact up2_na _ _ _ (by omega)
      · split
        · exact up2_na _ _ _ (by omega)
        · rw [up2_na _ _ _ (by omega), up2_na _ _ _ (by omega)]
    have e75 : (thM (mRem h m s) t) 75 = m 75 := hC.hi hh (by decide)
    exact Pr.chg hR9 hs hst (zX3_thaw s hs hst hh n (hc.sym.ok hI.1.1) t ht) hC (fun e => zX4_thaw (m := thM (mRem h m s) t) s hs e n (by rw [e75]; exact hI.1.1.1) hn t ht) (by rw [rec_75, e75]; exact (hA.tw hI hK ht).2) (FM.q (fun q a => by
      unfold mtM
      split
      · exact up2_na _ _ _ a
      · split
        · exact up2_na _ _ _ a
        · rw [up2_na _ _ _ a, up2_na _ _ _ a])) (twR (m 75) t) (by rw [tw_75, rec_75, e75]) n (hA.tw hI hK ht).1 (hI.tw.mono (by omega))
  · exact Pr.same hR9 (eX3_thaw n hk x hq) (eX4_thaw n hI.1.1.1 hn x hq) rfl
end
