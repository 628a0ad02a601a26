/-! the changes as acts: what they answer, what they leave -/
theorem FC.trans9 {a b c : zM} (h : FC a b) (g : FC b c) : FC a c := fun q x y => (g q x y).trans (h q x y)
theorem sumI_up (f : Nat → Int32) (i : Nat) (y : Int32) : ∀ N, sumI (fun j => if j = i then f i + y else f j) N = if i < N then sumI f N + y else sumI f N
  | 0 => rfl
  | N + 1 => by
    show sumI (fun j => if j = i then f i + y else f j) N + (if N = i then f i + y else f N) = _
    rw [sumI_up f i y N]
    by_cases g : N = i
    · subst g
      rw [if_neg (Nat.lt_irrefl N), if_pos rfl, if_pos (Nat.lt_succ_self N), ← Int32.add_assoc]
      rfl
    · rw [if_neg g]
      by_cases g2 : i < N
      · rw [if_pos g2, if_pos (by omega), Int32.add_assoc, Int32.add_comm y, ← Int32.add_assoc]
        rfl
      · rw [if_neg g2, if_neg (by omega)]
        rfl
abbrev VA (K : Nat) (h : Nat → Nat) (m : zM) (n s : Nat) (v : Int32) (n1 : Nat) (R : zM → Prop) : Option Value → zW → Prop := fun r w => r = some (.int v) ∧ ∃ M, w = zw (hRem h s) M ∧ Act K h m n s (hRem h s) M n1 (sN s) ∧ R M
section
variable {G : zG} {l : Launch} {K n s : Nat} {h : Nat → Nat} {m mm : zM}
theorem Act.v {h1 : Nat → Nat} {m1 m2 : zM} {n1 s1 : Nat} (a : Act K h m n s h1 m1 n1 s1) (e : Fsv m1 m2) : Act K h m n s h1 m2 n1 s1 := by
  refine ⟨a.1.v e, ⟨fun q x y => (e q (by omega)).trans (a.2.1.1 q x y), by rw [e 0 (by decide)]; exact a.2.1.2⟩, ?_⟩
  rcases a.2.2 with ⟨x, y, z⟩ | ⟨x, z⟩
  · exact Or.inl ⟨x, y, (EqS.of (fun q p r => e q (by omega))).trans z⟩
  · have i := IsSt.hi (a.1.1.1 (s1 - 1) (by have := a.1.s4; omega))
    exact Or.inr ⟨x, (aS_of (fun q c d => e q (by omega))).trans z⟩
theorem rq (sy : Sy K h m n s) (hF : Fsv m mm) {q : Nat} (h1 : 1 ≤ q) (h2 : q ≤ 9) : mRem h mm s q = m q := (mRem_o sy.1 (by omega) (by omega)).trans (hF q (by omega))
theorem mkA (sy : Sy K h m n s) (hF : Fsv m mm) {M : zM} {n1 : Nat} (e : FC (mRem h mm s) M) (hI : Inv (K + 1) M n1) : Act K h m n s (hRem h s) M n1 (sN s) := Act.from sy hF (Act.fc (sy.v hF) e hI)
theorem IA (sy : Sy K h m n s) (hF : Fsv m mm) : Inv K (mRem h mm s) n := Inv.rem (sy.v hF)
theorem eqA (sy : Sy K h m n s) (hF : Fsv m mm) : EqS n (mRem h mm s) m := EqS.of (fun q a b => rq sy hF a b)
theorem stF5 (sy : Sy K h m n s) (hF : Fsv m mm) : mm 0 5 = nI s := by rw [hF 0 (by decide)]; exact sy.st
theorem v_height (sy : Sy K h m n s) (hF : Fsv m mm) {i y : Nat} (hi : i < 8) (hy : y < 100) : zMet G l yX3_height mX3_height [.ref (G.1 + 0), .int (nI i), .int (nI y)] (zw h mm) (VA K h m n s (m 2 i) n (fun M => M 2 i = nI y)) 0 0 :=
  zMet_post (zX3_height s sy.s4 (stF5 sy hF) sy.1 i hi (nI y) (nI_pos (by omega)) (nI_nlt (by omega) (by decide))) (fun r w hp => ⟨by rw [hp.1, rq sy hF (by decide) (by decide)], _, hp.2, mkA sy hF (FC.rf.up (by decide)) (((IA sy hF).height i (by rw [nI_toInt (by omega)]; omega)).mono (Nat.le_succ K)), up2_eq _ _ _ _⟩)
theorem v_growth (sy : Sy K h m n s) (hF : Fsv m mm) {i y : Nat} (hi : i < 8) (hy : y < 6) : zMet G l yX3_growth mX3_growth [.ref (G.1 + 0), .int (nI i), .int (nI y)] (zw h mm) (VA K h m n s (m 3 i) n (fun M => M 3 i = nI y)) 0 0 :=
  zMet_post (zX3_growth s sy.s4 (stF5 sy hF) sy.1 i hi (nI y) (nI_pos (by omega)) (nI_nlt (by omega) (by decide))) (fun r w hp => ⟨by rw [hp.1, rq sy hF (by decide) (by decide)], _, hp.2, mkA sy hF (FC.rf.up (by decide)) (((IA sy hF).growth i (by rw [nI_toInt (by omega)]; omega)).mono (Nat.le_succ K)), up2_eq _ _ _ _⟩)
theorem v_nest (sy : Sy K h m n s) (hF : Fsv m mm) {i y : Nat} (hi : i < 8) (hy : y < 31) : zMet G l yX3_nest mX3_nest [.ref (G.1 + 0), .int (nI i), .int (nI y)] (zw h mm) (VA K h m n s (m 4 i) n (fun M => M 4 i = m 1 9 + nI y ∧ M 1 9 = m 1 9)) 0 0 :=
  zMet_post (zX3_nest s sy.s4 (stF5 sy hF) sy.1 i hi (nI y) (nI_pos (by omega)) (nI_nlt (by omega) (by decide))) (fun r w hp => ⟨by rw [hp.1, rq sy hF (by decide) (by decide)], _, hp.2, mkA sy hF (FC.rf.up (by decide)) (((IA sy hF).nest i _).mono (Nat.le_succ K)), by rw [up2_eq, rq sy hF (by decide) (by decide)], by rw [up2_na _ _ _ (by decide), rq sy hF (by decide) (by decide)]⟩)
theorem e_height (hF : Fsv m mm) {x y : Nat} (hx : x < 9) (hy : y < 101) (hb : x = 8 ∨ y = 100) : zMet G l yX3_height mX3_height [.ref (G.1 + 0), .int (nI x), .int (nI y)] (zw h mm) (VP h m (-1)) 0 0 :=
  vw hF (eX3_height (nI x) (nI y) (fun z => by
    rcases hb with rfl | rfl
    · exact absurd z.1 (by decide)
    · exact absurd z.2.2 (by decide))) rfl
theorem e_growth (hF : Fsv m mm) {x y : Nat} (hx : x < 9) (hy : y < 7) (hb : x = 8 ∨ y = 6) : zMet G l yX3_growth mX3_growth [.ref (G.1 + 0), .int (nI x), .int (nI y)] (zw h mm) (VP h m (-1)) 0 0 :=
  vw hF (eX3_growth (nI x) (nI y) (fun z => by
    rcases hb with rfl | rfl
    · exact absurd z.1 (by decide)
    · exact absurd z.2.2 (by decide))) rfl
theorem e_nest (hF : Fsv m mm) {x y : Nat} (hx : x < 9) (hy : y < 32) (hb : x = 8 ∨ y = 31) : zMet G l yX3_nest mX3_nest [.ref (G.1 + 0), .int (nI x), .int (nI y)] (zw h mm) (VP h m (-1)) 0 0 :=
  vw hF (eX3_nest (nI x) (nI y) (fun z => by
    rcases hb with rfl | rfl
    · exact absurd z.1 (by decide)
    · exact absurd z.2.2 (by decide))) rfl
theorem e_clip (hF : Fsv m mm) {x y : Nat} (hx : x < 9) (hy : y < 101) (hb : x = 8 ∨ y = 0 ∨ y = 100) : zMet G l yX3_clip mX3_clip [.ref (G.1 + 0), .int (nI x), .int (nI y)] (zw h mm) (VP h m (-1)) 0 0 :=
  vw hF (eX3_clip (nI x) (nI y) (fun z => by
    rcases hb with rfl | rfl | rfl
    · exact absurd z.1 (by decide)
    · exact absurd z.2.1 (by decide)
    · exact absurd z.2.2 (by decide))) rfl
theorem ref_fc {a : zM} : FC a (refM a) := FC.rf.up (by decide)
theorem cut_fc {a : zM} (i : Nat) (y : Int32) : FC a (cutM a 1 i y) := fun q x _ => cuM_o _ _ _ (by omega) (by omega) (by omega)
theorem nestA (sy : Sy K h m n s) (hF : Fsv m mm) {i : Nat} : sNest (mRem h mm s) 1 i ↔ sNest m 1 i := by
  show mRem h mm s 1 9 < mRem h mm s (1 + 3) i ↔ _
  rw [rq sy hF (by decide) (by decide), rq sy hF (by decide) (by decide)]
abbrev RefR (m M : zM) : Prop := M 1 12 = m 1 12 + nI 1 ∧ M 1 13 = m 1 13 ∧ M 5 = m 5 ∧ M 2 = m 2 ∧ M 9 = m 9 ∧ M 1 10 = m 1 10
theorem refRo {A m : zM} (e : ∀ q, 1 ≤ q → q ≤ 9 → A q = m q) : RefR m (refM A) :=
  ⟨(up2_eq A 1 12 _).trans (by rw [e 1 (by decide) (by decide)]), (up2_ne A _ (by decide)).trans (by rw [e 1 (by decide) (by decide)]), (up2_na A _ _ (by decide)).trans (e 5 (by decide) (by decide)), (up2_na A _ _ (by decide)).trans (e 2 (by decide) (by decide)), (up2_na A _ _ (by decide)).trans (e 9 (by decide) (by decide)), (up2_ne A _ (by decide)).trans (by rw [e 1 (by decide) (by decide)])⟩
theorem refR (sy : Sy K h m n s) (hF : Fsv m mm) : RefR m (refM (mRem h mm s)) := refRo (fun q a b => rq sy hF a b)
theorem refA (sy : Sy K h m n s) (hF : Fsv m mm) : Act K h m n s (hRem h s) (refM (mRem h mm s)) n (sN s) := mkA sy hF ref_fc ((IA sy hF).ref.mono (Nat.le_succ K))
theorem v_clipA (sy : Sy K h m n s) (hF : Fsv m mm) {i y : Nat} (hi : i < 8) (hy : 1 ≤ y) (hy2 : y < 100) (c : sNest m 1 i) : zMet G l yX3_clip mX3_clip [.ref (G.1 + 0), .int (nI i), .int (nI y)] (zw h mm) (VA K h m n s (nI 3) n (RefR m)) 0 0 :=
  zMet_post (zX3_clip s sy.s4 (stF5 sy hF) sy.1 i hi (nI y) (nI_nlt hy (by omega)) (nI_nlt (by omega) (by decide))) (fun r w hp => by
    unfold clipR clipM at hp
    rw [if_pos ((nestA sy hF).mpr c), if_pos ((nestA sy hF).mpr c)] at hp
    exact ⟨hp.1, _, hp.2, refA sy hF, refR sy hF⟩)
theorem v_clipB (sy : Sy K h m n s) (hF : Fsv m mm) {i y : Nat} (hi : i < 8) (hy : 1 ≤ y) (hy2 : y < 100) (c : ¬ sNest m 1 i) (c2 : m 2 i < nI y) : zMet G l yX3_clip mX3_clip [.ref (G.1 + 0), .int (nI i), .int (nI y)] (zw h mm) (VA K h m n s (nI 4) n (RefR m)) 0 0 :=
  zMet_post (zX3_clip s sy.s4 (stF5 sy hF) sy.1 i hi (nI y) (nI_nlt hy (by omega)) (nI_nlt (by omega) (by decide))) (fun r w hp => by
    unfold clipR clipM at hp
    have c3 : mRem h mm s 2 i < nI y := by
      rw [rq sy hF (by decide) (by decide)]
      exact c2
    rw [if_neg (fun z => c ((nestA sy hF).mp z)), if_neg (fun z => c ((nestA sy hF).mp z)), if_pos c3, if_pos c3] at hp
    exact ⟨hp.1, _, hp.2, refA sy hF, refR sy hF⟩)
theorem v_clipC (sy : Sy K h m n s) (hK : K ≤ 1000) (hF : Fsv m mm) {i y : Nat} (hi : i < 8) (hy : 1 ≤ y) (hy2 : y < 100) (c : ¬ sNest m 1 i) (c2 : ¬ m 2 i < nI y) : zMet G l yX3_clip mX3_clip [.ref (G.1 + 0), .int (nI i), .int (nI y)] (zw h mm) (VA K h m n s (nI 10 + m 2 i - nI y) n (fun M => M 1 12 = m 1 12 ∧ M 1 13 = m 1 13 + nI 1 ∧ sumI (M 5) 8 = sumI (m 5) 8 + nI y ∧ M 2 i = m 2 i - nI y)) 0 0 :=
  zMet_post (zX3_clip s sy.s4 (stF5 sy hF) sy.1 i hi (nI y) (nI_nlt hy (by omega)) (nI_nlt (by omega) (by decide))) (fun r w hp => by
    unfold clipR clipM at hp
    have e2 : mRem h mm s 2 = m 2 := rq sy hF (by decide) (by decide)
    have c3 : ¬ mRem h mm s 2 i < nI y := by
      rw [e2]
      exact c2
    rw [if_neg (fun z => c ((nestA sy hF).mp z)), if_neg (fun z => c ((nestA sy hF).mp z)), if_neg c3, if_neg c3] at hp
    have hb := (sy.inv.hh hi)
    have ey : (nI y).toInt = y := nI_toInt (by omega)
    rw [i32_lt, ey] at c2
    refine ⟨by rw [hp.1, e2, Int32.sub_eq_add_neg, Int32.sub_eq_add_neg, Int32.add_assoc], _, hp.2, mkA sy hF (cut_fc i _) ((IA sy hF).cut hK hi (by rw [e2, ey]; omega)), by rw [cuM_1 _ _ _ (by decide), rq sy hF (by decide) (by decide)], by rw [cuM_13, rq sy hF (by decide) (by decide)], ?_, by rw [cuM_2, if_pos rfl, e2]⟩
    rw [sumI_congr (g := fun j => if j = i then m 5 i + nI y else m 5 j) 8 (fun j hj => by rw [cuM_5, rq sy hF (by decide) (by decide)]), sumI_up, if_pos hi])
theorem e_freeze (sy : Sy K h m n s) (hF : Fsv m mm) {x y : Nat} (hx : x ≤ n) (hy : y < 32) (hb : x = n ∨ y = 0 ∨ y = 31) : zMet G l yX3_freeze mX3_freeze [.ref (G.1 + 0), .int (nI x), .int (nI y)] (zw h mm) (VP h m (-1)) 0 0 :=
  vw hF (eX3_freeze n (by rw [hF 1 (by decide)]; exact sy.inv.e8) (nI x) (nI y) (fun z => by
    rcases hb with rfl | rfl | rfl
    · exact Int32.lt_irrefl z.1.2
    · exact absurd z.2.1 (by decide)
    · exact absurd z.2.2 (by decide))) rfl
theorem e_thaw (sy : Sy K h m n s) (hF : Fsv m mm) : zMet G l yX3_thaw mX3_thaw [.ref (G.1 + 0), .int (nI n)] (zw h mm) (VP h m (-1)) 0 0 :=
  vw hF (eX3_thaw n (by rw [hF 1 (by decide)]; exact sy.inv.e8) (nI n) (fun z => Int32.lt_irrefl z.2)) rfl
theorem e_cancel (sy : Sy K h m n s) (hF : Fsv m mm) : zMet G l yX3_cancel mX3_cancel [.ref (G.1 + 0), .int (nI n)] (zw h mm) (VP h m (-1)) 0 0 :=
  vw hF (eX3_cancel n (by rw [hF 1 (by decide)]; exact sy.inv.e8) (nI n) (fun z => Int32.lt_irrefl z.2)) rfl
theorem fr_fc {a : zM} (t : Nat) (y : Int32) : FC a (frM a t y) := by
  unfold frM
  split
  · exact (FC.rf.up (by decide)).up (by decide)
  · exact FC.rf.up (by decide)
theorem v_freeze (sy : Sy K h m n s) (hK : K ≤ 1000) (hF : Fsv m mm) {t y : Nat} (ht : t < n) (hy : 1 ≤ y) (hy2 : y < 31) : zMet G l yX3_freeze mX3_freeze [.ref (G.1 + 0), .int (nI t), .int (nI y)] (zw h mm) (VA K h m n s (m 1 10 + bI (sBrk m 1 t (nI 0))) n (fun M => M 1 10 = m 1 10 + bI (sBrk m 1 t (nI 0)) ∧ M 9 t = m 1 9 + nI y ∧ ¬ sForce M 1 t)) 0 0 :=
  zMet_post (zX3_freeze s sy.s4 (stF5 sy hF) sy.1 n (hF.sOk sy.ok) t ht (nI y) (nI_nlt hy (by omega)) (nI_nlt (by omega) (by decide))) (fun r w hp => by
    have ey : (nI y).toInt = y := nI_toInt (by omega)
    have eb := (eqA sy hF).brk (IA sy hF).ok ht (nI 0)
    have e1 : mRem h mm s 1 = m 1 := rq sy hF (by decide) (by decide)
    have hd := sy.inv.day
    have ed : (m 1 9 + nI y).toInt = (m 1 9).toInt + y := by rw [i32_add (by omega) (by omega), ey]
    have e9 : frM (mRem h mm s) t (nI y) 9 t = m 1 9 + nI y := by
      unfold frM
      split
      · rw [up2_eq, e1]
      · rw [up2_eq, e1]
    have e19 : frM (mRem h mm s) t (nI y) 1 9 = m 1 9 := by
      unfold frM
      split
      · rw [up2_na _ _ _ (by decide), up2_ne _ _ (by decide), e1]
      · rw [up2_na _ _ _ (by decide), e1]
    refine ⟨?_, _, hp.2, mkA sy hF (fr_fc t _) ((IA sy hF).frM hK t (by rw [ey]; omega)), ?_, e9, fun z => ?_⟩
    · rw [hp.1]
      unfold frR
      by_cases c : sBrk m 1 t (nI 0)
      · rw [if_pos (eb.mpr c), bI_t c, e1]
      · rw [if_neg (fun z => c (eb.mp z)), bI_f c, e1, nI_0, Int32.add_zero]
    · unfold frM
      by_cases c : sBrk m 1 t (nI 0)
      · rw [if_pos (eb.mpr c), bI_t c, up2_na _ _ _ (by decide), up2_eq, e1]
      · rw [if_neg (fun z => c (eb.mp z)), bI_f c, up2_na _ _ _ (by decide), e1, nI_0, Int32.add_zero]
    · have z2 : frM (mRem h mm s) t (nI y) 9 t ≤ frM (mRem h mm s) t (nI y) 1 9 := z
      rw [e9, e19, i32_le, ed] at z2
      omega)
theorem forceA (sy : Sy K h m n s) (hF : Fsv m mm) {t : Nat} (ht : t < n) : sForce (mRem h mm s) 1 t ↔ sForce m 1 t := (eqA sy hF).force ht
theorem v_thawA (sy : Sy K h m n s) (hF : Fsv m mm) {t : Nat} (ht : t < n) (c : sForce m 1 t) : zMet G l yX3_thaw mX3_thaw [.ref (G.1 + 0), .int (nI t)] (zw h mm) (VA K h m n s (nI 5) n (RefR m)) 0 0 :=
  zMet_post (zX3_thaw s sy.s4 (stF5 sy hF) sy.1 n (hF.sOk sy.ok) t ht) (fun r w hp => by
    unfold thR thM at hp
    rw [if_pos ((forceA sy hF ht).mpr c), if_pos ((forceA sy hF ht).mpr c)] at hp
    exact ⟨hp.1, _, hp.2, refA sy hF, refR sy hF⟩)
theorem v_thawB (sy : Sy K h m n s) (hF : Fsv m mm) {t : Nat} (ht : t < n) (c : ¬ sForce m 1 t) (c2 : m 1 10 < m 9 t - m 1 9) : zMet G l yX3_thaw mX3_thaw [.ref (G.1 + 0), .int (nI t)] (zw h mm) (VA K h m n s (nI 6) n (RefR m)) 0 0 :=
  zMet_post (zX3_thaw s sy.s4 (stF5 sy hF) sy.1 n (hF.sOk sy.ok) t ht) (fun r w hp => by
    unfold thR thM at hp
    have c3 : mRem h mm s 1 10 < mRem h mm s 9 t - mRem h mm s 1 9 := by
      rw [rq sy hF (by decide) (by decide), rq sy hF (by decide) (by decide)]
      exact c2
    rw [if_neg (fun z => c ((forceA sy hF ht).mp z)), if_neg (fun z => c ((forceA sy hF ht).mp z)), if_pos c3, if_pos c3] at hp
    exact ⟨hp.1, _, hp.2, refA sy hF, refR sy hF⟩)
theorem th_fc {a : zM} (t : Nat) : FC a (thM a t) := by
  unfold thM
  split
  · exact ref_fc
  · split
    · exact ref_fc
    · exact (FC.rf.up (by decide)).up (by decide)
theorem v_thawC (sy : Sy K h m n s) (hK : K ≤ 1000) (hF : Fsv m mm) {t : Nat} (ht : t < n) (c : ¬ sForce m 1 t) (c2 : ¬ m 1 10 < m 9 t - m 1 9) : zMet G l yX3_thaw mX3_thaw [.ref (G.1 + 0), .int (nI t)] (zw h mm) (VA K h m n s (nI 10 + m 1 10 - (m 9 t - m 1 9)) n (fun M => M 1 12 = m 1 12 ∧ M 9 t = m 1 9 ∧ M 1 10 = m 1 10 - (m 9 t - m 1 9))) 0 0 :=
  zMet_post (zX3_thaw s sy.s4 (stF5 sy hF) sy.1 n (hF.sOk sy.ok) t ht) (fun r w hp => by
    have e1 : mRem h mm s 1 = m 1 := rq sy hF (by decide) (by decide)
    have e9 : mRem h mm s 9 = m 9 := rq sy hF (by decide) (by decide)
    have c3 : ¬ mRem h mm s 1 10 < mRem h mm s 9 t - mRem h mm s 1 9 := by
      rw [e1, e9]
      exact c2
    have hA : Act K h m n s (hRem h s) (thM (mRem h mm s) t) n (sN s) := mkA sy hF (th_fc t) (((IA sy hF).thM hK ht).mono (Nat.le_succ K))
    have em : thM (mRem h mm s) t = up2 (up2 (mRem h mm s) 1 10 (m 1 10 - (m 9 t - m 1 9))) 9 t (m 1 9) := by
      unfold thM
      rw [if_neg (fun z => c ((forceA sy hF ht).mp z)), if_neg c3, e1, e9]
    refine ⟨?_, _, hp.2, hA, ?_⟩
    · rw [hp.1]
      unfold thR
      rw [if_neg (fun z => c ((forceA sy hF ht).mp z)), if_neg c3, e1, e9, Int32.sub_eq_add_neg (a := m 1 10), Int32.sub_eq_add_neg (a := nI 10 + m 1 10), Int32.add_assoc]
    · rw [em]
      refine ⟨?_, up2_eq _ _ _ _, ?_⟩
      · rw [up2_na _ _ _ (by decide), up2_ne _ _ (by decide), e1]
      · rw [up2_na _ _ _ (by decide), up2_eq])
theorem rm_fc {a : zM} {t n : Nat} (v : Int32) : FC a (up2 (rmM a 1 t n) 1 8 v) := fun q x _ => by
  rw [up2_na _ _ _ (by omega)]
  funext k
  unfold rmM
  rw [if_neg (by omega)]
theorem v_cancel (sy : Sy K h m n s) (hF : Fsv m mm) {t : Nat} (ht : t < n) : zMet G l yX3_cancel mX3_cancel [.ref (G.1 + 0), .int (nI t)] (zw h mm) (VA K h m n s (nI (n - 1)) (n - 1) (fun _ => True)) 0 0 :=
  zMet_post (zX3_cancel s sy.s4 (stF5 sy hF) sy.1 n sy.inv.n14 (by rw [hF 1 (by decide)]; exact sy.inv.e8) t ht) (fun r w hp => ⟨hp.1, _, hp.2, mkA sy hF (rm_fc _) (((IA sy hF).rm ht).mono (Nat.le_succ K)), trivial⟩)
theorem WyP.one {a b : Nat} {d v v' : Int32} (h1 : WyP m n a b d v) (h2 : WyP m n a b d v') : v = v' := by
  rcases h1 with ⟨x, rfl⟩ | ⟨x, y⟩ <;> rcases h2 with ⟨z, rfl⟩ | ⟨z, u⟩
  · rfl
  · exact absurd z x
  · exact absurd x z
  · exact rsn.one Iff.rfl Iff.rfl y u
theorem e_sign (sy : Sy K h m n s) (hF : Fsv m mm) {a b : Nat} {d : Int32} (c : ¬ agr (nI a) (nI b) d) : zMet G l yX3_sign mX3_sign [.ref (G.1 + 0), .int (nI a), .int (nI b), .int d] (zw h mm) (VP h m (-1)) 0 0 := by
  have e : esg n (nI a) (nI b) d = -1 := esg_1 c
  exact vw hF (eX3_sign n (by rw [hF 1 (by decide)]; exact sy.inv.e8) (nI a) (nI b) d (by rw [e]; decide)) e
theorem l_sign (sy : Sy K h m n s) (hF : Fsv m mm) {a b : Nat} {d : Int32} (c : agr (nI a) (nI b) d) (hn : n = 14) : zMet G l yX3_sign mX3_sign [.ref (G.1 + 0), .int (nI a), .int (nI b), .int d] (zw h mm) (VP h m (-3)) 0 0 := by
  have e : esg n (nI a) (nI b) d = -3 := esg_3 c (by rw [hn]; decide)
  exact vw hF (eX3_sign n (by rw [hF 1 (by decide)]; exact sy.inv.e8) (nI a) (nI b) d (by rw [e]; decide)) e
theorem add_fc {a : zM} (n : Nat) (f o d : Int32) : FC a (addM a 1 n f o d) := fun q x _ => addM_o _ _ _ _ _ x
theorem v_sign (sy : Sy K h m n s) (hF : Fsv m mm) {a b : Nat} (ha : a < 9) (hb : b < 9) {d : Int32} (c : agr (nI a) (nI b) d) (hn : n < 14) : zMet G l yX3_sign mX3_sign [.ref (G.1 + 0), .int (nI a), .int (nI b), .int d] (zw h mm) (fun r w => (WyP m n a b d (nI 0) ∧ VA K h m n s (nI (10 + n)) (n + 1) (fun M => M 1 12 = m 1 12 ∧ M 8 n = d ∧ M 9 n = nI 0 ∧ sF M 1 n = a ∧ sO M 1 n = b) r w) ∨ (∃ v, (v = nI 1 ∨ v = nI 2) ∧ WyP m n a b d v ∧ VA K h m n s v n (RefR m) r w)) 0 0 := by
  have a8 := (hdgI (by omega)).mp c.1
  have b8 := (hdgI (by omega)).mp c.2.1
  obtain ⟨-, -, -, -, -, -, d1, d2⟩ := agr_in c
  have hA := IA sy hF
  refine zMet_post (zX3_sign s sy.s4 (stF5 sy hF) sy.1 n hA.g a b a8 b8 d (by omega) hn (by rw [hF 1 (by decide)]; exact sy.inv.e8) (esg_0 c (nI_lt hn (by decide)))) (fun r w hp => ?_)
  obtain ⟨m', y, rr, hF2, hT, -, hr, hc⟩ := hp
  have eE := eqA sy hF
  have ey := tpB_of (eE.topB hT)
  have hwy : WyP m n a b d rr := by
    refine Or.inr ⟨c, ?_⟩
    have hr2 : rsn (FeI (mRem h mm s) n a b d.toInt) (y b) d.toInt rr := by
      rcases hr with ⟨x, z⟩ | ⟨x, y, z⟩ | ⟨x, y, z⟩
      · exact Or.inl ⟨fun q => x (FeI.iff.mpr q), z⟩
      · exact Or.inr (Or.inl ⟨FeI.iff.mp x, y, z⟩)
      · exact Or.inr (Or.inr ⟨FeI.iff.mp x, y, z⟩)
    rw [ey]
    unfold rsn at hr2 ⊢
    rw [eE.fe] at hr2
    exact hr2
  have hI' : Inv K m' n := hA.q (fun q p r => (hF2 q (by omega)).symm)
  have eq9 : ∀ q, 1 ≤ q → q ≤ 9 → m' q = m q := fun q p r => (hF2 q (by omega)).trans (rq sy hF p r)
  rcases hc with ⟨e0, er, ew⟩ | ⟨e0, er, ew⟩
  · refine Or.inl ⟨e0 ▸ hwy, er, _, ew, mkA sy hF ((FC.sv hF2).trans9 (add_fc n _ _ _)) ?_, ?_, ?_, ?_, ?_, ?_⟩
    · have hfe : Fea (eN m' a b d) (n + 1) := by
        rcases hr with ⟨x, z⟩ | ⟨x, y, z⟩ | ⟨x, y, z⟩
        · rw [e0] at z
          exact absurd z (by decide)
        · rw [e0] at z
          exact absurd z (by decide)
        · exact FeI.iff.mpr ((FeI.fsv hF2).mpr (FeI.iff.mp x))
      exact (hI'.add hn a8 b8 (fun z => c.2.2.1 (congrArg nI z)) ⟨d1, d2⟩ hfe).mono (Nat.le_succ K)
    · rw [addM_1 _ _ _ _ _ (by decide) (by decide), eq9 1 (by decide) (by decide)]
    · rw [addM_8, if_pos rfl]
    · rw [addM_9, if_pos rfl]
    · unfold sF
      rw [show (1 + 5 : Nat) = 6 from rfl, addM_6, if_pos rfl, nI_clamp (by omega)]
    · unfold sO
      rw [show (1 + 6 : Nat) = 7 from rfl, addM_7, if_pos rfl, nI_clamp (by omega)]
  · refine Or.inr ⟨rr, ?_, hwy, er, _, ew, mkA sy hF ((FC.sv hF2).trans9 ref_fc) (hI'.ref.mono (Nat.le_succ K)), ?_⟩
    · rcases hr with ⟨x, z⟩ | ⟨x, y, z⟩ | ⟨x, y, z⟩
      · exact Or.inl z
      · exact Or.inr z
      · exact absurd z e0
    · exact refRo eq9
theorem day_fc {a : zM} : FC a (dayM a 1) := fun q x _ => dayM_o (by omega) (by omega)
theorem v_day (sy : Sy K h m n s) (hK : K ≤ 1000) (hF : Fsv m mm) : zMet G l yX3_day mX3_day [.ref (G.1 + 0)] (zw h mm) (VA K h m n s (nI (bcA m n 1)) n (fun M => cB M n = bcA m n 1 ∧ sumI (M 2) 8 = sumI (fun i => hAft m 1 i (nI 1)) 8 ∧ M 1 9 = m 1 9 + nI 1)) 0 0 :=
  zMet_post (zX3_day s sy.s4 (stF5 sy hF) sy.1 n (hF.sOk sy.ok)) (fun r w hp => by
    have hI := sy.inv
    have hA := (IA sy hF).dayM hK
    have e1 : mRem h mm s 1 = m 1 := rq sy hF (by decide) (by decide)
    have e2 : ∀ i, i < 8 → dayM (mRem h mm s) 1 2 i = hAft m 1 i (nI 1) := fun i hi => by
      rw [← (eqA sy hF).aft hi]
      unfold dayM
      rw [up2_na _ _ _ (by decide)]
      unfold pdM
      rw [if_pos ⟨rfl, hi⟩]
    have e9 : dayM (mRem h mm s) 1 1 9 = m 1 9 + nI 1 := by
      unfold dayM
      rw [up2_eq, e1]
    have eo : ∀ q, 6 ≤ q → q ≤ 9 → dayM (mRem h mm s) 1 q = m q := fun q a b => (dayM_o (by omega) (by omega)).trans (rq sy hF (by omega) b)
    have eb : cB (dayM (mRem h mm s) 1) n = bcA m n 1 := cnt_congr n (fun t ht => decide_eq_decide.mpr (by
      have f8 := hI.f8 ht
      have o8 := hI.o8 ht
      have ef : sF (dayM (mRem h mm s) 1) 1 t = sF m 1 t := by
        unfold sF
        rw [eo (1 + 5) (by decide) (by decide)]
      have eo2 : sO (dayM (mRem h mm s) 1) 1 t = sO m 1 t := by
        unfold sO
        rw [eo (1 + 6) (by decide) (by decide)]
      have es : slackA (dayM (mRem h mm s) 1) 1 t (nI 0) = slackA m 1 t (nI 1) := by
        rw [← hA.slack ht, ef, eo2, e2 _ f8.2, e2 _ o8.2, eo 8 (by decide) (by decide)]
        unfold slackA
        rw [Int32.add_comm (m 8 t)]
      rw [brk0, es]
      show dayM (mRem h mm s) 1 9 t ≤ dayM (mRem h mm s) 1 1 9 ∧ _ ↔ m 9 t ≤ m 1 9 + nI 1 ∧ _
      rw [eo 9 (by decide) (by decide), e9]))
    refine ⟨by rw [hp.1]; exact congrArg (fun z => some (Value.int (nI z))) eb, _, hp.2, mkA sy hF day_fc hA, eb, ?_, e9⟩
    exact sumI_congr 8 (fun i hi => e2 i hi))
end
