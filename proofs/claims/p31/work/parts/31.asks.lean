/-! asks: whyNot, bound, tightest, ifDays, breaksIn, whatever they are asked -/
theorem hdgI {a : Nat} (ha : a < 2 ^ 31) : hdg (nI a) ↔ a < 8 := ⟨fun h => (nI_ltI ha (by decide)).mp h.2, fun h => hdgN h⟩
abbrev VR (h : Nat → Nat) (m : zM) (R : Int32 → Prop) : Option Value → zW → Prop := fun r w => ∃ v, r = some (.int v) ∧ R v ∧ ∃ m', w = zw h m' ∧ Fsv m m'
def WyP (m : zM) (n a b : Nat) (d : Int32) (v : Int32) : Prop := (¬ agr (nI a) (nI b) d ∧ v = -1) ∨ (agr (nI a) (nI b) d ∧ rsn (FeI m n a b d.toInt) (tpB m n a b) d.toInt v)
def BdP (m : zM) (n a b : Nat) (v : Int32) : Prop := (a < 8 ∧ b < 8 ∧ v = bnd m n a b) ∨ (¬ (a < 8 ∧ b < 8) ∧ v = -1)
def TgP (m : zM) (n a b : Nat) (v : Int32) : Prop := (¬ agr (nI a) (nI b) (nI 60) ∧ v = -1) ∨ (agr (nI a) (nI b) (nI 60) ∧ ((¬ FeI m n a b 60 ∧ v = -4) ∨ ∃ D : Int, -30 ≤ D ∧ D ≤ 60 ∧ FeI m n a b D ∧ (∀ e, -30 ≤ e → e < D → ¬ FeI m n a b e) ∧ v.toInt = D + 100))
section
variable {G : zG} {l : Launch} {h : Nat → Nat} {m mm : zM} {n : Nat}
theorem v_whyNot (hF : Fsv m mm) (g : gOk m n) {a b : Nat} (ha : a < 9) (hb : b < 9) (d : Int32) : zMet G l yX3_whyNot mX3_whyNot [.ref (G.1 + 0), .int (nI a), .int (nI b), .int d] (zw h mm) (VR h m (WyP m n a b d)) 0 0 := by
  by_cases c : agr (nI a) (nI b) d
  · have a8 := (hdgI (by omega)).mp c.1
    have b8 := (hdgI (by omega)).mp c.2.1
    obtain ⟨-, -, -, -, -, -, d1, d2⟩ := agr_in c
    refine zMet_post (zX3_whyNot n (hF.gOk g) a b a8 b8 d (by omega) c) (fun r w hp => ?_)
    obtain ⟨m', y, e, hF2, hT, -, v, er, hv⟩ := hp
    have ey := tpB_of (hF.eqs.topB hT)
    refine ⟨v, er, Or.inr ⟨c, ?_⟩, m', e, hF.trans hF2⟩
    have hv2 : rsn (FeI mm n a b d.toInt) (y b) d.toInt v := by
      rcases hv with ⟨x, z⟩ | ⟨x, y, z⟩ | ⟨x, y, z⟩
      · exact Or.inl ⟨fun q => x (FeI.iff.mpr q), z⟩
      · exact Or.inr (Or.inl ⟨FeI.iff.mp x, y, z⟩)
      · exact Or.inr (Or.inr ⟨FeI.iff.mp x, y, z⟩)
    rw [ey]
    unfold rsn at hv2 ⊢
    rw [FeI.fsv hF] at hv2
    exact hv2
  · exact zMet_post (eX3_whyNot (nI a) (nI b) d c) (fun r w hp => ⟨-1, hp.1, Or.inl ⟨c, rfl⟩, mm, hp.2, hF⟩)
theorem v_boundX (hF : Fsv m mm) (g : gOk m n) {a b k : Nat} (ha : a < 9) (hb : b < 9) (hk : k < 2) : zMet G l yX3_bound mX3_bound [.ref (G.1 + 0), .int (nI a), .int (nI b), .int (nI k)] (zw h mm) (VR h m (BdP m n a b)) 0 0 := by
  by_cases c : a < 8 ∧ b < 8
  · have e : k = 0 ∨ k = 1 := by omega
    rcases e with rfl | rfl
    · exact zMet_post (v_bound0 hF g c.1 c.2) (fun r w hp => ⟨_, hp.1, Or.inl ⟨c.1, c.2, rfl⟩, hp.2⟩)
    · exact zMet_post (v_bound1 hF g c.1 c.2) (fun r w hp => ⟨_, hp.1, Or.inl ⟨c.1, c.2, rfl⟩, hp.2⟩)
  · refine zMet_post (eX3_bound (nI a) (nI b) (nI k) (fun z => c ⟨(hdgI (by omega)).mp z.1, (hdgI (by omega)).mp z.2.1⟩)) (fun r w hp => ⟨-1, hp.1, Or.inr ⟨c, rfl⟩, mm, hp.2, hF⟩)
theorem v_tight (hF : Fsv m mm) (g : gOk m n) {a b : Nat} (ha : a < 9) (hb : b < 9) : zMet G l yX3_tightest mX3_tightest [.ref (G.1 + 0), .int (nI a), .int (nI b)] (zw h mm) (VR h m (TgP m n a b)) 0 0 := by
  by_cases c : agr (nI a) (nI b) (nI 60)
  · have a8 := (hdgI (by omega)).mp c.1
    have b8 := (hdgI (by omega)).mp c.2.1
    refine zMet_post (zX3_tightest n (hF.gOk g) a b a8 b8 c) (fun r w hp => ?_)
    obtain ⟨m', e, hF2, hv⟩ := hp
    rcases hv with ⟨x, er⟩ | ⟨D, d1, d2, d3, d4, v, er, ev⟩
    · exact ⟨-4, er, Or.inr ⟨c, Or.inl ⟨fun z => x ((FeI.fsv hF).mpr z), rfl⟩⟩, m', e, hF.trans hF2⟩
    · exact ⟨v, er, Or.inr ⟨c, Or.inr ⟨D, d1, d2, (FeI.fsv hF).mp d3, fun e9 x y z => d4 e9 x y ((FeI.fsv hF).mpr z), ev⟩⟩, m', e, hF.trans hF2⟩
  · exact zMet_post (eX3_tightest (nI a) (nI b) c) (fun r w hp => ⟨-1, hp.1, Or.inl ⟨c, rfl⟩, mm, hp.2, hF⟩)
/-- what ifDays says; w9: 1 above what is asked -/
def DyP (m : zM) (n D w9 : Nat) (v : Int32) : Prop := ((D = 0 ∨ D = 31 ∨ w9 = 0 ∨ w9 = 3) ∧ v = -1) ∨ (1 ≤ D ∧ D ≤ 30 ∧ ((w9 = 1 ∧ v = nI (bcA m n D)) ∨ (w9 = 2 ∧ v = sumI (fun i => hAft m 1 i (nI D)) 8)))
theorem v_ifDays (hF : Fsv m mm) (hk : sOk m 1 n) {D w9 : Nat} (hD : D < 32) (hw : w9 < 4) : zMet G l yX3_ifDays mX3_ifDays [.ref (G.1 + 0), .int (nI D), .int (nI w9 - nI 1)] (zw h mm) (VR h m (DyP m n D w9)) 0 0 := by
  by_cases c : 1 ≤ D ∧ D ≤ 30
  · have c1 : ¬ nI D < nI 1 := nI_nlt c.1 (by omega)
    have c2 : ¬ nI 30 < nI D := nI_nlt c.2 (by decide)
    have e : w9 = 0 ∨ w9 = 1 ∨ w9 = 2 ∨ w9 = 3 := by omega
    rcases e with rfl | rfl | rfl | rfl
    · exact zMet_post (eX3_ifDaysB (nI D) c1 c2 (nI 0 - nI 1) (by decide) (by decide)) (fun r w hp => ⟨-1, hp.1, Or.inl ⟨Or.inr (Or.inr (Or.inl rfl)), rfl⟩, mm, hp.2, hF⟩)
    · rw [show nI 1 - nI 1 = nI 0 by decide]
      refine zMet_post (zX3_ifDays0 n (hF.sOk hk) (nI D) c1 c2) (fun r w hp => ⟨_, hp.1, Or.inr ⟨c.1, c.2, Or.inl ⟨rfl, ?_⟩⟩, mm, hp.2, hF⟩)
      exact congrArg nI (cnt_congr n (fun j hj => decide_eq_decide.mpr (hF.eqs.brk (hF.sOk hk) hj (nI D))))
    · rw [show nI 2 - nI 1 = nI 1 by decide]
      refine zMet_post (zX3_ifDays1 n (hF.sOk hk) (nI D) c1 c2) (fun r w hp => ⟨_, hp.1, Or.inr ⟨c.1, c.2, Or.inr ⟨rfl, ?_⟩⟩, mm, hp.2, hF⟩)
      exact sumI_congr 8 (fun j hj => (hF.eqs (n := 0)).aft hj (nI D))
    · exact zMet_post (eX3_ifDaysB (nI D) c1 c2 (nI 3 - nI 1) (by decide) (by decide)) (fun r w hp => ⟨-1, hp.1, Or.inl ⟨Or.inr (Or.inr (Or.inr rfl)), rfl⟩, mm, hp.2, hF⟩)
  · have e : D = 0 ∨ D = 31 := by omega
    refine zMet_post (eX3_ifDaysA (nI D) (nI w9 - nI 1) (fun z => ?_)) (fun r w hp => ⟨-1, hp.1, Or.inl ⟨by omega, rfl⟩, mm, hp.2, hF⟩)
    rcases e with rfl | rfl
    · exact z.1 (by decide)
    · exact z.2 (by decide)
theorem v_breaksIn (hF : Fsv m mm) (hk : sOk m 1 n) : zMet G l yX3_breaksIn mX3_breaksIn [.ref (G.1 + 0)] (zw h mm) (VR h m (brkIn (bcA m n))) 0 0 := by
  refine zMet_post (zX3_breaksIn n (hF.sOk hk)) (fun r w hp => ?_)
  obtain ⟨⟨v, er, hv⟩, ew⟩ := hp
  have e : bcA mm n = bcA m n := funext (fun k => cnt_congr n (fun j hj => decide_eq_decide.mpr (hF.eqs.brk (hF.sOk hk) hj (nI k))))
  rw [e] at hv
  exact ⟨v, er, hv, mm, ew, hF⟩
end
/-- what the three answers about a and b have to do with one another -/
def WOff (a b : Nat) : Prop := a = 8 ∨ b = 8
def WNo (a b : Nat) : Prop := WOff a b ∨ a = b
section
variable {K n : Nat} {m : zM} {a b : Nat} {d wy bd tg : Int32}
theorem agr60 (ha : a < 9) (hb : b < 9) : agr (nI a) (nI b) (nI 60) ↔ ¬ WNo a b := by
  unfold agr WNo WOff
  rw [hdgI (by omega), hdgI (by omega)]
  constructor
  · rintro ⟨h1, h2, h3, -, -⟩ z
    rcases z with z | z
    · omega
    · exact h3 (congrArg nI z)
  · intro z
    exact ⟨by omega, by omega, fun y => z (Or.inr ((nI_eq (by omega) (by omega)).mp y)), by decide, by decide⟩
theorem agrD (ha : a < 9) (hb : b < 9) : agr (nI a) (nI b) d ↔ ¬ WNo a b ∧ ¬ d < -30 ∧ ¬ nI 60 < d := by
  rw [← agr60 ha hb]
  exact ⟨fun z => ⟨⟨z.1, z.2.1, z.2.2.1, by decide, by decide⟩, z.2.2.2.1, z.2.2.2.2⟩, fun z => ⟨z.1.1, z.1.2.1, z.1.2.2.1, z.2.1, z.2.2⟩⟩
theorem tg_no (ha : a < 9) (hb : b < 9) (h : TgP m n a b tg) (hno : WNo a b) : tg = -1 := by
  rcases h with ⟨-, e⟩ | ⟨x, -⟩
  · exact e
  · exact absurd hno ((agr60 ha hb).mp x)
theorem tg_yes (ha : a < 9) (hb : b < 9) (h : TgP m n a b tg) (hno : ¬ WNo a b) : tg = -4 ∨ (70 ≤ tg.toInt ∧ tg.toInt ≤ 160) := by
  rcases h with ⟨x, -⟩ | ⟨-, ⟨-, e⟩ | ⟨D, d1, d2, -, -, e⟩⟩
  · exact absurd ((agr60 ha hb).mpr hno) x
  · exact Or.inl e
  · exact Or.inr (by omega)
theorem wy_no (ha : a < 9) (hb : b < 9) (h : WyP m n a b d wy) (hno : WNo a b ∨ d < -30 ∨ nI 60 < d) : wy = -1 := by
  rcases h with ⟨-, e⟩ | ⟨x, -⟩
  · exact e
  · have y := (agrD ha hb).mp x
    rcases hno with z | z | z
    · exact absurd z y.1
    · exact absurd z y.2.1
    · exact absurd z y.2.2
theorem wy_1 (ha : a < 9) (hb : b < 9) (h : WyP m n a b d wy) (ht : TgP m n a b tg) (hno : ¬ WNo a b) (h1 : ¬ d < -30) (h2 : d ≤ nI 60) (hc : tg = -4 ∨ ¬ tg - nI 100 ≤ d) : wy = nI 1 := by
  have hd1 : -30 ≤ d.toInt := by
    rw [i32_lt] at h1
    have e : (-30 : Int32).toInt = -30 := rfl
    omega
  have hd2 : d.toInt ≤ 60 := by
    rw [i32_le] at h2
    exact h2
  rcases h with ⟨x, -⟩ | ⟨-, hr⟩
  · exact absurd ((agrD ha hb).mpr ⟨hno, h1, Int32.not_lt.mpr h2⟩) x
  · have hn : ¬ FeI m n a b d.toInt := by
      rcases ht with ⟨x, -⟩ | ⟨-, ⟨x, -⟩ | ⟨D, d1, d2, d3, d4, e⟩⟩
      · exact absurd ((agr60 ha hb).mpr hno) x
      · exact fun z => x (z.mono hd2)
      · refine d4 d.toInt hd1 ?_
        have e100 : (tg - nI 100).toInt = tg.toInt - 100 := i32_sub (by show _ ≤ _ - (100 : Int); omega) (by show _ - (100 : Int) ≤ _; omega)
        rcases hc with c | c
        · rw [c] at e
          have e4 : (-4 : Int32).toInt = -4 := rfl
          omega
        · rw [i32_le, e100] at c
          omega
    rcases hr with ⟨-, e⟩ | ⟨x, -⟩ | ⟨x, -⟩
    · exact e
    · exact absurd x hn
    · exact absurd x hn
theorem wy_2 (hI : Inv K m n) (ha : a < 9) (hb : b < 9) (h : WyP m n a b d wy) (hB : BdP m n a b bd) (ht : TgP m n a b tg) (hno : ¬ WNo a b) (h1 : ¬ d < -30) (h2 : d ≤ nI 60) (hc : ¬ tg = -4) (hc2 : tg - nI 100 ≤ d) : ((bd = -4 ∨ nI 1000 + d < bd) ∧ wy = nI 0) ∨ ((¬ bd = -4 ∧ ¬ nI 1000 + d < bd) ∧ wy = nI 2) := by
  have hd1 : -30 ≤ d.toInt := by
    rw [i32_lt] at h1
    have e : (-30 : Int32).toInt = -30 := rfl
    omega
  have hd2 : d.toInt ≤ 60 := by
    rw [i32_le] at h2
    exact h2
  have a8 : a < 8 := by
    unfold WNo WOff at hno
    omega
  have b8 : b < 8 := by
    unfold WNo WOff at hno
    omega
  rcases h with ⟨x, -⟩ | ⟨-, hr⟩
  · exact absurd ((agrD ha hb).mpr ⟨hno, h1, Int32.not_lt.mpr h2⟩) x
  · have hy : FeI m n a b d.toInt := by
      rcases ht with ⟨x, -⟩ | ⟨-, ⟨-, x⟩ | ⟨D, d1, d2, d3, d4, e⟩⟩
      · exact absurd ((agr60 ha hb).mpr hno) x
      · exact absurd x hc
      · have e100 : (tg - nI 100).toInt = tg.toInt - 100 := i32_sub (by show _ ≤ _ - (100 : Int); omega) (by show _ - (100 : Int) ≤ _; omega)
        rw [i32_le, e100] at hc2
        exact d3.mono (by omega)
    have ed : (nI 1000 + d).toInt = 1000 + d.toInt := i32_add (by show _ ≤ (1000 : Int) + _; omega) (by show (1000 : Int) + _ ≤ _; omega)
    have hbd : (bd = -4 ∧ tpB m n a b = zK9) ∨ (¬ bd = -4 ∧ bd.toInt = tpB m n a b + 1000) := by
      rcases hB with ⟨-, -, e⟩ | ⟨x, -⟩
      · rcases bnd_int hI.g a8 b8 with ⟨x, y⟩ | ⟨x, y, -, z⟩
        · exact Or.inl ⟨e.trans y, x⟩
        · refine Or.inr ⟨fun q => ?_, by rw [e]; exact z⟩
          rw [← e, q] at z
          have e4 : (-4 : Int32).toInt = -4 := rfl
          omega
      · exact absurd ⟨a8, b8⟩ x
    rcases hr with ⟨x, -⟩ | ⟨-, x, e⟩ | ⟨-, x, e⟩
    · exact absurd hy x
    · rcases hbd with ⟨-, z⟩ | ⟨y, z⟩
      · have : tpB m n a b = 100000 := z
        omega
      · exact Or.inr ⟨⟨y, by rw [i32_lt, ed]; omega⟩, e⟩
    · rcases hbd with ⟨y, -⟩ | ⟨y, z⟩
      · exact Or.inl ⟨Or.inl y, e⟩
      · exact Or.inl ⟨Or.inr (by rw [i32_lt, ed]; omega), e⟩
theorem bd_off (ha : a < 9) (hb : b < 9) (hB : BdP m n a b bd) (ho : WOff a b) : bd = -1 := by
  rcases hB with ⟨x, y, -⟩ | ⟨-, e⟩
  · unfold WOff at ho
    omega
  · exact e
theorem bd_self (hI : Inv K m n) (ha : a < 9) (hB : BdP m n a a bd) (ho : ¬ WOff a a) : bd = nI 1000 := by
  unfold WOff at ho
  rcases hB with ⟨x, y, e⟩ | ⟨x, -⟩
  · have h0 := (tpB_f hI.g x).2
    rw [e]
    rcases bnd_int hI.g x x with ⟨z, -⟩ | ⟨-, -, -, z⟩
    · rw [h0] at z
      exact absurd z (by decide)
    · rw [i32_eq, z, h0]
      rfl
  · exact absurd ⟨by omega, by omega⟩ x
theorem bd_yes (hI : Inv K m n) (ha : a < 9) (hb : b < 9) (hB : BdP m n a b bd) (ho : ¬ WOff a b) : bd = -4 ∨ (901 ≤ bd.toInt ∧ bd.toInt ≤ 1420) := by
  unfold WOff at ho
  rcases hB with ⟨x, y, e⟩ | ⟨x, -⟩
  · rcases bnd_int hI.g x y with ⟨-, z⟩ | ⟨-, p, q, z⟩
    · exact Or.inl (e.trans z)
    · exact Or.inr (by rw [e]; omega)
  · exact absurd ⟨by omega, by omega⟩ x
end
section
variable {K n : Nat} {m : zM} {D w9 : Nat} {v br : Int32}
def DBad (D w9 : Nat) : Prop := D = 0 ∨ D = 31 ∨ w9 = 0 ∨ w9 = 3
theorem dy_bad (h : DyP m n D w9 v) (hb : DBad D w9) : v = -1 := by
  unfold DBad at hb
  rcases h with ⟨-, e⟩ | ⟨x, y, ⟨z, -⟩ | ⟨z, -⟩⟩
  · exact e
  · omega
  · omega
theorem bc_le (m : zM) (n k : Nat) : bcA m n k ≤ n := cnt_le _ n
theorem dy_1 (h : DyP m n D w9 v) (hb : ¬ DBad D w9) (hw : w9 = 1) : 1 ≤ D ∧ D ≤ 30 ∧ v = nI (bcA m n D) := by
  unfold DBad at hb
  rcases h with ⟨x, -⟩ | ⟨x, y, ⟨-, e⟩ | ⟨z, -⟩⟩
  · omega
  · exact ⟨x, y, e⟩
  · omega
theorem dy_2 (h : DyP m n D w9 v) (hb : ¬ DBad D w9) (hw : ¬ w9 = 1) : 1 ≤ D ∧ D ≤ 30 ∧ v = sumI (fun i => hAft m 1 i (nI D)) 8 := by
  unfold DBad at hb
  rcases h with ⟨x, -⟩ | ⟨x, y, ⟨z, -⟩ | ⟨-, e⟩⟩
  · omega
  · omega
  · exact ⟨x, y, e⟩
theorem sumI_le {f g : Nat → Int32} {c : Nat} (hc : c ≤ 200000) : ∀ N, N ≤ 8 → (∀ j, j < N → 0 ≤ (f j).toInt ∧ (f j).toInt ≤ (g j).toInt ∧ (g j).toInt ≤ c) → (sumI f N).toInt ≤ (sumI g N).toInt
  | 0, _, _ => Int.le_refl _
  | N + 1, hN, h => by
    have a := sumI_le hc N (by omega) (fun j hj => h j (by omega))
    have b := h N (by omega)
    have r1 := sumI_rng (f := f) hc N (by omega) (fun j hj => by have := h j (by omega); omega)
    have r2 := sumI_rng (f := g) hc N (by omega) (fun j hj => by have := h j (by omega); omega)
    have d : (c : Int) * (N : Int) ≤ 200000 * 8 := Int.mul_le_mul (by omega) (by omega) (by omega) (by omega)
    show (sumI f N + f N).toInt ≤ (sumI g N + g N).toInt
    rw [i32_add (by omega) (by omega), i32_add (by omega) (by omega)]
    omega
theorem dy_sum (hI : Inv K m n) (hD : 1 ≤ D ∧ D ≤ 30) : (sumI (m 2) 8).toInt ≤ (sumI (fun i => hAft m 1 i (nI D)) 8).toInt ∧ (sumI (fun i => hAft m 1 i (nI D)) 8).toInt ≤ 792 := by
  have key : ∀ i, i < 8 → (m 2 i).toInt ≤ (hAft m 1 i (nI D)).toInt ∧ (hAft m 1 i (nI D)).toInt ≤ 99 := fun i hi => by
    have a := hI.aft hi (d := nI D) (D := D) (nI_toInt (by omega)) (by omega)
    have b := hI.hh hi
    have c := hI.gg hi
    have d : 0 ≤ (m 3 i).toInt * (D : Int) := Int.mul_nonneg c.1 (by omega)
    omega
  refine ⟨sumI_le (c := 99) (by decide) 8 (Nat.le_refl 8) (fun j hj => ⟨(hI.hh hj).1, (key j hj).1, (key j hj).2⟩), ?_⟩
  have := (sumI_rng (f := fun i => hAft m 1 i (nI D)) (c := 99) (by decide) 8 (Nat.le_refl 8) (fun j hj => ⟨by have := (key j hj).1; have := (hI.hh hj).1; show 0 ≤ (hAft m 1 j (nI D)).toInt; omega, (key j hj).2⟩)).2
  omega
theorem br_rng (hb : brkIn (bcA m n) br) (h : ¬ br = -4) : ∃ k, k ≤ 60 ∧ br = nI k ∧ 0 < bcA m n k ∧ ∀ j, j < k → bcA m n j = 0 := by
  rcases hb with ⟨k, a, b, c, e⟩ | ⟨-, e⟩
  · exact ⟨k, a, e, c, b⟩
  · exact absurd e h
theorem br_none (hb : brkIn (bcA m n) br) (h : br = -4) : ∀ j, j ≤ 60 → bcA m n j = 0 := by
  rcases hb with ⟨k, a, b, c, e⟩ | ⟨x, -⟩
  · rw [h] at e
    have e2 : (nI k).toInt = k := nI_toInt (by omega)
    rw [← e] at e2
    have e4 : (-4 : Int32).toInt = -4 := rfl
    omega
  · exact x
theorem br_0 (hb : brkIn (bcA m n) br) (h : br = 0) : 0 < cB m n := by
  obtain ⟨k, a, b, c, d⟩ := br_rng hb (by rw [h]; decide)
  have e : k = 0 := (nI_eq (a := k) (b := 0) (by omega) (by omega)).mp (by rw [nI_0, ← b, h])
  rw [e] at c
  exact c
theorem br_1 (hb : brkIn (bcA m n) br) (h : ¬ br = 0) : cB m n = 0 := by
  by_cases c : br = -4
  · exact br_none hb c 0 (by decide)
  · obtain ⟨k, a, b, -, d⟩ := br_rng hb c
    refine d 0 ?_
    rcases Nat.eq_zero_or_pos k with q | q
    · rw [q, nI_0] at b
      exact absurd b h
    · exact q
end
