/-! method by method: sign, plan -/
theorem rf_q (m : zM) {q : Nat} (h : q ≠ 75) : rfM m q = m q := up2_na _ _ _ h
section
variable {G : zG} {l : Launch} {K : Nat} {h : Nat → Nat} {m : zM}
theorem p_sign (hR9 : Rel K h m) (x1 x2 d : Int32) : Pr G l yX3_sign mX3_sign yX4_sign mX4_sign [.int x1, .int x2, .int d] K h m := by
  obtain ⟨hh, ⟨n, hc, hI⟩, ⟨s, hs, hst, hst4, -⟩, -⟩ := id hR9
  have hn := hI.n14
  have hk : m 1 8 = nI n := (hc.1 8 (by decide) (by decide)).trans hI.1.1.1
  by_cases hes : esg n x1 x2 d = 0
  · obtain ⟨hag, hlt⟩ := esg_agr hes
    obtain ⟨f, o, rfl, rfl, hf, ho, hd1, hd2⟩ := agr_in hag
    have hn14 : n < 14 := (nI_ltI (by omega) (by decide)).mp hlt
    have hA : EqS n (mRem h m s) (vR (m 75)) := cur_mRem (K := K) hh hc
    refine Pr.mk9 (zX3_sign s hs hst hh n (hA.sym.g hI.1) f o hf ho d ⟨by omega, by omega⟩ hn14 hk hes) (fun r w hq => ?_)
    obtain ⟨m', y, rr, hF, hT, hY, hRs, hv⟩ := hq
    have hE' : EqS n m' (vR (m 75)) := hA.sub (fun q a b => hF q (by omega))
    -- the model, called on a memory that follows
    have key : ∀ (v : Int32) (m1 : zM), FC (mRem h m s) m1 → r = some (.int v) → w = zw (hRem h s) m1 → ((rr = nI 0 ∧ v = nI (10 + n) ∧ EqS (n + 1) m1 (vR (adR (m 75) n (nI f) (nI o) d))) ∨ (¬ rr = nI 0 ∧ v = rr ∧ EqS n m1 (vR (rfR (m 75))))) → ∃ (v : Int32) (h1 : Nat → Nat) (m1 : zM), r = some (.int v) ∧ w = zw h1 m1 ∧ ∃ Q2, zMet G l yX4_sign mX4_sign [.ref (G.1 + 74), .int (nI f), .int (nI o), .int d] (zw h1 m1) Q2 0 0 ∧ ∀ r2 w2, Q2 r2 w2 → r2 = some (.int v) ∧ ∃ m2, w2 = zw h1 m2 ∧ Rel (K + 1) h1 m2 := by
      intro v m1 hC hr hw hcase
      have e75 : m1 75 = m 75 := hC.hi hh (by decide)
      refine ⟨v, hRem h s, m1, hr, hw, _, zX4_sign (m := m1) s hs (by rw [hC.hi hh (by decide)]; exact hst4) n (by rw [e75]; exact hI.1) f o hf ho d ⟨by omega, by omega⟩ hn14 hes, fun r2 w2 hq2 => ?_⟩
      rw [e75] at hq2
      obtain ⟨m2, y2, rr2, hF2, hT2, hY2, hRs2, hv2⟩ := hq2
      have ey := (hA.topB hT).one hT2
      subst ey
      have er := rsn.one (hA.fea f o d) Iff.rfl hRs hRs2
      subst er
      have r5 : m2 75 = m 75 := hF2.r.trans ((rec_75 m1 s).trans e75)
      have hFM : FM (recM m1 s) m2 := FM.fm hF2
      rcases hv2 with ⟨e0, rfl, rfl⟩ | ⟨e0, rfl, rfl⟩
      · rcases hcase with ⟨-, rfl, hE⟩ | ⟨e1, -, -⟩
        · refine ⟨rfl, _, rfl, hR9.chg1 hs hst hC (fun q a b c => ?_) ⟨n + 1, ?_, ?_⟩⟩
          · rw [ad_q _ _ _ _ _ a]
            exact hFM q a b c
          · rw [ad_75, r5]
            exact hE.sub (fun q a b => by rw [ad_q _ _ _ _ _ (by omega), hFM q (by omega) (by omega) (by omega), recm_q _ _ (by omega) (by omega)])
          · rw [ad_75, r5]
            exact (hI.add hn14 hf ho ⟨hd1, hd2⟩ (rsn_0 hRs2 e0)).mono (by omega)
        · exact absurd e0 e1
      · rcases hcase with ⟨e1, -, -⟩ | ⟨-, rfl, hE⟩
        · exact absurd e1 e0
        · refine ⟨rfl, _, rfl, hR9.chg1 hs hst hC hFM.up ⟨n, ?_, ?_⟩⟩
          · rw [rf_75, r5]
            exact hE.sub (fun q a b => by rw [rf_q _ (by omega), hFM q (by omega) (by omega) (by omega), recm_q _ _ (by omega) (by omega)])
          · rw [rf_75, r5]
            exact hI.ref.mono (by omega)
    rcases hv with ⟨e0, hr, hw⟩ | ⟨e0, hr, hw⟩
    · refine key _ _ ?_ hr hw (Or.inl ⟨e0, rfl, hE'.add _ _ _⟩)
      unfold addM
      exact ((((((FC.sv hF).up (by decide)).up (by decide)).up (by decide)).up (by decide)).up (by decide)).up (by decide)
    · exact key _ _ ((FC.sv hF).up (by decide)) hr hw (Or.inr ⟨e0, rfl, hE'.ref⟩)
  · exact Pr.same hR9 (eX3_sign n hk x1 x2 d hes) (eX4_sign n hI.1.1.1 hn x1 x2 d hes) rfl
/-! plan -/
def mpR (r : Nat → Int32) (L : Nat → Int32) : Nat → (Nat → Int32)
  | 0 => r
  | i + 1 => if L i < r (7 + 4 * i) then clR (mpR r L i) i (r (7 + 4 * i) - L i) else mpR r L i
theorem mp_75 (m : zM) (L : Nat → Int32) : ∀ i, mpM m L i 75 = mpR (m 75) L i
  | 0 => rfl
  | i + 1 => by
    unfold mpM mpR
    split
    · rw [cl_75, mp_75 m L i]
    · exact mp_75 m L i
theorem clR_o (r : Nat → Int32) (i : Nat) (y : Int32) {j : Nat} (h1 : ¬ j = 7 + 4 * i + 0) (h2 : ¬ j = 7 + 4 * i + 3) (h3 : ¬ j = 5) (h4 : ¬ j = 6) : clR r i y j = r j := by
  unfold clR
  rw [up1_ne _ _ h4, up1_ne _ _ h3, up1_ne _ _ h2, up1_ne _ _ h1]
theorem mpR_h (r : Nat → Int32) (L : Nat → Int32) : ∀ i j, i ≤ j → mpR r L i (7 + 4 * j) = r (7 + 4 * j)
  | 0, j, _ => rfl
  | i + 1, j, hj => by
    unfold mpR
    split
    · rw [clR_o _ _ _ (by omega) (by omega) (by omega) (by omega)]
      exact mpR_h r L i j (by omega)
    · exact mpR_h r L i j (by omega)
theorem plan_eq {n : Nat} {u : zM} {r : Nat → Int32} {L : Nat → Int32} (hE : EqS n u (vR r)) (hI : Inv K r n) (hL : ∀ i, i < 8 → 0 ≤ (L i).toInt ∧ (L i).toInt ≤ (r (7 + 4 * i)).toInt) : ∀ i, i ≤ 8 → EqS n (plM u L i) (vR (mpR r L i)) ∧ Inv K (mpR r L i) n ∧ mpR r L i 6 = r 6 + plT u L i
  | 0, _ => ⟨hE, hI, (Int32.add_zero (r 6)).symm⟩
  | i + 1, hi => by
    obtain ⟨a, b, c⟩ := plan_eq hE hI hL i (by omega)
    have l := hL i (by omega)
    have hb := hI.hh (i := i) (by omega)
    have e2 : u 2 i = r (7 + 4 * i) := hE.h2 (by omega)
    have es : (r (7 + 4 * i) - L i).toInt = (r (7 + 4 * i)).toInt - (L i).toInt := i32_sub (by omega) (by omega)
    have e0 : (0 : Int32).toInt = 0 := rfl
    have ec : (0 < u 2 i - L i) ↔ L i < r (7 + 4 * i) := by
      rw [e2, i32_lt, i32_lt, es]
      omega
    unfold plM mpR plT
    by_cases g : L i < r (7 + 4 * i)
    · rw [if_pos (ec.mpr g), if_pos (ec.mpr g), if_pos g, e2]
      refine ⟨a.cut (by omega) _, b.cut (by omega) ⟨by omega, ?_⟩, ?_⟩
      · rw [mpR_h r L i i (Nat.le_refl i), es]
        omega
      · show up1 _ 6 _ 6 = _
        rw [up1_eq, c, Int32.add_assoc]
    · rw [if_neg (fun z => g (ec.mp z)), if_neg (fun z => g (ec.mp z)), if_neg g]
      exact ⟨a, b, c⟩
theorem add_sub9 (a b c : Int32) : a + (c + b) - c = a + b := by
  rw [Int32.sub_eq_add_neg, Int32.add_assoc, Int32.add_comm c b, Int32.add_assoc, ← Int32.sub_eq_add_neg, Int32.sub_self, Int32.add_zero]
theorem pl_q (u : zM) (L : Nat → Int32) {q : Nat} (hq : ¬ (1 ≤ q ∧ q ≤ 9)) : ∀ i, plM u L i q = u q := fun i => plM_o u L (by omega) (by omega) (by omega) i
theorem p_plan (hR9 : Rel K h m) : Pr G l yX3_plan mX3_plan yX4_plan mX4_plan [] K h m := by
  obtain ⟨hh, ⟨n, hc, hI⟩, ⟨s, hs, hst, hst4, -⟩, -⟩ := id hR9
  have hA : EqS n (mRem h m s) (vR (m 75)) := cur_mRem (K := K) hh hc
  refine Pr.mk9 (zX3_plan s hs hst hh n (hA.sym.g hI.1)) (fun r w hq => ?_)
  obtain ⟨m', y, hF, hT, hv⟩ := hq
  have hE' : EqS n m' (vR (m 75)) := hA.sub (fun q a b => hF q (by omega))
  have hT' := hA.topL hT
  have hbar : ∀ q, q < 8 → ((sNest (mRem h m s) 1 q ∧ y q < ((mRem h m s) 2 q).toInt) ↔ barQ (vR (m 75)) y q) := fun q hq => by
    unfold barQ
    rw [hA.nest hq, hA.h2 hq]
  have call : ∀ (m1 : zM), FC (mRem h m s) m1 → zMet G l yX4_plan mX4_plan [.ref (G.1 + 74)] (zw (hRem h s) m1) (fun r w => ∃ m', Fm (recM m1 s) m' ∧ (((∀ y9, Top (HgtY ((vR (m 75)) 2)) (eL (vR (m 75)) (pFo (vR (m 75)))) n y9 → ∃ q, q < 8 ∧ y9 q < 0) ∧ r = some (.int (nI 4)) ∧ w = zw (hRem h s) (rfM m')) ∨ (∃ y, Top (HgtY ((vR (m 75)) 2)) (eL (vR (m 75)) (pFo (vR (m 75)))) n y ∧ (∀ q, q < 8 → 0 ≤ y q) ∧ (((∃ q, q < 8 ∧ barQ (vR (m 75)) y q) ∧ r = some (.int (nI 3)) ∧ w = zw (hRem h s) (rfM m')) ∨ ((∀ q, q < 8 → ¬ barQ (vR (m 75)) y q) ∧ r = some (.int (nI 10 + mpM m' (fun q => Int32.ofInt (y q)) 8 75 6 - m' 75 6)) ∧ w = zw (hRem h s) (mpM m' (fun q => Int32.ofInt (y q)) 8)))))) 0 0 := fun m1 hC => by
    have e75 : m1 75 = m 75 := hC.hi hh (by decide)
    have k := zX4_plan (G := G) (l := l) (h := hRem h s) (m := m1) s hs (by rw [hC.hi hh (by decide)]; exact hst4) n (by rw [e75]; exact hI.1)
    rw [e75] at k
    exact k
  have hrow : ∀ (m1 m2 : zM), FC (mRem h m s) m1 → Fm (recM m1 s) m2 → m2 75 = m 75 := fun m1 m2 hC hF2 => hF2.r.trans ((rec_75 m1 s).trans (hC.hi hh (by decide)))
  have hstay : ∀ (m1 m2 : zM), FC (mRem h m s) m1 → Fm (recM m1 s) m2 → EqS n m1 (vR (rfR (m 75))) → Rel (K + 1) (hRem h s) (rfM m2) := fun m1 m2 hC hF2 hE => by
    have r5 := hrow m1 m2 hC hF2
    refine hR9.chg1 hs hst hC (FM.fm hF2).up ⟨n, ?_, ?_⟩
    · rw [rf_75, r5]
      exact hE.sub (fun q a b => by rw [rf_q _ (by omega), hF2 q (by omega) (by omega), recm_q _ _ (by omega) (by omega)])
    · rw [rf_75, r5]
      exact hI.ref.mono (by omega)
  have hCr : FC (mRem h m s) (refM m') := (FC.sv hF).up (by decide)
  rcases hv with ⟨hneg, hr, hw⟩ | ⟨hpos, hb, hr, hw⟩ | ⟨hpos, hb, hr, hw⟩
  · refine ⟨_, hRem h s, _, hr, hw, _, call _ hCr, fun r2 w2 hq2 => ?_⟩
    obtain ⟨m2, hF2, hv2⟩ := hq2
    rcases hv2 with ⟨-, rfl, rfl⟩ | ⟨y2, hT2, hp2, -⟩
    · exact ⟨rfl, _, rfl, hstay _ m2 hCr hF2 hE'.ref⟩
    · have ey := hT'.one hT2
      subst ey
      obtain ⟨q, hq, hlt⟩ := hneg
      have := hp2 q hq
      omega
  · refine ⟨_, hRem h s, _, hr, hw, _, call _ hCr, fun r2 w2 hq2 => ?_⟩
    obtain ⟨m2, hF2, hv2⟩ := hq2
    rcases hv2 with ⟨hn2, -, -⟩ | ⟨y2, hT2, hp2, hv3⟩
    · obtain ⟨q, hq, hlt⟩ := hn2 y hT'
      have := hpos q hq
      omega
    · have ey := hT'.one hT2
      subst ey
      obtain ⟨q, hq, hbq⟩ := hb
      rcases hv3 with ⟨-, rfl, rfl⟩ | ⟨hnb, -, -⟩
      · exact ⟨rfl, _, rfl, hstay _ m2 hCr hF2 hE'.ref⟩
      · exact absurd ((hbar q hq).mp hbq) (hnb q hq)
  · have hC : FC (mRem h m s) (plM m' (fun q => Int32.ofInt (y q)) 8) := fun q a b => by
      rw [pl_q _ _ a]
      exact hF q b
    refine ⟨_, hRem h s, _, hr, hw, _, call _ hC, fun r2 w2 hq2 => ?_⟩
    obtain ⟨m2, hF2, hv2⟩ := hq2
    rcases hv2 with ⟨hn2, -, -⟩ | ⟨y2, hT2, hp2, hv3⟩
    · obtain ⟨q, hq, hlt⟩ := hn2 y hT'
      have := hpos q hq
      omega
    · have ey := hT'.one hT2
      subst ey
      rcases hv3 with ⟨⟨q, hq, hbq⟩, -, -⟩ | ⟨-, rfl, rfl⟩
      · exact absurd ((hbar q hq).mpr hbq) (hb q hq)
      · have r5 := hrow _ m2 hC hF2
        have hL : ∀ i, i < 8 → 0 ≤ (Int32.ofInt (y i)).toInt ∧ (Int32.ofInt (y i)).toInt ≤ (m 75 (7 + 4 * i)).toInt := fun i hi => by
          have a := hpos i hi
          have b := hT'.1 i
          have c := hI.hh hi
          have e : HgtY ((vR (m 75)) 2) i = (m 75 (7 + 4 * i)).toInt := if_pos hi
          rw [e] at b
          have d : (Int32.ofInt (y i)).toInt = y i := Int32.toInt_ofInt_of_le (by omega) (by omega)
          omega
        obtain ⟨p1, p2, p3⟩ := plan_eq hE' hI hL 8 (Nat.le_refl 8)
        have p4 : plT m' (fun q => Int32.ofInt (y q)) 8 = plT (mRem h m s) (fun q => Int32.ofInt (y q)) 8 := plT_congr (hF 2 (by omega)) 8
        refine ⟨?_, _, rfl, hR9.chg1 hs hst hC (fun q a b c => ?_) ⟨n, ?_, ?_⟩⟩
        · rw [mp_75, r5, p3, add_sub9, p4]
        · rw [mpM_na _ _ a]
          exact hF2 q b c
        · rw [mp_75, r5]
          exact p1.sub (fun q a b => by rw [mpM_na _ _ (by omega), hF2 q (by omega) (by omega), recm_q _ _ (by omega) (by omega)])
        · rw [mp_75, r5]
          exact p2.mono (by omega)
end
