/-! signAll on both sides -/
theorem cpM_fr {m m1 : zM} (e : ∀ q, q < 56 → m1 q = m q) (a : Nat) : ∀ q, q < 56 → cpM m1 a 1 q = cpM m a 1 q := fun q hq => by
  funext k
  unfold cpM
  by_cases g : (a + 1 ≤ q ∧ q ≤ a + 4 ∧ k < 8) ∨ (a + 5 ≤ q ∧ q ≤ a + 8 ∧ k < 14) ∨ (q = a ∧ 8 ≤ k ∧ k ≤ 13)
  · rw [if_pos g, if_pos g, e _ (by omega)]
  · rw [if_neg g, if_neg g, e _ hq]
theorem up2_fr {m m1 : zM} {q : Nat} (e : m1 q = m q) (a k : Nat) (v : Int32) : up2 m1 a k v q = up2 m a k v q := by
  funext j
  unfold up2
  rw [e]
theorem mRem_fr {h : Nat → Nat} {m m1 : zM} {s : Nat} (e : ∀ q, q < 56 → m1 q = m q) (q : Nat) (hq : q < 56) : mRem h m1 s q = mRem h m s q := by
  unfold mRem
  split
  · exact up2_fr (cpM_fr e _ q hq) _ _ _
  · exact up2_fr (cpM_fr (fun p hp => up2_fr (e p hp) _ _ _) _ q hq) _ _ _
theorem ssM_eq {A : zM} {n : Nat} {F O D : Nat → Int32} {r x : Nat → Int32} (hA : EqS n A (vR r)) : ∀ k, (∀ j, j < k → F j = gF x j ∧ O j = gO x j ∧ D j = gD x j) → EqS (n + k) (ssM A n F O D k) (vR (msR r n x k))
  | 0, _ => hA
  | k + 1, hj => by
    have a := hj k (Nat.lt_succ_self k)
    have ih := ssM_eq hA k (fun j h => hj j (by omega))
    show EqS (n + k + 1) (addM (ssM A n F O D k) 1 (n + k) (F k) (O k) (D k)) (vR (adR (msR r n x k) (n + k) (gF x k) (gO x k) (gD x k)))
    rw [a.1, a.2.1, a.2.2]
    exact ih.add _ _ _
theorem n10 {k : Nat} (hk : k < 1000) : ¬ nI (10 + k) < nI 10 := fun z => by
  have := (nI_ltI (by omega) (by decide)).mp z
  omega
section
variable {G : zG} {l : Launch} {K : Nat} {h : Nat → Nat} {m : zM}
theorem p_signAll (hR9 : Rel K h m) : Pr G l yX3_signAll mX3_signAll yX4_signAll mX4_signAll [] K h m := by
  obtain ⟨L, hL, h1, h2, hx9, hC⟩ := pad_x hR9
  obtain ⟨hh, ⟨n, hc, hI⟩, ⟨s, hs, hst, hst4, -⟩, -⟩ := id hR9
  have hn := hI.n14
  have hAm : ∀ m1 : zM, Fpd m m1 → EqS n (up2 (mRem h m1 s) 0 7 (nI 0)) (vR (m 75)) := fun m1 hF => hc.sub (fun q a b => by rw [up2_na _ _ _ (by omega), mRem_o hh (by omega) (by omega), hF.1 q (by omega)])
  refine Pr.mk9 (zX3_signAll s hs hst hh n L h1 hL (fun m1 hF => (hAm m1 hF).sym.g hI.1)) (fun r w hq => ?_)
  obtain ⟨m1, K1, v, hF, hG, hv, hcase⟩ := hq
  rcases hcase with ⟨hv4, hr, hw⟩ | ⟨hv4, hp6, hRP, hK15, hsa⟩
  · have e79 : m1 79 = m 79 := hF.1 79 (by decide)
    have e74 : m1 74 = m 74 := hF.1 74 (by decide)
    have e75 : m1 75 = m 75 := hF.1 75 (by decide)
    refine ⟨_, h, m1, hr, hw, _, zX4_signAll (m := m1) (hx (m 69) L) L (by rw [e79]; exact hx9) hL (by rw [hx9]; exact hC) (by rw [e74]; exact h2) s hs (by rw [e74]; exact hst4) n K (by rw [e75]; exact hI), fun r2 w2 hq2 => ?_⟩
    obtain ⟨m2, K2, v2, hF2, hG2, hv2, hc2⟩ := hq2
    have ev := (Flt.one hG hv hG2 hv2).2
    rcases hc2 with ⟨-, rfl, rfl⟩ | ⟨b, -⟩
    · exact ⟨rfl, m2, rfl, (hR9.fl ((FL.p hF).trans (FL.t hF2))).mono (by omega)⟩
    · exact absurd (ev.trans b) hv4
  · obtain ⟨J, hst9, hr, m', hw, hFsa, hend⟩ := hsa
    have A0 : EqS n (up2 (mRem h m1 s) 0 7 (nI 0)) (vR (m 75)) := hAm m1 hF
    have A7 : ∀ q, 56 ≤ q → (up2 (mRem h m1 s) 0 7 (nI 0)) q = m1 q := fun q hq => by rw [up2_na _ _ _ (by omega), mRem_o hh (by omega) (by omega)]
    generalize hA9 : up2 (mRem h m1 s) 0 7 (nI 0) = A at hst9 hFsa hend A0 A7
    have hM : ∀ q, 69 ≤ q → up2 m' 68 1 (nI 0) q = m1 q := fun q hq => by rw [up2_na _ _ _ (by omega), hFsa.1 q (by omega) (by omega) (by omega), A7 q (by omega)]
    have hM2 : ∀ q, 74 ≤ q → up2 m' 68 1 (nI 0) q = m q := fun q hq => by rw [hM q (by omega), hF.1 q (by omega)]
    refine ⟨_, hRem h s, up2 m' 68 1 (nI 0), hr, hw, _, zX4_signAll (m := up2 m' 68 1 (nI 0)) (hx (m 69) L) L (by rw [hM2 79 (by decide)]; exact hx9) hL (by rw [hx9]; exact hC) (by rw [hM2 74 (by decide)]; exact h2) s hs (by rw [hM2 74 (by decide)]; exact hst4) n K (by rw [hM2 75 (by decide)]; exact hI), fun r2 w2 hq2 => ?_⟩
    obtain ⟨m2, K2, v2, hF2, hG2, hv2, hc2⟩ := hq2
    obtain ⟨eK, ev⟩ := Flt.one hG hv hG2 hv2
    subst eK
    rcases hc2 with ⟨b, -⟩ | ⟨-, -, -, hms⟩
    · exact absurd (ev.symm.trans hv4) b
    obtain ⟨J2, hst2, hI2, hr2, m'', hw2, hFms, hend2⟩ := hms
    have eA2 : (up2 (up2 (recM m2 s) 74 10 (nI 0)) 74 15 (nI 0)) 75 = m 75 := by rw [up2_na _ _ _ (by decide), up2_na _ _ _ (by decide), rec_75, hF2.1 75 (by decide), hM2 75 (by decide)]
    rw [eA2] at hst2 hI2 hend2
    have hpr : ∀ k, k < K1 + 1 → A 71 k = gF (hx (m 69) L) k ∧ A 72 k = gO (hx (m 69) L) k ∧ A 73 k = gD (hx (m 69) L) k ∧ A 70 k = nI (sq (hx (m 69) L) k) := fun k hk => by
      rw [A7 71 (by decide), A7 72 (by decide), A7 73 (by decide), A7 70 (by decide)]
      obtain ⟨a, b, c, d⟩ := hRP k hk
      exact ⟨b, c, d, a⟩
    have hss : ∀ k, k ≤ K1 + 1 → EqS (n + k) (ssM A n (A 71) (A 72) (A 73) k) (vR (msR (m 75) n (hx (m 69) L) k)) := fun k hk => ssM_eq A0 k (fun j hj => by
      obtain ⟨a, b, c, -⟩ := hpr j (by omega)
      exact ⟨a, b, c⟩)
    have hJ : J ≤ K1 + 1 := by rcases hend with ⟨a, -⟩ | ⟨a, -⟩ <;> omega
    have hJ2 : J2 ≤ K1 + 1 := by rcases hend2 with ⟨a, -⟩ | ⟨a, -⟩ <;> omega
    have e1 : ¬ J < J2 := fun z => by
      rcases hend with ⟨a, -⟩ | ⟨a, v9, b, c, -⟩
      · omega
      · obtain ⟨p1, p2, p3, -⟩ := hpr J a
        rw [p1, p2, p3] at b
        rw [(hss J hJ |> fun hE => stp.one hE b (hst2 J z))] at c
        have : 10 + (n + J) < 1000 := by omega
        exact n10 (k := n + J) (by omega) c
    have e2 : ¬ J2 < J := fun z => by
      rcases hend2 with ⟨a, -⟩ | ⟨a, v9, b, c, -⟩
      · omega
      · obtain ⟨p1, p2, p3, -⟩ := hpr J2 a
        have k := hst9 J2 z
        rw [p1, p2, p3] at k
        rw [← (stp.one (hss J2 hJ2) k b)] at c
        exact n10 (k := n + J2) (by omega) c
    have eJ : J2 = J := by omega
    subst eJ
    refine ⟨hr2, _, hw2, ?_⟩
    have f0 : ∀ q, q ≠ 74 → q ≠ 75 → q ≠ 77 → q ≠ 80 → q ≠ 81 → q ≠ 82 → q ≠ 68 → up2 m'' 74 7 (nI 0) q = m' q := fun q a b c d e f g => by rw [up2_na _ _ _ a, hFms.1 q a b d e f, up2_na _ _ _ a, up2_na _ _ _ a, recm_q _ _ a c, hF2.1 q a, up2_na _ _ _ g]
    have f1 : ∀ q, q ≠ 74 → q ≠ 75 → q ≠ 77 → q ≠ 80 → q ≠ 81 → q ≠ 82 → q ≠ 68 → ¬ (1 ≤ q ∧ q ≤ 9) → ¬ (56 ≤ q ∧ q < 68) → q ≠ 0 → up2 m'' 74 7 (nI 0) q = mRem h m1 s q := fun q a b c d e f g i j k => by rw [f0 q a b c d e f g, hFsa.1 q i j k, ← hA9, up2_na _ _ _ k]
    have f00 : ∀ k, k ≠ 7 → k ≠ 8 → k ≠ 9 → k ≠ 5 → up2 m'' 74 7 (nI 0) 0 k = m 0 k := fun k a b c d => by rw [f0 0 (by decide) (by decide) (by decide) (by decide) (by decide) (by decide) (by decide), hFsa.2 k (by omega), ← hA9, up2_ne _ _ (by omega), mRem_0 hh d, hF.1 0 (by decide)]
    have fq : ∀ q, q < 56 → m1 q = m q := fun q hq => hF.1 q (by omega)
    have g74 : ∀ k, ¬ (10 ≤ k ∧ k ≤ 15) → k ≠ 7 → k ≠ 3 → up2 m'' 74 7 (nI 0) 74 k = m 74 k := fun k a b c => by rw [up2_ne _ _ (fun z => b z.2), hFms.2 k a, up2_ne _ _ (by omega), up2_ne _ _ (by omega), rec_74 _ _ c, hF2.2 k (by omega), hM2 74 (by decide)]
    have m275 : m2 75 = m 75 := by rw [hF2.1 75 (by decide), hM2 75 (by decide)]
    have m277 : m2 77 = m 77 := by rw [hF2.1 77 (by decide), hM2 77 (by decide)]
    refine hR9.chg hs hst ?_ (f00 6 (by decide) (by decide) (by decide) (by decide)) (fun q a b c => ?_) (fun j => ?_) ?_ (g74 5 (by omega) (by decide) (by decide)) ?_ ?_ ?_ ?_
    · rw [f0 0 (by decide) (by decide) (by decide) (by decide) (by decide) (by decide) (by decide), hFsa.2 5 (by omega), ← hA9, up2_ne _ _ (by omega), mRem05 _ _ hs, mRem05 _ _ hs]
    · rw [f1 q (by omega) (by omega) (by omega) (by omega) (by omega) (by omega) (by omega) (by omega) (by omega) (by omega), mRem_fr fq q b]
    · rw [up2_na _ _ _ (by decide), hFms.1 77 (by decide) (by decide) (by decide) (by decide) (by decide), up2_na _ _ _ (by decide), up2_na _ _ _ (by decide)]
      by_cases g : s < 4
      · rw [rec77 m2 g, rec77 m g, m275, m277]
      · have e4 : s = 4 := by omega
        subst e4
        rw [rec77b, rec77b, m275, m277]
    · rw [up2_ne _ _ (by decide), hFms.2 3 (by omega), up2_ne _ _ (by decide), up2_ne _ _ (by decide), rec743 _ hs, rec743 _ hs]
    · rw [up2_na _ _ _ (by decide), hFms.1 78 (by decide) (by decide) (by decide) (by decide) (by decide), up2_na _ _ _ (by decide), up2_na _ _ _ (by decide), recm_q _ _ (by decide) (by decide), hF2.1 78 (by decide), hM2 78 (by decide)]
    · refine ⟨n + J2, ?_⟩
      have e75 : up2 m'' 74 7 (nI 0) 75 = m'' 75 := up2_na _ _ _ (by decide)
      have fs : ∀ q, 1 ≤ q → q ≤ 9 → up2 m'' 74 7 (nI 0) q = m' q := fun q a b => f0 q (by omega) (by omega) (by omega) (by omega) (by omega) (by omega) (by omega)
      rw [e75]
      rcases hend with ⟨a, -, a3⟩ | ⟨a, v9, b, c, d, -, -, -, hz⟩
      · rcases hend2 with ⟨-, -, b3⟩ | ⟨b, -⟩
        · rw [b3]
          exact ⟨(hss J2 hJ).sub (fun q x y => (fs q x y).trans (a3 q x y)), hI2.mono (by omega)⟩
        · omega
      · obtain ⟨p1, p2, p3, -⟩ := hpr J2 a
        rw [p1, p2, p3] at hz
        rcases hend2 with ⟨b3, -⟩ | ⟨-, v8, b8, c8, d8, -, -, -, -, hz2⟩
        · omega
        · rcases hz with ⟨z1, z2⟩ | ⟨z1, z2⟩
          · rcases hz2 with ⟨-, y2⟩ | ⟨y1, -⟩
            · rw [y2]
              exact ⟨(hss J2 hJ).sub (fun q x y => (fs q x y).trans (z2 q x y)), hI2.mono (by omega)⟩
            · exact absurd y1 z1
          · rcases hz2 with ⟨y1, -⟩ | ⟨-, y2⟩
            · exact absurd z1 y1
            · rw [y2]
              exact ⟨(hss J2 hJ).ref.sub (fun q x y => (fs q x y).trans (z2 q x y)), hI2.ref.mono (by omega)⟩
    · refine ⟨0, by decide, ?_, up2_eq _ _ _ _, fun j hj => absurd hj (Nat.not_lt_zero j)⟩
      rw [up2_na _ _ _ (by decide), hFms.1 68 (by decide) (by decide) (by decide) (by decide) (by decide), up2_na _ _ _ (by decide), up2_na _ _ _ (by decide), recm_q _ _ (by decide) (by decide), hF2.1 68 (by decide), up2_eq]
    · have g0 : up2 m'' 74 7 (nI 0) 0 = m' 0 := f0 0 (by decide) (by decide) (by decide) (by decide) (by decide) (by decide) (by decide)
      have g15 : up2 m'' 74 7 (nI 0) 74 15 = m'' 74 15 := up2_ne _ _ (by decide)
      have g82 : up2 m'' 74 7 (nI 0) 82 = m'' 82 := up2_na _ _ _ (by decide)
      unfold StopOk
      rw [g0, g15, g82]
      rcases hend with ⟨a, a2, -⟩ | ⟨a, v9, b, c, d, d7, d8, d9, -⟩
      · rcases hend2 with ⟨-, b2, -⟩ | ⟨b, -⟩
        · exact Or.inl ⟨a2, b2⟩
        · omega
      · obtain ⟨p1, p2, p3, p4⟩ := hpr J2 a
        rw [p1, p2, p3] at b
        rcases hend2 with ⟨b3, -⟩ | ⟨-, v8, b8, c8, e8, x15, x0, x1, x2, -⟩
        · omega
        · have evv := stp.one (hss J2 hJ) b b8
          exact Or.inr ⟨by rw [d7]; exact d, x15, by rw [x0, d7, evv], by rw [x1, d8], by rw [x2, d9, p4]⟩
end
