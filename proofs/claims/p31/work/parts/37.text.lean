/-! texts: as many parts as were typed; signAll as an act -/
theorem cnt_skip {p : Nat → Bool} {a : Nat} : ∀ d, (∀ j, a ≤ j → j < a + d → ¬ p j = true) → cnt p (a + d) = cnt p a
  | 0, _ => rfl
  | d + 1, h => by
    show cnt p (a + d) + (if p (a + d) = true then 1 else 0) = cnt p a
    rw [cnt_skip d (fun j x y => h j x (by omega)), if_neg (h (a + d) (by omega) (by omega)), Nat.add_zero]
theorem dgt_ne {x y : Int32} (h : dgt x y) (hy : y < nI 10) : ¬ x = nI 59 := fun e => by
  have h2 := h.2
  rw [e, i32_lt] at h2
  rw [i32_lt] at hy
  have e1 : (nI 59 - nI 48).toInt = 11 := by decide
  have e2 : (nI 10).toInt = 10 := rfl
  omega
theorem no59 {x : Nat → Int32} {s : Nat} (h : pOk x s) : ∀ j, s ≤ j → j < pEn x s → ¬ x j = nI 59 := by
  obtain ⟨h1, h2, h3, h4⟩ := h
  have a0 : ¬ x s = nI 59 := dgt_ne h1 (by decide)
  have a1 : ¬ x (s + 1) = nI 59 := fun e => by
    have h2' : x (s + 1) = nI 60 := h2
    rw [h2'] at e
    exact absurd e (by decide)
  have a2 : ¬ x (s + 2) = nI 59 := dgt_ne h3 (by decide)
  intro j hj hj2
  by_cases g4 : q4 x s
  · have a3 : ¬ x (s + 3) = nI 59 := fun e => by
      rcases g4 with z | z
      · rw [z] at e
        exact absurd e (by decide)
      · rw [z] at e
        exact absurd e (by decide)
    have a4 : ¬ x (s + 4) = nI 59 := dgt_ne (h4 g4).2 (by decide)
    by_cases g6 : q6 x s
    · rw [pEn_6 h1 h2 h3 g4 (h4 g4) g6] at hj2
      have a5 : ¬ x (s + 5) = nI 59 := dgt_ne g6.1 (by decide)
      have e : j = s ∨ j = s + 1 ∨ j = s + 2 ∨ j = s + 3 ∨ j = s + 4 ∨ j = s + 5 := by omega
      rcases e with rfl | rfl | rfl | rfl | rfl | rfl <;> assumption
    · rw [pEn_7 h1 h2 h3 g4 (h4 g4) g6] at hj2
      have e : j = s ∨ j = s + 1 ∨ j = s + 2 ∨ j = s + 3 ∨ j = s + 4 := by omega
      rcases e with rfl | rfl | rfl | rfl | rfl <;> assumption
  · rw [pEn_4 h1 h2 h3 g4] at hj2
    have e : j = s ∨ j = s + 1 ∨ j = s + 2 := by omega
    rcases e with rfl | rfl | rfl <;> assumption
theorem pOk_K {x : Nat → Int32} {L K J : Nat} (hG : Good x L K) (hK : pOk x (sq x K)) (hE : pEn x (sq x K) = L) (hJ : J ≤ K) : pOk x (sq x J) ∧ sq x J < L ∧ pEn x (sq x J) ≤ L := by
  rcases Nat.lt_or_ge J K with g | g
  · have a := hG J g
    have b := pOk_en a.1
    exact ⟨a.1, by omega, by omega⟩
  · have e : J = K := by omega
    subst e
    have b := pOk_en hK
    exact ⟨hK, by omega, by omega⟩
theorem sc_part {x : Nat → Int32} {s : Nat} (h : pOk x s) : sc x (pEn x s) = sc x s := by
  have b := pOk_en h
  obtain ⟨d, hd⟩ : ∃ d, pEn x s = s + d := ⟨pEn x s - s, by omega⟩
  unfold sc
  rw [hd]
  exact cnt_skip d (fun j p q z => no59 h j p (by omega) (of_decide_eq_true z))
theorem sc_sq {x : Nat → Int32} {L : Nat} : ∀ K, Good x L K → sc x (sq x K) = K
  | 0, _ => rfl
  | K + 1, h => by
    obtain ⟨a, b, c⟩ := h K (by omega)
    have e := sc_sq K (fun i hi => h i (by omega))
    show cnt (fun k => decide (x k = nI 59)) (pEn x (sq x K)) + (if decide (x (pEn x (sq x K)) = nI 59) = true then 1 else 0) = K + 1
    rw [if_pos (decide_eq_true c)]
    have e2 := sc_part a
    unfold sc at e e2
    omega
theorem flt_4 {x : Nat → Int32} {L K : Nat} (hL : L ≤ 60) (hG : Good x L K) (h : Flt x L K (-4)) : pOk x (sq x K) ∧ pEn x (sq x K) = L := by
  have big : ∀ s, pEn x s ≤ s + 6 := fun s => by
    unfold pEn
    repeat' split
    all_goals omega
  have sK : sq x K ≤ L := hG.le
  have nn : ∀ k, k < 2 ^ 31 → ¬ (-4 : Int32) = nI k := fun k hk e => by
    have := nI_pos hk
    rw [← e] at this
    exact absurd (by decide) this
  have := big (sq x K)
  rcases h with ⟨-, e⟩ | ⟨a, b, -⟩ | ⟨-, -, -, e⟩
  · exact absurd e (nn _ (by omega))
  · exact ⟨a, b⟩
  · exact absurd e (nn _ (by omega))
theorem flt_n {x : Nat → Int32} {L K : Nat} {v : Int32} (hG : Good x L K) (h : Flt x L K v) (hv : ¬ v = -4) : ∃ k, v = nI k ∧ k ≤ L + 6 ∧ (x = hx x L → k ≤ L) := by
  have sK : sq x K ≤ L := hG.le
  have big : ∀ s, pEn x s ≤ s + 6 := fun s => by
    unfold pEn
    repeat' split
    all_goals omega
  have := big (sq x K)
  rcases h with ⟨a, e⟩ | ⟨-, -, e⟩ | ⟨-, b, -, e⟩
  · refine ⟨_, e, by omega, fun hx9 => ?_⟩
    have out : ∀ j, L ≤ j → x j = 0 := fun j hj => by
      rw [hx9]
      exact if_neg (by omega)
    have d0 : ∀ {j : Nat} {y : Int32}, dgt (x j) y → j < L := fun {j y} d => by
      rcases Nat.lt_or_ge j L with c | c
      · exact c
      · rw [out j c] at d
        exact absurd (by decide) d.1
    by_cases g1 : q1 x (sq x K)
    · have l1 := d0 g1
      by_cases g2 : q2 x (sq x K)
      · have l2 : sq x K + 1 < L := by
          rcases Nat.lt_or_ge (sq x K + 1) L with c | c
          · exact c
          · have g2' : x (sq x K + 1) = nI 60 := g2
            rw [out _ c] at g2'
            exact absurd g2' (by decide)
        by_cases g3 : q3 x (sq x K)
        · have l3 := d0 g3
          by_cases g4 : q4 x (sq x K)
          · have l4 : sq x K + 3 < L := by
              rcases Nat.lt_or_ge (sq x K + 3) L with c | c
              · exact c
              · rcases g4 with z | z
                · rw [out _ c] at z
                  exact absurd z (by decide)
                · rw [out _ c] at z
                  exact absurd z (by decide)
            by_cases g5 : q5 x (sq x K)
            · exact absurd ⟨g1, g2, g3, fun _ => g5⟩ a
            · rw [pEn_5 g1 g2 g3 g4 g5]
              omega
          · exact absurd ⟨g1, g2, g3, fun z => absurd z g4⟩ a
        · rw [pEn_3 g1 g2 g3]
          omega
      · rw [pEn_2 g1 g2]
        omega
    · rw [pEn_1 g1]
      omega
  · exact absurd e hv
  · exact ⟨_, e, by omega, fun _ => by omega⟩
theorem hx_hx (c : Nat → Int32) (L : Nat) : hx c L = hx (hx c L) L := by
  funext j
  unfold hx
  by_cases h : j < L
  · rw [if_pos h, if_pos h]
  · rw [if_neg h, if_neg h]
theorem txt_n {m0 M : zM} {n L K : Nat} (hT : TX m0 M n) (hL : M 68 1 = nI L) (hL60 : L ≤ 60) (hG : Good (hx (M 69) L) L K) (h : Flt (hx (M 69) L) L K (-4)) : K + 1 = n := by
  obtain ⟨a, b⟩ := flt_4 hL60 hG h
  obtain ⟨L', S, hL', ⟨-, p1, p2⟩, hc⟩ := hT
  have eL : L = L' := (nI_eq (by omega) (by omega)).mp (hL.symm.trans p1)
  subst eL
  have e1 : sc (hx (M 69) L) L = K := by
    have x1 := sc_part a
    rw [b, sc_sq K hG] at x1
    exact x1
  have e2 : sc (M 69) L = sc (hx (M 69) L) L := cnt_congr L (fun j hj => by
    unfold hx
    rw [if_pos hj])
  have e3 := pOk_en a
  rcases hc with ⟨c1, c2⟩ | ⟨c1, c2⟩
  · omega
  · have := no59 a (L - 1) (by omega) (by omega)
    unfold hx at this
    rw [if_pos (show L - 1 < L by omega)] at this
    exact absurd c2 this
/-- m is M but for the surveyor and the pad's own parts -/
def FP9 (M m : zM) : Prop := (∀ q, q < 56 → m q = M q) ∧ m 69 = M 69 ∧ m 68 1 = M 68 1
theorem FP9.v {M m m' : zM} (h : FP9 M m) (g : Fsv m m') : FP9 M m' := ⟨fun q a => (g q (by omega)).trans (h.1 q a), (g 69 (by decide)).trans h.2.1, by rw [g 68 (by decide)]; exact h.2.2⟩
theorem FP9.p {M m m' : zM} (h : FP9 M m) (g : Fpd m m') : FP9 M m' := ⟨fun q a => (g.1 q (by omega)).trans (h.1 q a), g.2.1.trans h.2.1, g.2.2.trans h.2.2⟩
theorem FP9.rf {M : zM} : FP9 M M := ⟨fun _ _ => rfl, rfl, rfl⟩
theorem esg_c (n : Nat) (f o d : Int32) : esg n f o d = nI 0 ∨ esg n f o d = -3 ∨ esg n f o d = -1 := by
  by_cases c : agr f o d
  · by_cases c2 : nI n < nI 14
    · exact Or.inl (esg_0 c c2)
    · exact Or.inr (Or.inl (esg_3 c c2))
  · exact Or.inr (Or.inr (esg_1 c))
theorem ssI {K n J : Nat} {A : zM} {F O D : Nat → Int32} (hI : Inv K A n) (hst : ∀ k, k < J → stp (ssM A n F O D k) (n + k) (F k) (O k) (D k) (nI (10 + (n + k)))) : ∀ k, k ≤ J → Inv K (ssM A n F O D k) (n + k) ∧ ssM A n F O D k 1 11 = A 1 11 + nI k ∧ ssM A n F O D k 1 12 = A 1 12
  | 0, _ => ⟨hI, ad0 _, rfl⟩
  | k + 1, hk => by
    obtain ⟨a, b, c⟩ := ssI hI hst k (by omega)
    have hn := a.n14
    have hs := hst k (by omega)
    rcases hs with ⟨-, e⟩ | ⟨e0, f1, o1, y, rr, ef, eo, hf, ho, -, -, hr, hc⟩
    · exfalso
      have p := nI_pos (n := 10 + (n + k)) (by omega)
      rcases esg_c (n + k) (F k) (O k) (D k) with z | z | z
      · rw [z] at e
        have := (nI_eq (a := 10 + (n + k)) (b := 0) (by omega) (by decide)).mp e
        omega
      · rw [e, z] at p
        exact absurd (by decide) p
      · rw [e, z] at p
        exact absurd (by decide) p
    · obtain ⟨hag, h14⟩ := esg_agr e0
      obtain ⟨-, -, -, -, -, -, d1, d2⟩ := agr_in hag
      have hn14 : n + k < 14 := (nI_ltI (by omega) (by decide)).mp h14
      have r0 : rr = nI 0 := by
        rcases hc with ⟨z, -⟩ | ⟨z, e⟩
        · exact z
        · exfalso
          rcases hr with ⟨-, u⟩ | ⟨-, -, u⟩ | ⟨-, -, u⟩
          · rw [u] at e
            have := (nI_eq (by omega) (by decide)).mp e
            omega
          · rw [u] at e
            have := (nI_eq (by omega) (by decide)).mp e
            omega
          · exact z u
      have hfe : Fea (eN (ssM A n F O D k) f1 o1 (D k)) (n + k + 1) := by
        rcases hr with ⟨-, u⟩ | ⟨-, -, u⟩ | ⟨u, -, -⟩
        · rw [r0] at u
          exact absurd u (by decide)
        · rw [r0] at u
          exact absurd u (by decide)
        · exact u
      have ne : ¬ f1 = o1 := fun z => hag.2.2.1 (by rw [ef, eo, z])
      refine ⟨?_, ?_, ?_⟩
      · show Inv K (addM (ssM A n F O D k) 1 (n + k) (F k) (O k) (D k)) (n + k + 1)
        rw [ef, eo]
        exact a.add hn14 hf ho ne ⟨d1, d2⟩ hfe
      · show addM (ssM A n F O D k) 1 (n + k) (F k) (O k) (D k) 1 11 = _
        rw [addM_11, b, Int32.add_assoc, nI_add]
      · show addM (ssM A n F O D k) 1 (n + k) (F k) (O k) (D k) 1 12 = _
        rw [addM_1 _ _ _ _ _ (by decide) (by decide), c]
theorem stp_v {m : zM} {n : Nat} {f o d v : Int32} (hs : stp m n f o d v) (hn : n ≤ 14) (hv : v < nI 10) : (¬ esg n f o d = 0 ∧ (v = -1 ∨ v = -3)) ∨ (esg n f o d = 0 ∧ (v = nI 1 ∨ v = nI 2)) := by
  rcases hs with ⟨a, e⟩ | ⟨e0, f1, o1, y, rr, ef, eo, hf, ho, -, -, hr, hc⟩
  · rcases esg_c n f o d with z | z | z
    · exact absurd z a
    · exact Or.inl ⟨a, Or.inr (e.trans z)⟩
    · exact Or.inl ⟨a, Or.inl (e.trans z)⟩
  · refine Or.inr ⟨e0, ?_⟩
    rcases hc with ⟨-, e⟩ | ⟨z, e⟩
    · rw [e] at hv
      exact absurd hv (nI_nlt (by omega) (by omega))
    · rcases hr with ⟨-, u⟩ | ⟨-, -, u⟩ | ⟨-, -, u⟩
      · exact Or.inl (e.trans u)
      · exact Or.inr (e.trans u)
      · exact absurd u z
/-- how signAll ends when the text has no fault: J treaties signed of K + 1 -/
def SgE (M : zM) (x : Nat → Int32) (K J : Nat) (M2 : zM) : Prop := M2 68 1 = nI 0 ∧ M2 1 11 = M 1 11 + nI J ∧ ((J = K + 1 ∧ M2 0 7 = nI 0 ∧ M2 1 12 = M 1 12) ∨ (J < K + 1 ∧ M2 0 8 = nI J ∧ M2 0 9 = nI (sq x J) ∧ (((M2 0 7 = -1 ∨ M2 0 7 = -3) ∧ M2 1 12 = M 1 12) ∨ ((M2 0 7 = nI 1 ∨ M2 0 7 = nI 2) ∧ M2 1 12 = M 1 12 + nI 1))))
section
variable {G : zG} {l : Launch} {Kc n s L : Nat} {h : Nat → Nat} {M mm : zM}
theorem v_fault (hf : FP9 M mm) (hL : M 68 1 = nI L) (hL60 : L ≤ 60) : zMet G l yX3_fault mX3_fault [.ref (G.1 + 0)] (zw h mm) (fun r w => ∃ v, r = some (.int v) ∧ (∃ K, Good (hx (M 69) L) L K ∧ Flt (hx (M 69) L) L K v) ∧ ∃ m', w = zw h m' ∧ FP9 M m') 0 0 :=
  zMet_post (zX3_fault L (by rw [hf.2.2]; exact hL) hL60) (fun r w hp => by
    obtain ⟨m', K, v, ew, hF, hG, er, hFl, -⟩ := hp
    rw [hf.2.1] at hG hFl
    exact ⟨v, er, ⟨K, hG, hFl⟩, m', ew, hf.p hF⟩)
theorem v_signAll (sy : Sy Kc h M n s) (hf : FP9 M mm) (hL : M 68 1 = nI L) (hL60 : L ≤ 60) : zMet G l yX3_signAll mX3_signAll [.ref (G.1 + 0)] (zw h mm) (fun r w => ∃ K v, Good (hx (M 69) L) L K ∧ Flt (hx (M 69) L) L K v ∧ ((¬ v = -4 ∧ r = some (.int (-2)) ∧ ∃ m', w = zw h m' ∧ FP9 M m') ∨ (v = -4 ∧ ∃ J, J ≤ K + 1 ∧ n + J ≤ 14 ∧ r = some (.int (nI J)) ∧ ∃ M2, w = zw (hRem h s) M2 ∧ Act Kc h M n s (hRem h s) M2 (n + J) (sN s) ∧ SgE M (hx (M 69) L) K J M2))) 0 0 := by
  have hh := sy.1
  have e9 : ∀ m1 : zM, Fpd mm m1 → ∀ q, 1 ≤ q → q ≤ 9 → up2 (mRem h m1 s) 0 7 (nI 0) q = M q := fun m1 hF q a b => by
    rw [up2_na _ _ _ (by omega), mRem_o hh (by omega) (by omega), hF.1 q (by omega), hf.1 q (by omega)]
  refine zMet_post (zX3_signAll s sy.s4 (by rw [hf.1 0 (by decide)]; exact sy.st) hh n L (by rw [hf.2.2]; exact hL) hL60 (fun m1 hF => (sy.inv.q (fun q a b => (e9 m1 hF q a b).symm)).g)) (fun r w hp => ?_)
  obtain ⟨m1, K, v, hF, hG, hFl, hc⟩ := hp
  rw [hf.2.1] at hG hFl
  refine ⟨K, v, hG, hFl, ?_⟩
  rcases hc with ⟨hv, er, ew⟩ | ⟨hv, hp6, hRP, hK15, J, hst, er, m', ew, hFsa, hend⟩
  · exact Or.inl ⟨hv, er, m1, ew, hf.p hF⟩
  · refine Or.inr ⟨hv, J, ?_, ?_⟩
    · rcases hend with ⟨a, -⟩ | ⟨a, -⟩ <;> omega
    rw [hf.2.1] at hRP
    have hE := e9 m1 hF
    have hIA : Inv Kc (up2 (mRem h m1 s) 0 7 (nI 0)) n := sy.inv.q (fun q a b => (hE q a b).symm)
    have A0 : ∀ k, k ≠ 7 → up2 (mRem h m1 s) 0 7 (nI 0) 0 k = mRem h m1 s 0 k := fun k hk => up2_ne _ _ (by omega)
    have A7 : ∀ q, q ≠ 0 → up2 (mRem h m1 s) 0 7 (nI 0) q = mRem h m1 s q := fun q hq => up2_na _ _ _ hq
    have A70 : up2 (mRem h m1 s) 0 7 (nI 0) 70 = m1 70 := by rw [A7 70 (by decide), mRem_o hh (by decide) (by decide)]
    generalize hA9 : up2 (mRem h m1 s) 0 7 (nI 0) = A at hst hFsa hend hIA A0 A7 hE A70
    have ss := ssI hIA hst
    have sJ := ss J (Nat.le_refl J)
    have hn14 := sJ.1.n14
    refine ⟨hn14, er, up2 m' 68 1 (nI 0), ew, ?_, ?_⟩
    · have e0 : ∀ k, k ≠ 7 → k ≠ 8 → k ≠ 9 → up2 m' 68 1 (nI 0) 0 k = mRem h m1 s 0 k := fun k a b c => by
        rw [up2_na _ _ _ (by decide), hFsa.2 k (by omega), A0 k a]
      have hq : ∀ q, 10 ≤ q → q < 56 → up2 m' 68 1 (nI 0) q = mRem h m1 s q := fun q a b => by
        rw [up2_na _ _ _ (by omega), hFsa.1 q (by omega) (by omega) (by omega), A7 q (by omega)]
      have hm1 : ∀ q, q < 56 → m1 q = M q := fun q a => (hF.1 q (by omega)).trans (hf.1 q a)
      have sy1 : Sy Kc h m1 n s := sy.lo (fun q a _ => hm1 q a) (by rw [hm1 0 (by decide)]) (by rw [hm1 0 (by decide)]) ⟨L, hL60, by rw [hF.2.2, hf.2.2]; exact hL⟩
      have hI2 : Inv Kc (up2 m' 68 1 (nI 0)) (n + J) := by
        rcases hend with ⟨-, -, hs⟩ | ⟨-, v9, -, -, -, -, -, -, hx9⟩
        · exact sJ.1.q (fun q a b => by rw [up2_na _ _ _ (by omega)]; exact (hs q a b).symm)
        · rcases hx9 with ⟨-, hs⟩ | ⟨-, hs⟩
          · exact sJ.1.q (fun q a b => by rw [up2_na _ _ _ (by omega)]; exact (hs q a b).symm)
          · exact sJ.1.ref.q (fun q a b => by rw [up2_na _ _ _ (by omega)]; exact (hs q a b).symm)
      have act := Act.chg sy1 (m1 := up2 m' 68 1 (nI 0)) hq (e0 5 (by decide) (by decide) (by decide)) (by rw [e0 6 (by decide) (by decide) (by decide), mRem_0 hh (by decide)]) (hI2.mono (Nat.le_succ Kc)) ⟨0, by decide, up2_eq _ _ _ _⟩
      refine ⟨act.1, ⟨fun q a b => (act.2.1.1 q a b).trans (hm1 q (by omega)), by rw [act.2.1.2, hm1 0 (by decide)]⟩, ?_⟩
      rcases act.2.2 with ⟨a, b, c⟩ | ⟨a, b⟩
      · exact Or.inl ⟨a, b, c.trans (EqS.of (fun q x y => hm1 q (by omega)))⟩
      · exact Or.inr ⟨a, b.trans (EqS.of (fun q x y => hm1 q (by omega)))⟩
    · refine ⟨up2_eq _ _ _ _, ?_, ?_⟩
      · rw [up2_na _ _ _ (by decide)]
        rcases hend with ⟨-, -, hs⟩ | ⟨-, v9, -, -, -, -, -, -, hx9⟩
        · rw [hs 1 (by decide) (by decide), sJ.2.1, hE 1 (by decide) (by decide)]
        · rcases hx9 with ⟨-, hs⟩ | ⟨-, hs⟩
          · rw [hs 1 (by decide) (by decide), sJ.2.1, hE 1 (by decide) (by decide)]
          · rw [hs 1 (by decide) (by decide)]
            refine (up2_ne _ _ (by decide)).trans ?_
            rw [sJ.2.1, hE 1 (by decide) (by decide)]
      · rw [up2_na _ _ _ (by decide), up2_na _ _ _ (by decide)]
        rcases hend with ⟨a, b, hs⟩ | ⟨a, v9, b, c, d, e7, e8, e99, hx9⟩
        · exact Or.inl ⟨a, b, by rw [hs 1 (by decide) (by decide), sJ.2.2, hE 1 (by decide) (by decide)]⟩
        · refine Or.inr ⟨a, e8, ?_, ?_⟩
          · rw [e99, A70]
            exact (hRP J a).1
          · rcases stp_v b hn14 c with ⟨u1, u2⟩ | ⟨u1, u2⟩
            · rcases hx9 with ⟨-, hs⟩ | ⟨z, hs⟩
              · exact Or.inl ⟨by rw [e7]; exact u2, by rw [hs 1 (by decide) (by decide), sJ.2.2, hE 1 (by decide) (by decide)]⟩
              · exact absurd z u1
            · rcases hx9 with ⟨z, hs⟩ | ⟨-, hs⟩
              · exact absurd u1 z
              · refine Or.inr ⟨by rw [e7]; exact u2, ?_⟩
                rw [hs 1 (by decide) (by decide)]
                refine (up2_eq _ _ _ _).trans ?_
                rw [sJ.2.2, hE 1 (by decide) (by decide)]
end
