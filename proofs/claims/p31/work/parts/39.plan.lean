/-! plan as an act; ifDays for a day ahead -/
section
variable {m : zM} {L : Nat → Int32}
theorem pl_z {i : Nat} (h : (L i).toInt ≤ (m 2 i).toInt) (b : (m 2 i).toInt ≤ 99) (b0 : 0 ≤ (L i).toInt) : (m 2 i - L i).toInt = (m 2 i).toInt - (L i).toInt := i32_sub (by omega) (by omega)
theorem pl_0 {i : Nat} (h : (L i).toInt ≤ (m 2 i).toInt) (b : (m 2 i).toInt ≤ 99) (b0 : 0 ≤ (L i).toInt) (c : ¬ 0 < m 2 i - L i) : m 2 i = L i ∧ m 2 i - L i = 0 := by
  rw [i32_lt, pl_z h b b0] at c
  have c2 : ¬ (0 : Int) < (m 2 i).toInt - (L i).toInt := c
  have e : m 2 i = L i := i32_eq.mpr (by omega)
  exact ⟨e, by rw [e, Int32.sub_self]⟩
theorem plM_h (hL : ∀ q, q < 8 → 0 ≤ (L q).toInt ∧ (L q).toInt ≤ (m 2 q).toInt ∧ (m 2 q).toInt ≤ 99) : ∀ i, i ≤ 8 → ∀ q, q < 8 → plM m L i 2 q = if q < i then L q else m 2 q
  | 0, _, q, _ => by
    rw [if_neg (Nat.not_lt_zero q)]
    rfl
  | i + 1, hi, q, hq => by
    have ih := plM_h hL i (by omega) q hq
    have b := hL i (by omega)
    unfold plM
    by_cases c : 0 < m 2 i - L i
    · rw [if_pos c, cuM_2]
      by_cases d : q = i
      · rw [if_pos d, if_pos (by omega), plM_2 m L i i (Nat.le_refl i), d]
        rw [i32_eq, i32_sub (by rw [pl_z b.2.1 b.2.2 b.1]; omega) (by rw [pl_z b.2.1 b.2.2 b.1]; omega), pl_z b.2.1 b.2.2 b.1]
        omega
      · rw [if_neg d, ih]
        by_cases e : q < i
        · rw [if_pos e, if_pos (by omega)]
        · rw [if_neg e, if_neg (by omega)]
    · rw [if_neg c, ih]
      by_cases d : q = i
      · rw [if_neg (by omega), if_pos (by omega), d]
        exact (pl_0 b.2.1 b.2.2 b.1 c).1
      · by_cases e : q < i
        · rw [if_pos e, if_pos (by omega)]
        · rw [if_neg e, if_neg (by omega)]
theorem plM_1 : ∀ i k, k ≠ 13 → plM m L i 1 k = m 1 k
  | 0, _, _ => rfl
  | i + 1, k, hk => by
    unfold plM
    split
    · rw [cuM_1 _ _ _ hk]
      exact plM_1 i k hk
    · exact plM_1 i k hk
theorem plM_5 : ∀ i q, plM m L i 5 q = if q < i ∧ 0 < m 2 q - L q then m 5 q + (m 2 q - L q) else m 5 q
  | 0, q => by
    rw [if_neg (fun z => absurd z.1 (Nat.not_lt_zero q))]
    rfl
  | i + 1, q => by
    have ih := plM_5 i
    have ihi : plM m L i 5 i = m 5 i := by rw [ih i, if_neg (fun z => absurd z.1 (Nat.lt_irrefl i))]
    unfold plM
    by_cases c : 0 < m 2 i - L i
    · rw [if_pos c, cuM_5, ihi, ih q]
      by_cases d : q = i
      · rw [if_pos d, d, if_pos ⟨Nat.lt_succ_self i, c⟩]
      · rw [if_neg d]
        by_cases e : q < i ∧ 0 < m 2 q - L q
        · rw [if_pos e, if_pos ⟨by omega, e.2⟩]
        · rw [if_neg e, if_neg (fun z => e ⟨by omega, z.2⟩)]
    · rw [if_neg c, ih q]
      by_cases e : q < i ∧ 0 < m 2 q - L q
      · rw [if_pos e, if_pos ⟨by omega, e.2⟩]
      · rw [if_neg e, if_neg (fun z => by
          by_cases d : q = i
          · rw [d] at z
            exact c z.2
          · exact e ⟨by omega, z.2⟩)]
theorem plT_s (hL : ∀ q, q < 8 → 0 ≤ (L q).toInt ∧ (L q).toInt ≤ (m 2 q).toInt ∧ (m 2 q).toInt ≤ 99) : ∀ i, i ≤ 8 → plT m L i = sumI (fun j => m 2 j - L j) i
  | 0, _ => nI_0
  | i + 1, hi => by
    have ih := plT_s hL i (by omega)
    have b := hL i (by omega)
    show (if 0 < m 2 i - L i then plT m L i + (m 2 i - L i) else plT m L i) = sumI (fun j => m 2 j - L j) i + (m 2 i - L i)
    by_cases c : 0 < m 2 i - L i
    · rw [if_pos c, ih]
    · rw [if_neg c, ih, (pl_0 b.2.1 b.2.2 b.1 c).2, Int32.add_zero]
theorem sumI_add (f g : Nat → Int32) : ∀ N, sumI (fun q => f q + g q) N = sumI f N + sumI g N
  | 0 => by
    show (0 : Int32) = 0 + 0
    decide
  | N + 1 => by
    show sumI (fun q => f q + g q) N + (f N + g N) = sumI f N + f N + (sumI g N + g N)
    rw [sumI_add f g N]
    generalize sumI f N = a
    generalize sumI g N = b
    rw [Int32.add_assoc, Int32.add_assoc, ← Int32.add_assoc b, Int32.add_comm b, Int32.add_assoc]
theorem plM_s5 (hL : ∀ q, q < 8 → 0 ≤ (L q).toInt ∧ (L q).toInt ≤ (m 2 q).toInt ∧ (m 2 q).toInt ≤ 99) : sumI (plM m L 8 5) 8 = sumI (m 5) 8 + sumI (fun j => m 2 j - L j) 8 := by
  rw [← sumI_add]
  exact sumI_congr 8 (fun j hj => by
    have b := hL j hj
    rw [plM_5]
    by_cases c : 0 < m 2 j - L j
    · rw [if_pos ⟨hj, c⟩]
    · rw [if_neg (fun z => c z.2), (pl_0 b.2.1 b.2.2 b.1 c).2, Int32.add_zero])
end
section
variable {G : zG} {l : Launch} {K n s : Nat} {h : Nat → Nat} {m mm : zM}
theorem v_plan (sy : Sy K h m n s) (hK : K ≤ 1000) (hF : Fsv m mm) : zMet G l yX3_plan mX3_plan [.ref (G.1 + 0)] (zw h mm) (fun r w => (¬ Feas m n ∧ VA K h m n s (nI 4) n (RefR m) r w) ∨ (Feas m n ∧ VA K h m n s (nI 3) n (RefR m) r w) ∨ (Feas m n ∧ VA K h m n s (nI 10 + clp m n) n (fun M => M 1 12 = m 1 12 ∧ sumI (M 5) 8 = sumI (m 5) 8 + clp m n ∧ cB M n = 0) r w)) 0 0 := by
  have hA := IA sy hF
  have hI := sy.inv
  refine zMet_post (zX3_plan s sy.s4 (stF5 sy hF) sy.1 n hA.g) (fun r w hp => ?_)
  obtain ⟨m', y, hF2, hT, hc⟩ := hp
  have eE := eqA sy hF
  have ey := tpL_of (eE.topL hT)
  have eq9 : ∀ q, 1 ≤ q → q ≤ 9 → m' q = m q := fun q p r => (hF2 q (by omega)).trans (rq sy hF p r)
  have hI' : Inv K m' n := hI.q (fun q a b => (eq9 q a b).symm)
  rcases hc with ⟨⟨q, q1, q2⟩, er, ew⟩ | ⟨a, -, er, ew⟩ | ⟨a, -, er, ew⟩
  · exact Or.inl ⟨fun z => by have := z q q1; rw [ey] at this; omega, er, _, ew, mkA sy hF ((FC.sv hF2).trans9 ref_fc) (hI'.ref.mono (Nat.le_succ K)), refRo eq9⟩
  · exact Or.inr (Or.inl ⟨fun q hq => by rw [ey]; exact a q hq, er, _, ew, mkA sy hF ((FC.sv hF2).trans9 ref_fc) (hI'.ref.mono (Nat.le_succ K)), refRo eq9⟩)
  · have hf : Feas m n := fun q hq => by
      rw [ey]
      exact a q hq
    have hLv : ∀ q, q < 8 → (fun q => Int32.ofInt (y q)) q = hd4 m n q := fun q hq => by
      show Int32.ofInt (y q) = _
      unfold hd4
      rw [if_pos hf, ey]
    have b2 : ∀ q, q < 8 → 0 ≤ ((fun q => Int32.ofInt (y q)) q).toInt ∧ ((fun q => Int32.ofInt (y q)) q).toInt ≤ (m' 2 q).toInt ∧ (m' 2 q).toInt ≤ 99 := fun q hq => by
      have b := hI.hdI hf hq
      rw [hLv q hq, eq9 2 (by decide) (by decide)]
      omega
    have b3 : ∀ q, q < 8 → 0 ≤ ((fun q => Int32.ofInt (y q)) q).toInt ∧ ((fun q => Int32.ofInt (y q)) q).toInt ≤ (mRem h mm s 2 q).toInt ∧ (mRem h mm s 2 q).toInt ≤ 99 := fun q hq => by
      have b := hI.hdI hf hq
      rw [hLv q hq, rq sy hF (by decide) (by decide)]
      omega
    generalize hLL : (fun q => Int32.ofInt (y q)) = LL at er ew hLv b2 b3
    have h2 : ∀ q, q < 8 → plM m' LL 8 2 q = hd4 m n q := fun q hq => by rw [plM_h b2 8 (Nat.le_refl 8) q hq, if_pos hq, hLv q hq]
    have ho : ∀ q, q ≠ 1 → q ≠ 2 → q ≠ 5 → plM m' LL 8 q = m' q := fun q x1 x2 x5 => plM_o m' LL x1 x2 x5 8
    have ec : clp m n = sumI (fun j => m 2 j - LL j) 8 := by
      rw [clp_off hf]
      exact sumI_congr 8 (fun j hj => by rw [hLv j hj])
    have hIM : Inv (K + 1) (plM m' LL 8) n := by
      refine hI'.step (Nat.le_succ K) (plM_1 8 8 (by decide)) (fun t _ => ⟨by rw [ho 6 (by decide) (by decide) (by decide)], by rw [ho 7 (by decide) (by decide) (by decide)], by rw [ho 8 (by decide) (by decide) (by decide)]⟩) (fun i hi => ?_) (fun i hi => by rw [ho 3 (by decide) (by decide) (by decide)]; exact hI'.gg hi) (by rw [plM_1 8 9 (by decide)]; have := hI'.day; omega) (fun t ht => by rw [ho 9 (by decide) (by decide) (by decide)]; have := hI'.ii ht; omega) (by rw [plM_1 8 10 (by decide)]; have := hI'.ck; omega) (fun i hi => ?_)
      · have b := hI.hdI hf hi
        rw [h2 i hi]
        omega
      · have b := b2 i hi
        have c := hI'.cc hi
        have z := pl_z (m := m') (L := LL) b.2.1 b.2.2 b.1
        rw [plM_5]
        split
        · rw [i32_add (by omega) (by omega)]
          omega
        · omega
    refine Or.inr (Or.inr ⟨hf, ?_, _, ew, mkA sy hF ((FC.sv hF2).trans9 (fun q x z => ho q (by omega) (by omega) (by omega))) hIM, ?_, ?_, ?_⟩)
    · rw [er, plT_s b3 8 (Nat.le_refl 8), ec, rq sy hF (by decide) (by decide)]
    · rw [plM_1 8 12 (by decide), eq9 1 (by decide) (by decide)]
    · rw [plM_s5 b2, ec, eq9 5 (by decide) (by decide), eq9 2 (by decide) (by decide)]
    · have none : ∀ t, t < n → ¬ sBrk (plM m' LL 8) 1 t (nI 0) := fun t ht z => by
        have f8 := hI.f8 ht
        have o8 := hI.o8 ht
        have z1 := (brk0.mp z).1
        have z2 := (brk0.mp z).2
        have e9 : sForce m 1 t := by
          have z3 : plM m' LL 8 9 t ≤ plM m' LL 8 1 9 := z1
          rw [ho 9 (by decide) (by decide) (by decide), plM_1 8 9 (by decide), eq9 9 (by decide) (by decide), eq9 1 (by decide) (by decide)] at z3
          exact z3
        have ef : sF (plM m' LL 8) 1 t = sF m 1 t := by
          unfold sF
          rw [ho (1 + 5) (by decide) (by decide) (by decide), eq9 (1 + 5) (by decide) (by decide)]
        have eo : sO (plM m' LL 8) 1 t = sO m 1 t := by
          unfold sO
          rw [ho (1 + 6) (by decide) (by decide) (by decide), eq9 (1 + 6) (by decide) (by decide)]
        rw [i32_lt, hIM.slackI ht, ef, eo, h2 _ f8.2, h2 _ o8.2, ho 8 (by decide) (by decide) (by decide), eq9 8 (by decide) (by decide)] at z2
        have a1 := hI.hdI hf f8.2
        have a2 := hI.hdI hf o8.2
        have a3 := tpL_e hI.g ht e9
        have z0 : (0 : Int32).toInt = 0 := rfl
        omega
      rcases Nat.eq_zero_or_pos (cB (plM m' LL 8) n) with q | q
      · exact q
      · obtain ⟨j, j1, j2⟩ := cnt_pos n q
        exact absurd (of_decide_eq_true j2) (none j j1)
theorem v_ifDays0 (hF : Fsv m mm) (hk : sOk m 1 n) {D : Nat} (h1 : 1 ≤ D) (h2 : D ≤ 30) : zMet G l yX3_ifDays mX3_ifDays [.ref (G.1 + 0), .int (nI D), .int (nI 0)] (zw h mm) (VP h m (nI (bcA m n D))) 0 0 :=
  vw hF (zX3_ifDays0 n (hF.sOk hk) (nI D) (nI_nlt h1 (by omega)) (nI_nlt h2 (by decide))) (congrArg nI (cnt_congr n (fun j hj => decide_eq_decide.mpr (hF.eqs.brk (hF.sOk hk) hj (nI D)))))
theorem v_ifDays1 (hF : Fsv m mm) (hk : sOk m 1 n) {D : Nat} (h1 : 1 ≤ D) (h2 : D ≤ 30) : zMet G l yX3_ifDays mX3_ifDays [.ref (G.1 + 0), .int (nI D), .int (nI 1)] (zw h mm) (VP h m (sumI (fun i => hAft m 1 i (nI D)) 8)) 0 0 :=
  vw hF (zX3_ifDays1 n (hF.sOk hk) (nI D) (nI_nlt h1 (by omega)) (nI_nlt h2 (by decide))) (sumI_congr 8 (fun j hj => (hF.eqs (n := 0)).aft hj (nI D)))
end
