/-! the relation between the class's cells and the model's -/
def hR (m : zM) (k : Nat) : Nat → Int32 := fun j => m 77 (95 * k + j)
def HistOk (K : Nat) (h : Nat → Nat) (m : zM) (s : Nat) : Prop := ∀ k, k < s → ∃ n, EqS n (aS m (h k)) (vR (hR m k)) ∧ Inv K (hR m k) n
def CurOk (K : Nat) (m : zM) : Prop := ∃ n, EqS n m (vR (m 75)) ∧ Inv K (m 75) n
def SnapOk (K : Nat) (m : zM) : Prop := (m 0 6 = nI 0 ∧ m 74 5 = nI 0) ∨ (m 0 6 = nI 1 ∧ m 74 5 = nI 1 ∧ ∃ n, EqS n (aS m 10) (vR (m 78)) ∧ Inv K (m 78) n)
def PadOk (m : zM) : Prop := ∃ L, L ≤ 60 ∧ m 68 1 = nI L ∧ m 74 7 = nI L ∧ ∀ j, j < L → m 69 j = m 79 j ∧ 0 ≤ (m 79 j).toInt ∧ (m 79 j).toInt ≤ 126
def StopOk (m : zM) : Prop := (m 0 7 = nI 0 ∧ m 74 15 = nI 0) ∨ (¬ m 0 7 = 0 ∧ m 74 15 = nI 1 ∧ m 82 0 = m 0 7 ∧ m 82 1 = m 0 8 ∧ m 82 2 = m 0 9)
def Rel (K : Nat) (h : Nat → Nat) (m : zM) : Prop := hOk h ∧ CurOk K m ∧ (∃ s, s ≤ 4 ∧ m 0 5 = nI s ∧ m 74 3 = nI s ∧ HistOk K h m s) ∧ SnapOk K m ∧ PadOk m ∧ StopOk m
theorem HistOk.mono {K K' : Nat} {h : Nat → Nat} {m : zM} {s : Nat} (g : HistOk K h m s) (hk : K ≤ K') : HistOk K' h m s := fun k a => by
  obtain ⟨n, b, c⟩ := g k a
  exact ⟨n, b, c.mono hk⟩
theorem SnapOk.mono {K K' : Nat} {m : zM} (g : SnapOk K m) (hk : K ≤ K') : SnapOk K' m := by
  rcases g with g | ⟨a, b, n, c, d⟩
  · exact Or.inl g
  · exact Or.inr ⟨a, b, n, c, d.mono hk⟩
theorem Rel.mono {K K' : Nat} {h : Nat → Nat} {m : zM} (g : Rel K h m) (hk : K ≤ K') : Rel K' h m := by
  obtain ⟨a, ⟨n, b, c⟩, ⟨s, d, e, f, q⟩, g4, g5, g6⟩ := g
  exact ⟨a, ⟨n, b, c.mono hk⟩, ⟨s, d, e, f, q.mono hk⟩, g4.mono hk, g5, g6⟩
theorem EqS.sub {n : Nat} {m m' v : zM} (e : ∀ q, 1 ≤ q → q ≤ 9 → m' q = m q) (h : EqS n m v) : EqS n m' v := (EqS.of e).trans h
theorem IsSt.hi {a : Nat} (h : IsH a) : 20 ≤ a ∧ a + 9 ≤ 56 := by unfold IsH at h; omega
theorem IsH.apart {a c : Nat} (ha : IsH a) (hc : IsH c) (h : a ≠ c) : a + 9 ≤ c ∨ c + 9 ≤ a := ha.st.apart hc.st h
theorem cpR_at (m : zM) (A x B y i k : Nat) : cpR m A x B y i B k = if y ≤ k ∧ k < y + i then m A (x + (k - y)) else m B k := by
  unfold cpR
  by_cases g : y ≤ k ∧ k < y + i
  · rw [if_pos ⟨rfl, g⟩, if_pos g]
  · rw [if_neg (fun z => g z.2), if_neg g]
theorem rec77 (m : zM) {s : Nat} (hs : s < 4) (j : Nat) : recM m s 77 j = if 95 * s ≤ j ∧ j < 95 * s + 95 then m 75 (j - 95 * s) else m 77 j := by
  unfold recM
  rw [if_pos hs, up2_na _ _ _ (by decide), cpR_at]
  simp only [Nat.zero_add]
theorem rec77b (m : zM) (j : Nat) : recM m 4 77 j = if 285 ≤ j ∧ j < 380 then m 75 (j - 285) else if j < 285 then m 77 (j + 95) else m 77 j := by
  show up2 (cpR (up2 (shf m 285) 74 3 (nI 3)) 75 0 77 285 95) 74 3 (nI 4) 77 j = _
  rw [up2_na _ _ _ (by decide), cpR_at]
  by_cases g : 285 ≤ j ∧ j < 285 + 95
  · rw [if_pos g, if_pos (by omega), up2_na _ _ _ (by decide)]
    show (if 75 = 77 ∧ _ then _ else m 75 (0 + (j - 285))) = m 75 (j - 285)
    rw [if_neg (fun z => absurd z.1 (by decide)), Nat.zero_add]
  · rw [if_neg g, if_neg (by omega), up2_na _ _ _ (by decide)]
    unfold shf
    by_cases g2 : j < 285
    · rw [if_pos ⟨rfl, g2⟩, if_pos g2]
    · rw [if_neg (fun z => g2 z.2), if_neg g2]
theorem rec743 (m : zM) {s : Nat} (hs : s ≤ 4) : recM m s 74 3 = nI (if s < 4 then s + 1 else 4) := by
  unfold recM
  by_cases g : s < 4
  · rw [if_pos g, if_pos g, up2_eq]
  · rw [if_neg g, if_neg g, up2_eq]
theorem mRem05 (h : Nat → Nat) (m : zM) {s : Nat} (hs : s ≤ 4) : mRem h m s 0 5 = nI (if s < 4 then s + 1 else 4) := by
  unfold mRem
  by_cases g : s < 4
  · rw [if_pos g, if_pos g, up2_eq]
  · rw [if_neg g, if_neg g, up2_eq]
theorem hRem_ok {h : Nat → Nat} (s : Nat) (hh : hOk h) : hOk (hRem h s) := by
  unfold hRem
  split
  · exact hh
  · exact rotH_ok hh
theorem hist_step {K : Nat} {h : Nat → Nat} {m : zM} {s n : Nat} (hh : hOk h) (hs : s ≤ 4) (hH : HistOk K h m s) (hc : EqS n m (vR (m 75)) ∧ Inv K (m 75) n) {m2 : zM} (c1 : ∀ q, 20 ≤ q → q < 56 → m2 q = mRem h m s q) (c77 : ∀ j, m2 77 j = recM m s 77 j) : HistOk K (hRem h s) m2 (if s < 4 then s + 1 else 4) := by
  intro k hk
  have hn := hc.2.n14
  by_cases g : s < 4
  · rw [if_pos g] at hk
    have e1 : ∀ q, 20 ≤ q → q < 56 → m2 q = cpM m (h s) 1 q := fun q a b => by
      rw [c1 q a b]
      unfold mRem
      rw [if_pos g, up2_na _ _ _ (by omega)]
    have e7 : ∀ j, m2 77 j = if 95 * s ≤ j ∧ j < 95 * s + 95 then m 75 (j - 95 * s) else m 77 j := fun j => by rw [c77, rec77 m g]
    have eh : hRem h s = h := if_pos g
    rw [eh]
    have hsH := hh.1 s g
    have hkH := hh.1 k (by omega)
    have ik := IsSt.hi hkH
    rcases Nat.lt_succ_iff_lt_or_eq.mp hk with g2 | g2
    · obtain ⟨n2, a, b⟩ := hH k g2
      have ne : h k ≠ h s := fun z => by
        have := hh.2 k s (by omega) g z
        omega
      have ap := hkH.apart hsH ne
      have er : ∀ j, j < 95 → hR m k j = hR m2 k j := fun j hj => by
        show m 77 (95 * k + j) = m2 77 (95 * k + j)
        rw [e7, if_neg (by omega)]
      refine ⟨n2, ((aS_of (fun q c d => ?_)).trans a).trans ((row_eq er).le b.n14), b.row er⟩
      rw [e1 q (by omega) (by omega), cp_o _ (by omega)]
    · subst g2
      have er : ∀ j, j < 95 → m 75 j = hR m2 k j := fun j hj => by
        show m 75 j = m2 77 (95 * k + j)
        rw [e7, if_pos (by omega), Nat.add_sub_cancel_left]
      refine ⟨n, (((((aS_of (fun q c d => ?_)).trans (cp_to hn m (h k) 1)).trans aS_1).trans hc.1).trans ((row_eq er).le hn)), hc.2.row er⟩
      exact e1 q (by omega) (by omega)
  · rw [if_neg g] at hk
    have es : s = 4 := by omega
    subst es
    have e1 : ∀ q, 20 ≤ q → q < 56 → m2 q = cpM (up2 m 0 5 (nI 3)) (h 0) 1 q := fun q a b => by
      rw [c1 q a b]
      unfold mRem
      rw [if_neg g, up2_na _ _ _ (by omega)]
    have e7 : ∀ j, m2 77 j = if 285 ≤ j ∧ j < 380 then m 75 (j - 285) else if j < 285 then m 77 (j + 95) else m 77 j := fun j => by rw [c77, rec77b m]
    have eh : hRem h 4 = rotH h := if_neg g
    rw [eh]
    have h0 := hh.1 0 (by decide)
    by_cases g3 : k = 3
    · subst g3
      have er : ∀ j, j < 95 → m 75 j = hR m2 3 j := fun j hj => by
        show m 75 j = m2 77 (95 * 3 + j)
        rw [e7, if_pos (by omega), show 95 * 3 + j - 285 = j by omega]
      have i0 := IsSt.hi h0
      have e : rotH h 3 = h 0 := rfl
      rw [e]
      have eu : EqS n (aS (up2 m 0 5 (nI 3)) 1) (aS m 1) := aS_of (fun q c d => up2_na _ _ _ (by omega))
      refine ⟨n, ((((((aS_of (fun q c d => ?_)).trans (cp_to hn (up2 m 0 5 (nI 3)) (h 0) 1)).trans eu).trans aS_1).trans hc.1).trans ((row_eq er).le hn)), hc.2.row er⟩
      exact e1 q (by omega) (by omega)
    · have hk3 : k < 3 := by omega
      have e : rotH h k = h (k + 1) := by
        unfold rotH
        rw [if_neg g3]
        by_cases z2 : k = 2
        · subst z2; rfl
        · by_cases z1 : k = 1
          · subst z1; rfl
          · have z0 : k = 0 := by omega
            subst z0; rfl
      rw [e]
      have hkH := hh.1 (k + 1) (by omega)
      have ik := IsSt.hi hkH
      have ne : h (k + 1) ≠ h 0 := fun z => by
        have := hh.2 (k + 1) 0 (by omega) (by decide) z
        omega
      have ap := hkH.apart h0 ne
      obtain ⟨n2, a, b⟩ := hH (k + 1) (by omega)
      have er : ∀ j, j < 95 → hR m (k + 1) j = hR m2 k j := fun j hj => by
        show m 77 (95 * (k + 1) + j) = m2 77 (95 * k + j)
        rw [e7, if_neg (by omega), if_pos (by omega), show 95 * k + j + 95 = 95 * (k + 1) + j by omega]
      refine ⟨n2, ((aS_of (fun q c d => ?_)).trans a).trans ((row_eq er).le b.n14), b.row er⟩
      rw [e1 q (by omega) (by omega), cp_o _ (by omega), up2_na _ _ _ (by omega)]
/-- after a change: what stands in the rest -/
theorem Rel.chg {K : Nat} {h : Nat → Nat} {m : zM} (hR9 : Rel K h m) {s : Nat} (hs : s ≤ 4) (hst : m 0 5 = nI s) {m2 : zM} (c0 : m2 0 5 = mRem h m s 0 5) (c6 : m2 0 6 = m 0 6) (c1 : ∀ q, 10 ≤ q → q < 56 → q ≠ 19 → m2 q = mRem h m s q) (c77 : ∀ j, m2 77 j = recM m s 77 j) (c743 : m2 74 3 = recM m s 74 3) (c745 : m2 74 5 = m 74 5) (c78 : m2 78 = m 78) (cur : CurOk (K + 1) m2) (pad : PadOk m2) (stp9 : StopOk m2) : Rel (K + 1) (hRem h s) m2 := by
  obtain ⟨hh, ⟨n, hc⟩, ⟨s2, d, e, f, q⟩, g4, -, -⟩ := hR9
  have es : s2 = s := (nI_eq (by omega) (by omega)).mp (e.symm.trans hst)
  subst es
  refine ⟨hRem_ok _ hh, cur, ⟨if s2 < 4 then s2 + 1 else 4, by split <;> omega, by rw [c0, mRem05 h m d], by rw [c743, rec743 m d], ?_⟩, ?_, pad, stp9⟩
  · have c19 : ∀ q, 20 ≤ q → q < 56 → m2 q = mRem h m s2 q := fun q a b => c1 q (by omega) b (by omega)
    exact (hist_step hh d q hc c19 c77).mono (by omega)
  · have e10 : ∀ q, 10 ≤ q → q < 19 → m2 q = m q := fun q a b => by rw [c1 q a (by omega) (by omega), mRem_o hh (by omega) (by omega)]
    rcases g4 with ⟨a, b⟩ | ⟨a, b, n2, c, d2⟩
    · exact Or.inl ⟨c6.trans a, c745.trans b⟩
    · refine Or.inr ⟨c6.trans a, c745.trans b, n2, ?_, ?_⟩
      · rw [c78]
        exact (aS_of (fun q x y => e10 q x y)).trans c
      · rw [c78]
        exact d2.mono (by omega)
/-- what the class changes behind remember, what the model changes behind records -/
def FC (a b : zM) : Prop := ∀ q, ¬ (1 ≤ q ∧ q ≤ 9) → ¬ (56 ≤ q ∧ q < 68) → b q = a q
def FM (a b : zM) : Prop := ∀ q, q ≠ 75 → q ≠ 80 → q ≠ 81 → b q = a q
theorem Rel.chg1 {K : Nat} {h : Nat → Nat} {m : zM} (hR9 : Rel K h m) {s : Nat} (hs : s ≤ 4) (hst : m 0 5 = nI s) {m1 m2 : zM} (hC : FC (mRem h m s) m1) (hM : FM (recM m1 s) m2) (cur : CurOk (K + 1) m2) : Rel (K + 1) (hRem h s) m2 := by
  have hh := hR9.1
  have e0 : ∀ q, q ≠ 74 → q ≠ 75 → q ≠ 77 → q ≠ 80 → q ≠ 81 → ¬ (1 ≤ q ∧ q ≤ 9) → ¬ (56 ≤ q ∧ q < 68) → m2 q = mRem h m s q := fun q a b c d e f g => by rw [hM q b d e, recm_q _ _ a c, hC q f g]
  have em : ∀ q, 74 ≤ q → m1 q = m q := fun q a => by rw [hC q (by omega) (by omega), mRem_o hh (by omega) (by omega)]
  have e74 : ∀ k, k ≠ 3 → m2 74 k = m 74 k := fun k a => by rw [hM 74 (by decide) (by decide) (by decide), rec_74 _ _ a, em 74 (by decide)]
  have e77 : ∀ j, m2 77 j = recM m s 77 j := fun j => by
    rw [hM 77 (by decide) (by decide) (by decide)]
    by_cases g : s < 4
    · rw [rec77 m1 g, rec77 m g, em 75 (by decide), em 77 (by decide)]
    · have e4 : s = 4 := by omega
      subst e4
      rw [rec77b, rec77b, em 75 (by decide), em 77 (by decide)]
  have ehi : ∀ q, 68 ≤ q → q ≠ 74 → q ≠ 75 → q ≠ 77 → q ≠ 80 → q ≠ 81 → m2 q = m q := fun q a b c d e f => by rw [e0 q b c d e f (by omega) (by omega), mRem_o hh (by omega) (by omega)]
  refine hR9.chg hs hst (by rw [e0 0 (by decide) (by decide) (by decide) (by decide) (by decide) (by decide) (by decide)]) (by rw [e0 0 (by decide) (by decide) (by decide) (by decide) (by decide) (by decide) (by decide), mRem_0 hh (by decide)]) (fun q a b c => e0 q (by omega) (by omega) (by omega) (by omega) (by omega) (by omega) (by omega)) e77 ?_ (e74 5 (by decide)) (ehi 78 (by decide) (by decide) (by decide) (by decide) (by decide) (by decide)) cur ?_ ?_
  · rw [hM 74 (by decide) (by decide) (by decide), rec743 _ hs, rec743 _ hs]
  · obtain ⟨L, a, b, c, d⟩ := hR9.2.2.2.2.1
    refine ⟨L, a, ?_, ?_, fun j hj => ?_⟩
    · rw [ehi 68 (by decide) (by decide) (by decide) (by decide) (by decide) (by decide)]
      exact b
    · rw [e74 7 (by decide)]
      exact c
    · rw [ehi 69 (by decide) (by decide) (by decide) (by decide) (by decide) (by decide), ehi 79 (by decide) (by decide) (by decide) (by decide) (by decide) (by decide)]
      exact d j hj
  · have e07 : ∀ k, k ≠ 5 → m2 0 k = m 0 k := fun k a => by rw [e0 0 (by decide) (by decide) (by decide) (by decide) (by decide) (by decide) (by decide), mRem_0 hh a]
    unfold StopOk
    rw [e07 7 (by decide), e07 8 (by decide), e07 9 (by decide), e74 15 (by decide), ehi 82 (by decide) (by decide) (by decide) (by decide) (by decide) (by decide)]
    exact hR9.2.2.2.2.2
/-- nothing that lasts has changed -/
def FL (m m2 : zM) : Prop := (∀ q, q < 56 → m2 q = m q) ∧ m2 68 1 = m 68 1 ∧ m2 69 = m 69 ∧ (∀ k, (k = 3 ∨ k = 5 ∨ k = 7 ∨ k = 15) → m2 74 k = m 74 k) ∧ m2 75 = m 75 ∧ m2 77 = m 77 ∧ m2 78 = m 78 ∧ m2 79 = m 79 ∧ m2 82 = m 82
theorem Rel.fl {K : Nat} {h : Nat → Nat} {m m2 : zM} (g : Rel K h m) (f : FL m m2) : Rel K h m2 := by
  obtain ⟨a, ⟨n, b, c⟩, ⟨s, d1, d2, d3, d4⟩, g4, ⟨L, p1, p2, p3, p4⟩, g6⟩ := g
  obtain ⟨f0, f1, f2, f3, f4, f5, f6, f7, f8⟩ := f
  refine ⟨a, ⟨n, ?_, ?_⟩, ⟨s, d1, ?_, ?_, fun k hk => ?_⟩, ?_, ⟨L, p1, f1.trans p2, (f3 7 (by omega)).trans p3, fun j hj => ?_⟩, ?_⟩
  · rw [f4]
    exact b.sub (fun q x y => f0 q (by omega))
  · rw [f4]
    exact c
  · rw [f0 0 (by decide)]
    exact d2
  · rw [f3 3 (by omega)]
    exact d3
  · obtain ⟨n2, x, y⟩ := d4 k hk
    have e : hR m2 k = hR m k := by
      unfold hR
      rw [f5]
    have i := IsSt.hi (a.1 k (by omega))
    rw [e]
    exact ⟨n2, (aS_of (fun q c d => f0 q (by omega))).trans x, y⟩
  · unfold SnapOk
    rw [f0 0 (by decide), f3 5 (by omega), f6]
    rcases g4 with g4 | ⟨x, y, n2, z, w⟩
    · exact Or.inl g4
    · exact Or.inr ⟨x, y, n2, (aS_of (fun q c d => f0 q (by omega))).trans z, w⟩
  · rw [f2, f7]
    exact p4 j hj
  · unfold StopOk
    rw [f0 0 (by decide), f3 15 (by omega), f8]
    exact g6
theorem FL.v {m m2 : zM} (h : Fsv m m2) : FL m m2 := ⟨fun q a => h q (by omega), congrFun (h 68 (by decide)) 1, h 69 (by decide), fun k _ => congrFun (h 74 (by decide)) k, h 75 (by decide), h 77 (by decide), h 78 (by decide), h 79 (by decide), h 82 (by decide)⟩
theorem FL.m {m m2 : zM} (h : Fm m m2) : FL m m2 := ⟨fun q a => h q (by omega) (by omega), congrFun (h 68 (by decide) (by decide)) 1, h 69 (by decide) (by decide), fun k _ => congrFun (h 74 (by decide) (by decide)) k, h 75 (by decide) (by decide), h 77 (by decide) (by decide), h 78 (by decide) (by decide), h 79 (by decide) (by decide), h 82 (by decide) (by decide)⟩
theorem FL.trans {m m1 m2 : zM} (h : FL m m1) (g : FL m1 m2) : FL m m2 := by
  obtain ⟨a0, a1, a2, a3, a4, a5, a6, a7, a8⟩ := h
  obtain ⟨b0, b1, b2, b3, b4, b5, b6, b7, b8⟩ := g
  exact ⟨fun q x => (b0 q x).trans (a0 q x), b1.trans a1, b2.trans a2, fun k x => (b3 k x).trans (a3 k x), b4.trans a4, b5.trans a5, b6.trans a6, b7.trans a7, b8.trans a8⟩
theorem FL.p {m m2 : zM} (h : Fpd m m2) : FL m m2 := ⟨fun q a => h.1 q (by omega), h.2.2, h.2.1, fun k _ => congrFun (h.1 74 (by decide)) k, h.1 75 (by decide), h.1 77 (by decide), h.1 78 (by decide), h.1 79 (by decide), h.1 82 (by decide)⟩
theorem FL.t {m m2 : zM} (h : FtB m m2) : FL m m2 := ⟨fun q a => h.1 q (by omega), congrFun (h.1 68 (by decide)) 1, h.1 69 (by decide), fun k x => h.2 k (by omega), h.1 75 (by decide), h.1 77 (by decide), h.1 78 (by decide), h.1 79 (by decide), h.1 82 (by decide)⟩
theorem FL.a {m m2 : zM} {c : Nat} (hc : c = 76 ∨ c = 80 ∨ c = 81) (h : Fr c m m2) : FL m m2 := ⟨fun q a => h q (by omega), congrFun (h 68 (by omega)) 1, h 69 (by omega), fun k _ => congrFun (h 74 (by omega)) k, h 75 (by omega), h 77 (by omega), h 78 (by omega), h 79 (by omega), h 82 (by omega)⟩
/-- both sides, called alike, answer alike, and the relation stands -/
def Pr (G : zG) (l : Launch) (yX : MethodName) (mX : zD) (yM : MethodName) (mM : zD) (as : List Value) (K : Nat) (h : Nat → Nat) (m : zM) : Prop := ∃ Q, zMet G l yX mX (.ref (G.1 + 0) :: as) (zw h m) Q 0 0 ∧ ∀ r w, Q r w → ∃ (v : Int32) (h1 : Nat → Nat) (m1 : zM), r = some (.int v) ∧ w = zw h1 m1 ∧ zMet G l yM mM (.ref (G.1 + 74) :: as) (zw h1 m1) (fun r2 w2 => r2 = some (.int v) ∧ ∃ m2, w2 = zw h1 m2 ∧ Rel (K + 1) h1 m2) 0 0
section
variable {G : zG} {l : Launch} {yX yM : MethodName} {mX mM : zD} {as : List Value} {K : Nat} {h : Nat → Nat} {m : zM}
theorem Pr.mk9 {Q : Option Value → zW → Prop} (hX : zMet G l yX mX (.ref (G.1 + 0) :: as) (zw h m) Q 0 0) (hQ : ∀ r w, Q r w → ∃ (v : Int32) (h1 : Nat → Nat) (m1 : zM), r = some (.int v) ∧ w = zw h1 m1 ∧ ∃ Q2, zMet G l yM mM (.ref (G.1 + 74) :: as) (zw h1 m1) Q2 0 0 ∧ ∀ r2 w2, Q2 r2 w2 → r2 = some (.int v) ∧ ∃ m2, w2 = zw h1 m2 ∧ Rel (K + 1) h1 m2) : Pr G l yX mX yM mM as K h m := by
  refine ⟨Q, hX, fun r w hq => ?_⟩
  obtain ⟨v, h1, m1, e1, e2, Q2, hM, hQ2⟩ := hQ r w hq
  exact ⟨v, h1, m1, e1, e2, zMet_post hM hQ2⟩
/-- a look that changes nothing on either side -/
theorem Pr.same {c c' : Int32} (hR : Rel K h m) (hX : zMet G l yX mX (.ref (G.1 + 0) :: as) (zw h m) (fun r w => r = some (.int c) ∧ w = zw h m) 0 0) (hM : zMet G l yM mM (.ref (G.1 + 74) :: as) (zw h m) (fun r w => r = some (.int c') ∧ w = zw h m) 0 0) (e : c = c') : Pr G l yX mX yM mM as K h m := by
  subst e
  refine Pr.mk9 hX (fun r w hq => ⟨c, h, m, hq.1, hq.2, _, hM, fun r2 w2 hq2 => ⟨hq2.1, m, hq2.2, hR.mono (by omega)⟩⟩)
end
