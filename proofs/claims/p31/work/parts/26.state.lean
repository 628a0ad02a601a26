/-! what always holds of the street after K calls; the whole state; what an act may do -/
theorem gOk_congr {n : Nat} {m m' : zM} (h8 : m' 1 8 = m 1 8) (h6 : ∀ t, t < n → m' (1 + 5) t = m (1 + 5) t ∧ m' (1 + 6) t = m (1 + 6) t ∧ m' 8 t = m 8 t) (hh : ∀ q, q < 8 → 0 ≤ (m' 2 q).toInt ∧ (m' 2 q).toInt ≤ 99) (g : gOk m n) : gOk m' n := by
  obtain ⟨g1, g2, -, z, g4, g5⟩ := g
  refine ⟨sOk_congr h8 (fun t ht => (h6 t ht).1) (fun t ht => (h6 t ht).2.1) g1, fun t ht => ?_, hh, z, g4, fun t ht _ => ?_⟩
  · rw [(h6 t ht).2.2]
    exact g2 t ht
  · show z (sF m' 1 t) ≤ z (sO m' 1 t) + (m' 8 t).toInt
    unfold sF sO
    rw [(h6 t ht).1, (h6 t ht).2.1, (h6 t ht).2.2]
    exact g5 t ht rfl
theorem cuM_o (m : zM) (i : Nat) (y : Int32) {q : Nat} (h1 : q ≠ 1) (h2 : q ≠ 2) (h3 : q ≠ 5) : cutM m 1 i y q = m q := by
  unfold cutM
  rw [up2_na _ _ _ h1, up2_na _ _ _ (by omega), up2_na _ _ _ (by omega)]
theorem cuM_1 (m : zM) (i : Nat) (y : Int32) {k : Nat} (h1 : k ≠ 13) : cutM m 1 i y 1 k = m 1 k := by
  unfold cutM
  rw [up2_ne _ _ (by omega), up2_na _ _ _ (by omega), up2_na _ _ _ (by omega)]
theorem cuM_13 (m : zM) (i : Nat) (y : Int32) : cutM m 1 i y 1 13 = m 1 13 + nI 1 := up2_eq _ _ _ _
theorem cuM_2 (m : zM) (i : Nat) (y : Int32) (k : Nat) : cutM m 1 i y 2 k = if k = i then m 2 i - y else m 2 k := by
  unfold cutM
  rw [up2_na _ _ _ (by decide), up2_na _ _ _ (by decide), up2_ak]
theorem cuM_5 (m : zM) (i : Nat) (y : Int32) (k : Nat) : cutM m 1 i y 5 k = if k = i then m 5 i + y else m 5 k := by
  unfold cutM
  rw [up2_na _ _ _ (by decide), up2_ak]
  rfl
def Inv (K : Nat) (m : zM) (n : Nat) : Prop := gOk m n ∧ (∀ t, t < n → ¬ sF m 1 t = sO m 1 t) ∧ (∀ i, i < 8 → 0 ≤ (m 3 i).toInt ∧ (m 3 i).toInt ≤ 5) ∧ (0 ≤ (m 1 9).toInt ∧ (m 1 9).toInt ≤ K) ∧ (∀ t, t < n → 0 ≤ (m 9 t).toInt ∧ (m 9 t).toInt ≤ K + 30) ∧ (0 ≤ (m 1 10).toInt ∧ (m 1 10).toInt ≤ K + 10) ∧ (∀ i, i < 8 → 0 ≤ (m 5 i).toInt ∧ (m 5 i).toInt ≤ 99 * K)
section
variable {K K' n : Nat} {m m' : zM}
theorem Inv.g (h : Inv K m n) : gOk m n := h.1
theorem Inv.ok (h : Inv K m n) : sOk m 1 n := h.1.1
theorem Inv.n14 (h : Inv K m n) : n ≤ 14 := h.1.1.2.1
theorem Inv.e8 (h : Inv K m n) : m 1 8 = nI n := h.1.1.1
theorem Inv.dd (h : Inv K m n) {t : Nat} (ht : t < n) : -30 ≤ (m 8 t).toInt ∧ (m 8 t).toInt ≤ 60 := h.1.2.1 t ht
theorem Inv.hh (h : Inv K m n) {i : Nat} (hi : i < 8) : 0 ≤ (m 2 i).toInt ∧ (m 2 i).toInt ≤ 99 := h.1.2.2.1 i hi
theorem Inv.ne (h : Inv K m n) {t : Nat} (ht : t < n) : ¬ sF m 1 t = sO m 1 t := h.2.1 t ht
theorem Inv.gg (h : Inv K m n) {i : Nat} (hi : i < 8) : 0 ≤ (m 3 i).toInt ∧ (m 3 i).toInt ≤ 5 := h.2.2.1 i hi
theorem Inv.day (h : Inv K m n) : 0 ≤ (m 1 9).toInt ∧ (m 1 9).toInt ≤ K := h.2.2.2.1
theorem Inv.ii (h : Inv K m n) {t : Nat} (ht : t < n) : 0 ≤ (m 9 t).toInt ∧ (m 9 t).toInt ≤ K + 30 := h.2.2.2.2.1 t ht
theorem Inv.ck (h : Inv K m n) : 0 ≤ (m 1 10).toInt ∧ (m 1 10).toInt ≤ K + 10 := h.2.2.2.2.2.1
theorem Inv.cc (h : Inv K m n) {i : Nat} (hi : i < 8) : 0 ≤ (m 5 i).toInt ∧ (m 5 i).toInt ≤ 99 * K := h.2.2.2.2.2.2 i hi
theorem Inv.f8 (h : Inv K m n) {t : Nat} (ht : t < n) : m 6 t = nI (sF m 1 t) ∧ sF m 1 t < 8 := (h.1.1.2.2 t ht).1
theorem Inv.o8 (h : Inv K m n) {t : Nat} (ht : t < n) : m 7 t = nI (sO m 1 t) ∧ sO m 1 t < 8 := (h.1.1.2.2 t ht).2
theorem Inv.step (h : Inv K m n) (hK : K ≤ K') (e8 : m' 1 8 = m 1 8) (et : ∀ t, t < n → m' 6 t = m 6 t ∧ m' 7 t = m 7 t ∧ m' 8 t = m 8 t) (eh : ∀ i, i < 8 → 0 ≤ (m' 2 i).toInt ∧ (m' 2 i).toInt ≤ 99) (eg : ∀ i, i < 8 → 0 ≤ (m' 3 i).toInt ∧ (m' 3 i).toInt ≤ 5) (ed : 0 ≤ (m' 1 9).toInt ∧ (m' 1 9).toInt ≤ K') (ef : ∀ t, t < n → 0 ≤ (m' 9 t).toInt ∧ (m' 9 t).toInt ≤ K' + 30) (ec : 0 ≤ (m' 1 10).toInt ∧ (m' 1 10).toInt ≤ K' + 10) (eo : ∀ i, i < 8 → 0 ≤ (m' 5 i).toInt ∧ (m' 5 i).toInt ≤ 99 * K') : Inv K' m' n :=
  ⟨gOk_congr e8 et eh h.1, fun t ht => by
    have := h.ne ht
    unfold sF sO at this ⊢
    rw [(et t ht).1, (et t ht).2.1]
    exact this, eg, ed, ef, ec, eo⟩
theorem Inv.mono (h : Inv K m n) (hK : K ≤ K') : Inv K' m n :=
  h.step hK rfl (fun _ _ => ⟨rfl, rfl, rfl⟩) (fun _ hi => h.hh hi) (fun _ hi => h.gg hi) (by have := h.day; omega) (fun t ht => by have := h.ii ht; omega) (by have := h.ck; omega) (fun i hi => by have := h.cc hi; omega)
theorem Inv.eqs (h : Inv K m n) (e : EqS n m m') : Inv K m' n :=
  h.step (Nat.le_refl K) (e.1 8 (by decide) (by decide)).symm (fun t ht => ⟨(e.2.2 6 (by decide) (by decide) t ht).symm, (e.2.2 7 (by decide) (by decide) t ht).symm, (e.2.2 8 (by decide) (by decide) t ht).symm⟩)
    (fun i hi => by rw [← e.2.1 2 (by decide) (by decide) i hi]; exact h.hh hi) (fun i hi => by rw [← e.2.1 3 (by decide) (by decide) i hi]; exact h.gg hi)
    (by rw [← e.1 9 (by decide) (by decide)]; exact h.day) (fun t ht => by rw [← e.2.2 9 (by decide) (by decide) t ht]; exact h.ii ht) (by rw [← e.1 10 (by decide) (by decide)]; exact h.ck)
    (fun i hi => by rw [← e.2.1 5 (by decide) (by decide) i hi]; exact h.cc hi)
theorem Inv.q (h : Inv K m n) (e : ∀ q, 1 ≤ q → q ≤ 9 → m q = m' q) : Inv K m' n := h.eqs (EqS.of e)
theorem Inv.height (h : Inv K m n) (i : Nat) {y : Int32} (hy : 0 ≤ y.toInt ∧ y.toInt ≤ 99) : Inv K (up2 m 2 i y) n :=
  h.step (Nat.le_refl K) rfl (fun _ _ => ⟨rfl, rfl, rfl⟩) (fun k hk => by
    rw [up2_ak]
    split
    · exact hy
    · exact h.hh hk) (fun _ hi => h.gg hi) h.day (fun t ht => h.ii ht) h.ck (fun i hi => h.cc hi)
theorem Inv.growth (h : Inv K m n) (i : Nat) {y : Int32} (hy : 0 ≤ y.toInt ∧ y.toInt ≤ 5) : Inv K (up2 m 3 i y) n :=
  h.step (Nat.le_refl K) rfl (fun _ _ => ⟨rfl, rfl, rfl⟩) (fun _ hi => h.hh hi) (fun k hk => by
    rw [up2_ak]
    split
    · exact hy
    · exact h.gg hk) h.day (fun t ht => h.ii ht) h.ck (fun i hi => h.cc hi)
theorem Inv.nest (h : Inv K m n) (i : Nat) (y : Int32) : Inv K (up2 m 4 i y) n :=
  h.step (Nat.le_refl K) rfl (fun _ _ => ⟨rfl, rfl, rfl⟩) (fun _ hi => h.hh hi) (fun _ hi => h.gg hi) h.day (fun t ht => h.ii ht) h.ck (fun i hi => h.cc hi)
theorem Inv.one (h : Inv K m n) (k : Nat) (hk : k = 11 ∨ k = 12 ∨ k = 13) (y : Int32) : Inv K (up2 m 1 k y) n :=
  h.step (Nat.le_refl K) (up2_ne _ _ (by omega)) (fun _ _ => ⟨rfl, rfl, rfl⟩) (fun _ hi => h.hh hi) (fun _ hi => h.gg hi) (by rw [up2_ne _ _ (by omega)]; exact h.day) (fun t ht => h.ii ht) (by rw [up2_ne _ _ (by omega)]; exact h.ck) (fun i hi => h.cc hi)
theorem Inv.ref (h : Inv K m n) : Inv K (refM m) n := h.one 12 (by decide) _
theorem Inv.cut (h : Inv K m n) (hK : K ≤ 1000) {i : Nat} (hi : i < 8) {y : Int32} (hy : 0 ≤ y.toInt ∧ y.toInt ≤ (m 2 i).toInt) : Inv (K + 1) (cutM m 1 i y) n := by
  have hb := h.hh hi
  have hc := h.cc hi
  have e0 : (m 2 i - y).toInt = (m 2 i).toInt - y.toInt := i32_sub (by omega) (by omega)
  have e1 : (m 5 i + y).toInt = (m 5 i).toInt + y.toInt := i32_add (by omega) (by omega)
  refine h.step (by omega) rfl (fun _ _ => ⟨rfl, rfl, rfl⟩) (fun k hk => ?_) (fun _ hi => h.gg hi) (by have := h.day; show 0 ≤ (m 1 9).toInt ∧ (m 1 9).toInt ≤ _; omega) (fun t ht => by have := h.ii ht; show 0 ≤ (m 9 t).toInt ∧ (m 9 t).toInt ≤ _; omega) (by have := h.ck; show 0 ≤ (m 1 10).toInt ∧ (m 1 10).toInt ≤ _; omega) (fun k hk => ?_)
  · have hb2 := h.hh hk
    rw [cuM_2]
    split
    · omega
    · exact hb2
  · have hc2 := h.cc hk
    rw [cuM_5]
    split
    · omega
    · omega
theorem hAft_r {i : Nat} (hb : 0 ≤ (m 2 i).toInt ∧ (m 2 i).toInt ≤ 99) (hg : 0 ≤ (m 3 i).toInt ∧ (m 3 i).toInt ≤ 5) {d : Int32} {D : Nat} (hd : d.toInt = D) (hD : D ≤ 60) : (hAft m 1 i d).toInt = min 99 ((m 2 i).toInt + (m 3 i).toInt * D) := by
  have b1 : (m 3 i).toInt * D ≤ 5 * 60 := Int.mul_le_mul hg.2 (by omega) (by omega) (by omega)
  have b0 : 0 ≤ (m 3 i).toInt * D := Int.mul_nonneg hg.1 (by omega)
  have e1 : (m 3 i * d).toInt = (m 3 i).toInt * D := by
    rw [Int32.toInt_mul, hd, Int.bmod_eq_of_le (by omega) (by omega)]
  have e2 : (m 2 i + m 3 i * d).toInt = (m 2 i).toInt + (m 3 i).toInt * D := by
    rw [i32_add (by omega) (by omega), e1]
  unfold hAft
  have e99 : (nI 99).toInt = 99 := rfl
  split
  · rename_i c
    rw [i32_lt] at c
    rw [show m (1 + 1) i + m (1 + 2) i * d = m 2 i + m 3 i * d from rfl] at c ⊢
    rw [e2] at c ⊢
    rw [e99] at c
    omega
  · rename_i c
    rw [i32_lt] at c
    rw [show m (1 + 1) i + m (1 + 2) i * d = m 2 i + m 3 i * d from rfl, e2, e99] at c
    rw [e99]
    omega
theorem Inv.aft (h : Inv K m n) {i : Nat} (hi : i < 8) {d : Int32} {D : Nat} (hd : d.toInt = D) (hD : D ≤ 60) : (hAft m 1 i d).toInt = min 99 ((m 2 i).toInt + (m 3 i).toInt * D) := hAft_r (h.hh hi) (h.gg hi) hd hD
theorem Inv.aft0 (h : Inv K m n) {i : Nat} (hi : i < 8) : hAft m 1 i (nI 0) = m 2 i := by
  have := h.aft hi (d := nI 0) (D := 0) rfl (by decide)
  have hb := h.hh hi
  rw [i32_eq]
  omega
theorem Inv.dayM (h : Inv K m n) (hK : K ≤ 1000) : Inv (K + 1) (dayM m 1) n := by
  have hd := h.day
  have e1 : (m 1 9 + nI 1).toInt = (m 1 9).toInt + 1 := i32_add (by show _ ≤ _ + (1 : Int); omega) (by show _ + (1 : Int) ≤ _; omega)
  have eo : ∀ q, q ≠ 1 → q ≠ 2 → Jvm.Pilot.CHedgeTreatiesLaw_law_r6356_2a1716.dayM m 1 q = m q := fun q a b => dayM_o a b
  have ea : ∀ k, k ≠ 9 → Jvm.Pilot.CHedgeTreatiesLaw_law_r6356_2a1716.dayM m 1 1 k = m 1 k := fun k a => dayM_a a
  refine h.step (by omega) (ea 8 (by decide)) (fun t _ => ⟨by rw [eo 6 (by decide) (by decide)], by rw [eo 7 (by decide) (by decide)], by rw [eo 8 (by decide) (by decide)]⟩) (fun i hi => ?_) (fun i hi => by rw [eo 3 (by decide) (by decide)]; exact h.gg hi) ?_ (fun t ht => by rw [eo 9 (by decide) (by decide)]; have := h.ii ht; omega) (by rw [ea 10 (by decide)]; have := h.ck; omega) (fun i hi => by rw [eo 5 (by decide) (by decide)]; have := h.cc hi; omega)
  · have e : Jvm.Pilot.CHedgeTreatiesLaw_law_r6356_2a1716.dayM m 1 2 i = hAft m 1 i (nI 1) := by
      unfold Jvm.Pilot.CHedgeTreatiesLaw_law_r6356_2a1716.dayM
      rw [up2_na _ _ _ (by decide)]
      unfold pdM
      rw [if_pos ⟨rfl, hi⟩]
    rw [e]
    have a := h.aft hi (d := nI 1) (D := 1) rfl (by decide)
    have b := h.hh hi
    have c := h.gg hi
    omega
  · have e : Jvm.Pilot.CHedgeTreatiesLaw_law_r6356_2a1716.dayM m 1 1 9 = m 1 9 + nI 1 := up2_eq _ _ _ _
    rw [e, e1]
    omega
theorem Inv.ice (h : Inv K m n) {t9 : Nat} {y : Int32} (hy : 0 ≤ y.toInt ∧ y.toInt ≤ K + 30) : Inv K (up2 m 9 t9 y) n :=
  h.step (Nat.le_refl K) rfl (fun _ _ => ⟨rfl, rfl, rfl⟩) (fun _ hi => h.hh hi) (fun _ hi => h.gg hi) h.day (fun t ht => by
    rw [up2_ak]
    split
    · exact hy
    · exact h.ii ht) h.ck (fun i hi => h.cc hi)
theorem Inv.cake (h : Inv K m n) (hK : K ≤ K') {y : Int32} (hy : 0 ≤ y.toInt ∧ y.toInt ≤ K' + 10) : Inv K' (up2 m 1 10 y) n := by
  refine (h.mono hK).step (Nat.le_refl K') (up2_ne _ _ (by decide)) (fun _ _ => ⟨rfl, rfl, rfl⟩) (fun _ hi => h.hh hi) (fun _ hi => h.gg hi) (by rw [up2_ne _ _ (by decide)]; exact (h.mono hK).day) (fun t ht => (h.mono hK).ii ht) (by rw [up2_eq]; exact hy) (fun i hi => (h.mono hK).cc hi)
theorem Inv.frM (h : Inv K m n) (hK : K ≤ 1000) (t : Nat) {y : Int32} (hy : 1 ≤ y.toInt ∧ y.toInt ≤ 30) : Inv (K + 1) (frM m t y) n := by
  have hd := h.day
  have hc := h.ck
  have e1 : (m 1 9 + y).toInt = (m 1 9).toInt + y.toInt := i32_add (by omega) (by omega)
  have e2 : (m 1 10 + nI 1).toInt = (m 1 10).toInt + 1 := i32_add (by show _ ≤ _ + (1 : Int); omega) (by show _ + (1 : Int) ≤ _; omega)
  unfold Jvm.Pilot.CHedgeTreatiesLaw_law_r6356_2a1716.frM
  split
  · exact (h.cake (K' := K + 1) (by omega) (by rw [e2]; omega)).ice (by rw [e1]; omega)
  · exact (h.mono (K' := K + 1) (by omega)).ice (by rw [e1]; omega)
theorem Inv.thM (h : Inv K m n) (hK : K ≤ 1000) {t : Nat} (ht : t < n) : Inv K (thM m t) n := by
  have hd := h.day
  have hc := h.ck
  have hi := h.ii ht
  have e1 : (m 9 t - m 1 9).toInt = (m 9 t).toInt - (m 1 9).toInt := i32_sub (by omega) (by omega)
  unfold Jvm.Pilot.CHedgeTreatiesLaw_law_r6356_2a1716.thM
  split
  · exact h.ref
  · rename_i c1
    split
    · exact h.ref
    · rename_i c2
      rw [i32_lt] at c2
      have c3 : ¬ m 9 t ≤ m 1 9 := c1
      rw [i32_le] at c3
      have e2 : (m 1 10 - (m 9 t - m 1 9)).toInt = (m 1 10).toInt - ((m 9 t).toInt - (m 1 9).toInt) := by
        rw [i32_sub (by omega) (by omega), e1]
      exact (h.cake (K' := K) (Nat.le_refl K) (by rw [e2]; omega)).ice (by omega)
theorem Inv.rm (h : Inv K m n) {t9 : Nat} (ht9 : t9 < n) : Inv K (up2 (rmM m 1 t9 n) 1 8 (nI (n - 1))) (n - 1) := by
  have hn := h.n14
  have eo : ∀ q, q ≠ 1 → ¬ (6 ≤ q ∧ q ≤ 9) → up2 (rmM m 1 t9 n) 1 8 (nI (n - 1)) q = m q := fun q a b => by
    rw [up2_na _ _ _ a]
    funext k
    unfold rmM
    rw [if_neg (by omega)]
  have e1 : ∀ k, k ≠ 8 → up2 (rmM m 1 t9 n) 1 8 (nI (n - 1)) 1 k = m 1 k := fun k a => by
    rw [up2_ne _ _ (by omega)]
    unfold rmM
    rw [if_neg (by omega)]
  have et : ∀ t, t < n - 1 → ∃ u, u < n ∧ ∀ q, 6 ≤ q → q ≤ 9 → up2 (rmM m 1 t9 n) 1 8 (nI (n - 1)) q t = m q u := fun t ht => by
    by_cases c : t9 ≤ t
    · refine ⟨t + 1, by omega, fun q a b => ?_⟩
      rw [up2_na _ _ _ (by omega)]
      unfold rmM
      rw [if_pos (by omega)]
    · refine ⟨t, by omega, fun q a b => ?_⟩
      rw [up2_na _ _ _ (by omega)]
      unfold rmM
      rw [if_neg (by omega)]
  obtain ⟨⟨g1, g2, g3⟩, g4, g5, z, g6, g7⟩ := h.1
  refine ⟨⟨⟨up2_eq _ _ _ _, by omega, fun t ht => ?_⟩, fun t ht => ?_, fun q hq => ?_, z, g6, fun t ht _ => ?_⟩, fun t ht => ?_, fun i hi => by rw [eo 3 (by decide) (by decide)]; exact h.gg hi, by rw [e1 9 (by decide)]; exact h.day, fun t ht => ?_, by rw [e1 10 (by decide)]; exact h.ck, fun i hi => by rw [eo 5 (by decide) (by decide)]; exact h.cc hi⟩
  · obtain ⟨u, hu, e⟩ := et t ht
    have := g3 u hu
    unfold sF sO at this ⊢
    rw [e (1 + 5) (by decide) (by decide), e (1 + 6) (by decide) (by decide)]
    exact this
  · obtain ⟨u, hu, e⟩ := et t ht
    rw [e 8 (by decide) (by decide)]
    exact g4 u hu
  · rw [eo 2 (by decide) (by decide)]
    exact g5 q hq
  · obtain ⟨u, hu, e⟩ := et t ht
    have := g7 u hu rfl
    show z (sF _ 1 t) ≤ z (sO _ 1 t) + (up2 (rmM m 1 t9 n) 1 8 (nI (n - 1)) 8 t).toInt
    unfold sF sO
    rw [e (1 + 5) (by decide) (by decide), e (1 + 6) (by decide) (by decide), e 8 (by decide) (by decide)]
    exact this
  · obtain ⟨u, hu, e⟩ := et t ht
    have := h.ne hu
    unfold sF sO at this ⊢
    rw [e (1 + 5) (by decide) (by decide), e (1 + 6) (by decide) (by decide)]
    exact this
  · obtain ⟨u, hu, e⟩ := et t ht
    rw [e 9 (by decide) (by decide)]
    exact h.ii hu
theorem addM_9 (m : zM) (n : Nat) (f o d : Int32) (k : Nat) : addM m 1 n f o d 9 k = if k = n then nI 0 else m 9 k := by
  unfold addM
  rw [up2_na _ _ _ (by decide), up2_na _ _ _ (by decide), up2_ak, up2_na _ _ _ (by decide), up2_na _ _ _ (by decide), up2_na _ _ _ (by decide)]
theorem addM_8 (m : zM) (n : Nat) (f o d : Int32) (k : Nat) : addM m 1 n f o d 8 k = if k = n then d else m 8 k := by
  unfold addM
  rw [up2_na _ _ _ (by decide), up2_na _ _ _ (by decide), up2_na _ _ _ (by decide), up2_ak, up2_na _ _ _ (by decide), up2_na _ _ _ (by decide)]
theorem addM_7 (m : zM) (n : Nat) (f o d : Int32) (k : Nat) : addM m 1 n f o d 7 k = if k = n then o else m 7 k := by
  unfold addM
  rw [up2_na _ _ _ (by decide), up2_na _ _ _ (by decide), up2_na _ _ _ (by decide), up2_na _ _ _ (by decide), up2_ak, up2_na _ _ _ (by decide)]
theorem addM_6 (m : zM) (n : Nat) (f o d : Int32) (k : Nat) : addM m 1 n f o d 6 k = if k = n then f else m 6 k := by
  unfold addM
  rw [up2_na _ _ _ (by decide), up2_na _ _ _ (by decide), up2_na _ _ _ (by decide), up2_na _ _ _ (by decide), up2_na _ _ _ (by decide), up2_ak]
theorem addM_q (m : zM) (n : Nat) (f o d : Int32) {q : Nat} (h1 : q ≠ 1) (h2 : ¬ (6 ≤ q ∧ q ≤ 9)) : addM m 1 n f o d q = m q := by
  unfold addM
  rw [up2_na _ _ _ (by omega), up2_na _ _ _ (by omega), up2_na _ _ _ (by omega), up2_na _ _ _ (by omega), up2_na _ _ _ (by omega), up2_na _ _ _ (by omega)]
theorem addM_1 (m : zM) (n : Nat) (f o d : Int32) {k : Nat} (h1 : k ≠ 8) (h2 : k ≠ 11) : addM m 1 n f o d 1 k = m 1 k := by
  unfold addM
  rw [up2_ne _ _ (by omega), up2_ne _ _ (by omega), up2_na _ _ _ (by decide), up2_na _ _ _ (by decide), up2_na _ _ _ (by decide), up2_na _ _ _ (by decide)]
theorem addM_11 (m : zM) (n : Nat) (f o d : Int32) : addM m 1 n f o d 1 11 = m 1 11 + nI 1 := by
  unfold addM
  rw [up2_eq]
theorem Inv.add (h : Inv K m n) (hn : n < 14) {f o : Nat} {d : Int32} (hf : f < 8) (ho : o < 8) (hfo : ¬ f = o) (hd : -30 ≤ d.toInt ∧ d.toInt ≤ 60) (hfe : Fea (eN m f o d) (n + 1)) : Inv K (addM m 1 n (nI f) (nI o) d) (n + 1) := by
  refine ⟨gOk_add h.1 hn hf ho hd hfe, fun t ht => ?_, fun i hi => by rw [addM_q _ _ _ _ _ (by decide) (by decide)]; exact h.gg hi, by rw [addM_1 _ _ _ _ _ (by decide) (by decide)]; exact h.day, fun t ht => ?_, by rw [addM_1 _ _ _ _ _ (by decide) (by decide)]; exact h.ck, fun i hi => by rw [addM_q _ _ _ _ _ (by decide) (by decide)]; exact h.cc hi⟩
  · unfold sF sO
    rw [show (1 + 5 : Nat) = 6 from rfl, show (1 + 6 : Nat) = 7 from rfl, addM_6, addM_7]
    by_cases c : t = n
    · rw [if_pos c, if_pos c, nI_clamp (by omega), nI_clamp (by omega)]
      exact hfo
    · rw [if_neg c, if_neg c]
      exact h.ne (by omega)
  · rw [addM_9]
    split
    · exact ⟨Int.le_refl 0, show (0 : Int) ≤ _ by omega⟩
    · exact h.ii (by omega)
end
theorem IsSt.hi {a : Nat} (h : IsH a) : 20 ≤ a ∧ a + 9 ≤ 56 := by unfold IsH at h; omega
/-- the whole state: K calls so far, the street's treaties n, the history's length s -/
def HistI (K : Nat) (h : Nat → Nat) (m : zM) (s : Nat) : Prop := ∀ k, k < s → ∃ n, Inv K (aS m (h k)) n
def SnapI (K : Nat) (m : zM) : Prop := m 0 6 = nI 0 ∨ (m 0 6 = nI 1 ∧ ∃ n, Inv K (aS m 10) n)
def PadI (m : zM) : Prop := ∃ L, L ≤ 60 ∧ m 68 1 = nI L
def Sy (K : Nat) (h : Nat → Nat) (m : zM) (n s : Nat) : Prop := hOk h ∧ Inv K m n ∧ (s ≤ 4 ∧ m 0 5 = nI s ∧ HistI K h m s) ∧ SnapI K m ∧ PadI m
section
variable {K K' n s : Nat} {h : Nat → Nat} {m m' : zM}
theorem Sy.inv (g : Sy K h m n s) : Inv K m n := g.2.1
theorem Sy.ok (g : Sy K h m n s) : sOk m 1 n := g.2.1.ok
theorem Sy.hok (g : Sy K h m n s) : hOk h := g.1
theorem Sy.s4 (g : Sy K h m n s) : s ≤ 4 := g.2.2.1.1
theorem Sy.st (g : Sy K h m n s) : m 0 5 = nI s := g.2.2.1.2.1
theorem Sy.mono (g : Sy K h m n s) (hK : K ≤ K') : Sy K' h m n s :=
  ⟨g.1, g.2.1.mono hK, ⟨g.s4, g.st, fun k hk => by
    obtain ⟨n2, a⟩ := g.2.2.1.2.2 k hk
    exact ⟨n2, a.mono hK⟩⟩, by
    rcases g.2.2.2.1 with a | ⟨a, n2, b⟩
    · exact Or.inl a
    · exact Or.inr ⟨a, n2, b.mono hK⟩, g.2.2.2.2⟩
/-- the cells below 56 and the pad's length are the same -/
theorem Sy.lo (g : Sy K h m n s) (e : ∀ q, q < 56 → q ≠ 0 → m' q = m q) (e5 : m' 0 5 = m 0 5) (e6 : m' 0 6 = m 0 6) (ep : PadI m') : Sy K h m' n s := by
  refine ⟨g.1, g.2.1.q (fun q a b => (e q (by omega) (by omega)).symm), ⟨g.s4, by rw [e5]; exact g.st, fun k hk => ?_⟩, ?_, ep⟩
  · obtain ⟨n2, a⟩ := g.2.2.1.2.2 k hk
    have ik := IsSt.hi (g.1.1 k (by have := g.s4; omega))
    exact ⟨n2, a.eqs (aS_of (fun q c d => (e q (by omega) (by omega)).symm))⟩
  · unfold SnapI
    rw [e6]
    rcases g.2.2.2.1 with a | ⟨a, n2, b⟩
    · exact Or.inl a
    · exact Or.inr ⟨a, n2, b.eqs (aS_of (fun q c d => (e q (by omega) (by omega)).symm))⟩
theorem PadI.v (g : PadI m) (e : Fsv m m') : PadI m' := by
  obtain ⟨L, a, b⟩ := g
  exact ⟨L, a, by rw [e 68 (by decide)]; exact b⟩
theorem Sy.v (g : Sy K h m n s) (e : Fsv m m') : Sy K h m' n s :=
  g.lo (fun q a _ => e q (by omega)) (by rw [e 0 (by decide)]) (by rw [e 0 (by decide)]) (g.2.2.2.2.v e)
end
theorem mRem05 (h : Nat → Nat) (m : zM) {s : Nat} (hs : s ≤ 4) : mRem h m s 0 5 = nI (if s < 4 then s + 1 else 4) := by
  unfold mRem
  by_cases g : s < 4
  · rw [if_pos g, if_pos g, up2_eq]
  · rw [if_neg g, if_neg g, up2_eq]
theorem hRem_ok {h : Nat → Nat} (s : Nat) (hh : hOk h) : hOk (hRem h s) := by
  unfold hRem
  split
  · exact hh
  · exact rotH_ok hh
theorem IsH.apart {a c : Nat} (ha : IsH a) (hc : IsH c) (h : a ≠ c) : a + 9 ≤ c ∨ c + 9 ≤ a := ha.st.apart hc.st h
/-- how long the history is behind a change -/
abbrev sN (s : Nat) : Nat := if s < 4 then s + 1 else 4
theorem hist_step {K : Nat} {h : Nat → Nat} {m : zM} {s n : Nat} (hh : hOk h) (hs : s ≤ 4) (hH : HistI K h m s) (hI : Inv K m n) {m2 : zM} (c1 : ∀ q, 20 ≤ q → q < 56 → m2 q = mRem h m s q) : HistI K (hRem h s) m2 (sN s) ∧ EqS n (aS m2 (hRem h s (sN s - 1))) m := by
  have hn := hI.n14
  by_cases g : s < 4
  · have e1 : ∀ q, 20 ≤ q → q < 56 → m2 q = cpM m (h s) 1 q := fun q a b => by
      rw [c1 q a b]
      unfold mRem
      rw [if_pos g, up2_na _ _ _ (by omega)]
    have eh : hRem h s = h := if_pos g
    rw [eh, show sN s = s + 1 from if_pos g]
    have hsH := hh.1 s g
    have is := IsSt.hi hsH
    have top : EqS n (aS m2 (h s)) m := (((aS_of (fun q c d => e1 q (by omega) (by omega))).trans (cp_to hn m (h s) 1)).trans aS_1)
    refine ⟨fun k hk => ?_, top⟩
    have hkH := hh.1 k (by omega)
    have ik := IsSt.hi hkH
    rcases Nat.lt_succ_iff_lt_or_eq.mp hk with g2 | g2
    · obtain ⟨n2, b⟩ := hH k g2
      have ne : h k ≠ h s := fun z => by
        have := hh.2 k s (by omega) g z
        omega
      have ap := hkH.apart hsH ne
      refine ⟨n2, b.eqs (aS_of (fun q c d => ?_)).sym⟩
      rw [e1 q (by omega) (by omega), cp_o _ (by omega)]
    · subst g2
      exact ⟨n, hI.eqs top.sym⟩
  · have es : s = 4 := by omega
    subst es
    have e1 : ∀ q, 20 ≤ q → q < 56 → m2 q = cpM (up2 m 0 5 (nI 3)) (h 0) 1 q := fun q a b => by
      rw [c1 q a b]
      unfold mRem
      rw [if_neg g, up2_na _ _ _ (by omega)]
    have eh : hRem h 4 = rotH h := if_neg g
    rw [eh, show sN 4 = 4 from if_neg g]
    have h0 := hh.1 0 (by decide)
    have i0 := IsSt.hi h0
    have e : rotH h 3 = h 0 := rfl
    have eu : EqS n (aS (up2 m 0 5 (nI 3)) 1) (aS m 1) := aS_of (fun q c d => up2_na _ _ _ (by omega))
    have top : EqS n (aS m2 (rotH h 3)) m := by
      rw [e]
      exact ((((aS_of (fun q c d => e1 q (by omega) (by omega))).trans (cp_to hn (up2 m 0 5 (nI 3)) (h 0) 1)).trans eu).trans aS_1)
    refine ⟨fun k hk => ?_, top⟩
    by_cases g3 : k = 3
    · subst g3
      exact ⟨n, hI.eqs top.sym⟩
    · obtain ⟨n2, b⟩ := hH (k + 1) (by omega)
      have ek : rotH h k = h (k + 1) := by
        have e9 : k = 0 ∨ k = 1 ∨ k = 2 := by omega
        rcases e9 with rfl | rfl | rfl <;> rfl
      rw [ek]
      have hkH := hh.1 (k + 1) (by omega)
      have ik := IsSt.hi hkH
      have ne : h (k + 1) ≠ h 0 := fun z => by
        have := hh.2 (k + 1) 0 (by omega) (by decide) z
        omega
      have ap := hkH.apart h0 ne
      refine ⟨n2, b.eqs (aS_of (fun q c d => ?_)).sym⟩
      rw [e1 q (by omega) (by omega), cp_o _ (by omega), up2_na _ _ _ (by omega)]
/-- what an act may do: nothing that is seen in the street, or one change, with the street before it on the history -/
def Act (K : Nat) (h : Nat → Nat) (m : zM) (n s : Nat) (h1 : Nat → Nat) (m1 : zM) (n1 s1 : Nat) : Prop :=
  Sy (K + 1) h1 m1 n1 s1 ∧ ((∀ q, 10 ≤ q → q ≤ 18 → m1 q = m q) ∧ m1 0 6 = m 0 6) ∧ ((s1 = s ∧ n1 = n ∧ EqS n m1 m) ∨ (s1 = sN s ∧ EqS n (aS m1 (h1 (s1 - 1))) m))
def actP (K : Nat) (h : Nat → Nat) (m : zM) (n s : Nat) : Option Value → zW → Prop := fun r w => r = some (.int (nI 1)) ∧ ∃ h1 m1 n1 s1, w = zw h1 m1 ∧ Act K h m n s h1 m1 n1 s1
section
variable {K n s : Nat} {h : Nat → Nat} {m : zM}
/-- nothing has changed but the surveyor, the pad, the latest stop -/
theorem Act.no (g : Sy K h m n s) {m1 : zM} (e : ∀ q, q < 56 → q ≠ 0 → m1 q = m q) (e5 : m1 0 5 = m 0 5) (e6 : m1 0 6 = m 0 6) (ep : PadI m1) : Act K h m n s h m1 n s :=
  ⟨(g.mono (Nat.le_succ K)).lo e e5 e6 ep, ⟨fun q a b => e q (by omega) (by omega), e6⟩, Or.inl ⟨rfl, rfl, EqS.of (fun q a b => e q (by omega) (by omega))⟩⟩
theorem Act.same (g : Sy K h m n s) : Act K h m n s h m n s := Act.no g (fun _ _ _ => rfl) rfl rfl g.2.2.2.2
theorem Act.noV (g : Sy K h m n s) {m1 : zM} (e : Fsv m m1) : Act K h m n s h m1 n s := Act.no g (fun q a _ => e q (by omega)) (by rw [e 0 (by decide)]) (by rw [e 0 (by decide)]) (g.2.2.2.2.v e)
/-- a change behind remember -/
theorem Act.chg (g : Sy K h m n s) {m1 : zM} {n1 : Nat} (e : ∀ q, 10 ≤ q → q < 56 → m1 q = mRem h m s q) (e5 : m1 0 5 = mRem h m s 0 5) (e6 : m1 0 6 = m 0 6) (hI : Inv (K + 1) m1 n1) (ep : PadI m1) : Act K h m n s (hRem h s) m1 n1 (sN s) := by
  have hh := g.1
  obtain ⟨a, b⟩ := hist_step hh g.s4 g.2.2.1.2.2 g.2.1 (m2 := m1) (fun q a b => e q (by omega) (by omega))
  have e10 : ∀ q, 10 ≤ q → q ≤ 18 → m1 q = m q := fun q x y => (e q x (by omega)).trans (mRem_o hh (by omega) (by omega))
  refine ⟨⟨hRem_ok s hh, hI, ⟨?_, ?_, fun k hk => ?_⟩, ?_, ep⟩, ⟨e10, e6⟩, Or.inr ⟨rfl, b⟩⟩
  · show sN s ≤ 4
    unfold sN
    split <;> omega
  · rw [e5, mRem05 h m g.s4]
  · obtain ⟨n2, c⟩ := a k hk
    exact ⟨n2, c.mono (Nat.le_succ K)⟩
  · unfold SnapI
    rw [e6]
    rcases g.2.2.2.1 with a | ⟨a, n2, b⟩
    · exact Or.inl a
    · exact Or.inr ⟨a, n2, (b.mono (Nat.le_succ K)).eqs (aS_of (fun q c d => (e10 q (by omega) (by omega)).symm))⟩
/-- what a change behind remember may touch -/
def FC (a b : zM) : Prop := ∀ q, ¬ (1 ≤ q ∧ q ≤ 9) → ¬ (56 ≤ q ∧ q < 68) → b q = a q
theorem FC.rf {a : zM} : FC a a := fun _ _ _ => rfl
theorem FC.up {a b : zM} (h : FC a b) {c k : Nat} {v : Int32} (hc : 1 ≤ c ∧ c ≤ 9) : FC a (up2 b c k v) := fun q x y => by
  rw [up2_na _ _ _ (fun z => x (by omega))]
  exact h q x y
theorem FC.v {a b c : zM} (h : FC a b) (g : Fsv b c) : FC a c := fun q x y => (g q y).trans (h q x y)
theorem FC.sv {a b : zM} (g : Fsv a b) : FC a b := fun q _ y => g q y
theorem Act.fc (g : Sy K h m n s) {m1 : zM} {n1 : Nat} (e : FC (mRem h m s) m1) (hI : Inv (K + 1) m1 n1) : Act K h m n s (hRem h s) m1 n1 (sN s) := by
  refine Act.chg g (fun q a b => e q (by omega) (by omega)) (by rw [e 0 (by decide) (by decide)]) ?_ hI ?_
  · rw [e 0 (by decide) (by decide), mRem_0 g.1 (by decide)]
  · obtain ⟨L, a, b⟩ := g.2.2.2.2
    exact ⟨L, a, by rw [e 68 (by decide) (by decide), mRem_o g.1 (by decide) (by decide)]; exact b⟩
theorem Inv.rem (g : Sy K h m n s) : Inv K (mRem h m s) n := g.2.1.q (fun q a b => (mRem_o g.1 (by omega) (by omega)).symm)
/-- an act from a state that a look has led to -/
theorem Act.from (g : Sy K h m n s) {m0 : zM} (e : Fsv m m0) {h1 : Nat → Nat} {m1 : zM} {n1 s1 : Nat} (a : Act K h m0 n s h1 m1 n1 s1) : Act K h m n s h1 m1 n1 s1 := by
  have eq0 : EqS n m0 m := EqS.of (fun q x y => e q (by omega))
  refine ⟨a.1, ⟨fun q x y => (a.2.1.1 q x y).trans (e q (by omega)), by rw [a.2.1.2, e 0 (by decide)]⟩, ?_⟩
  rcases a.2.2 with ⟨x, y, z⟩ | ⟨x, z⟩
  · exact Or.inl ⟨x, y, z.trans eq0⟩
  · exact Or.inr ⟨x, z.trans eq0⟩
end
