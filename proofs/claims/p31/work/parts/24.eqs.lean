/-! what two streets share; the relation between the two sides -/
theorem zMet_post {G : zG} {l : Launch} {y : MethodName} {M : zD} {as : List Value} {w : zW} {P P' : Option Value → zW → Prop} {mc ms : Nat} (h : zMet G l y M as w P mc ms) (hi : ∀ r w, P r w → P' r w) : zMet G l y M as w P' mc ms := by
  unfold zMet Met MetFree at *
  intro p e a1 a2 a3 s m args below b1 b2 b3 b4
  obtain ⟨n, o, c1, c2, c3, ⟨⟨r, w', e1, hP, hH⟩, hF⟩, c5⟩ := h p e a1 a2 a3 s m args below b1 b2 b3 b4
  exact ⟨n, o, c1, c2, c3, ⟨⟨r, w', e1, hi r w' hP, hH⟩, hF⟩, c5⟩
/-- two memories have the same street at 1, with n treaties -/
def EqS (n : Nat) (u v : zM) : Prop := (∀ k, 8 ≤ k → k ≤ 13 → u 1 k = v 1 k) ∧ (∀ q, 2 ≤ q → q ≤ 5 → ∀ i, i < 8 → u q i = v q i) ∧ (∀ q, 6 ≤ q → q ≤ 9 → ∀ t, t < n → u q t = v q t)
theorem EqS.rf {n : Nat} {u : zM} : EqS n u u := ⟨fun _ _ _ => rfl, fun _ _ _ _ _ => rfl, fun _ _ _ _ _ => rfl⟩
theorem EqS.sym {n : Nat} {u v : zM} (h : EqS n u v) : EqS n v u := ⟨fun k a b => (h.1 k a b).symm, fun q a b i c => (h.2.1 q a b i c).symm, fun q a b t c => (h.2.2 q a b t c).symm⟩
theorem EqS.trans {n : Nat} {u v w : zM} (h : EqS n u v) (h' : EqS n v w) : EqS n u w := ⟨fun k a b => (h.1 k a b).trans (h'.1 k a b), fun q a b i c => (h.2.1 q a b i c).trans (h'.2.1 q a b i c), fun q a b t c => (h.2.2 q a b t c).trans (h'.2.2 q a b t c)⟩
theorem EqS.le {n k : Nat} {u v : zM} (h : EqS n u v) (hk : k ≤ n) : EqS k u v := ⟨h.1, h.2.1, fun q a b t c => h.2.2 q a b t (by omega)⟩
theorem EqS.of {n : Nat} {u v : zM} (h : ∀ q, 1 ≤ q → q ≤ 9 → u q = v q) : EqS n u v := ⟨fun k _ _ => by rw [h 1 (by decide) (by decide)], fun q a b i _ => by rw [h q (by omega) (by omega)], fun q a b t _ => by rw [h q (by omega) (by omega)]⟩
theorem EqS.up {n : Nat} {u v : zM} (h : EqS n u v) (a k : Nat) (y : Int32) : EqS n (up2 u a k y) (up2 v a k y) := by
  refine ⟨fun j c d => ?_, fun q c d i e => ?_, fun q c d t e => ?_⟩
  · unfold up2
    rw [h.1 j c d]
  · unfold up2
    rw [h.2.1 q c d i e]
  · unfold up2
    rw [h.2.2 q c d t e]
section
variable {n : Nat} {u v : zM}
theorem EqS.e5 (h : EqS n u v) {t : Nat} (ht : t < n) : u (1 + 5) t = v (1 + 5) t := h.2.2 6 (by decide) (by decide) t ht
theorem EqS.e6 (h : EqS n u v) {t : Nat} (ht : t < n) : u (1 + 6) t = v (1 + 6) t := h.2.2 7 (by decide) (by decide) t ht
theorem EqS.e7 (h : EqS n u v) {t : Nat} (ht : t < n) : u 8 t = v 8 t := h.2.2 8 (by decide) (by decide) t ht
theorem EqS.e8 (h : EqS n u v) {t : Nat} (ht : t < n) : u (1 + 8) t = v (1 + 8) t := h.2.2 9 (by decide) (by decide) t ht
theorem EqS.F (h : EqS n u v) {t : Nat} (ht : t < n) : sF u 1 t = sF v 1 t := by
  unfold sF
  rw [h.e5 ht]
theorem EqS.O (h : EqS n u v) {t : Nat} (ht : t < n) : sO u 1 t = sO v 1 t := by
  unfold sO
  rw [h.e6 ht]
theorem EqS.day (h : EqS n u v) : u 1 9 = v 1 9 := h.1 9 (by decide) (by decide)
theorem EqS.ok (h : EqS n u v) (hk : sOk u 1 n) : sOk v 1 n := sOk_congr (h.1 8 (by decide) (by decide)).symm (fun _ hk => (h.e5 hk).symm) (fun _ hk => (h.e6 hk).symm) hk
theorem EqS.dok (h : EqS n u v) (hk : dOk u n) : dOk v n := fun t ht => by
  rw [← h.e7 ht]
  exact hk t ht
theorem EqS.force (h : EqS n u v) {t : Nat} (ht : t < n) : sForce u 1 t ↔ sForce v 1 t := by
  unfold sForce
  rw [h.e8 ht, h.day]
theorem EqS.nest (h : EqS n u v) {i : Nat} (hi : i < 8) : sNest u 1 i ↔ sNest v 1 i := by
  unfold sNest
  rw [h.day, show u (1 + 3) i = v (1 + 3) i from h.2.1 4 (by decide) (by decide) i hi]
theorem EqS.about (h : EqS n u v) {t : Nat} (ht : t < n) (g : Int32) : sAbout u 1 t g ↔ sAbout v 1 t g := by
  unfold sAbout
  rw [h.e5 ht, h.e6 ht]
theorem EqS.h2 (h : EqS n u v) {i : Nat} (hi : i < 8) : u 2 i = v 2 i := h.2.1 2 (by decide) (by decide) i hi
theorem EqS.h3 (h : EqS n u v) {i : Nat} (hi : i < 8) : u 3 i = v 3 i := h.2.1 3 (by decide) (by decide) i hi
theorem EqS.aft (h : EqS n u v) {i : Nat} (hi : i < 8) (d : Int32) : hAft u 1 i d = hAft v 1 i d := by
  unfold hAft
  rw [show u (1 + 1) i = v (1 + 1) i from h.h2 hi, show u (1 + 2) i = v (1 + 2) i from h.h3 hi]
theorem EqS.slack (h : EqS n u v) (hk : sOk u 1 n) {t : Nat} (ht : t < n) (d : Int32) : slackA u 1 t d = slackA v 1 t d := by
  have a := hk.2.2 t ht
  unfold slackA
  rw [h.aft a.1.2, h.aft a.2.2, h.F ht, h.O ht, show u (1 + 7) t = v (1 + 7) t from h.e7 ht]
theorem EqS.brk (h : EqS n u v) (hk : sOk u 1 n) {t : Nat} (ht : t < n) (d : Int32) : sBrk u 1 t d ↔ sBrk v 1 t d := by
  unfold sBrk
  rw [h.e8 ht, h.day, h.slack hk ht]
theorem EqS.eL (h : EqS n u v) {t : Nat} (ht : t < n) : eL u (pFo u) t = eL v (pFo v) t := by
  show (decide (sForce u 1 t), sF u 1 t, sO u 1 t, (u 8 t).toInt) = (decide (sForce v 1 t), sF v 1 t, sO v 1 t, (v 8 t).toInt)
  rw [h.F ht, h.O ht, h.e7 ht, decide_eq_decide.mpr (h.force ht)]
theorem EqS.eB (h : EqS n u v) {t : Nat} (ht : t < n) : eB u (pFo u) t = eB v (pFo v) t := by
  show (decide (sForce u 1 t), sO u 1 t, sF u 1 t, (u 8 t).toInt) = (decide (sForce v 1 t), sO v 1 t, sF v 1 t, (v 8 t).toInt)
  rw [h.F ht, h.O ht, h.e7 ht, decide_eq_decide.mpr (h.force ht)]
theorem EqS.eBx (h : EqS n u v) (x : Int32) {t : Nat} (ht : t < n) : Jvm.Pilot.CHedgeTreatiesLaw_law_r6356_2a1716.eB u (fun t => decide (¬ nI t = x ∧ sForce u 1 t)) t = Jvm.Pilot.CHedgeTreatiesLaw_law_r6356_2a1716.eB v (fun t => decide (¬ nI t = x ∧ sForce v 1 t)) t := by
  show (decide (¬ nI t = x ∧ sForce u 1 t), sO u 1 t, sF u 1 t, (u 8 t).toInt) = (decide (¬ nI t = x ∧ sForce v 1 t), sO v 1 t, sF v 1 t, (v 8 t).toInt)
  rw [h.F ht, h.O ht, h.e7 ht, decide_eq_decide.mpr (and_congr_right (fun _ => h.force ht))]
theorem EqS.fe (h : EqS n u v) (f o : Nat) (d : Int) : FeI u n f o d ↔ FeI v n f o d := by
  constructor
  · rintro ⟨z, h1, h2, h3⟩
    exact ⟨z, h1, h2, fun t ht => by rw [← h.F ht, ← h.O ht, ← h.e7 ht]; exact h3 t ht⟩
  · rintro ⟨z, h1, h2, h3⟩
    exact ⟨z, h1, h2, fun t ht => by rw [h.F ht, h.O ht, h.e7 ht]; exact h3 t ht⟩
theorem EqS.fea (h : EqS n u v) (f o : Nat) (d : Int32) : Fea (eN u f o d) (n + 1) ↔ Fea (eN v f o d) (n + 1) := by
  rw [FeI.iff, FeI.iff, h.fe]
theorem EqS.hgt (h : EqS n u v) : HgtY (u 2) = HgtY (v 2) := by
  funext q
  unfold HgtY
  by_cases g : q < 8
  · rw [if_pos g, if_pos g, h.h2 g]
  · rw [if_neg g, if_neg g]
theorem EqS.g (h : EqS n u v) (g9 : gOk u n) : gOk v n := by
  obtain ⟨h1, h2, h3, z, h4, h5⟩ := g9
  refine ⟨h.ok h1, h.dok h2, fun q hq => ?_, z, h4, fun t ht _ => ?_⟩
  · rw [← h.h2 hq]
    exact h3 q hq
  · show z (sF v 1 t) ≤ z (sO v 1 t) + (v 8 t).toInt
    rw [← h.F ht, ← h.O ht, ← h.e7 ht]
    exact h5 t ht rfl
theorem EqS.topL (h : EqS n u v) {y : Nat → Int} (g : Top (HgtY (u 2)) (Jvm.Pilot.CHedgeTreatiesLaw_law_r6356_2a1716.eL u (pFo u)) n y) : Top (HgtY (v 2)) (Jvm.Pilot.CHedgeTreatiesLaw_law_r6356_2a1716.eL v (pFo v)) n y := by
  rw [← h.hgt]
  exact g.congr (fun t ht => (h.eL ht).symm)
theorem EqS.topB (h : EqS n u v) {f : Nat} {y : Nat → Int} (g : Top (Yb f) (Jvm.Pilot.CHedgeTreatiesLaw_law_r6356_2a1716.eB u (pFo u)) n y) : Top (Yb f) (Jvm.Pilot.CHedgeTreatiesLaw_law_r6356_2a1716.eB v (pFo v)) n y := g.congr (fun t ht => (h.eB ht).symm)
end
/-- a street elsewhere, as if it were at 1 -/
def aS (m : zM) (a : Nat) : zM := fun q k => m (a + (q - 1)) k
theorem aS_1 {n : Nat} {m : zM} : EqS n (aS m 1) m := EqS.of (fun q a _ => by
  show m (1 + (q - 1)) = m q
  rw [show 1 + (q - 1) = q by omega])
theorem aS_of {n : Nat} {m m' : zM} {a : Nat} (h : ∀ q, a ≤ q → q < a + 9 → m' q = m q) : EqS n (aS m' a) (aS m a) := EqS.of (fun q c d => by
  show m' (a + (q - 1)) = m (a + (q - 1))
  rw [h _ (by omega) (by omega)])
theorem cp_to {n : Nat} (hn : n ≤ 14) (m : zM) (a c : Nat) : EqS n (aS (cpM m a c) a) (aS m c) := by
  refine ⟨fun k e f => ?_, fun q e f i g => ?_, fun q e f t g => ?_⟩
  · show cpM m a c (a + (1 - 1)) k = m (c + (1 - 1)) k
    unfold cpM
    rw [if_pos (Or.inr (Or.inr ⟨rfl, e, f⟩))]
    rw [show c + (a + (1 - 1) - a) = c + (1 - 1) by omega]
  · show cpM m a c (a + (q - 1)) i = m (c + (q - 1)) i
    unfold cpM
    rw [if_pos (Or.inl (by omega)), show c + (a + (q - 1) - a) = c + (q - 1) by omega]
  · show cpM m a c (a + (q - 1)) t = m (c + (q - 1)) t
    unfold cpM
    rw [if_pos (Or.inr (Or.inl (by omega))), show c + (a + (q - 1) - a) = c + (q - 1) by omega]
theorem cp_o (m : zM) {a c q : Nat} (h : q < a ∨ a + 9 ≤ q) : cpM m a c q = m q := by
  funext k
  unfold cpM
  rw [if_neg (by omega)]
