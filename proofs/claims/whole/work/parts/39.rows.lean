/-! each change, on both sides -/
theorem EqS.uh {N : Nat} {u : zM} {r : Nat → Int32} (h : EqS N u (vR r)) {i c : Nat} (hi : i < 8) (hc : c < 4) (y : Int32) : EqS N (up2 u (2 + c) i y) (vR (up1 r (7 + 4 * i + c) y)) := (h.up _ _ _).trans (vR_h r hi hc y)
theorem EqS.ut {N : Nat} {u : zM} {r : Nat → Int32} (h : EqS N u (vR r)) {i c : Nat} (hc : c < 4) (y : Int32) : EqS N (up2 u (6 + c) i y) (vR (up1 r (39 + 4 * i + c) y)) := (h.up _ _ _).trans (vR_t r hc y)
theorem EqS.un {N : Nat} {u : zM} {r : Nat → Int32} (h : EqS N u (vR r)) {c : Nat} (hc : c < 6) (y : Int32) : EqS N (up2 u 1 (n1 c) y) (vR (up1 r c y)) := (h.up _ _ _).trans (vR_1 r hc y)
theorem EqS.u6 {N : Nat} {u : zM} {r : Nat → Int32} (h : EqS N u (vR r)) (y : Int32) : EqS N u (vR (up1 r 6 y)) := by
  rw [vR_6]
  exact h
theorem gOk_congr {n : Nat} {m m' : zM} (h8 : m' 1 8 = m 1 8) (h6 : ∀ t, t < n → m' (1 + 5) t = m (1 + 5) t ∧ m' (1 + 6) t = m (1 + 6) t ∧ m' 8 t = m 8 t) (hh : ∀ q, q < 8 → 0 ≤ (m' 2 q).toInt ∧ (m' 2 q).toInt ≤ 99) (g : gOk m n) : gOk m' n := by
  obtain ⟨g1, g2, -, z, g4, g5⟩ := g
  refine ⟨sOk_congr h8 (fun t ht => (h6 t ht).1) (fun t ht => (h6 t ht).2.1) g1, fun t ht => ?_, hh, z, g4, fun t ht _ => ?_⟩
  · rw [(h6 t ht).2.2]
    exact g2 t ht
  · show z (sF m' 1 t) ≤ z (sO m' 1 t) + (m' 8 t).toInt
    unfold sF sO
    rw [(h6 t ht).1, (h6 t ht).2.1, (h6 t ht).2.2]
    exact g5 t ht rfl
theorem Inv.of {K K' n : Nat} {r r' : Nat → Int32} (h : Inv K r n) (e2 : r' 2 = r 2) (et : ∀ t, t < n → r' (39 + 4 * t) = r (39 + 4 * t) ∧ r' (39 + 4 * t + 1) = r (39 + 4 * t + 1) ∧ r' (39 + 4 * t + 2) = r (39 + 4 * t + 2)) (eh : ∀ i, i < 8 → 0 ≤ (r' (7 + 4 * i)).toInt ∧ (r' (7 + 4 * i)).toInt ≤ 99) (eg : ∀ i, i < 8 → 0 ≤ (r' (7 + 4 * i + 1)).toInt ∧ (r' (7 + 4 * i + 1)).toInt ≤ 5) (ed : 0 ≤ (r' 0).toInt ∧ (r' 0).toInt ≤ K') (ei : ∀ t, t < n → 0 ≤ (r' (39 + 4 * t + 3)).toInt ∧ (r' (39 + 4 * t + 3)).toInt ≤ K' + 30) (es : r' 6 = sumI (vR r' 5) 8) : Inv K' r' n :=
  ⟨gOk_congr (m := vR r) (m' := vR r') e2 et eh h.1, eg, ed, ei, es⟩
section
variable {K n : Nat} {r : Nat → Int32}
theorem Inv.hh (h : Inv K r n) {i : Nat} (hi : i < 8) : 0 ≤ (r (7 + 4 * i)).toInt ∧ (r (7 + 4 * i)).toInt ≤ 99 := h.1.2.2.1 i hi
theorem Inv.gg (h : Inv K r n) {i : Nat} (hi : i < 8) : 0 ≤ (r (7 + 4 * i + 1)).toInt ∧ (r (7 + 4 * i + 1)).toInt ≤ 5 := h.2.1 i hi
theorem Inv.dd (h : Inv K r n) : 0 ≤ (r 0).toInt ∧ (r 0).toInt ≤ K := h.2.2.1
theorem Inv.ii (h : Inv K r n) {t : Nat} (ht : t < n) : 0 ≤ (r (39 + 4 * t + 3)).toInt ∧ (r (39 + 4 * t + 3)).toInt ≤ K + 30 := h.2.2.2.1 t ht
theorem Inv.ss (h : Inv K r n) : r 6 = sumI (vR r 5) 8 := h.2.2.2.2
theorem Inv.n14 (h : Inv K r n) : n ≤ 14 := h.1.1.2.1
/-- a place that nothing is asked of -/
theorem Inv.up (h : Inv K r n) {k : Nat} (y : Int32) (hk : k = 1 ∨ k = 3 ∨ k = 4 ∨ k = 5 ∨ (∃ i, i < 8 ∧ k = 7 + 4 * i + 2)) : Inv K (up1 r k y) n := by
  have key : ∀ j, ¬ j = k → up1 r k y j = r j := fun j hj => up1_ne r y hj
  refine h.of (key 2 (by omega)) (fun t ht => ⟨key _ (by omega), key _ (by omega), key _ (by omega)⟩) (fun i hi => ?_) (fun i hi => ?_) ?_ (fun t ht => ?_) ?_
  · rw [key _ (by omega)]
    exact h.hh hi
  · rw [key _ (by omega)]
    exact h.gg hi
  · rw [key _ (by omega)]
    exact h.dd
  · rw [key _ (by omega)]
    exact h.ii ht
  · rw [key _ (by omega), h.ss]
    exact sumI_congr 8 (fun i hi => (key (7 + 4 * i + 3) (by omega)).symm)
theorem Inv.height (h : Inv K r n) {i : Nat} (hi : i < 8) {y : Int32} (hy : 0 ≤ y.toInt ∧ y.toInt ≤ 99) : Inv K (up1 r (7 + 4 * i + 0) y) n := by
  have key : ∀ j, ¬ j = 7 + 4 * i + 0 → up1 r (7 + 4 * i + 0) y j = r j := fun j hj => up1_ne r y hj
  refine h.of (key 2 (by omega)) (fun t ht => ⟨key _ (by omega), key _ (by omega), key _ (by omega)⟩) (fun j hj => ?_) (fun j hj => ?_) ?_ (fun t ht => ?_) ?_
  · by_cases g : j = i
    · subst g
      rw [show up1 r (7 + 4 * j + 0) y (7 + 4 * j) = y from up1_eq r (7 + 4 * j + 0) y]
      exact hy
    · rw [key _ (by omega)]
      exact h.hh hj
  · rw [key _ (by omega)]
    exact h.gg hj
  · rw [key _ (by omega)]
    exact h.dd
  · rw [key _ (by omega)]
    exact h.ii ht
  · rw [key _ (by omega), h.ss]
    exact sumI_congr 8 (fun j hj => (key (7 + 4 * j + 3) (by omega)).symm)
theorem Inv.growth (h : Inv K r n) {i : Nat} (hi : i < 8) {y : Int32} (hy : 0 ≤ y.toInt ∧ y.toInt ≤ 5) : Inv K (up1 r (7 + 4 * i + 1) y) n := by
  have key : ∀ j, ¬ j = 7 + 4 * i + 1 → up1 r (7 + 4 * i + 1) y j = r j := fun j hj => up1_ne r y hj
  refine h.of (key 2 (by omega)) (fun t ht => ⟨key _ (by omega), key _ (by omega), key _ (by omega)⟩) (fun j hj => ?_) (fun j hj => ?_) ?_ (fun t ht => ?_) ?_
  · rw [key _ (by omega)]
    exact h.hh hj
  · by_cases g : j = i
    · subst g
      rw [up1_eq]
      exact hy
    · rw [key _ (by omega)]
      exact h.gg hj
  · rw [key _ (by omega)]
    exact h.dd
  · rw [key _ (by omega)]
    exact h.ii ht
  · rw [key _ (by omega), h.ss]
    exact sumI_congr 8 (fun j hj => (key (7 + 4 * j + 3) (by omega)).symm)
theorem Inv.ice (h : Inv K r n) {t9 : Nat} {y : Int32} (hy : 0 ≤ y.toInt ∧ y.toInt ≤ K + 30) : Inv K (up1 r (39 + 4 * t9 + 3) y) n := by
  have key : ∀ j, ¬ j = 39 + 4 * t9 + 3 → up1 r (39 + 4 * t9 + 3) y j = r j := fun j hj => up1_ne r y hj
  refine h.of (key 2 (by omega)) (fun t ht => ⟨key _ (by omega), key _ (by omega), key _ (by omega)⟩) (fun j hj => ?_) (fun j hj => ?_) ?_ (fun t ht => ?_) ?_
  · rw [key _ (by omega)]
    exact h.hh hj
  · rw [key _ (by omega)]
    exact h.gg hj
  · rw [key _ (by omega)]
    exact h.dd
  · by_cases g : t = t9
    · subst g
      rw [up1_eq]
      exact hy
    · rw [key _ (by omega)]
      exact h.ii ht
  · rw [key _ (by omega), h.ss]
    exact sumI_congr 8 (fun j hj => (key (7 + 4 * j + 3) (by omega)).symm)
theorem sumI_up (f : Nat → Int32) (i : Nat) (y : Int32) : ∀ N, sumI (fun j => if j = i then f i + y else f j) N = if i < N then sumI f N + y else sumI f N
  | 0 => rfl
  | N + 1 => by
    show sumI (fun j => if j = i then f i + y else f j) N + (if N = i then f i + y else f N) = _
    rw [sumI_up f i y N]
    by_cases g : N = i
    · subst g
      rw [if_neg (Nat.lt_irrefl N), if_pos rfl, if_pos (Nat.lt_succ_self N), ← Int32.add_assoc]
      rfl
    · rw [if_neg g]
      by_cases g2 : i < N
      · rw [if_pos g2, if_pos (by omega), Int32.add_assoc, Int32.add_comm y, ← Int32.add_assoc]
        rfl
      · rw [if_neg g2, if_neg (by omega)]
        rfl
def clR (r : Nat → Int32) (i : Nat) (y : Int32) : Nat → Int32 := up1 (up1 (up1 (up1 r (7 + 4 * i + 0) (r (7 + 4 * i + 0) - y)) (7 + 4 * i + 3) (r (7 + 4 * i + 3) + y)) 5 (r 5 + nI 1)) 6 (r 6 + y)
theorem cl_75 (m : zM) {i : Nat} (y : Int32) : clM m i y 75 = clR (m 75) i y := by
  show up2 (up2 (up2 (up2 m 75 _ _) 75 _ (up2 m 75 _ _ 75 (7 + 4 * i + 3) + y)) 75 _ (up2 (up2 m 75 _ _) 75 _ _ 75 5 + nI 1)) 75 _ (up2 (up2 (up2 m 75 _ _) 75 _ _) 75 _ _ 75 6 + y) 75 = _
  rw [up2_75, up2_75, up2_75, up2_75]
  rw [up1_ne (m 75) (k := 7 + 4 * i + 0) (j := 7 + 4 * i + 3) _ (by omega)]
  rw [up1_ne _ (k := 7 + 4 * i + 3) (j := 5) _ (by omega), up1_ne (m 75) (k := 7 + 4 * i + 0) (j := 5) _ (by omega)]
  rw [up1_ne _ (k := 5) (j := 6) _ (by omega), up1_ne _ (k := 7 + 4 * i + 3) (j := 6) _ (by omega), up1_ne (m 75) (k := 7 + 4 * i + 0) (j := 6) _ (by omega)]
  rfl
theorem EqS.cut {N : Nat} {u : zM} (h : EqS N u (vR r)) {i : Nat} (hi : i < 8) (y : Int32) : EqS N (cutM u 1 i y) (vR (clR r i y)) := by
  have a := (((h.uh hi (c := 0) (by decide) (r (7 + 4 * i + 0) - y)).uh hi (c := 3) (by decide) (r (7 + 4 * i + 3) + y)).un (c := 5) (by decide) (r 5 + nI 1)).u6 (r 6 + y)
  have e1 : u (1 + 1) i = r (7 + 4 * i + 0) := h.h2 hi
  have e2 : u (1 + 4) i = r (7 + 4 * i + 3) := h.2.1 5 (by decide) (by decide) i hi
  have e3 : u 1 13 = r 5 := h.1 13 (by decide) (by decide)
  unfold cutM
  rw [e1, e2, e3]
  exact a
theorem Inv.cut (h : Inv K r n) {i : Nat} (hi : i < 8) {y : Int32} (hy : 0 ≤ y.toInt ∧ y.toInt ≤ (r (7 + 4 * i)).toInt) : Inv K (clR r i y) n := by
  have hb := h.hh hi
  have e0 : (r (7 + 4 * i + 0) - y).toInt = (r (7 + 4 * i)).toInt - y.toInt := i32_sub (by show _ ≤ (r (7 + 4 * i)).toInt - _; omega) (by show (r (7 + 4 * i)).toInt - _ ≤ _; omega)
  have k1 : ∀ j, ¬ j = 7 + 4 * i + 0 → ¬ j = 7 + 4 * i + 3 → ¬ j = 5 → ¬ j = 6 → clR r i y j = r j := fun j a b c d => by
    unfold clR
    rw [up1_ne _ _ d, up1_ne _ _ c, up1_ne _ _ b, up1_ne _ _ a]
  have k2 : clR r i y (7 + 4 * i + 0) = r (7 + 4 * i + 0) - y := by
    unfold clR
    rw [up1_ne _ _ (by omega), up1_ne _ _ (by omega), up1_ne _ _ (by omega), up1_eq]
  have k3 : clR r i y (7 + 4 * i + 3) = r (7 + 4 * i + 3) + y := by
    unfold clR
    rw [up1_ne _ _ (by omega), up1_ne _ _ (by omega), up1_eq]
  have k4 : clR r i y 6 = r 6 + y := up1_eq _ _ _
  refine h.of (k1 2 (by omega) (by omega) (by omega) (by omega)) (fun t ht => ⟨k1 _ (by omega) (by omega) (by omega) (by omega), k1 _ (by omega) (by omega) (by omega) (by omega), k1 _ (by omega) (by omega) (by omega) (by omega)⟩) (fun j hj => ?_) (fun j hj => ?_) ?_ (fun t ht => ?_) ?_
  · by_cases g : j = i
    · subst g
      rw [show clR r j y (7 + 4 * j) = r (7 + 4 * j + 0) - y from k2, e0]
      omega
    · rw [k1 _ (by omega) (by omega) (by omega) (by omega)]
      exact h.hh hj
  · rw [k1 _ (by omega) (by omega) (by omega) (by omega)]
    exact h.gg hj
  · rw [k1 _ (by omega) (by omega) (by omega) (by omega)]
    exact h.dd
  · rw [k1 _ (by omega) (by omega) (by omega) (by omega)]
    exact h.ii ht
  · rw [k4, h.ss]
    have e := sumI_up (vR r 5) i y 8
    rw [if_pos hi] at e
    rw [← e]
    refine sumI_congr 8 (fun j hj => ?_)
    by_cases g : j = i
    · rw [if_pos g, g]
      exact k3.symm
    · rw [if_neg g]
      exact (k1 (7 + 4 * j + 3) (by omega) (by omega) (by omega) (by omega)).symm
def rfR (r : Nat → Int32) : Nat → Int32 := up1 r 4 (r 4 + nI 1)
theorem rf_75 (m : zM) : rfM m 75 = rfR (m 75) := up2_75 m 4 _
theorem EqS.ref {N : Nat} {u : zM} (h : EqS N u (vR r)) : EqS N (refM u) (vR (rfR r)) := by
  have a := h.un (c := 4) (by decide) (r 4 + nI 1)
  unfold refM
  rw [h.1 12 (by decide) (by decide)]
  exact a
theorem Inv.ref (h : Inv K r n) : Inv K (rfR r) n := h.up _ (by omega)
theorem mn9_aft (a b : Int32) : (if a + b * nI 1 < nI 99 then a + b * nI 1 else nI 99) = mn9 (a + b) := by
  have e : b * nI 1 = b := Int32.mul_one b
  rw [e]
  unfold mn9
  by_cases h : a + b < nI 99
  · rw [if_pos h, if_neg (fun z => by rw [i32_lt] at h z; omega)]
  · rw [if_neg h]
    by_cases g : nI 99 < a + b
    · rw [if_pos g]
    · rw [if_neg g]
      rw [i32_lt] at h g
      exact i32_eq.mpr (by omega)
theorem EqS.dayS {N : Nat} {u : zM} (h : EqS N u (vR r)) : EqS N (dayM u 1) (vR (dyR r)) := by
  refine ⟨fun k a b => ?_, fun q a b i c => ?_, fun q a b t c => ?_⟩
  · by_cases g : k = 9
    · subst g
      rw [dyR_9]
      show up2 (pdM u 1 8) 1 9 (u 1 9 + nI 1) 1 9 = _
      rw [up2_eq, h.day]
      rfl
    · rw [dayM_a g, dyR_1 r (by omega)]
      exact h.1 k a b
  · by_cases g : q = 2
    · subst g
      rw [dyR_2 r c]
      show up2 (pdM u 1 8) 1 9 (u 1 9 + nI 1) 2 i = _
      rw [up2_ne _ _ (by omega)]
      show (if 2 = 1 + 1 ∧ i < 8 then hAft u 1 i (nI 1) else u 2 i) = _
      rw [if_pos ⟨rfl, c⟩]
      unfold hAft
      rw [show u (1 + 1) i = vR r 2 i from h.h2 c, show u (1 + 2) i = vR r 3 i from h.h3 c]
      exact mn9_aft _ _
    · rw [dayM_o (by omega) (by omega), dyR_q r (by omega)]
      exact h.2.1 q a b i c
  · rw [dayM_o (by omega) (by omega), dyR_q r (by omega)]
    exact h.2.2 q a b t c
theorem mn9_in {x : Int32} (h : 0 ≤ x.toInt) : 0 ≤ (mn9 x).toInt ∧ (mn9 x).toInt ≤ 99 := by
  have e : (nI 99).toInt = 99 := rfl
  unfold mn9
  split
  · rw [e]
    omega
  · rename_i g
    rw [i32_lt] at g
    omega
theorem Inv.day (h : Inv K r n) (hK : K ≤ 100000) : Inv (K + 1) (dyR r) n := by
  have e1 : (nI 1).toInt = 1 := rfl
  refine h.of (dyR_n (by omega) (by omega)) (fun t ht => ⟨dyR_n (by omega) (by omega), dyR_n (by omega) (by omega), dyR_n (by omega) (by omega)⟩) (fun i hi => ?_) (fun i hi => ?_) ?_ (fun t ht => ?_) ?_
  · have a := h.hh hi
    have b := h.gg hi
    rw [show dyR r (7 + 4 * i) = mn9 (r (7 + 4 * i) + r (7 + 4 * i + 1)) from dyR_2 r hi]
    refine mn9_in ?_
    rw [i32_add (by omega) (by omega)]
    omega
  · rw [dyR_n (by omega) (by omega)]
    exact h.gg hi
  · have a := h.dd
    rw [show dyR r 0 = r 0 + nI 1 from rfl, i32_add (by omega) (by omega), e1]
    omega
  · rw [dyR_n (by omega) (by omega)]
    have := h.ii ht
    omega
  · rw [dyR_n (by omega) (by omega), h.ss]
    exact sumI_congr 8 (fun i hi => (congrFun (dyR_q r (q := 5) (by decide)) i).symm)
end
/-! a treaty more, a treaty less -/
def adR (r : Nat → Int32) (n : Nat) (f o d : Int32) : Nat → Int32 := up1 (up1 (up1 (up1 (up1 (up1 r (39 + 4 * n + 0) f) (39 + 4 * n + 1) o) (39 + 4 * n + 2) d) (39 + 4 * n + 3) (nI 0)) 2 (nI (n + 1))) 3 (r 3 + nI 1)
theorem ad_75 (m : zM) (n : Nat) (f o d : Int32) : adM m n f o d 75 = adR (m 75) n f o d := by
  unfold adM
  rw [up2_75, up2_75, up2_75, up2_75, up2_75, up2_75]
  rfl
theorem ad_q (m : zM) (n : Nat) (f o d : Int32) {q : Nat} (h : q ≠ 75) : adM m n f o d q = m q := by
  unfold adM
  rw [up2_na _ _ _ h, up2_na _ _ _ h, up2_na _ _ _ h, up2_na _ _ _ h, up2_na _ _ _ h, up2_na _ _ _ h]
theorem EqS.add1 {n : Nat} {u v : zM} (h : EqS n u v) (a : ∀ q, 6 ≤ q → q ≤ 9 → u q n = v q n) : EqS (n + 1) u v := ⟨h.1, h.2.1, fun q c d t e => by
  rcases Nat.lt_succ_iff_lt_or_eq.mp e with g | g
  · exact h.2.2 q c d t g
  · rw [g]
    exact a q c d⟩
theorem EqS.add {n : Nat} {u : zM} {r : Nat → Int32} (h : EqS n u (vR r)) (f o d : Int32) : EqS (n + 1) (addM u 1 n f o d) (vR (adR r n f o d)) := by
  have a := (((((h.ut (i := n) (c := 0) (by decide) f).ut (i := n) (c := 1) (by decide) o).ut (i := n) (c := 2) (by decide) d).ut (i := n) (c := 3) (by decide) (nI 0)).un (c := 2) (by decide) (nI (n + 1))).un (c := 3) (by decide) (r 3 + nI 1)
  have e : u 1 11 = r 3 := h.1 11 (by decide) (by decide)
  refine EqS.add1 ?_ (fun q c d2 => ?_)
  · unfold addM
    rw [e]
    exact a
  · have g : q = 6 ∨ q = 7 ∨ q = 8 ∨ q = 9 := by omega
    unfold addM
    rcases g with rfl | rfl | rfl | rfl
    · rw [up2_ne _ _ (by omega), up2_ne _ _ (by omega), up2_ne _ _ (by omega), up2_ne _ _ (by omega), up2_ne _ _ (by omega), show up2 u (1 + 5) n f 6 n = f from up2_eq u 6 n f]
      show f = adR r n f o d (39 + 4 * n + 0)
      unfold adR
      rw [up1_ne _ _ (by omega), up1_ne _ _ (by omega), up1_ne _ _ (by omega), up1_ne _ _ (by omega), up1_ne _ _ (by omega), up1_eq]
    · rw [up2_ne _ _ (by omega), up2_ne _ _ (by omega), up2_ne _ _ (by omega), up2_ne _ _ (by omega), show up2 (up2 u (1 + 5) n f) (1 + 6) n o 7 n = o from up2_eq _ 7 n o]
      show o = adR r n f o d (39 + 4 * n + 1)
      unfold adR
      rw [up1_ne _ _ (by omega), up1_ne _ _ (by omega), up1_ne _ _ (by omega), up1_ne _ _ (by omega), up1_eq]
    · rw [up2_ne _ _ (by omega), up2_ne _ _ (by omega), up2_ne _ _ (by omega), show up2 (up2 (up2 u (1 + 5) n f) (1 + 6) n o) (1 + 7) n d 8 n = d from up2_eq _ 8 n d]
      show d = adR r n f o d (39 + 4 * n + 2)
      unfold adR
      rw [up1_ne _ _ (by omega), up1_ne _ _ (by omega), up1_ne _ _ (by omega), up1_eq]
    · rw [up2_ne _ _ (by omega), up2_ne _ _ (by omega), show up2 (up2 (up2 (up2 u (1 + 5) n f) (1 + 6) n o) (1 + 7) n d) (1 + 8) n (nI 0) 9 n = nI 0 from up2_eq _ 9 n _]
      show nI 0 = adR r n f o d (39 + 4 * n + 3)
      unfold adR
      rw [up1_ne _ _ (by omega), up1_ne _ _ (by omega), up1_eq]
theorem Inv.add {K n : Nat} {r : Nat → Int32} (h : Inv K r n) (hn : n < 14) {f o : Nat} {d : Int32} (hf : f < 8) (ho : o < 8) (hd : -30 ≤ d.toInt ∧ d.toInt ≤ 60) (hfe : Fea (eN (vR r) f o d) (n + 1)) : Inv K (adR r n (nI f) (nI o) d) (n + 1) := by
  have k : ∀ j, ¬ j = 2 → ¬ j = 3 → (j < 39 + 4 * n ∨ 39 + 4 * n + 4 ≤ j) → adR r n (nI f) (nI o) d j = r j := fun j a b c => by
    unfold adR
    rw [up1_ne _ _ b, up1_ne _ _ a, up1_ne _ _ (by omega), up1_ne _ _ (by omega), up1_ne _ _ (by omega), up1_ne _ _ (by omega)]
  refine ⟨((EqS.rf (n := n) (u := vR r)).add (nI f) (nI o) d).g (gOk_add h.1 hn hf ho hd hfe), fun i hi => ?_, ?_, fun t ht => ?_, ?_⟩
  · rw [show vR (adR r n (nI f) (nI o) d) 3 i = r (7 + 4 * i + 1) from k _ (by omega) (by omega) (by omega)]
    exact h.gg hi
  · rw [k 0 (by omega) (by omega) (by omega)]
    exact h.dd
  · rcases Nat.lt_succ_iff_lt_or_eq.mp ht with g | g
    · rw [show vR (adR r n (nI f) (nI o) d) 9 t = r (39 + 4 * t + 3) from k _ (by omega) (by omega) (by omega)]
      exact h.ii g
    · have e : vR (adR r n (nI f) (nI o) d) 9 t = nI 0 := by
        rw [g]
        show adR r n (nI f) (nI o) d (39 + 4 * n + 3) = nI 0
        unfold adR
        rw [up1_ne _ _ (by omega), up1_ne _ _ (by omega), up1_eq]
      rw [e]
      have e0 : (nI 0).toInt = 0 := rfl
      omega
  · rw [k 6 (by omega) (by omega) (by omega), h.ss]
    exact sumI_congr 8 (fun i hi => (k (7 + 4 * i + 3) (by omega) (by omega) (by omega)).symm)
