/-! cancelling, freezing, thawing; days ahead -/
theorem up1_self (r : Nat → Int32) (k : Nat) : up1 r k (r k) = r := by
  funext j
  unfold up1
  by_cases g : j = k
  · rw [if_pos g, g]
  · rw [if_neg g]
theorem up2_comm (m : zM) {a k b j : Nat} (x y : Int32) (h : ¬ (a = b ∧ k = j)) : up2 (up2 m a k x) b j y = up2 (up2 m b j y) a k x := by
  funext p q
  unfold up2
  by_cases g1 : p = b ∧ q = j
  · by_cases g2 : p = a ∧ q = k
    · exact absurd ⟨g2.1.symm.trans g1.1, g2.2.symm.trans g1.2⟩ h
    · rw [if_pos g1, if_neg g2, if_pos g1]
  · by_cases g2 : p = a ∧ q = k
    · rw [if_neg g1, if_pos g2, if_pos g2]
    · rw [if_neg g1, if_neg g2, if_neg g2, if_neg g1]
section
variable {K n : Nat} {r : Nat → Int32}
theorem caR_lo {t k : Nat} (h2 : ¬ k = 2) (h : k < 39 + 4 * t) : caR r t n k = r k := by
  unfold caR
  rw [if_neg h2, if_neg (by omega)]
theorem caR_hi {t k : Nat} (h : 39 + 4 * t ≤ k) (h2 : k + 4 < 95) : caR r t n k = r (k + 4) := by
  unfold caR
  rw [if_neg (by omega), if_pos (by omega), if_pos h2]
theorem EqS.rm {u : zM} (h : EqS n u (vR r)) (hn : n ≤ 14) {t : Nat} (ht : t < n) : EqS (n - 1) (up2 (rmM u 1 t n) 1 8 (nI (n - 1))) (vR (caR r t n)) := by
  refine ⟨fun k a b => ?_, fun q a b i c => ?_, fun q a b t2 c => ?_⟩
  · by_cases g : k = 8
    · subst g
      rw [up2_eq]
      rfl
    · rw [up2_ne _ _ (by omega)]
      have e : rmM u 1 t n 1 k = u 1 k := by
        unfold rmM
        rw [if_neg (by omega)]
      rw [e, h.1 k a b]
      have f : k = 9 ∨ k = 10 ∨ k = 11 ∨ k = 12 ∨ k = 13 := by omega
      rcases f with rfl | rfl | rfl | rfl | rfl
      · exact (caR_lo (k := 0) (by omega) (by omega)).symm
      · exact (caR_lo (k := 1) (by omega) (by omega)).symm
      · exact (caR_lo (k := 3) (by omega) (by omega)).symm
      · exact (caR_lo (k := 4) (by omega) (by omega)).symm
      · exact (caR_lo (k := 5) (by omega) (by omega)).symm
  · rw [up2_ne _ _ (by omega)]
    have e : rmM u 1 t n q i = u q i := by
      unfold rmM
      rw [if_neg (by omega)]
    rw [e, h.2.1 q a b i c]
    have f : q = 2 ∨ q = 3 ∨ q = 4 ∨ q = 5 := by omega
    rcases f with rfl | rfl | rfl | rfl
    · exact (caR_lo (k := 7 + 4 * i) (by omega) (by omega)).symm
    · exact (caR_lo (k := 7 + 4 * i + 1) (by omega) (by omega)).symm
    · exact (caR_lo (k := 7 + 4 * i + 2) (by omega) (by omega)).symm
    · exact (caR_lo (k := 7 + 4 * i + 3) (by omega) (by omega)).symm
  · rw [up2_ne _ _ (by omega)]
    have f : q = 6 ∨ q = 7 ∨ q = 8 ∨ q = 9 := by omega
    by_cases g : t ≤ t2
    · have e : rmM u 1 t n q t2 = u q (t2 + 1) := by
        unfold rmM
        rw [if_pos (by omega)]
      rw [e, h.2.2 q a b (t2 + 1) (by omega)]
      rcases f with rfl | rfl | rfl | rfl
      · exact (caR_hi (k := 39 + 4 * t2) (by omega) (by omega)).symm
      · exact (caR_hi (k := 39 + 4 * t2 + 1) (by omega) (by omega)).symm
      · exact (caR_hi (k := 39 + 4 * t2 + 2) (by omega) (by omega)).symm
      · exact (caR_hi (k := 39 + 4 * t2 + 3) (by omega) (by omega)).symm
    · have e : rmM u 1 t n q t2 = u q t2 := by
        unfold rmM
        rw [if_neg (by omega)]
      rw [e, h.2.2 q a b t2 (by omega)]
      rcases f with rfl | rfl | rfl | rfl
      · exact (caR_lo (k := 39 + 4 * t2) (by omega) (by omega)).symm
      · exact (caR_lo (k := 39 + 4 * t2 + 1) (by omega) (by omega)).symm
      · exact (caR_lo (k := 39 + 4 * t2 + 2) (by omega) (by omega)).symm
      · exact (caR_lo (k := 39 + 4 * t2 + 3) (by omega) (by omega)).symm
theorem Inv.rm (h : Inv K r n) {t : Nat} (ht : t < n) : Inv K (caR r t n) (n - 1) := by
  have hn := h.n14
  have key : ∀ t2, t2 < n - 1 → ∃ t3, t3 < n ∧ ∀ c, c < 4 → caR r t n (39 + 4 * t2 + c) = r (39 + 4 * t3 + c) := fun t2 h2 => by
    by_cases g : t ≤ t2
    · refine ⟨t2 + 1, by omega, fun c hc => ?_⟩
      rw [caR_hi (by omega) (by omega)]
      congr 1
      omega
    · exact ⟨t2, by omega, fun c hc => caR_lo (by omega) (by omega)⟩
  obtain ⟨g1, g2, g3, z, g4, g5⟩ := h.1
  have hh : ∀ i c, i < 8 → c < 4 → caR r t n (7 + 4 * i + c) = r (7 + 4 * i + c) := fun i c hi hc => caR_lo (by omega) (by omega)
  refine ⟨⟨⟨rfl, by omega, fun t2 h2 => ?_⟩, fun t2 h2 => ?_, fun i hi => ?_, z, g4, fun t2 h2 _ => ?_⟩, fun i hi => ?_, ?_, fun t2 h2 => ?_, ?_⟩
  · obtain ⟨t3, h3, e⟩ := key t2 h2
    have a := g1.2.2 t3 h3
    have e0 : vR (caR r t n) (1 + 5) t2 = vR r (1 + 5) t3 := e 0 (by decide)
    have e1 : vR (caR r t n) (1 + 6) t2 = vR r (1 + 6) t3 := e 1 (by decide)
    unfold sF sO
    rw [e0, e1]
    exact a
  · obtain ⟨t3, h3, e⟩ := key t2 h2
    rw [show vR (caR r t n) 8 t2 = vR r 8 t3 from e 2 (by decide)]
    exact g2 t3 h3
  · rw [show vR (caR r t n) 2 i = vR r 2 i from hh i 0 hi (by decide)]
    exact g3 i hi
  · obtain ⟨t3, h3, e⟩ := key t2 h2
    have e0 : vR (caR r t n) (1 + 5) t2 = vR r (1 + 5) t3 := e 0 (by decide)
    have e1 : vR (caR r t n) (1 + 6) t2 = vR r (1 + 6) t3 := e 1 (by decide)
    have e2 : vR (caR r t n) 8 t2 = vR r 8 t3 := e 2 (by decide)
    show z (sF (vR (caR r t n)) 1 t2) ≤ z (sO (vR (caR r t n)) 1 t2) + (vR (caR r t n) 8 t2).toInt
    unfold sF sO
    rw [e0, e1, e2]
    exact g5 t3 h3 rfl
  · rw [show vR (caR r t n) 3 i = vR r 3 i from hh i 1 hi (by decide)]
    exact h.gg hi
  · rw [caR_lo (by omega) (by omega)]
    exact h.dd
  · obtain ⟨t3, h3, e⟩ := key t2 h2
    rw [show vR (caR r t n) 9 t2 = r (39 + 4 * t3 + 3) from e 3 (by decide)]
    exact h.ii h3
  · rw [caR_lo (by omega) (by omega), h.ss]
    exact sumI_congr 8 (fun i hi => (hh i 3 hi (by decide)).symm)
/-! days ahead -/
theorem mn9_int {x : Int32} : (mn9 x).toInt = if 99 < x.toInt then 99 else x.toInt := by
  have e : (nI 99).toInt = 99 := rfl
  unfold mn9
  by_cases g : nI 99 < x
  · rw [if_pos g]
    rw [i32_lt, e] at g
    rw [if_pos g, e]
  · rw [if_neg g]
    rw [i32_lt, e] at g
    rw [if_neg g]
theorem aft_int (h : Inv K r n) {i k : Nat} (hi : i < 8) (hk : k ≤ 60) : (hAft (vR r) 1 i (nI k)).toInt = if 99 < (r (7 + 4 * i)).toInt + (r (7 + 4 * i + 1)).toInt * k then 99 else (r (7 + 4 * i)).toInt + (r (7 + 4 * i + 1)).toInt * k := by
  have a := h.hh hi
  have b := h.gg hi
  have e9 : (nI 99).toInt = 99 := rfl
  have ek : (nI k).toInt = k := nI_toInt (by omega)
  have hp : 0 ≤ (r (7 + 4 * i + 1)).toInt * (k : Int) := Int.mul_nonneg b.1 (by omega)
  have hq : (r (7 + 4 * i + 1)).toInt * (k : Int) ≤ 5 * 60 := Int.mul_le_mul b.2 (by omega) (by omega) (by decide)
  have em : (r (7 + 4 * i + 1) * nI k).toInt = (r (7 + 4 * i + 1)).toInt * k := by
    rw [i32_mul (by rw [ek]; omega) (by rw [ek]; omega), ek]
  have es : (r (7 + 4 * i) + r (7 + 4 * i + 1) * nI k).toInt = (r (7 + 4 * i)).toInt + (r (7 + 4 * i + 1)).toInt * k := by
    rw [i32_add (by rw [em]; omega) (by rw [em]; omega), em]
  show (if r (7 + 4 * i) + r (7 + 4 * i + 1) * nI k < nI 99 then r (7 + 4 * i) + r (7 + 4 * i + 1) * nI k else nI 99).toInt = _
  by_cases g : r (7 + 4 * i) + r (7 + 4 * i + 1) * nI k < nI 99
  · rw [if_pos g, es]
    rw [i32_lt, es, e9] at g
    rw [if_neg (by omega)]
  · rw [if_neg g, e9]
    rw [i32_lt, es, e9] at g
    by_cases g2 : 99 < (r (7 + 4 * i)).toInt + (r (7 + 4 * i + 1)).toInt * k
    · rw [if_pos g2]
    · rw [if_neg g2]
      omega
theorem dyK_q (r : Nat → Int32) {q : Nat} (h : 3 ≤ q ∧ q ≤ 9) : ∀ k, vR (dyK r k) q = vR r q
  | 0 => rfl
  | k + 1 => by
    show vR (dyR (dyK r k)) q = vR r q
    rw [dyR_q _ h, dyK_q r h k]
theorem dyK_2 (h : Inv K r n) {i : Nat} (hi : i < 8) : ∀ k : Nat, k ≤ 60 → (vR (dyK r k) 2 i).toInt = if 99 < (r (7 + 4 * i)).toInt + (r (7 + 4 * i + 1)).toInt * k then 99 else (r (7 + 4 * i)).toInt + (r (7 + 4 * i + 1)).toInt * k
  | 0, _ => by
    have a := h.hh hi
    show (r (7 + 4 * i)).toInt = if 99 < (r (7 + 4 * i)).toInt + (r (7 + 4 * i + 1)).toInt * ((0 : Nat) : Int) then 99 else (r (7 + 4 * i)).toInt + (r (7 + 4 * i + 1)).toInt * ((0 : Nat) : Int)
    rw [show ((0 : Nat) : Int) = 0 from rfl, Int.mul_zero, Int.add_zero, if_neg (by omega)]
  | k + 1, hk => by
    have ih := dyK_2 h hi k (by omega)
    have a := h.hh hi
    have b := h.gg hi
    have e3 : (vR (dyK r k) 3 i).toInt = (r (7 + 4 * i + 1)).toInt := by rw [congrFun (dyK_q r (q := 3) (by decide) k) i]; rfl
    have hp : 0 ≤ (r (7 + 4 * i + 1)).toInt * (k : Int) := Int.mul_nonneg b.1 (by omega)
    have ec : (r (7 + 4 * i + 1)).toInt * ((k + 1 : Nat) : Int) = (r (7 + 4 * i + 1)).toInt * (k : Int) + (r (7 + 4 * i + 1)).toInt := by
      rw [Int.natCast_add, Int.mul_add]
      rw [show ((1 : Nat) : Int) = 1 from rfl, Int.mul_one]
    have hlim : (vR (dyK r k) 2 i).toInt ≤ 99 ∧ 0 ≤ (vR (dyK r k) 2 i).toInt := by
      rw [ih]
      split <;> omega
    show (vR (dyR (dyK r k)) 2 i).toInt = _
    rw [dyR_2 _ hi, mn9_int, i32_add (by omega) (by omega), e3, ih, ec]
    split <;> split <;> (try split) <;> omega
theorem dyK_h (h : Inv K r n) {i k : Nat} (hi : i < 8) (hk : k ≤ 60) : vR (dyK r k) 2 i = hAft (vR r) 1 i (nI k) := i32_eq.mpr ((dyK_2 h hi k hk).trans (aft_int h hi hk).symm)
theorem dyK_0 (r : Nat → Int32) : ∀ k, dyK r k 0 = r 0 + nI k
  | 0 => (Int32.add_zero (r 0)).symm
  | k + 1 => by
    show dyK r k 0 + nI 1 = _
    rw [dyK_0 r k, Int32.add_assoc, nI_add]
theorem bk_dy (h : Inv K r n) {t k : Nat} (ht : t < n) (hk : k ≤ 60) : bkV (vR (dyK r k)) t ↔ sBrk (vR r) 1 t (nI k) := by
  have a := h.1.1.2.2 t ht
  have e5 : sF (vR (dyK r k)) 1 t = sF (vR r) 1 t := by
    unfold sF
    rw [congrFun (dyK_q r (q := 1 + 5) (by decide) k) t]
  have e6 : sO (vR (dyK r k)) 1 t = sO (vR r) 1 t := by
    unfold sO
    rw [congrFun (dyK_q r (q := 1 + 6) (by decide) k) t]
  have es : slk (vR (dyK r k)) t = slackA (vR r) 1 t (nI k) := by
    unfold slk slackA
    rw [e5, e6, dyK_h h a.1.2 hk, dyK_h h a.2.2 hk, congrFun (dyK_q r (q := 8) (by decide) k) t, Int32.add_comm (vR r 8 t)]
  have ef : sForce (vR (dyK r k)) 1 t ↔ vR r (1 + 8) t ≤ vR r 1 9 + nI k := by
    unfold sForce
    rw [congrFun (dyK_q r (q := 1 + 8) (by decide) k) t, show vR (dyK r k) 1 9 = r 0 + nI k from dyK_0 r k]
    exact Iff.rfl
  unfold bkV sBrk
  rw [es, ef]
theorem bk_0 (h : Inv K r n) {t : Nat} (ht : t < n) : bkV (vR r) t ↔ sBrk (vR r) 1 t (nI 0) := bk_dy (k := 0) h ht (by decide)
/-! freezing, thawing -/
def fzR (r : Nat → Int32) (t : Nat) (y : Int32) : Nat → Int32 := up1 (up1 r 1 (r 1 + bI (bkV (vR r) t))) (39 + 4 * t + 3) (r 0 + y)
theorem fz_75 (m : zM) (t : Nat) (y : Int32) : mfM m t y 75 = fzR (m 75) t y := by
  unfold mfM
  rw [up2_75, up2_75]
  rfl
theorem EqS.fz {u : zM} (h : EqS n u (vR r)) (hI : Inv K r n) {t : Nat} (ht : t < n) (y : Int32) : EqS n (frM u t y) (vR (fzR r t y)) ∧ frR u t = r 1 + bI (bkV (vR r) t) := by
  have e9 : u 1 9 = r 0 := h.day
  have e10 : u 1 10 = r 1 := h.1 10 (by decide) (by decide)
  have hb : sBrk u 1 t (nI 0) ↔ bkV (vR r) t := (h.brk (h.sym.ok hI.1.1) ht (nI 0)).trans (bk_0 hI ht).symm
  unfold frM frR fzR
  by_cases g : bkV (vR r) t
  · rw [if_pos (hb.mpr g), if_pos (hb.mpr g), bI_t g, e9, e10]
    exact ⟨(h.un (c := 1) (by decide) (r 1 + nI 1)).ut (c := 3) (by decide) (r 0 + y), rfl⟩
  · rw [if_neg (fun z => g (hb.mp z)), if_neg (fun z => g (hb.mp z)), bI_f g, e9, e10]
    have e : r 1 + nI 0 = r 1 := Int32.add_zero _
    rw [e, up1_self]
    exact ⟨h.ut (c := 3) (by decide) (r 0 + y), rfl⟩
theorem Inv.fz (h : Inv K r n) (hK : K ≤ 100000) {t : Nat} {y : Int32} (hy : 0 ≤ y.toInt ∧ y.toInt ≤ 30) : Inv K (fzR r t y) n := by
  have d := h.dd
  refine (h.up (k := 1) _ (by omega)).ice ?_
  rw [i32_add (by omega) (by omega)]
  omega
theorem lef_0 (h : Inv K r n) (hK : K ≤ 100000) {t : Nat} (ht : t < n) : lef r t ≤ 0 ↔ sForce (vR r) 1 t := by
  have d := h.dd
  have i := h.ii ht
  have e0 : (0 : Int32).toInt = 0 := rfl
  unfold lef
  rw [i32_le, i32_sub (by omega) (by omega), e0]
  show _ ↔ r (39 + 4 * t + 3) ≤ r 0
  rw [i32_le]
  omega
def twR (r : Nat → Int32) (t : Nat) : Nat → Int32 := if lef r t ≤ 0 then rfR r else if r 1 < lef r t then rfR r else up1 (up1 r (39 + 4 * t + 3) (r 0)) 1 (r 1 - lef r t)
theorem tw_75 (m : zM) (t : Nat) : mtM m t 75 = twR (m 75) t := by
  unfold mtM twR
  split
  · exact rf_75 m
  · split
    · exact rf_75 m
    · rw [up2_75, up2_75]
theorem EqS.tw {u : zM} (h : EqS n u (vR r)) (hI : Inv K r n) (hK : K ≤ 100000) {t : Nat} (ht : t < n) : EqS n (thM u t) (vR (twR r t)) ∧ thR u t = mtR r t := by
  have e9 : u 1 9 = r 0 := h.day
  have e10 : u 1 10 = r 1 := h.1 10 (by decide) (by decide)
  have e8 : u 9 t = r (39 + 4 * t + 3) := h.e8 ht
  have ep : u 9 t - u 1 9 = lef r t := by rw [e8, e9]; rfl
  have hf := (h.force ht).trans (lef_0 hI hK ht).symm
  unfold thM thR twR mtR
  rw [ep, e10]
  by_cases g : lef r t ≤ 0
  · rw [if_pos (hf.mpr g), if_pos (hf.mpr g), if_pos g, if_pos g]
    exact ⟨h.ref, rfl⟩
  · rw [if_neg (fun z => g (hf.mp z)), if_neg (fun z => g (hf.mp z)), if_neg g, if_neg g]
    by_cases g2 : r 1 < lef r t
    · rw [if_pos g2, if_pos g2, if_pos g2]
      exact ⟨h.ref, rfl⟩
    · rw [if_neg g2, if_neg g2, if_neg g2]
      refine ⟨?_, rfl⟩
      rw [e9, up2_comm _ _ _ (by omega)]
      exact (h.ut (c := 3) (by decide) (r 0)).un (c := 1) (by decide) (r 1 - lef r t)
theorem Inv.tw (h : Inv K r n) {t : Nat} : Inv K (twR r t) n := by
  have d := h.dd
  unfold twR
  split
  · exact h.ref
  · split
    · exact h.ref
    · exact (h.ice (by omega)).up _ (by omega)
end
/-! answers that are one -/
theorem stp.one {u v : zM} {n : Nat} {f o d x1 x2 : Int32} (h : EqS n u v) (h1 : stp u n f o d x1) (h2 : stp v n f o d x2) : x1 = x2 := by
  rcases h1 with ⟨a1, rfl⟩ | ⟨a1, f1, o1, y, rr, rfl, rfl, hf, ho, hT, hY, hR, hv⟩
  · rcases h2 with ⟨b1, rfl⟩ | ⟨b1, -⟩
    · rfl
    · exact absurd b1 a1
  · rcases h2 with ⟨b1, -⟩ | ⟨b1, f2, o2, y2, rr2, e1, e2, hf2, ho2, hT2, hY2, hR2, hv2⟩
    · exact absurd a1 b1
    · have ef : f1 = f2 := (nI_eq (by omega) (by omega)).mp e1
      have eo : o1 = o2 := (nI_eq (by omega) (by omega)).mp e2
      subst ef
      subst eo
      have ey : y = y2 := (h.topB hT).one hT2
      subst ey
      have er : rr = rr2 := rsn.one (h.fea f1 o1 d) Iff.rfl hR hR2
      subst er
      rcases hv with ⟨c1, rfl⟩ | ⟨c1, rfl⟩ <;> rcases hv2 with ⟨d1, rfl⟩ | ⟨d1, rfl⟩ <;> first | rfl | exact absurd d1 c1 | exact absurd c1 d1
