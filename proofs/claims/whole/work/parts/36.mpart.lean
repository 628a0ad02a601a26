/-! the model: a part of a text -/
def pF1 (x : Nat → Int32) (s : Nat) : Bool := true && decide (¬ x s - nI 48 < nI 0 ∧ ¬ nI 7 < x s - nI 48)
def pS1 (x : Nat → Int32) (s : Nat) : Nat := nx (pF1 x s) s
def pF2 (x : Nat → Int32) (s : Nat) : Bool := pF1 x s && decide (x (pS1 x s) = nI 60)
def pS2 (x : Nat → Int32) (s : Nat) : Nat := nx (pF2 x s) (pS1 x s)
def pF3 (x : Nat → Int32) (s : Nat) : Bool := pF2 x s && decide (¬ x (pS2 x s) - nI 48 < nI 0 ∧ ¬ nI 7 < x (pS2 x s) - nI 48)
def pS3 (x : Nat → Int32) (s : Nat) : Nat := nx (pF3 x s) (pS2 x s)
def nF (x : Nat → Int32) (t : Nat) : Bool := true && decide (¬ x t - nI 48 < nI 1 ∧ ¬ nI 9 < x t - nI 48)
def n2 (x : Nat → Int32) (t : Nat) : Int32 := nI 10 * (x t - nI 48) + x (nx (nF x t) t) - nI 48
def nT (x : Nat → Int32) (t : Nat) (b : Int32) : Bool := nF x t && decide (¬ x (nx (nF x t) t) < nI 48 ∧ ¬ nI 57 < x (nx (nF x t) t)) && decide (¬ b < n2 x t)
def Cb (x : Nat → Int32) : Prop := ∀ j, 0 ≤ (x j).toInt ∧ (x j).toInt ≤ 126
theorem c48 {x : Int32} (h : 0 ≤ x.toInt ∧ x.toInt ≤ 126) : (x - nI 48).toInt = x.toInt - 48 := by
  have e : (nI 48).toInt = 48 := rfl
  rw [i32_sub (by omega) (by omega), e]
theorem d7 {x : Int32} (h : 0 ≤ x.toInt ∧ x.toInt ≤ 126) (k : Nat) (hk : k ≤ 9) : (¬ x - nI 48 < nI 0 ∧ ¬ nI k < x - nI 48) ↔ dgt x (nI k) := by
  have e := c48 h
  have e0 : (nI 0).toInt = 0 := rfl
  have e48 : (nI 48).toInt = 48 := rfl
  unfold dgt
  simp only [i32_lt]
  omega
theorem d9 {x : Int32} (h : 0 ≤ x.toInt ∧ x.toInt ≤ 126) : (¬ x - nI 48 < nI 1 ∧ ¬ nI 9 < x - nI 48) ↔ (¬ x = nI 48 ∧ dgt x (nI 9)) := by
  have e := c48 h
  have e1 : (nI 1).toInt = 1 := rfl
  have e9 : (nI 9).toInt = 9 := rfl
  have e48 : (nI 48).toInt = 48 := rfl
  unfold dgt
  rw [i32_eq]
  simp only [i32_lt]
  omega
theorem d57 {x : Int32} (h : 0 ≤ x.toInt ∧ x.toInt ≤ 126) : (¬ x < nI 48 ∧ ¬ nI 57 < x) ↔ dgt x (nI 9) := by
  have e := c48 h
  have e9 : (nI 9).toInt = 9 := rfl
  have e57 : (nI 57).toInt = 57 := rfl
  have e48 : (nI 48).toInt = 48 := rfl
  unfold dgt
  simp only [i32_lt]
  omega
theorem nx_t {b : Bool} {s : Nat} (h : b = true) : nx b s = s + 1 := if_pos h
theorem nx_f {b : Bool} {s : Nat} (h : b = false) : nx b s = s := if_neg (by rw [h]; decide)
theorem pF1_q {x : Nat → Int32} (hC : Cb x) (s : Nat) : pF1 x s = decide (q1 x s) := by
  unfold pF1
  rw [Bool.true_and]
  exact decide_eq_decide.mpr (d7 (hC s) 7 (by decide))
theorem tp3 {x : Nat → Int32} (hC : Cb x) (s : Nat) : (pF3 x s = true → q1 x s ∧ q2 x s ∧ q3 x s ∧ pS3 x s = s + 3 ∧ pS2 x s = s + 2) ∧ (pF3 x s = false → ¬ pOk x s ∧ pEn x s = pS3 x s) := by
  by_cases h1 : q1 x s
  · have f1 : pF1 x s = true := by rw [pF1_q hC, decide_eq_true h1]
    have s1 : pS1 x s = s + 1 := nx_t f1
    have f2 : pF2 x s = decide (q2 x s) := by
      unfold pF2
      rw [f1, s1, Bool.true_and]
    by_cases h2 : q2 x s
    · have g2 : pF2 x s = true := by rw [f2, decide_eq_true h2]
      have s2 : pS2 x s = s + 2 := by
        unfold pS2
        rw [nx_t g2, s1]
      have f3 : pF3 x s = decide (q3 x s) := by
        unfold pF3
        rw [g2, s2, Bool.true_and]
        exact decide_eq_decide.mpr (d7 (hC _) 7 (by decide))
      by_cases h3 : q3 x s
      · have g3 : pF3 x s = true := by rw [f3, decide_eq_true h3]
        refine ⟨fun _ => ⟨h1, h2, h3, ?_, s2⟩, fun z => absurd (g3.symm.trans z) (by decide)⟩
        unfold pS3
        rw [nx_t g3, s2]
      · have g3 : pF3 x s = false := by rw [f3, decide_eq_false h3]
        refine ⟨fun z => absurd (g3.symm.trans z) (by decide), fun _ => ⟨fun z => h3 z.2.2.1, ?_⟩⟩
        unfold pS3
        rw [nx_f g3, s2, pEn_3 h1 h2 h3]
    · have g2 : pF2 x s = false := by rw [f2, decide_eq_false h2]
      have s2 : pS2 x s = s + 1 := by
        unfold pS2
        rw [nx_f g2, s1]
      have g3 : pF3 x s = false := by
        unfold pF3
        rw [g2, Bool.false_and]
      refine ⟨fun z => absurd (g3.symm.trans z) (by decide), fun _ => ⟨fun z => h2 z.2.1, ?_⟩⟩
      unfold pS3
      rw [nx_f g3, s2, pEn_2 h1 h2]
  · have f1 : pF1 x s = false := by rw [pF1_q hC, decide_eq_false h1]
    have s1 : pS1 x s = s := nx_f f1
    have g2 : pF2 x s = false := by
      unfold pF2
      rw [f1, Bool.false_and]
    have s2 : pS2 x s = s := by
      unfold pS2
      rw [nx_f g2, s1]
    have g3 : pF3 x s = false := by
      unfold pF3
      rw [g2, Bool.false_and]
    refine ⟨fun z => absurd (g3.symm.trans z) (by decide), fun _ => ⟨fun z => h1 z.1, ?_⟩⟩
    unfold pS3
    rw [nx_f g3, s2, pEn_1 h1]
theorem i32_mc (a b : Int32) : a * b = b * a := Int32.mul_comm a b
theorem numE {x : Nat → Int32} (hC : Cb x) {s : Nat} (h1 : q1 x s) (h2 : q2 x s) (h3 : q3 x s) (h4 : q4 x s) : (nF x (s + 4) = true ↔ pOk x s) ∧ nx (nT x (s + 4) (mst x s)) (nx (nF x (s + 4)) (s + 4)) = pEn x s ∧ (pOk x s → sgn x s * (if nT x (s + 4) (mst x s) = true then n2 x (s + 4) else x (s + 4) - nI 48) = pD x s) := by
  have f : nF x (s + 4) = decide (q5 x s) := by
    unfold nF
    rw [Bool.true_and]
    exact decide_eq_decide.mpr (d9 (hC _))
  by_cases h5 : q5 x s
  · have g : nF x (s + 4) = true := by rw [f, decide_eq_true h5]
    have ok : pOk x s := ⟨h1, h2, h3, fun _ => h5⟩
    have e2 : n2 x (s + 4) = v2 x s := by
      unfold n2 v2 v1
      rw [nx_t g, i32_mc (nI 10)]
    have t : nT x (s + 4) (mst x s) = decide (q6 x s) := by
      unfold nT
      rw [e2, nx_t g, g, Bool.true_and, ← Bool.decide_and]
      refine decide_eq_decide.mpr ?_
      unfold q6
      rw [d57 (hC _)]
    refine ⟨⟨fun _ => ok, fun _ => g⟩, ?_, fun _ => ?_⟩
    · rw [nx_t g]
      by_cases h6 : q6 x s
      · rw [nx_t (by rw [t, decide_eq_true h6]), pEn_6 h1 h2 h3 h4 h5 h6]
      · rw [nx_f (by rw [t, decide_eq_false h6]), pEn_7 h1 h2 h3 h4 h5 h6]
    · unfold pD
      rw [if_pos h4, e2]
      by_cases h6 : q6 x s
      · rw [if_pos h6, if_pos (by rw [t, decide_eq_true h6])]
      · rw [if_neg h6, if_neg (by rw [t, decide_eq_false h6]; decide)]
        rfl
  · have g : nF x (s + 4) = false := by rw [f, decide_eq_false h5]
    have t : nT x (s + 4) (mst x s) = false := by
      unfold nT
      rw [g, Bool.false_and, Bool.false_and]
    have no : ¬ pOk x s := fun z => h5 (z.2.2.2 h4)
    refine ⟨⟨fun z => absurd (g.symm.trans z) (by decide), fun z => absurd z no⟩, ?_, fun z => absurd z no⟩
    rw [nx_f t, nx_f g, pEn_5 h1 h2 h3 h4 h5]
theorem i32_1 (a : Int32) : nI 1 * a = a := Int32.one_mul a
theorem i32_n1 (a : Int32) : (-1 : Int32) * a = - a := by
  rw [Int32.neg_mul, Int32.one_mul]
theorem pEn_le {x c : Nat → Int32} {L s : Nat} (hx9 : x = hx c L) (h : pOk x s) : pEn x s ≤ L := by
  have key : ∀ j, ¬ x j = 0 → j < L := fun j hj => by
    rcases Nat.lt_or_ge j L with g | g
    · exact g
    · rw [hx9, hx_hi g] at hj
      exact absurd rfl hj
  have dg : ∀ j y, dgt (x j) y → j < L := fun j y hd => key j (fun z => by
    rw [z] at hd
    exact nd0 y hd)
  obtain ⟨h1, h2, h3, h4⟩ := h
  by_cases g4 : q4 x s
  · have h5 := h4 g4
    by_cases g6 : q6 x s
    · rw [pEn_6 h1 h2 h3 g4 h5 g6]
      exact dg _ _ g6.1
    · rw [pEn_7 h1 h2 h3 g4 h5 g6]
      exact dg _ _ h5.2
  · rw [pEn_4 h1 h2 h3 g4]
    exact dg _ _ h3
theorem pEn_in (x : Nat → Int32) (s : Nat) : s ≤ pEn x s ∧ pEn x s ≤ s + 6 := by
  unfold pEn
  repeat' split
  all_goals omega
set_option maxRecDepth 100000 in
set_option maxHeartbeats 4000000 in
theorem zX4_takesPart {G : zG} {l : Launch} {h : Nat → Nat} {m : zM} (x : Nat → Int32) (L s : Nat) (hR : Rd m x L s true) (hs : s < 800) (hC : Cb x) : zMet G l yX4_takesPart mX4_takesPart [.ref (G.1 + 74)] (zw h m) (fun r w => ∃ m' B, w = zw h m' ∧ r = none ∧ FtB m m' ∧ Rd m' x L (pEn x s) B ∧ (B = true ↔ pOk x s) ∧ (pOk x s → m' 74 12 = x s - nI 48 ∧ m' 74 13 = x (s + 2) - nI 48 ∧ m' 74 14 = pD x s)) 0 0 := by
  refine zMet_of [(0, .ref (G.1 + 74))] (by decide +kernel) rfl (Or.inl rfl) (Nat.le_of_ble_eq_true rfl) rfl ?_
  refine Z_aload_n 1 0 dX4_takesPart_0 rfl rfl ?_
  refine Z_aload_n 2 0 dX4_takesPart_1 rfl rfl ?_
  refine Z_iconst 3 (nI 0) dX4_takesPart_2 rfl rfl ?_
  refine Z_bipush 5 (nI 7) dX4_takesPart_3 rfl rfl ?_
  refine Z_callV 8 [_, _] 4 (zX4_takesDigit x L s true hR (by omega) (nI 0) (nI 7)) dX4_takesPart_5 rfl qX4_152 kX4_takesDigit rfl rfl (Nat.le_of_ble_eq_true rfl) rfl rfl ⟨(Nat.le_of_ble_eq_true rfl), (Nat.le_of_ble_eq_true rfl)⟩ (Nat.le_of_ble_eq_true rfl) ⟨rfl, rfl⟩ ⟨(Nat.le_of_ble_eq_true rfl), (Nat.le_of_ble_eq_true rfl)⟩ (fun r9 w9 hp9 => ?_)
  obtain ⟨m1, rfl, rfl, hA1, hR1⟩ := hp9
  have hR1 : Rd m1 x L (pS1 x s) (pF1 x s) := hR1
  have b1 : pS1 x s < 801 := nx_lt hs
  refine Z_putI 11 .int dX4_takesPart_8 rfl fX4_155 ft_4_12 (Nat.le_of_ble_eq_true rfl) rfl rfl rfl rfl ?_
  have hR11 : Rd (up2 m1 74 12 (x s - nI 48)) x L (pS1 x s) (pF1 x s) := hR1.up (Or.inl rfl)
  refine Z_aload_n 12 0 dX4_takesPart_11 rfl rfl ?_
  refine Z_aload_n 13 0 dX4_takesPart_12 rfl rfl ?_
  refine Z_callV 16 [] 4 (zX4_here (m := (up2 m1 74 12 (x s - nI 48))) x L _ _ hR11 (by omega)) dX4_takesPart_13 rfl qX4_145 kX4_here rfl rfl (Nat.le_of_ble_eq_true rfl) rfl rfl ⟨(Nat.le_of_ble_eq_true rfl), (Nat.le_of_ble_eq_true rfl)⟩ (Nat.le_of_ble_eq_true rfl) ⟨rfl, rfl⟩ ⟨(Nat.le_of_ble_eq_true rfl), (Nat.le_of_ble_eq_true rfl)⟩ (fun r9 w9 hp9 => ?_)
  obtain ⟨rfl, rfl⟩ := hp9
  refine Z_bipush 18 (nI 60) dX4_takesPart_16 rfl rfl ?_
  refine Z_icmp_ne 21 25 dX4_takesPart_18 rfl rfl (fun c18 => ?_) (fun c18 => ?_)
  · skip
    refine Z_iconst 26 (nI 0) dX4_takesPart_25 rfl rfl ?_
    refine Z_callV 29 [_] 4 (zX4_takes (m := (up2 m1 74 12 (x s - nI 48))) x L _ _ hR11 (by omega) _ (decide (x (pS1 x s) = nI 60)) (by first | exact (bI_f c18).symm.trans bI_bB | exact (bI_t (Decidable.not_not.mp c18)).symm.trans bI_bB)) dX4_takesPart_26 rfl qX4_148 kX4_takes rfl rfl (Nat.le_of_ble_eq_true rfl) rfl rfl ⟨(Nat.le_of_ble_eq_true rfl), (Nat.le_of_ble_eq_true rfl)⟩ (Nat.le_of_ble_eq_true rfl) ⟨rfl, rfl⟩ ⟨(Nat.le_of_ble_eq_true rfl), (Nat.le_of_ble_eq_true rfl)⟩ (fun r9 w9 hp9 => ?_)
    obtain ⟨m2, rfl, hr8, hA2, hR2⟩ := hp9
    cases hr8
    have hR2 : Rd m2 x L (pS2 x s) (pF2 x s) := hR2
    have b2 : pS2 x s < 802 := nx_lt b1
    refine Z_aload_n 30 0 dX4_takesPart_29 rfl rfl ?_
    refine Z_aload_n 31 0 dX4_takesPart_30 rfl rfl ?_
    refine Z_iconst 32 (nI 0) dX4_takesPart_31 rfl rfl ?_
    refine Z_bipush 34 (nI 7) dX4_takesPart_32 rfl rfl ?_
    refine Z_callV 37 [_, _] 4 (zX4_takesDigit (m := m2) x L _ _ hR2 (by omega) (nI 0) (nI 7)) dX4_takesPart_34 rfl qX4_152 kX4_takesDigit rfl rfl (Nat.le_of_ble_eq_true rfl) rfl rfl ⟨(Nat.le_of_ble_eq_true rfl), (Nat.le_of_ble_eq_true rfl)⟩ (Nat.le_of_ble_eq_true rfl) ⟨rfl, rfl⟩ ⟨(Nat.le_of_ble_eq_true rfl), (Nat.le_of_ble_eq_true rfl)⟩ (fun r9 w9 hp9 => ?_)
    obtain ⟨m3, rfl, rfl, hA3, hR3⟩ := hp9
    have hR3 : Rd m3 x L (pS3 x s) (pF3 x s) := hR3
    have b3 : pS3 x s < 803 := nx_lt b2
    refine Z_putI 40 .int dX4_takesPart_37 rfl fX4_158 ft_4_13 (Nat.le_of_ble_eq_true rfl) rfl rfl rfl rfl ?_
    refine Z_aload_n 41 0 dX4_takesPart_40 rfl rfl ?_
    refine Z_iconst 42 (nI 0) dX4_takesPart_41 rfl rfl ?_
    refine Z_putI 45 .int dX4_takesPart_42 rfl fX4_161 ft_4_14 (Nat.le_of_ble_eq_true rfl) rfl rfl rfl rfl ?_
    have hR4 : Rd (up2 (up2 m3 74 13 (x (pS2 x s) - nI 48)) 74 14 (nI 0)) x L (pS3 x s) (pF3 x s) := (hR3.up (Or.inr (Or.inl rfl))).up (Or.inr (Or.inr rfl))
    have hB4 : FtB m (up2 (up2 m3 74 13 (x (pS2 x s) - nI 48)) 74 14 (nI 0)) := ((((hA1.b.up (by decide)).trans hA2.b).trans hA3.b).up (by decide)).up (by decide)
    have e12 : (up2 (up2 m3 74 13 (x (pS2 x s) - nI 48)) 74 14 (nI 0)) 74 12 = x s - nI 48 := by rw [up2_ne _ _ (by decide), up2_ne _ _ (by decide), hA3.2 12 (by decide) (by decide), hA2.2 12 (by decide) (by decide), up2_eq]
    have e13 : (up2 (up2 m3 74 13 (x (pS2 x s) - nI 48)) 74 14 (nI 0)) 74 13 = x (pS2 x s) - nI 48 := by rw [up2_ne _ _ (by decide), up2_eq]
    have h3 := tp3 hC s
    refine Z_aload_n 46 0 dX4_takesPart_45 rfl rfl ?_
    refine Z_callV 49 [] 4 (zX4_here (m := (up2 (up2 m3 74 13 (x (pS2 x s) - nI 48)) 74 14 (nI 0))) x L _ _ hR4 (by omega)) dX4_takesPart_46 rfl qX4_145 kX4_here rfl rfl (Nat.le_of_ble_eq_true rfl) rfl rfl ⟨(Nat.le_of_ble_eq_true rfl), (Nat.le_of_ble_eq_true rfl)⟩ (Nat.le_of_ble_eq_true rfl) ⟨rfl, rfl⟩ ⟨(Nat.le_of_ble_eq_true rfl), (Nat.le_of_ble_eq_true rfl)⟩ (fun r9 w9 hp9 => ?_)
    obtain ⟨rfl, rfl⟩ := hp9
    refine Z_bipush 51 (nI 43) dX4_takesPart_49 rfl rfl ?_
    refine Z_icmp_ne 54 58 dX4_takesPart_51 rfl rfl (fun c51 => ?_) (fun c51 => ?_)
    · skip
      refine Z_iconst 59 (nI 0) dX4_takesPart_58 rfl rfl ?_
      refine Z_istore_n 60 [(1, _), (0, _)] dX4_takesPart_59 rfl (Nat.le_of_ble_eq_true rfl) rfl ?_
      refine Z_aload_n 61 1 dX4_takesPart_60 rfl rfl ?_
      refine Z_getI 64 dX4_takesPart_61 rfl fX4_141 (Nat.le_of_ble_eq_true rfl) rfl rfl ?_
      refine Z_top (congrArg Value.int hR4.2.2.2.2) ?_
      refine Z_if_eq 67 114 dX4_takesPart_64 rfl rfl (fun c64 => ?_) (fun c64 => ?_)
      · skip
        have hf := bB_0 c64
        exact Z_vret dX4_takesPart_114 rfl ⟨_, false, rfl, rfl, hB4, by rw [(h3.2 hf).2]; have z := hR4; rw [hf] at z; exact z, ⟨fun z => absurd z (by decide), fun z => absurd z (h3.2 hf).1⟩, fun z => absurd z (h3.2 hf).1⟩
      · skip
        obtain ⟨hq1, hq2, hq3, hs3, hs22⟩ := h3.1 (bB_1 c64)
        refine Z_iload_n 68 0 dX4_takesPart_67 rfl rfl ?_
        refine Z_if_ne 71 80 dX4_takesPart_68 rfl rfl (fun c68 => ?_) (fun c68 => ?_)
        · skip
          refine Z_aload_n 81 1 dX4_takesPart_80 rfl rfl ?_
          refine Z_dup 82 dX4_takesPart_81 rfl rfl ?_
          refine Z_getI 85 dX4_takesPart_82 rfl fX4_138 (Nat.le_of_ble_eq_true rfl) rfl rfl ?_
          refine Z_top (v' := .int (nI (pS3 x s))) (congrArg Value.int (hR4.2.2.2.1)) ?_
          refine Z_iconst 86 (nI 1) dX4_takesPart_85 rfl rfl ?_
          refine Z_iadd 87 dX4_takesPart_86 rfl ?_
          refine Z_top (v' := .int (nI (pS3 x s + 1))) (congrArg Value.int (nI_1 _)) ?_
          refine Z_putI 90 .int dX4_takesPart_87 rfl fX4_138 ft_4_10 (Nat.le_of_ble_eq_true rfl) rfl rfl rfl rfl ?_
          have hR5 : Rd (up2 (up2 (up2 m3 74 13 (x (pS2 x s) - nI 48)) 74 14 (nI 0)) 74 10 (nI (pS3 x s + 1))) x L (pS3 x s + 1) true := by have z := spR (s' := pS3 x s + 1) hR4 rfl; rw [bB_1 c64] at z; exact z
          have hB5 : FtB m (up2 (up2 (up2 m3 74 13 (x (pS2 x s) - nI 48)) 74 14 (nI 0)) 74 10 (nI (pS3 x s + 1))) := hB4.up (by decide)
          refine Z_aload_n 91 1 dX4_takesPart_90 rfl rfl ?_
          refine Z_iload_n 92 0 dX4_takesPart_91 rfl rfl ?_
          refine Z_if_eq 95 104 dX4_takesPart_92 rfl rfl (fun c92 => ?_) (fun c92 => ?_)
          · skip
            refine Z_aload_n 105 1 dX4_takesPart_104 rfl rfl ?_
            refine Z_bipush 107 (nI 30) dX4_takesPart_105 rfl rfl ?_
            refine Z_callV 110 [_] 4 (zX4_takesNumber (m := (up2 (up2 (up2 m3 74 13 (x (pS2 x s) - nI 48)) 74 14 (nI 0)) 74 10 (nI (pS3 x s + 1)))) x L (pS3 x s + 1) true hR5 (by omega) (nI 30)) dX4_takesPart_107 rfl qX4_164 kX4_takesNumber rfl rfl (Nat.le_of_ble_eq_true rfl) rfl rfl ⟨(Nat.le_of_ble_eq_true rfl), (Nat.le_of_ble_eq_true rfl)⟩ (Nat.le_of_ble_eq_true rfl) ⟨rfl, rfl⟩ ⟨(Nat.le_of_ble_eq_true rfl), (Nat.le_of_ble_eq_true rfl)⟩ (fun r9 w9 hp9 => ?_)
            obtain ⟨m6, rfl, rfl, hA6, hR6⟩ := hp9
            refine Z_ineg 111 dX4_takesPart_110 rfl ?_
            refine Z_putI 114 .int dX4_takesPart_111 rfl fX4_161 ft_4_14 (Nat.le_of_ble_eq_true rfl) rfl rfl rfl rfl ?_
            exact absurd rfl c68
          · skip
            refine Z_aload_n 96 1 dX4_takesPart_95 rfl rfl ?_
            refine Z_bipush 98 (nI 60) dX4_takesPart_96 rfl rfl ?_
            refine Z_callV 101 [_] 4 (zX4_takesNumber (m := (up2 (up2 (up2 m3 74 13 (x (pS2 x s) - nI 48)) 74 14 (nI 0)) 74 10 (nI (pS3 x s + 1)))) x L (pS3 x s + 1) true hR5 (by omega) (nI 60)) dX4_takesPart_98 rfl qX4_164 kX4_takesNumber rfl rfl (Nat.le_of_ble_eq_true rfl) rfl rfl ⟨(Nat.le_of_ble_eq_true rfl), (Nat.le_of_ble_eq_true rfl)⟩ (Nat.le_of_ble_eq_true rfl) ⟨rfl, rfl⟩ ⟨(Nat.le_of_ble_eq_true rfl), (Nat.le_of_ble_eq_true rfl)⟩ (fun r9 w9 hp9 => ?_)
            obtain ⟨m6, rfl, rfl, hA6, hR6⟩ := hp9
            refine Z_goto 111 dX4_takesPart_101 rfl ?_
            refine Z_putI 114 .int dX4_takesPart_111 rfl fX4_161 ft_4_14 (Nat.le_of_ble_eq_true rfl) rfl rfl rfl rfl ?_
            exact absurd rfl c68
        · skip
          refine Z_aload_n 72 1 dX4_takesPart_71 rfl rfl ?_
          refine Z_callV 75 [] 4 (zX4_here (m := (up2 (up2 m3 74 13 (x (pS2 x s) - nI 48)) 74 14 (nI 0))) x L _ _ hR4 (by omega)) dX4_takesPart_72 rfl qX4_145 kX4_here rfl rfl (Nat.le_of_ble_eq_true rfl) rfl rfl ⟨(Nat.le_of_ble_eq_true rfl), (Nat.le_of_ble_eq_true rfl)⟩ (Nat.le_of_ble_eq_true rfl) ⟨rfl, rfl⟩ ⟨(Nat.le_of_ble_eq_true rfl), (Nat.le_of_ble_eq_true rfl)⟩ (fun r9 w9 hp9 => ?_)
          obtain ⟨rfl, rfl⟩ := hp9
          refine Z_bipush 77 (nI 45) dX4_takesPart_75 rfl rfl ?_
          refine Z_icmp_ne 80 114 dX4_takesPart_77 rfl rfl (fun c77 => ?_) (fun c77 => ?_)
          · skip
            have nq4 : ¬ q4 x s := fun z => by
              unfold q4 at z
              rw [← hs3] at z
              exact z.elim c51 c77
            have z := hR4
            rw [bB_1 c64, hs3, ← pEn_4 hq1 hq2 hq3 nq4] at z
            exact Z_vret dX4_takesPart_114 rfl ⟨_, true, rfl, rfl, hB4, z, ⟨fun _ => ⟨hq1, hq2, hq3, fun y => absurd y nq4⟩, fun _ => rfl⟩, fun _ => ⟨e12, by rw [e13, hs22], by unfold pD; rw [if_neg nq4]; exact up2_eq _ _ _ _⟩⟩
          · skip
            refine Z_aload_n 81 1 dX4_takesPart_80 rfl rfl ?_
            refine Z_dup 82 dX4_takesPart_81 rfl rfl ?_
            refine Z_getI 85 dX4_takesPart_82 rfl fX4_138 (Nat.le_of_ble_eq_true rfl) rfl rfl ?_
            refine Z_top (v' := .int (nI (pS3 x s))) (congrArg Value.int (hR4.2.2.2.1)) ?_
            refine Z_iconst 86 (nI 1) dX4_takesPart_85 rfl rfl ?_
            refine Z_iadd 87 dX4_takesPart_86 rfl ?_
            refine Z_top (v' := .int (nI (pS3 x s + 1))) (congrArg Value.int (nI_1 _)) ?_
            refine Z_putI 90 .int dX4_takesPart_87 rfl fX4_138 ft_4_10 (Nat.le_of_ble_eq_true rfl) rfl rfl rfl rfl ?_
            have hR5 : Rd (up2 (up2 (up2 m3 74 13 (x (pS2 x s) - nI 48)) 74 14 (nI 0)) 74 10 (nI (pS3 x s + 1))) x L (pS3 x s + 1) true := by have z := spR (s' := pS3 x s + 1) hR4 rfl; rw [bB_1 c64] at z; exact z
            have hB5 : FtB m (up2 (up2 (up2 m3 74 13 (x (pS2 x s) - nI 48)) 74 14 (nI 0)) 74 10 (nI (pS3 x s + 1))) := hB4.up (by decide)
            refine Z_aload_n 91 1 dX4_takesPart_90 rfl rfl ?_
            refine Z_iload_n 92 0 dX4_takesPart_91 rfl rfl ?_
            refine Z_if_eq 95 104 dX4_takesPart_92 rfl rfl (fun c92 => ?_) (fun c92 => ?_)
            · skip
              refine Z_aload_n 105 1 dX4_takesPart_104 rfl rfl ?_
              refine Z_bipush 107 (nI 30) dX4_takesPart_105 rfl rfl ?_
              refine Z_callV 110 [_] 4 (zX4_takesNumber (m := (up2 (up2 (up2 m3 74 13 (x (pS2 x s) - nI 48)) 74 14 (nI 0)) 74 10 (nI (pS3 x s + 1)))) x L (pS3 x s + 1) true hR5 (by omega) (nI 30)) dX4_takesPart_107 rfl qX4_164 kX4_takesNumber rfl rfl (Nat.le_of_ble_eq_true rfl) rfl rfl ⟨(Nat.le_of_ble_eq_true rfl), (Nat.le_of_ble_eq_true rfl)⟩ (Nat.le_of_ble_eq_true rfl) ⟨rfl, rfl⟩ ⟨(Nat.le_of_ble_eq_true rfl), (Nat.le_of_ble_eq_true rfl)⟩ (fun r9 w9 hp9 => ?_)
              obtain ⟨m6, rfl, rfl, hA6, hR6⟩ := hp9
              refine Z_ineg 111 dX4_takesPart_110 rfl ?_
              refine Z_putI 114 .int dX4_takesPart_111 rfl fX4_161 ft_4_14 (Nat.le_of_ble_eq_true rfl) rfl rfl rfl rfl ?_
              have h43n : ¬ x (s + 3) = nI 43 := by rw [← hs3]; exact c51
              have h43 : x (s + 3) = nI 45 := by rw [← hs3]; exact Decidable.not_not.mp c77
              have hN := numE hC hq1 hq2 hq3 (Or.inr h43)
              have hms : mst x s = nI 30 := if_neg h43n
              have hsg : sgn x s = -1 := if_neg h43n
              have hR7 : Rd m6 x L (nx (nT x (s + 4) (mst x s)) (nx (nF x (s + 4)) (s + 4))) (nF x (s + 4)) := by
                rw [hms]
                rw [hs3] at hR6
                exact hR6
              rw [hN.2.1] at hR7
              have hv := hN.2.2
              rw [hsg, hms] at hv
              exact Z_vret dX4_takesPart_114 rfl ⟨_, nF x (s + 4), rfl, rfl, (hB5.trans hA6.b).up (by decide), hR7.up (Or.inr (Or.inr rfl)), hN.1, fun ok => ⟨by rw [up2_ne _ _ (by decide), hA6.2 12 (by decide) (by decide), up2_ne _ _ (by decide)]; exact e12, by rw [up2_ne _ _ (by decide), hA6.2 13 (by decide) (by decide), up2_ne _ _ (by decide), e13, hs22], by rw [up2_eq, hs3]; exact (i32_n1 _).symm.trans (hv ok)⟩⟩
            · skip
              refine Z_aload_n 96 1 dX4_takesPart_95 rfl rfl ?_
              refine Z_bipush 98 (nI 60) dX4_takesPart_96 rfl rfl ?_
              refine Z_callV 101 [_] 4 (zX4_takesNumber (m := (up2 (up2 (up2 m3 74 13 (x (pS2 x s) - nI 48)) 74 14 (nI 0)) 74 10 (nI (pS3 x s + 1)))) x L (pS3 x s + 1) true hR5 (by omega) (nI 60)) dX4_takesPart_98 rfl qX4_164 kX4_takesNumber rfl rfl (Nat.le_of_ble_eq_true rfl) rfl rfl ⟨(Nat.le_of_ble_eq_true rfl), (Nat.le_of_ble_eq_true rfl)⟩ (Nat.le_of_ble_eq_true rfl) ⟨rfl, rfl⟩ ⟨(Nat.le_of_ble_eq_true rfl), (Nat.le_of_ble_eq_true rfl)⟩ (fun r9 w9 hp9 => ?_)
              obtain ⟨m6, rfl, rfl, hA6, hR6⟩ := hp9
              refine Z_goto 111 dX4_takesPart_101 rfl ?_
              refine Z_putI 114 .int dX4_takesPart_111 rfl fX4_161 ft_4_14 (Nat.le_of_ble_eq_true rfl) rfl rfl rfl rfl ?_
              exact absurd rfl c92
    · skip
      refine Z_iconst 55 (nI 1) dX4_takesPart_54 rfl rfl ?_
      refine Z_goto 59 dX4_takesPart_55 rfl ?_
      refine Z_istore_n 60 [(1, _), (0, _)] dX4_takesPart_59 rfl (Nat.le_of_ble_eq_true rfl) rfl ?_
      refine Z_aload_n 61 1 dX4_takesPart_60 rfl rfl ?_
      refine Z_getI 64 dX4_takesPart_61 rfl fX4_141 (Nat.le_of_ble_eq_true rfl) rfl rfl ?_
      refine Z_top (congrArg Value.int hR4.2.2.2.2) ?_
      refine Z_if_eq 67 114 dX4_takesPart_64 rfl rfl (fun c64 => ?_) (fun c64 => ?_)
      · skip
        have hf := bB_0 c64
        exact Z_vret dX4_takesPart_114 rfl ⟨_, false, rfl, rfl, hB4, by rw [(h3.2 hf).2]; have z := hR4; rw [hf] at z; exact z, ⟨fun z => absurd z (by decide), fun z => absurd z (h3.2 hf).1⟩, fun z => absurd z (h3.2 hf).1⟩
      · skip
        obtain ⟨hq1, hq2, hq3, hs3, hs22⟩ := h3.1 (bB_1 c64)
        refine Z_iload_n 68 0 dX4_takesPart_67 rfl rfl ?_
        refine Z_if_ne 71 80 dX4_takesPart_68 rfl rfl (fun c68 => ?_) (fun c68 => ?_)
        · skip
          refine Z_aload_n 81 1 dX4_takesPart_80 rfl rfl ?_
          refine Z_dup 82 dX4_takesPart_81 rfl rfl ?_
          refine Z_getI 85 dX4_takesPart_82 rfl fX4_138 (Nat.le_of_ble_eq_true rfl) rfl rfl ?_
          refine Z_top (v' := .int (nI (pS3 x s))) (congrArg Value.int (hR4.2.2.2.1)) ?_
          refine Z_iconst 86 (nI 1) dX4_takesPart_85 rfl rfl ?_
          refine Z_iadd 87 dX4_takesPart_86 rfl ?_
          refine Z_top (v' := .int (nI (pS3 x s + 1))) (congrArg Value.int (nI_1 _)) ?_
          refine Z_putI 90 .int dX4_takesPart_87 rfl fX4_138 ft_4_10 (Nat.le_of_ble_eq_true rfl) rfl rfl rfl rfl ?_
          have hR5 : Rd (up2 (up2 (up2 m3 74 13 (x (pS2 x s) - nI 48)) 74 14 (nI 0)) 74 10 (nI (pS3 x s + 1))) x L (pS3 x s + 1) true := by have z := spR (s' := pS3 x s + 1) hR4 rfl; rw [bB_1 c64] at z; exact z
          have hB5 : FtB m (up2 (up2 (up2 m3 74 13 (x (pS2 x s) - nI 48)) 74 14 (nI 0)) 74 10 (nI (pS3 x s + 1))) := hB4.up (by decide)
          refine Z_aload_n 91 1 dX4_takesPart_90 rfl rfl ?_
          refine Z_iload_n 92 0 dX4_takesPart_91 rfl rfl ?_
          refine Z_if_eq 95 104 dX4_takesPart_92 rfl rfl (fun c92 => ?_) (fun c92 => ?_)
          · skip
            refine Z_aload_n 105 1 dX4_takesPart_104 rfl rfl ?_
            refine Z_bipush 107 (nI 30) dX4_takesPart_105 rfl rfl ?_
            refine Z_callV 110 [_] 4 (zX4_takesNumber (m := (up2 (up2 (up2 m3 74 13 (x (pS2 x s) - nI 48)) 74 14 (nI 0)) 74 10 (nI (pS3 x s + 1)))) x L (pS3 x s + 1) true hR5 (by omega) (nI 30)) dX4_takesPart_107 rfl qX4_164 kX4_takesNumber rfl rfl (Nat.le_of_ble_eq_true rfl) rfl rfl ⟨(Nat.le_of_ble_eq_true rfl), (Nat.le_of_ble_eq_true rfl)⟩ (Nat.le_of_ble_eq_true rfl) ⟨rfl, rfl⟩ ⟨(Nat.le_of_ble_eq_true rfl), (Nat.le_of_ble_eq_true rfl)⟩ (fun r9 w9 hp9 => ?_)
            obtain ⟨m6, rfl, rfl, hA6, hR6⟩ := hp9
            refine Z_ineg 111 dX4_takesPart_110 rfl ?_
            refine Z_putI 114 .int dX4_takesPart_111 rfl fX4_161 ft_4_14 (Nat.le_of_ble_eq_true rfl) rfl rfl rfl rfl ?_
            exact absurd c92 (by decide)
          · skip
            refine Z_aload_n 96 1 dX4_takesPart_95 rfl rfl ?_
            refine Z_bipush 98 (nI 60) dX4_takesPart_96 rfl rfl ?_
            refine Z_callV 101 [_] 4 (zX4_takesNumber (m := (up2 (up2 (up2 m3 74 13 (x (pS2 x s) - nI 48)) 74 14 (nI 0)) 74 10 (nI (pS3 x s + 1)))) x L (pS3 x s + 1) true hR5 (by omega) (nI 60)) dX4_takesPart_98 rfl qX4_164 kX4_takesNumber rfl rfl (Nat.le_of_ble_eq_true rfl) rfl rfl ⟨(Nat.le_of_ble_eq_true rfl), (Nat.le_of_ble_eq_true rfl)⟩ (Nat.le_of_ble_eq_true rfl) ⟨rfl, rfl⟩ ⟨(Nat.le_of_ble_eq_true rfl), (Nat.le_of_ble_eq_true rfl)⟩ (fun r9 w9 hp9 => ?_)
            obtain ⟨m6, rfl, rfl, hA6, hR6⟩ := hp9
            refine Z_goto 111 dX4_takesPart_101 rfl ?_
            refine Z_putI 114 .int dX4_takesPart_111 rfl fX4_161 ft_4_14 (Nat.le_of_ble_eq_true rfl) rfl rfl rfl rfl ?_
            have h43 : x (s + 3) = nI 43 := by rw [← hs3]; exact Decidable.not_not.mp c51
            have hN := numE hC hq1 hq2 hq3 (Or.inl h43)
            have hms : mst x s = nI 60 := if_pos h43
            have hsg : sgn x s = nI 1 := if_pos h43
            have hR7 : Rd m6 x L (nx (nT x (s + 4) (mst x s)) (nx (nF x (s + 4)) (s + 4))) (nF x (s + 4)) := by
              rw [hms]
              rw [hs3] at hR6
              exact hR6
            rw [hN.2.1] at hR7
            have hv := hN.2.2
            rw [hsg, hms] at hv
            exact Z_vret dX4_takesPart_114 rfl ⟨_, nF x (s + 4), rfl, rfl, (hB5.trans hA6.b).up (by decide), hR7.up (Or.inr (Or.inr rfl)), hN.1, fun ok => ⟨by rw [up2_ne _ _ (by decide), hA6.2 12 (by decide) (by decide), up2_ne _ _ (by decide)]; exact e12, by rw [up2_ne _ _ (by decide), hA6.2 13 (by decide) (by decide), up2_ne _ _ (by decide), e13, hs22], by rw [up2_eq, hs3]; exact (i32_1 _).symm.trans (hv ok)⟩⟩
        · skip
          refine Z_aload_n 72 1 dX4_takesPart_71 rfl rfl ?_
          refine Z_callV 75 [] 4 (zX4_here (m := (up2 (up2 m3 74 13 (x (pS2 x s) - nI 48)) 74 14 (nI 0))) x L _ _ hR4 (by omega)) dX4_takesPart_72 rfl qX4_145 kX4_here rfl rfl (Nat.le_of_ble_eq_true rfl) rfl rfl ⟨(Nat.le_of_ble_eq_true rfl), (Nat.le_of_ble_eq_true rfl)⟩ (Nat.le_of_ble_eq_true rfl) ⟨rfl, rfl⟩ ⟨(Nat.le_of_ble_eq_true rfl), (Nat.le_of_ble_eq_true rfl)⟩ (fun r9 w9 hp9 => ?_)
          obtain ⟨rfl, rfl⟩ := hp9
          refine Z_bipush 77 (nI 45) dX4_takesPart_75 rfl rfl ?_
          refine Z_icmp_ne 80 114 dX4_takesPart_77 rfl rfl (fun c77 => ?_) (fun c77 => ?_)
          · skip
            exact absurd (show ¬ nI 1 = 0 by decide) c68
          · skip
            refine Z_aload_n 81 1 dX4_takesPart_80 rfl rfl ?_
            refine Z_dup 82 dX4_takesPart_81 rfl rfl ?_
            refine Z_getI 85 dX4_takesPart_82 rfl fX4_138 (Nat.le_of_ble_eq_true rfl) rfl rfl ?_
            refine Z_top (v' := .int (nI (pS3 x s))) (congrArg Value.int (hR4.2.2.2.1)) ?_
            refine Z_iconst 86 (nI 1) dX4_takesPart_85 rfl rfl ?_
            refine Z_iadd 87 dX4_takesPart_86 rfl ?_
            refine Z_top (v' := .int (nI (pS3 x s + 1))) (congrArg Value.int (nI_1 _)) ?_
            refine Z_putI 90 .int dX4_takesPart_87 rfl fX4_138 ft_4_10 (Nat.le_of_ble_eq_true rfl) rfl rfl rfl rfl ?_
            have hR5 : Rd (up2 (up2 (up2 m3 74 13 (x (pS2 x s) - nI 48)) 74 14 (nI 0)) 74 10 (nI (pS3 x s + 1))) x L (pS3 x s + 1) true := by have z := spR (s' := pS3 x s + 1) hR4 rfl; rw [bB_1 c64] at z; exact z
            have hB5 : FtB m (up2 (up2 (up2 m3 74 13 (x (pS2 x s) - nI 48)) 74 14 (nI 0)) 74 10 (nI (pS3 x s + 1))) := hB4.up (by decide)
            refine Z_aload_n 91 1 dX4_takesPart_90 rfl rfl ?_
            refine Z_iload_n 92 0 dX4_takesPart_91 rfl rfl ?_
            refine Z_if_eq 95 104 dX4_takesPart_92 rfl rfl (fun c92 => ?_) (fun c92 => ?_)
            · skip
              refine Z_aload_n 105 1 dX4_takesPart_104 rfl rfl ?_
              refine Z_bipush 107 (nI 30) dX4_takesPart_105 rfl rfl ?_
              refine Z_callV 110 [_] 4 (zX4_takesNumber (m := (up2 (up2 (up2 m3 74 13 (x (pS2 x s) - nI 48)) 74 14 (nI 0)) 74 10 (nI (pS3 x s + 1)))) x L (pS3 x s + 1) true hR5 (by omega) (nI 30)) dX4_takesPart_107 rfl qX4_164 kX4_takesNumber rfl rfl (Nat.le_of_ble_eq_true rfl) rfl rfl ⟨(Nat.le_of_ble_eq_true rfl), (Nat.le_of_ble_eq_true rfl)⟩ (Nat.le_of_ble_eq_true rfl) ⟨rfl, rfl⟩ ⟨(Nat.le_of_ble_eq_true rfl), (Nat.le_of_ble_eq_true rfl)⟩ (fun r9 w9 hp9 => ?_)
              obtain ⟨m6, rfl, rfl, hA6, hR6⟩ := hp9
              refine Z_ineg 111 dX4_takesPart_110 rfl ?_
              refine Z_putI 114 .int dX4_takesPart_111 rfl fX4_161 ft_4_14 (Nat.le_of_ble_eq_true rfl) rfl rfl rfl rfl ?_
              exact absurd (show ¬ nI 1 = 0 by decide) c68
            · skip
              refine Z_aload_n 96 1 dX4_takesPart_95 rfl rfl ?_
              refine Z_bipush 98 (nI 60) dX4_takesPart_96 rfl rfl ?_
              refine Z_callV 101 [_] 4 (zX4_takesNumber (m := (up2 (up2 (up2 m3 74 13 (x (pS2 x s) - nI 48)) 74 14 (nI 0)) 74 10 (nI (pS3 x s + 1)))) x L (pS3 x s + 1) true hR5 (by omega) (nI 60)) dX4_takesPart_98 rfl qX4_164 kX4_takesNumber rfl rfl (Nat.le_of_ble_eq_true rfl) rfl rfl ⟨(Nat.le_of_ble_eq_true rfl), (Nat.le_of_ble_eq_true rfl)⟩ (Nat.le_of_ble_eq_true rfl) ⟨rfl, rfl⟩ ⟨(Nat.le_of_ble_eq_true rfl), (Nat.le_of_ble_eq_true rfl)⟩ (fun r9 w9 hp9 => ?_)
              obtain ⟨m6, rfl, rfl, hA6, hR6⟩ := hp9
              refine Z_goto 111 dX4_takesPart_101 rfl ?_
              refine Z_putI 114 .int dX4_takesPart_111 rfl fX4_161 ft_4_14 (Nat.le_of_ble_eq_true rfl) rfl rfl rfl rfl ?_
              exact absurd (show ¬ nI 1 = 0 by decide) c68
  · skip
    refine Z_iconst 22 (nI 1) dX4_takesPart_21 rfl rfl ?_
    refine Z_goto 26 dX4_takesPart_22 rfl ?_
    refine Z_callV 29 [_] 4 (zX4_takes (m := (up2 m1 74 12 (x s - nI 48))) x L _ _ hR11 (by omega) _ (decide (x (pS1 x s) = nI 60)) (by first | exact (bI_f c18).symm.trans bI_bB | exact (bI_t (Decidable.not_not.mp c18)).symm.trans bI_bB)) dX4_takesPart_26 rfl qX4_148 kX4_takes rfl rfl (Nat.le_of_ble_eq_true rfl) rfl rfl ⟨(Nat.le_of_ble_eq_true rfl), (Nat.le_of_ble_eq_true rfl)⟩ (Nat.le_of_ble_eq_true rfl) ⟨rfl, rfl⟩ ⟨(Nat.le_of_ble_eq_true rfl), (Nat.le_of_ble_eq_true rfl)⟩ (fun r9 w9 hp9 => ?_)
    obtain ⟨m2, rfl, hr8, hA2, hR2⟩ := hp9
    cases hr8
    have hR2 : Rd m2 x L (pS2 x s) (pF2 x s) := hR2
    have b2 : pS2 x s < 802 := nx_lt b1
    refine Z_aload_n 30 0 dX4_takesPart_29 rfl rfl ?_
    refine Z_aload_n 31 0 dX4_takesPart_30 rfl rfl ?_
    refine Z_iconst 32 (nI 0) dX4_takesPart_31 rfl rfl ?_
    refine Z_bipush 34 (nI 7) dX4_takesPart_32 rfl rfl ?_
    refine Z_callV 37 [_, _] 4 (zX4_takesDigit (m := m2) x L _ _ hR2 (by omega) (nI 0) (nI 7)) dX4_takesPart_34 rfl qX4_152 kX4_takesDigit rfl rfl (Nat.le_of_ble_eq_true rfl) rfl rfl ⟨(Nat.le_of_ble_eq_true rfl), (Nat.le_of_ble_eq_true rfl)⟩ (Nat.le_of_ble_eq_true rfl) ⟨rfl, rfl⟩ ⟨(Nat.le_of_ble_eq_true rfl), (Nat.le_of_ble_eq_true rfl)⟩ (fun r9 w9 hp9 => ?_)
    obtain ⟨m3, rfl, rfl, hA3, hR3⟩ := hp9
    have hR3 : Rd m3 x L (pS3 x s) (pF3 x s) := hR3
    have b3 : pS3 x s < 803 := nx_lt b2
    refine Z_putI 40 .int dX4_takesPart_37 rfl fX4_158 ft_4_13 (Nat.le_of_ble_eq_true rfl) rfl rfl rfl rfl ?_
    refine Z_aload_n 41 0 dX4_takesPart_40 rfl rfl ?_
    refine Z_iconst 42 (nI 0) dX4_takesPart_41 rfl rfl ?_
    refine Z_putI 45 .int dX4_takesPart_42 rfl fX4_161 ft_4_14 (Nat.le_of_ble_eq_true rfl) rfl rfl rfl rfl ?_
    have hR4 : Rd (up2 (up2 m3 74 13 (x (pS2 x s) - nI 48)) 74 14 (nI 0)) x L (pS3 x s) (pF3 x s) := (hR3.up (Or.inr (Or.inl rfl))).up (Or.inr (Or.inr rfl))
    have hB4 : FtB m (up2 (up2 m3 74 13 (x (pS2 x s) - nI 48)) 74 14 (nI 0)) := ((((hA1.b.up (by decide)).trans hA2.b).trans hA3.b).up (by decide)).up (by decide)
    have e12 : (up2 (up2 m3 74 13 (x (pS2 x s) - nI 48)) 74 14 (nI 0)) 74 12 = x s - nI 48 := by rw [up2_ne _ _ (by decide), up2_ne _ _ (by decide), hA3.2 12 (by decide) (by decide), hA2.2 12 (by decide) (by decide), up2_eq]
    have e13 : (up2 (up2 m3 74 13 (x (pS2 x s) - nI 48)) 74 14 (nI 0)) 74 13 = x (pS2 x s) - nI 48 := by rw [up2_ne _ _ (by decide), up2_eq]
    have h3 := tp3 hC s
    refine Z_aload_n 46 0 dX4_takesPart_45 rfl rfl ?_
    refine Z_callV 49 [] 4 (zX4_here (m := (up2 (up2 m3 74 13 (x (pS2 x s) - nI 48)) 74 14 (nI 0))) x L _ _ hR4 (by omega)) dX4_takesPart_46 rfl qX4_145 kX4_here rfl rfl (Nat.le_of_ble_eq_true rfl) rfl rfl ⟨(Nat.le_of_ble_eq_true rfl), (Nat.le_of_ble_eq_true rfl)⟩ (Nat.le_of_ble_eq_true rfl) ⟨rfl, rfl⟩ ⟨(Nat.le_of_ble_eq_true rfl), (Nat.le_of_ble_eq_true rfl)⟩ (fun r9 w9 hp9 => ?_)
    obtain ⟨rfl, rfl⟩ := hp9
    refine Z_bipush 51 (nI 43) dX4_takesPart_49 rfl rfl ?_
    refine Z_icmp_ne 54 58 dX4_takesPart_51 rfl rfl (fun c51 => ?_) (fun c51 => ?_)
    · skip
      refine Z_iconst 59 (nI 0) dX4_takesPart_58 rfl rfl ?_
      refine Z_istore_n 60 [(1, _), (0, _)] dX4_takesPart_59 rfl (Nat.le_of_ble_eq_true rfl) rfl ?_
      refine Z_aload_n 61 1 dX4_takesPart_60 rfl rfl ?_
      refine Z_getI 64 dX4_takesPart_61 rfl fX4_141 (Nat.le_of_ble_eq_true rfl) rfl rfl ?_
      refine Z_top (congrArg Value.int hR4.2.2.2.2) ?_
      refine Z_if_eq 67 114 dX4_takesPart_64 rfl rfl (fun c64 => ?_) (fun c64 => ?_)
      · skip
        have hf := bB_0 c64
        exact Z_vret dX4_takesPart_114 rfl ⟨_, false, rfl, rfl, hB4, by rw [(h3.2 hf).2]; have z := hR4; rw [hf] at z; exact z, ⟨fun z => absurd z (by decide), fun z => absurd z (h3.2 hf).1⟩, fun z => absurd z (h3.2 hf).1⟩
      · skip
        obtain ⟨hq1, hq2, hq3, hs3, hs22⟩ := h3.1 (bB_1 c64)
        refine Z_iload_n 68 0 dX4_takesPart_67 rfl rfl ?_
        refine Z_if_ne 71 80 dX4_takesPart_68 rfl rfl (fun c68 => ?_) (fun c68 => ?_)
        · skip
          refine Z_aload_n 81 1 dX4_takesPart_80 rfl rfl ?_
          refine Z_dup 82 dX4_takesPart_81 rfl rfl ?_
          refine Z_getI 85 dX4_takesPart_82 rfl fX4_138 (Nat.le_of_ble_eq_true rfl) rfl rfl ?_
          refine Z_top (v' := .int (nI (pS3 x s))) (congrArg Value.int (hR4.2.2.2.1)) ?_
          refine Z_iconst 86 (nI 1) dX4_takesPart_85 rfl rfl ?_
          refine Z_iadd 87 dX4_takesPart_86 rfl ?_
          refine Z_top (v' := .int (nI (pS3 x s + 1))) (congrArg Value.int (nI_1 _)) ?_
          refine Z_putI 90 .int dX4_takesPart_87 rfl fX4_138 ft_4_10 (Nat.le_of_ble_eq_true rfl) rfl rfl rfl rfl ?_
          have hR5 : Rd (up2 (up2 (up2 m3 74 13 (x (pS2 x s) - nI 48)) 74 14 (nI 0)) 74 10 (nI (pS3 x s + 1))) x L (pS3 x s + 1) true := by have z := spR (s' := pS3 x s + 1) hR4 rfl; rw [bB_1 c64] at z; exact z
          have hB5 : FtB m (up2 (up2 (up2 m3 74 13 (x (pS2 x s) - nI 48)) 74 14 (nI 0)) 74 10 (nI (pS3 x s + 1))) := hB4.up (by decide)
          refine Z_aload_n 91 1 dX4_takesPart_90 rfl rfl ?_
          refine Z_iload_n 92 0 dX4_takesPart_91 rfl rfl ?_
          refine Z_if_eq 95 104 dX4_takesPart_92 rfl rfl (fun c92 => ?_) (fun c92 => ?_)
          · skip
            refine Z_aload_n 105 1 dX4_takesPart_104 rfl rfl ?_
            refine Z_bipush 107 (nI 30) dX4_takesPart_105 rfl rfl ?_
            refine Z_callV 110 [_] 4 (zX4_takesNumber (m := (up2 (up2 (up2 m3 74 13 (x (pS2 x s) - nI 48)) 74 14 (nI 0)) 74 10 (nI (pS3 x s + 1)))) x L (pS3 x s + 1) true hR5 (by omega) (nI 30)) dX4_takesPart_107 rfl qX4_164 kX4_takesNumber rfl rfl (Nat.le_of_ble_eq_true rfl) rfl rfl ⟨(Nat.le_of_ble_eq_true rfl), (Nat.le_of_ble_eq_true rfl)⟩ (Nat.le_of_ble_eq_true rfl) ⟨rfl, rfl⟩ ⟨(Nat.le_of_ble_eq_true rfl), (Nat.le_of_ble_eq_true rfl)⟩ (fun r9 w9 hp9 => ?_)
            obtain ⟨m6, rfl, rfl, hA6, hR6⟩ := hp9
            refine Z_ineg 111 dX4_takesPart_110 rfl ?_
            refine Z_putI 114 .int dX4_takesPart_111 rfl fX4_161 ft_4_14 (Nat.le_of_ble_eq_true rfl) rfl rfl rfl rfl ?_
            exact absurd rfl c68
          · skip
            refine Z_aload_n 96 1 dX4_takesPart_95 rfl rfl ?_
            refine Z_bipush 98 (nI 60) dX4_takesPart_96 rfl rfl ?_
            refine Z_callV 101 [_] 4 (zX4_takesNumber (m := (up2 (up2 (up2 m3 74 13 (x (pS2 x s) - nI 48)) 74 14 (nI 0)) 74 10 (nI (pS3 x s + 1)))) x L (pS3 x s + 1) true hR5 (by omega) (nI 60)) dX4_takesPart_98 rfl qX4_164 kX4_takesNumber rfl rfl (Nat.le_of_ble_eq_true rfl) rfl rfl ⟨(Nat.le_of_ble_eq_true rfl), (Nat.le_of_ble_eq_true rfl)⟩ (Nat.le_of_ble_eq_true rfl) ⟨rfl, rfl⟩ ⟨(Nat.le_of_ble_eq_true rfl), (Nat.le_of_ble_eq_true rfl)⟩ (fun r9 w9 hp9 => ?_)
            obtain ⟨m6, rfl, rfl, hA6, hR6⟩ := hp9
            refine Z_goto 111 dX4_takesPart_101 rfl ?_
            refine Z_putI 114 .int dX4_takesPart_111 rfl fX4_161 ft_4_14 (Nat.le_of_ble_eq_true rfl) rfl rfl rfl rfl ?_
            exact absurd rfl c68
        · skip
          refine Z_aload_n 72 1 dX4_takesPart_71 rfl rfl ?_
          refine Z_callV 75 [] 4 (zX4_here (m := (up2 (up2 m3 74 13 (x (pS2 x s) - nI 48)) 74 14 (nI 0))) x L _ _ hR4 (by omega)) dX4_takesPart_72 rfl qX4_145 kX4_here rfl rfl (Nat.le_of_ble_eq_true rfl) rfl rfl ⟨(Nat.le_of_ble_eq_true rfl), (Nat.le_of_ble_eq_true rfl)⟩ (Nat.le_of_ble_eq_true rfl) ⟨rfl, rfl⟩ ⟨(Nat.le_of_ble_eq_true rfl), (Nat.le_of_ble_eq_true rfl)⟩ (fun r9 w9 hp9 => ?_)
          obtain ⟨rfl, rfl⟩ := hp9
          refine Z_bipush 77 (nI 45) dX4_takesPart_75 rfl rfl ?_
          refine Z_icmp_ne 80 114 dX4_takesPart_77 rfl rfl (fun c77 => ?_) (fun c77 => ?_)
          · skip
            have nq4 : ¬ q4 x s := fun z => by
              unfold q4 at z
              rw [← hs3] at z
              exact z.elim c51 c77
            have z := hR4
            rw [bB_1 c64, hs3, ← pEn_4 hq1 hq2 hq3 nq4] at z
            exact Z_vret dX4_takesPart_114 rfl ⟨_, true, rfl, rfl, hB4, z, ⟨fun _ => ⟨hq1, hq2, hq3, fun y => absurd y nq4⟩, fun _ => rfl⟩, fun _ => ⟨e12, by rw [e13, hs22], by unfold pD; rw [if_neg nq4]; exact up2_eq _ _ _ _⟩⟩
          · skip
            refine Z_aload_n 81 1 dX4_takesPart_80 rfl rfl ?_
            refine Z_dup 82 dX4_takesPart_81 rfl rfl ?_
            refine Z_getI 85 dX4_takesPart_82 rfl fX4_138 (Nat.le_of_ble_eq_true rfl) rfl rfl ?_
            refine Z_top (v' := .int (nI (pS3 x s))) (congrArg Value.int (hR4.2.2.2.1)) ?_
            refine Z_iconst 86 (nI 1) dX4_takesPart_85 rfl rfl ?_
            refine Z_iadd 87 dX4_takesPart_86 rfl ?_
            refine Z_top (v' := .int (nI (pS3 x s + 1))) (congrArg Value.int (nI_1 _)) ?_
            refine Z_putI 90 .int dX4_takesPart_87 rfl fX4_138 ft_4_10 (Nat.le_of_ble_eq_true rfl) rfl rfl rfl rfl ?_
            have hR5 : Rd (up2 (up2 (up2 m3 74 13 (x (pS2 x s) - nI 48)) 74 14 (nI 0)) 74 10 (nI (pS3 x s + 1))) x L (pS3 x s + 1) true := by have z := spR (s' := pS3 x s + 1) hR4 rfl; rw [bB_1 c64] at z; exact z
            have hB5 : FtB m (up2 (up2 (up2 m3 74 13 (x (pS2 x s) - nI 48)) 74 14 (nI 0)) 74 10 (nI (pS3 x s + 1))) := hB4.up (by decide)
            refine Z_aload_n 91 1 dX4_takesPart_90 rfl rfl ?_
            refine Z_iload_n 92 0 dX4_takesPart_91 rfl rfl ?_
            refine Z_if_eq 95 104 dX4_takesPart_92 rfl rfl (fun c92 => ?_) (fun c92 => ?_)
            · skip
              refine Z_aload_n 105 1 dX4_takesPart_104 rfl rfl ?_
              refine Z_bipush 107 (nI 30) dX4_takesPart_105 rfl rfl ?_
              refine Z_callV 110 [_] 4 (zX4_takesNumber (m := (up2 (up2 (up2 m3 74 13 (x (pS2 x s) - nI 48)) 74 14 (nI 0)) 74 10 (nI (pS3 x s + 1)))) x L (pS3 x s + 1) true hR5 (by omega) (nI 30)) dX4_takesPart_107 rfl qX4_164 kX4_takesNumber rfl rfl (Nat.le_of_ble_eq_true rfl) rfl rfl ⟨(Nat.le_of_ble_eq_true rfl), (Nat.le_of_ble_eq_true rfl)⟩ (Nat.le_of_ble_eq_true rfl) ⟨rfl, rfl⟩ ⟨(Nat.le_of_ble_eq_true rfl), (Nat.le_of_ble_eq_true rfl)⟩ (fun r9 w9 hp9 => ?_)
              obtain ⟨m6, rfl, rfl, hA6, hR6⟩ := hp9
              refine Z_ineg 111 dX4_takesPart_110 rfl ?_
              refine Z_putI 114 .int dX4_takesPart_111 rfl fX4_161 ft_4_14 (Nat.le_of_ble_eq_true rfl) rfl rfl rfl rfl ?_
              have h43n : ¬ x (s + 3) = nI 43 := by rw [← hs3]; exact c51
              have h43 : x (s + 3) = nI 45 := by rw [← hs3]; exact Decidable.not_not.mp c77
              have hN := numE hC hq1 hq2 hq3 (Or.inr h43)
              have hms : mst x s = nI 30 := if_neg h43n
              have hsg : sgn x s = -1 := if_neg h43n
              have hR7 : Rd m6 x L (nx (nT x (s + 4) (mst x s)) (nx (nF x (s + 4)) (s + 4))) (nF x (s + 4)) := by
                rw [hms]
                rw [hs3] at hR6
                exact hR6
              rw [hN.2.1] at hR7
              have hv := hN.2.2
              rw [hsg, hms] at hv
              exact Z_vret dX4_takesPart_114 rfl ⟨_, nF x (s + 4), rfl, rfl, (hB5.trans hA6.b).up (by decide), hR7.up (Or.inr (Or.inr rfl)), hN.1, fun ok => ⟨by rw [up2_ne _ _ (by decide), hA6.2 12 (by decide) (by decide), up2_ne _ _ (by decide)]; exact e12, by rw [up2_ne _ _ (by decide), hA6.2 13 (by decide) (by decide), up2_ne _ _ (by decide), e13, hs22], by rw [up2_eq, hs3]; exact (i32_n1 _).symm.trans (hv ok)⟩⟩
            · skip
              refine Z_aload_n 96 1 dX4_takesPart_95 rfl rfl ?_
              refine Z_bipush 98 (nI 60) dX4_takesPart_96 rfl rfl ?_
              refine Z_callV 101 [_] 4 (zX4_takesNumber (m := (up2 (up2 (up2 m3 74 13 (x (pS2 x s) - nI 48)) 74 14 (nI 0)) 74 10 (nI (pS3 x s + 1)))) x L (pS3 x s + 1) true hR5 (by omega) (nI 60)) dX4_takesPart_98 rfl qX4_164 kX4_takesNumber rfl rfl (Nat.le_of_ble_eq_true rfl) rfl rfl ⟨(Nat.le_of_ble_eq_true rfl), (Nat.le_of_ble_eq_true rfl)⟩ (Nat.le_of_ble_eq_true rfl) ⟨rfl, rfl⟩ ⟨(Nat.le_of_ble_eq_true rfl), (Nat.le_of_ble_eq_true rfl)⟩ (fun r9 w9 hp9 => ?_)
              obtain ⟨m6, rfl, rfl, hA6, hR6⟩ := hp9
              refine Z_goto 111 dX4_takesPart_101 rfl ?_
              refine Z_putI 114 .int dX4_takesPart_111 rfl fX4_161 ft_4_14 (Nat.le_of_ble_eq_true rfl) rfl rfl rfl rfl ?_
              exact absurd rfl c92
    · skip
      refine Z_iconst 55 (nI 1) dX4_takesPart_54 rfl rfl ?_
      refine Z_goto 59 dX4_takesPart_55 rfl ?_
      refine Z_istore_n 60 [(1, _), (0, _)] dX4_takesPart_59 rfl (Nat.le_of_ble_eq_true rfl) rfl ?_
      refine Z_aload_n 61 1 dX4_takesPart_60 rfl rfl ?_
      refine Z_getI 64 dX4_takesPart_61 rfl fX4_141 (Nat.le_of_ble_eq_true rfl) rfl rfl ?_
      refine Z_top (congrArg Value.int hR4.2.2.2.2) ?_
      refine Z_if_eq 67 114 dX4_takesPart_64 rfl rfl (fun c64 => ?_) (fun c64 => ?_)
      · skip
        have hf := bB_0 c64
        exact Z_vret dX4_takesPart_114 rfl ⟨_, false, rfl, rfl, hB4, by rw [(h3.2 hf).2]; have z := hR4; rw [hf] at z; exact z, ⟨fun z => absurd z (by decide), fun z => absurd z (h3.2 hf).1⟩, fun z => absurd z (h3.2 hf).1⟩
      · skip
        obtain ⟨hq1, hq2, hq3, hs3, hs22⟩ := h3.1 (bB_1 c64)
        refine Z_iload_n 68 0 dX4_takesPart_67 rfl rfl ?_
        refine Z_if_ne 71 80 dX4_takesPart_68 rfl rfl (fun c68 => ?_) (fun c68 => ?_)
        · skip
          refine Z_aload_n 81 1 dX4_takesPart_80 rfl rfl ?_
          refine Z_dup 82 dX4_takesPart_81 rfl rfl ?_
          refine Z_getI 85 dX4_takesPart_82 rfl fX4_138 (Nat.le_of_ble_eq_true rfl) rfl rfl ?_
          refine Z_top (v' := .int (nI (pS3 x s))) (congrArg Value.int (hR4.2.2.2.1)) ?_
          refine Z_iconst 86 (nI 1) dX4_takesPart_85 rfl rfl ?_
          refine Z_iadd 87 dX4_takesPart_86 rfl ?_
          refine Z_top (v' := .int (nI (pS3 x s + 1))) (congrArg Value.int (nI_1 _)) ?_
          refine Z_putI 90 .int dX4_takesPart_87 rfl fX4_138 ft_4_10 (Nat.le_of_ble_eq_true rfl) rfl rfl rfl rfl ?_
          have hR5 : Rd (up2 (up2 (up2 m3 74 13 (x (pS2 x s) - nI 48)) 74 14 (nI 0)) 74 10 (nI (pS3 x s + 1))) x L (pS3 x s + 1) true := by have z := spR (s' := pS3 x s + 1) hR4 rfl; rw [bB_1 c64] at z; exact z
          have hB5 : FtB m (up2 (up2 (up2 m3 74 13 (x (pS2 x s) - nI 48)) 74 14 (nI 0)) 74 10 (nI (pS3 x s + 1))) := hB4.up (by decide)
          refine Z_aload_n 91 1 dX4_takesPart_90 rfl rfl ?_
          refine Z_iload_n 92 0 dX4_takesPart_91 rfl rfl ?_
          refine Z_if_eq 95 104 dX4_takesPart_92 rfl rfl (fun c92 => ?_) (fun c92 => ?_)
          · skip
            refine Z_aload_n 105 1 dX4_takesPart_104 rfl rfl ?_
            refine Z_bipush 107 (nI 30) dX4_takesPart_105 rfl rfl ?_
            refine Z_callV 110 [_] 4 (zX4_takesNumber (m := (up2 (up2 (up2 m3 74 13 (x (pS2 x s) - nI 48)) 74 14 (nI 0)) 74 10 (nI (pS3 x s + 1)))) x L (pS3 x s + 1) true hR5 (by omega) (nI 30)) dX4_takesPart_107 rfl qX4_164 kX4_takesNumber rfl rfl (Nat.le_of_ble_eq_true rfl) rfl rfl ⟨(Nat.le_of_ble_eq_true rfl), (Nat.le_of_ble_eq_true rfl)⟩ (Nat.le_of_ble_eq_true rfl) ⟨rfl, rfl⟩ ⟨(Nat.le_of_ble_eq_true rfl), (Nat.le_of_ble_eq_true rfl)⟩ (fun r9 w9 hp9 => ?_)
            obtain ⟨m6, rfl, rfl, hA6, hR6⟩ := hp9
            refine Z_ineg 111 dX4_takesPart_110 rfl ?_
            refine Z_putI 114 .int dX4_takesPart_111 rfl fX4_161 ft_4_14 (Nat.le_of_ble_eq_true rfl) rfl rfl rfl rfl ?_
            exact absurd c92 (by decide)
          · skip
            refine Z_aload_n 96 1 dX4_takesPart_95 rfl rfl ?_
            refine Z_bipush 98 (nI 60) dX4_takesPart_96 rfl rfl ?_
            refine Z_callV 101 [_] 4 (zX4_takesNumber (m := (up2 (up2 (up2 m3 74 13 (x (pS2 x s) - nI 48)) 74 14 (nI 0)) 74 10 (nI (pS3 x s + 1)))) x L (pS3 x s + 1) true hR5 (by omega) (nI 60)) dX4_takesPart_98 rfl qX4_164 kX4_takesNumber rfl rfl (Nat.le_of_ble_eq_true rfl) rfl rfl ⟨(Nat.le_of_ble_eq_true rfl), (Nat.le_of_ble_eq_true rfl)⟩ (Nat.le_of_ble_eq_true rfl) ⟨rfl, rfl⟩ ⟨(Nat.le_of_ble_eq_true rfl), (Nat.le_of_ble_eq_true rfl)⟩ (fun r9 w9 hp9 => ?_)
            obtain ⟨m6, rfl, rfl, hA6, hR6⟩ := hp9
            refine Z_goto 111 dX4_takesPart_101 rfl ?_
            refine Z_putI 114 .int dX4_takesPart_111 rfl fX4_161 ft_4_14 (Nat.le_of_ble_eq_true rfl) rfl rfl rfl rfl ?_
            have h43 : x (s + 3) = nI 43 := by rw [← hs3]; exact Decidable.not_not.mp c51
            have hN := numE hC hq1 hq2 hq3 (Or.inl h43)
            have hms : mst x s = nI 60 := if_pos h43
            have hsg : sgn x s = nI 1 := if_pos h43
            have hR7 : Rd m6 x L (nx (nT x (s + 4) (mst x s)) (nx (nF x (s + 4)) (s + 4))) (nF x (s + 4)) := by
              rw [hms]
              rw [hs3] at hR6
              exact hR6
            rw [hN.2.1] at hR7
            have hv := hN.2.2
            rw [hsg, hms] at hv
            exact Z_vret dX4_takesPart_114 rfl ⟨_, nF x (s + 4), rfl, rfl, (hB5.trans hA6.b).up (by decide), hR7.up (Or.inr (Or.inr rfl)), hN.1, fun ok => ⟨by rw [up2_ne _ _ (by decide), hA6.2 12 (by decide) (by decide), up2_ne _ _ (by decide)]; exact e12, by rw [up2_ne _ _ (by decide), hA6.2 13 (by decide) (by decide), up2_ne _ _ (by decide), e13, hs22], by rw [up2_eq, hs3]; exact (i32_1 _).symm.trans (hv ok)⟩⟩
        · skip
          refine Z_aload_n 72 1 dX4_takesPart_71 rfl rfl ?_
          refine Z_callV 75 [] 4 (zX4_here (m := (up2 (up2 m3 74 13 (x (pS2 x s) - nI 48)) 74 14 (nI 0))) x L _ _ hR4 (by omega)) dX4_takesPart_72 rfl qX4_145 kX4_here rfl rfl (Nat.le_of_ble_eq_true rfl) rfl rfl ⟨(Nat.le_of_ble_eq_true rfl), (Nat.le_of_ble_eq_true rfl)⟩ (Nat.le_of_ble_eq_true rfl) ⟨rfl, rfl⟩ ⟨(Nat.le_of_ble_eq_true rfl), (Nat.le_of_ble_eq_true rfl)⟩ (fun r9 w9 hp9 => ?_)
          obtain ⟨rfl, rfl⟩ := hp9
          refine Z_bipush 77 (nI 45) dX4_takesPart_75 rfl rfl ?_
          refine Z_icmp_ne 80 114 dX4_takesPart_77 rfl rfl (fun c77 => ?_) (fun c77 => ?_)
          · skip
            exact absurd (show ¬ nI 1 = 0 by decide) c68
          · skip
            refine Z_aload_n 81 1 dX4_takesPart_80 rfl rfl ?_
            refine Z_dup 82 dX4_takesPart_81 rfl rfl ?_
            refine Z_getI 85 dX4_takesPart_82 rfl fX4_138 (Nat.le_of_ble_eq_true rfl) rfl rfl ?_
            refine Z_top (v' := .int (nI (pS3 x s))) (congrArg Value.int (hR4.2.2.2.1)) ?_
            refine Z_iconst 86 (nI 1) dX4_takesPart_85 rfl rfl ?_
            refine Z_iadd 87 dX4_takesPart_86 rfl ?_
            refine Z_top (v' := .int (nI (pS3 x s + 1))) (congrArg Value.int (nI_1 _)) ?_
            refine Z_putI 90 .int dX4_takesPart_87 rfl fX4_138 ft_4_10 (Nat.le_of_ble_eq_true rfl) rfl rfl rfl rfl ?_
            have hR5 : Rd (up2 (up2 (up2 m3 74 13 (x (pS2 x s) - nI 48)) 74 14 (nI 0)) 74 10 (nI (pS3 x s + 1))) x L (pS3 x s + 1) true := by have z := spR (s' := pS3 x s + 1) hR4 rfl; rw [bB_1 c64] at z; exact z
            have hB5 : FtB m (up2 (up2 (up2 m3 74 13 (x (pS2 x s) - nI 48)) 74 14 (nI 0)) 74 10 (nI (pS3 x s + 1))) := hB4.up (by decide)
            refine Z_aload_n 91 1 dX4_takesPart_90 rfl rfl ?_
            refine Z_iload_n 92 0 dX4_takesPart_91 rfl rfl ?_
            refine Z_if_eq 95 104 dX4_takesPart_92 rfl rfl (fun c92 => ?_) (fun c92 => ?_)
            · skip
              refine Z_aload_n 105 1 dX4_takesPart_104 rfl rfl ?_
              refine Z_bipush 107 (nI 30) dX4_takesPart_105 rfl rfl ?_
              refine Z_callV 110 [_] 4 (zX4_takesNumber (m := (up2 (up2 (up2 m3 74 13 (x (pS2 x s) - nI 48)) 74 14 (nI 0)) 74 10 (nI (pS3 x s + 1)))) x L (pS3 x s + 1) true hR5 (by omega) (nI 30)) dX4_takesPart_107 rfl qX4_164 kX4_takesNumber rfl rfl (Nat.le_of_ble_eq_true rfl) rfl rfl ⟨(Nat.le_of_ble_eq_true rfl), (Nat.le_of_ble_eq_true rfl)⟩ (Nat.le_of_ble_eq_true rfl) ⟨rfl, rfl⟩ ⟨(Nat.le_of_ble_eq_true rfl), (Nat.le_of_ble_eq_true rfl)⟩ (fun r9 w9 hp9 => ?_)
              obtain ⟨m6, rfl, rfl, hA6, hR6⟩ := hp9
              refine Z_ineg 111 dX4_takesPart_110 rfl ?_
              refine Z_putI 114 .int dX4_takesPart_111 rfl fX4_161 ft_4_14 (Nat.le_of_ble_eq_true rfl) rfl rfl rfl rfl ?_
              exact absurd (show ¬ nI 1 = 0 by decide) c68
            · skip
              refine Z_aload_n 96 1 dX4_takesPart_95 rfl rfl ?_
              refine Z_bipush 98 (nI 60) dX4_takesPart_96 rfl rfl ?_
              refine Z_callV 101 [_] 4 (zX4_takesNumber (m := (up2 (up2 (up2 m3 74 13 (x (pS2 x s) - nI 48)) 74 14 (nI 0)) 74 10 (nI (pS3 x s + 1)))) x L (pS3 x s + 1) true hR5 (by omega) (nI 60)) dX4_takesPart_98 rfl qX4_164 kX4_takesNumber rfl rfl (Nat.le_of_ble_eq_true rfl) rfl rfl ⟨(Nat.le_of_ble_eq_true rfl), (Nat.le_of_ble_eq_true rfl)⟩ (Nat.le_of_ble_eq_true rfl) ⟨rfl, rfl⟩ ⟨(Nat.le_of_ble_eq_true rfl), (Nat.le_of_ble_eq_true rfl)⟩ (fun r9 w9 hp9 => ?_)
              obtain ⟨m6, rfl, rfl, hA6, hR6⟩ := hp9
              refine Z_goto 111 dX4_takesPart_101 rfl ?_
              refine Z_putI 114 .int dX4_takesPart_111 rfl fX4_161 ft_4_14 (Nat.le_of_ble_eq_true rfl) rfl rfl rfl rfl ?_
              exact absurd (show ¬ nI 1 = 0 by decide) c68
