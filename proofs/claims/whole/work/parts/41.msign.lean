/-! the model: signAll -/
def gF (x : Nat → Int32) (k : Nat) : Int32 := x (sq x k) - nI 48
def gO (x : Nat → Int32) (k : Nat) : Int32 := x (sq x k + 2) - nI 48
def gD (x : Nat → Int32) (k : Nat) : Int32 := pD x (sq x k)
def msR (r : Nat → Int32) (n : Nat) (x : Nat → Int32) : Nat → (Nat → Int32)
  | 0 => r
  | k + 1 => adR (msR r n x k) (n + k) (gF x k) (gO x k) (gD x k)
def Fms (A m : zM) : Prop := (∀ q, q ≠ 74 → q ≠ 75 → q ≠ 80 → q ≠ 81 → q ≠ 82 → m q = A q) ∧ ∀ k, ¬ (10 ≤ k ∧ k ≤ 15) → m 74 k = A 74 k
theorem Fms.rf {A : zM} : Fms A A := ⟨fun _ _ _ _ _ _ => rfl, fun _ _ => rfl⟩
theorem Fms.ft {A m m' : zM} (h : Fms A m) (g : FtB m m') : Fms A m' := ⟨fun q a b c d e => (g.1 q a).trans (h.1 q a b c d e), fun k a => (g.2 k (by omega)).trans (h.2 k a)⟩
theorem Fms.fm {A m m' : zM} (h : Fms A m) (g : Fm m m') : Fms A m' := ⟨fun q a b c d e => (g q c d).trans (h.1 q a b c d e), fun k a => (congrFun (g 74 (by decide) (by decide)) k).trans (h.2 k a)⟩
theorem Fms.up {A m : zM} {a k : Nat} {v : Int32} (h : Fms A m) (hk : (a = 74 ∧ 10 ≤ k ∧ k ≤ 15) ∨ a = 75 ∨ a = 80 ∨ a = 81 ∨ a = 82) : Fms A (up2 m a k v) := by
  refine ⟨fun q c d e f g => ?_, fun j c => ?_⟩
  · rw [up2_na _ _ _ (by omega)]
    exact h.1 q c d e f g
  · rw [up2_ne _ _ (by omega)]
    exact h.2 j c
theorem Fms.ad {A m : zM} {n : Nat} {f o d : Int32} (h : Fms A m) : Fms A (adM m n f o d) := by
  refine ⟨fun q a b c d e => ?_, fun k a => ?_⟩
  · rw [ad_q _ _ _ _ _ b]
    exact h.1 q a b c d e
  · rw [ad_q _ _ _ _ _ (by decide)]
    exact h.2 k a
abbrev stG (r : Nat → Int32) (n : Nat) (x : Nat → Int32) (J : Nat) (v : Int32) : Prop := stp (vR (msR r n x J)) (n + J) (gF x J) (gO x J) (gD x J) v
def msP (h : Nat → Nat) (A : zM) (n K Kc : Nat) (x : Nat → Int32) (r : Option Value) (w : zW) : Prop := ∃ J, (∀ k, k < J → stG (A 75) n x k (nI (10 + (n + k)))) ∧ Inv Kc (msR (A 75) n x J) (n + J) ∧ r = some (.int (nI J)) ∧ ∃ m', w = zw h (up2 m' 74 7 (nI 0)) ∧ Fms A m' ∧ ((J = K + 1 ∧ m' 74 15 = nI 0 ∧ m' 75 = msR (A 75) n x J) ∨ (J < K + 1 ∧ ∃ v, stG (A 75) n x J v ∧ v < nI 10 ∧ ¬ v = 0 ∧ m' 74 15 = nI 1 ∧ m' 82 0 = v ∧ m' 82 1 = nI J ∧ m' 82 2 = nI (sq x J) ∧ ((¬ esg (n + J) (gF x J) (gO x J) (gD x J) = 0 ∧ m' 75 = msR (A 75) n x J) ∨ (esg (n + J) (gF x J) (gO x J) (gD x J) = 0 ∧ m' 75 = rfR (msR (A 75) n x J)))))
theorem pOk_K {x : Nat → Int32} {L K J : Nat} (hG : Good x L K) (hK : pOk x (sq x K)) (hE : pEn x (sq x K) = L) (hJ : J ≤ K) : pOk x (sq x J) ∧ sq x J < L ∧ pEn x (sq x J) ≤ L := by
  rcases Nat.lt_or_ge J K with g | g
  · have a := hG J g
    have b := pOk_en a.1
    exact ⟨a.1, by omega, by omega⟩
  · have e : J = K := by omega
    subst e
    have b := pOk_en hK
    exact ⟨hK, by omega, by omega⟩
set_option maxRecDepth 100000 in
set_option maxHeartbeats 4000000 in
theorem lX4_sae {G : zG} {l : Launch} {h : Nat → Nat} (A : zM) (x : Nat → Int32) (K n Kc J : Nat) (mm : zM) (hst : (∀ k, k < J → stG (A 75) n x k (nI (10 + (n + k))))) (hI : Inv Kc (msR (A 75) n x J) (n + J)) (hF : Fms A mm) (hx : ((J = K + 1 ∧ mm 74 15 = nI 0 ∧ mm 75 = msR (A 75) n x J) ∨ (J < K + 1 ∧ ∃ v, stG (A 75) n x J v ∧ v < nI 10 ∧ ¬ v = 0 ∧ mm 74 15 = nI 1 ∧ mm 82 0 = v ∧ mm 82 1 = nI J ∧ mm 82 2 = nI (sq x J) ∧ ((¬ esg (n + J) (gF x J) (gO x J) (gD x J) = 0 ∧ mm 75 = msR (A 75) n x J) ∨ (esg (n + J) (gF x J) (gO x J) (gD x J) = 0 ∧ mm 75 = rfR (msR (A 75) n x J)))))) : Z G mX4_signAll (fun _ => True) (zN G (msP h A n K Kc x) 0 0) l 0 0 (zw h mm) 146 [(1, .int (nI J)), (0, .ref (G.1 + 74))] [] := by
  refine Z_aload_n 147 1 dX4_signAll_146 rfl rfl ?_
  refine Z_iconst 148 (nI 0) dX4_signAll_147 rfl rfl ?_
  refine Z_putI 151 .int dX4_signAll_148 rfl fX4_135 ft_4_7 (Nat.le_of_ble_eq_true rfl) rfl rfl rfl rfl ?_
  refine Z_iload_n 152 0 dX4_signAll_151 rfl rfl ?_
  exact Z_iret dX4_signAll_152 rfl ⟨J, hst, hI, rfl, mm, rfl, hF, hx⟩
set_option maxRecDepth 100000 in
set_option maxHeartbeats 4000000 in
theorem lX4_sas {G : zG} {l : Launch} {h : Nat → Nat} (A : zM) (x : Nat → Int32) (K n Kc J : Nat) (mm : zM) (v : Int32) (hst : (∀ k, k < J → stG (A 75) n x k (nI (10 + (n + k))))) (hI : Inv Kc (msR (A 75) n x J) (n + J)) (hF : Fms A mm) (hJ : J < K + 1) (h1 : stG (A 75) n x J v) (h2 : v < nI 10) (h3 : ¬ v = 0) (h4 : ((¬ esg (n + J) (gF x J) (gO x J) (gD x J) = 0 ∧ mm 75 = msR (A 75) n x J) ∨ (esg (n + J) (gF x J) (gO x J) (gD x J) = 0 ∧ mm 75 = rfR (msR (A 75) n x J)))) : Z G mX4_signAll (fun _ => True) (zN G (msP h A n K Kc x) 0 0) l 0 0 (zw h mm) 111 [(3, .int v), (2, .int (nI (sq x J))), (1, .int (nI J)), (0, .ref (G.1 + 74))] [] := by
  refine Z_aload_n 112 3 dX4_signAll_111 rfl rfl ?_
  refine Z_iconst 113 (nI 1) dX4_signAll_112 rfl rfl ?_
  refine Z_putI 116 .boolean dX4_signAll_113 rfl fX4_173 ft_4_15 (Nat.le_of_ble_eq_true rfl) rfl rfl rfl rfl ?_
  refine Z_aload_n 117 3 dX4_signAll_116 rfl rfl ?_
  refine Z_getR 120 dX4_signAll_117 rfl fX4_31 (Nat.le_of_ble_eq_true rfl) rfl rfl ?_
  refine Z_iconst 121 (nI 0) dX4_signAll_120 rfl rfl ?_
  refine Z_iload_n 122 0 dX4_signAll_121 rfl rfl ?_
  refine Z_iasn 123 dX4_signAll_122 rfl (Nat.le_of_ble_eq_true rfl) rfl (by first | assumption | omega) (by decide) ?_
  refine Z_aload_n 124 3 dX4_signAll_123 rfl rfl ?_
  refine Z_getR 127 dX4_signAll_124 rfl fX4_31 (Nat.le_of_ble_eq_true rfl) rfl rfl ?_
  refine Z_iconst 128 (nI 1) dX4_signAll_127 rfl rfl ?_
  refine Z_iload_n 129 2 dX4_signAll_128 rfl rfl ?_
  refine Z_iasn 130 dX4_signAll_129 rfl (Nat.le_of_ble_eq_true rfl) rfl (by first | assumption | omega) (by decide) ?_
  refine Z_aload_n 131 3 dX4_signAll_130 rfl rfl ?_
  refine Z_getR 134 dX4_signAll_131 rfl fX4_31 (Nat.le_of_ble_eq_true rfl) rfl rfl ?_
  refine Z_iconst 135 (nI 2) dX4_signAll_134 rfl rfl ?_
  refine Z_iload_n 136 1 dX4_signAll_135 rfl rfl ?_
  refine Z_iasn 137 dX4_signAll_136 rfl (Nat.le_of_ble_eq_true rfl) rfl (by first | assumption | omega) (by decide) ?_
  refine Z_goto 143 dX4_signAll_137 rfl ?_
  have c15 : (up2 (up2 (up2 (up2 mm 74 15 (nI 1)) 82 0 v) 82 1 (nI J)) 82 2 (nI (sq x J))) 74 15 = nI 1 := by rw [up2_ne _ _ (by decide), up2_ne _ _ (by decide), up2_ne _ _ (by decide), up2_eq]
  refine Z_goto 26 dX4_signAll_143 rfl ?_
  refine Z_aload_n 27 3 dX4_signAll_26 rfl rfl ?_
  refine Z_getI 30 dX4_signAll_27 rfl fX4_173 (Nat.le_of_ble_eq_true rfl) rfl rfl ?_
  refine Z_top (congrArg Value.int c15) ?_
  refine Z_if_ne 33 146 dX4_signAll_30 rfl rfl (fun c30 => ?_) (fun c30 => absurd (by decide) c30)
  refine Z_lv [2, 3] rfl ?_
  exact lX4_sae A x K n Kc J _ hst hI ((((hF.up (by decide)).up (by decide)).up (by decide)).up (by decide)) (Or.inr ⟨hJ, v, h1, h2, h3, c15, by rw [up2_ne _ _ (by decide), up2_ne _ _ (by decide), up2_eq], by rw [up2_ne _ _ (by decide), up2_eq], by rw [up2_eq], by rw [up2_na _ _ _ (by decide), up2_na _ _ _ (by decide), up2_na _ _ _ (by decide), up2_na _ _ _ (by decide)]; exact h4⟩)
set_option maxRecDepth 100000 in
set_option maxHeartbeats 4000000 in
theorem lX4_sa {G : zG} {l : Launch} {h : Nat → Nat} (A : zM) (x : Nat → Int32) (L K n Kc : Nat) (hL : L ≤ 60) (hC : Cb x) (hG : Good x L K) (hK : pOk x (sq x K)) (hE : pEn x (sq x K) = L) : ∀ (T J : Nat) (mm : zM), J + T = K + 1 → Fms A mm → mm 75 = msR (A 75) n x J → Inv Kc (msR (A 75) n x J) (n + J) → mm 74 15 = nI 0 → Rd mm x L (sq x J) true → (∀ k, k < J → stG (A 75) n x k (nI (10 + (n + k)))) → Z G mX4_signAll (fun _ => True) (zN G (msP h A n K Kc x) 0 0) l 0 0 (zw h mm) 26 [(1, .int (nI J)), (0, .ref (G.1 + 74))] [] := by
  intro T
  induction T with
  | zero =>
    intro J mm hJT hF hr hI h15 hR hst
    refine Z_aload_n 27 1 dX4_signAll_26 rfl rfl ?_
    refine Z_getI 30 dX4_signAll_27 rfl fX4_173 (Nat.le_of_ble_eq_true rfl) rfl rfl ?_
    refine Z_top (congrArg Value.int h15) ?_
    refine Z_if_ne 33 146 dX4_signAll_30 rfl rfl (fun c30 => absurd c30 (fun q => q rfl)) (fun c30 => ?_)
    refine Z_aload_n 34 1 dX4_signAll_33 rfl rfl ?_
    refine Z_getI 37 dX4_signAll_34 rfl fX4_138 (Nat.le_of_ble_eq_true rfl) rfl rfl ?_
    refine Z_top (v' := .int (nI (sq x J))) (congrArg Value.int (hR.2.2.2.1)) ?_
    refine Z_aload_n 38 1 dX4_signAll_37 rfl rfl ?_
    refine Z_getI 41 dX4_signAll_38 rfl fX4_135 (Nat.le_of_ble_eq_true rfl) rfl rfl ?_
    refine Z_top (v' := .int (nI L)) (congrArg Value.int (hR.1)) ?_
    refine Z_icmp_ge 44 146 dX4_signAll_41 rfl rfl (fun c41 => ?_) (fun c41 => absurd (nI_le (by rw [show J = K + 1 by omega]; show L ≤ pEn x (sq x K) + 1; omega) (by rw [show J = K + 1 by omega]; show pEn x (sq x K) + 1 < _; omega)) c41)
    exact lX4_sae A x K n Kc J mm hst hI hF (Or.inl ⟨by omega, h15, hr⟩)
  | succ T ih =>
    intro J mm hJT hF hr hI h15 hR hst
    obtain ⟨hok, hsl, hen⟩ := pOk_K hG hK hE (show J ≤ K by omega)
    refine Z_aload_n 27 1 dX4_signAll_26 rfl rfl ?_
    refine Z_getI 30 dX4_signAll_27 rfl fX4_173 (Nat.le_of_ble_eq_true rfl) rfl rfl ?_
    refine Z_top (congrArg Value.int h15) ?_
    refine Z_if_ne 33 146 dX4_signAll_30 rfl rfl (fun c30 => absurd c30 (fun q => q rfl)) (fun c30 => ?_)
    refine Z_aload_n 34 1 dX4_signAll_33 rfl rfl ?_
    refine Z_getI 37 dX4_signAll_34 rfl fX4_138 (Nat.le_of_ble_eq_true rfl) rfl rfl ?_
    refine Z_top (v' := .int (nI (sq x J))) (congrArg Value.int (hR.2.2.2.1)) ?_
    refine Z_aload_n 38 1 dX4_signAll_37 rfl rfl ?_
    refine Z_getI 41 dX4_signAll_38 rfl fX4_135 (Nat.le_of_ble_eq_true rfl) rfl rfl ?_
    refine Z_top (v' := .int (nI L)) (congrArg Value.int (hR.1)) ?_
    refine Z_icmp_ge 44 146 dX4_signAll_41 rfl rfl (fun c41 => absurd c41 (nI_ge hsl (by omega))) (fun c41 => ?_)
    refine Z_aload_n 45 1 dX4_signAll_44 rfl rfl ?_
    refine Z_getI 48 dX4_signAll_45 rfl fX4_138 (Nat.le_of_ble_eq_true rfl) rfl rfl ?_
    refine Z_top (v' := .int (nI (sq x J))) (congrArg Value.int (hR.2.2.2.1)) ?_
    refine Z_istore_n 49 [(2, _), (1, _), (0, _)] dX4_signAll_48 rfl (Nat.le_of_ble_eq_true rfl) rfl ?_
    refine Z_aload_n 50 2 dX4_signAll_49 rfl rfl ?_
    refine Z_callV 53 [] 4 (zX4_takesPart (m := mm) x L (sq x J) hR (by omega) hC) dX4_signAll_50 rfl qX4_167 kX4_takesPart rfl rfl (Nat.le_of_ble_eq_true rfl) rfl rfl ⟨(Nat.le_of_ble_eq_true rfl), (Nat.le_of_ble_eq_true rfl)⟩ (Nat.le_of_ble_eq_true rfl) ⟨rfl, rfl⟩ ⟨(Nat.le_of_ble_eq_true rfl), (Nat.le_of_ble_eq_true rfl)⟩ (fun r9 w9 hp9 => ?_)
    obtain ⟨m3, B3, rfl, hr8, hF3, hR3, hB3, hE3⟩ := hp9
    cases hr8
    have hB3t := hB3.mpr hok
    subst hB3t
    obtain ⟨e12, e13, e14⟩ := hE3 hok
    refine Z_aload_n 54 2 dX4_signAll_53 rfl rfl ?_
    refine Z_dup 55 dX4_signAll_54 rfl rfl ?_
    refine Z_getI 58 dX4_signAll_55 rfl fX4_138 (Nat.le_of_ble_eq_true rfl) rfl rfl ?_
    refine Z_top (v' := .int (nI (pEn x (sq x J)))) (congrArg Value.int (hR3.2.2.2.1)) ?_
    refine Z_iconst 59 (nI 1) dX4_signAll_58 rfl rfl ?_
    refine Z_iadd 60 dX4_signAll_59 rfl ?_
    refine Z_top (v' := .int (nI (sq x (J + 1)))) (congrArg Value.int (nI_1 _)) ?_
    refine Z_putI 63 .int dX4_signAll_60 rfl fX4_138 ft_4_10 (Nat.le_of_ble_eq_true rfl) rfl rfl rfl rfl ?_
    have hR4 : Rd (up2 m3 74 10 (nI (sq x (J + 1)))) x L (sq x (J + 1)) true := spR hR3 rfl
    have hF4 : Fms A (up2 m3 74 10 (nI (sq x (J + 1)))) := (hF.ft hF3).up (by decide)
    have r4 : (up2 m3 74 10 (nI (sq x (J + 1)))) 75 = msR (A 75) n x J := by rw [up2_na _ _ _ (by decide), hF3.1 75 (by decide)]; exact hr
    have f12 : (up2 m3 74 10 (nI (sq x (J + 1)))) 74 12 = gF x J := by rw [up2_ne _ _ (by decide)]; exact e12
    have f13 : (up2 m3 74 10 (nI (sq x (J + 1)))) 74 13 = gO x J := by rw [up2_ne _ _ (by decide)]; exact e13
    have f14 : (up2 m3 74 10 (nI (sq x (J + 1)))) 74 14 = gD x J := by rw [up2_ne _ _ (by decide)]; exact e14
    have h154 : (up2 m3 74 10 (nI (sq x (J + 1)))) 74 15 = nI 0 := by rw [up2_ne _ _ (by decide), hF3.2 15 (by decide)]; exact h15
    have hk4 : (msR (A 75) n x J) 2 = nI (n + J) := hI.1.1.1
    refine Z_aload_n 64 2 dX4_signAll_63 rfl rfl ?_
    refine Z_aload_n 65 2 dX4_signAll_64 rfl rfl ?_
    refine Z_getI 68 dX4_signAll_65 rfl fX4_155 (Nat.le_of_ble_eq_true rfl) rfl rfl ?_
    refine Z_top (v' := .int (gF x J)) (congrArg Value.int (f12)) ?_
    refine Z_aload_n 69 2 dX4_signAll_68 rfl rfl ?_
    refine Z_getI 72 dX4_signAll_69 rfl fX4_158 (Nat.le_of_ble_eq_true rfl) rfl rfl ?_
    refine Z_top (v' := .int (gO x J)) (congrArg Value.int (f13)) ?_
    refine Z_aload_n 73 2 dX4_signAll_72 rfl rfl ?_
    refine Z_getI 76 dX4_signAll_73 rfl fX4_161 (Nat.le_of_ble_eq_true rfl) rfl rfl ?_
    refine Z_top (v' := .int (gD x J)) (congrArg Value.int (f14)) ?_
    refine Z_callV 79 [_, _, _] 4 (zX4_errorOfSign (m := (up2 m3 74 10 (nI (sq x (J + 1))))) (n + J) (by rw [r4]; exact hk4) hI.n14 _ _ _) dX4_signAll_76 rfl qX4_126 kX4_errorOfSign rfl rfl (Nat.le_of_ble_eq_true rfl) rfl rfl ⟨(Nat.le_of_ble_eq_true rfl), (Nat.le_of_ble_eq_true rfl)⟩ (Nat.le_of_ble_eq_true rfl) ⟨rfl, rfl⟩ ⟨(Nat.le_of_ble_eq_true rfl), (Nat.le_of_ble_eq_true rfl)⟩ (fun r9 w9 hp9 => ?_)
    obtain ⟨rfl, rfl⟩ := hp9
    refine Z_istore_n 80 [(3, _), (2, _), (1, _), (0, _)] dX4_signAll_79 rfl (Nat.le_of_ble_eq_true rfl) rfl ?_
    refine Z_iload_n 81 0 dX4_signAll_80 rfl rfl ?_
    refine Z_if_ge 84 88 dX4_signAll_81 rfl rfl (fun c81 => ?_) (fun c81 => ?_)
    · skip
      have he : esg (n + J) (gF x J) (gO x J) (gD x J) = 0 := by
        refine Decidable.byContradiction (fun z => ?_)
        exact absurd (esg_ge z) (Int32.not_lt.mpr c81)
      obtain ⟨f1, o1, ef, eo, hf, ho, hd1, hd2⟩ := agr_in (esg_agr he).1
      have hn14 : n + J < 14 := (nI_ltI (by have := hI.n14; omega) (by decide)).mp (esg_agr he).2
      refine Z_aload_n 89 3 dX4_signAll_88 rfl rfl ?_
      refine Z_aload_n 90 3 dX4_signAll_89 rfl rfl ?_
      refine Z_getI 93 dX4_signAll_90 rfl fX4_155 (Nat.le_of_ble_eq_true rfl) rfl rfl ?_
      refine Z_top (v' := .int (nI f1)) (congrArg Value.int (f12.trans ef)) ?_
      refine Z_aload_n 94 3 dX4_signAll_93 rfl rfl ?_
      refine Z_getI 97 dX4_signAll_94 rfl fX4_158 (Nat.le_of_ble_eq_true rfl) rfl rfl ?_
      refine Z_top (v' := .int (nI o1)) (congrArg Value.int (f13.trans eo)) ?_
      refine Z_aload_n 98 3 dX4_signAll_97 rfl rfl ?_
      refine Z_getI 101 dX4_signAll_98 rfl fX4_161 (Nat.le_of_ble_eq_true rfl) rfl rfl ?_
      refine Z_top (v' := .int (gD x J)) (congrArg Value.int (f14)) ?_
      refine Z_callV 104 [_, _, _] 4 (zX4_goSign (m := (up2 m3 74 10 (nI (sq x (J + 1))))) (n + J) (by rw [r4]; exact hI.1) f1 o1 hf ho (gD x J) (by omega) hn14) dX4_signAll_101 rfl qX4_129 kX4_goSign rfl rfl (Nat.le_of_ble_eq_true rfl) rfl rfl ⟨(Nat.le_of_ble_eq_true rfl), (Nat.le_of_ble_eq_true rfl)⟩ (Nat.le_of_ble_eq_true rfl) ⟨rfl, rfl⟩ ⟨(Nat.le_of_ble_eq_true rfl), (Nat.le_of_ble_eq_true rfl)⟩ (fun r9 w9 hp9 => ?_)
      rw [r4] at hp9
      obtain ⟨m5, y, rr, hF5, hT, hY, hRs, hq9⟩ := hp9
      have hstp : ∀ v, ((rr = nI 0 ∧ v = nI (10 + (n + J))) ∨ (¬ rr = nI 0 ∧ v = rr)) → stG (A 75) n x J v := fun v hv => Or.inr ⟨he, f1, o1, y, rr, ef, eo, hf, ho, hT, hY, hRs, hv⟩
      have r5 : m5 75 = msR (A 75) n x J := hF5.r.trans r4
      rcases hq9 with ⟨e0, rfl, rfl⟩ | ⟨e0, rfl, rfl⟩
      · skip
        refine Z_istore_n 105 [(3, _), (2, _), (1, _), (0, _)] dX4_signAll_104 rfl (Nat.le_of_ble_eq_true rfl) rfl ?_
        refine Z_iload_n 106 0 dX4_signAll_105 rfl rfl ?_
        refine Z_bipush 108 (nI 10) dX4_signAll_106 rfl rfl ?_
        refine Z_icmp_ge 111 140 dX4_signAll_108 rfl rfl (fun c108 => ?_) (fun c108 => absurd (nI_le (by omega) (by omega)) c108)
        refine Z_iinc 143 [(1, _), (3, _), (2, _), (0, _)] 2 _ dX4_signAll_140 rfl (Nat.le_of_ble_eq_true rfl) rfl (nI_1 _) rfl ?_
        refine Z_goto 26 dX4_signAll_143 rfl ?_
        refine Z_lv [0, 3] rfl ?_
        refine ih (J + 1) _ (by omega) (hF4.fm hF5).ad ?_ ?_ ?_ ?_ ?_
        · rw [ad_75, r5, ← ef, ← eo]
          rfl
        · show Inv Kc (adR (msR (A 75) n x J) (n + J) (gF x J) (gO x J) (gD x J)) (n + J + 1)
          rw [ef, eo]
          exact hI.add hn14 hf ho ⟨hd1, hd2⟩ (rsn_0 hRs e0)
        · rw [ad_q _ _ _ _ _ (by decide), hF5 74 (by decide) (by decide)]
          exact h154
        · refine ⟨?_, hR4.2.1, ?_, ?_, ?_⟩
          · rw [ad_q _ _ _ _ _ (by decide), hF5 74 (by decide) (by decide)]
            exact hR4.1
          · rw [ad_q _ _ _ _ _ (by decide), hF5 79 (by decide) (by decide)]
            exact hR4.2.2.1
          · rw [ad_q _ _ _ _ _ (by decide), hF5 74 (by decide) (by decide)]
            exact hR4.2.2.2.1
          · rw [ad_q _ _ _ _ _ (by decide), hF5 74 (by decide) (by decide)]
            exact hR4.2.2.2.2
        · intro k hk
          rcases Nat.lt_succ_iff_lt_or_eq.mp hk with g | g
          · exact hst k g
          · rw [g]
            exact hstp _ (Or.inl ⟨e0, rfl⟩)
      · skip
        refine Z_istore_n 105 [(3, _), (2, _), (1, _), (0, _)] dX4_signAll_104 rfl (Nat.le_of_ble_eq_true rfl) rfl ?_
        refine Z_iload_n 106 0 dX4_signAll_105 rfl rfl ?_
        refine Z_bipush 108 (nI 10) dX4_signAll_106 rfl rfl ?_
        refine Z_icmp_ge 111 140 dX4_signAll_108 rfl rfl (fun c108 => absurd c108 (by rcases rsn_12 hRs e0 with rfl | rfl <;> decide)) (fun c108 => ?_)
        exact lX4_sas A x K n Kc J _ _ hst hI ((hF4.fm hF5).up (by decide)) (by omega) (hstp _ (Or.inr ⟨e0, rfl⟩)) (by rcases rsn_12 hRs e0 with rfl | rfl <;> decide) (by rcases rsn_12 hRs e0 with rfl | rfl <;> decide) (Or.inr ⟨he, by rw [rf_75, r5]⟩)
    · skip
      have he : ¬ esg (n + J) (gF x J) (gO x J) (gD x J) = 0 := fun z => by
        rw [z] at c81
        exact absurd (by decide) c81
      refine Z_iload_n 85 0 dX4_signAll_84 rfl rfl ?_
      refine Z_goto 104 dX4_signAll_85 rfl ?_
      refine Z_istore_n 105 [(3, _), (2, _), (1, _), (0, _)] dX4_signAll_104 rfl (Nat.le_of_ble_eq_true rfl) rfl ?_
      refine Z_iload_n 106 0 dX4_signAll_105 rfl rfl ?_
      refine Z_bipush 108 (nI 10) dX4_signAll_106 rfl rfl ?_
      refine Z_icmp_ge 111 140 dX4_signAll_108 rfl rfl (fun c108 => absurd c108 (fun z => absurd (esg_lt (n + J) (gF x J) (gO x J) (gD x J)) (Int32.not_lt.mpr z))) (fun c108 => ?_)
      exact lX4_sas A x K n Kc J _ _ hst hI hF4 (by omega) (Or.inl ⟨he, rfl⟩) (esg_lt _ _ _ _) he (Or.inl ⟨he, r4⟩)
theorem Z_mono9 {G : zG} {M : zD} {E : State → Prop} {P P' : Option Value → zW → Prop} {mc ms : Nat} {l : Launch} {k j : Nat} {w : zW} {pc : Nat} {lv : List (Nat × Value)} {st : List Value} (hi : ∀ r w, P r w → P' r w) (h : Z G M E (zN G P mc ms) l k j w pc lv st) : Z G M E (zN G P' mc ms) l k j w pc lv st := by
  intro p e s m args below meth c H locs ls hc hE hb hH hS hl T hT X
  obtain ⟨t, a1, o, b1, b2, ⟨⟨r, w', e1, hP, hH'⟩, hF⟩, b4⟩ := h p e s m args below meth c H locs ls hc hE hb hH hS hl T hT X
  exact ⟨t, a1, o, b1, b2, ⟨⟨r, w', e1, hi r w' hP, hH'⟩, hF⟩, b4⟩
set_option maxRecDepth 100000 in
set_option maxHeartbeats 4000000 in
theorem zX4_signAll {G : zG} {l : Launch} {h : Nat → Nat} {m : zM} (x : Nat → Int32) (L : Nat) (hx9 : x = hx (m 79) L) (hL : L ≤ 60) (hC : Cb x) (hl : m 74 7 = nI L) (s : Nat) (hs : s ≤ 4) (hst : m 74 3 = nI s) (n Kc : Nat) (hI : Inv Kc (m 75) n) : zMet G l yX4_signAll mX4_signAll [.ref (G.1 + 74)] (zw h m) (fun r w => ∃ m2 K v, FtB m m2 ∧ Good x L K ∧ Flt x L K v ∧ ((¬ v = -4 ∧ r = some (.int (-2)) ∧ w = zw h m2) ∨ (v = -4 ∧ pOk x (sq x K) ∧ pEn x (sq x K) = L ∧ msP h (up2 (up2 (recM m2 s) 74 10 (nI 0)) 74 15 (nI 0)) n K Kc x r w))) 0 0 := by
  refine zMet_of [(0, .ref (G.1 + 74))] (by decide +kernel) rfl (Or.inl rfl) (Nat.le_of_ble_eq_true rfl) rfl ?_
  refine Z_aload_n 1 0 dX4_signAll_0 rfl rfl ?_
  refine Z_callV 4 [] 4 (zX4_isText x L hx9 hL hC hl) dX4_signAll_1 rfl qX4_170 kX4_isText rfl rfl (Nat.le_of_ble_eq_true rfl) rfl rfl ⟨(Nat.le_of_ble_eq_true rfl), (Nat.le_of_ble_eq_true rfl)⟩ (Nat.le_of_ble_eq_true rfl) ⟨rfl, rfl⟩ ⟨(Nat.le_of_ble_eq_true rfl), (Nat.le_of_ble_eq_true rfl)⟩ (fun r9 w9 hp9 => ?_)
  obtain ⟨m2, K, B, v, rfl, hF2, hG, hr8, hv, hr9⟩ := hp9
  cases hr8
  rcases hr9 with ⟨rfl, h1, h2, h3⟩ | ⟨rfl, h1, h2⟩
  · skip
    refine Z_if_ne 7 10 dX4_signAll_4 rfl rfl (fun c4 => ?_) (fun c4 => absurd (by decide) c4)
    refine Z_aload_n 11 0 dX4_signAll_10 rfl rfl ?_
    refine Z_callV 14 [] 4 (zX4_records (m := m2) s hs ((hF2.2 3 (by decide)).trans hst)) dX4_signAll_11 rfl qX4_113 kX4_records rfl rfl (Nat.le_of_ble_eq_true rfl) rfl rfl ⟨(Nat.le_of_ble_eq_true rfl), (Nat.le_of_ble_eq_true rfl)⟩ (Nat.le_of_ble_eq_true rfl) ⟨rfl, rfl⟩ ⟨(Nat.le_of_ble_eq_true rfl), (Nat.le_of_ble_eq_true rfl)⟩ (fun r9 w9 hp9 => ?_)
    obtain ⟨rfl, rfl⟩ := hp9
    refine Z_aload_n 15 0 dX4_signAll_14 rfl rfl ?_
    refine Z_iconst 16 (nI 0) dX4_signAll_15 rfl rfl ?_
    refine Z_putI 19 .int dX4_signAll_16 rfl fX4_138 ft_4_10 (Nat.le_of_ble_eq_true rfl) rfl rfl rfl rfl ?_
    refine Z_aload_n 20 0 dX4_signAll_19 rfl rfl ?_
    refine Z_iconst 21 (nI 0) dX4_signAll_20 rfl rfl ?_
    refine Z_putI 24 .boolean dX4_signAll_21 rfl fX4_173 ft_4_15 (Nat.le_of_ble_eq_true rfl) rfl rfl rfl rfl ?_
    refine Z_iconst 25 (nI 0) dX4_signAll_24 rfl rfl ?_
    refine Z_istore_n 26 [(1, _), (0, _)] dX4_signAll_25 rfl (Nat.le_of_ble_eq_true rfl) rfl ?_
    have e75 : (up2 (up2 (recM m2 s) 74 10 (nI 0)) 74 15 (nI 0)) 75 = m 75 := by rw [up2_na _ _ _ (by decide), up2_na _ _ _ (by decide), rec_75, hF2.1 75 (by decide)]
    refine Z_mono9 (fun r w hq => ⟨m2, K, -4, hF2, hG, Or.inr (Or.inl ⟨h1, h2, rfl⟩), Or.inr ⟨rfl, h1, h2, hq⟩⟩) ?_
    refine lX4_sa (up2 (up2 (recM m2 s) 74 10 (nI 0)) 74 15 (nI 0)) x L K n Kc hL hC hG h1 h2 (K + 1) 0 _ (by omega) Fms.rf rfl (by rw [e75]; exact hI) (up2_eq _ _ _ _) ⟨?_, hL, ?_, ?_, ?_⟩ (fun k hk => absurd hk (Nat.not_lt_zero k))
    · rw [up2_ne _ _ (by decide), up2_ne _ _ (by decide), rec_74 _ _ (by decide)]
      exact h3.1
    · rw [up2_na _ _ _ (by decide), up2_na _ _ _ (by decide), recm_q _ _ (by decide) (by decide)]
      exact h3.2.2.1
    · rw [up2_ne _ _ (by decide), up2_eq]
      rfl
    · rw [up2_ne _ _ (by decide), up2_ne _ _ (by decide), rec_74 _ _ (by decide)]
      exact h3.2.2.2.2
  · skip
    refine Z_if_ne 7 10 dX4_signAll_4 rfl rfl (fun c4 => absurd c4 (fun q => q rfl)) (fun c4 => ?_)
    refine Z_bipush 9 (-2) dX4_signAll_7 rfl rfl ?_
    exact Z_iret dX4_signAll_9 rfl ⟨m2, K, v, hF2, hG, h1, Or.inl ⟨h2, rfl, rfl⟩⟩
