/-! signAll -/
/-- what becomes of one treaty that is to be signed beside n: v below 10 is an error or a reason -/
def stp (m : zM) (n : Nat) (f o d v : Int32) : Prop := (¬ esg n f o d = 0 ∧ v = esg n f o d) ∨ (esg n f o d = 0 ∧ ∃ f1 o1 y rr, f = nI f1 ∧ o = nI o1 ∧ f1 < 8 ∧ o1 < 8 ∧ Top (Yb f1) (eB m (pFo m)) n y ∧ (∀ q, q < 8 → y q = zK9 ∨ (-8000 ≤ y q ∧ y q ≤ 8000)) ∧ rsn (Fea (eN m f1 o1 d) (n + 1)) (y o1) d.toInt rr ∧ ((rr = nI 0 ∧ v = nI (10 + n)) ∨ (¬ rr = nI 0 ∧ v = rr)))
theorem esg_agr {n : Nat} {f o d : Int32} (h : esg n f o d = 0) : agr f o d ∧ nI n < nI 14 := by
  by_cases g : agr f o d
  · by_cases g2 : nI n < nI 14
    · exact ⟨g, g2⟩
    · rw [esg_3 g g2] at h
      exact absurd h (by decide)
  · rw [esg_1 g] at h
    exact absurd h (by decide)
theorem agr_in {f o d : Int32} (h : agr f o d) : ∃ f1 o1, f = nI f1 ∧ o = nI o1 ∧ f1 < 8 ∧ o1 < 8 ∧ -30 ≤ d.toInt ∧ d.toInt ≤ 60 := by
  obtain ⟨h1, h2, -, h4, h5⟩ := h
  obtain ⟨f1, a1, a2⟩ := vin (by decide) h1.1 h1.2
  obtain ⟨o1, b1, b2⟩ := vin (by decide) h2.1 h2.2
  rw [i32_lt, show (-30 : Int32).toInt = -30 from rfl] at h4
  rw [i32_lt, show (nI 60).toInt = 60 from rfl] at h5
  exact ⟨f1, o1, a2, b2, a1, b1, by omega, by omega⟩
theorem sOk_add {m : zM} {n f o : Nat} {d : Int32} (hk : sOk m 1 n) (hn : n < 14) (hf : f < 8) (ho : o < 8) : sOk (addM m 1 n (nI f) (nI o) d) 1 (n + 1) := by
  refine ⟨?_, by omega, fun t ht => ?_⟩
  · unfold addM
    rw [up2_ne _ _ (by decide), up2_eq]
  · have e5 : addM m 1 n (nI f) (nI o) d (1 + 5) t = if t = n then nI f else m (1 + 5) t := by
      unfold addM
      rw [up2_na _ _ _ (by decide), up2_na _ _ _ (by decide), up2_na _ _ _ (by decide), up2_na _ _ _ (by decide), up2_na _ _ _ (by decide), up2_ak]
    have e6 : addM m 1 n (nI f) (nI o) d (1 + 6) t = if t = n then nI o else m (1 + 6) t := by
      unfold addM
      rw [up2_na _ _ _ (by decide), up2_na _ _ _ (by decide), up2_na _ _ _ (by decide), up2_na _ _ _ (by decide), up2_ak, up2_na _ _ _ (by decide)]
    unfold sF sO
    rw [e5, e6]
    by_cases g : t = n
    · rw [if_pos g, if_pos g, nI_clamp (by omega), nI_clamp (by omega)]
      exact ⟨⟨rfl, hf⟩, rfl, ho⟩
    · rw [if_neg g, if_neg g]
      exact hk.2.2 t (by omega)
theorem gOk_add {m : zM} {n f o : Nat} {d : Int32} (g : gOk m n) (hn : n < 14) (hf : f < 8) (ho : o < 8) (hd : -30 ≤ d.toInt ∧ d.toInt ≤ 60) (hfe : Fea (eN m f o d) (n + 1)) : gOk (addM m 1 n (nI f) (nI o) d) (n + 1) := by
  obtain ⟨h1, h2, h3, -⟩ := g
  have e8 : ∀ t, addM m 1 n (nI f) (nI o) d 8 t = if t = n then d else m 8 t := fun t => by
    unfold addM
    rw [up2_na _ _ _ (by decide), up2_na _ _ _ (by decide), up2_na _ _ _ (by decide), up2_ak, up2_na _ _ _ (by decide), up2_na _ _ _ (by decide)]
  have e2 : addM m 1 n (nI f) (nI o) d 2 = m 2 := by
    unfold addM
    rw [up2_na _ _ _ (by decide), up2_na _ _ _ (by decide), up2_na _ _ _ (by decide), up2_na _ _ _ (by decide), up2_na _ _ _ (by decide), up2_na _ _ _ (by decide)]
  have hk := sOk_add (d := d) h1 hn hf ho
  refine ⟨hk, fun t ht => ?_, by rw [e2]; exact h3, ?_⟩
  · rw [e8]
    by_cases c : t = n
    · rw [if_pos c]
      exact hd
    · rw [if_neg c]
      exact h2 t (by omega)
  · obtain ⟨z, z1, z2, z3⟩ := FeI.iff.mp hfe
    refine ⟨z, z1, fun t ht _ => ?_⟩
    show z (sF _ 1 t) ≤ z (sO _ 1 t) + (addM m 1 n (nI f) (nI o) d 8 t).toInt
    have e5 : addM m 1 n (nI f) (nI o) d (1 + 5) t = if t = n then nI f else m (1 + 5) t := by
      unfold addM
      rw [up2_na _ _ _ (by decide), up2_na _ _ _ (by decide), up2_na _ _ _ (by decide), up2_na _ _ _ (by decide), up2_na _ _ _ (by decide), up2_ak]
    have e6 : addM m 1 n (nI f) (nI o) d (1 + 6) t = if t = n then nI o else m (1 + 6) t := by
      unfold addM
      rw [up2_na _ _ _ (by decide), up2_na _ _ _ (by decide), up2_na _ _ _ (by decide), up2_na _ _ _ (by decide), up2_ak, up2_na _ _ _ (by decide)]
    unfold sF sO
    rw [e8, e5, e6]
    by_cases c : t = n
    · rw [if_pos c, if_pos c, if_pos c, nI_clamp (by omega), nI_clamp (by omega)]
      exact z2
    · rw [if_neg c, if_neg c, if_neg c]
      exact z3 t (by omega)
theorem addM_o (m : zM) (n : Nat) (f o d : Int32) {q : Nat} (hq : ¬ (1 ≤ q ∧ q ≤ 9)) : addM m 1 n f o d q = m q := by
  unfold addM
  rw [up2_na _ _ _ (by omega), up2_na _ _ _ (by omega), up2_na _ _ _ (by omega), up2_na _ _ _ (by omega), up2_na _ _ _ (by omega), up2_na _ _ _ (by omega)]
theorem addM_congr {m m' : zM} (n : Nat) (f o d : Int32) (h : ∀ q, 1 ≤ q → q ≤ 9 → m' q = m q) (q : Nat) (h1 : 1 ≤ q) (h2 : q ≤ 9) : addM m' 1 n f o d q = addM m 1 n f o d q := by
  funext k
  unfold addM up2
  rw [h q h1 h2, h 1 (by decide) (by decide)]
/-- the street's cells behind k signed treaties -/
def ssM (A : zM) (n : Nat) (F O D : Nat → Int32) : Nat → zM
  | 0 => A
  | k + 1 => addM (ssM A n F O D k) 1 (n + k) (F k) (O k) (D k)
theorem stp_congr {m m' : zM} {n : Nat} {f o d v : Int32} (h : ∀ q, 1 ≤ q → q ≤ 9 → m' q = m q) (hs : stp m n f o d v) : stp m' n f o d v := by
  have eb : eB m' (pFo m') = eB m (pFo m) := by
    funext t
    show (decide (m' 9 t ≤ m' 1 9), sO m' 1 t, sF m' 1 t, (m' 8 t).toInt) = (decide (m 9 t ≤ m 1 9), sO m 1 t, sF m 1 t, (m 8 t).toInt)
    unfold sF sO
    rw [h 9 (by decide) (by decide), h 1 (by decide) (by decide), h 8 (by decide) (by decide), h (1 + 5) (by decide) (by decide), h (1 + 6) (by decide) (by decide)]
  have ef : ∀ f1 o1, Fea (eN m' f1 o1 d) (n + 1) ↔ Fea (eN m f1 o1 d) (n + 1) := fun f1 o1 => by
    rw [FeI.iff, FeI.iff]
    unfold FeI sF sO
    rw [h 8 (by decide) (by decide), h (1 + 5) (by decide) (by decide), h (1 + 6) (by decide) (by decide)]
  rcases hs with hs | ⟨e, f1, o1, y, rr, a1, a2, a3, a4, a5, a6, a7, a8⟩
  · exact Or.inl hs
  · refine Or.inr ⟨e, f1, o1, y, rr, a1, a2, a3, a4, by rw [eb]; exact a5, a6, ?_, a8⟩
    unfold rsn at a7 ⊢
    rw [ef]
    exact a7
theorem esg_lt (n : Nat) (f o d : Int32) : esg n f o d < nI 10 := by
  unfold esg
  split
  · split <;> decide
  · decide
theorem rsn_12 {Pp : Prop} {b d : Int} {r : Int32} (h : rsn Pp b d r) (h0 : ¬ r = nI 0) : r = nI 1 ∨ r = nI 2 := by
  rcases h with ⟨-, h⟩ | ⟨-, -, h⟩ | ⟨-, -, h⟩
  · exact Or.inl h
  · exact Or.inr h
  · exact absurd h h0
theorem rsn_0 {Pp : Prop} {b d : Int} {r : Int32} (h : rsn Pp b d r) (h0 : r = nI 0) : Pp := by
  rcases h with ⟨-, h⟩ | ⟨h, -, -⟩ | ⟨h, -, -⟩
  · rw [h0] at h
    exact absurd h (by decide)
  · exact h
  · exact h
set_option maxRecDepth 100000 in
set_option maxHeartbeats 4000000 in
theorem zX3_signPart {G : zG} {l : Launch} {h : Nat → Nat} {m : zM} (n : Nat) (g9 : gOk m n) (i : Nat) (hi : i < 15) : zMet G l yX3_signPart mX3_signPart [.ref (G.1 + 0), .int (nI i)] (zw h m) (fun r w => ∃ m' v, r = some (.int v) ∧ stp m n (m 71 i) (m 72 i) (m 73 i) v ∧ Fsv m m' ∧ ((¬ esg n (m 71 i) (m 72 i) (m 73 i) = 0 ∧ v < nI 10 ∧ w = zw h m) ∨ (esg n (m 71 i) (m 72 i) (m 73 i) = 0 ∧ v = nI (10 + n) ∧ n < 14 ∧ w = zw h (addM m' 1 n (m 71 i) (m 72 i) (m 73 i)) ∧ gOk (addM m' 1 n (m 71 i) (m 72 i) (m 73 i)) (n + 1)) ∨ (esg n (m 71 i) (m 72 i) (m 73 i) = 0 ∧ (v = nI 1 ∨ v = nI 2) ∧ w = zw h (refM m')))) 0 0 := by
  refine zMet_of [(0, .ref (G.1 + 0)), (1, .int (nI i))] (by decide +kernel) rfl (Or.inl rfl) (Nat.le_of_ble_eq_true rfl) rfl ?_
  refine Z_aload_n 1 0 dX3_signPart_0 rfl rfl ?_
  refine Z_getR 4 dX3_signPart_1 rfl fX3_33 (Nat.le_of_ble_eq_true rfl) rfl rfl ?_
  refine Z_getR 7 dX3_signPart_4 rfl fX3_225 (Nat.le_of_ble_eq_true rfl) rfl rfl ?_
  refine Z_iload_n 8 1 dX3_signPart_7 rfl rfl ?_
  refine Z_ialn 9 dX3_signPart_8 rfl (Nat.le_of_ble_eq_true rfl) rfl (by first | assumption | omega) (by decide) ?_
  refine Z_istore_n 10 [(2, _), (0, _), (1, _)] dX3_signPart_9 rfl (Nat.le_of_ble_eq_true rfl) rfl ?_
  refine Z_aload_n 11 1 dX3_signPart_10 rfl rfl ?_
  refine Z_getR 14 dX3_signPart_11 rfl fX3_33 (Nat.le_of_ble_eq_true rfl) rfl rfl ?_
  refine Z_getR 17 dX3_signPart_14 rfl fX3_226 (Nat.le_of_ble_eq_true rfl) rfl rfl ?_
  refine Z_iload_n 18 2 dX3_signPart_17 rfl rfl ?_
  refine Z_ialn 19 dX3_signPart_18 rfl (Nat.le_of_ble_eq_true rfl) rfl (by first | assumption | omega) (by decide) ?_
  refine Z_istore_n 20 [(3, _), (2, _), (0, _), (1, _)] dX3_signPart_19 rfl (Nat.le_of_ble_eq_true rfl) rfl ?_
  refine Z_aload_n 21 2 dX3_signPart_20 rfl rfl ?_
  refine Z_getR 24 dX3_signPart_21 rfl fX3_33 (Nat.le_of_ble_eq_true rfl) rfl rfl ?_
  refine Z_getR 27 dX3_signPart_24 rfl fX3_227 (Nat.le_of_ble_eq_true rfl) rfl rfl ?_
  refine Z_iload_n 28 3 dX3_signPart_27 rfl rfl ?_
  refine Z_ialn 29 dX3_signPart_28 rfl (Nat.le_of_ble_eq_true rfl) rfl (by first | assumption | omega) (by decide) ?_
  refine Z_istore 31 [(4, _), (3, _), (2, _), (0, _), (1, _)] dX3_signPart_29 rfl (Nat.le_of_ble_eq_true rfl) rfl ?_
  refine Z_aload_n 32 3 dX3_signPart_31 rfl rfl ?_
  refine Z_iload_n 33 2 dX3_signPart_32 rfl rfl ?_
  refine Z_iload_n 34 1 dX3_signPart_33 rfl rfl ?_
  refine Z_iload 36 0 dX3_signPart_34 rfl rfl ?_
  refine Z_callV 39 [_, _, _] 3 (zX3_errorOfSigning n g9.1.1 _ _ _) dX3_signPart_36 rfl qX3_87 kX3_errorOfSigning rfl rfl (Nat.le_of_ble_eq_true rfl) rfl rfl ⟨(Nat.le_of_ble_eq_true rfl), (Nat.le_of_ble_eq_true rfl)⟩ (Nat.le_of_ble_eq_true rfl) ⟨rfl, rfl⟩ ⟨(Nat.le_of_ble_eq_true rfl), (Nat.le_of_ble_eq_true rfl)⟩ (fun r9 w9 hp9 => ?_)
  obtain ⟨rfl, rfl⟩ := hp9
  refine Z_istore 41 [(5, _), (4, _), (3, _), (2, _), (0, _), (1, _)] dX3_signPart_39 rfl (Nat.le_of_ble_eq_true rfl) rfl ?_
  refine Z_iload 43 0 dX3_signPart_41 rfl rfl ?_
  refine Z_if_eq 46 51 dX3_signPart_43 rfl rfl (fun c43 => ?_) (fun c43 => ?_)
  · skip
    obtain ⟨hag, hn14⟩ := esg_agr c43
    have hn : n < 14 := by have := g9.1.2.1; exact (nI_ltI (by omega) (by decide)).mp hn14
    obtain ⟨f1, o1, ef, eo, hf, ho, hd1, hd2⟩ := agr_in hag
    refine Z_aload_n 52 4 dX3_signPart_51 rfl rfl ?_
    refine Z_iload_n 53 3 dX3_signPart_52 rfl rfl ?_
    refine Z_top (congrArg Value.int ef) ?_
    refine Z_iload_n 54 2 dX3_signPart_53 rfl rfl ?_
    refine Z_top (congrArg Value.int eo) ?_
    refine Z_iload 56 1 dX3_signPart_54 rfl rfl ?_
    refine Z_callV 59 [_, _, _] 3 (zX3_signOne n g9 f1 o1 hf ho (m 73 i) ⟨by omega, by omega⟩ hn) dX3_signPart_56 rfl qX3_91 kX3_signOne rfl rfl (Nat.le_of_ble_eq_true rfl) rfl rfl ⟨(Nat.le_of_ble_eq_true rfl), (Nat.le_of_ble_eq_true rfl)⟩ (Nat.le_of_ble_eq_true rfl) ⟨rfl, rfl⟩ ⟨(Nat.le_of_ble_eq_true rfl), (Nat.le_of_ble_eq_true rfl)⟩ (fun r9 w9 hp9 => ?_)
    obtain ⟨m2, y2, rr, hV2, hT2, hY2, hR2, hq9⟩ := hp9
    rcases hq9 with ⟨e1, rfl, rfl⟩ | ⟨e1, rfl, rfl⟩
    · have hg := gOk_add (d := m 73 i) (hV2.gOk g9) hn hf ho ⟨hd1, hd2⟩ (by rw [FeI.iff, FeI.fsv hV2, ← FeI.iff]; exact rsn_0 hR2 e1)
      refine Z_iret dX3_signPart_59 rfl ⟨m2, _, rfl, Or.inr ⟨c43, f1, o1, y2, rr, ef, eo, hf, ho, hT2, hY2, hR2, Or.inl ⟨e1, rfl⟩⟩, hV2, Or.inr (Or.inl ⟨c43, rfl, hn, ?_, ?_⟩)⟩
      · rw [ef, eo]
      · rw [ef, eo]; exact hg
    · exact Z_iret dX3_signPart_59 rfl ⟨m2, _, rfl, Or.inr ⟨c43, f1, o1, y2, rr, ef, eo, hf, ho, hT2, hY2, hR2, Or.inr ⟨e1, rfl⟩⟩, hV2, Or.inr (Or.inr ⟨c43, rsn_12 hR2 e1, rfl⟩)⟩
  · skip
    refine Z_iload 48 0 dX3_signPart_46 rfl rfl ?_
    refine Z_goto 59 dX3_signPart_48 rfl ?_
    exact Z_iret dX3_signPart_59 rfl ⟨m, _, rfl, Or.inl ⟨c43, rfl⟩, Fsv.rf, Or.inl ⟨c43, esg_lt _ _ _ _, rfl⟩⟩

/-- a weaker end -/
theorem Z_wpost {G : zG} {M : zD} {E : State → Prop} {l : Launch} {P P' : Option Value → zW → Prop} {k j k1 j1 : Nat} {w : zW} {pc : Nat} {lv : List (Nat × Value)} {st : List Value} (hPP : ∀ r w, P r w → P' r w) (kk : Z G M E (zN G P k1 j1) l k j w pc lv st) : Z G M E (zN G P' k1 j1) l k j w pc lv st := by
  intro p e s m args below meth c H locs ls hc hE hb hH hS hl T hT X
  obtain ⟨t, a1, o, b1, b2, ⟨⟨r, w', c1, c2, c3⟩, c4⟩, b4⟩ := kk p e s m args below meth c H locs ls hc hE hb hH hS hl T hT X
  exact ⟨t, a1, o, b1, b2, ⟨⟨r, w', c1, hPP r w' c2, c3⟩, c4⟩, b4⟩
/-- but for the street, the surveyor and the last stop, as in A -/
def Fsa (A m : zM) : Prop := (∀ q, ¬ (1 ≤ q ∧ q ≤ 9) → ¬ (56 ≤ q ∧ q < 68) → q ≠ 0 → m q = A q) ∧ ∀ k, ¬ (k = 7 ∨ k = 8 ∨ k = 9) → m 0 k = A 0 k
def Fst (B m : zM) : Prop := ∀ q, 1 ≤ q → q ≤ 9 → m q = B q
abbrev saP (h : Nat → Nat) (A : zM) (n K : Nat) (r : Option Value) (w : zW) : Prop := (∃ J, (∀ k, k < J → stp (ssM A n (A 71) (A 72) (A 73) k) (n + k) (A 71 k) (A 72 k) (A 73 k) (nI (10 + (n + k)))) ∧ r = some (.int (nI J)) ∧ ∃ m', w = zw h (up2 m' 68 1 (nI 0)) ∧ Fsa A m' ∧ ((J = K + 1 ∧ m' 0 7 = nI 0 ∧ Fst (ssM A n (A 71) (A 72) (A 73) J) m') ∨ (J < K + 1 ∧ ∃ v, stp (ssM A n (A 71) (A 72) (A 73) J) (n + J) (A 71 J) (A 72 J) (A 73 J) v ∧ v < nI 10 ∧ ¬ v = 0 ∧ m' 0 7 = v ∧ m' 0 8 = nI J ∧ m' 0 9 = A 70 J ∧ ((¬ esg (n + J) (A 71 J) (A 72 J) (A 73 J) = 0 ∧ Fst (ssM A n (A 71) (A 72) (A 73) J) m') ∨ (esg (n + J) (A 71 J) (A 72 J) (A 73 J) = 0 ∧ Fst (refM (ssM A n (A 71) (A 72) (A 73) J)) m')))))
set_option maxRecDepth 100000 in
set_option maxHeartbeats 4000000 in
theorem lX3_sa93 {G : zG} {l : Launch} {h : Nat → Nat} (A : zM) (n K : Nat) (hK : K < 15) (hp : A 68 6 = nI (K + 1)) (c i : Nat) (mm : zM) (kk : (saP h A n K) (some (.int (nI c))) (zw h (up2 mm 68 1 (nI 0)))) : Z G mX3_signAll (fun _ => True) (zN G ((saP h A n K)) 0 0) l 0 0 (zw h mm) 93 [(2, .int (nI (i))), (1, .int (nI (c))), (0, .ref (G.1 + 0))] [] := by
  refine Z_aload_n 94 2 dX3_signAll_93 rfl rfl ?_
  refine Z_getR 97 dX3_signAll_94 rfl fX3_33 (Nat.le_of_ble_eq_true rfl) rfl rfl ?_
  refine Z_iconst 98 (nI 0) dX3_signAll_97 rfl rfl ?_
  refine Z_putI 101 .int dX3_signAll_98 rfl fX3_116 ft_0_1 (Nat.le_of_ble_eq_true rfl) rfl rfl rfl rfl ?_
  refine Z_iload_n 102 1 dX3_signAll_101 rfl rfl ?_
  exact Z_iret dX3_signAll_102 rfl kk
set_option maxRecDepth 100000 in
set_option maxHeartbeats 4000000 in
theorem lX3_sastop {G : zG} {l : Launch} {h : Nat → Nat} (A : zM) (n K : Nat) (hK : K < 15) (hp : A 68 6 = nI (K + 1)) (c i : Nat) (hi : i ≤ K + 1) (mm : zM) (hF : Fsa A mm) (h7 : ¬ mm 0 7 = 0) (kk : (saP h A n K) (some (.int (nI c))) (zw h (up2 mm 68 1 (nI 0)))) : Z G mX3_signAll (fun _ => True) (zN G ((saP h A n K)) 0 0) l 0 0 (zw h mm) 28 [(2, .int (nI (i))), (1, .int (nI (c))), (0, .ref (G.1 + 0))] [] := by
  refine Z_iload_n 29 0 dX3_signAll_28 rfl rfl ?_
  refine Z_aload_n 30 2 dX3_signAll_29 rfl rfl ?_
  refine Z_getR 33 dX3_signAll_30 rfl fX3_33 (Nat.le_of_ble_eq_true rfl) rfl rfl ?_
  refine Z_getI 36 dX3_signAll_33 rfl fX3_129 (Nat.le_of_ble_eq_true rfl) rfl rfl ?_
  refine Z_top (congrArg Value.int ((congrFun (hF.1 68 (by decide) (by decide) (by decide)) 6).trans hp)) ?_
  refine Z_icmp_ge 39 93 dX3_signAll_36 rfl rfl (fun c36 => ?_) (fun c36 => ?_)
  · skip
    exact lX3_sa93 A n K hK hp c i mm kk
  · skip
    refine Z_aload_n 40 2 dX3_signAll_39 rfl rfl ?_
    refine Z_getI 43 dX3_signAll_40 rfl fX3_126 (Nat.le_of_ble_eq_true rfl) rfl rfl ?_
    refine Z_if_ne 46 93 dX3_signAll_43 rfl rfl (fun c43 => ?_) (fun c43 => absurd (h7) c43)
    exact lX3_sa93 A n K hK hp c i mm kk
set_option maxRecDepth 100000 in
set_option maxHeartbeats 4000000 in
theorem lX3_sa {G : zG} {l : Launch} {h : Nat → Nat} (A : zM) (n K : Nat) (hK : K < 15) (hp : A 68 6 = nI (K + 1)) (hn : n ≤ 14) : ∀ (t i : Nat), i + t = K + 1 → ∀ mm : zM, Fsa A mm → Fst (ssM A n (A 71) (A 72) (A 73) i) mm → mm 0 7 = nI 0 → gOk mm (n + i) → (∀ k, k < i → stp (ssM A n (A 71) (A 72) (A 73) k) (n + k) (A 71 k) (A 72 k) (A 73 k) (nI (10 + (n + k)))) → Z G mX3_signAll (fun _ => True) (zN G ((saP h A n K)) 0 0) l 0 0 (zw h mm) 28 [(2, .int (nI (i))), (1, .int (nI (i))), (0, .ref (G.1 + 0))] [] := by
  intro t
  induction t with
  | zero =>
    intro i hi mm hF hS h7 g9 hI
    have e9 : i = K + 1 := by omega
    subst e9
    refine Z_iload_n 29 0 dX3_signAll_28 rfl rfl ?_
    refine Z_aload_n 30 2 dX3_signAll_29 rfl rfl ?_
    refine Z_getR 33 dX3_signAll_30 rfl fX3_33 (Nat.le_of_ble_eq_true rfl) rfl rfl ?_
    refine Z_getI 36 dX3_signAll_33 rfl fX3_129 (Nat.le_of_ble_eq_true rfl) rfl rfl ?_
    refine Z_top (congrArg Value.int ((congrFun (hF.1 68 (by decide) (by decide) (by decide)) 6).trans hp)) ?_
    refine Z_icmp_ge 39 93 dX3_signAll_36 rfl rfl (fun c36 => ?_) (fun c36 => absurd (nI_le (Nat.le_refl _) (by omega)) c36)
    exact lX3_sa93 A n K hK hp _ _ mm ⟨K + 1, hI, rfl, mm, rfl, hF, Or.inl ⟨rfl, h7, hS⟩⟩
  | succ t ih =>
    intro i hi mm hF hS h7 g9 hI
    have hlt : i < K + 1 := by omega
    refine Z_iload_n 29 0 dX3_signAll_28 rfl rfl ?_
    refine Z_aload_n 30 2 dX3_signAll_29 rfl rfl ?_
    refine Z_getR 33 dX3_signAll_30 rfl fX3_33 (Nat.le_of_ble_eq_true rfl) rfl rfl ?_
    refine Z_getI 36 dX3_signAll_33 rfl fX3_129 (Nat.le_of_ble_eq_true rfl) rfl rfl ?_
    refine Z_top (congrArg Value.int ((congrFun (hF.1 68 (by decide) (by decide) (by decide)) 6).trans hp)) ?_
    refine Z_icmp_ge 39 93 dX3_signAll_36 rfl rfl (fun c36 => absurd c36 (nI_ge hlt (by omega))) (fun c36 => ?_)
    refine Z_aload_n 40 2 dX3_signAll_39 rfl rfl ?_
    refine Z_getI 43 dX3_signAll_40 rfl fX3_126 (Nat.le_of_ble_eq_true rfl) rfl rfl ?_
    refine Z_top (congrArg Value.int h7) ?_
    refine Z_if_ne 46 93 dX3_signAll_43 rfl rfl (fun c43 => absurd c43 (fun z => z rfl)) (fun c43 => ?_)
    refine Z_aload_n 47 2 dX3_signAll_46 rfl rfl ?_
    refine Z_iload_n 48 0 dX3_signAll_47 rfl rfl ?_
    refine Z_callV 51 [_] 3 (zX3_signPart (m := mm) (n + i) g9 i (by omega)) dX3_signAll_48 rfl qX3_132 kX3_signPart rfl rfl (Nat.le_of_ble_eq_true rfl) rfl rfl ⟨(Nat.le_of_ble_eq_true rfl), (Nat.le_of_ble_eq_true rfl)⟩ (Nat.le_of_ble_eq_true rfl) ⟨rfl, rfl⟩ ⟨(Nat.le_of_ble_eq_true rfl), (Nat.le_of_ble_eq_true rfl)⟩ (fun r9 w9 hp9 => ?_)
    obtain ⟨m2, v, rfl, hst9, hV2, hq9⟩ := hp9
    have e70 := hF.1 70 (by decide) (by decide) (by decide)
    have e71 := hF.1 71 (by decide) (by decide) (by decide)
    have e72 := hF.1 72 (by decide) (by decide) (by decide)
    have e73 := hF.1 73 (by decide) (by decide) (by decide)
    rw [e71, e72, e73] at hst9 hq9
    have hst8 := stp_congr (m' := (ssM A n (A 71) (A 72) (A 73) i)) (fun q h1 h2 => (hS q h1 h2).symm) hst9
    rcases hq9 with ⟨ez, hv10, rfl⟩ | ⟨ez, rfl, hn14, rfl, hgg⟩ | ⟨ez, hv12, rfl⟩
    · have hv0 : ¬ v = 0 := by
        rcases hst8 with ⟨-, b⟩ | ⟨b, -⟩
        · rw [b]; exact ez
        · exact absurd b ez
      have hA9 := hF
      have hS9 := hS
      refine Z_istore_n 52 [(3, _), (2, _), (1, _), (0, _)] dX3_signAll_51 rfl (Nat.le_of_ble_eq_true rfl) rfl ?_
      refine Z_iload_n 53 0 dX3_signAll_52 rfl rfl ?_
      refine Z_bipush 55 (nI 10) dX3_signAll_53 rfl rfl ?_
      refine Z_icmp_lt 58 64 dX3_signAll_55 rfl rfl (fun _ => ?_) (fun z => absurd hv10 z)
      refine Z_aload_n 65 3 dX3_signAll_64 rfl rfl ?_
      refine Z_iload_n 66 0 dX3_signAll_65 rfl rfl ?_
      refine Z_putI 69 .int dX3_signAll_66 rfl fX3_126 ft_3_7 (Nat.le_of_ble_eq_true rfl) rfl rfl rfl rfl ?_
      refine Z_aload_n 70 3 dX3_signAll_69 rfl rfl ?_
      refine Z_iload_n 71 1 dX3_signAll_70 rfl rfl ?_
      refine Z_putI 74 .int dX3_signAll_71 rfl fX3_135 ft_3_8 (Nat.le_of_ble_eq_true rfl) rfl rfl rfl rfl ?_
      refine Z_aload_n 75 3 dX3_signAll_74 rfl rfl ?_
      refine Z_aload_n 76 3 dX3_signAll_75 rfl rfl ?_
      refine Z_getR 79 dX3_signAll_76 rfl fX3_33 (Nat.le_of_ble_eq_true rfl) rfl rfl ?_
      refine Z_getR 82 dX3_signAll_79 rfl fX3_138 (Nat.le_of_ble_eq_true rfl) rfl rfl ?_
      refine Z_iload_n 83 1 dX3_signAll_82 rfl rfl ?_
      refine Z_ialn 84 dX3_signAll_83 rfl (Nat.le_of_ble_eq_true rfl) rfl (by omega) (by decide) ?_
      refine Z_top (v' := .int (A 70 i)) (congrArg Value.int (by rw [up2_na _ _ _ (by decide), up2_na _ _ _ (by decide)]; exact congrFun e70 i)) ?_
      refine Z_putI 87 .int dX3_signAll_84 rfl fX3_141 ft_3_9 (Nat.le_of_ble_eq_true rfl) rfl rfl rfl rfl ?_
      refine Z_iinc 90 [(2, _), (3, _), (1, _), (0, _)] 1 _ dX3_signAll_87 rfl (Nat.le_of_ble_eq_true rfl) rfl (nI_1 _) rfl ?_
      refine Z_goto 28 dX3_signAll_90 rfl ?_
      refine Z_lv [0, 2, 3] rfl ?_
      refine lX3_sastop A n K hK hp i (i + 1) (by omega) _ ⟨fun q q1 q2 q3 => ?_, fun k hk => ?_⟩ ?_ ?_
      · rw [up2_na _ _ _ q3, up2_na _ _ _ q3, up2_na _ _ _ q3]
        exact hA9.1 q q1 q2 q3
      · rw [up2_ne _ _ (by omega), up2_ne _ _ (by omega), up2_ne _ _ (by omega)]
        exact hA9.2 k hk
      · rw [up2_ne _ _ (by decide), up2_ne _ _ (by decide), up2_eq]
        exact hv0
      · refine ⟨i, hI, rfl, _, rfl, ⟨fun q q1 q2 q3 => ?_, fun k hk => ?_⟩, Or.inr ⟨hlt, _, hst8, hv10, hv0, ?_, ?_, ?_, ?_⟩⟩
        · rw [up2_na _ _ _ q3, up2_na _ _ _ q3, up2_na _ _ _ q3]
          exact hA9.1 q q1 q2 q3
        · rw [up2_ne _ _ (by omega), up2_ne _ _ (by omega), up2_ne _ _ (by omega)]
          exact hA9.2 k hk
        · rw [up2_ne _ _ (by decide), up2_ne _ _ (by decide), up2_eq]
        · rw [up2_ne _ _ (by decide), up2_eq]
        · rw [up2_eq]
        · refine Or.inl ⟨ez, (fun q q1 q2 => ?_)⟩
          rw [up2_na _ _ _ (by omega), up2_na _ _ _ (by omega), up2_na _ _ _ (by omega)]
          exact hS9 q q1 q2
    · skip
      refine Z_istore_n 52 [(3, _), (2, _), (1, _), (0, _)] dX3_signAll_51 rfl (Nat.le_of_ble_eq_true rfl) rfl ?_
      refine Z_iload_n 53 0 dX3_signAll_52 rfl rfl ?_
      refine Z_bipush 55 (nI 10) dX3_signAll_53 rfl rfl ?_
      refine Z_icmp_lt 58 64 dX3_signAll_55 rfl rfl (fun z => absurd z (Int32.not_lt.mpr (nI_le (show 10 ≤ 10 + (n + i) by omega) (by omega)))) (fun _ => ?_)
      refine Z_iinc 61 [(1, _), (3, _), (2, _), (0, _)] 2 _ dX3_signAll_58 rfl (Nat.le_of_ble_eq_true rfl) rfl (nI_1 i) rfl ?_
      refine Z_goto 87 dX3_signAll_61 rfl ?_
      refine Z_iinc 90 [(2, _), (1, _), (3, _), (0, _)] 2 _ dX3_signAll_87 rfl (Nat.le_of_ble_eq_true rfl) rfl (nI_1 i) rfl ?_
      refine Z_goto 28 dX3_signAll_90 rfl ?_
      refine Z_lv [0, 1, 3] rfl ?_
      refine ih (i + 1) (by omega) _ ⟨fun q q1 q2 q3 => ?_, fun k hk => ?_⟩ (fun q q1 q2 => ?_) ?_ hgg ?_
      · rw [addM_o _ _ _ _ _ q1, hV2 q (by omega)]
        exact hF.1 q q1 q2 q3
      · rw [addM_o _ _ _ _ _ (by decide), hV2 0 (by decide)]
        exact hF.2 k hk
      · exact addM_congr (n + i) _ _ _ (fun q h1 h2 => (hV2 q (by omega)).trans (hS q h1 h2)) q q1 q2
      · rw [addM_o _ _ _ _ _ (by decide), hV2 0 (by decide)]
        exact h7
      · intro k hk
        by_cases g : k < i
        · exact hI k g
        · have e : k = i := by omega
          subst e
          exact hst8
    · have hv10 : v < nI 10 := by rcases hv12 with q | q <;> rw [q] <;> decide
      have hv0 : ¬ v = 0 := by rcases hv12 with q | q <;> rw [q] <;> decide
      have hA9 : Fsa A (refM m2) := ⟨fun q q1 q2 q3 => by unfold refM; rw [up2_na _ _ _ (by omega), hV2 q (by omega)]; exact hF.1 q q1 q2 q3, fun k hk => by unfold refM; rw [up2_na _ _ _ (by decide), hV2 0 (by decide)]; exact hF.2 k hk⟩
      have hS9 : Fst (refM (ssM A n (A 71) (A 72) (A 73) i)) (refM m2) := fun q q1 q2 => by
        funext k
        unfold refM up2
        rw [hV2 q (by omega), hV2 1 (by decide), hS q q1 q2, hS 1 (by decide) (by decide)]
      have e70' : refM m2 70 = A 70 := by unfold refM; rw [up2_na _ _ _ (by decide), hV2 70 (by decide)]; exact e70
      refine Z_istore_n 52 [(3, _), (2, _), (1, _), (0, _)] dX3_signAll_51 rfl (Nat.le_of_ble_eq_true rfl) rfl ?_
      refine Z_iload_n 53 0 dX3_signAll_52 rfl rfl ?_
      refine Z_bipush 55 (nI 10) dX3_signAll_53 rfl rfl ?_
      refine Z_icmp_lt 58 64 dX3_signAll_55 rfl rfl (fun _ => ?_) (fun z => absurd hv10 z)
      refine Z_aload_n 65 3 dX3_signAll_64 rfl rfl ?_
      refine Z_iload_n 66 0 dX3_signAll_65 rfl rfl ?_
      refine Z_putI 69 .int dX3_signAll_66 rfl fX3_126 ft_3_7 (Nat.le_of_ble_eq_true rfl) rfl rfl rfl rfl ?_
      refine Z_aload_n 70 3 dX3_signAll_69 rfl rfl ?_
      refine Z_iload_n 71 1 dX3_signAll_70 rfl rfl ?_
      refine Z_putI 74 .int dX3_signAll_71 rfl fX3_135 ft_3_8 (Nat.le_of_ble_eq_true rfl) rfl rfl rfl rfl ?_
      refine Z_aload_n 75 3 dX3_signAll_74 rfl rfl ?_
      refine Z_aload_n 76 3 dX3_signAll_75 rfl rfl ?_
      refine Z_getR 79 dX3_signAll_76 rfl fX3_33 (Nat.le_of_ble_eq_true rfl) rfl rfl ?_
      refine Z_getR 82 dX3_signAll_79 rfl fX3_138 (Nat.le_of_ble_eq_true rfl) rfl rfl ?_
      refine Z_iload_n 83 1 dX3_signAll_82 rfl rfl ?_
      refine Z_ialn 84 dX3_signAll_83 rfl (Nat.le_of_ble_eq_true rfl) rfl (by omega) (by decide) ?_
      refine Z_top (v' := .int (A 70 i)) (congrArg Value.int (by rw [up2_na _ _ _ (by decide), up2_na _ _ _ (by decide)]; exact congrFun e70' i)) ?_
      refine Z_putI 87 .int dX3_signAll_84 rfl fX3_141 ft_3_9 (Nat.le_of_ble_eq_true rfl) rfl rfl rfl rfl ?_
      refine Z_iinc 90 [(2, _), (3, _), (1, _), (0, _)] 1 _ dX3_signAll_87 rfl (Nat.le_of_ble_eq_true rfl) rfl (nI_1 _) rfl ?_
      refine Z_goto 28 dX3_signAll_90 rfl ?_
      refine Z_lv [0, 2, 3] rfl ?_
      refine lX3_sastop A n K hK hp i (i + 1) (by omega) _ ⟨fun q q1 q2 q3 => ?_, fun k hk => ?_⟩ ?_ ?_
      · rw [up2_na _ _ _ q3, up2_na _ _ _ q3, up2_na _ _ _ q3]
        exact hA9.1 q q1 q2 q3
      · rw [up2_ne _ _ (by omega), up2_ne _ _ (by omega), up2_ne _ _ (by omega)]
        exact hA9.2 k hk
      · rw [up2_ne _ _ (by decide), up2_ne _ _ (by decide), up2_eq]
        exact hv0
      · refine ⟨i, hI, rfl, _, rfl, ⟨fun q q1 q2 q3 => ?_, fun k hk => ?_⟩, Or.inr ⟨hlt, _, hst8, hv10, hv0, ?_, ?_, ?_, ?_⟩⟩
        · rw [up2_na _ _ _ q3, up2_na _ _ _ q3, up2_na _ _ _ q3]
          exact hA9.1 q q1 q2 q3
        · rw [up2_ne _ _ (by omega), up2_ne _ _ (by omega), up2_ne _ _ (by omega)]
          exact hA9.2 k hk
        · rw [up2_ne _ _ (by decide), up2_ne _ _ (by decide), up2_eq]
        · rw [up2_ne _ _ (by decide), up2_eq]
        · rw [up2_eq]
        · refine Or.inr ⟨ez, (fun q q1 q2 => ?_)⟩
          rw [up2_na _ _ _ (by omega), up2_na _ _ _ (by omega), up2_na _ _ _ (by omega)]
          exact hS9 q q1 q2
theorem Fpd.st {m m1 : zM} (h : Fpd m m1) (q : Nat) (hq : q < 68) : m1 q = m q := h.1 q (by omega)
theorem mRem_pd {h : Nat → Nat} {m : zM} {s : Nat} (hh : hOk h) {q : Nat} (hq : 68 ≤ q) : mRem h m s q = m q := mRem_o hh (by omega) (Or.inr (by omega))
set_option maxRecDepth 100000 in
set_option maxHeartbeats 4000000 in
theorem zX3_signAll {G : zG} {l : Launch} {h : Nat → Nat} {m : zM} (s : Nat) (hs : s ≤ 4) (hst : m 0 5 = nI s) (hh : hOk h) (n : Nat) (L : Nat) (hL : m 68 1 = nI L) (hL60 : L ≤ 60) (g9 : ∀ m1 : zM, Fpd m m1 → gOk (up2 (mRem h m1 s) 0 7 (nI 0)) n) : zMet G l yX3_signAll mX3_signAll [.ref (G.1 + 0)] (zw h m) (fun r w => ∃ m1 K v, Fpd m m1 ∧ Good (hx (m 69) L) L K ∧ Flt (hx (m 69) L) L K v ∧ ((¬ v = -4 ∧ r = some (.int (-2)) ∧ w = zw h m1) ∨ (v = -4 ∧ m1 68 6 = nI (K + 1) ∧ RP (hx (m 69) L) m1 (K + 1) ∧ K < 15 ∧ saP (hRem h s) (up2 (mRem h m1 s) 0 7 (nI 0)) n K r w))) 0 0 := by
  refine zMet_of [(0, .ref (G.1 + 0))] (by decide +kernel) rfl (Or.inl rfl) (Nat.le_of_ble_eq_true rfl) rfl ?_
  refine Z_aload_n 1 0 dX3_signAll_0 rfl rfl ?_
  refine Z_getR 4 dX3_signAll_1 rfl fX3_33 (Nat.le_of_ble_eq_true rfl) rfl rfl ?_
  refine Z_callV 7 [] 0 (zX0_read L hL hL60) dX3_signAll_4 rfl qX3_122 kX0_read rfl rfl (Nat.le_of_ble_eq_true rfl) rfl rfl ⟨(Nat.le_of_ble_eq_true rfl), (Nat.le_of_ble_eq_true rfl)⟩ (Nat.le_of_ble_eq_true rfl) ⟨rfl, rfl⟩ ⟨(Nat.le_of_ble_eq_true rfl), (Nat.le_of_ble_eq_true rfl)⟩ (fun r9 w9 hp9 => ?_)
  obtain ⟨m1, K, v, rfl, hF2, hG2, rfl, hv2, hr2⟩ := hp9
  refine Z_bipush 9 (-4) dX3_signAll_7 rfl rfl ?_
  refine Z_icmp_eq 12 15 dX3_signAll_9 rfl rfl (fun c9 => ?_) (fun c9 => ?_)
  · skip
    subst c9
    obtain ⟨hp6, hrp, hK⟩ := hr2 rfl
    have hst1 : m1 0 5 = nI s := by rw [hF2.st 0 (by decide)]; exact hst
    refine Z_aload_n 16 0 dX3_signAll_15 rfl rfl ?_
    refine Z_callV 19 [] 3 (zX3_remember s hs hst1 hh) dX3_signAll_16 rfl qX3_41 kX3_remember rfl rfl (Nat.le_of_ble_eq_true rfl) rfl rfl ⟨(Nat.le_of_ble_eq_true rfl), (Nat.le_of_ble_eq_true rfl)⟩ (Nat.le_of_ble_eq_true rfl) ⟨rfl, rfl⟩ ⟨(Nat.le_of_ble_eq_true rfl), (Nat.le_of_ble_eq_true rfl)⟩ (fun r9 w9 hp9 => ?_)
    obtain ⟨rfl, rfl⟩ := hp9
    refine Z_aload_n 20 0 dX3_signAll_19 rfl rfl ?_
    refine Z_iconst 21 (nI 0) dX3_signAll_20 rfl rfl ?_
    refine Z_putI 24 .int dX3_signAll_21 rfl fX3_126 ft_3_7 (Nat.le_of_ble_eq_true rfl) rfl rfl rfl rfl ?_
    refine Z_iconst 25 (nI 0) dX3_signAll_24 rfl rfl ?_
    refine Z_istore_n 26 [(1, _), (0, _)] dX3_signAll_25 rfl (Nat.le_of_ble_eq_true rfl) rfl ?_
    refine Z_iconst 27 (nI 0) dX3_signAll_26 rfl rfl ?_
    refine Z_istore_n 28 [(2, _), (1, _), (0, _)] dX3_signAll_27 rfl (Nat.le_of_ble_eq_true rfl) rfl ?_
    refine Z_wpost (fun r w hsa => ⟨m1, K, -4, hF2, hG2, hv2, Or.inr ⟨rfl, hp6, hrp, hK, hsa⟩⟩) ?_
    refine lX3_sa (up2 (mRem h m1 s) 0 7 (nI 0)) n K hK (by rw [up2_na _ _ _ (by decide), mRem_pd hh (by decide)]; exact hp6) (g9 m1 hF2).1.2.1 (K + 1) 0 (by omega) _ ⟨fun _ _ _ _ => rfl, fun _ _ => rfl⟩ (fun _ _ _ => rfl) (up2_eq _ _ _ _) (g9 m1 hF2) (fun k hk => absurd hk (Nat.not_lt_zero k))
  · skip
    refine Z_bipush 14 (-2) dX3_signAll_12 rfl rfl ?_
    exact Z_iret dX3_signAll_14 rfl ⟨m1, K, v, hF2, hG2, hv2, Or.inl ⟨c9, rfl, rfl⟩⟩
