/-! the least clipping by treaties; whether a treaty is possible -/
theorem Lv.mono {m : zM} {c : Nat} {y : Nat → Int} {b b' : Int} (h : Lv m c y b) (hb : b ≤ b') : Lv m c y b' := fun q hq => by
  have := h q hq
  omega
def HgtY (f : Nat → Int32) : Nat → Int := fun q => if q < 8 then (f q).toInt else 0
def Y99 : Nat → Int := fun q => if q < 8 then 99 else 0
def setM (m : zM) (i : Nat) : zM := fun q k => if q = 57 ∧ k < i then m 2 k else m q k
theorem setM_step (m : zM) (i : Nat) : up2 (setM m i) 57 i (m 2 i) = setM m (i + 1) := by
  funext q k
  unfold up2 setM
  by_cases h1 : q = 57
  · subst h1
    by_cases h2 : k = i
    · subst h2
      simp
    · by_cases h3 : k < i
      · simp [h2, h3, Nat.lt_succ_of_lt h3]
      · have h4 : ¬ k < i + 1 := by omega
        simp [h2, h3, h4]
  · simp [h1]
theorem setM_fr (m : zM) (i : Nat) : Fr 57 m (setM m i) := fun q hq => by
  funext k
  simp [setM, hq]
def set99 (m : zM) (i : Nat) : zM := fun q k => if q = 57 ∧ k < i then nI 99 else m q k
theorem set99_step (m : zM) (i : Nat) : up2 (set99 m i) 57 i (nI 99) = set99 m (i + 1) := by
  funext q k
  unfold up2 set99
  by_cases h1 : q = 57
  · subst h1
    by_cases h2 : k = i
    · subst h2
      simp
    · by_cases h3 : k < i
      · simp [h2, h3, Nat.lt_succ_of_lt h3]
      · have h4 : ¬ k < i + 1 := by omega
        simp [h2, h3, h4]
  · simp [h1]
theorem set99_fr (m : zM) (i : Nat) : Fr 57 m (set99 m i) := fun q hq => by
  funext k
  simp [set99, hq]
theorem eL_fr {m mm : zM} {fl : Nat} (hF : Fr 57 m mm) : eL mm (fun t => decide (fl = 1 ∨ sForce mm 1 t)) = eL m (fun t => decide (fl = 1 ∨ sForce m 1 t)) := by
  funext t
  unfold eL sForce sF sO
  rw [hF (1 + 8) (by decide), hF 1 (by decide), hF (1 + 5) (by decide), hF (1 + 6) (by decide), hF 8 (by decide)]
theorem sOk_fr {m mm : zM} {n c : Nat} (hc : 9 < c) (hF : Fr c m mm) (hk : sOk m 1 n) : sOk mm 1 n :=
  sOk_congr (by rw [hF 1 (by omega)]) (fun k _ => by rw [hF (1 + 5) (by omega)]) (fun k _ => by rw [hF (1 + 6) (by omega)]) hk
theorem dOk_fr {m mm : zM} {n c : Nat} (hc : 9 < c) (hF : Fr c m mm) (hd : dOk m n) : dOk mm n := fun t ht => by
  rw [hF 8 (by omega)]
  exact hd t ht
def EdOk (e : Nat → Ed) (n : Nat) : Prop := ∀ t, t < n → (e t).1 = true → (e t).2.1 < 8 ∧ (e t).2.2.1 < 8 ∧ -60 ≤ (e t).2.2.2 ∧ (e t).2.2.2 ≤ 60
def Fea (e : Nat → Ed) (n : Nat) : Prop := ∃ z : Nat → Int, (∀ q, q < 8 → 0 ≤ z q ∧ z q ≤ 99) ∧ ∀ t, t < n → (e t).1 = true → z (e t).2.1 ≤ z (e t).2.2.1 + (e t).2.2.2
theorem Fea.pot {e : Nat → Ed} {n : Nat} (he : EdOk e n) (h : Fea e n) : ∃ f, Pot e n f := by
  obtain ⟨z, h1, h2⟩ := h
  exact ⟨z, fun t ht hp => ⟨(he t ht hp).1, (he t ht hp).2.1, h2 t ht hp⟩⟩
theorem Fea.cut {e : Nat → Ed} {n : Nat} (he : EdOk e n) (h : Fea e n) : ∃ z : Nat → Int, (∀ q, q < 8 → 0 ≤ z q ∧ z q ≤ 99) ∧ (∀ q, ¬ q < 8 → z q = 0) ∧ Fx z e n := by
  obtain ⟨z, h1, h2⟩ := h
  refine ⟨fun q => if q < 8 then z q else 0, fun q hq => ?_, fun q hq => if_neg hq, fun t ht hp _ => ?_⟩
  · simp only [hq, if_true]
    exact h1 q hq
  · obtain ⟨a1, a2, -⟩ := he t ht hp
    have := h2 t ht hp
    simp only [a1, a2, if_true]
    exact this
theorem eL_ok {m : zM} {n : Nat} {p : Nat → Bool} (hk : sOk m 1 n) (hd : dOk m n) : EdOk (eL m p) n := fun t ht _ => by
  have a1 := hk.2.2 t ht
  have a2 := hd t ht
  refine ⟨a1.1.2, a1.2.2, ?_, ?_⟩
  · show -60 ≤ (m 8 t).toInt
    omega
  · show (m 8 t).toInt ≤ 60
    omega
set_option maxRecDepth 100000 in
set_option maxHeartbeats 4000000 in
theorem lX2_flc53 {G : zG} {l : Launch} {h : Nat → Nat} {m : zM} (n : Nat) (hk : sOk m 1 n) (hd : dOk m n) (hh0 : ∀ q, q < 8 → 0 ≤ (m 2 q).toInt ∧ (m 2 q).toInt ≤ 99) (f9 : Nat → Int) (hp : Pot (eL m (fun t => decide (0 = 1 ∨ sForce m 1 t))) n f9) (i : Nat) (mm : zM) (hF : Fr 57 m mm) (hL : Lv mm 57 (sk (HgtY (m 2)) (eL m (fun t => decide (0 = 1 ∨ sForce m 1 t))) n i) 20000) (hx : Fx (sk (HgtY (m 2)) (eL m (fun t => decide (0 = 1 ∨ sForce m 1 t))) n i) (eL m (fun t => decide (0 = 1 ∨ sForce m 1 t))) n) : Z G mX2_findLeastClipping (fun _ => True) (zN G (fun r w => ∃ m' y, w = zw h m' ∧ Fr 57 m m' ∧ Top (HgtY (m 2)) (eL m (fun t => decide (0 = 1 ∨ sForce m 1 t))) n y ∧ Lv m' 57 y 20000 ∧ ((r = some (.int (nI 1)) ∧ ∀ q, q < 8 → 0 ≤ y q) ∨ (r = some (.int (nI 0)) ∧ ∃ q, q < 8 ∧ y q < 0))) 0 0) l 0 0 (zw h mm) 53 [(3, .int (nI i)), (2, .int (nI 0)), (0, .ref (G.1 + 56)), (1, .ref (G.1 + 1))] [] := by
  refine Z_iload_n 54 1 dX2_findLeastClipping_53 rfl rfl ?_
  refine Z_if_ne 57 68 dX2_findLeastClipping_54 rfl rfl (fun c54 => absurd c54 (fun q => q rfl)) (fun c54 => ?_)
  refine Z_aload_n 58 2 dX2_findLeastClipping_57 rfl rfl ?_
  refine Z_callV 61 [] 2 (zX2_areLevelsAboveGround (m := mm)) dX2_findLeastClipping_58 rfl qX2_71 kX2_areLevelsAboveGround rfl rfl (Nat.le_of_ble_eq_true rfl) rfl rfl ⟨(Nat.le_of_ble_eq_true rfl), (Nat.le_of_ble_eq_true rfl)⟩ (Nat.le_of_ble_eq_true rfl) ⟨rfl, rfl⟩ ⟨(Nat.le_of_ble_eq_true rfl), (Nat.le_of_ble_eq_true rfl)⟩ (fun r9 w9 hp9 => ?_)
  obtain ⟨rfl, hr9⟩ := hp9
  rcases hr9 with ⟨rfl, hr9⟩ | ⟨rfl, hr9⟩
  · refine Z_if_eq 64 68 dX2_findLeastClipping_61 rfl rfl (fun c61 => absurd c61 (by decide)) (fun c61 => ?_)
    refine Z_iconst 65 (nI 1) dX2_findLeastClipping_64 rfl rfl ?_
    refine Z_goto 69 dX2_findLeastClipping_65 rfl ?_
    refine Z_zret dX2_findLeastClipping_69 rfl (Or.inr rfl) ⟨mm, _, rfl, hF, sk_top hx, hL, Or.inl ⟨rfl, fun q hq => ?_⟩⟩
    have a1 := hr9 q hq
    have a2 := hL q hq
    rw [i32_lt] at a1
    have a3 : (0 : Int32).toInt = 0 := rfl
    omega
  · refine Z_if_eq 64 68 dX2_findLeastClipping_61 rfl rfl (fun c61 => ?_) (fun c61 => absurd rfl c61)
    refine Z_iconst 69 (nI 0) dX2_findLeastClipping_68 rfl rfl ?_
    refine Z_zret dX2_findLeastClipping_69 rfl (Or.inl rfl) ⟨mm, _, rfl, hF, sk_top hx, hL, Or.inr ⟨rfl, ?_⟩⟩
    obtain ⟨q, hq, a1⟩ := hr9
    have a2 := hL q hq
    rw [i32_lt] at a1
    have a3 : (0 : Int32).toInt = 0 := rfl
    exact ⟨q, hq, by omega⟩
set_option maxRecDepth 100000 in
set_option maxHeartbeats 4000000 in
theorem lX2_flc {G : zG} {l : Launch} {h : Nat → Nat} {m : zM} (n : Nat) (hk : sOk m 1 n) (hd : dOk m n) (hh0 : ∀ q, q < 8 → 0 ≤ (m 2 q).toInt ∧ (m 2 q).toInt ≤ 99) (f9 : Nat → Int) (hp : Pot (eL m (fun t => decide (0 = 1 ∨ sForce m 1 t))) n f9) : ∀ (t i : Nat), i + t = 8 → ∀ (mm : zM) (L : Int32), Fr 57 m mm → Lv mm 57 (sk (HgtY (m 2)) (eL m (fun t => decide (0 = 1 ∨ sForce m 1 t))) n i) (900 * i) → ((L = nI 0 ∧ Fx (sk (HgtY (m 2)) (eL m (fun t => decide (0 = 1 ∨ sForce m 1 t))) n i) (eL m (fun t => decide (0 = 1 ∨ sForce m 1 t))) n) ∨ (L = nI 1 ∧ i ≤ 7)) → Z G mX2_findLeastClipping (fun _ => True) (zN G (fun r w => ∃ m' y, w = zw h m' ∧ Fr 57 m m' ∧ Top (HgtY (m 2)) (eL m (fun t => decide (0 = 1 ∨ sForce m 1 t))) n y ∧ Lv m' 57 y 20000 ∧ ((r = some (.int (nI 1)) ∧ ∀ q, q < 8 → 0 ≤ y q) ∨ (r = some (.int (nI 0)) ∧ ∃ q, q < 8 ∧ y q < 0))) 0 0) l 0 0 (zw h mm) 30 [(3, .int (nI i)), (2, .int L), (0, .ref (G.1 + 56)), (1, .ref (G.1 + 1))] [] := by
  intro t
  induction t with
  | zero =>
    intro i hi mm L hF hL hQ
    have e9 : i = 8 := by omega
    subst e9
    obtain ⟨rfl, hx⟩ : L = nI 0 ∧ Fx (sk (HgtY (m 2)) (eL m (fun t => decide (0 = 1 ∨ sForce m 1 t))) n 8) (eL m (fun t => decide (0 = 1 ∨ sForce m 1 t))) n := by
      rcases hQ with q | q
      · exact q
      · exact absurd q.2 (by decide)
    refine Z_iload_n 31 0 dX2_findLeastClipping_30 rfl rfl ?_
    refine Z_bipush 33 (nI 8) dX2_findLeastClipping_31 rfl rfl ?_
    refine Z_icmp_ge 36 53 dX2_findLeastClipping_33 rfl rfl (fun c33 => ?_) (fun c33 => absurd (nI_le (Nat.le_refl _) (by omega)) c33)
    exact lX2_flc53 n hk hd hh0 f9 hp 8 mm hF (hL.mono (by decide)) hx
  | succ t ih =>
    intro i hi mm L hF hL hQ
    have hlt : i < 8 := by omega
    have hn := hk.2.1
    refine Z_iload_n 31 0 dX2_findLeastClipping_30 rfl rfl ?_
    refine Z_bipush 33 (nI 8) dX2_findLeastClipping_31 rfl rfl ?_
    refine Z_icmp_ge 36 53 dX2_findLeastClipping_33 rfl rfl (fun c33 => absurd c33 (nI_ge hlt (by omega))) (fun c33 => ?_)
    refine Z_iload_n 37 1 dX2_findLeastClipping_36 rfl rfl ?_
    refine Z_if_eq 40 53 dX2_findLeastClipping_37 rfl rfl (fun c37 => ?_) (fun c37 => ?_)
    · skip
      obtain ⟨rfl, hx⟩ : L = nI 0 ∧ Fx (sk (HgtY (m 2)) (eL m (fun t => decide (0 = 1 ∨ sForce m 1 t))) n i) (eL m (fun t => decide (0 = 1 ∨ sForce m 1 t))) n := by
        rcases hQ with q | q
        · exact q
        · rw [q.1] at c37
          exact absurd c37 (by decide)
      exact lX2_flc53 n hk hd hh0 f9 hp i mm hF (hL.mono (by omega)) hx
    · skip
      have h7 : i ≤ 7 := by omega
      refine Z_aload_n 41 2 dX2_findLeastClipping_40 rfl rfl ?_
      refine Z_aload_n 42 3 dX2_findLeastClipping_41 rfl rfl ?_
      refine Z_iconst 43 (nI 0) dX2_findLeastClipping_42 rfl rfl ?_
      refine Z_callV 46 [_, _] 2 (zX2_pressByTreaties (m := mm) n (sOk_fr (by decide) hF hk) (dOk_fr (by decide) hF hd) (sk (HgtY (m 2)) (eL m (fun t => decide (0 = 1 ∨ sForce m 1 t))) n i) (900 * i) (by omega) 0 (by decide) hL) dX2_findLeastClipping_43 rfl qX2_67 kX2_pressByTreaties rfl rfl (Nat.le_of_ble_eq_true rfl) rfl rfl ⟨(Nat.le_of_ble_eq_true rfl), (Nat.le_of_ble_eq_true rfl)⟩ (Nat.le_of_ble_eq_true rfl) ⟨rfl, rfl⟩ ⟨(Nat.le_of_ble_eq_true rfl), (Nat.le_of_ble_eq_true rfl)⟩ (fun r9 w9 hp9 => ?_)
      obtain ⟨m2, rfl, hr9, hF2, hL2⟩ := hp9
      cases hr9
      rw [eL_fr hF] at hL2
      rw [eL_fr hF]
      refine Z_istore_n 47 [(2, _), (3, _), (0, _), (1, _)] dX2_findLeastClipping_46 rfl (Nat.le_of_ble_eq_true rfl) rfl ?_
      refine Z_iinc 50 [(3, _), (2, _), (0, _), (1, _)] 1 _ dX2_findLeastClipping_47 rfl (Nat.le_of_ble_eq_true rfl) rfl (nI_1 _) rfl ?_
      refine Z_goto 30 dX2_findLeastClipping_50 rfl ?_
      refine ih (i + 1) (by omega) m2 _ (hF.trans hF2) (hL2.mono (by rw [Int.natCast_add]; omega)) ?_
      cases hc9 : chg (sk (HgtY (m 2)) (eL m (fun t => decide (0 = 1 ∨ sForce m 1 t))) n i) (eL m (fun t => decide (0 = 1 ∨ sForce m 1 t))) n with
      | false =>
        refine Or.inl ⟨rfl, ?_⟩
        obtain ⟨g1, g2⟩ := chg_f n hc9
        show Fx (rxs (sk (HgtY (m 2)) (eL m (fun t => decide (0 = 1 ∨ sForce m 1 t))) n i) (eL m (fun t => decide (0 = 1 ∨ sForce m 1 t))) n) (eL m (fun t => decide (0 = 1 ∨ sForce m 1 t))) n
        rw [g1]
        exact g2
      | true =>
        refine Or.inr ⟨rfl, ?_⟩
        rcases Nat.lt_or_ge i 7 with g | g
        · omega
        · have e7 : i = 7 := by omega
          subst e7
          rw [(Fx_chg n (sk_7 hp)).2] at hc9
          cases hc9

set_option maxRecDepth 100000 in
set_option maxHeartbeats 4000000 in
theorem lX2_flc1 {G : zG} {l : Launch} {h : Nat → Nat} {m : zM} (n : Nat) (hk : sOk m 1 n) (hd : dOk m n) (hh0 : ∀ q, q < 8 → 0 ≤ (m 2 q).toInt ∧ (m 2 q).toInt ≤ 99) (f9 : Nat → Int) (hp : Pot (eL m (fun t => decide (0 = 1 ∨ sForce m 1 t))) n f9) : ∀ (t i : Nat), i + t = 8 → Z G mX2_findLeastClipping (fun _ => True) (zN G (fun r w => ∃ m' y, w = zw h m' ∧ Fr 57 m m' ∧ Top (HgtY (m 2)) (eL m (fun t => decide (0 = 1 ∨ sForce m 1 t))) n y ∧ Lv m' 57 y 20000 ∧ ((r = some (.int (nI 1)) ∧ ∀ q, q < 8 → 0 ≤ y q) ∨ (r = some (.int (nI 0)) ∧ ∃ q, q < 8 ∧ y q < 0))) 0 0) l 0 0 (zw h (setM m i)) 2 [(2, .int (nI i)), (0, .ref (G.1 + 56)), (1, .ref (G.1 + 1))] [] := by
  intro t
  induction t with
  | zero =>
    intro i hi
    have e9 : i = 8 := by omega
    subst e9
    refine Z_iload_n 3 0 dX2_findLeastClipping_2 rfl rfl ?_
    refine Z_bipush 5 (nI 8) dX2_findLeastClipping_3 rfl rfl ?_
    refine Z_icmp_ge 8 26 dX2_findLeastClipping_5 rfl rfl (fun c5 => ?_) (fun c5 => absurd (nI_le (Nat.le_refl _) (by omega)) c5)
    refine Z_iconst 27 (nI 1) dX2_findLeastClipping_26 rfl rfl ?_
    refine Z_istore_n 28 [(2, _), (0, _), (1, _)] dX2_findLeastClipping_27 rfl (Nat.le_of_ble_eq_true rfl) rfl ?_
    refine Z_iconst 29 (nI 0) dX2_findLeastClipping_28 rfl rfl ?_
    refine Z_istore_n 30 [(3, _), (2, _), (0, _), (1, _)] dX2_findLeastClipping_29 rfl (Nat.le_of_ble_eq_true rfl) rfl ?_
    refine lX2_flc n hk hd hh0 f9 hp 8 0 (by omega) (setM m 8) _ (setM_fr m 8) (fun q hq => ?_) (Or.inr ⟨rfl, by decide⟩)
    have a1 := hh0 q hq
    have a2 : setM m 8 57 q = m 2 q := by simp [setM, hq]
    have a3 : sk (HgtY (m 2)) (eL m (fun t => decide (0 = 1 ∨ sForce m 1 t))) n 0 q = (m 2 q).toInt := if_pos hq
    rw [a2, a3]
    omega
  | succ t ih =>
    intro i hi
    have hlt : i < 8 := by omega
    refine Z_iload_n 3 0 dX2_findLeastClipping_2 rfl rfl ?_
    refine Z_bipush 5 (nI 8) dX2_findLeastClipping_3 rfl rfl ?_
    refine Z_icmp_ge 8 26 dX2_findLeastClipping_5 rfl rfl (fun c5 => absurd c5 (nI_ge hlt (by omega))) (fun c5 => ?_)
    refine Z_aload_n 9 1 dX2_findLeastClipping_8 rfl rfl ?_
    refine Z_getR 12 dX2_findLeastClipping_9 rfl fX2_9 (Nat.le_of_ble_eq_true rfl) rfl rfl ?_
    refine Z_iload_n 13 0 dX2_findLeastClipping_12 rfl rfl ?_
    refine Z_aload_n 14 2 dX2_findLeastClipping_13 rfl rfl ?_
    refine Z_getR 17 dX2_findLeastClipping_14 rfl fX2_64 (Nat.le_of_ble_eq_true rfl) rfl rfl ?_
    refine Z_iload_n 18 0 dX2_findLeastClipping_17 rfl rfl ?_
    refine Z_ialn 19 dX2_findLeastClipping_18 rfl (Nat.le_of_ble_eq_true rfl) rfl hlt (by decide) ?_
    refine Z_top (v' := .int (m 2 i)) (congrArg Value.int (by simp [setM])) ?_
    refine Z_iasn 20 dX2_findLeastClipping_19 rfl (Nat.le_of_ble_eq_true rfl) rfl (by first | assumption | omega) (by decide) ?_
    rw [setM_step]
    refine Z_iinc 23 [(2, _), (0, _), (1, _)] 0 _ dX2_findLeastClipping_20 rfl (Nat.le_of_ble_eq_true rfl) rfl (nI_1 _) rfl ?_
    refine Z_goto 2 dX2_findLeastClipping_23 rfl ?_
    exact ih (i + 1) (by omega)

set_option maxRecDepth 100000 in
set_option maxHeartbeats 4000000 in
theorem zX2_findLeastClipping {G : zG} {l : Launch} {h : Nat → Nat} {m : zM} (n : Nat) (hk : sOk m 1 n) (hd : dOk m n) (hh0 : ∀ q, q < 8 → 0 ≤ (m 2 q).toInt ∧ (m 2 q).toInt ≤ 99) (f9 : Nat → Int) (hp : Pot (eL m (fun t => decide (0 = 1 ∨ sForce m 1 t))) n f9) : zMet G l yX2_findLeastClipping mX2_findLeastClipping [.ref (G.1 + 56), .ref (G.1 + 1)] (zw h m) (fun r w => ∃ m' y, w = zw h m' ∧ Fr 57 m m' ∧ Top (HgtY (m 2)) (eL m (fun t => decide (0 = 1 ∨ sForce m 1 t))) n y ∧ Lv m' 57 y 20000 ∧ ((r = some (.int (nI 1)) ∧ ∀ q, q < 8 → 0 ≤ y q) ∨ (r = some (.int (nI 0)) ∧ ∃ q, q < 8 ∧ y q < 0))) 0 0 := by
  refine zMet_of [(0, .ref (G.1 + 56)), (1, .ref (G.1 + 1))] (by decide +kernel) rfl (Or.inl rfl) (Nat.le_of_ble_eq_true rfl) rfl ?_
  refine Z_iconst 1 (nI 0) dX2_findLeastClipping_0 rfl rfl ?_
  refine Z_istore_n 2 [(2, _), (0, _), (1, _)] dX2_findLeastClipping_1 rfl (Nat.le_of_ble_eq_true rfl) rfl ?_
  refine Z_w (w' := zw h (setM m 0)) (congrArg (zw h) (by funext q k; simp [setM])) ?_
  exact lX2_flc1 n hk hd hh0 f9 hp 8 0 (by omega)

/-- the new treaty first, then all signed ones -/
def eN (m : zM) (f o : Nat) (d : Int32) : Nat → Ed := fun t => match t with
  | 0 => (true, f, o, d.toInt)
  | t + 1 => eL m (fun t => decide (1 = 1 ∨ sForce m 1 t)) t
theorem rxs_cons (y : Nat → Int) (e : Nat → Ed) : ∀ n, rxs y e (n + 1) = rxs (rx1 y (e 0)) (fun t => e (t + 1)) n
  | 0 => rfl
  | n + 1 => by
    show rx1 (rxs y e (n + 1)) (e (n + 1)) = rx1 (rxs (rx1 y (e 0)) (fun t => e (t + 1)) n) (e (n + 1))
    rw [rxs_cons y e n]
theorem chg_cons (y : Nat → Int) (e : Nat → Ed) : ∀ n, chg y e (n + 1) = (decide (hit y (e 0)) || chg (rx1 y (e 0)) (fun t => e (t + 1)) n)
  | 0 => by
    show (false || decide (hit y (e 0))) = (decide (hit y (e 0)) || false)
    rw [Bool.false_or, Bool.or_false]
  | n + 1 => by
    rw [chg_s, chg_cons y e n, chg_s, rxs_cons y e n, Bool.or_assoc]
theorem eN_ok {m : zM} {n f o : Nat} {d : Int32} (hk : sOk m 1 n) (hd : dOk m n) (hf : f < 8) (ho : o < 8) (hd2 : -60 ≤ d.toInt ∧ d.toInt ≤ 60) : EdOk (eN m f o d) (n + 1) := fun t ht hp => by
  cases t with
  | zero => exact ⟨hf, ho, hd2.1, hd2.2⟩
  | succ t => exact eL_ok hk hd t (by omega) hp
set_option maxRecDepth 100000 in
set_option maxHeartbeats 4000000 in
theorem lX2_ipw71 {G : zG} {l : Launch} {h : Nat → Nat} {m : zM} (n : Nat) (hk : sOk m 1 n) (hd : dOk m n) (f o : Nat) (hf : f < 8) (ho : o < 8) (d : Int32) (hd2 : -60 ≤ d.toInt ∧ d.toInt ≤ 60) (i : Nat) (mm : zM) (L : Int32) (hF : Fr 57 m mm) (hL : Lv mm 57 (sk Y99 (eN m f o d) (n + 1) i) 20000) (hQ : (L = nI 0 ∧ Fx (sk Y99 (eN m f o d) (n + 1) i) (eN m f o d) (n + 1)) ∨ (L = nI 1 ∧ chg (sk Y99 (eN m f o d) (n + 1) 7) (eN m f o d) (n + 1) = true)) : Z G mX2_isPossibleWith (fun _ => True) (zN G (fun r w => ∃ m', w = zw h m' ∧ Fr 57 m m' ∧ ((r = some (.int (nI 1)) ∧ Fea (eN m f o d) (n + 1)) ∨ (r = some (.int (nI 0)) ∧ ¬ Fea (eN m f o d) (n + 1)))) 0 0) l 0 0 (zw h mm) 71 [(6, .int (nI i)), (5, .int L), (0, .ref (G.1 + 56)), (1, .ref (G.1 + 1)), (2, .int (nI f)), (3, .int (nI o)), (4, .int d)] [] := by
  have hok := eN_ok hk hd hf ho hd2
  refine Z_iload 73 1 dX2_isPossibleWith_71 rfl rfl ?_
  rcases hQ with ⟨rfl, hx⟩ | ⟨rfl, hx⟩
  · refine Z_if_ne 76 87 dX2_isPossibleWith_73 rfl rfl (fun c73 => absurd c73 (fun q => q rfl)) (fun c73 => ?_)
    refine Z_aload_n 77 2 dX2_isPossibleWith_76 rfl rfl ?_
    refine Z_callV 80 [] 2 (zX2_areLevelsAboveGround (m := mm)) dX2_isPossibleWith_77 rfl qX2_71 kX2_areLevelsAboveGround rfl rfl (Nat.le_of_ble_eq_true rfl) rfl rfl ⟨(Nat.le_of_ble_eq_true rfl), (Nat.le_of_ble_eq_true rfl)⟩ (Nat.le_of_ble_eq_true rfl) ⟨rfl, rfl⟩ ⟨(Nat.le_of_ble_eq_true rfl), (Nat.le_of_ble_eq_true rfl)⟩ (fun r9 w9 hp9 => ?_)
    obtain ⟨rfl, hr9⟩ := hp9
    have a3 : (0 : Int32).toInt = 0 := rfl
    rcases hr9 with ⟨rfl, hr9⟩ | ⟨rfl, hr9⟩
    · refine Z_if_eq 83 87 dX2_isPossibleWith_80 rfl rfl (fun c61 => absurd c61 (by decide)) (fun c61 => ?_)
      refine Z_iconst 84 (nI 1) dX2_isPossibleWith_83 rfl rfl ?_
      refine Z_goto 88 dX2_isPossibleWith_84 rfl ?_
      refine Z_zret dX2_isPossibleWith_88 rfl (Or.inr rfl) ⟨mm, rfl, hF, Or.inl ⟨rfl, sk Y99 (eN m f o d) (n + 1) i, fun q hq => ?_, fun t ht hp => ?_⟩⟩
      · have a1 := hr9 q hq
        have a2 := hL q hq
        rw [i32_lt] at a1
        omega
      · obtain ⟨g1, g2, -⟩ := hok t ht hp
        have a2 := hL _ g2
        exact hx t ht hp (by show _ < (100000 : Int); omega)
    · refine Z_if_eq 83 87 dX2_isPossibleWith_80 rfl rfl (fun c61 => ?_) (fun c61 => absurd rfl c61)
      refine Z_iconst 88 (nI 0) dX2_isPossibleWith_87 rfl rfl ?_
      refine Z_zret dX2_isPossibleWith_88 rfl (Or.inl rfl) ⟨mm, rfl, hF, Or.inr ⟨rfl, fun hfe => ?_⟩⟩
      obtain ⟨z, z1, z2, z3⟩ := Fea.cut hok hfe
      obtain ⟨q, hq, a1⟩ := hr9
      have a2 := hL q hq
      rw [i32_lt] at a1
      have a4 := sk_low (y := Y99) (z := z) (fun q => by
        unfold Y99
        by_cases g : q < 8
        · rw [if_pos g]
          exact (z1 q g).2
        · rw [if_neg g, z2 q g]
          exact Int.le_refl 0) z3 i q
      have a5 := z1 q hq
      omega
  · refine Z_if_ne 76 87 dX2_isPossibleWith_73 rfl rfl (fun c73 => ?_) (fun c73 => absurd (by decide) c73)
    refine Z_iconst 88 (nI 0) dX2_isPossibleWith_87 rfl rfl ?_
    refine Z_zret dX2_isPossibleWith_88 rfl (Or.inl rfl) ⟨mm, rfl, hF, Or.inr ⟨rfl, fun hfe => ?_⟩⟩
    obtain ⟨f9, hp⟩ := Fea.pot hok hfe
    rw [(Fx_chg _ (sk_7 hp)).2] at hx
    cases hx
set_option maxRecDepth 100000 in
set_option maxHeartbeats 4000000 in
theorem lX2_ipw {G : zG} {l : Launch} {h : Nat → Nat} {m : zM} (n : Nat) (hk : sOk m 1 n) (hd : dOk m n) (f o : Nat) (hf : f < 8) (ho : o < 8) (d : Int32) (hd2 : -60 ≤ d.toInt ∧ d.toInt ≤ 60) : ∀ (t i : Nat), i + t = 8 → ∀ (mm : zM) (L : Int32), Fr 57 m mm → Lv mm 57 (sk Y99 (eN m f o d) (n + 1) i) (900 * i) → ((L = nI 0 ∧ Fx (sk Y99 (eN m f o d) (n + 1) i) (eN m f o d) (n + 1)) ∨ (L = nI 1 ∧ (i = 0 ∨ ∃ k, i = k + 1 ∧ chg (sk Y99 (eN m f o d) (n + 1) k) (eN m f o d) (n + 1) = true))) → Z G mX2_isPossibleWith (fun _ => True) (zN G (fun r w => ∃ m', w = zw h m' ∧ Fr 57 m m' ∧ ((r = some (.int (nI 1)) ∧ Fea (eN m f o d) (n + 1)) ∨ (r = some (.int (nI 0)) ∧ ¬ Fea (eN m f o d) (n + 1)))) 0 0) l 0 0 (zw h mm) 31 [(6, .int (nI i)), (5, .int L), (0, .ref (G.1 + 56)), (1, .ref (G.1 + 1)), (2, .int (nI f)), (3, .int (nI o)), (4, .int d)] [] := by
  intro t
  induction t with
  | zero =>
    intro i hi mm L hF hL hQ
    have e9 : i = 8 := by omega
    subst e9
    refine Z_iload 33 0 dX2_isPossibleWith_31 rfl rfl ?_
    refine Z_bipush 35 (nI 8) dX2_isPossibleWith_33 rfl rfl ?_
    refine Z_icmp_ge 38 71 dX2_isPossibleWith_35 rfl rfl (fun c35 => ?_) (fun c35 => absurd (nI_le (Nat.le_refl _) (by omega)) c35)
    refine lX2_ipw71 n hk hd f o hf ho d hd2 8 mm _ hF (hL.mono (by decide)) ?_
    rcases hQ with q | ⟨q1, q2⟩
    · exact Or.inl q
    · rcases q2 with q2 | ⟨k, q3, q4⟩
      · cases q2
      · cases q3
        exact Or.inr ⟨q1, q4⟩
  | succ t ih =>
    intro i hi mm L hF hL hQ
    have hlt : i < 8 := by omega
    have hn := hk.2.1
    have K65 : ∀ (m2 : zM) (v : Int32), Fr 57 m m2 → Lv m2 57 (sk Y99 (eN m f o d) (n + 1) (i + 1)) (900 * ((i + 1 : Nat) : Int)) → v = bI (chg (sk Y99 (eN m f o d) (n + 1) i) (eN m f o d) (n + 1) = true) → Z G mX2_isPossibleWith (fun _ => True) (zN G (fun r w => ∃ m', w = zw h m' ∧ Fr 57 m m' ∧ ((r = some (.int (nI 1)) ∧ Fea (eN m f o d) (n + 1)) ∨ (r = some (.int (nI 0)) ∧ ¬ Fea (eN m f o d) (n + 1)))) 0 0) l 0 0 (zw h m2) 65 [(6, .int (nI i)), (5, .int v), (0, .ref (G.1 + 56)), (1, .ref (G.1 + 1)), (2, .int (nI f)), (3, .int (nI o)), (4, .int d)] [] := by
      intro m2 v hF2 hL2 hv
      refine Z_iinc 68 [(6, _), (5, _), (0, _), (1, _), (2, _), (3, _), (4, _)] 0 _ dX2_isPossibleWith_65 rfl (Nat.le_of_ble_eq_true rfl) rfl (nI_1 _) rfl ?_
      refine Z_goto 31 dX2_isPossibleWith_68 rfl ?_
      refine ih (i + 1) (by omega) m2 v hF2 hL2 ?_
      cases hc9 : chg (sk Y99 (eN m f o d) (n + 1) i) (eN m f o d) (n + 1) with
      | false =>
        obtain ⟨g1, g2⟩ := chg_f _ hc9
        refine Or.inl ⟨by rw [hv, hc9]; rfl, ?_⟩
        show Fx (rxs (sk Y99 (eN m f o d) (n + 1) i) (eN m f o d) (n + 1)) (eN m f o d) (n + 1)
        rw [g1]
        exact g2
      | true => exact Or.inr ⟨by rw [hv, hc9]; rfl, Or.inr ⟨i, rfl, hc9⟩⟩
    refine Z_iload 33 0 dX2_isPossibleWith_31 rfl rfl ?_
    refine Z_bipush 35 (nI 8) dX2_isPossibleWith_33 rfl rfl ?_
    refine Z_icmp_ge 38 71 dX2_isPossibleWith_35 rfl rfl (fun c35 => absurd c35 (nI_ge hlt (by omega))) (fun c35 => ?_)
    refine Z_iload 40 1 dX2_isPossibleWith_38 rfl rfl ?_
    refine Z_if_eq 43 71 dX2_isPossibleWith_40 rfl rfl (fun c40 => ?_) (fun c40 => ?_)
    · skip
      obtain ⟨rfl, hx⟩ : L = nI 0 ∧ Fx (sk Y99 (eN m f o d) (n + 1) i) (eN m f o d) (n + 1) := by
        rcases hQ with q | q
        · exact q
        · rw [q.1] at c40
          exact absurd c40 (by decide)
      exact lX2_ipw71 n hk hd f o hf ho d hd2 i mm _ hF (hL.mono (by omega)) (Or.inl ⟨rfl, hx⟩)
    · skip
      refine Z_aload_n 44 2 dX2_isPossibleWith_43 rfl rfl ?_
      refine Z_iload_n 45 4 dX2_isPossibleWith_44 rfl rfl ?_
      refine Z_iload_n 46 5 dX2_isPossibleWith_45 rfl rfl ?_
      refine Z_iload 48 6 dX2_isPossibleWith_46 rfl rfl ?_
      refine Z_callV 51 [_, _, _] 2 (zX2_press (m := mm) (sk Y99 (eN m f o d) (n + 1) i) (900 * i) (by omega) hL f o hf ho d hd2) dX2_isPossibleWith_48 rfl qX2_75 kX2_press rfl rfl (Nat.le_of_ble_eq_true rfl) rfl rfl ⟨(Nat.le_of_ble_eq_true rfl), (Nat.le_of_ble_eq_true rfl)⟩ (Nat.le_of_ble_eq_true rfl) ⟨rfl, rfl⟩ ⟨(Nat.le_of_ble_eq_true rfl), (Nat.le_of_ble_eq_true rfl)⟩ (fun r9 w9 hp9 => ?_)
      obtain ⟨m2, rfl, hr9, hF2, hL2⟩ := hp9
      cases hr9
      refine Z_istore 53 [(5, _), (6, _), (0, _), (1, _), (2, _), (3, _), (4, _)] dX2_isPossibleWith_51 rfl (Nat.le_of_ble_eq_true rfl) rfl ?_
      refine Z_aload_n 54 2 dX2_isPossibleWith_53 rfl rfl ?_
      refine Z_aload_n 55 3 dX2_isPossibleWith_54 rfl rfl ?_
      refine Z_iconst 56 (nI 1) dX2_isPossibleWith_55 rfl rfl ?_
      refine Z_callV 59 [_, _] 2 (zX2_pressByTreaties (m := m2) n (sOk_fr (by decide) (hF.trans hF2) hk) (dOk_fr (by decide) (hF.trans hF2) hd) (rx1 (sk Y99 (eN m f o d) (n + 1) i) (true, f, o, d.toInt)) (900 * i + 60) (by omega) 1 (by decide) hL2) dX2_isPossibleWith_56 rfl qX2_67 kX2_pressByTreaties rfl rfl (Nat.le_of_ble_eq_true rfl) rfl rfl ⟨(Nat.le_of_ble_eq_true rfl), (Nat.le_of_ble_eq_true rfl)⟩ (Nat.le_of_ble_eq_true rfl) ⟨rfl, rfl⟩ ⟨(Nat.le_of_ble_eq_true rfl), (Nat.le_of_ble_eq_true rfl)⟩ (fun r9 w9 hp9 => ?_)
      obtain ⟨m3, rfl, hr9, hF3, hL3⟩ := hp9
      cases hr9
      rw [eL_fr (hF.trans hF2)] at hL3
      rw [eL_fr (hF.trans hF2)]
      have he1 : sk Y99 (eN m f o d) (n + 1) (i + 1) = rxs (rx1 (sk Y99 (eN m f o d) (n + 1) i) (true, f, o, d.toInt)) (eL m (fun t => decide (1 = 1 ∨ sForce m 1 t))) n := rxs_cons _ _ n
      have he2 : chg (sk Y99 (eN m f o d) (n + 1) i) (eN m f o d) (n + 1) = (decide (hit (sk Y99 (eN m f o d) (n + 1) i) (true, f, o, d.toInt)) || chg (rx1 (sk Y99 (eN m f o d) (n + 1) i) (true, f, o, d.toInt)) (eL m (fun t => decide (1 = 1 ∨ sForce m 1 t))) n) := chg_cons _ _ n
      have hL4 : Lv m3 57 (sk Y99 (eN m f o d) (n + 1) (i + 1)) (900 * ((i + 1 : Nat) : Int)) := by rw [he1]; exact hL3.mono (by rw [Int.natCast_add]; omega)
      refine Z_if_eq 62 65 dX2_isPossibleWith_59 rfl rfl (fun c59 => ?_) (fun c59 => ?_)
      · skip
        refine Z_lv [1, 0, 2, 3, 4, 5, 6] rfl ?_
        refine K65 _ _ ((hF.trans hF2).trans hF3) hL4 ?_
        have g := bI_0 c59
        rw [Bool.not_eq_true] at g
        rw [he2, g, Bool.or_false]
        by_cases g2 : hit (sk Y99 (eN m f o d) (n + 1) i) (true, f, o, d.toInt)
        · rw [bI_t g2, decide_eq_true g2]; rfl
        · rw [bI_f g2, decide_eq_false g2]; rfl
      · skip
        refine Z_iconst 63 (nI 1) dX2_isPossibleWith_62 rfl rfl ?_
        refine Z_istore 65 [(5, _), (6, _), (0, _), (1, _), (2, _), (3, _), (4, _)] dX2_isPossibleWith_63 rfl (Nat.le_of_ble_eq_true rfl) rfl ?_
        refine Z_lv [1, 0, 2, 3, 4, 5, 6] rfl ?_
        refine K65 _ _ ((hF.trans hF2).trans hF3) hL4 ?_
        have g := bI_1 c59
        rw [he2, g, Bool.or_true]
        rfl

set_option maxRecDepth 100000 in
set_option maxHeartbeats 4000000 in
theorem lX2_ipw1 {G : zG} {l : Launch} {h : Nat → Nat} {m : zM} (n : Nat) (hk : sOk m 1 n) (hd : dOk m n) (f o : Nat) (hf : f < 8) (ho : o < 8) (d : Int32) (hd2 : -60 ≤ d.toInt ∧ d.toInt ≤ 60) : ∀ (t i : Nat), i + t = 8 → Z G mX2_isPossibleWith (fun _ => True) (zN G (fun r w => ∃ m', w = zw h m' ∧ Fr 57 m m' ∧ ((r = some (.int (nI 1)) ∧ Fea (eN m f o d) (n + 1)) ∨ (r = some (.int (nI 0)) ∧ ¬ Fea (eN m f o d) (n + 1)))) 0 0) l 0 0 (zw h (set99 m i)) 3 [(5, .int (nI i)), (0, .ref (G.1 + 56)), (1, .ref (G.1 + 1)), (2, .int (nI f)), (3, .int (nI o)), (4, .int d)] [] := by
  intro t
  induction t with
  | zero =>
    intro i hi
    have e9 : i = 8 := by omega
    subst e9
    refine Z_iload 5 0 dX2_isPossibleWith_3 rfl rfl ?_
    refine Z_bipush 7 (nI 8) dX2_isPossibleWith_5 rfl rfl ?_
    refine Z_icmp_ge 10 25 dX2_isPossibleWith_7 rfl rfl (fun c7 => ?_) (fun c7 => absurd (nI_le (Nat.le_refl _) (by omega)) c7)
    refine Z_iconst 26 (nI 1) dX2_isPossibleWith_25 rfl rfl ?_
    refine Z_istore 28 [(5, _), (0, _), (1, _), (2, _), (3, _), (4, _)] dX2_isPossibleWith_26 rfl (Nat.le_of_ble_eq_true rfl) rfl ?_
    refine Z_iconst 29 (nI 0) dX2_isPossibleWith_28 rfl rfl ?_
    refine Z_istore 31 [(6, _), (5, _), (0, _), (1, _), (2, _), (3, _), (4, _)] dX2_isPossibleWith_29 rfl (Nat.le_of_ble_eq_true rfl) rfl ?_
    refine lX2_ipw n hk hd f o hf ho d hd2 8 0 (by omega) (set99 m 8) _ (set99_fr m 8) (fun q hq => ?_) (Or.inr ⟨rfl, Or.inl rfl⟩)
    have a2 : set99 m 8 57 q = nI 99 := by simp [set99, hq]
    have a3 : sk Y99 (eN m f o d) (n + 1) 0 q = 99 := if_pos hq
    rw [a2, a3]
    have a4 : (nI 99).toInt = 99 := rfl
    omega
  | succ t ih =>
    intro i hi
    have hlt : i < 8 := by omega
    refine Z_iload 5 0 dX2_isPossibleWith_3 rfl rfl ?_
    refine Z_bipush 7 (nI 8) dX2_isPossibleWith_5 rfl rfl ?_
    refine Z_icmp_ge 10 25 dX2_isPossibleWith_7 rfl rfl (fun c7 => absurd c7 (nI_ge hlt (by omega))) (fun c7 => ?_)
    refine Z_aload_n 11 1 dX2_isPossibleWith_10 rfl rfl ?_
    refine Z_getR 14 dX2_isPossibleWith_11 rfl fX2_9 (Nat.le_of_ble_eq_true rfl) rfl rfl ?_
    refine Z_iload 16 0 dX2_isPossibleWith_14 rfl rfl ?_
    refine Z_bipush 18 (nI 99) dX2_isPossibleWith_16 rfl rfl ?_
    refine Z_iasn 19 dX2_isPossibleWith_18 rfl (Nat.le_of_ble_eq_true rfl) rfl hlt (by decide) ?_
    rw [set99_step]
    refine Z_iinc 22 [(5, _), (0, _), (1, _), (2, _), (3, _), (4, _)] 0 _ dX2_isPossibleWith_19 rfl (Nat.le_of_ble_eq_true rfl) rfl (nI_1 _) rfl ?_
    refine Z_goto 3 dX2_isPossibleWith_22 rfl ?_
    exact ih (i + 1) (by omega)

set_option maxRecDepth 100000 in
set_option maxHeartbeats 4000000 in
theorem zX2_isPossibleWith {G : zG} {l : Launch} {h : Nat → Nat} {m : zM} (n : Nat) (hk : sOk m 1 n) (hd : dOk m n) (f o : Nat) (hf : f < 8) (ho : o < 8) (d : Int32) (hd2 : -60 ≤ d.toInt ∧ d.toInt ≤ 60) : zMet G l yX2_isPossibleWith mX2_isPossibleWith [.ref (G.1 + 56), .ref (G.1 + 1), .int (nI f), .int (nI o), .int d] (zw h m) (fun r w => ∃ m', w = zw h m' ∧ Fr 57 m m' ∧ ((r = some (.int (nI 1)) ∧ Fea (eN m f o d) (n + 1)) ∨ (r = some (.int (nI 0)) ∧ ¬ Fea (eN m f o d) (n + 1)))) 0 0 := by
  refine zMet_of [(0, .ref (G.1 + 56)), (1, .ref (G.1 + 1)), (2, .int (nI f)), (3, .int (nI o)), (4, .int d)] (by decide +kernel) rfl (Or.inl rfl) (Nat.le_of_ble_eq_true rfl) rfl ?_
  refine Z_iconst 1 (nI 0) dX2_isPossibleWith_0 rfl rfl ?_
  refine Z_istore 3 [(5, _), (0, _), (1, _), (2, _), (3, _), (4, _)] dX2_isPossibleWith_1 rfl (Nat.le_of_ble_eq_true rfl) rfl ?_
  refine Z_w (w' := zw h (set99 m 0)) (congrArg (zw h) (by funext q k; simp [set99])) ?_
  exact lX2_ipw1 n hk hd f o hf ho d hd2 8 0 (by omega)
