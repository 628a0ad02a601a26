/-! the model: hasLeast, isPossible -/
def s80 (m : zM) (F : Nat → Int32) (i : Nat) : zM := fun q k => if q = 80 ∧ k < i then F k else m q k
theorem s80_0 (m : zM) (F : Nat → Int32) : s80 m F 0 = m := by
  funext q k
  unfold s80
  rw [if_neg (by omega)]
theorem s80_step (m : zM) (F : Nat → Int32) (i : Nat) : up2 (s80 m F i) 80 i (F i) = s80 m F (i + 1) := by
  funext q k
  unfold up2 s80
  by_cases h1 : q = 80 ∧ k = i
  · obtain ⟨rfl, rfl⟩ := h1
    rw [if_pos ⟨rfl, rfl⟩, if_pos ⟨rfl, by omega⟩]
  · rw [if_neg h1]
    by_cases h2 : q = 80 ∧ k < i
    · rw [if_pos h2, if_pos ⟨h2.1, by omega⟩]
    · rw [if_neg h2, if_neg (by omega)]
theorem s80_fr (m : zM) (F : Nat → Int32) (i : Nat) : Fr 80 m (s80 m F i) := fun q hq => by
  funext k
  unfold s80
  rw [if_neg (fun z => hq z.1)]
theorem s80_lv {m : zM} {F : Nat → Int32} {y : Nat → Int} (h : ∀ q, q < 8 → (F q).toInt = y q ∧ 0 ≤ y q ∧ y q ≤ 99) : Lv (s80 m F 8) 80 y 0 := fun q hq => by
  unfold s80
  rw [if_pos ⟨rfl, hq⟩]
  have := h q hq
  omega
set_option maxRecDepth 100000 in
set_option maxHeartbeats 4000000 in
theorem lX4_hasLeast {G : zG} {l : Launch} {h : Nat → Nat} {m : zM} (n : Nat) (g9 : gOk (vR (m 75)) n) : ∀ (t i : Nat), i + t = 8 → Z G mX4_hasLeast (fun _ => True) (zN G (fun r w => ∃ m' y, w = zw h m' ∧ Fr 80 m m' ∧ Lv m' 80 y 20000 ∧ ((r = some (.int (nI 1)) ∧ (∀ q, q < 8 → 0 ≤ y q) ∧ Top (HgtY ((vR (m 75)) 2)) (eL (vR (m 75)) (pFo (vR (m 75)))) n y) ∨ (r = some (.int (nI 0)) ∧ ∀ y9, Top (HgtY ((vR (m 75)) 2)) (eL (vR (m 75)) (pFo (vR (m 75)))) n y9 → ∃ q, q < 8 ∧ y9 q < 0))) 0 0) l 0 0 (zw h (s80 m ((vR (m 75)) 2) i)) 2 [(1, .int (nI i)), (0, .ref (G.1 + 74))] [] := by
  intro t
  induction t with
  | zero =>
    intro i hi
    have e9 : i = 8 := by omega
    subst e9
    obtain ⟨f9, hp⟩ := g9.potL (fun t => decide (0 = 1 ∨ sForce (vR (m 75)) 1 t))
    have e75 : (s80 m ((vR (m 75)) 2) 8) 75 = m 75 := s80_fr m _ 8 75 (by decide)
    have hL0 : Lv (s80 m ((vR (m 75)) 2) 8) 80 (HgtY ((vR (m 75)) 2)) 0 := s80_lv (fun q hq => by
      have := g9.2.2.1 q hq
      unfold HgtY
      rw [if_pos hq]
      omega)
    refine Z_iload_n 3 0 dX4_hasLeast_2 rfl rfl ?_
    refine Z_bipush 5 (nI 8) dX4_hasLeast_3 rfl rfl ?_
    refine Z_icmp_ge 8 26 dX4_hasLeast_5 rfl rfl (fun c5 => ?_) (fun c5 => absurd (nI_le (Nat.le_refl _) (by omega)) c5)
    refine Z_aload_n 27 1 dX4_hasLeast_26 rfl rfl ?_
    refine Z_iconst 28 (nI 0) dX4_hasLeast_27 rfl rfl ?_
    refine Z_callV 31 [_] 4 (zX4_settles (m := (s80 m ((vR (m 75)) 2) 8)) n (by rw [e75]; exact g9.1) (by rw [e75]; exact g9.2.1) 0 (by decide) (HgtY ((vR (m 75)) 2)) 0 (by decide) f9 (by rw [e75]; exact hp) hL0) dX4_hasLeast_28 rfl qX4_75 kX4_settles rfl rfl (Nat.le_of_ble_eq_true rfl) rfl rfl ⟨(Nat.le_of_ble_eq_true rfl), (Nat.le_of_ble_eq_true rfl)⟩ (Nat.le_of_ble_eq_true rfl) ⟨rfl, rfl⟩ ⟨(Nat.le_of_ble_eq_true rfl), (Nat.le_of_ble_eq_true rfl)⟩ (fun r9 w9 hp9 => ?_)
    rw [e75] at hp9
    obtain ⟨m2, k, rfl, hF2, hL2, hr9⟩ := hp9
    rw [eLF] at hr9 hL2
    rcases hr9 with ⟨rfl, hr9, hx⟩ | ⟨rfl, q, hq, hr9⟩
    · exact Z_zret dX4_hasLeast_31 rfl (Or.inr rfl) ⟨m2, _, rfl, (s80_fr m _ 8).trans hF2, hL2, Or.inl ⟨rfl, hr9, sk_top hx⟩⟩
    · exact Z_zret dX4_hasLeast_31 rfl (Or.inl rfl) ⟨m2, _, rfl, (s80_fr m _ 8).trans hF2, hL2, Or.inr ⟨rfl, fun y9 h9 => ⟨q, hq, Int.lt_of_le_of_lt (sk_low h9.1 h9.2.1 k q) hr9⟩⟩⟩
  | succ t ih =>
    intro i hi
    have hlt : i < 8 := by omega
    refine Z_iload_n 3 0 dX4_hasLeast_2 rfl rfl ?_
    refine Z_bipush 5 (nI 8) dX4_hasLeast_3 rfl rfl ?_
    refine Z_icmp_ge 8 26 dX4_hasLeast_5 rfl rfl (fun c5 => absurd c5 (nI_ge hlt (by omega))) (fun c5 => ?_)
    refine Z_aload_n 9 1 dX4_hasLeast_8 rfl rfl ?_
    refine Z_getR 12 dX4_hasLeast_9 rfl fX4_25 (Nat.le_of_ble_eq_true rfl) rfl rfl ?_
    refine Z_iload_n 13 0 dX4_hasLeast_12 rfl rfl ?_
    refine Z_aload_n 14 1 dX4_hasLeast_13 rfl rfl ?_
    refine Z_iload_n 15 0 dX4_hasLeast_14 rfl rfl ?_
    refine Z_iconst 16 (nI 0) dX4_hasLeast_15 rfl rfl ?_
    refine Z_callV 19 [_, _] 4 (zX4_of (m := s80 m ((vR (m 75)) 2) i) i 0 hlt (by decide)) dX4_hasLeast_16 rfl qX4_50 kX4_of rfl rfl (Nat.le_of_ble_eq_true rfl) rfl rfl ⟨(Nat.le_of_ble_eq_true rfl), (Nat.le_of_ble_eq_true rfl)⟩ (Nat.le_of_ble_eq_true rfl) ⟨rfl, rfl⟩ ⟨(Nat.le_of_ble_eq_true rfl), (Nat.le_of_ble_eq_true rfl)⟩ (fun r9 w9 hp9 => ?_)
    obtain ⟨rfl, rfl⟩ := hp9
    refine Z_top (v' := .int ((vR (m 75)) 2 i)) (congrArg Value.int (congrFun (s80_fr m _ i 75 (by decide)) _)) ?_
    refine Z_iasn 20 dX4_hasLeast_19 rfl (Nat.le_of_ble_eq_true rfl) rfl hlt (by decide) ?_
    rw [s80_step]
    refine Z_iinc 23 [(1, _), (0, _)] 0 _ dX4_hasLeast_20 rfl (Nat.le_of_ble_eq_true rfl) rfl (nI_1 _) rfl ?_
    refine Z_goto 2 dX4_hasLeast_23 rfl ?_
    exact ih (i + 1) (by omega)

set_option maxRecDepth 100000 in
set_option maxHeartbeats 4000000 in
theorem zX4_hasLeast {G : zG} {l : Launch} {h : Nat → Nat} {m : zM} (n : Nat) (g9 : gOk (vR (m 75)) n) : zMet G l yX4_hasLeast mX4_hasLeast [.ref (G.1 + 74)] (zw h m) (fun r w => ∃ m' y, w = zw h m' ∧ Fr 80 m m' ∧ Lv m' 80 y 20000 ∧ ((r = some (.int (nI 1)) ∧ (∀ q, q < 8 → 0 ≤ y q) ∧ Top (HgtY ((vR (m 75)) 2)) (eL (vR (m 75)) (pFo (vR (m 75)))) n y) ∨ (r = some (.int (nI 0)) ∧ ∀ y9, Top (HgtY ((vR (m 75)) 2)) (eL (vR (m 75)) (pFo (vR (m 75)))) n y9 → ∃ q, q < 8 ∧ y9 q < 0))) 0 0 := by
  refine zMet_of [(0, .ref (G.1 + 74))] (by decide +kernel) rfl (Or.inl rfl) (Nat.le_of_ble_eq_true rfl) rfl ?_
  refine Z_iconst 1 (nI 0) dX4_hasLeast_0 rfl rfl ?_
  refine Z_istore_n 2 [(1, _), (0, _)] dX4_hasLeast_1 rfl (Nat.le_of_ble_eq_true rfl) rfl ?_
  refine Z_w (w' := zw h (s80 m ((vR (m 75)) 2) 0)) (congrArg (zw h) (s80_0 m _).symm) ?_
  exact lX4_hasLeast n g9 8 0 (by omega)

def IpI (v : zM) (n f o : Nat) (d : Int32) (y : Nat → Int) : Prop := ∀ z, (∀ q, q < 8 → 0 ≤ z q ∧ z q ≤ 99) → (∀ q, ¬ q < 8 → z q = 0) → Fx z (eN v f o d) (n + 1) → ∀ q, z q ≤ y q
theorem IpI.no {v : zM} {n f o : Nat} {d : Int32} {y : Nat → Int} (g9 : gOk v n) (hf : f < 8) (ho : o < 8) (hd : -60 ≤ d.toInt ∧ d.toInt ≤ 60) (h : IpI v n f o d y) (hx : ∃ q, q < 8 ∧ y q < 0) : ¬ FeI v n f o d.toInt := fun hfe => by
  obtain ⟨z, h1, h2, h3⟩ := (FeI.iff.mpr hfe).cut (eN_ok g9.1 g9.2.1 hf ho hd)
  obtain ⟨q, hq, hy⟩ := hx
  have a1 := h z h1 h2 h3 q
  have a2 := h1 q hq
  omega
theorem IpI.rx {v : zM} {n f o : Nat} {d : Int32} {y : Nat → Int} (h : IpI v n f o d y) : IpI v n f o d (rx1 y (true, f, o, d.toInt)) := fun z h1 h2 h3 q => rx1_low (h z h1 h2 h3) (h3 0 (by omega)) q
theorem IpI.sk {v : zM} {n f o : Nat} {d : Int32} {y : Nat → Int} (h : IpI v n f o d y) (k : Nat) : IpI v n f o d (sk y (eL v (fun t => decide (1 = 1 ∨ sForce v 1 t))) n k) := fun z h1 h2 h3 q => sk_low (h z h1 h2 h3) (fun t ht => h3 (t + 1) (by omega)) k q
theorem IpI.z {v : zM} {n f o : Nat} {d : Int32} : IpI v n f o d Y99 := fun z h1 h2 _ q => by
  unfold Y99
  by_cases g : q < 8
  · rw [if_pos g]
    exact (h1 q g).2
  · rw [if_neg g, h2 q g]
    exact Int.le_refl 0
theorem FeI.ofx {v : zM} {n f o : Nat} {d : Int32} {y : Nat → Int} (g9 : gOk v n) (ho : o < 8) (hy : ∀ q, q < 8 → 0 ≤ y q ∧ y q ≤ 99) (hx : Fx y (eL v (fun t => decide (1 = 1 ∨ sForce v 1 t))) n) (nh : ¬ hit y (true, f, o, d.toInt)) : FeI v n f o d.toInt := by
  refine ⟨y, hy, ?_, fun t ht => ?_⟩
  · rcases Int.lt_or_le (y o + d.toInt) (y f) with g | g
    · exact absurd ⟨rfl, by show y o < 100000; have := hy o ho; omega, g⟩ nh
    · exact g
  · have a1 := g9.1.2.2 t ht
    exact hx t ht (by show decide (1 = 1 ∨ sForce v 1 t) = true; exact decide_eq_true (Or.inl rfl)) (by show y (sO v 1 t) < 100000; have := hy _ a1.2.2; omega)
set_option maxRecDepth 100000 in
set_option maxHeartbeats 4000000 in
theorem lX4_ip {G : zG} {l : Launch} {h : Nat → Nat} {m : zM} (n : Nat) (g9 : gOk (vR (m 75)) n) (f o : Nat) (hf : f < 8) (ho : o < 8) (d : Int32) (hd : -60 ≤ d.toInt ∧ d.toInt ≤ 60) (f9 : Nat → Int) (hp : Pot (eL (vR (m 75)) (fun t => decide (1 = 1 ∨ sForce (vR (m 75)) 1 t))) n f9) : ∀ (F : Nat) (y : Nat → Int) (mm : zM) (C : Int32), Fr 80 m mm → Lv mm 80 y 20000 → IpI (vR (m 75)) n f o d y → ((C = nI 1 ∧ (∀ q, q < 8 → 0 ≤ y q) ∧ Fx y (eL (vR (m 75)) (fun t => decide (1 = 1 ∨ sForce (vR (m 75)) 1 t))) n ∧ y f < (F : Int)) ∨ (C = nI 0 ∧ ∃ q, q < 8 ∧ y q < 0)) → Z G mX4_isPossible (fun _ => True) (zN G (fun r w => ∃ m', w = zw h m' ∧ Fr 80 m m' ∧ ((r = some (.int (nI 1)) ∧ FeI (vR (m 75)) n f o d.toInt) ∨ (r = some (.int (nI 0)) ∧ ¬ FeI (vR (m 75)) n f o d.toInt))) 0 0) l 0 0 (zw h mm) 32 [(4, .int C), (0, .ref (G.1 + 74)), (1, .int (nI f)), (2, .int (nI o)), (3, .int d)] [] := by
  intro F
  induction F with
  | zero =>
    intro y mm C hF hL hI hx
    rcases hx with ⟨-, hy, -, hx⟩ | ⟨rfl, hx⟩
    · have := hy f hf
      omega
    · skip
      refine Z_iload 34 0 dX4_isPossible_32 rfl rfl ?_
      refine Z_if_eq 37 57 dX4_isPossible_34 rfl rfl (fun c34 => ?_) (fun c34 => absurd (rfl) c34)
      refine Z_iload 59 0 dX4_isPossible_57 rfl rfl ?_
      exact Z_zret dX4_isPossible_59 rfl (Or.inl rfl) ⟨mm, rfl, hF, Or.inr ⟨rfl, hI.no g9 hf ho hd hx⟩⟩
  | succ F ih =>
    intro y mm C hF hL hI hx
    rcases hx with ⟨rfl, hy, hx, hlt⟩ | ⟨rfl, hx⟩
    · skip
      refine Z_iload 34 0 dX4_isPossible_32 rfl rfl ?_
      refine Z_if_eq 37 57 dX4_isPossible_34 rfl rfl (fun c34 => absurd c34 (by decide)) (fun c34 => ?_)
      refine Z_aload_n 38 1 dX4_isPossible_37 rfl rfl ?_
      refine Z_iload_n 39 2 dX4_isPossible_38 rfl rfl ?_
      refine Z_iload_n 40 3 dX4_isPossible_39 rfl rfl ?_
      refine Z_iload_n 41 4 dX4_isPossible_40 rfl rfl ?_
      refine Z_callV 44 [_, _, _] 4 (zX4_lowers (m := mm) y 0 (by decide) (fun q hq => ⟨(hL q hq).1, by have := hy q hq; omega, (hL q hq).2.2⟩) f o hf ho d hd) dX4_isPossible_41 rfl qX4_72 kX4_lowers rfl rfl (Nat.le_of_ble_eq_true rfl) rfl rfl ⟨(Nat.le_of_ble_eq_true rfl), (Nat.le_of_ble_eq_true rfl)⟩ (Nat.le_of_ble_eq_true rfl) ⟨rfl, rfl⟩ ⟨(Nat.le_of_ble_eq_true rfl), (Nat.le_of_ble_eq_true rfl)⟩ (fun r9 w9 hp9 => ?_)
      obtain ⟨m2, rfl, rfl, hF2, hL2⟩ := hp9
      refine Z_if_eq 47 57 dX4_isPossible_44 rfl rfl (fun c44 => ?_) (fun c44 => ?_)
      · skip
        refine Z_iload 59 0 dX4_isPossible_57 rfl rfl ?_
        exact Z_zret dX4_isPossible_59 rfl (Or.inr rfl) ⟨m2, rfl, hF.trans hF2, Or.inl ⟨rfl, FeI.ofx g9 ho (fun q hq => ⟨hy q hq, (hL q hq).2.2⟩) hx (bI_0 c44)⟩⟩
      · skip
        have hit9 := bI_1 c44
        have hlow : rx1 y (true, f, o, d.toInt) f < y f := by
          have := rx1_u y (true, f, o, d.toInt) rfl hit9.2.1
          have h3 : y o + d.toInt < y f := hit9.2.2
          have h4 : rx1 y (true, f, o, d.toInt) f ≤ y o + d.toInt := this
          omega
        have e75 : m2 75 = m 75 := (hF.trans hF2) 75 (by decide)
        refine Z_aload_n 48 1 dX4_isPossible_47 rfl rfl ?_
        refine Z_iconst 49 (nI 1) dX4_isPossible_48 rfl rfl ?_
        refine Z_callV 52 [_] 4 (zX4_settles (m := m2) n (by rw [e75]; exact g9.1) (by rw [e75]; exact g9.2.1) 1 (by decide) (rx1 y (true, f, o, d.toInt)) 60 (by decide) f9 (by rw [e75]; exact hp) hL2) dX4_isPossible_49 rfl qX4_75 kX4_settles rfl rfl (Nat.le_of_ble_eq_true rfl) rfl rfl ⟨(Nat.le_of_ble_eq_true rfl), (Nat.le_of_ble_eq_true rfl)⟩ (Nat.le_of_ble_eq_true rfl) ⟨rfl, rfl⟩ ⟨(Nat.le_of_ble_eq_true rfl), (Nat.le_of_ble_eq_true rfl)⟩ (fun r9 w9 hp9 => ?_)
        rw [e75] at hp9
        obtain ⟨m3, k, rfl, hF3, hL3, hr9⟩ := hp9
        have hle := sk_le (rx1 y (true, f, o, d.toInt)) (eL (vR (m 75)) (fun t => decide (1 = 1 ∨ sForce (vR (m 75)) 1 t))) n f k
        rcases hr9 with ⟨hr8, hr9, hx9⟩ | ⟨hr8, hr9⟩
        · cases hr8
          refine Z_istore 54 [(4, _), (0, _), (1, _), (2, _), (3, _)] dX4_isPossible_52 rfl (Nat.le_of_ble_eq_true rfl) rfl ?_
          refine Z_goto 32 dX4_isPossible_54 rfl ?_
          exact ih _ m3 _ ((hF.trans hF2).trans hF3) hL3 (hI.rx.sk k) (Or.inl ⟨rfl, hr9, hx9, by omega⟩)
        · cases hr8
          refine Z_istore 54 [(4, _), (0, _), (1, _), (2, _), (3, _)] dX4_isPossible_52 rfl (Nat.le_of_ble_eq_true rfl) rfl ?_
          refine Z_goto 32 dX4_isPossible_54 rfl ?_
          exact ih _ m3 _ ((hF.trans hF2).trans hF3) hL3 (hI.rx.sk k) (Or.inr ⟨rfl, hr9⟩)
    · skip
      refine Z_iload 34 0 dX4_isPossible_32 rfl rfl ?_
      refine Z_if_eq 37 57 dX4_isPossible_34 rfl rfl (fun c34 => ?_) (fun c34 => absurd (rfl) c34)
      refine Z_iload 59 0 dX4_isPossible_57 rfl rfl ?_
      exact Z_zret dX4_isPossible_59 rfl (Or.inl rfl) ⟨mm, rfl, hF, Or.inr ⟨rfl, hI.no g9 hf ho hd hx⟩⟩
set_option maxRecDepth 100000 in
set_option maxHeartbeats 4000000 in
theorem lX4_ip0 {G : zG} {l : Launch} {h : Nat → Nat} {m : zM} (n : Nat) (g9 : gOk (vR (m 75)) n) (f o : Nat) (hf : f < 8) (ho : o < 8) (d : Int32) (hd : -60 ≤ d.toInt ∧ d.toInt ≤ 60) : ∀ (t i : Nat), i + t = 8 → Z G mX4_isPossible (fun _ => True) (zN G (fun r w => ∃ m', w = zw h m' ∧ Fr 80 m m' ∧ ((r = some (.int (nI 1)) ∧ FeI (vR (m 75)) n f o d.toInt) ∨ (r = some (.int (nI 0)) ∧ ¬ FeI (vR (m 75)) n f o d.toInt))) 0 0) l 0 0 (zw h (s80 m (fun _ => nI 99) i)) 3 [(4, .int (nI i)), (0, .ref (G.1 + 74)), (1, .int (nI f)), (2, .int (nI o)), (3, .int d)] [] := by
  intro t
  induction t with
  | zero =>
    intro i hi
    have e9 : i = 8 := by omega
    subst e9
    obtain ⟨f9, hp⟩ := g9.potL (fun t => decide (1 = 1 ∨ sForce (vR (m 75)) 1 t))
    have e75 : (s80 m (fun _ => nI 99) 8) 75 = m 75 := s80_fr m _ 8 75 (by decide)
    have hL0 : Lv (s80 m (fun _ => nI 99) 8) 80 Y99 0 := s80_lv (fun q hq => by
      unfold Y99
      rw [if_pos hq]
      exact ⟨rfl, by decide, by decide⟩)
    refine Z_iload 5 0 dX4_isPossible_3 rfl rfl ?_
    refine Z_bipush 7 (nI 8) dX4_isPossible_5 rfl rfl ?_
    refine Z_icmp_ge 10 25 dX4_isPossible_7 rfl rfl (fun c7 => ?_) (fun c7 => absurd (nI_le (Nat.le_refl _) (by omega)) c7)
    refine Z_aload_n 26 1 dX4_isPossible_25 rfl rfl ?_
    refine Z_iconst 27 (nI 1) dX4_isPossible_26 rfl rfl ?_
    refine Z_callV 30 [_] 4 (zX4_settles (m := (s80 m (fun _ => nI 99) 8)) n (by rw [e75]; exact g9.1) (by rw [e75]; exact g9.2.1) 1 (by decide) Y99 0 (by decide) f9 (by rw [e75]; exact hp) hL0) dX4_isPossible_27 rfl qX4_75 kX4_settles rfl rfl (Nat.le_of_ble_eq_true rfl) rfl rfl ⟨(Nat.le_of_ble_eq_true rfl), (Nat.le_of_ble_eq_true rfl)⟩ (Nat.le_of_ble_eq_true rfl) ⟨rfl, rfl⟩ ⟨(Nat.le_of_ble_eq_true rfl), (Nat.le_of_ble_eq_true rfl)⟩ (fun r9 w9 hp9 => ?_)
    rw [e75] at hp9
    obtain ⟨m3, k, rfl, hF3, hL3, hr9⟩ := hp9
    have hle := sk_le Y99 (eL (vR (m 75)) (fun t => decide (1 = 1 ∨ sForce (vR (m 75)) 1 t))) n f k
    have h99 : Y99 f = 99 := if_pos hf
    rcases hr9 with ⟨hr8, hr9, hx9⟩ | ⟨hr8, hr9⟩
    · cases hr8
      refine Z_istore 32 [(4, _), (0, _), (1, _), (2, _), (3, _)] dX4_isPossible_30 rfl (Nat.le_of_ble_eq_true rfl) rfl ?_
      exact lX4_ip n g9 f o hf ho d hd f9 hp 100 _ m3 _ ((s80_fr m _ 8).trans hF3) hL3 (IpI.z.sk k) (Or.inl ⟨rfl, hr9, hx9, by omega⟩)
    · cases hr8
      refine Z_istore 32 [(4, _), (0, _), (1, _), (2, _), (3, _)] dX4_isPossible_30 rfl (Nat.le_of_ble_eq_true rfl) rfl ?_
      exact lX4_ip n g9 f o hf ho d hd f9 hp 100 _ m3 _ ((s80_fr m _ 8).trans hF3) hL3 (IpI.z.sk k) (Or.inr ⟨rfl, hr9⟩)
  | succ t ih =>
    intro i hi
    have hlt : i < 8 := by omega
    refine Z_iload 5 0 dX4_isPossible_3 rfl rfl ?_
    refine Z_bipush 7 (nI 8) dX4_isPossible_5 rfl rfl ?_
    refine Z_icmp_ge 10 25 dX4_isPossible_7 rfl rfl (fun c7 => absurd c7 (nI_ge hlt (by omega))) (fun c7 => ?_)
    refine Z_aload_n 11 1 dX4_isPossible_10 rfl rfl ?_
    refine Z_getR 14 dX4_isPossible_11 rfl fX4_25 (Nat.le_of_ble_eq_true rfl) rfl rfl ?_
    refine Z_iload 16 0 dX4_isPossible_14 rfl rfl ?_
    refine Z_bipush 18 (nI 99) dX4_isPossible_16 rfl rfl ?_
    refine Z_iasn 19 dX4_isPossible_18 rfl (Nat.le_of_ble_eq_true rfl) rfl hlt (by decide) ?_
    rw [s80_step m (fun _ => nI 99) i]
    refine Z_iinc 22 [(4, _), (0, _), (1, _), (2, _), (3, _)] 0 _ dX4_isPossible_19 rfl (Nat.le_of_ble_eq_true rfl) rfl (nI_1 _) rfl ?_
    refine Z_goto 3 dX4_isPossible_22 rfl ?_
    exact ih (i + 1) (by omega)

set_option maxRecDepth 100000 in
set_option maxHeartbeats 4000000 in
theorem zX4_isPossible {G : zG} {l : Launch} {h : Nat → Nat} {m : zM} (n : Nat) (g9 : gOk (vR (m 75)) n) (f o : Nat) (hf : f < 8) (ho : o < 8) (d : Int32) (hd : -60 ≤ d.toInt ∧ d.toInt ≤ 60) : zMet G l yX4_isPossible mX4_isPossible [.ref (G.1 + 74), .int (nI f), .int (nI o), .int d] (zw h m) (fun r w => ∃ m', w = zw h m' ∧ Fr 80 m m' ∧ ((r = some (.int (nI 1)) ∧ FeI (vR (m 75)) n f o d.toInt) ∨ (r = some (.int (nI 0)) ∧ ¬ FeI (vR (m 75)) n f o d.toInt))) 0 0 := by
  refine zMet_of [(0, .ref (G.1 + 74)), (1, .int (nI f)), (2, .int (nI o)), (3, .int d)] (by decide +kernel) rfl (Or.inl rfl) (Nat.le_of_ble_eq_true rfl) rfl ?_
  refine Z_iconst 1 (nI 0) dX4_isPossible_0 rfl rfl ?_
  refine Z_istore 3 [(4, _), (0, _), (1, _), (2, _), (3, _)] dX4_isPossible_1 rfl (Nat.le_of_ble_eq_true rfl) rfl ?_
  refine Z_w (w' := zw h (s80 m (fun _ => nI 99) 0)) (congrArg (zw h) (s80_0 m _).symm) ?_
  exact lX4_ip0 n g9 f o hf ho d hd 8 0 (by omega)
