/-! Pad.read -/
set_option maxRecDepth 100000 in
set_option maxHeartbeats 4000000 in
theorem rd_step {G : zG} {l : Launch} {h : Nat → Nat} (PP : Option Value → zW → Prop) (mm : zM) (L q pl : Nat) (hL : mm 68 1 = nI L) (hL60 : L ≤ 60) (hq : q < L) (pl2 : Nat) (h0 : ¬ nI pl2 = 0) (m2 : zM) (C : zMet G l yX0_placeBehind mX0_placeBehind [.ref (G.1 + 68), .int (nI q), .int (nI pl)] (zw h mm) (fun r w => r = some (.int (nI pl2)) ∧ w = zw h m2) 0 0) (kk : Z G mX0_read (fun _ => True) (zN G PP 0 0) l 0 0 (zw h (m2)) 9 [(2, .int (nI (q + 1))), (1, .int (nI (pl2))), (0, .ref (G.1 + 68))] []) : Z G mX0_read (fun _ => True) (zN G PP 0 0) l 0 0 (zw h (mm)) 9 [(2, .int (nI (q))), (1, .int (nI (pl))), (0, .ref (G.1 + 68))] [] := by
  refine Z_iload_n 10 0 dX0_read_9 rfl rfl ?_
  refine Z_aload_n 11 2 dX0_read_10 rfl rfl ?_
  refine Z_getI 14 dX0_read_11 rfl fX0_31 (Nat.le_of_ble_eq_true rfl) rfl rfl ?_
  refine Z_top (congrArg Value.int hL) ?_
  refine Z_icmp_ge 17 36 dX0_read_14 rfl rfl (fun c14 => absurd c14 (nI_ge hq (by omega))) (fun c14 => ?_)
  refine Z_aload_n 18 2 dX0_read_17 rfl rfl ?_
  refine Z_iload_n 19 0 dX0_read_18 rfl rfl ?_
  refine Z_iload_n 20 1 dX0_read_19 rfl rfl ?_
  refine Z_callV 23 [_, _] 0 (C) dX0_read_20 rfl qX0_34 kX0_placeBehind rfl rfl (Nat.le_of_ble_eq_true rfl) rfl rfl ⟨(Nat.le_of_ble_eq_true rfl), (Nat.le_of_ble_eq_true rfl)⟩ (Nat.le_of_ble_eq_true rfl) ⟨rfl, rfl⟩ ⟨(Nat.le_of_ble_eq_true rfl), (Nat.le_of_ble_eq_true rfl)⟩ (fun r9 w9 hp9 => ?_)
  obtain ⟨rfl, rfl⟩ := hp9
  refine Z_istore_n 24 [(1, _), (2, _), (0, _)] dX0_read_23 rfl (Nat.le_of_ble_eq_true rfl) rfl ?_
  refine Z_iload_n 25 0 dX0_read_24 rfl rfl ?_
  refine Z_if_ne 28 30 dX0_read_25 rfl rfl (fun _ => ?_) (fun c => absurd h0 c)
  refine Z_iinc 33 [(2, _), (1, _), (0, _)] 1 _ dX0_read_30 rfl (Nat.le_of_ble_eq_true rfl) rfl (nI_1 q) rfl ?_
  refine Z_goto 9 dX0_read_33 rfl ?_
  exact kk
set_option maxRecDepth 100000 in
set_option maxHeartbeats 4000000 in
theorem rd_bad {G : zG} {l : Launch} {h : Nat → Nat} (PP : Option Value → zW → Prop) (mm : zM) (L q pl : Nat) (hL : mm 68 1 = nI L) (hL60 : L ≤ 60) (hq : q < L) (m2 : zM) (C : zMet G l yX0_placeBehind mX0_placeBehind [.ref (G.1 + 68), .int (nI q), .int (nI pl)] (zw h mm) (fun r w => r = some (.int (nI 0)) ∧ w = zw h m2) 0 0) (kk : PP (some (.int (nI q))) (zw h m2)) : Z G mX0_read (fun _ => True) (zN G PP 0 0) l 0 0 (zw h (mm)) 9 [(2, .int (nI (q))), (1, .int (nI (pl))), (0, .ref (G.1 + 68))] [] := by
  refine Z_iload_n 10 0 dX0_read_9 rfl rfl ?_
  refine Z_aload_n 11 2 dX0_read_10 rfl rfl ?_
  refine Z_getI 14 dX0_read_11 rfl fX0_31 (Nat.le_of_ble_eq_true rfl) rfl rfl ?_
  refine Z_top (congrArg Value.int hL) ?_
  refine Z_icmp_ge 17 36 dX0_read_14 rfl rfl (fun c14 => absurd c14 (nI_ge hq (by omega))) (fun c14 => ?_)
  refine Z_aload_n 18 2 dX0_read_17 rfl rfl ?_
  refine Z_iload_n 19 0 dX0_read_18 rfl rfl ?_
  refine Z_iload_n 20 1 dX0_read_19 rfl rfl ?_
  refine Z_callV 23 [_, _] 0 (C) dX0_read_20 rfl qX0_34 kX0_placeBehind rfl rfl (Nat.le_of_ble_eq_true rfl) rfl rfl ⟨(Nat.le_of_ble_eq_true rfl), (Nat.le_of_ble_eq_true rfl)⟩ (Nat.le_of_ble_eq_true rfl) ⟨rfl, rfl⟩ ⟨(Nat.le_of_ble_eq_true rfl), (Nat.le_of_ble_eq_true rfl)⟩ (fun r9 w9 hp9 => ?_)
  obtain ⟨rfl, rfl⟩ := hp9
  refine Z_istore_n 24 [(1, _), (2, _), (0, _)] dX0_read_23 rfl (Nat.le_of_ble_eq_true rfl) rfl ?_
  refine Z_iload_n 25 0 dX0_read_24 rfl rfl ?_
  refine Z_if_ne 28 30 dX0_read_25 rfl rfl (fun c => absurd rfl c) (fun _ => ?_)
  refine Z_iload_n 29 1 dX0_read_28 rfl rfl ?_
  exact Z_iret dX0_read_29 rfl kk
set_option maxRecDepth 100000 in
set_option maxHeartbeats 4000000 in
theorem rd_fin4 {G : zG} {l : Launch} {h : Nat → Nat} (PP : Option Value → zW → Prop) (mm : zM) (L : Nat) (hL : mm 68 1 = nI L) (hL60 : L ≤ 60) (kk : PP (some (.int (-4))) (zw h mm)) : Z G mX0_read (fun _ => True) (zN G PP 0 0) l 0 0 (zw h (mm)) 9 [(2, .int (nI (L))), (1, .int (nI (4))), (0, .ref (G.1 + 68))] [] := by
  refine Z_iload_n 10 0 dX0_read_9 rfl rfl ?_
  refine Z_aload_n 11 2 dX0_read_10 rfl rfl ?_
  refine Z_getI 14 dX0_read_11 rfl fX0_31 (Nat.le_of_ble_eq_true rfl) rfl rfl ?_
  refine Z_top (congrArg Value.int hL) ?_
  refine Z_icmp_ge 17 36 dX0_read_14 rfl rfl (fun c14 => ?_) (fun c14 => absurd (nI_le (Nat.le_refl L) (by omega)) c14)
  refine Z_iload_n 37 1 dX0_read_36 rfl rfl ?_
  refine Z_iconst 38 (nI 4) dX0_read_37 rfl rfl ?_
  refine Z_icmp_eq 41 47 dX0_read_38 rfl rfl (fun c38 => ?_) (fun c38 => absurd (by decide) c38)
  refine Z_bipush 49 (-4) dX0_read_47 rfl rfl ?_
  refine Z_goto 56 dX0_read_49 rfl ?_
  exact Z_iret dX0_read_56 rfl kk
set_option maxRecDepth 100000 in
set_option maxHeartbeats 4000000 in
theorem rd_fin6 {G : zG} {l : Launch} {h : Nat → Nat} (PP : Option Value → zW → Prop) (mm : zM) (L : Nat) (hL : mm 68 1 = nI L) (hL60 : L ≤ 60) (kk : PP (some (.int (-4))) (zw h mm)) : Z G mX0_read (fun _ => True) (zN G PP 0 0) l 0 0 (zw h (mm)) 9 [(2, .int (nI (L))), (1, .int (nI (6))), (0, .ref (G.1 + 68))] [] := by
  refine Z_iload_n 10 0 dX0_read_9 rfl rfl ?_
  refine Z_aload_n 11 2 dX0_read_10 rfl rfl ?_
  refine Z_getI 14 dX0_read_11 rfl fX0_31 (Nat.le_of_ble_eq_true rfl) rfl rfl ?_
  refine Z_top (congrArg Value.int hL) ?_
  refine Z_icmp_ge 17 36 dX0_read_14 rfl rfl (fun c14 => ?_) (fun c14 => absurd (nI_le (Nat.le_refl L) (by omega)) c14)
  refine Z_iload_n 37 1 dX0_read_36 rfl rfl ?_
  refine Z_iconst 38 (nI 4) dX0_read_37 rfl rfl ?_
  refine Z_icmp_eq 41 47 dX0_read_38 rfl rfl (fun c38 => absurd c38 (by decide)) (fun c38 => ?_)
  refine Z_iload_n 42 1 dX0_read_41 rfl rfl ?_
  refine Z_bipush 44 (nI 6) dX0_read_42 rfl rfl ?_
  refine Z_icmp_ne 47 52 dX0_read_44 rfl rfl (fun c44 => absurd c44 (fun z => z rfl)) (fun c44 => ?_)
  refine Z_bipush 49 (-4) dX0_read_47 rfl rfl ?_
  refine Z_goto 56 dX0_read_49 rfl ?_
  exact Z_iret dX0_read_56 rfl kk
set_option maxRecDepth 100000 in
set_option maxHeartbeats 4000000 in
theorem rd_un1 {G : zG} {l : Launch} {h : Nat → Nat} (PP : Option Value → zW → Prop) (mm : zM) (L : Nat) (hL : mm 68 1 = nI L) (hL60 : L ≤ 60) (kk : PP (some (.int (nI L))) (zw h mm)) : Z G mX0_read (fun _ => True) (zN G PP 0 0) l 0 0 (zw h (mm)) 9 [(2, .int (nI (L))), (1, .int (nI (1))), (0, .ref (G.1 + 68))] [] := by
  refine Z_iload_n 10 0 dX0_read_9 rfl rfl ?_
  refine Z_aload_n 11 2 dX0_read_10 rfl rfl ?_
  refine Z_getI 14 dX0_read_11 rfl fX0_31 (Nat.le_of_ble_eq_true rfl) rfl rfl ?_
  refine Z_top (congrArg Value.int hL) ?_
  refine Z_icmp_ge 17 36 dX0_read_14 rfl rfl (fun c14 => ?_) (fun c14 => absurd (nI_le (Nat.le_refl L) (by omega)) c14)
  refine Z_iload_n 37 1 dX0_read_36 rfl rfl ?_
  refine Z_iconst 38 (nI 4) dX0_read_37 rfl rfl ?_
  refine Z_icmp_eq 41 47 dX0_read_38 rfl rfl (fun c38 => absurd c38 (by decide)) (fun c38 => ?_)
  refine Z_iload_n 42 1 dX0_read_41 rfl rfl ?_
  refine Z_bipush 44 (nI 6) dX0_read_42 rfl rfl ?_
  refine Z_icmp_ne 47 52 dX0_read_44 rfl rfl (fun c44 => ?_) (fun c44 => absurd (by decide) c44)
  refine Z_aload_n 53 2 dX0_read_52 rfl rfl ?_
  refine Z_getI 56 dX0_read_53 rfl fX0_31 (Nat.le_of_ble_eq_true rfl) rfl rfl ?_
  refine Z_top (congrArg Value.int hL) ?_
  exact Z_iret dX0_read_56 rfl kk
set_option maxRecDepth 100000 in
set_option maxHeartbeats 4000000 in
theorem rd_un2 {G : zG} {l : Launch} {h : Nat → Nat} (PP : Option Value → zW → Prop) (mm : zM) (L : Nat) (hL : mm 68 1 = nI L) (hL60 : L ≤ 60) (kk : PP (some (.int (nI L))) (zw h mm)) : Z G mX0_read (fun _ => True) (zN G PP 0 0) l 0 0 (zw h (mm)) 9 [(2, .int (nI (L))), (1, .int (nI (2))), (0, .ref (G.1 + 68))] [] := by
  refine Z_iload_n 10 0 dX0_read_9 rfl rfl ?_
  refine Z_aload_n 11 2 dX0_read_10 rfl rfl ?_
  refine Z_getI 14 dX0_read_11 rfl fX0_31 (Nat.le_of_ble_eq_true rfl) rfl rfl ?_
  refine Z_top (congrArg Value.int hL) ?_
  refine Z_icmp_ge 17 36 dX0_read_14 rfl rfl (fun c14 => ?_) (fun c14 => absurd (nI_le (Nat.le_refl L) (by omega)) c14)
  refine Z_iload_n 37 1 dX0_read_36 rfl rfl ?_
  refine Z_iconst 38 (nI 4) dX0_read_37 rfl rfl ?_
  refine Z_icmp_eq 41 47 dX0_read_38 rfl rfl (fun c38 => absurd c38 (by decide)) (fun c38 => ?_)
  refine Z_iload_n 42 1 dX0_read_41 rfl rfl ?_
  refine Z_bipush 44 (nI 6) dX0_read_42 rfl rfl ?_
  refine Z_icmp_ne 47 52 dX0_read_44 rfl rfl (fun c44 => ?_) (fun c44 => absurd (by decide) c44)
  refine Z_aload_n 53 2 dX0_read_52 rfl rfl ?_
  refine Z_getI 56 dX0_read_53 rfl fX0_31 (Nat.le_of_ble_eq_true rfl) rfl rfl ?_
  refine Z_top (congrArg Value.int hL) ?_
  exact Z_iret dX0_read_56 rfl kk
set_option maxRecDepth 100000 in
set_option maxHeartbeats 4000000 in
theorem rd_un3 {G : zG} {l : Launch} {h : Nat → Nat} (PP : Option Value → zW → Prop) (mm : zM) (L : Nat) (hL : mm 68 1 = nI L) (hL60 : L ≤ 60) (kk : PP (some (.int (nI L))) (zw h mm)) : Z G mX0_read (fun _ => True) (zN G PP 0 0) l 0 0 (zw h (mm)) 9 [(2, .int (nI (L))), (1, .int (nI (3))), (0, .ref (G.1 + 68))] [] := by
  refine Z_iload_n 10 0 dX0_read_9 rfl rfl ?_
  refine Z_aload_n 11 2 dX0_read_10 rfl rfl ?_
  refine Z_getI 14 dX0_read_11 rfl fX0_31 (Nat.le_of_ble_eq_true rfl) rfl rfl ?_
  refine Z_top (congrArg Value.int hL) ?_
  refine Z_icmp_ge 17 36 dX0_read_14 rfl rfl (fun c14 => ?_) (fun c14 => absurd (nI_le (Nat.le_refl L) (by omega)) c14)
  refine Z_iload_n 37 1 dX0_read_36 rfl rfl ?_
  refine Z_iconst 38 (nI 4) dX0_read_37 rfl rfl ?_
  refine Z_icmp_eq 41 47 dX0_read_38 rfl rfl (fun c38 => absurd c38 (by decide)) (fun c38 => ?_)
  refine Z_iload_n 42 1 dX0_read_41 rfl rfl ?_
  refine Z_bipush 44 (nI 6) dX0_read_42 rfl rfl ?_
  refine Z_icmp_ne 47 52 dX0_read_44 rfl rfl (fun c44 => ?_) (fun c44 => absurd (by decide) c44)
  refine Z_aload_n 53 2 dX0_read_52 rfl rfl ?_
  refine Z_getI 56 dX0_read_53 rfl fX0_31 (Nat.le_of_ble_eq_true rfl) rfl rfl ?_
  refine Z_top (congrArg Value.int hL) ?_
  exact Z_iret dX0_read_56 rfl kk
set_option maxRecDepth 100000 in
set_option maxHeartbeats 4000000 in
theorem rd_un5 {G : zG} {l : Launch} {h : Nat → Nat} (PP : Option Value → zW → Prop) (mm : zM) (L : Nat) (hL : mm 68 1 = nI L) (hL60 : L ≤ 60) (kk : PP (some (.int (nI L))) (zw h mm)) : Z G mX0_read (fun _ => True) (zN G PP 0 0) l 0 0 (zw h (mm)) 9 [(2, .int (nI (L))), (1, .int (nI (5))), (0, .ref (G.1 + 68))] [] := by
  refine Z_iload_n 10 0 dX0_read_9 rfl rfl ?_
  refine Z_aload_n 11 2 dX0_read_10 rfl rfl ?_
  refine Z_getI 14 dX0_read_11 rfl fX0_31 (Nat.le_of_ble_eq_true rfl) rfl rfl ?_
  refine Z_top (congrArg Value.int hL) ?_
  refine Z_icmp_ge 17 36 dX0_read_14 rfl rfl (fun c14 => ?_) (fun c14 => absurd (nI_le (Nat.le_refl L) (by omega)) c14)
  refine Z_iload_n 37 1 dX0_read_36 rfl rfl ?_
  refine Z_iconst 38 (nI 4) dX0_read_37 rfl rfl ?_
  refine Z_icmp_eq 41 47 dX0_read_38 rfl rfl (fun c38 => absurd c38 (by decide)) (fun c38 => ?_)
  refine Z_iload_n 42 1 dX0_read_41 rfl rfl ?_
  refine Z_bipush 44 (nI 6) dX0_read_42 rfl rfl ?_
  refine Z_icmp_ne 47 52 dX0_read_44 rfl rfl (fun c44 => ?_) (fun c44 => absurd (by decide) c44)
  refine Z_aload_n 53 2 dX0_read_52 rfl rfl ?_
  refine Z_getI 56 dX0_read_53 rfl fX0_31 (Nat.le_of_ble_eq_true rfl) rfl rfl ?_
  refine Z_top (congrArg Value.int hL) ?_
  exact Z_iret dX0_read_56 rfl kk
theorem nd0 (y : Int32) : ¬ dgt 0 y := fun q => q.1 (by decide)
theorem hx_hi {c : Nat → Int32} {L q : Nat} (h : L ≤ q) : hx c L q = 0 := if_neg (by omega)
theorem hx_lo {c : Nat → Int32} {L q : Nat} (h : q < L) : hx c L q = c q := if_pos h
theorem i32_mul {x y : Int32} (h1 : -1000000000 ≤ x.toInt * y.toInt) (h2 : x.toInt * y.toInt ≤ 1000000000) : (x * y).toInt = x.toInt * y.toInt := by
  rw [Int32.toInt_mul]
  exact Int.bmod_eq_of_le (by omega) (by omega)
theorem dgt_int {x : Int32} {k : Nat} (hk : k ≤ 9) (h : dgt x (nI k)) : 48 ≤ x.toInt ∧ x.toInt ≤ 48 + k ∧ (x - nI 48).toInt = x.toInt - 48 := by
  have e48 : (nI 48).toInt = 48 := rfl
  obtain ⟨h1, h2⟩ := h
  rw [i32_lt, e48] at h1
  rw [i32_lt, nIi (by omega)] at h2
  by_cases g : x.toInt ≤ 1000000000
  · have e := i32_sub (x := x) (y := nI 48) (by omega) (by omega)
    rw [e48] at e
    omega
  · exfalso
    have hx := Int32.toInt_lt x
    have e : (x - nI 48).toInt = x.toInt - 48 := by
      rw [Int32.toInt_sub, e48]
      exact Int.bmod_eq_of_le (by omega) (by omega)
    omega
theorem first_v (c : Int32) : nI 0 * nI 10 + c - nI 48 = c - nI 48 := by
  have e : nI 0 * nI 10 = (0 : Int32) := by decide
  rw [e, Int32.zero_add]
theorem v1_int {x : Nat → Int32} {s : Nat} (h5 : q5 x s) : 1 ≤ (v1 x s).toInt ∧ (v1 x s).toInt ≤ 9 := by
  obtain ⟨a, b⟩ := h5
  have := dgt_int (k := 9) (by decide) b
  unfold v1
  have e48 : (nI 48).toInt = 48 := rfl
  have : ¬ (x (s + 4)).toInt = 48 := fun q => a (i32_eq.mpr q)
  omega
theorem mst_int (x : Nat → Int32) (s : Nat) : 30 ≤ (mst x s).toInt ∧ (mst x s).toInt ≤ 60 := by
  unfold mst
  split <;> decide
theorem v2_int {x : Nat → Int32} {s : Nat} (h5 : q5 x s) (hd : dgt (x (s + 5)) (nI 9)) : 10 ≤ (v2 x s).toInt ∧ (v2 x s).toInt ≤ 99 := by
  have a := v1_int h5
  have b := dgt_int (k := 9) (by decide) hd
  have e48 : (nI 48).toInt = 48 := rfl
  have e10 : (nI 10).toInt = 10 := rfl
  have c1 : (v1 x s * nI 10).toInt = (v1 x s).toInt * 10 := by
    rw [i32_mul (by rw [e10]; omega) (by rw [e10]; omega), e10]
  have c2 : (v1 x s * nI 10 + x (s + 5)).toInt = (v1 x s).toInt * 10 + (x (s + 5)).toInt := by
    rw [i32_add (by omega) (by omega), c1]
  unfold v2
  rw [i32_sub (by omega) (by omega), c2, e48]
  omega
theorem third {x : Nat → Int32} {s : Nat} (h5 : q5 x s) (hd : dgt (x (s + 5)) (nI 9)) {c : Int32} (hc : dgt c (nI 9)) : mst x s < v2 x s * nI 10 + c - nI 48 := by
  have a := v2_int h5 hd
  have b := dgt_int (k := 9) (by decide) hc
  have e48 : (nI 48).toInt = 48 := rfl
  have e10 : (nI 10).toInt = 10 := rfl
  have c1 : (v2 x s * nI 10).toInt = (v2 x s).toInt * 10 := by
    rw [i32_mul (by rw [e10]; omega) (by rw [e10]; omega), e10]
  have c2 : (v2 x s * nI 10 + c).toInt = (v2 x s).toInt * 10 + c.toInt := by
    rw [i32_add (by omega) (by omega), c1]
  have c3 := mst_int x s
  rw [i32_lt, i32_sub (by omega) (by omega), c2, e48]
  omega
theorem n59 : ¬ dgt (nI 59) (nI 9) := by decide
theorem Good.succ {x : Nat → Int32} {L j : Nat} (h : Good x L j) (h1 : pOk x (sq x j)) (h2 : pEn x (sq x j) < L) (h3 : x (pEn x (sq x j)) = nI 59) : Good x L (j + 1) := fun i hi => by
  by_cases g : i < j
  · exact h i g
  · have e : i = j := by omega
    rw [e]
    exact ⟨h1, h2, h3⟩
theorem Good.le {x : Nat → Int32} {L j : Nat} (h : Good x L j) : sq x j ≤ L := by
  cases j with
  | zero => exact Nat.zero_le _
  | succ j =>
    have := (h j (by omega)).2.1
    show pEn x (sq x j) + 1 ≤ L
    omega
theorem RP.up {x : Nat → Int32} {m m' : zM} {j : Nat} (h : RP x m j) (e : ∀ c, 70 ≤ c → c ≤ 73 → ∀ i, i < j → m' c i = m c i) : RP x m' j := fun i hi => by
  have := h i hi
  rw [e 70 (by decide) (by decide) i hi, e 71 (by decide) (by decide) i hi, e 72 (by decide) (by decide) i hi, e 73 (by decide) (by decide) i hi]
  exact this
theorem RP.succ {x : Nat → Int32} {m : zM} {j : Nat} (h : RP x m j) (h1 : m 70 j = nI (sq x j)) (h2 : m 71 j = x (sq x j) - nI 48) (h3 : m 72 j = x (sq x j + 2) - nI 48) (h4 : m 73 j = pD x (sq x j)) : RP x m (j + 1) := fun i hi => by
  by_cases g : i < j
  · exact h i g
  · have e : i = j := by omega
    rw [e]
    exact ⟨h1, h2, h3, h4⟩
/-- what is known within a part: k signs of it are read -/
def Mid (x : Nat → Int32) (m mm : zM) (L j : Nat) : Prop := Fpd m mm ∧ Good x L j ∧ RP x mm j ∧ j < 15 ∧ mm 68 6 = nI (j + 1) ∧ mm 70 j = nI (sq x j) ∧ mm 71 j = x (sq x j) - nI 48
theorem Mid.up {x : Nat → Int32} {m mm : zM} {L j : Nat} (h : Mid x m mm L j) {c k : Nat} {v : Int32} (hc : (c = 68 ∧ (k = 7 ∨ k = 8 ∨ k = 9)) ∨ ((c = 72 ∨ c = 73) ∧ k = j)) : Mid x m (up2 mm c k v) L j := by
  obtain ⟨a1, a2, a3, a4, a5, a6, a7⟩ := h
  refine ⟨a1.up (by omega), a2, a3.up (fun c9 h1 h2 i hi => by rw [up2_ne _ _ (by omega)]), a4, ?_, ?_, ?_⟩
  · rw [up2_ne _ _ (by omega)]
    exact a5
  · rw [up2_ne _ _ (by omega)]
    exact a6
  · rw [up2_ne _ _ (by omega)]
    exact a7
theorem nIm4 {t : Nat} (ht : t < 2 ^ 31) : ¬ nI t = -4 := fun h => by
  have := nI_pos ht
  rw [h] at this
  exact this (by decide)
set_option maxRecDepth 100000 in
set_option maxHeartbeats 4000000 in
theorem rd6b {G : zG} {l : Launch} {h : Nat → Nat} {m : zM} (L : Nat) (hL : m 68 1 = nI L) (hL60 : L ≤ 60) (j : Nat) (mm : zM) (kk : ∀ mm : zM, Fpd m mm → Good (hx (m 69) L) L (j + 1) → RP (hx (m 69) L) mm (j + 1) → mm 68 6 = nI (j + 1) → Z G mX0_read (fun _ => True) (zN G ((fun r w => ∃ m' K v, w = zw h m' ∧ Fpd m m' ∧ Good (hx (m 69) L) L K ∧ r = some (.int v) ∧ Flt (hx (m 69) L) L K v ∧ (v = -4 → m' 68 6 = nI (K + 1) ∧ RP (hx (m 69) L) m' (K + 1) ∧ K < 15))) 0 0) l 0 0 (zw h (mm)) 9 [(2, .int (nI (sq (hx (m 69) L) (j + 1)))), (1, .int (nI (1))), (0, .ref (G.1 + 68))] []) (hM : Mid (hx (m 69) L) m mm L j) (h1 : q1 (hx (m 69) L) (sq (hx (m 69) L) j)) (h2 : q2 (hx (m 69) L) (sq (hx (m 69) L) j)) (h3 : q3 (hx (m 69) L) (sq (hx (m 69) L) j)) (h4 : q4 (hx (m 69) L) (sq (hx (m 69) L) j)) (h5 : q5 (hx (m 69) L) (sq (hx (m 69) L) j)) (h6 : q6 (hx (m 69) L) (sq (hx (m 69) L) j)) (h72 : mm 72 j = (hx (m 69) L) ((sq (hx (m 69) L) j) + 2) - nI 48) (h73 : mm 73 j = sgn (hx (m 69) L) (sq (hx (m 69) L) j) * v2 (hx (m 69) L) (sq (hx (m 69) L) j)) (h7 : mm 68 7 = sgn (hx (m 69) L) (sq (hx (m 69) L) j)) (h8 : mm 68 8 = v2 (hx (m 69) L) (sq (hx (m 69) L) j)) (h9 : mm 68 9 = mst (hx (m 69) L) (sq (hx (m 69) L) j)) (hq : (sq (hx (m 69) L) j) + 6 ≤ L) : Z G mX0_read (fun _ => True) (zN G ((fun r w => ∃ m' K v, w = zw h m' ∧ Fpd m m' ∧ Good (hx (m 69) L) L K ∧ r = some (.int v) ∧ Flt (hx (m 69) L) L K v ∧ (v = -4 → m' 68 6 = nI (K + 1) ∧ RP (hx (m 69) L) m' (K + 1) ∧ K < 15))) 0 0) l 0 0 (zw h (mm)) 9 [(2, .int (nI ((sq (hx (m 69) L) j) + 6))), (1, .int (nI (6))), (0, .ref (G.1 + 68))] [] := by
  have hF := hM.1
  have hLm : mm 68 1 = nI L := hF.2.2.trans hL
  have h69 : ∀ q, q < L → mm 69 q = (hx (m 69) L) q := fun q hq => by rw [hF.2.1]; exact (hx_lo hq).symm
  have hok := (⟨h1, h2, h3, fun _ => h5⟩ : pOk (hx (m 69) L) (sq (hx (m 69) L) j))
  by_cases hqL : (sq (hx (m 69) L) j) + 6 = L
  · have e0 : (hx (m 69) L) ((sq (hx (m 69) L) j) + 6) = 0 := hx_hi (by omega)
    have hen := pEn_6 h1 h2 h3 h4 h5 h6
    rw [hqL]
    exact rd_fin6 _ mm L hLm hL60 ⟨mm, j, _, rfl, hF, hM.2.1, rfl, Or.inr (Or.inl ⟨hok, by rw [hen, hqL], rfl⟩), fun _ => ⟨hM.2.2.2.2.1, hM.2.2.1.succ hM.2.2.2.2.2.1 hM.2.2.2.2.2.2 h72 (by unfold pD; rw [if_pos h4, if_pos h6]; exact h73), hM.2.2.2.1⟩⟩
  · have hlt : (sq (hx (m 69) L) j) + 6 < L := by omega
    have e69 := h69 _ hlt
    by_cases g59 : (hx (m 69) L) ((sq (hx (m 69) L) j) + 6) = nI 59
    · have hen := pEn_6 h1 h2 h3 h4 h5 h6
      refine rd_step _ mm L _ 6 hLm hL60 hlt 1 (by decide) mm (pb6s _ (by omega) (by rw [e69]; exact g59)) ?_
      have hG := hM.2.1.succ hok (by rw [hen]; exact hlt) (by rw [hen]; exact g59)
      have hk := kk mm hF hG (hM.2.2.1.succ hM.2.2.2.2.2.1 hM.2.2.2.2.2.2 h72 (by unfold pD; rw [if_pos h4, if_pos h6]; exact h73)) hM.2.2.2.2.1
      have e9 : sq (hx (m 69) L) (j + 1) = (sq (hx (m 69) L) j) + 6 + 1 := by
        show pEn (hx (m 69) L) (sq (hx (m 69) L) j) + 1 = _
        rw [hen]
      rw [e9] at hk
      exact hk
    · by_cases gd : dgt ((hx (m 69) L) ((sq (hx (m 69) L) j) + 6)) (nI 9)
      · have hen := pEn_6 h1 h2 h3 h4 h5 h6
        exact rd_bad _ mm L _ 6 hLm hL60 hlt _ (pb6g _ (by omega) (by rw [e69]; exact g59) (by rw [e69]; exact gd) (by rw [e69, h8, h9]; exact third h5 h6.1 gd)) ⟨_, j, _, rfl, hF.up (Or.inl ⟨rfl, by decide⟩), hM.2.1, rfl, Or.inr (Or.inr ⟨hok, by rw [hen]; exact hlt, by rw [hen]; exact g59, by rw [hen]⟩), fun z => absurd z (nIm4 (by omega))⟩
      · have hen := pEn_6 h1 h2 h3 h4 h5 h6
        exact rd_bad _ mm L _ 6 hLm hL60 hlt _ (pb6e _ (by omega) (by rw [e69]; exact g59) (by rw [e69]; exact gd)) ⟨_, j, _, rfl, hF, hM.2.1, rfl, Or.inr (Or.inr ⟨hok, by rw [hen]; exact hlt, by rw [hen]; exact g59, by rw [hen]⟩), fun z => absurd z (nIm4 (by omega))⟩
set_option maxRecDepth 100000 in
set_option maxHeartbeats 4000000 in
theorem rd6a {G : zG} {l : Launch} {h : Nat → Nat} {m : zM} (L : Nat) (hL : m 68 1 = nI L) (hL60 : L ≤ 60) (j : Nat) (mm : zM) (kk : ∀ mm : zM, Fpd m mm → Good (hx (m 69) L) L (j + 1) → RP (hx (m 69) L) mm (j + 1) → mm 68 6 = nI (j + 1) → Z G mX0_read (fun _ => True) (zN G ((fun r w => ∃ m' K v, w = zw h m' ∧ Fpd m m' ∧ Good (hx (m 69) L) L K ∧ r = some (.int v) ∧ Flt (hx (m 69) L) L K v ∧ (v = -4 → m' 68 6 = nI (K + 1) ∧ RP (hx (m 69) L) m' (K + 1) ∧ K < 15))) 0 0) l 0 0 (zw h (mm)) 9 [(2, .int (nI (sq (hx (m 69) L) (j + 1)))), (1, .int (nI (1))), (0, .ref (G.1 + 68))] []) (hM : Mid (hx (m 69) L) m mm L j) (h1 : q1 (hx (m 69) L) (sq (hx (m 69) L) j)) (h2 : q2 (hx (m 69) L) (sq (hx (m 69) L) j)) (h3 : q3 (hx (m 69) L) (sq (hx (m 69) L) j)) (h4 : q4 (hx (m 69) L) (sq (hx (m 69) L) j)) (h5 : q5 (hx (m 69) L) (sq (hx (m 69) L) j)) (h72 : mm 72 j = (hx (m 69) L) ((sq (hx (m 69) L) j) + 2) - nI 48) (h73 : mm 73 j = sgn (hx (m 69) L) (sq (hx (m 69) L) j) * v1 (hx (m 69) L) (sq (hx (m 69) L) j)) (h7 : mm 68 7 = sgn (hx (m 69) L) (sq (hx (m 69) L) j)) (h8 : mm 68 8 = v1 (hx (m 69) L) (sq (hx (m 69) L) j)) (h9 : mm 68 9 = mst (hx (m 69) L) (sq (hx (m 69) L) j)) (hq : (sq (hx (m 69) L) j) + 5 ≤ L) : Z G mX0_read (fun _ => True) (zN G ((fun r w => ∃ m' K v, w = zw h m' ∧ Fpd m m' ∧ Good (hx (m 69) L) L K ∧ r = some (.int v) ∧ Flt (hx (m 69) L) L K v ∧ (v = -4 → m' 68 6 = nI (K + 1) ∧ RP (hx (m 69) L) m' (K + 1) ∧ K < 15))) 0 0) l 0 0 (zw h (mm)) 9 [(2, .int (nI ((sq (hx (m 69) L) j) + 5))), (1, .int (nI (6))), (0, .ref (G.1 + 68))] [] := by
  have hF := hM.1
  have hLm : mm 68 1 = nI L := hF.2.2.trans hL
  have h69 : ∀ q, q < L → mm 69 q = (hx (m 69) L) q := fun q hq => by rw [hF.2.1]; exact (hx_lo hq).symm
  have hok := (⟨h1, h2, h3, fun _ => h5⟩ : pOk (hx (m 69) L) (sq (hx (m 69) L) j))
  by_cases hqL : (sq (hx (m 69) L) j) + 5 = L
  · have e0 : (hx (m 69) L) ((sq (hx (m 69) L) j) + 5) = 0 := hx_hi (by omega)
    have n6 : ¬ q6 (hx (m 69) L) (sq (hx (m 69) L) j) := fun z => nd0 _ (by have := z.1; rw [e0] at this; exact this)
    have hen := pEn_7 h1 h2 h3 h4 h5 n6
    rw [hqL]
    exact rd_fin6 _ mm L hLm hL60 ⟨mm, j, _, rfl, hF, hM.2.1, rfl, Or.inr (Or.inl ⟨hok, by rw [hen, hqL], rfl⟩), fun _ => ⟨hM.2.2.2.2.1, hM.2.2.1.succ hM.2.2.2.2.2.1 hM.2.2.2.2.2.2 h72 (by unfold pD; rw [if_pos h4, if_neg n6]; exact h73), hM.2.2.2.1⟩⟩
  · have hlt : (sq (hx (m 69) L) j) + 5 < L := by omega
    have e69 := h69 _ hlt
    by_cases g59 : (hx (m 69) L) ((sq (hx (m 69) L) j) + 5) = nI 59
    · have n6 : ¬ q6 (hx (m 69) L) (sq (hx (m 69) L) j) := fun z => n59 (by have := z.1; rw [g59] at this; exact this)
      have hen := pEn_7 h1 h2 h3 h4 h5 n6
      refine rd_step _ mm L _ 6 hLm hL60 hlt 1 (by decide) mm (pb6s _ (by omega) (by rw [e69]; exact g59)) ?_
      have hG := hM.2.1.succ hok (by rw [hen]; exact hlt) (by rw [hen]; exact g59)
      have hk := kk mm hF hG (hM.2.2.1.succ hM.2.2.2.2.2.1 hM.2.2.2.2.2.2 h72 (by unfold pD; rw [if_pos h4, if_neg n6]; exact h73)) hM.2.2.2.2.1
      have e9 : sq (hx (m 69) L) (j + 1) = (sq (hx (m 69) L) j) + 5 + 1 := by
        show pEn (hx (m 69) L) (sq (hx (m 69) L) j) + 1 = _
        rw [hen]
      rw [e9] at hk
      exact hk
    · by_cases gd : dgt ((hx (m 69) L) ((sq (hx (m 69) L) j) + 5)) (nI 9)
      · by_cases gm : mst (hx (m 69) L) (sq (hx (m 69) L) j) < v2 (hx (m 69) L) (sq (hx (m 69) L) j)
        · have n6 : ¬ q6 (hx (m 69) L) (sq (hx (m 69) L) j) := fun z => z.2 gm
          have hen := pEn_7 h1 h2 h3 h4 h5 n6
          exact rd_bad _ mm L _ 6 hLm hL60 hlt _ (pb6g _ (by omega) (by rw [e69]; exact g59) (by rw [e69]; exact gd) (by rw [e69, h8, h9]; exact gm)) ⟨_, j, _, rfl, hF.up (Or.inl ⟨rfl, by decide⟩), hM.2.1, rfl, Or.inr (Or.inr ⟨hok, by rw [hen]; exact hlt, by rw [hen]; exact g59, by rw [hen]⟩), fun z => absurd z (nIm4 (by omega))⟩
        · have h6 : q6 (hx (m 69) L) (sq (hx (m 69) L) j) := ⟨gd, gm⟩
          have e8 : mm 68 8 * nI 10 + mm 69 ((sq (hx (m 69) L) j) + 5) - nI 48 = v2 (hx (m 69) L) (sq (hx (m 69) L) j) := by rw [e69, h8]; rfl
          have C := pb6 (G := G) (l := l) (h := h) (m := mm) ((sq (hx (m 69) L) j) + 5) (by omega) (by rw [e69]; exact g59) (by rw [e69]; exact gd) (by rw [e8, h9]; exact gm) j hM.2.2.2.1 hM.2.2.2.2.1
          rw [e8, h7] at C
          refine rd_step _ mm L _ 6 hLm hL60 hlt 6 (by decide) _ C ?_
          have hM2 := (hM.up (c := 68) (k := 8) (v := v2 (hx (m 69) L) (sq (hx (m 69) L) j)) (Or.inl ⟨rfl, Or.inr (Or.inl rfl)⟩)).up (c := 73) (k := j) (v := sgn (hx (m 69) L) (sq (hx (m 69) L) j) * v2 (hx (m 69) L) (sq (hx (m 69) L) j)) (Or.inr ⟨Or.inr rfl, rfl⟩)
          exact rd6b L hL hL60 j _ kk hM2 h1 h2 h3 h4 h5 h6 (by rw [up2_na _ _ _ (by decide), up2_na _ _ _ (by decide)]; exact h72) (up2_eq _ _ _ _) (by rw [up2_na _ _ _ (by decide), up2_ne _ _ (by decide)]; exact h7) (by rw [up2_na _ _ _ (by decide)]; exact up2_eq _ _ _ _) (by rw [up2_na _ _ _ (by decide), up2_ne _ _ (by decide)]; exact h9) hlt
      · have n6 : ¬ q6 (hx (m 69) L) (sq (hx (m 69) L) j) := fun z => gd z.1
        have hen := pEn_7 h1 h2 h3 h4 h5 n6
        exact rd_bad _ mm L _ 6 hLm hL60 hlt _ (pb6e _ (by omega) (by rw [e69]; exact g59) (by rw [e69]; exact gd)) ⟨_, j, _, rfl, hF, hM.2.1, rfl, Or.inr (Or.inr ⟨hok, by rw [hen]; exact hlt, by rw [hen]; exact g59, by rw [hen]⟩), fun z => absurd z (nIm4 (by omega))⟩
set_option maxRecDepth 100000 in
set_option maxHeartbeats 4000000 in
theorem rd5 {G : zG} {l : Launch} {h : Nat → Nat} {m : zM} (L : Nat) (hL : m 68 1 = nI L) (hL60 : L ≤ 60) (j : Nat) (mm : zM) (kk : ∀ mm : zM, Fpd m mm → Good (hx (m 69) L) L (j + 1) → RP (hx (m 69) L) mm (j + 1) → mm 68 6 = nI (j + 1) → Z G mX0_read (fun _ => True) (zN G ((fun r w => ∃ m' K v, w = zw h m' ∧ Fpd m m' ∧ Good (hx (m 69) L) L K ∧ r = some (.int v) ∧ Flt (hx (m 69) L) L K v ∧ (v = -4 → m' 68 6 = nI (K + 1) ∧ RP (hx (m 69) L) m' (K + 1) ∧ K < 15))) 0 0) l 0 0 (zw h (mm)) 9 [(2, .int (nI (sq (hx (m 69) L) (j + 1)))), (1, .int (nI (1))), (0, .ref (G.1 + 68))] []) (hM : Mid (hx (m 69) L) m mm L j) (h1 : q1 (hx (m 69) L) (sq (hx (m 69) L) j)) (h2 : q2 (hx (m 69) L) (sq (hx (m 69) L) j)) (h3 : q3 (hx (m 69) L) (sq (hx (m 69) L) j)) (h4 : q4 (hx (m 69) L) (sq (hx (m 69) L) j)) (h72 : mm 72 j = (hx (m 69) L) ((sq (hx (m 69) L) j) + 2) - nI 48) (h7 : mm 68 7 = sgn (hx (m 69) L) (sq (hx (m 69) L) j)) (h8 : mm 68 8 = nI 0) (h9 : mm 68 9 = mst (hx (m 69) L) (sq (hx (m 69) L) j)) (hq : (sq (hx (m 69) L) j) + 4 ≤ L) : Z G mX0_read (fun _ => True) (zN G ((fun r w => ∃ m' K v, w = zw h m' ∧ Fpd m m' ∧ Good (hx (m 69) L) L K ∧ r = some (.int v) ∧ Flt (hx (m 69) L) L K v ∧ (v = -4 → m' 68 6 = nI (K + 1) ∧ RP (hx (m 69) L) m' (K + 1) ∧ K < 15))) 0 0) l 0 0 (zw h (mm)) 9 [(2, .int (nI ((sq (hx (m 69) L) j) + 4))), (1, .int (nI (5))), (0, .ref (G.1 + 68))] [] := by
  have hF := hM.1
  have hLm : mm 68 1 = nI L := hF.2.2.trans hL
  have h69 : ∀ q, q < L → mm 69 q = (hx (m 69) L) q := fun q hq => by rw [hF.2.1]; exact (hx_lo hq).symm
  by_cases hqL : (sq (hx (m 69) L) j) + 4 = L
  · have e0 : (hx (m 69) L) ((sq (hx (m 69) L) j) + 4) = 0 := hx_hi (by omega)
    have n5 : ¬ q5 (hx (m 69) L) (sq (hx (m 69) L) j) := fun z => nd0 _ (by have := z.2; rw [e0] at this; exact this)
    rw [hqL]
    exact rd_un5 _ mm L hLm hL60 ⟨mm, j, _, rfl, hF, hM.2.1, rfl, Or.inl ⟨fun z => n5 (z.2.2.2 h4), by rw [pEn_5 h1 h2 h3 h4 n5, hqL]⟩, fun z => absurd z (nIm4 (by omega))⟩
  · have hlt : (sq (hx (m 69) L) j) + 4 < L := by omega
    have e69 := h69 _ hlt
    by_cases g48 : (hx (m 69) L) ((sq (hx (m 69) L) j) + 4) = nI 48
    · have n5 : ¬ q5 (hx (m 69) L) (sq (hx (m 69) L) j) := fun z => z.1 g48
      exact rd_bad _ mm L _ 5 hLm hL60 hlt _ (pb5a _ (by omega) (by rw [e69]; exact g48)) ⟨_, j, _, rfl, hF, hM.2.1, rfl, Or.inl ⟨fun z => n5 (z.2.2.2 h4), by rw [pEn_5 h1 h2 h3 h4 n5]⟩, fun z => absurd z (nIm4 (by omega))⟩
    · by_cases gd : dgt ((hx (m 69) L) ((sq (hx (m 69) L) j) + 4)) (nI 9)
      · have h5 : q5 (hx (m 69) L) (sq (hx (m 69) L) j) := ⟨g48, gd⟩
        have e8 : mm 68 8 * nI 10 + mm 69 ((sq (hx (m 69) L) j) + 4) - nI 48 = v1 (hx (m 69) L) (sq (hx (m 69) L) j) := by rw [e69, h8]; exact first_v _
        have C := pb5 (G := G) (l := l) (h := h) (m := mm) ((sq (hx (m 69) L) j) + 4) (by omega) (by rw [e69]; exact g48) (by rw [e69]; exact gd) (by rw [e8, h9, i32_lt]; have := v1_int h5; have := mst_int (hx (m 69) L) (sq (hx (m 69) L) j); omega) j hM.2.2.2.1 hM.2.2.2.2.1
        rw [e8, h7] at C
        refine rd_step _ mm L _ 5 hLm hL60 hlt 6 (by decide) _ C ?_
        have hM2 := (hM.up (c := 68) (k := 8) (v := v1 (hx (m 69) L) (sq (hx (m 69) L) j)) (Or.inl ⟨rfl, Or.inr (Or.inl rfl)⟩)).up (c := 73) (k := j) (v := sgn (hx (m 69) L) (sq (hx (m 69) L) j) * v1 (hx (m 69) L) (sq (hx (m 69) L) j)) (Or.inr ⟨Or.inr rfl, rfl⟩)
        exact rd6a L hL hL60 j _ kk hM2 h1 h2 h3 h4 h5 (by rw [up2_na _ _ _ (by decide), up2_na _ _ _ (by decide)]; exact h72) (up2_eq _ _ _ _) (by rw [up2_na _ _ _ (by decide), up2_ne _ _ (by decide)]; exact h7) (by rw [up2_na _ _ _ (by decide)]; exact up2_eq _ _ _ _) (by rw [up2_na _ _ _ (by decide), up2_ne _ _ (by decide)]; exact h9) hlt
      · have n5 : ¬ q5 (hx (m 69) L) (sq (hx (m 69) L) j) := fun z => gd z.2
        exact rd_bad _ mm L _ 5 hLm hL60 hlt _ (pb5e _ (by omega) (by rw [e69]; exact g48) (by rw [e69]; exact gd)) ⟨_, j, _, rfl, hF, hM.2.1, rfl, Or.inl ⟨fun z => n5 (z.2.2.2 h4), by rw [pEn_5 h1 h2 h3 h4 n5]⟩, fun z => absurd z (nIm4 (by omega))⟩
set_option maxRecDepth 100000 in
set_option maxHeartbeats 4000000 in
theorem rd4 {G : zG} {l : Launch} {h : Nat → Nat} {m : zM} (L : Nat) (hL : m 68 1 = nI L) (hL60 : L ≤ 60) (j : Nat) (mm : zM) (kk : ∀ mm : zM, Fpd m mm → Good (hx (m 69) L) L (j + 1) → RP (hx (m 69) L) mm (j + 1) → mm 68 6 = nI (j + 1) → Z G mX0_read (fun _ => True) (zN G ((fun r w => ∃ m' K v, w = zw h m' ∧ Fpd m m' ∧ Good (hx (m 69) L) L K ∧ r = some (.int v) ∧ Flt (hx (m 69) L) L K v ∧ (v = -4 → m' 68 6 = nI (K + 1) ∧ RP (hx (m 69) L) m' (K + 1) ∧ K < 15))) 0 0) l 0 0 (zw h (mm)) 9 [(2, .int (nI (sq (hx (m 69) L) (j + 1)))), (1, .int (nI (1))), (0, .ref (G.1 + 68))] []) (hM : Mid (hx (m 69) L) m mm L j) (h1 : q1 (hx (m 69) L) (sq (hx (m 69) L) j)) (h2 : q2 (hx (m 69) L) (sq (hx (m 69) L) j)) (h3 : q3 (hx (m 69) L) (sq (hx (m 69) L) j)) (h72 : mm 72 j = (hx (m 69) L) ((sq (hx (m 69) L) j) + 2) - nI 48) (h73 : mm 73 j = nI 0) (hq : (sq (hx (m 69) L) j) + 3 ≤ L) : Z G mX0_read (fun _ => True) (zN G ((fun r w => ∃ m' K v, w = zw h m' ∧ Fpd m m' ∧ Good (hx (m 69) L) L K ∧ r = some (.int v) ∧ Flt (hx (m 69) L) L K v ∧ (v = -4 → m' 68 6 = nI (K + 1) ∧ RP (hx (m 69) L) m' (K + 1) ∧ K < 15))) 0 0) l 0 0 (zw h (mm)) 9 [(2, .int (nI ((sq (hx (m 69) L) j) + 3))), (1, .int (nI (4))), (0, .ref (G.1 + 68))] [] := by
  have hF := hM.1
  have hLm : mm 68 1 = nI L := hF.2.2.trans hL
  have h69 : ∀ q, q < L → mm 69 q = (hx (m 69) L) q := fun q hq => by rw [hF.2.1]; exact (hx_lo hq).symm
  have fin : ¬ q4 (hx (m 69) L) (sq (hx (m 69) L) j) → RP (hx (m 69) L) mm (j + 1) := fun n4 => hM.2.2.1.succ hM.2.2.2.2.2.1 hM.2.2.2.2.2.2 h72 (by unfold pD; rw [if_neg n4]; exact h73)
  by_cases hqL : (sq (hx (m 69) L) j) + 3 = L
  · have e0 : (hx (m 69) L) ((sq (hx (m 69) L) j) + 3) = 0 := hx_hi (by omega)
    have n4 : ¬ q4 (hx (m 69) L) (sq (hx (m 69) L) j) := fun z => z.elim (fun y => absurd (e0.symm.trans y) (by decide)) (fun y => absurd (e0.symm.trans y) (by decide))
    have hen := pEn_4 h1 h2 h3 n4
    rw [hqL]
    exact rd_fin4 _ mm L hLm hL60 ⟨mm, j, _, rfl, hF, hM.2.1, rfl, Or.inr (Or.inl ⟨⟨h1, h2, h3, fun z => absurd z n4⟩, by rw [hen, hqL], rfl⟩), fun _ => ⟨hM.2.2.2.2.1, fin n4, hM.2.2.2.1⟩⟩
  · have hlt : (sq (hx (m 69) L) j) + 3 < L := by omega
    have e69 := h69 _ hlt
    by_cases g59 : (hx (m 69) L) ((sq (hx (m 69) L) j) + 3) = nI 59
    · have n4 : ¬ q4 (hx (m 69) L) (sq (hx (m 69) L) j) := fun z => z.elim (fun y => absurd (g59.symm.trans y) (by decide)) (fun y => absurd (g59.symm.trans y) (by decide))
      have hen := pEn_4 h1 h2 h3 n4
      refine rd_step _ mm L _ 4 hLm hL60 hlt 1 (by decide) mm (pb4_59 _ (by omega) (by rw [e69]; exact g59)) ?_
      have hG := hM.2.1.succ ⟨h1, h2, h3, fun z => absurd z n4⟩ (by rw [hen]; exact hlt) (by rw [hen]; exact g59)
      have hk := kk mm hF hG (fin n4) hM.2.2.2.2.1
      have e9 : sq (hx (m 69) L) (j + 1) = (sq (hx (m 69) L) j) + 3 + 1 := by
        show pEn (hx (m 69) L) (sq (hx (m 69) L) j) + 1 = _
        rw [hen]
      rw [e9] at hk
      exact hk
    · by_cases g43 : (hx (m 69) L) ((sq (hx (m 69) L) j) + 3) = nI 43
      · skip
        have h4 : q4 (hx (m 69) L) (sq (hx (m 69) L) j) := Or.inl g43
        have es : sgn (hx (m 69) L) (sq (hx (m 69) L) j) = nI 1 := if_pos g43
        have em : mst (hx (m 69) L) (sq (hx (m 69) L) j) = nI 60 := if_pos g43
        refine rd_step _ mm L _ 4 hLm hL60 hlt 5 (by decide) _ (pb4_43 _ (by omega) (by rw [e69]; exact g43)) ?_
        have hM2 := ((hM.up (c := 68) (k := 7) (v := nI 1) (Or.inl ⟨rfl, Or.inl rfl⟩)).up (c := 68) (k := 8) (v := nI 0) (Or.inl ⟨rfl, Or.inr (Or.inl rfl)⟩)).up (c := 68) (k := 9) (v := nI 60) (Or.inl ⟨rfl, Or.inr (Or.inr rfl)⟩)
        exact rd5 L hL hL60 j _ kk hM2 h1 h2 h3 h4 (by rw [up2_na _ _ _ (by decide), up2_na _ _ _ (by decide), up2_na _ _ _ (by decide)]; exact h72) (by rw [es, up2_ne _ _ (by decide), up2_ne _ _ (by decide)]; exact up2_eq _ _ _ _) (by rw [up2_ne _ _ (by decide)]; exact up2_eq _ _ _ _) (by rw [em]; exact up2_eq _ _ _ _) hlt
      · by_cases g45 : (hx (m 69) L) ((sq (hx (m 69) L) j) + 3) = nI 45
        · skip
          have h4 : q4 (hx (m 69) L) (sq (hx (m 69) L) j) := Or.inr g45
          have es : sgn (hx (m 69) L) (sq (hx (m 69) L) j) = (-1) := if_neg (fun z => by rw [g45] at z; exact absurd z (by decide))
          have em : mst (hx (m 69) L) (sq (hx (m 69) L) j) = nI 30 := if_neg (fun z => by rw [g45] at z; exact absurd z (by decide))
          refine rd_step _ mm L _ 4 hLm hL60 hlt 5 (by decide) _ (pb4_45 _ (by omega) (by rw [e69]; exact g45)) ?_
          have hM2 := ((hM.up (c := 68) (k := 7) (v := (-1)) (Or.inl ⟨rfl, Or.inl rfl⟩)).up (c := 68) (k := 8) (v := nI 0) (Or.inl ⟨rfl, Or.inr (Or.inl rfl)⟩)).up (c := 68) (k := 9) (v := nI 30) (Or.inl ⟨rfl, Or.inr (Or.inr rfl)⟩)
          exact rd5 L hL hL60 j _ kk hM2 h1 h2 h3 h4 (by rw [up2_na _ _ _ (by decide), up2_na _ _ _ (by decide), up2_na _ _ _ (by decide)]; exact h72) (by rw [es, up2_ne _ _ (by decide), up2_ne _ _ (by decide)]; exact up2_eq _ _ _ _) (by rw [up2_ne _ _ (by decide)]; exact up2_eq _ _ _ _) (by rw [em]; exact up2_eq _ _ _ _) hlt
        · have n4 : ¬ q4 (hx (m 69) L) (sq (hx (m 69) L) j) := fun z => z.elim g43 g45
          have hen := pEn_4 h1 h2 h3 n4
          exact rd_bad _ mm L _ 4 hLm hL60 hlt _ (pb4e _ (by omega) (by rw [e69]; exact g43) (by rw [e69]; exact g45) (by rw [e69]; exact g59)) ⟨_, j, _, rfl, hF, hM.2.1, rfl, Or.inr (Or.inr ⟨⟨h1, h2, h3, fun z => absurd z n4⟩, by rw [hen]; exact hlt, by rw [hen]; exact g59, by rw [hen]⟩), fun z => absurd z (nIm4 (by omega))⟩
set_option maxRecDepth 100000 in
set_option maxHeartbeats 4000000 in
theorem rd3 {G : zG} {l : Launch} {h : Nat → Nat} {m : zM} (L : Nat) (hL : m 68 1 = nI L) (hL60 : L ≤ 60) (j : Nat) (mm : zM) (kk : ∀ mm : zM, Fpd m mm → Good (hx (m 69) L) L (j + 1) → RP (hx (m 69) L) mm (j + 1) → mm 68 6 = nI (j + 1) → Z G mX0_read (fun _ => True) (zN G ((fun r w => ∃ m' K v, w = zw h m' ∧ Fpd m m' ∧ Good (hx (m 69) L) L K ∧ r = some (.int v) ∧ Flt (hx (m 69) L) L K v ∧ (v = -4 → m' 68 6 = nI (K + 1) ∧ RP (hx (m 69) L) m' (K + 1) ∧ K < 15))) 0 0) l 0 0 (zw h (mm)) 9 [(2, .int (nI (sq (hx (m 69) L) (j + 1)))), (1, .int (nI (1))), (0, .ref (G.1 + 68))] []) (hM : Mid (hx (m 69) L) m mm L j) (h1 : q1 (hx (m 69) L) (sq (hx (m 69) L) j)) (h2 : q2 (hx (m 69) L) (sq (hx (m 69) L) j)) (h73 : mm 73 j = nI 0) (hq : (sq (hx (m 69) L) j) + 2 ≤ L) : Z G mX0_read (fun _ => True) (zN G ((fun r w => ∃ m' K v, w = zw h m' ∧ Fpd m m' ∧ Good (hx (m 69) L) L K ∧ r = some (.int v) ∧ Flt (hx (m 69) L) L K v ∧ (v = -4 → m' 68 6 = nI (K + 1) ∧ RP (hx (m 69) L) m' (K + 1) ∧ K < 15))) 0 0) l 0 0 (zw h (mm)) 9 [(2, .int (nI ((sq (hx (m 69) L) j) + 2))), (1, .int (nI (3))), (0, .ref (G.1 + 68))] [] := by
  have hF := hM.1
  have hLm : mm 68 1 = nI L := hF.2.2.trans hL
  have h69 : ∀ q, q < L → mm 69 q = (hx (m 69) L) q := fun q hq => by rw [hF.2.1]; exact (hx_lo hq).symm
  by_cases hqL : (sq (hx (m 69) L) j) + 2 = L
  · have e0 : (hx (m 69) L) ((sq (hx (m 69) L) j) + 2) = 0 := hx_hi (by omega)
    have n3 : ¬ q3 (hx (m 69) L) (sq (hx (m 69) L) j) := fun z => nd0 _ (by have := z; unfold q3 at this; rw [e0] at this; exact this)
    rw [hqL]
    exact rd_un3 _ mm L hLm hL60 ⟨mm, j, _, rfl, hF, hM.2.1, rfl, Or.inl ⟨fun z => n3 z.2.2.1, by rw [pEn_3 h1 h2 n3, hqL]⟩, fun z => absurd z (nIm4 (by omega))⟩
  · have hlt : (sq (hx (m 69) L) j) + 2 < L := by omega
    have e69 := h69 _ hlt
    by_cases h3 : q3 (hx (m 69) L) (sq (hx (m 69) L) j)
    · refine rd_step _ mm L _ 3 hLm hL60 hlt 4 (by decide) _ (pb3 _ (by omega) j hM.2.2.2.1 hM.2.2.2.2.1 (by rw [e69]; exact h3)) ?_
      exact rd4 L hL hL60 j _ kk (hM.up (Or.inr ⟨Or.inl rfl, rfl⟩)) h1 h2 h3 (by rw [up2_eq, e69]) (by rw [up2_na _ _ _ (by decide)]; exact h73) hlt
    · exact rd_bad _ mm L _ 3 hLm hL60 hlt _ (pb3e _ (by omega) (by rw [e69]; exact h3)) ⟨_, j, _, rfl, hF, hM.2.1, rfl, Or.inl ⟨fun z => h3 z.2.2.1, by rw [pEn_3 h1 h2 h3]⟩, fun z => absurd z (nIm4 (by omega))⟩
set_option maxRecDepth 100000 in
set_option maxHeartbeats 4000000 in
theorem rd2 {G : zG} {l : Launch} {h : Nat → Nat} {m : zM} (L : Nat) (hL : m 68 1 = nI L) (hL60 : L ≤ 60) (j : Nat) (mm : zM) (kk : ∀ mm : zM, Fpd m mm → Good (hx (m 69) L) L (j + 1) → RP (hx (m 69) L) mm (j + 1) → mm 68 6 = nI (j + 1) → Z G mX0_read (fun _ => True) (zN G ((fun r w => ∃ m' K v, w = zw h m' ∧ Fpd m m' ∧ Good (hx (m 69) L) L K ∧ r = some (.int v) ∧ Flt (hx (m 69) L) L K v ∧ (v = -4 → m' 68 6 = nI (K + 1) ∧ RP (hx (m 69) L) m' (K + 1) ∧ K < 15))) 0 0) l 0 0 (zw h (mm)) 9 [(2, .int (nI (sq (hx (m 69) L) (j + 1)))), (1, .int (nI (1))), (0, .ref (G.1 + 68))] []) (hM : Mid (hx (m 69) L) m mm L j) (h1 : q1 (hx (m 69) L) (sq (hx (m 69) L) j)) (h73 : mm 73 j = nI 0) (hq : (sq (hx (m 69) L) j) + 1 ≤ L) : Z G mX0_read (fun _ => True) (zN G ((fun r w => ∃ m' K v, w = zw h m' ∧ Fpd m m' ∧ Good (hx (m 69) L) L K ∧ r = some (.int v) ∧ Flt (hx (m 69) L) L K v ∧ (v = -4 → m' 68 6 = nI (K + 1) ∧ RP (hx (m 69) L) m' (K + 1) ∧ K < 15))) 0 0) l 0 0 (zw h (mm)) 9 [(2, .int (nI ((sq (hx (m 69) L) j) + 1))), (1, .int (nI (2))), (0, .ref (G.1 + 68))] [] := by
  have hF := hM.1
  have hLm : mm 68 1 = nI L := hF.2.2.trans hL
  have h69 : ∀ q, q < L → mm 69 q = (hx (m 69) L) q := fun q hq => by rw [hF.2.1]; exact (hx_lo hq).symm
  by_cases hqL : (sq (hx (m 69) L) j) + 1 = L
  · have e0 : (hx (m 69) L) ((sq (hx (m 69) L) j) + 1) = 0 := hx_hi (by omega)
    have n2 : ¬ q2 (hx (m 69) L) (sq (hx (m 69) L) j) := fun z => absurd (e0.symm.trans z) (by decide)
    rw [hqL]
    exact rd_un2 _ mm L hLm hL60 ⟨mm, j, _, rfl, hF, hM.2.1, rfl, Or.inl ⟨fun z => n2 z.2.1, by rw [pEn_2 h1 n2, hqL]⟩, fun z => absurd z (nIm4 (by omega))⟩
  · have hlt : (sq (hx (m 69) L) j) + 1 < L := by omega
    have e69 := h69 _ hlt
    by_cases h2 : q2 (hx (m 69) L) (sq (hx (m 69) L) j)
    · refine rd_step _ mm L _ 2 hLm hL60 hlt 3 (by decide) _ (pb2 _ (by omega) (by rw [e69]; exact h2)) ?_
      exact rd3 L hL hL60 j _ kk hM h1 h2 h73 hlt
    · exact rd_bad _ mm L _ 2 hLm hL60 hlt _ (pb2e _ (by omega) (by rw [e69]; exact h2)) ⟨_, j, _, rfl, hF, hM.2.1, rfl, Or.inl ⟨fun z => h2 z.2.1, by rw [pEn_2 h1 h2]⟩, fun z => absurd z (nIm4 (by omega))⟩
set_option maxRecDepth 100000 in
set_option maxHeartbeats 4000000 in
theorem rd1 {G : zG} {l : Launch} {h : Nat → Nat} {m : zM} (L : Nat) (hL : m 68 1 = nI L) (hL60 : L ≤ 60) : ∀ (t j : Nat) (mm : zM), L + 1 ≤ sq (hx (m 69) L) j + t → Fpd m mm → Good (hx (m 69) L) L j → RP (hx (m 69) L) mm j → mm 68 6 = nI j → Z G mX0_read (fun _ => True) (zN G ((fun r w => ∃ m' K v, w = zw h m' ∧ Fpd m m' ∧ Good (hx (m 69) L) L K ∧ r = some (.int v) ∧ Flt (hx (m 69) L) L K v ∧ (v = -4 → m' 68 6 = nI (K + 1) ∧ RP (hx (m 69) L) m' (K + 1) ∧ K < 15))) 0 0) l 0 0 (zw h (mm)) 9 [(2, .int (nI (sq (hx (m 69) L) j))), (1, .int (nI (1))), (0, .ref (G.1 + 68))] [] := by
  intro t
  induction t with
  | zero =>
    intro j mm ht _ hG _ _
    have := hG.le
    omega
  | succ t ih =>
    intro j mm ht hF hG hR hp
    have hLm : mm 68 1 = nI L := hF.2.2.trans hL
    have h69 : ∀ q, q < L → mm 69 q = (hx (m 69) L) q := fun q hq => by rw [hF.2.1]; exact (hx_lo hq).symm
    have hq := hG.le
    have h4j := sq_4 j hG
    by_cases hqL : (sq (hx (m 69) L) j) = L
    · have e0 : (hx (m 69) L) (sq (hx (m 69) L) j) = 0 := hx_hi (by omega)
      have n1 : ¬ q1 (hx (m 69) L) (sq (hx (m 69) L) j) := fun z => nd0 _ (by have := z; unfold q1 at this; rw [e0] at this; exact this)
      rw [hqL]
      exact rd_un1 _ mm L hLm hL60 ⟨mm, j, _, rfl, hF, hG, rfl, Or.inl ⟨fun z => n1 z.1, by rw [pEn_1 n1, hqL]⟩, fun z => absurd z (nIm4 (by omega))⟩
    · have hlt : (sq (hx (m 69) L) j) < L := by omega
      have e69 := h69 _ hlt
      have hj : j < 15 := by omega
      by_cases h1 : q1 (hx (m 69) L) (sq (hx (m 69) L) j)
      · refine rd_step _ mm L _ 1 hLm hL60 hlt 2 (by decide) _ (pb1 _ (by omega) j hj hp (by rw [e69]; exact h1)) ?_
        refine rd2 L hL hL60 j _ (fun m2 f1 f2 f3 f4 => ih (j + 1) m2 (by have := sq_4 (j + 1) f2; show L + 1 ≤ pEn (hx (m 69) L) (sq (hx (m 69) L) j) + 1 + t; have := pOk_en (f2 j (by omega)).1; omega) f1 f2 f3 f4) ⟨(((hF.up (by omega)).up (by omega)).up (by omega)).up (by omega), hG, hR.up (fun c h1 h2 i hi => ?_), hj, up2_eq _ _ _ _, ?_, ?_⟩ h1 ?_ hlt
        · show spM mm j _ _ c i = _
          unfold spM
          rw [up2_ne _ _ (by omega), up2_ne _ _ (by omega), up2_ne _ _ (by omega), up2_ne _ _ (by omega)]
        · unfold spM
          rw [up2_na _ _ _ (by decide), up2_na _ _ _ (by decide), up2_na _ _ _ (by decide), up2_eq]
        · unfold spM
          rw [up2_na _ _ _ (by decide), up2_na _ _ _ (by decide), up2_eq, e69]
        · unfold spM
          rw [up2_na _ _ _ (by decide), up2_eq]
      · exact rd_bad _ mm L _ 1 hLm hL60 hlt _ (pb1e _ (by omega) (by rw [e69]; exact h1)) ⟨_, j, _, rfl, hF, hG, rfl, Or.inl ⟨fun z => h1 z.1, by rw [pEn_1 h1]⟩, fun z => absurd z (nIm4 (by omega))⟩
set_option maxRecDepth 100000 in
set_option maxHeartbeats 4000000 in
theorem zX0_read {G : zG} {l : Launch} {h : Nat → Nat} {m : zM} (L : Nat) (hL : m 68 1 = nI L) (hL60 : L ≤ 60) : zMet G l yX0_read mX0_read [.ref (G.1 + 68)] (zw h m) ((fun r w => ∃ m' K v, w = zw h m' ∧ Fpd m m' ∧ Good (hx (m 69) L) L K ∧ r = some (.int v) ∧ Flt (hx (m 69) L) L K v ∧ (v = -4 → m' 68 6 = nI (K + 1) ∧ RP (hx (m 69) L) m' (K + 1) ∧ K < 15))) 0 0 := by
  refine zMet_of [(0, .ref (G.1 + 68))] (by decide +kernel) rfl (Or.inl rfl) (Nat.le_of_ble_eq_true rfl) rfl ?_
  refine Z_aload_n 1 0 dX0_read_0 rfl rfl ?_
  refine Z_iconst 2 (nI 0) dX0_read_1 rfl rfl ?_
  refine Z_putI 5 .int dX0_read_2 rfl fX0_27 ft_0_6 (Nat.le_of_ble_eq_true rfl) rfl rfl rfl rfl ?_
  refine Z_iconst 6 (nI 1) dX0_read_5 rfl rfl ?_
  refine Z_istore_n 7 [(1, _), (0, _)] dX0_read_6 rfl (Nat.le_of_ble_eq_true rfl) rfl ?_
  refine Z_iconst 8 (nI 0) dX0_read_7 rfl rfl ?_
  refine Z_istore_n 9 [(2, _), (1, _), (0, _)] dX0_read_8 rfl (Nat.le_of_ble_eq_true rfl) rfl ?_
  exact rd1 L hL hL60 (L + 1) 0 _ (by omega) (Fpd.rf.up (by omega)) (fun i hi => absurd hi (Nat.not_lt_zero i)) (fun i hi => absurd hi (Nat.not_lt_zero i)) (up2_eq _ _ _ _)

set_option maxRecDepth 100000 in
set_option maxHeartbeats 4000000 in
theorem zX3_fault {G : zG} {l : Launch} {h : Nat → Nat} {m : zM} (L : Nat) (hL : m 68 1 = nI L) (hL60 : L ≤ 60) : zMet G l yX3_fault mX3_fault [.ref (G.1 + 0)] (zw h m) ((fun r w => ∃ m' K v, w = zw h m' ∧ Fpd m m' ∧ Good (hx (m 69) L) L K ∧ r = some (.int v) ∧ Flt (hx (m 69) L) L K v ∧ (v = -4 → m' 68 6 = nI (K + 1) ∧ RP (hx (m 69) L) m' (K + 1) ∧ K < 15))) 0 0 := by
  refine zMet_of [(0, .ref (G.1 + 0))] (by decide +kernel) rfl (Or.inl rfl) (Nat.le_of_ble_eq_true rfl) rfl ?_
  refine Z_aload_n 1 0 dX3_fault_0 rfl rfl ?_
  refine Z_getR 4 dX3_fault_1 rfl fX3_33 (Nat.le_of_ble_eq_true rfl) rfl rfl ?_
  refine Z_callV 7 [] 0 (zX0_read L hL hL60) dX3_fault_4 rfl qX3_122 kX0_read rfl rfl (Nat.le_of_ble_eq_true rfl) rfl rfl ⟨(Nat.le_of_ble_eq_true rfl), (Nat.le_of_ble_eq_true rfl)⟩ (Nat.le_of_ble_eq_true rfl) ⟨rfl, rfl⟩ ⟨(Nat.le_of_ble_eq_true rfl), (Nat.le_of_ble_eq_true rfl)⟩ (fun r9 w9 hp9 => ?_)
  obtain ⟨m2, K, v, rfl, hF2, hG2, rfl, hv2, hr2⟩ := hp9
  exact Z_iret dX3_fault_7 rfl ⟨m2, K, v, rfl, hF2, hG2, rfl, hv2, hr2⟩
