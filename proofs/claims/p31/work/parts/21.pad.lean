/-! texts: a part of a text, by its characters; the pad reads them one by one -/
def hx (c : Nat → Int32) (L j : Nat) : Int32 := if j < L then c j else 0
abbrev dgt (x y : Int32) : Prop := ¬ x < nI 48 ∧ ¬ y < x - nI 48
abbrev q1 (x : Nat → Int32) (s : Nat) : Prop := dgt (x s) (nI 7)
abbrev q2 (x : Nat → Int32) (s : Nat) : Prop := x (s + 1) = nI 60
abbrev q3 (x : Nat → Int32) (s : Nat) : Prop := dgt (x (s + 2)) (nI 7)
abbrev q4 (x : Nat → Int32) (s : Nat) : Prop := x (s + 3) = nI 43 ∨ x (s + 3) = nI 45
abbrev q5 (x : Nat → Int32) (s : Nat) : Prop := ¬ x (s + 4) = nI 48 ∧ dgt (x (s + 4)) (nI 9)
def mst (x : Nat → Int32) (s : Nat) : Int32 := if x (s + 3) = nI 43 then nI 60 else nI 30
def sgn (x : Nat → Int32) (s : Nat) : Int32 := if x (s + 3) = nI 43 then nI 1 else -1
def v1 (x : Nat → Int32) (s : Nat) : Int32 := x (s + 4) - nI 48
def v2 (x : Nat → Int32) (s : Nat) : Int32 := v1 x s * nI 10 + x (s + 5) - nI 48
abbrev q6 (x : Nat → Int32) (s : Nat) : Prop := dgt (x (s + 5)) (nI 9) ∧ ¬ mst x s < v2 x s
/-- whether a part begins at s; where it ends, or is wrong -/
def pOk (x : Nat → Int32) (s : Nat) : Prop := q1 x s ∧ q2 x s ∧ q3 x s ∧ (q4 x s → q5 x s)
def pEn (x : Nat → Int32) (s : Nat) : Nat := if ¬ q1 x s then s else if ¬ q2 x s then s + 1 else if ¬ q3 x s then s + 2 else if ¬ q4 x s then s + 3 else if ¬ q5 x s then s + 4 else if q6 x s then s + 6 else s + 5
def pD (x : Nat → Int32) (s : Nat) : Int32 := if q4 x s then sgn x s * (if q6 x s then v2 x s else v1 x s) else nI 0
/-- where the parts begin -/
def sq (x : Nat → Int32) : Nat → Nat
  | 0 => 0
  | j + 1 => pEn x (sq x j) + 1
def Good (x : Nat → Int32) (L j : Nat) : Prop := ∀ i, i < j → pOk x (sq x i) ∧ pEn x (sq x i) < L ∧ x (pEn x (sq x i)) = nI 59
/-- the fault of the text, whose last part is the K-th -/
def Flt (x : Nat → Int32) (L K : Nat) (r : Int32) : Prop := (¬ pOk x (sq x K) ∧ r = nI (pEn x (sq x K))) ∨ (pOk x (sq x K) ∧ pEn x (sq x K) = L ∧ r = -4) ∨ (pOk x (sq x K) ∧ pEn x (sq x K) < L ∧ ¬ x (pEn x (sq x K)) = nI 59 ∧ r = nI (pEn x (sq x K)))
theorem pEn_1 {x : Nat → Int32} {s : Nat} (h1 : ¬ q1 x s) : pEn x s = s := if_pos h1
theorem pEn_2 {x : Nat → Int32} {s : Nat} (h1 : q1 x s) (h2 : ¬ q2 x s) : pEn x s = s + 1 := (if_neg (fun g => g h1)).trans (if_pos h2)
theorem pEn_3 {x : Nat → Int32} {s : Nat} (h1 : q1 x s) (h2 : q2 x s) (h3 : ¬ q3 x s) : pEn x s = s + 2 := (if_neg (fun g => g h1)).trans ((if_neg (fun g => g h2)).trans (if_pos h3))
theorem pEn_4 {x : Nat → Int32} {s : Nat} (h1 : q1 x s) (h2 : q2 x s) (h3 : q3 x s) (h4 : ¬ q4 x s) : pEn x s = s + 3 := (if_neg (fun g => g h1)).trans ((if_neg (fun g => g h2)).trans ((if_neg (fun g => g h3)).trans (if_pos h4)))
theorem pEn_5 {x : Nat → Int32} {s : Nat} (h1 : q1 x s) (h2 : q2 x s) (h3 : q3 x s) (h4 : q4 x s) (h5 : ¬ q5 x s) : pEn x s = s + 4 := (if_neg (fun g => g h1)).trans ((if_neg (fun g => g h2)).trans ((if_neg (fun g => g h3)).trans ((if_neg (fun g => g h4)).trans (if_pos h5))))
theorem pEn_6 {x : Nat → Int32} {s : Nat} (h1 : q1 x s) (h2 : q2 x s) (h3 : q3 x s) (h4 : q4 x s) (h5 : q5 x s) (h6 : q6 x s) : pEn x s = s + 6 := (if_neg (fun g => g h1)).trans ((if_neg (fun g => g h2)).trans ((if_neg (fun g => g h3)).trans ((if_neg (fun g => g h4)).trans ((if_neg (fun g => g h5)).trans (if_pos h6)))))
theorem pEn_7 {x : Nat → Int32} {s : Nat} (h1 : q1 x s) (h2 : q2 x s) (h3 : q3 x s) (h4 : q4 x s) (h5 : q5 x s) (h6 : ¬ q6 x s) : pEn x s = s + 5 := (if_neg (fun g => g h1)).trans ((if_neg (fun g => g h2)).trans ((if_neg (fun g => g h3)).trans ((if_neg (fun g => g h4)).trans ((if_neg (fun g => g h5)).trans (if_neg h6)))))
theorem pOk_en {x : Nat → Int32} {s : Nat} (h : pOk x s) : s + 3 ≤ pEn x s := by
  obtain ⟨h1, h2, h3, h4⟩ := h
  by_cases g4 : q4 x s
  · by_cases g6 : q6 x s
    · rw [pEn_6 h1 h2 h3 g4 (h4 g4) g6]
      omega
    · rw [pEn_7 h1 h2 h3 g4 (h4 g4) g6]
      omega
  · rw [pEn_4 h1 h2 h3 g4]
    omega
theorem sq_4 {x : Nat → Int32} {L : Nat} : ∀ j, Good x L j → 4 * j ≤ sq x j
  | 0, _ => Nat.zero_le _
  | j + 1, h => by
    have h1 := sq_4 j (fun i hi => h i (by omega))
    have h2 := pOk_en (h j (by omega)).1
    show 4 * (j + 1) ≤ pEn x (sq x j) + 1
    omega
theorem Flt.one {x : Nat → Int32} {L K K' : Nat} {r r' : Int32} (g : Good x L K) (h : Flt x L K r) (g' : Good x L K') (h' : Flt x L K' r') : K = K' ∧ r = r' := by
  have key : ∀ {K K' : Nat} {r : Int32}, Flt x L K r → Good x L K' → ¬ K < K' := by
    intro K K' r h g' hlt
    obtain ⟨a1, a2, a3⟩ := g' K hlt
    rcases h with ⟨b1, -⟩ | ⟨b1, b2, -⟩ | ⟨b1, b2, b3, -⟩
    · exact b1 a1
    · omega
    · exact b3 a3
  have e : K = K' := by
    have c1 := key h g'
    have c2 := key h' g
    omega
  subst e
  refine ⟨rfl, ?_⟩
  rcases h with ⟨b1, rfl⟩ | ⟨b1, b2, rfl⟩ | ⟨b1, b2, b3, rfl⟩ <;> rcases h' with ⟨c1, rfl⟩ | ⟨c1, c2, rfl⟩ | ⟨c1, c2, c3, rfl⟩ <;> first | rfl | exact absurd c1 b1 | exact absurd b1 c1 | (exfalso; omega)
/-- only the pad's own parts have changed -/
def Fpd (m m' : zM) : Prop := (∀ q, ¬ (68 ≤ q ∧ q ≤ 73) → m' q = m q) ∧ m' 69 = m 69 ∧ m' 68 1 = m 68 1
theorem Fpd.rf {m : zM} : Fpd m m := ⟨fun _ _ => rfl, rfl, rfl⟩
theorem Fpd.trans {m m1 m2 : zM} (h1 : Fpd m m1) (h2 : Fpd m1 m2) : Fpd m m2 := ⟨fun q hq => (h2.1 q hq).trans (h1.1 q hq), h2.2.1.trans h1.2.1, h2.2.2.trans h1.2.2⟩
theorem Fpd.up {m m1 : zM} {c k : Nat} {v : Int32} (h : Fpd m m1) (hc : (c = 68 ∧ k ≠ 1) ∨ (70 ≤ c ∧ c ≤ 73)) : Fpd m (up2 m1 c k v) := by
  refine ⟨fun q hq => ?_, ?_, ?_⟩
  · rw [up2_na _ _ _ (by omega)]
    exact h.1 q hq
  · rw [up2_na _ _ _ (by omega)]
    exact h.2.1
  · rw [up2_ne _ _ (by omega)]
    exact h.2.2
/-- the parts before the j-th, as the pad has them -/
def RP (x : Nat → Int32) (m : zM) (j : Nat) : Prop := ∀ i, i < j → m 70 i = nI (sq x i) ∧ m 71 i = x (sq x i) - nI 48 ∧ m 72 i = x (sq x i + 2) - nI 48 ∧ m 73 i = pD x (sq x i)
set_option maxRecDepth 100000 in
set_option maxHeartbeats 4000000 in
theorem zX0_isDigit {G : zG} {l : Launch} {h : Nat → Nat} {m : zM} (x y : Int32) : zMet G l yX0_isDigit mX0_isDigit [.int x, .int y] (zw h m) (fun r w => r = some (.int (bI (dgt x y))) ∧ w = zw h m) 0 0 := by
  refine zMet_of [(0, .int x), (1, .int y)] (by decide +kernel) rfl (Or.inl rfl) (Nat.le_of_ble_eq_true rfl) rfl ?_
  refine Z_iload_n 1 0 dX0_isDigit_0 rfl rfl ?_
  refine Z_bipush 3 (nI 48) dX0_isDigit_1 rfl rfl ?_
  refine Z_icmp_lt 6 18 dX0_isDigit_3 rfl rfl (fun c3 => ?_) (fun c3 => ?_)
  · skip
    refine Z_iconst 19 (nI 0) dX0_isDigit_18 rfl rfl ?_
    exact Z_zret dX0_isDigit_19 rfl (by first | exact Or.inl rfl | exact Or.inr rfl | exact bI_01) (by first | exact ⟨bRf (fun q => q.1 c3), rfl⟩ | exact ⟨bRf (fun q => q.2 c11), rfl⟩ | exact ⟨bRt (⟨c3, Int32.not_lt.mpr (Int32.not_lt.mp c11)⟩), rfl⟩)
  · skip
    refine Z_iload_n 7 0 dX0_isDigit_6 rfl rfl ?_
    refine Z_bipush 9 (nI 48) dX0_isDigit_7 rfl rfl ?_
    refine Z_isub 10 dX0_isDigit_9 rfl ?_
    refine Z_iload_n 11 1 dX0_isDigit_10 rfl rfl ?_
    refine Z_icmp_gt 14 18 dX0_isDigit_11 rfl rfl (fun c11 => ?_) (fun c11 => ?_)
    · skip
      refine Z_iconst 19 (nI 0) dX0_isDigit_18 rfl rfl ?_
      exact Z_zret dX0_isDigit_19 rfl (by first | exact Or.inl rfl | exact Or.inr rfl | exact bI_01) (by first | exact ⟨bRf (fun q => q.1 c3), rfl⟩ | exact ⟨bRf (fun q => q.2 c11), rfl⟩ | exact ⟨bRt (⟨c3, Int32.not_lt.mpr (Int32.not_lt.mp c11)⟩), rfl⟩)
    · skip
      refine Z_iconst 15 (nI 1) dX0_isDigit_14 rfl rfl ?_
      refine Z_goto 19 dX0_isDigit_15 rfl ?_
      exact Z_zret dX0_isDigit_19 rfl (by first | exact Or.inl rfl | exact Or.inr rfl | exact bI_01) (by first | exact ⟨bRf (fun q => q.1 c3), rfl⟩ | exact ⟨bRf (fun q => q.2 c11), rfl⟩ | exact ⟨bRt (⟨c3, Int32.not_lt.mpr (Int32.not_lt.mp c11)⟩), rfl⟩)

def spM (m : zM) (j q : Nat) (x : Int32) : zM := up2 (up2 (up2 (up2 m 70 j (nI q)) 71 j (x - nI 48)) 73 j (nI 0)) 68 6 (nI (j + 1))
set_option maxRecDepth 100000 in
set_option maxHeartbeats 4000000 in
theorem eX0_startPart {G : zG} {l : Launch} {h : Nat → Nat} {m : zM} (q : Nat) (hq : q < 60) (hno : ¬ dgt (m 69 q) (nI 7)) : zMet G l yX0_startPart mX0_startPart [.ref (G.1 + 68), .int (nI q)] (zw h m) (fun r w => r = some (.int (nI 0)) ∧ w = zw h m) 0 0 := by
  refine zMet_of [(0, .ref (G.1 + 68)), (1, .int (nI q))] (by decide +kernel) rfl (Or.inl rfl) (Nat.le_of_ble_eq_true rfl) rfl ?_
  refine Z_aload_n 1 0 dX0_startPart_0 rfl rfl ?_
  refine Z_getR 4 dX0_startPart_1 rfl fX0_9 (Nat.le_of_ble_eq_true rfl) rfl rfl ?_
  refine Z_iload_n 5 1 dX0_startPart_4 rfl rfl ?_
  refine Z_ialn 6 dX0_startPart_5 rfl (Nat.le_of_ble_eq_true rfl) rfl hq (by decide) ?_
  refine Z_istore_n 7 [(2, _), (0, _), (1, _)] dX0_startPart_6 rfl (Nat.le_of_ble_eq_true rfl) rfl ?_
  refine Z_iload_n 8 0 dX0_startPart_7 rfl rfl ?_
  refine Z_bipush 10 (nI 7) dX0_startPart_8 rfl rfl ?_
  refine Z_callS 13 [_, _] (zX0_isDigit _ _) dX0_startPart_10 rfl qX0_51 kX0_isDigit rfl rfl ⟨(Nat.le_of_ble_eq_true rfl), (Nat.le_of_ble_eq_true rfl)⟩ (Nat.le_of_ble_eq_true rfl) ⟨rfl, rfl⟩ ⟨(Nat.le_of_ble_eq_true rfl), (Nat.le_of_ble_eq_true rfl)⟩ (fun r9 w9 hp9 => ?_)
  obtain ⟨rfl, rfl⟩ := hp9
  refine Z_if_eq 16 25 dX0_startPart_13 rfl rfl (fun c13 => ?_) (fun c13 => absurd (bI_z hno) c13)
  refine Z_iconst 26 (nI 0) dX0_startPart_25 rfl rfl ?_
  exact Z_iret dX0_startPart_26 rfl ⟨rfl, rfl⟩

set_option maxRecDepth 100000 in
set_option maxHeartbeats 4000000 in
theorem zX0_startPart {G : zG} {l : Launch} {h : Nat → Nat} {m : zM} (q : Nat) (hq : q < 60) (j : Nat) (hj : j < 15) (hp : m 68 6 = nI j) (hno : dgt (m 69 q) (nI 7)) : zMet G l yX0_startPart mX0_startPart [.ref (G.1 + 68), .int (nI q)] (zw h m) (fun r w => r = some (.int (nI 2)) ∧ w = zw h (spM m j q (m 69 q))) 0 0 := by
  refine zMet_of [(0, .ref (G.1 + 68)), (1, .int (nI q))] (by decide +kernel) rfl (Or.inl rfl) (Nat.le_of_ble_eq_true rfl) rfl ?_
  refine Z_aload_n 1 0 dX0_startPart_0 rfl rfl ?_
  refine Z_getR 4 dX0_startPart_1 rfl fX0_9 (Nat.le_of_ble_eq_true rfl) rfl rfl ?_
  refine Z_iload_n 5 1 dX0_startPart_4 rfl rfl ?_
  refine Z_ialn 6 dX0_startPart_5 rfl (Nat.le_of_ble_eq_true rfl) rfl hq (by decide) ?_
  refine Z_istore_n 7 [(2, _), (0, _), (1, _)] dX0_startPart_6 rfl (Nat.le_of_ble_eq_true rfl) rfl ?_
  refine Z_iload_n 8 0 dX0_startPart_7 rfl rfl ?_
  refine Z_bipush 10 (nI 7) dX0_startPart_8 rfl rfl ?_
  refine Z_callS 13 [_, _] (zX0_isDigit _ _) dX0_startPart_10 rfl qX0_51 kX0_isDigit rfl rfl ⟨(Nat.le_of_ble_eq_true rfl), (Nat.le_of_ble_eq_true rfl)⟩ (Nat.le_of_ble_eq_true rfl) ⟨rfl, rfl⟩ ⟨(Nat.le_of_ble_eq_true rfl), (Nat.le_of_ble_eq_true rfl)⟩ (fun r9 w9 hp9 => ?_)
  obtain ⟨rfl, rfl⟩ := hp9
  refine Z_if_eq 16 25 dX0_startPart_13 rfl rfl (fun c13 => absurd c13 (bI_ne hno)) (fun c13 => ?_)
  refine Z_aload_n 17 1 dX0_startPart_16 rfl rfl ?_
  refine Z_getI 20 dX0_startPart_17 rfl fX0_27 (Nat.le_of_ble_eq_true rfl) rfl rfl ?_
  refine Z_top (congrArg Value.int hp) ?_
  refine Z_bipush 22 (nI 15) dX0_startPart_20 rfl rfl ?_
  refine Z_icmp_lt 25 27 dX0_startPart_22 rfl rfl (fun c22 => ?_) (fun c22 => absurd (nI_lt hj (by decide)) c22)
  refine Z_aload_n 28 1 dX0_startPart_27 rfl rfl ?_
  refine Z_getR 31 dX0_startPart_28 rfl fX0_15 (Nat.le_of_ble_eq_true rfl) rfl rfl ?_
  refine Z_aload_n 32 1 dX0_startPart_31 rfl rfl ?_
  refine Z_getI 35 dX0_startPart_32 rfl fX0_27 (Nat.le_of_ble_eq_true rfl) rfl rfl ?_
  refine Z_top (v' := .int (nI j)) (congrArg Value.int (by simp [up2, hp])) ?_
  refine Z_iload_n 36 2 dX0_startPart_35 rfl rfl ?_
  refine Z_iasn 37 dX0_startPart_36 rfl (Nat.le_of_ble_eq_true rfl) rfl (by first | assumption | omega) (by decide) ?_
  refine Z_aload_n 38 1 dX0_startPart_37 rfl rfl ?_
  refine Z_getR 41 dX0_startPart_38 rfl fX0_18 (Nat.le_of_ble_eq_true rfl) rfl rfl ?_
  refine Z_aload_n 42 1 dX0_startPart_41 rfl rfl ?_
  refine Z_getI 45 dX0_startPart_42 rfl fX0_27 (Nat.le_of_ble_eq_true rfl) rfl rfl ?_
  refine Z_top (v' := .int (nI j)) (congrArg Value.int (by simp [up2, hp])) ?_
  refine Z_iload_n 46 0 dX0_startPart_45 rfl rfl ?_
  refine Z_bipush 48 (nI 48) dX0_startPart_46 rfl rfl ?_
  refine Z_isub 49 dX0_startPart_48 rfl ?_
  refine Z_iasn 50 dX0_startPart_49 rfl (Nat.le_of_ble_eq_true rfl) rfl (by first | assumption | omega) (by decide) ?_
  refine Z_aload_n 51 1 dX0_startPart_50 rfl rfl ?_
  refine Z_getR 54 dX0_startPart_51 rfl fX0_24 (Nat.le_of_ble_eq_true rfl) rfl rfl ?_
  refine Z_aload_n 55 1 dX0_startPart_54 rfl rfl ?_
  refine Z_getI 58 dX0_startPart_55 rfl fX0_27 (Nat.le_of_ble_eq_true rfl) rfl rfl ?_
  refine Z_top (v' := .int (nI j)) (congrArg Value.int (by simp [up2, hp])) ?_
  refine Z_iconst 59 (nI 0) dX0_startPart_58 rfl rfl ?_
  refine Z_iasn 60 dX0_startPart_59 rfl (Nat.le_of_ble_eq_true rfl) rfl (by first | assumption | omega) (by decide) ?_
  refine Z_aload_n 61 1 dX0_startPart_60 rfl rfl ?_
  refine Z_dup 62 dX0_startPart_61 rfl rfl ?_
  refine Z_getI 65 dX0_startPart_62 rfl fX0_27 (Nat.le_of_ble_eq_true rfl) rfl rfl ?_
  refine Z_top (v' := .int (nI j)) (congrArg Value.int (by simp [up2, hp])) ?_
  refine Z_iconst 66 (nI 1) dX0_startPart_65 rfl rfl ?_
  refine Z_iadd 67 dX0_startPart_66 rfl ?_
  refine Z_top (v' := .int (nI (j + 1))) (congrArg Value.int (nI_1 j)) ?_
  refine Z_putI 70 .int dX0_startPart_67 rfl fX0_27 ft_0_6 (Nat.le_of_ble_eq_true rfl) rfl rfl rfl rfl ?_
  refine Z_iconst 71 (nI 2) dX0_startPart_70 rfl rfl ?_
  exact Z_iret dX0_startPart_71 rfl ⟨rfl, rfl⟩

set_option maxRecDepth 100000 in
set_option maxHeartbeats 4000000 in
theorem eX0_takeOther {G : zG} {l : Launch} {h : Nat → Nat} {m : zM} (x : Int32) (hno : ¬ dgt x (nI 7)) : zMet G l yX0_takeOther mX0_takeOther [.ref (G.1 + 68), .int x] (zw h m) (fun r w => r = some (.int (nI 0)) ∧ w = zw h m) 0 0 := by
  refine zMet_of [(0, .ref (G.1 + 68)), (1, .int x)] (by decide +kernel) rfl (Or.inl rfl) (Nat.le_of_ble_eq_true rfl) rfl ?_
  refine Z_iload_n 1 1 dX0_takeOther_0 rfl rfl ?_
  refine Z_bipush 3 (nI 7) dX0_takeOther_1 rfl rfl ?_
  refine Z_callS 6 [_, _] (zX0_isDigit _ _) dX0_takeOther_3 rfl qX0_51 kX0_isDigit rfl rfl ⟨(Nat.le_of_ble_eq_true rfl), (Nat.le_of_ble_eq_true rfl)⟩ (Nat.le_of_ble_eq_true rfl) ⟨rfl, rfl⟩ ⟨(Nat.le_of_ble_eq_true rfl), (Nat.le_of_ble_eq_true rfl)⟩ (fun r9 w9 hp9 => ?_)
  obtain ⟨rfl, rfl⟩ := hp9
  refine Z_if_ne 9 11 dX0_takeOther_6 rfl rfl (fun c6 => absurd c6 (fun q => q (bI_z hno))) (fun c6 => ?_)
  refine Z_iconst 10 (nI 0) dX0_takeOther_9 rfl rfl ?_
  exact Z_iret dX0_takeOther_10 rfl ⟨rfl, rfl⟩

set_option maxRecDepth 100000 in
set_option maxHeartbeats 4000000 in
theorem zX0_takeOther {G : zG} {l : Launch} {h : Nat → Nat} {m : zM} (x : Int32) (j : Nat) (hj : j < 15) (hp : m 68 6 = nI (j + 1)) (hno : dgt x (nI 7)) : zMet G l yX0_takeOther mX0_takeOther [.ref (G.1 + 68), .int x] (zw h m) (fun r w => r = some (.int (nI 4)) ∧ w = zw h (up2 m 72 j (x - nI 48))) 0 0 := by
  refine zMet_of [(0, .ref (G.1 + 68)), (1, .int x)] (by decide +kernel) rfl (Or.inl rfl) (Nat.le_of_ble_eq_true rfl) rfl ?_
  refine Z_iload_n 1 1 dX0_takeOther_0 rfl rfl ?_
  refine Z_bipush 3 (nI 7) dX0_takeOther_1 rfl rfl ?_
  refine Z_callS 6 [_, _] (zX0_isDigit _ _) dX0_takeOther_3 rfl qX0_51 kX0_isDigit rfl rfl ⟨(Nat.le_of_ble_eq_true rfl), (Nat.le_of_ble_eq_true rfl)⟩ (Nat.le_of_ble_eq_true rfl) ⟨rfl, rfl⟩ ⟨(Nat.le_of_ble_eq_true rfl), (Nat.le_of_ble_eq_true rfl)⟩ (fun r9 w9 hp9 => ?_)
  obtain ⟨rfl, rfl⟩ := hp9
  refine Z_if_ne 9 11 dX0_takeOther_6 rfl rfl (fun c6 => ?_) (fun c6 => absurd (bI_ne hno) c6)
  refine Z_aload_n 12 0 dX0_takeOther_11 rfl rfl ?_
  refine Z_getR 15 dX0_takeOther_12 rfl fX0_21 (Nat.le_of_ble_eq_true rfl) rfl rfl ?_
  refine Z_aload_n 16 0 dX0_takeOther_15 rfl rfl ?_
  refine Z_getI 19 dX0_takeOther_16 rfl fX0_27 (Nat.le_of_ble_eq_true rfl) rfl rfl ?_
  refine Z_top (congrArg Value.int hp) ?_
  refine Z_iconst 20 (nI 1) dX0_takeOther_19 rfl rfl ?_
  refine Z_isub 21 dX0_takeOther_20 rfl ?_
  refine Z_top (v' := .int (nI j)) (congrArg Value.int (nI_pred j)) ?_
  refine Z_iload_n 22 1 dX0_takeOther_21 rfl rfl ?_
  refine Z_bipush 24 (nI 48) dX0_takeOther_22 rfl rfl ?_
  refine Z_isub 25 dX0_takeOther_24 rfl ?_
  refine Z_iasn 26 dX0_takeOther_25 rfl (Nat.le_of_ble_eq_true rfl) rfl (by first | assumption | omega) (by decide) ?_
  refine Z_iconst 27 (nI 4) dX0_takeOther_26 rfl rfl ?_
  exact Z_iret dX0_takeOther_27 rfl ⟨rfl, rfl⟩

set_option maxRecDepth 100000 in
set_option maxHeartbeats 4000000 in
theorem zX0_startNumber {G : zG} {l : Launch} {h : Nat → Nat} {m : zM} (x y : Int32) : zMet G l yX0_startNumber mX0_startNumber [.ref (G.1 + 68), .int x, .int y] (zw h m) (fun r w => r = some (.int (nI 5)) ∧ w = zw h (up2 (up2 (up2 m 68 7 x) 68 8 (nI 0)) 68 9 y)) 0 0 := by
  refine zMet_of [(0, .ref (G.1 + 68)), (1, .int x), (2, .int y)] (by decide +kernel) rfl (Or.inl rfl) (Nat.le_of_ble_eq_true rfl) rfl ?_
  refine Z_aload_n 1 0 dX0_startNumber_0 rfl rfl ?_
  refine Z_iload_n 2 1 dX0_startNumber_1 rfl rfl ?_
  refine Z_putI 5 .int dX0_startNumber_2 rfl fX0_58 ft_0_7 (Nat.le_of_ble_eq_true rfl) rfl rfl rfl rfl ?_
  refine Z_aload_n 6 0 dX0_startNumber_5 rfl rfl ?_
  refine Z_iconst 7 (nI 0) dX0_startNumber_6 rfl rfl ?_
  refine Z_putI 10 .int dX0_startNumber_7 rfl fX0_61 ft_0_8 (Nat.le_of_ble_eq_true rfl) rfl rfl rfl rfl ?_
  refine Z_aload_n 11 0 dX0_startNumber_10 rfl rfl ?_
  refine Z_iload_n 12 2 dX0_startNumber_11 rfl rfl ?_
  refine Z_putI 15 .int dX0_startNumber_12 rfl fX0_64 ft_0_9 (Nat.le_of_ble_eq_true rfl) rfl rfl rfl rfl ?_
  refine Z_iconst 16 (nI 5) dX0_startNumber_15 rfl rfl ?_
  exact Z_iret dX0_startNumber_16 rfl ⟨rfl, rfl⟩

theorem look3 (x : Int32) (a b c d : Int) (h0 : ¬ x = nI 43) (h1 : ¬ x = nI 45) (h2 : ¬ x = nI 59) : Op.lookupswitch.offset [(43, a), (45, b), (59, c)] d x.toInt = d := by
  have e0 : ¬ x.toInt = 43 := fun q => h0 (i32_eq.mpr (q.trans (by decide)))
  have e1 : ¬ x.toInt = 45 := fun q => h1 (i32_eq.mpr (q.trans (by decide)))
  have e2 : ¬ x.toInt = 59 := fun q => h2 (i32_eq.mpr (q.trans (by decide)))
  simp [Op.lookupswitch.offset, e0, e1, e2, Ne.symm e0, Ne.symm e1, Ne.symm e2]
set_option maxRecDepth 100000 in
set_option maxHeartbeats 4000000 in
theorem eX0_takeSign {G : zG} {l : Launch} {h : Nat → Nat} {m : zM} (x : Int32) (h0 : ¬ x = nI 43) (h1 : ¬ x = nI 45) (h2 : ¬ x = nI 59) : zMet G l yX0_takeSign mX0_takeSign [.ref (G.1 + 68), .int x] (zw h m) (fun r w => r = some (.int (nI 0)) ∧ w = zw h m) 0 0 := by
  refine zMet_of [(0, .ref (G.1 + 68)), (1, .int x)] (by decide +kernel) rfl (Or.inl rfl) (Nat.le_of_ble_eq_true rfl) rfl ?_
  refine Z_iload_n 1 1 dX0_takeSign_0 rfl rfl ?_
  refine Z_look 54 (off := 53) dX0_takeSign_1 (by decide) (look3 x _ _ _ _ h0 h1 h2) rfl ?_
  refine Z_iconst 55 (nI 0) dX0_takeSign_54 rfl rfl ?_
  exact Z_iret dX0_takeSign_55 rfl ⟨rfl, rfl⟩

set_option maxRecDepth 100000 in
set_option maxHeartbeats 4000000 in
theorem zX0_takeSign59 {G : zG} {l : Launch} {h : Nat → Nat} {m : zM}  : zMet G l yX0_takeSign mX0_takeSign [.ref (G.1 + 68), .int (nI 59)] (zw h m) (fun r w => r = some (.int (nI 1)) ∧ w = zw h m) 0 0 := by
  refine zMet_of [(0, .ref (G.1 + 68)), (1, .int (nI 59))] (by decide +kernel) rfl (Or.inl rfl) (Nat.le_of_ble_eq_true rfl) rfl ?_
  refine Z_iload_n 1 1 dX0_takeSign_0 rfl rfl ?_
  refine Z_look 36 (off := 35) dX0_takeSign_1 (by decide) (by decide) rfl ?_
  refine Z_iconst 37 (nI 1) dX0_takeSign_36 rfl rfl ?_
  exact Z_iret dX0_takeSign_37 rfl ⟨rfl, rfl⟩

set_option maxRecDepth 100000 in
set_option maxHeartbeats 4000000 in
theorem zX0_takeSign43 {G : zG} {l : Launch} {h : Nat → Nat} {m : zM}  : zMet G l yX0_takeSign mX0_takeSign [.ref (G.1 + 68), .int (nI 43)] (zw h m) (fun r w => r = some (.int (nI 5)) ∧ w = zw h (up2 (up2 (up2 m 68 7 (nI 1)) 68 8 (nI 0)) 68 9 (nI 60))) 0 0 := by
  refine zMet_of [(0, .ref (G.1 + 68)), (1, .int (nI 43))] (by decide +kernel) rfl (Or.inl rfl) (Nat.le_of_ble_eq_true rfl) rfl ?_
  refine Z_iload_n 1 1 dX0_takeSign_0 rfl rfl ?_
  refine Z_look 38 (off := 37) dX0_takeSign_1 (by decide) (by decide) rfl ?_
  refine Z_aload_n 39 0 dX0_takeSign_38 rfl rfl ?_
  refine Z_iconst 40 (nI 1) dX0_takeSign_39 rfl rfl ?_
  refine Z_bipush 42 (nI 60) dX0_takeSign_40 rfl rfl ?_
  refine Z_callV 45 [_, _] 0 (zX0_startNumber _ _) dX0_takeSign_42 rfl qX0_55 kX0_startNumber rfl rfl (Nat.le_of_ble_eq_true rfl) rfl rfl ⟨(Nat.le_of_ble_eq_true rfl), (Nat.le_of_ble_eq_true rfl)⟩ (Nat.le_of_ble_eq_true rfl) ⟨rfl, rfl⟩ ⟨(Nat.le_of_ble_eq_true rfl), (Nat.le_of_ble_eq_true rfl)⟩ (fun r9 w9 hp9 => ?_)
  obtain ⟨rfl, rfl⟩ := hp9
  exact Z_iret dX0_takeSign_45 rfl ⟨rfl, rfl⟩

set_option maxRecDepth 100000 in
set_option maxHeartbeats 4000000 in
theorem zX0_takeSign45 {G : zG} {l : Launch} {h : Nat → Nat} {m : zM}  : zMet G l yX0_takeSign mX0_takeSign [.ref (G.1 + 68), .int (nI 45)] (zw h m) (fun r w => r = some (.int (nI 5)) ∧ w = zw h (up2 (up2 (up2 m 68 7 (-1)) 68 8 (nI 0)) 68 9 (nI 30))) 0 0 := by
  refine zMet_of [(0, .ref (G.1 + 68)), (1, .int (nI 45))] (by decide +kernel) rfl (Or.inl rfl) (Nat.le_of_ble_eq_true rfl) rfl ?_
  refine Z_iload_n 1 1 dX0_takeSign_0 rfl rfl ?_
  refine Z_look 46 (off := 45) dX0_takeSign_1 (by decide) (by decide) rfl ?_
  refine Z_aload_n 47 0 dX0_takeSign_46 rfl rfl ?_
  refine Z_iconst 48 (-1) dX0_takeSign_47 rfl rfl ?_
  refine Z_bipush 50 (nI 30) dX0_takeSign_48 rfl rfl ?_
  refine Z_callV 53 [_, _] 0 (zX0_startNumber _ _) dX0_takeSign_50 rfl qX0_55 kX0_startNumber rfl rfl (Nat.le_of_ble_eq_true rfl) rfl rfl ⟨(Nat.le_of_ble_eq_true rfl), (Nat.le_of_ble_eq_true rfl)⟩ (Nat.le_of_ble_eq_true rfl) ⟨rfl, rfl⟩ ⟨(Nat.le_of_ble_eq_true rfl), (Nat.le_of_ble_eq_true rfl)⟩ (fun r9 w9 hp9 => ?_)
  obtain ⟨rfl, rfl⟩ := hp9
  exact Z_iret dX0_takeSign_53 rfl ⟨rfl, rfl⟩

set_option maxRecDepth 100000 in
set_option maxHeartbeats 4000000 in
theorem eX0_takeDigit {G : zG} {l : Launch} {h : Nat → Nat} {m : zM} (x : Int32) (hno : ¬ dgt x (nI 9)) : zMet G l yX0_takeDigit mX0_takeDigit [.ref (G.1 + 68), .int x] (zw h m) (fun r w => r = some (.int (nI 0)) ∧ w = zw h m) 0 0 := by
  refine zMet_of [(0, .ref (G.1 + 68)), (1, .int x)] (by decide +kernel) rfl (Or.inl rfl) (Nat.le_of_ble_eq_true rfl) rfl ?_
  refine Z_iload_n 1 1 dX0_takeDigit_0 rfl rfl ?_
  refine Z_bipush 3 (nI 9) dX0_takeDigit_1 rfl rfl ?_
  refine Z_callS 6 [_, _] (zX0_isDigit _ _) dX0_takeDigit_3 rfl qX0_51 kX0_isDigit rfl rfl ⟨(Nat.le_of_ble_eq_true rfl), (Nat.le_of_ble_eq_true rfl)⟩ (Nat.le_of_ble_eq_true rfl) ⟨rfl, rfl⟩ ⟨(Nat.le_of_ble_eq_true rfl), (Nat.le_of_ble_eq_true rfl)⟩ (fun r9 w9 hp9 => ?_)
  obtain ⟨rfl, rfl⟩ := hp9
  refine Z_if_ne 9 11 dX0_takeDigit_6 rfl rfl (fun c6 => absurd c6 (fun q => q (bI_z hno))) (fun c6 => ?_)
  refine Z_iconst 10 (nI 0) dX0_takeDigit_9 rfl rfl ?_
  exact Z_iret dX0_takeDigit_10 rfl ⟨rfl, rfl⟩

set_option maxRecDepth 100000 in
set_option maxHeartbeats 4000000 in
theorem eX0_takeDigit2 {G : zG} {l : Launch} {h : Nat → Nat} {m : zM} (x : Int32) (hno : dgt x (nI 9)) (hgt : m 68 9 < (m 68 8 * nI 10 + x - nI 48)) : zMet G l yX0_takeDigit mX0_takeDigit [.ref (G.1 + 68), .int x] (zw h m) (fun r w => r = some (.int (nI 0)) ∧ w = zw h (up2 m 68 8 (m 68 8 * nI 10 + x - nI 48))) 0 0 := by
  refine zMet_of [(0, .ref (G.1 + 68)), (1, .int x)] (by decide +kernel) rfl (Or.inl rfl) (Nat.le_of_ble_eq_true rfl) rfl ?_
  refine Z_iload_n 1 1 dX0_takeDigit_0 rfl rfl ?_
  refine Z_bipush 3 (nI 9) dX0_takeDigit_1 rfl rfl ?_
  refine Z_callS 6 [_, _] (zX0_isDigit _ _) dX0_takeDigit_3 rfl qX0_51 kX0_isDigit rfl rfl ⟨(Nat.le_of_ble_eq_true rfl), (Nat.le_of_ble_eq_true rfl)⟩ (Nat.le_of_ble_eq_true rfl) ⟨rfl, rfl⟩ ⟨(Nat.le_of_ble_eq_true rfl), (Nat.le_of_ble_eq_true rfl)⟩ (fun r9 w9 hp9 => ?_)
  obtain ⟨rfl, rfl⟩ := hp9
  refine Z_if_ne 9 11 dX0_takeDigit_6 rfl rfl (fun c6 => ?_) (fun c6 => absurd (bI_ne hno) c6)
  refine Z_aload_n 12 0 dX0_takeDigit_11 rfl rfl ?_
  refine Z_aload_n 13 0 dX0_takeDigit_12 rfl rfl ?_
  refine Z_getI 16 dX0_takeDigit_13 rfl fX0_61 (Nat.le_of_ble_eq_true rfl) rfl rfl ?_
  refine Z_bipush 18 (nI 10) dX0_takeDigit_16 rfl rfl ?_
  refine Z_imul 19 dX0_takeDigit_18 rfl ?_
  refine Z_iload_n 20 1 dX0_takeDigit_19 rfl rfl ?_
  refine Z_iadd 21 dX0_takeDigit_20 rfl ?_
  refine Z_bipush 23 (nI 48) dX0_takeDigit_21 rfl rfl ?_
  refine Z_isub 24 dX0_takeDigit_23 rfl ?_
  refine Z_putI 27 .int dX0_takeDigit_24 rfl fX0_61 ft_0_8 (Nat.le_of_ble_eq_true rfl) rfl rfl rfl rfl ?_
  refine Z_aload_n 28 0 dX0_takeDigit_27 rfl rfl ?_
  refine Z_getI 31 dX0_takeDigit_28 rfl fX0_61 (Nat.le_of_ble_eq_true rfl) rfl rfl ?_
  refine Z_aload_n 32 0 dX0_takeDigit_31 rfl rfl ?_
  refine Z_getI 35 dX0_takeDigit_32 rfl fX0_64 (Nat.le_of_ble_eq_true rfl) rfl rfl ?_
  refine Z_icmp_le 38 40 dX0_takeDigit_35 rfl rfl (fun c35 => absurd c35 (fun q => absurd hgt (Int32.not_lt.mpr q))) (fun c35 => ?_)
  refine Z_iconst 39 (nI 0) dX0_takeDigit_38 rfl rfl ?_
  exact Z_iret dX0_takeDigit_39 rfl ⟨rfl, rfl⟩

set_option maxRecDepth 100000 in
set_option maxHeartbeats 4000000 in
theorem zX0_takeDigit {G : zG} {l : Launch} {h : Nat → Nat} {m : zM} (x : Int32) (hno : dgt x (nI 9)) (hgt : ¬ m 68 9 < (m 68 8 * nI 10 + x - nI 48)) (j : Nat) (hj : j < 15) (hp : m 68 6 = nI (j + 1)) : zMet G l yX0_takeDigit mX0_takeDigit [.ref (G.1 + 68), .int x] (zw h m) (fun r w => r = some (.int (nI 6)) ∧ w = zw h (up2 (up2 m 68 8 (m 68 8 * nI 10 + x - nI 48)) 73 j (m 68 7 * (m 68 8 * nI 10 + x - nI 48)))) 0 0 := by
  refine zMet_of [(0, .ref (G.1 + 68)), (1, .int x)] (by decide +kernel) rfl (Or.inl rfl) (Nat.le_of_ble_eq_true rfl) rfl ?_
  refine Z_iload_n 1 1 dX0_takeDigit_0 rfl rfl ?_
  refine Z_bipush 3 (nI 9) dX0_takeDigit_1 rfl rfl ?_
  refine Z_callS 6 [_, _] (zX0_isDigit _ _) dX0_takeDigit_3 rfl qX0_51 kX0_isDigit rfl rfl ⟨(Nat.le_of_ble_eq_true rfl), (Nat.le_of_ble_eq_true rfl)⟩ (Nat.le_of_ble_eq_true rfl) ⟨rfl, rfl⟩ ⟨(Nat.le_of_ble_eq_true rfl), (Nat.le_of_ble_eq_true rfl)⟩ (fun r9 w9 hp9 => ?_)
  obtain ⟨rfl, rfl⟩ := hp9
  refine Z_if_ne 9 11 dX0_takeDigit_6 rfl rfl (fun c6 => ?_) (fun c6 => absurd (bI_ne hno) c6)
  refine Z_aload_n 12 0 dX0_takeDigit_11 rfl rfl ?_
  refine Z_aload_n 13 0 dX0_takeDigit_12 rfl rfl ?_
  refine Z_getI 16 dX0_takeDigit_13 rfl fX0_61 (Nat.le_of_ble_eq_true rfl) rfl rfl ?_
  refine Z_bipush 18 (nI 10) dX0_takeDigit_16 rfl rfl ?_
  refine Z_imul 19 dX0_takeDigit_18 rfl ?_
  refine Z_iload_n 20 1 dX0_takeDigit_19 rfl rfl ?_
  refine Z_iadd 21 dX0_takeDigit_20 rfl ?_
  refine Z_bipush 23 (nI 48) dX0_takeDigit_21 rfl rfl ?_
  refine Z_isub 24 dX0_takeDigit_23 rfl ?_
  refine Z_putI 27 .int dX0_takeDigit_24 rfl fX0_61 ft_0_8 (Nat.le_of_ble_eq_true rfl) rfl rfl rfl rfl ?_
  refine Z_aload_n 28 0 dX0_takeDigit_27 rfl rfl ?_
  refine Z_getI 31 dX0_takeDigit_28 rfl fX0_61 (Nat.le_of_ble_eq_true rfl) rfl rfl ?_
  refine Z_aload_n 32 0 dX0_takeDigit_31 rfl rfl ?_
  refine Z_getI 35 dX0_takeDigit_32 rfl fX0_64 (Nat.le_of_ble_eq_true rfl) rfl rfl ?_
  refine Z_icmp_le 38 40 dX0_takeDigit_35 rfl rfl (fun c35 => ?_) (fun c35 => absurd (Int32.not_lt.mp hgt) c35)
  refine Z_aload_n 41 0 dX0_takeDigit_40 rfl rfl ?_
  refine Z_getR 44 dX0_takeDigit_41 rfl fX0_24 (Nat.le_of_ble_eq_true rfl) rfl rfl ?_
  refine Z_aload_n 45 0 dX0_takeDigit_44 rfl rfl ?_
  refine Z_getI 48 dX0_takeDigit_45 rfl fX0_27 (Nat.le_of_ble_eq_true rfl) rfl rfl ?_
  refine Z_top (v' := .int (nI (j + 1))) (congrArg Value.int (by simp [up2, hp])) ?_
  refine Z_iconst 49 (nI 1) dX0_takeDigit_48 rfl rfl ?_
  refine Z_isub 50 dX0_takeDigit_49 rfl ?_
  refine Z_top (v' := .int (nI j)) (congrArg Value.int (nI_pred j)) ?_
  refine Z_aload_n 51 0 dX0_takeDigit_50 rfl rfl ?_
  refine Z_getI 54 dX0_takeDigit_51 rfl fX0_58 (Nat.le_of_ble_eq_true rfl) rfl rfl ?_
  refine Z_aload_n 55 0 dX0_takeDigit_54 rfl rfl ?_
  refine Z_getI 58 dX0_takeDigit_55 rfl fX0_61 (Nat.le_of_ble_eq_true rfl) rfl rfl ?_
  refine Z_imul 59 dX0_takeDigit_58 rfl ?_
  refine Z_iasn 60 dX0_takeDigit_59 rfl (Nat.le_of_ble_eq_true rfl) rfl (by first | assumption | omega) (by decide) ?_
  refine Z_bipush 62 (nI 6) dX0_takeDigit_60 rfl rfl ?_
  exact Z_iret dX0_takeDigit_62 rfl ⟨rfl, rfl⟩

set_option maxRecDepth 100000 in
set_option maxHeartbeats 4000000 in
theorem pb1e {G : zG} {l : Launch} {h : Nat → Nat} {m : zM} (q : Nat) (hq : q < 60) (hno : ¬ dgt (m 69 q) (nI 7)) : zMet G l yX0_placeBehind mX0_placeBehind [.ref (G.1 + 68), .int (nI q), .int (nI 1)] (zw h m) (fun r w => r = some (.int (nI 0)) ∧ w = zw h (m)) 0 0 := by
  refine zMet_of [(0, .ref (G.1 + 68)), (1, .int (nI q)), (2, .int (nI 1))] (by decide +kernel) rfl (Or.inl rfl) (Nat.le_of_ble_eq_true rfl) rfl ?_
  refine Z_aload_n 1 0 dX0_placeBehind_0 rfl rfl ?_
  refine Z_getR 4 dX0_placeBehind_1 rfl fX0_9 (Nat.le_of_ble_eq_true rfl) rfl rfl ?_
  refine Z_iload_n 5 1 dX0_placeBehind_4 rfl rfl ?_
  refine Z_ialn 6 dX0_placeBehind_5 rfl (Nat.le_of_ble_eq_true rfl) rfl hq (by decide) ?_
  refine Z_istore_n 7 [(3, _), (0, _), (1, _), (2, _)] dX0_placeBehind_6 rfl (Nat.le_of_ble_eq_true rfl) rfl ?_
  refine Z_iload_n 8 3 dX0_placeBehind_7 rfl rfl ?_
  refine Z_tabIn 48 (off := 40) dX0_placeBehind_8 (by decide) (by decide) (by decide) rfl ?_
  refine Z_aload_n 49 1 dX0_placeBehind_48 rfl rfl ?_
  refine Z_iload_n 50 2 dX0_placeBehind_49 rfl rfl ?_
  refine Z_callV 53 [_] 0 (eX0_startPart q hq hno) dX0_placeBehind_50 rfl qX0_38 kX0_startPart rfl rfl (Nat.le_of_ble_eq_true rfl) rfl rfl ⟨(Nat.le_of_ble_eq_true rfl), (Nat.le_of_ble_eq_true rfl)⟩ (Nat.le_of_ble_eq_true rfl) ⟨rfl, rfl⟩ ⟨(Nat.le_of_ble_eq_true rfl), (Nat.le_of_ble_eq_true rfl)⟩ (fun r9 w9 hp9 => ?_)
  obtain ⟨rfl, rfl⟩ := hp9
  exact Z_iret dX0_placeBehind_53 rfl ⟨rfl, rfl⟩

set_option maxRecDepth 100000 in
set_option maxHeartbeats 4000000 in
theorem pb1 {G : zG} {l : Launch} {h : Nat → Nat} {m : zM} (q : Nat) (hq : q < 60) (j : Nat) (hj : j < 15) (hp : m 68 6 = nI j) (hno : dgt (m 69 q) (nI 7)) : zMet G l yX0_placeBehind mX0_placeBehind [.ref (G.1 + 68), .int (nI q), .int (nI 1)] (zw h m) (fun r w => r = some (.int (nI 2)) ∧ w = zw h (spM m j q (m 69 q))) 0 0 := by
  refine zMet_of [(0, .ref (G.1 + 68)), (1, .int (nI q)), (2, .int (nI 1))] (by decide +kernel) rfl (Or.inl rfl) (Nat.le_of_ble_eq_true rfl) rfl ?_
  refine Z_aload_n 1 0 dX0_placeBehind_0 rfl rfl ?_
  refine Z_getR 4 dX0_placeBehind_1 rfl fX0_9 (Nat.le_of_ble_eq_true rfl) rfl rfl ?_
  refine Z_iload_n 5 1 dX0_placeBehind_4 rfl rfl ?_
  refine Z_ialn 6 dX0_placeBehind_5 rfl (Nat.le_of_ble_eq_true rfl) rfl hq (by decide) ?_
  refine Z_istore_n 7 [(3, _), (0, _), (1, _), (2, _)] dX0_placeBehind_6 rfl (Nat.le_of_ble_eq_true rfl) rfl ?_
  refine Z_iload_n 8 3 dX0_placeBehind_7 rfl rfl ?_
  refine Z_tabIn 48 (off := 40) dX0_placeBehind_8 (by decide) (by decide) (by decide) rfl ?_
  refine Z_aload_n 49 1 dX0_placeBehind_48 rfl rfl ?_
  refine Z_iload_n 50 2 dX0_placeBehind_49 rfl rfl ?_
  refine Z_callV 53 [_] 0 (zX0_startPart q hq j hj hp hno) dX0_placeBehind_50 rfl qX0_38 kX0_startPart rfl rfl (Nat.le_of_ble_eq_true rfl) rfl rfl ⟨(Nat.le_of_ble_eq_true rfl), (Nat.le_of_ble_eq_true rfl)⟩ (Nat.le_of_ble_eq_true rfl) ⟨rfl, rfl⟩ ⟨(Nat.le_of_ble_eq_true rfl), (Nat.le_of_ble_eq_true rfl)⟩ (fun r9 w9 hp9 => ?_)
  obtain ⟨rfl, rfl⟩ := hp9
  exact Z_iret dX0_placeBehind_53 rfl ⟨rfl, rfl⟩

set_option maxRecDepth 100000 in
set_option maxHeartbeats 4000000 in
theorem pb2e {G : zG} {l : Launch} {h : Nat → Nat} {m : zM} (q : Nat) (hq : q < 60) (hno : ¬ m 69 q = nI 60) : zMet G l yX0_placeBehind mX0_placeBehind [.ref (G.1 + 68), .int (nI q), .int (nI 2)] (zw h m) (fun r w => r = some (.int (nI 0)) ∧ w = zw h (m)) 0 0 := by
  refine zMet_of [(0, .ref (G.1 + 68)), (1, .int (nI q)), (2, .int (nI 2))] (by decide +kernel) rfl (Or.inl rfl) (Nat.le_of_ble_eq_true rfl) rfl ?_
  refine Z_aload_n 1 0 dX0_placeBehind_0 rfl rfl ?_
  refine Z_getR 4 dX0_placeBehind_1 rfl fX0_9 (Nat.le_of_ble_eq_true rfl) rfl rfl ?_
  refine Z_iload_n 5 1 dX0_placeBehind_4 rfl rfl ?_
  refine Z_ialn 6 dX0_placeBehind_5 rfl (Nat.le_of_ble_eq_true rfl) rfl hq (by decide) ?_
  refine Z_istore_n 7 [(3, _), (0, _), (1, _), (2, _)] dX0_placeBehind_6 rfl (Nat.le_of_ble_eq_true rfl) rfl ?_
  refine Z_iload_n 8 3 dX0_placeBehind_7 rfl rfl ?_
  refine Z_tabIn 54 (off := 46) dX0_placeBehind_8 (by decide) (by decide) (by decide) rfl ?_
  refine Z_iload_n 55 0 dX0_placeBehind_54 rfl rfl ?_
  refine Z_bipush 57 (nI 60) dX0_placeBehind_55 rfl rfl ?_
  refine Z_icmp_ne 60 64 dX0_placeBehind_57 rfl rfl (fun c57 => ?_) (fun c57 => absurd (hno) c57)
  refine Z_iconst 65 (nI 0) dX0_placeBehind_64 rfl rfl ?_
  exact Z_iret dX0_placeBehind_65 rfl ⟨rfl, rfl⟩

set_option maxRecDepth 100000 in
set_option maxHeartbeats 4000000 in
theorem pb2 {G : zG} {l : Launch} {h : Nat → Nat} {m : zM} (q : Nat) (hq : q < 60) (hno : m 69 q = nI 60) : zMet G l yX0_placeBehind mX0_placeBehind [.ref (G.1 + 68), .int (nI q), .int (nI 2)] (zw h m) (fun r w => r = some (.int (nI 3)) ∧ w = zw h (m)) 0 0 := by
  refine zMet_of [(0, .ref (G.1 + 68)), (1, .int (nI q)), (2, .int (nI 2))] (by decide +kernel) rfl (Or.inl rfl) (Nat.le_of_ble_eq_true rfl) rfl ?_
  refine Z_aload_n 1 0 dX0_placeBehind_0 rfl rfl ?_
  refine Z_getR 4 dX0_placeBehind_1 rfl fX0_9 (Nat.le_of_ble_eq_true rfl) rfl rfl ?_
  refine Z_iload_n 5 1 dX0_placeBehind_4 rfl rfl ?_
  refine Z_ialn 6 dX0_placeBehind_5 rfl (Nat.le_of_ble_eq_true rfl) rfl hq (by decide) ?_
  refine Z_istore_n 7 [(3, _), (0, _), (1, _), (2, _)] dX0_placeBehind_6 rfl (Nat.le_of_ble_eq_true rfl) rfl ?_
  refine Z_iload_n 8 3 dX0_placeBehind_7 rfl rfl ?_
  refine Z_tabIn 54 (off := 46) dX0_placeBehind_8 (by decide) (by decide) (by decide) rfl ?_
  refine Z_iload_n 55 0 dX0_placeBehind_54 rfl rfl ?_
  refine Z_bipush 57 (nI 60) dX0_placeBehind_55 rfl rfl ?_
  refine Z_icmp_ne 60 64 dX0_placeBehind_57 rfl rfl (fun c57 => absurd c57 (fun z => z hno)) (fun c57 => ?_)
  refine Z_iconst 61 (nI 3) dX0_placeBehind_60 rfl rfl ?_
  refine Z_goto 65 dX0_placeBehind_61 rfl ?_
  exact Z_iret dX0_placeBehind_65 rfl ⟨rfl, rfl⟩

set_option maxRecDepth 100000 in
set_option maxHeartbeats 4000000 in
theorem pb3e {G : zG} {l : Launch} {h : Nat → Nat} {m : zM} (q : Nat) (hq : q < 60) (hno : ¬ dgt (m 69 q) (nI 7)) : zMet G l yX0_placeBehind mX0_placeBehind [.ref (G.1 + 68), .int (nI q), .int (nI 3)] (zw h m) (fun r w => r = some (.int (nI 0)) ∧ w = zw h (m)) 0 0 := by
  refine zMet_of [(0, .ref (G.1 + 68)), (1, .int (nI q)), (2, .int (nI 3))] (by decide +kernel) rfl (Or.inl rfl) (Nat.le_of_ble_eq_true rfl) rfl ?_
  refine Z_aload_n 1 0 dX0_placeBehind_0 rfl rfl ?_
  refine Z_getR 4 dX0_placeBehind_1 rfl fX0_9 (Nat.le_of_ble_eq_true rfl) rfl rfl ?_
  refine Z_iload_n 5 1 dX0_placeBehind_4 rfl rfl ?_
  refine Z_ialn 6 dX0_placeBehind_5 rfl (Nat.le_of_ble_eq_true rfl) rfl hq (by decide) ?_
  refine Z_istore_n 7 [(3, _), (0, _), (1, _), (2, _)] dX0_placeBehind_6 rfl (Nat.le_of_ble_eq_true rfl) rfl ?_
  refine Z_iload_n 8 3 dX0_placeBehind_7 rfl rfl ?_
  refine Z_tabIn 66 (off := 58) dX0_placeBehind_8 (by decide) (by decide) (by decide) rfl ?_
  refine Z_aload_n 67 1 dX0_placeBehind_66 rfl rfl ?_
  refine Z_iload_n 68 0 dX0_placeBehind_67 rfl rfl ?_
  refine Z_callV 71 [_] 0 (eX0_takeOther _ hno) dX0_placeBehind_68 rfl qX0_42 kX0_takeOther rfl rfl (Nat.le_of_ble_eq_true rfl) rfl rfl ⟨(Nat.le_of_ble_eq_true rfl), (Nat.le_of_ble_eq_true rfl)⟩ (Nat.le_of_ble_eq_true rfl) ⟨rfl, rfl⟩ ⟨(Nat.le_of_ble_eq_true rfl), (Nat.le_of_ble_eq_true rfl)⟩ (fun r9 w9 hp9 => ?_)
  obtain ⟨rfl, rfl⟩ := hp9
  exact Z_iret dX0_placeBehind_71 rfl ⟨rfl, rfl⟩

set_option maxRecDepth 100000 in
set_option maxHeartbeats 4000000 in
theorem pb3 {G : zG} {l : Launch} {h : Nat → Nat} {m : zM} (q : Nat) (hq : q < 60) (j : Nat) (hj : j < 15) (hp : m 68 6 = nI (j + 1)) (hno : dgt (m 69 q) (nI 7)) : zMet G l yX0_placeBehind mX0_placeBehind [.ref (G.1 + 68), .int (nI q), .int (nI 3)] (zw h m) (fun r w => r = some (.int (nI 4)) ∧ w = zw h (up2 m 72 j (m 69 q - nI 48))) 0 0 := by
  refine zMet_of [(0, .ref (G.1 + 68)), (1, .int (nI q)), (2, .int (nI 3))] (by decide +kernel) rfl (Or.inl rfl) (Nat.le_of_ble_eq_true rfl) rfl ?_
  refine Z_aload_n 1 0 dX0_placeBehind_0 rfl rfl ?_
  refine Z_getR 4 dX0_placeBehind_1 rfl fX0_9 (Nat.le_of_ble_eq_true rfl) rfl rfl ?_
  refine Z_iload_n 5 1 dX0_placeBehind_4 rfl rfl ?_
  refine Z_ialn 6 dX0_placeBehind_5 rfl (Nat.le_of_ble_eq_true rfl) rfl hq (by decide) ?_
  refine Z_istore_n 7 [(3, _), (0, _), (1, _), (2, _)] dX0_placeBehind_6 rfl (Nat.le_of_ble_eq_true rfl) rfl ?_
  refine Z_iload_n 8 3 dX0_placeBehind_7 rfl rfl ?_
  refine Z_tabIn 66 (off := 58) dX0_placeBehind_8 (by decide) (by decide) (by decide) rfl ?_
  refine Z_aload_n 67 1 dX0_placeBehind_66 rfl rfl ?_
  refine Z_iload_n 68 0 dX0_placeBehind_67 rfl rfl ?_
  refine Z_callV 71 [_] 0 (zX0_takeOther _ j hj hp hno) dX0_placeBehind_68 rfl qX0_42 kX0_takeOther rfl rfl (Nat.le_of_ble_eq_true rfl) rfl rfl ⟨(Nat.le_of_ble_eq_true rfl), (Nat.le_of_ble_eq_true rfl)⟩ (Nat.le_of_ble_eq_true rfl) ⟨rfl, rfl⟩ ⟨(Nat.le_of_ble_eq_true rfl), (Nat.le_of_ble_eq_true rfl)⟩ (fun r9 w9 hp9 => ?_)
  obtain ⟨rfl, rfl⟩ := hp9
  exact Z_iret dX0_placeBehind_71 rfl ⟨rfl, rfl⟩

set_option maxRecDepth 100000 in
set_option maxHeartbeats 4000000 in
theorem pb4e {G : zG} {l : Launch} {h : Nat → Nat} {m : zM} (q : Nat) (hq : q < 60) (h0 : ¬ m 69 q = nI 43) (h1 : ¬ m 69 q = nI 45) (h2 : ¬ m 69 q = nI 59) : zMet G l yX0_placeBehind mX0_placeBehind [.ref (G.1 + 68), .int (nI q), .int (nI 4)] (zw h m) (fun r w => r = some (.int (nI 0)) ∧ w = zw h (m)) 0 0 := by
  refine zMet_of [(0, .ref (G.1 + 68)), (1, .int (nI q)), (2, .int (nI 4))] (by decide +kernel) rfl (Or.inl rfl) (Nat.le_of_ble_eq_true rfl) rfl ?_
  refine Z_aload_n 1 0 dX0_placeBehind_0 rfl rfl ?_
  refine Z_getR 4 dX0_placeBehind_1 rfl fX0_9 (Nat.le_of_ble_eq_true rfl) rfl rfl ?_
  refine Z_iload_n 5 1 dX0_placeBehind_4 rfl rfl ?_
  refine Z_ialn 6 dX0_placeBehind_5 rfl (Nat.le_of_ble_eq_true rfl) rfl hq (by decide) ?_
  refine Z_istore_n 7 [(3, _), (0, _), (1, _), (2, _)] dX0_placeBehind_6 rfl (Nat.le_of_ble_eq_true rfl) rfl ?_
  refine Z_iload_n 8 3 dX0_placeBehind_7 rfl rfl ?_
  refine Z_tabIn 72 (off := 64) dX0_placeBehind_8 (by decide) (by decide) (by decide) rfl ?_
  refine Z_aload_n 73 1 dX0_placeBehind_72 rfl rfl ?_
  refine Z_iload_n 74 0 dX0_placeBehind_73 rfl rfl ?_
  refine Z_callV 77 [_] 0 (eX0_takeSign _ h0 h1 h2) dX0_placeBehind_74 rfl qX0_45 kX0_takeSign rfl rfl (Nat.le_of_ble_eq_true rfl) rfl rfl ⟨(Nat.le_of_ble_eq_true rfl), (Nat.le_of_ble_eq_true rfl)⟩ (Nat.le_of_ble_eq_true rfl) ⟨rfl, rfl⟩ ⟨(Nat.le_of_ble_eq_true rfl), (Nat.le_of_ble_eq_true rfl)⟩ (fun r9 w9 hp9 => ?_)
  obtain ⟨rfl, rfl⟩ := hp9
  exact Z_iret dX0_placeBehind_77 rfl ⟨rfl, rfl⟩

set_option maxRecDepth 100000 in
set_option maxHeartbeats 4000000 in
theorem pb4_59 {G : zG} {l : Launch} {h : Nat → Nat} {m : zM} (q : Nat) (hq : q < 60) (hx9 : m 69 q = nI 59) : zMet G l yX0_placeBehind mX0_placeBehind [.ref (G.1 + 68), .int (nI q), .int (nI 4)] (zw h m) (fun r w => r = some (.int (nI 1)) ∧ w = zw h (m)) 0 0 := by
  refine zMet_of [(0, .ref (G.1 + 68)), (1, .int (nI q)), (2, .int (nI 4))] (by decide +kernel) rfl (Or.inl rfl) (Nat.le_of_ble_eq_true rfl) rfl ?_
  refine Z_aload_n 1 0 dX0_placeBehind_0 rfl rfl ?_
  refine Z_getR 4 dX0_placeBehind_1 rfl fX0_9 (Nat.le_of_ble_eq_true rfl) rfl rfl ?_
  refine Z_iload_n 5 1 dX0_placeBehind_4 rfl rfl ?_
  refine Z_ialn 6 dX0_placeBehind_5 rfl (Nat.le_of_ble_eq_true rfl) rfl hq (by decide) ?_
  refine Z_istore_n 7 [(3, _), (0, _), (1, _), (2, _)] dX0_placeBehind_6 rfl (Nat.le_of_ble_eq_true rfl) rfl ?_
  refine Z_iload_n 8 3 dX0_placeBehind_7 rfl rfl ?_
  refine Z_tabIn 72 (off := 64) dX0_placeBehind_8 (by decide) (by decide) (by decide) rfl ?_
  refine Z_aload_n 73 1 dX0_placeBehind_72 rfl rfl ?_
  refine Z_iload_n 74 0 dX0_placeBehind_73 rfl rfl ?_
  refine Z_top (congrArg Value.int hx9) ?_
  refine Z_callV 77 [_] 0 (zX0_takeSign59) dX0_placeBehind_74 rfl qX0_45 kX0_takeSign rfl rfl (Nat.le_of_ble_eq_true rfl) rfl rfl ⟨(Nat.le_of_ble_eq_true rfl), (Nat.le_of_ble_eq_true rfl)⟩ (Nat.le_of_ble_eq_true rfl) ⟨rfl, rfl⟩ ⟨(Nat.le_of_ble_eq_true rfl), (Nat.le_of_ble_eq_true rfl)⟩ (fun r9 w9 hp9 => ?_)
  obtain ⟨rfl, rfl⟩ := hp9
  exact Z_iret dX0_placeBehind_77 rfl ⟨rfl, rfl⟩

set_option maxRecDepth 100000 in
set_option maxHeartbeats 4000000 in
theorem pb4_43 {G : zG} {l : Launch} {h : Nat → Nat} {m : zM} (q : Nat) (hq : q < 60) (hx9 : m 69 q = nI 43) : zMet G l yX0_placeBehind mX0_placeBehind [.ref (G.1 + 68), .int (nI q), .int (nI 4)] (zw h m) (fun r w => r = some (.int (nI 5)) ∧ w = zw h (up2 (up2 (up2 m 68 7 (nI 1)) 68 8 (nI 0)) 68 9 (nI 60))) 0 0 := by
  refine zMet_of [(0, .ref (G.1 + 68)), (1, .int (nI q)), (2, .int (nI 4))] (by decide +kernel) rfl (Or.inl rfl) (Nat.le_of_ble_eq_true rfl) rfl ?_
  refine Z_aload_n 1 0 dX0_placeBehind_0 rfl rfl ?_
  refine Z_getR 4 dX0_placeBehind_1 rfl fX0_9 (Nat.le_of_ble_eq_true rfl) rfl rfl ?_
  refine Z_iload_n 5 1 dX0_placeBehind_4 rfl rfl ?_
  refine Z_ialn 6 dX0_placeBehind_5 rfl (Nat.le_of_ble_eq_true rfl) rfl hq (by decide) ?_
  refine Z_istore_n 7 [(3, _), (0, _), (1, _), (2, _)] dX0_placeBehind_6 rfl (Nat.le_of_ble_eq_true rfl) rfl ?_
  refine Z_iload_n 8 3 dX0_placeBehind_7 rfl rfl ?_
  refine Z_tabIn 72 (off := 64) dX0_placeBehind_8 (by decide) (by decide) (by decide) rfl ?_
  refine Z_aload_n 73 1 dX0_placeBehind_72 rfl rfl ?_
  refine Z_iload_n 74 0 dX0_placeBehind_73 rfl rfl ?_
  refine Z_top (congrArg Value.int hx9) ?_
  refine Z_callV 77 [_] 0 (zX0_takeSign43) dX0_placeBehind_74 rfl qX0_45 kX0_takeSign rfl rfl (Nat.le_of_ble_eq_true rfl) rfl rfl ⟨(Nat.le_of_ble_eq_true rfl), (Nat.le_of_ble_eq_true rfl)⟩ (Nat.le_of_ble_eq_true rfl) ⟨rfl, rfl⟩ ⟨(Nat.le_of_ble_eq_true rfl), (Nat.le_of_ble_eq_true rfl)⟩ (fun r9 w9 hp9 => ?_)
  obtain ⟨rfl, rfl⟩ := hp9
  exact Z_iret dX0_placeBehind_77 rfl ⟨rfl, rfl⟩

set_option maxRecDepth 100000 in
set_option maxHeartbeats 4000000 in
theorem pb4_45 {G : zG} {l : Launch} {h : Nat → Nat} {m : zM} (q : Nat) (hq : q < 60) (hx9 : m 69 q = nI 45) : zMet G l yX0_placeBehind mX0_placeBehind [.ref (G.1 + 68), .int (nI q), .int (nI 4)] (zw h m) (fun r w => r = some (.int (nI 5)) ∧ w = zw h (up2 (up2 (up2 m 68 7 (-1)) 68 8 (nI 0)) 68 9 (nI 30))) 0 0 := by
  refine zMet_of [(0, .ref (G.1 + 68)), (1, .int (nI q)), (2, .int (nI 4))] (by decide +kernel) rfl (Or.inl rfl) (Nat.le_of_ble_eq_true rfl) rfl ?_
  refine Z_aload_n 1 0 dX0_placeBehind_0 rfl rfl ?_
  refine Z_getR 4 dX0_placeBehind_1 rfl fX0_9 (Nat.le_of_ble_eq_true rfl) rfl rfl ?_
  refine Z_iload_n 5 1 dX0_placeBehind_4 rfl rfl ?_
  refine Z_ialn 6 dX0_placeBehind_5 rfl (Nat.le_of_ble_eq_true rfl) rfl hq (by decide) ?_
  refine Z_istore_n 7 [(3, _), (0, _), (1, _), (2, _)] dX0_placeBehind_6 rfl (Nat.le_of_ble_eq_true rfl) rfl ?_
  refine Z_iload_n 8 3 dX0_placeBehind_7 rfl rfl ?_
  refine Z_tabIn 72 (off := 64) dX0_placeBehind_8 (by decide) (by decide) (by decide) rfl ?_
  refine Z_aload_n 73 1 dX0_placeBehind_72 rfl rfl ?_
  refine Z_iload_n 74 0 dX0_placeBehind_73 rfl rfl ?_
  refine Z_top (congrArg Value.int hx9) ?_
  refine Z_callV 77 [_] 0 (zX0_takeSign45) dX0_placeBehind_74 rfl qX0_45 kX0_takeSign rfl rfl (Nat.le_of_ble_eq_true rfl) rfl rfl ⟨(Nat.le_of_ble_eq_true rfl), (Nat.le_of_ble_eq_true rfl)⟩ (Nat.le_of_ble_eq_true rfl) ⟨rfl, rfl⟩ ⟨(Nat.le_of_ble_eq_true rfl), (Nat.le_of_ble_eq_true rfl)⟩ (fun r9 w9 hp9 => ?_)
  obtain ⟨rfl, rfl⟩ := hp9
  exact Z_iret dX0_placeBehind_77 rfl ⟨rfl, rfl⟩

set_option maxRecDepth 100000 in
set_option maxHeartbeats 4000000 in
theorem pb5a {G : zG} {l : Launch} {h : Nat → Nat} {m : zM} (q : Nat) (hq : q < 60) (hx9 : m 69 q = nI 48) : zMet G l yX0_placeBehind mX0_placeBehind [.ref (G.1 + 68), .int (nI q), .int (nI 5)] (zw h m) (fun r w => r = some (.int (nI 0)) ∧ w = zw h (m)) 0 0 := by
  refine zMet_of [(0, .ref (G.1 + 68)), (1, .int (nI q)), (2, .int (nI 5))] (by decide +kernel) rfl (Or.inl rfl) (Nat.le_of_ble_eq_true rfl) rfl ?_
  refine Z_aload_n 1 0 dX0_placeBehind_0 rfl rfl ?_
  refine Z_getR 4 dX0_placeBehind_1 rfl fX0_9 (Nat.le_of_ble_eq_true rfl) rfl rfl ?_
  refine Z_iload_n 5 1 dX0_placeBehind_4 rfl rfl ?_
  refine Z_ialn 6 dX0_placeBehind_5 rfl (Nat.le_of_ble_eq_true rfl) rfl hq (by decide) ?_
  refine Z_istore_n 7 [(3, _), (0, _), (1, _), (2, _)] dX0_placeBehind_6 rfl (Nat.le_of_ble_eq_true rfl) rfl ?_
  refine Z_iload_n 8 3 dX0_placeBehind_7 rfl rfl ?_
  refine Z_tabIn 78 (off := 70) dX0_placeBehind_8 (by decide) (by decide) (by decide) rfl ?_
  refine Z_iload_n 79 0 dX0_placeBehind_78 rfl rfl ?_
  refine Z_bipush 81 (nI 48) dX0_placeBehind_79 rfl rfl ?_
  refine Z_icmp_ne 84 88 dX0_placeBehind_81 rfl rfl (fun c81 => absurd c81 (fun z => z hx9)) (fun c81 => ?_)
  refine Z_iconst 85 (nI 0) dX0_placeBehind_84 rfl rfl ?_
  refine Z_goto 93 dX0_placeBehind_85 rfl ?_
  exact Z_iret dX0_placeBehind_93 rfl ⟨rfl, rfl⟩

set_option maxRecDepth 100000 in
set_option maxHeartbeats 4000000 in
theorem pb5e {G : zG} {l : Launch} {h : Nat → Nat} {m : zM} (q : Nat) (hq : q < 60) (hx9 : ¬ m 69 q = nI 48) (hno : ¬ dgt (m 69 q) (nI 9)) : zMet G l yX0_placeBehind mX0_placeBehind [.ref (G.1 + 68), .int (nI q), .int (nI 5)] (zw h m) (fun r w => r = some (.int (nI 0)) ∧ w = zw h (m)) 0 0 := by
  refine zMet_of [(0, .ref (G.1 + 68)), (1, .int (nI q)), (2, .int (nI 5))] (by decide +kernel) rfl (Or.inl rfl) (Nat.le_of_ble_eq_true rfl) rfl ?_
  refine Z_aload_n 1 0 dX0_placeBehind_0 rfl rfl ?_
  refine Z_getR 4 dX0_placeBehind_1 rfl fX0_9 (Nat.le_of_ble_eq_true rfl) rfl rfl ?_
  refine Z_iload_n 5 1 dX0_placeBehind_4 rfl rfl ?_
  refine Z_ialn 6 dX0_placeBehind_5 rfl (Nat.le_of_ble_eq_true rfl) rfl hq (by decide) ?_
  refine Z_istore_n 7 [(3, _), (0, _), (1, _), (2, _)] dX0_placeBehind_6 rfl (Nat.le_of_ble_eq_true rfl) rfl ?_
  refine Z_iload_n 8 3 dX0_placeBehind_7 rfl rfl ?_
  refine Z_tabIn 78 (off := 70) dX0_placeBehind_8 (by decide) (by decide) (by decide) rfl ?_
  refine Z_iload_n 79 0 dX0_placeBehind_78 rfl rfl ?_
  refine Z_bipush 81 (nI 48) dX0_placeBehind_79 rfl rfl ?_
  refine Z_icmp_ne 84 88 dX0_placeBehind_81 rfl rfl (fun c81 => ?_) (fun c81 => absurd (hx9) c81)
  refine Z_aload_n 89 1 dX0_placeBehind_88 rfl rfl ?_
  refine Z_iload_n 90 0 dX0_placeBehind_89 rfl rfl ?_
  refine Z_callV 93 [_] 0 (eX0_takeDigit _ hno) dX0_placeBehind_90 rfl qX0_48 kX0_takeDigit rfl rfl (Nat.le_of_ble_eq_true rfl) rfl rfl ⟨(Nat.le_of_ble_eq_true rfl), (Nat.le_of_ble_eq_true rfl)⟩ (Nat.le_of_ble_eq_true rfl) ⟨rfl, rfl⟩ ⟨(Nat.le_of_ble_eq_true rfl), (Nat.le_of_ble_eq_true rfl)⟩ (fun r9 w9 hp9 => ?_)
  obtain ⟨rfl, rfl⟩ := hp9
  exact Z_iret dX0_placeBehind_93 rfl ⟨rfl, rfl⟩

set_option maxRecDepth 100000 in
set_option maxHeartbeats 4000000 in
theorem pb5 {G : zG} {l : Launch} {h : Nat → Nat} {m : zM} (q : Nat) (hq : q < 60) (hx9 : ¬ m 69 q = nI 48) (hno : dgt (m 69 q) (nI 9)) (hgt : ¬ m 68 9 < (m 68 8 * nI 10 + m 69 q - nI 48)) (j : Nat) (hj : j < 15) (hp : m 68 6 = nI (j + 1)) : zMet G l yX0_placeBehind mX0_placeBehind [.ref (G.1 + 68), .int (nI q), .int (nI 5)] (zw h m) (fun r w => r = some (.int (nI 6)) ∧ w = zw h (up2 (up2 m 68 8 (m 68 8 * nI 10 + m 69 q - nI 48)) 73 j (m 68 7 * (m 68 8 * nI 10 + m 69 q - nI 48)))) 0 0 := by
  refine zMet_of [(0, .ref (G.1 + 68)), (1, .int (nI q)), (2, .int (nI 5))] (by decide +kernel) rfl (Or.inl rfl) (Nat.le_of_ble_eq_true rfl) rfl ?_
  refine Z_aload_n 1 0 dX0_placeBehind_0 rfl rfl ?_
  refine Z_getR 4 dX0_placeBehind_1 rfl fX0_9 (Nat.le_of_ble_eq_true rfl) rfl rfl ?_
  refine Z_iload_n 5 1 dX0_placeBehind_4 rfl rfl ?_
  refine Z_ialn 6 dX0_placeBehind_5 rfl (Nat.le_of_ble_eq_true rfl) rfl hq (by decide) ?_
  refine Z_istore_n 7 [(3, _), (0, _), (1, _), (2, _)] dX0_placeBehind_6 rfl (Nat.le_of_ble_eq_true rfl) rfl ?_
  refine Z_iload_n 8 3 dX0_placeBehind_7 rfl rfl ?_
  refine Z_tabIn 78 (off := 70) dX0_placeBehind_8 (by decide) (by decide) (by decide) rfl ?_
  refine Z_iload_n 79 0 dX0_placeBehind_78 rfl rfl ?_
  refine Z_bipush 81 (nI 48) dX0_placeBehind_79 rfl rfl ?_
  refine Z_icmp_ne 84 88 dX0_placeBehind_81 rfl rfl (fun c81 => ?_) (fun c81 => absurd (hx9) c81)
  refine Z_aload_n 89 1 dX0_placeBehind_88 rfl rfl ?_
  refine Z_iload_n 90 0 dX0_placeBehind_89 rfl rfl ?_
  refine Z_callV 93 [_] 0 (zX0_takeDigit _ hno hgt j hj hp) dX0_placeBehind_90 rfl qX0_48 kX0_takeDigit rfl rfl (Nat.le_of_ble_eq_true rfl) rfl rfl ⟨(Nat.le_of_ble_eq_true rfl), (Nat.le_of_ble_eq_true rfl)⟩ (Nat.le_of_ble_eq_true rfl) ⟨rfl, rfl⟩ ⟨(Nat.le_of_ble_eq_true rfl), (Nat.le_of_ble_eq_true rfl)⟩ (fun r9 w9 hp9 => ?_)
  obtain ⟨rfl, rfl⟩ := hp9
  exact Z_iret dX0_placeBehind_93 rfl ⟨rfl, rfl⟩

set_option maxRecDepth 100000 in
set_option maxHeartbeats 4000000 in
theorem pb6s {G : zG} {l : Launch} {h : Nat → Nat} {m : zM} (q : Nat) (hq : q < 60) (hx9 : m 69 q = nI 59) : zMet G l yX0_placeBehind mX0_placeBehind [.ref (G.1 + 68), .int (nI q), .int (nI 6)] (zw h m) (fun r w => r = some (.int (nI 1)) ∧ w = zw h (m)) 0 0 := by
  refine zMet_of [(0, .ref (G.1 + 68)), (1, .int (nI q)), (2, .int (nI 6))] (by decide +kernel) rfl (Or.inl rfl) (Nat.le_of_ble_eq_true rfl) rfl ?_
  refine Z_aload_n 1 0 dX0_placeBehind_0 rfl rfl ?_
  refine Z_getR 4 dX0_placeBehind_1 rfl fX0_9 (Nat.le_of_ble_eq_true rfl) rfl rfl ?_
  refine Z_iload_n 5 1 dX0_placeBehind_4 rfl rfl ?_
  refine Z_ialn 6 dX0_placeBehind_5 rfl (Nat.le_of_ble_eq_true rfl) rfl hq (by decide) ?_
  refine Z_istore_n 7 [(3, _), (0, _), (1, _), (2, _)] dX0_placeBehind_6 rfl (Nat.le_of_ble_eq_true rfl) rfl ?_
  refine Z_iload_n 8 3 dX0_placeBehind_7 rfl rfl ?_
  refine Z_tabIn 94 (off := 86) dX0_placeBehind_8 (by decide) (by decide) (by decide) rfl ?_
  refine Z_iload_n 95 0 dX0_placeBehind_94 rfl rfl ?_
  refine Z_bipush 97 (nI 59) dX0_placeBehind_95 rfl rfl ?_
  refine Z_icmp_ne 100 104 dX0_placeBehind_97 rfl rfl (fun c97 => absurd c97 (fun z => z hx9)) (fun c97 => ?_)
  refine Z_iconst 101 (nI 1) dX0_placeBehind_100 rfl rfl ?_
  refine Z_goto 109 dX0_placeBehind_101 rfl ?_
  exact Z_iret dX0_placeBehind_109 rfl ⟨rfl, rfl⟩

set_option maxRecDepth 100000 in
set_option maxHeartbeats 4000000 in
theorem pb6e {G : zG} {l : Launch} {h : Nat → Nat} {m : zM} (q : Nat) (hq : q < 60) (hx9 : ¬ m 69 q = nI 59) (hno : ¬ dgt (m 69 q) (nI 9)) : zMet G l yX0_placeBehind mX0_placeBehind [.ref (G.1 + 68), .int (nI q), .int (nI 6)] (zw h m) (fun r w => r = some (.int (nI 0)) ∧ w = zw h (m)) 0 0 := by
  refine zMet_of [(0, .ref (G.1 + 68)), (1, .int (nI q)), (2, .int (nI 6))] (by decide +kernel) rfl (Or.inl rfl) (Nat.le_of_ble_eq_true rfl) rfl ?_
  refine Z_aload_n 1 0 dX0_placeBehind_0 rfl rfl ?_
  refine Z_getR 4 dX0_placeBehind_1 rfl fX0_9 (Nat.le_of_ble_eq_true rfl) rfl rfl ?_
  refine Z_iload_n 5 1 dX0_placeBehind_4 rfl rfl ?_
  refine Z_ialn 6 dX0_placeBehind_5 rfl (Nat.le_of_ble_eq_true rfl) rfl hq (by decide) ?_
  refine Z_istore_n 7 [(3, _), (0, _), (1, _), (2, _)] dX0_placeBehind_6 rfl (Nat.le_of_ble_eq_true rfl) rfl ?_
  refine Z_iload_n 8 3 dX0_placeBehind_7 rfl rfl ?_
  refine Z_tabIn 94 (off := 86) dX0_placeBehind_8 (by decide) (by decide) (by decide) rfl ?_
  refine Z_iload_n 95 0 dX0_placeBehind_94 rfl rfl ?_
  refine Z_bipush 97 (nI 59) dX0_placeBehind_95 rfl rfl ?_
  refine Z_icmp_ne 100 104 dX0_placeBehind_97 rfl rfl (fun c97 => ?_) (fun c97 => absurd (hx9) c97)
  refine Z_aload_n 105 1 dX0_placeBehind_104 rfl rfl ?_
  refine Z_iload_n 106 0 dX0_placeBehind_105 rfl rfl ?_
  refine Z_callV 109 [_] 0 (eX0_takeDigit _ hno) dX0_placeBehind_106 rfl qX0_48 kX0_takeDigit rfl rfl (Nat.le_of_ble_eq_true rfl) rfl rfl ⟨(Nat.le_of_ble_eq_true rfl), (Nat.le_of_ble_eq_true rfl)⟩ (Nat.le_of_ble_eq_true rfl) ⟨rfl, rfl⟩ ⟨(Nat.le_of_ble_eq_true rfl), (Nat.le_of_ble_eq_true rfl)⟩ (fun r9 w9 hp9 => ?_)
  obtain ⟨rfl, rfl⟩ := hp9
  exact Z_iret dX0_placeBehind_109 rfl ⟨rfl, rfl⟩

set_option maxRecDepth 100000 in
set_option maxHeartbeats 4000000 in
theorem pb6g {G : zG} {l : Launch} {h : Nat → Nat} {m : zM} (q : Nat) (hq : q < 60) (hx9 : ¬ m 69 q = nI 59) (hno : dgt (m 69 q) (nI 9)) (hgt : m 68 9 < (m 68 8 * nI 10 + m 69 q - nI 48)) : zMet G l yX0_placeBehind mX0_placeBehind [.ref (G.1 + 68), .int (nI q), .int (nI 6)] (zw h m) (fun r w => r = some (.int (nI 0)) ∧ w = zw h (up2 m 68 8 (m 68 8 * nI 10 + m 69 q - nI 48))) 0 0 := by
  refine zMet_of [(0, .ref (G.1 + 68)), (1, .int (nI q)), (2, .int (nI 6))] (by decide +kernel) rfl (Or.inl rfl) (Nat.le_of_ble_eq_true rfl) rfl ?_
  refine Z_aload_n 1 0 dX0_placeBehind_0 rfl rfl ?_
  refine Z_getR 4 dX0_placeBehind_1 rfl fX0_9 (Nat.le_of_ble_eq_true rfl) rfl rfl ?_
  refine Z_iload_n 5 1 dX0_placeBehind_4 rfl rfl ?_
  refine Z_ialn 6 dX0_placeBehind_5 rfl (Nat.le_of_ble_eq_true rfl) rfl hq (by decide) ?_
  refine Z_istore_n 7 [(3, _), (0, _), (1, _), (2, _)] dX0_placeBehind_6 rfl (Nat.le_of_ble_eq_true rfl) rfl ?_
  refine Z_iload_n 8 3 dX0_placeBehind_7 rfl rfl ?_
  refine Z_tabIn 94 (off := 86) dX0_placeBehind_8 (by decide) (by decide) (by decide) rfl ?_
  refine Z_iload_n 95 0 dX0_placeBehind_94 rfl rfl ?_
  refine Z_bipush 97 (nI 59) dX0_placeBehind_95 rfl rfl ?_
  refine Z_icmp_ne 100 104 dX0_placeBehind_97 rfl rfl (fun c97 => ?_) (fun c97 => absurd (hx9) c97)
  refine Z_aload_n 105 1 dX0_placeBehind_104 rfl rfl ?_
  refine Z_iload_n 106 0 dX0_placeBehind_105 rfl rfl ?_
  refine Z_callV 109 [_] 0 (eX0_takeDigit2 _ hno hgt) dX0_placeBehind_106 rfl qX0_48 kX0_takeDigit rfl rfl (Nat.le_of_ble_eq_true rfl) rfl rfl ⟨(Nat.le_of_ble_eq_true rfl), (Nat.le_of_ble_eq_true rfl)⟩ (Nat.le_of_ble_eq_true rfl) ⟨rfl, rfl⟩ ⟨(Nat.le_of_ble_eq_true rfl), (Nat.le_of_ble_eq_true rfl)⟩ (fun r9 w9 hp9 => ?_)
  obtain ⟨rfl, rfl⟩ := hp9
  exact Z_iret dX0_placeBehind_109 rfl ⟨rfl, rfl⟩

set_option maxRecDepth 100000 in
set_option maxHeartbeats 4000000 in
theorem pb6 {G : zG} {l : Launch} {h : Nat → Nat} {m : zM} (q : Nat) (hq : q < 60) (hx9 : ¬ m 69 q = nI 59) (hno : dgt (m 69 q) (nI 9)) (hgt : ¬ m 68 9 < (m 68 8 * nI 10 + m 69 q - nI 48)) (j : Nat) (hj : j < 15) (hp : m 68 6 = nI (j + 1)) : zMet G l yX0_placeBehind mX0_placeBehind [.ref (G.1 + 68), .int (nI q), .int (nI 6)] (zw h m) (fun r w => r = some (.int (nI 6)) ∧ w = zw h (up2 (up2 m 68 8 (m 68 8 * nI 10 + m 69 q - nI 48)) 73 j (m 68 7 * (m 68 8 * nI 10 + m 69 q - nI 48)))) 0 0 := by
  refine zMet_of [(0, .ref (G.1 + 68)), (1, .int (nI q)), (2, .int (nI 6))] (by decide +kernel) rfl (Or.inl rfl) (Nat.le_of_ble_eq_true rfl) rfl ?_
  refine Z_aload_n 1 0 dX0_placeBehind_0 rfl rfl ?_
  refine Z_getR 4 dX0_placeBehind_1 rfl fX0_9 (Nat.le_of_ble_eq_true rfl) rfl rfl ?_
  refine Z_iload_n 5 1 dX0_placeBehind_4 rfl rfl ?_
  refine Z_ialn 6 dX0_placeBehind_5 rfl (Nat.le_of_ble_eq_true rfl) rfl hq (by decide) ?_
  refine Z_istore_n 7 [(3, _), (0, _), (1, _), (2, _)] dX0_placeBehind_6 rfl (Nat.le_of_ble_eq_true rfl) rfl ?_
  refine Z_iload_n 8 3 dX0_placeBehind_7 rfl rfl ?_
  refine Z_tabIn 94 (off := 86) dX0_placeBehind_8 (by decide) (by decide) (by decide) rfl ?_
  refine Z_iload_n 95 0 dX0_placeBehind_94 rfl rfl ?_
  refine Z_bipush 97 (nI 59) dX0_placeBehind_95 rfl rfl ?_
  refine Z_icmp_ne 100 104 dX0_placeBehind_97 rfl rfl (fun c97 => ?_) (fun c97 => absurd (hx9) c97)
  refine Z_aload_n 105 1 dX0_placeBehind_104 rfl rfl ?_
  refine Z_iload_n 106 0 dX0_placeBehind_105 rfl rfl ?_
  refine Z_callV 109 [_] 0 (zX0_takeDigit _ hno hgt j hj hp) dX0_placeBehind_106 rfl qX0_48 kX0_takeDigit rfl rfl (Nat.le_of_ble_eq_true rfl) rfl rfl ⟨(Nat.le_of_ble_eq_true rfl), (Nat.le_of_ble_eq_true rfl)⟩ (Nat.le_of_ble_eq_true rfl) ⟨rfl, rfl⟩ ⟨(Nat.le_of_ble_eq_true rfl), (Nat.le_of_ble_eq_true rfl)⟩ (fun r9 w9 hp9 => ?_)
  obtain ⟨rfl, rfl⟩ := hp9
  exact Z_iret dX0_placeBehind_109 rfl ⟨rfl, rfl⟩
