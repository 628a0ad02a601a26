/-! the model: its row, looked at as a street at 1 -/
def vR (r : Nat → Int32) : zM
  | 1, k => match k with
    | 8 => r 2
    | 9 => r 0
    | 10 => r 1
    | 11 => r 3
    | 12 => r 4
    | 13 => r 5
    | _ => 0
  | 2, i => r (7 + 4 * i)
  | 3, i => r (7 + 4 * i + 1)
  | 4, i => r (7 + 4 * i + 2)
  | 5, i => r (7 + 4 * i + 3)
  | 6, t => r (39 + 4 * t)
  | 7, t => r (39 + 4 * t + 1)
  | 8, t => r (39 + 4 * t + 2)
  | 9, t => r (39 + 4 * t + 3)
  | _, _ => 0
theorem ix4 (a i k : Nat) : nI a + nI 4 * nI i + nI k = nI (a + 4 * i + k) := by rw [pk_mul, nI_add, nI_add]
def slk (v : zM) (t : Nat) : Int32 := v 8 t + v 2 (sO v 1 t) - v 2 (sF v 1 t)
abbrev bkV (v : zM) (t : Nat) : Prop := sForce v 1 t ∧ slk v t < 0
theorem cnt_t0 {p : Nat → Bool} {i : Nat} (hp : p i = true) : nI (cnt p i) + nI 1 = nI (cnt p (i + 1)) := cnt_t hp
theorem nI0z : nI 0 = 0 := rfl
set_option maxRecDepth 100000 in
set_option maxHeartbeats 4000000 in
theorem zX4_in {G : zG} {l : Launch} {h : Nat → Nat} {m : zM} (x a b : Int32) : zMet G l yX4_in mX4_in [.int x, .int a, .int b] (zw h m) (fun r w => r = some (.int (bI (¬ x < a ∧ ¬ b < x))) ∧ w = zw h m) 0 0 := by
  refine zMet_of [(0, .int x), (1, .int a), (2, .int b)] (by decide +kernel) rfl (Or.inl rfl) (Nat.le_of_ble_eq_true rfl) rfl ?_
  refine Z_iload_n 1 0 dX4_in_0 rfl rfl ?_
  refine Z_iload_n 2 1 dX4_in_1 rfl rfl ?_
  refine Z_icmp_lt 5 14 dX4_in_2 rfl rfl (fun c2 => ?_) (fun c2 => ?_)
  · skip
    refine Z_iconst 15 (nI 0) dX4_in_14 rfl rfl ?_
    exact Z_zret dX4_in_15 rfl (by first | exact Or.inl rfl | exact Or.inr rfl | exact bI_01) (by first | exact ⟨bRf (fun q => q.1 c2), rfl⟩ | exact ⟨bRf (fun q => q.2 c7), rfl⟩ | exact ⟨bRt (⟨c2, c7⟩), rfl⟩)
  · skip
    refine Z_iload_n 6 0 dX4_in_5 rfl rfl ?_
    refine Z_iload_n 7 2 dX4_in_6 rfl rfl ?_
    refine Z_icmp_gt 10 14 dX4_in_7 rfl rfl (fun c7 => ?_) (fun c7 => ?_)
    · skip
      refine Z_iconst 15 (nI 0) dX4_in_14 rfl rfl ?_
      exact Z_zret dX4_in_15 rfl (by first | exact Or.inl rfl | exact Or.inr rfl | exact bI_01) (by first | exact ⟨bRf (fun q => q.1 c2), rfl⟩ | exact ⟨bRf (fun q => q.2 c7), rfl⟩ | exact ⟨bRt (⟨c2, c7⟩), rfl⟩)
    · skip
      refine Z_iconst 11 (nI 1) dX4_in_10 rfl rfl ?_
      refine Z_goto 15 dX4_in_11 rfl ?_
      exact Z_zret dX4_in_15 rfl (by first | exact Or.inl rfl | exact Or.inr rfl | exact bI_01) (by first | exact ⟨bRf (fun q => q.1 c2), rfl⟩ | exact ⟨bRf (fun q => q.2 c7), rfl⟩ | exact ⟨bRt (⟨c2, c7⟩), rfl⟩)

def cpR (m : zM) (A x B y i : Nat) : zM := fun q k => if q = B ∧ y ≤ k ∧ k < y + i then m A (x + (k - y)) else m q k
theorem cpR_0 (m : zM) (A x B y : Nat) : cpR m A x B y 0 = m := by
  funext q k
  unfold cpR
  rw [if_neg (by omega)]
theorem cpR_step (m : zM) (A x B y i : Nat) : up2 (cpR m A x B y i) B (y + i) (m A (x + i)) = cpR m A x B y (i + 1) := by
  funext q k
  unfold up2 cpR
  by_cases h1 : q = B ∧ k = y + i
  · obtain ⟨rfl, rfl⟩ := h1
    rw [if_pos ⟨rfl, rfl⟩, if_pos ⟨rfl, by omega, by omega⟩]
    rw [show y + i - y = i by omega]
  · rw [if_neg h1]
    by_cases h2 : q = B ∧ y ≤ k ∧ k < y + i
    · rw [if_pos h2, if_pos ⟨h2.1, h2.2.1, by omega⟩]
    · rw [if_neg h2, if_neg (fun z => by
        rcases z with ⟨z1, z2, z3⟩
        apply h2
        refine ⟨z1, z2, ?_⟩
        have : k ≠ y + i := fun e => h1 ⟨z1, e⟩
        omega)]
theorem cpR_na (m : zM) {A x B y i q : Nat} (h : q ≠ B) : cpR m A x B y i q = m q := by
  funext k
  unfold cpR
  rw [if_neg (fun z => h z.1)]
set_option maxRecDepth 100000 in
set_option maxHeartbeats 4000000 in
theorem lX4_copies {G : zG} {l : Launch} {h : Nat → Nat} {m : zM} (A B LA LB x y : Nat) (hA : A < 83) (hB : B < 83) (hsA : SH h A = .inl LA) (hsB : SH h B = .inl LB) (hAB : A ≠ B) (hx : x + 95 ≤ LA) (hy : y + 95 ≤ LB) (hLA : LA ≤ 380) (hLB : LB ≤ 380) : ∀ (t i : Nat), i + t = 95 → Z G mX4_copies (fun _ => True) (zN G (fun r w => r = none ∧ w = zw h (cpR m A x B y 95)) 0 0) l 0 0 (zw h (cpR m A x B y i)) 3 [(4, .int (nI i)), (0, .ref (G.1 + A)), (1, .int (nI x)), (2, .ref (G.1 + B)), (3, .int (nI y))] [] := by
  intro t
  induction t with
  | zero =>
    intro i hi
    have e9 : i = 95 := by omega
    subst e9
    refine Z_iload 5 0 dX4_copies_3 rfl rfl ?_
    refine Z_bipush 7 (nI 95) dX4_copies_5 rfl rfl ?_
    refine Z_icmp_ge 10 28 dX4_copies_7 rfl rfl (fun c7 => ?_) (fun c7 => absurd (nI_le (Nat.le_refl _) (by omega)) c7)
    exact Z_vret dX4_copies_28 rfl ⟨rfl, rfl⟩
  | succ t ih =>
    intro i hi
    have hlt : i < 95 := by omega
    refine Z_iload 5 0 dX4_copies_3 rfl rfl ?_
    refine Z_bipush 7 (nI 95) dX4_copies_5 rfl rfl ?_
    refine Z_icmp_ge 10 28 dX4_copies_7 rfl rfl (fun c7 => absurd c7 (nI_ge hlt (by omega))) (fun c7 => ?_)
    refine Z_aload_n 11 3 dX4_copies_10 rfl rfl ?_
    refine Z_iload_n 12 4 dX4_copies_11 rfl rfl ?_
    refine Z_iload 14 0 dX4_copies_12 rfl rfl ?_
    refine Z_iadd 15 dX4_copies_14 rfl ?_
    refine Z_top (v' := .int (nI (y + i))) (congrArg Value.int (nI_add _ _)) ?_
    refine Z_aload_n 16 1 dX4_copies_15 rfl rfl ?_
    refine Z_iload_n 17 2 dX4_copies_16 rfl rfl ?_
    refine Z_iload 19 0 dX4_copies_17 rfl rfl ?_
    refine Z_iadd 20 dX4_copies_19 rfl ?_
    refine Z_top (v' := .int (nI (x + i))) (congrArg Value.int (nI_add _ _)) ?_
    refine Z_iald 21 dX4_copies_20 rfl hA hsA (vp_inN (show x + i < LA by omega) (by omega)) ?_
    refine Z_top (v' := .int (m A (x + i))) (congrArg Value.int (by rw [nI_clamp (by omega), cpR_na m hAB])) ?_
    refine Z_iast 22 dX4_copies_21 rfl hB hsB (vp_inN (show y + i < LB by omega) (by omega)) ?_
    rw [nI_clamp (show y + i < 2 ^ 31 by omega), cpR_step]
    refine Z_iinc 25 [(4, _), (0, _), (1, _), (2, _), (3, _)] 0 _ dX4_copies_22 rfl (Nat.le_of_ble_eq_true rfl) rfl (nI_1 _) rfl ?_
    refine Z_goto 3 dX4_copies_25 rfl ?_
    exact ih (i + 1) (by omega)

set_option maxRecDepth 100000 in
set_option maxHeartbeats 4000000 in
theorem zX4_copies {G : zG} {l : Launch} {h : Nat → Nat} {m : zM} (A B LA LB x y : Nat) (hA : A < 83) (hB : B < 83) (hsA : SH h A = .inl LA) (hsB : SH h B = .inl LB) (hAB : A ≠ B) (hx : x + 95 ≤ LA) (hy : y + 95 ≤ LB) (hLA : LA ≤ 380) (hLB : LB ≤ 380) : zMet G l yX4_copies mX4_copies [.ref (G.1 + A), .int (nI x), .ref (G.1 + B), .int (nI y)] (zw h m) (fun r w => r = none ∧ w = zw h (cpR m A x B y 95)) 0 0 := by
  refine zMet_of [(0, .ref (G.1 + A)), (1, .int (nI x)), (2, .ref (G.1 + B)), (3, .int (nI y))] (by decide +kernel) rfl (Or.inl rfl) (Nat.le_of_ble_eq_true rfl) rfl ?_
  refine Z_iconst 1 (nI 0) dX4_copies_0 rfl rfl ?_
  refine Z_istore 3 [(4, _), (0, _), (1, _), (2, _), (3, _)] dX4_copies_1 rfl (Nat.le_of_ble_eq_true rfl) rfl ?_
  refine Z_w (w' := zw h (cpR m A x B y 0)) (congrArg (zw h) (cpR_0 m A x B y).symm) ?_
  exact lX4_copies A B LA LB x y hA hB hsA hsB hAB hx hy hLA hLB 95 0 (by omega)

set_option maxRecDepth 100000 in
set_option maxHeartbeats 4000000 in
theorem zX4_of {G : zG} {l : Launch} {h : Nat → Nat} {m : zM} (i k : Nat) (hi : i < 8) (hk : k < 4) : zMet G l yX4_of mX4_of [.ref (G.1 + 74), .int (nI i), .int (nI k)] (zw h m) (fun r w => r = some (.int (m 75 (7 + 4 * i + k))) ∧ w = zw h m) 0 0 := by
  refine zMet_of [(0, .ref (G.1 + 74)), (1, .int (nI i)), (2, .int (nI k))] (by decide +kernel) rfl (Or.inl rfl) (Nat.le_of_ble_eq_true rfl) rfl ?_
  refine Z_aload_n 1 0 dX4_of_0 rfl rfl ?_
  refine Z_getR 4 dX4_of_1 rfl fX4_7 (Nat.le_of_ble_eq_true rfl) rfl rfl ?_
  refine Z_bipush 6 (nI 7) dX4_of_4 rfl rfl ?_
  refine Z_iconst 7 (nI 4) dX4_of_6 rfl rfl ?_
  refine Z_iload_n 8 1 dX4_of_7 rfl rfl ?_
  refine Z_imul 9 dX4_of_8 rfl ?_
  refine Z_iadd 10 dX4_of_9 rfl ?_
  refine Z_iload_n 11 2 dX4_of_10 rfl rfl ?_
  refine Z_iadd 12 dX4_of_11 rfl ?_
  refine Z_top (v' := .int (nI (7 + 4 * i + k))) (congrArg Value.int (ix4 7 i k)) ?_
  refine Z_ialn 13 dX4_of_12 rfl (Nat.le_of_ble_eq_true rfl) rfl (by first | assumption | omega) (by decide) ?_
  exact Z_iret dX4_of_13 rfl ⟨rfl, rfl⟩

set_option maxRecDepth 100000 in
set_option maxHeartbeats 4000000 in
theorem zX4_lays {G : zG} {l : Launch} {h : Nat → Nat} {m : zM} (i k : Nat) (hi : i < 8) (hk : k < 4) (v : Int32) : zMet G l yX4_lays mX4_lays [.ref (G.1 + 74), .int (nI i), .int (nI k), .int v] (zw h m) (fun r w => r = none ∧ w = zw h (up2 m 75 (7 + 4 * i + k) v)) 0 0 := by
  refine zMet_of [(0, .ref (G.1 + 74)), (1, .int (nI i)), (2, .int (nI k)), (3, .int v)] (by decide +kernel) rfl (Or.inl rfl) (Nat.le_of_ble_eq_true rfl) rfl ?_
  refine Z_aload_n 1 0 dX4_lays_0 rfl rfl ?_
  refine Z_getR 4 dX4_lays_1 rfl fX4_7 (Nat.le_of_ble_eq_true rfl) rfl rfl ?_
  refine Z_bipush 6 (nI 7) dX4_lays_4 rfl rfl ?_
  refine Z_iconst 7 (nI 4) dX4_lays_6 rfl rfl ?_
  refine Z_iload_n 8 1 dX4_lays_7 rfl rfl ?_
  refine Z_imul 9 dX4_lays_8 rfl ?_
  refine Z_iadd 10 dX4_lays_9 rfl ?_
  refine Z_iload_n 11 2 dX4_lays_10 rfl rfl ?_
  refine Z_iadd 12 dX4_lays_11 rfl ?_
  refine Z_top (v' := .int (nI (7 + 4 * i + k))) (congrArg Value.int (ix4 7 i k)) ?_
  refine Z_iload_n 13 3 dX4_lays_12 rfl rfl ?_
  refine Z_iasn 14 dX4_lays_13 rfl (Nat.le_of_ble_eq_true rfl) rfl (by first | assumption | omega) (by decide) ?_
  exact Z_vret dX4_lays_14 rfl ⟨rfl, rfl⟩

set_option maxRecDepth 100000 in
set_option maxHeartbeats 4000000 in
theorem zX4_ofTreaty {G : zG} {l : Launch} {h : Nat → Nat} {m : zM} (t k : Nat) (ht : t < 14) (hk : k < 4) : zMet G l yX4_ofTreaty mX4_ofTreaty [.ref (G.1 + 74), .int (nI t), .int (nI k)] (zw h m) (fun r w => r = some (.int (m 75 (39 + 4 * t + k))) ∧ w = zw h m) 0 0 := by
  refine zMet_of [(0, .ref (G.1 + 74)), (1, .int (nI t)), (2, .int (nI k))] (by decide +kernel) rfl (Or.inl rfl) (Nat.le_of_ble_eq_true rfl) rfl ?_
  refine Z_aload_n 1 0 dX4_ofTreaty_0 rfl rfl ?_
  refine Z_getR 4 dX4_ofTreaty_1 rfl fX4_7 (Nat.le_of_ble_eq_true rfl) rfl rfl ?_
  refine Z_bipush 6 (nI 39) dX4_ofTreaty_4 rfl rfl ?_
  refine Z_iconst 7 (nI 4) dX4_ofTreaty_6 rfl rfl ?_
  refine Z_iload_n 8 1 dX4_ofTreaty_7 rfl rfl ?_
  refine Z_imul 9 dX4_ofTreaty_8 rfl ?_
  refine Z_iadd 10 dX4_ofTreaty_9 rfl ?_
  refine Z_iload_n 11 2 dX4_ofTreaty_10 rfl rfl ?_
  refine Z_iadd 12 dX4_ofTreaty_11 rfl ?_
  refine Z_top (v' := .int (nI (39 + 4 * t + k))) (congrArg Value.int (ix4 39 t k)) ?_
  refine Z_ialn 13 dX4_ofTreaty_12 rfl (Nat.le_of_ble_eq_true rfl) rfl (by first | assumption | omega) (by decide) ?_
  exact Z_iret dX4_ofTreaty_13 rfl ⟨rfl, rfl⟩

set_option maxRecDepth 100000 in
set_option maxHeartbeats 4000000 in
theorem zX4_laysTreaty {G : zG} {l : Launch} {h : Nat → Nat} {m : zM} (t k : Nat) (ht : t < 14) (hk : k < 4) (v : Int32) : zMet G l yX4_laysTreaty mX4_laysTreaty [.ref (G.1 + 74), .int (nI t), .int (nI k), .int v] (zw h m) (fun r w => r = none ∧ w = zw h (up2 m 75 (39 + 4 * t + k) v)) 0 0 := by
  refine zMet_of [(0, .ref (G.1 + 74)), (1, .int (nI t)), (2, .int (nI k)), (3, .int v)] (by decide +kernel) rfl (Or.inl rfl) (Nat.le_of_ble_eq_true rfl) rfl ?_
  refine Z_aload_n 1 0 dX4_laysTreaty_0 rfl rfl ?_
  refine Z_getR 4 dX4_laysTreaty_1 rfl fX4_7 (Nat.le_of_ble_eq_true rfl) rfl rfl ?_
  refine Z_bipush 6 (nI 39) dX4_laysTreaty_4 rfl rfl ?_
  refine Z_iconst 7 (nI 4) dX4_laysTreaty_6 rfl rfl ?_
  refine Z_iload_n 8 1 dX4_laysTreaty_7 rfl rfl ?_
  refine Z_imul 9 dX4_laysTreaty_8 rfl ?_
  refine Z_iadd 10 dX4_laysTreaty_9 rfl ?_
  refine Z_iload_n 11 2 dX4_laysTreaty_10 rfl rfl ?_
  refine Z_iadd 12 dX4_laysTreaty_11 rfl ?_
  refine Z_top (v' := .int (nI (39 + 4 * t + k))) (congrArg Value.int (ix4 39 t k)) ?_
  refine Z_iload_n 13 3 dX4_laysTreaty_12 rfl rfl ?_
  refine Z_iasn 14 dX4_laysTreaty_13 rfl (Nat.le_of_ble_eq_true rfl) rfl (by first | assumption | omega) (by decide) ?_
  exact Z_vret dX4_laysTreaty_14 rfl ⟨rfl, rfl⟩

theorem bI_congr {A B : Prop} [Decidable A] [Decidable B] (h : A ↔ B) : bI A = bI B := by
  by_cases g : A
  · rw [bI_t g, bI_t (h.mp g)]
  · rw [bI_f g, bI_f (fun z => g (h.mpr z))]
theorem some_bI {A B : Prop} [Decidable A] [Decidable B] (h : A ↔ B) : some (Value.int (bI A)) = some (Value.int (bI B)) := by rw [bI_congr h]
theorem hdg7 {x : Int32} : (¬ x < nI 0 ∧ ¬ nI 7 < x) ↔ hdg x := by
  unfold hdg
  simp only [i32_lt]
  have h0 : (nI 0).toInt = 0 := rfl
  have h1 : (nI 7).toInt = 7 := rfl
  have h2 : (nI 8).toInt = 8 := rfl
  have h3 : (0 : Int32).toInt = 0 := rfl
  omega
theorem trn1 {x : Int32} {n : Nat} (hn : n ≤ 14) : (¬ x < nI 0 ∧ ¬ nI n - nI 1 < x) ↔ (¬ x < 0 ∧ x < nI n) := by
  have h0 : (nI 0).toInt = 0 := rfl
  have h1 : (nI 1).toInt = 1 := rfl
  have h3 : (0 : Int32).toInt = 0 := rfl
  have h2 : (nI n).toInt = n := nI_toInt (by omega)
  have h4 : (nI n - nI 1).toInt = (nI n).toInt - (nI 1).toInt := i32_sub (by omega) (by omega)
  simp only [i32_lt]
  omega
set_option maxRecDepth 100000 in
set_option maxHeartbeats 4000000 in
theorem zX4_isHedge {G : zG} {l : Launch} {h : Nat → Nat} {m : zM} (x : Int32) : zMet G l yX4_isHedge mX4_isHedge [.int x] (zw h m) (fun r w => r = some (.int (bI (hdg x))) ∧ w = zw h m) 0 0 := by
  refine zMet_of [(0, .int x)] (by decide +kernel) rfl (Or.inl rfl) (Nat.le_of_ble_eq_true rfl) rfl ?_
  refine Z_iload_n 1 0 dX4_isHedge_0 rfl rfl ?_
  refine Z_iconst 2 (nI 0) dX4_isHedge_1 rfl rfl ?_
  refine Z_bipush 4 (nI 7) dX4_isHedge_2 rfl rfl ?_
  refine Z_callS 7 [_, _, _] (zX4_in _ _ _) dX4_isHedge_4 rfl qX4_46 kX4_in rfl rfl ⟨(Nat.le_of_ble_eq_true rfl), (Nat.le_of_ble_eq_true rfl)⟩ (Nat.le_of_ble_eq_true rfl) ⟨rfl, rfl⟩ ⟨(Nat.le_of_ble_eq_true rfl), (Nat.le_of_ble_eq_true rfl)⟩ (fun r9 w9 hp9 => ?_)
  obtain ⟨rfl, rfl⟩ := hp9
  exact Z_zret dX4_isHedge_7 rfl (by first | exact Or.inl rfl | exact Or.inr rfl | exact bI_01) ⟨some_bI hdg7, rfl⟩

set_option maxRecDepth 100000 in
set_option maxHeartbeats 4000000 in
theorem zX4_isTreaty {G : zG} {l : Launch} {h : Nat → Nat} {m : zM} (n : Nat) (hk : m 75 2 = nI n) (hn : n ≤ 14) (x : Int32) : zMet G l yX4_isTreaty mX4_isTreaty [.ref (G.1 + 74), .int x] (zw h m) (fun r w => r = some (.int (bI (¬ x < 0 ∧ x < nI n))) ∧ w = zw h m) 0 0 := by
  refine zMet_of [(0, .ref (G.1 + 74)), (1, .int x)] (by decide +kernel) rfl (Or.inl rfl) (Nat.le_of_ble_eq_true rfl) rfl ?_
  refine Z_iload_n 1 1 dX4_isTreaty_0 rfl rfl ?_
  refine Z_iconst 2 (nI 0) dX4_isTreaty_1 rfl rfl ?_
  refine Z_aload_n 3 0 dX4_isTreaty_2 rfl rfl ?_
  refine Z_getR 6 dX4_isTreaty_3 rfl fX4_7 (Nat.le_of_ble_eq_true rfl) rfl rfl ?_
  refine Z_iconst 7 (nI 2) dX4_isTreaty_6 rfl rfl ?_
  refine Z_ialn 8 dX4_isTreaty_7 rfl (Nat.le_of_ble_eq_true rfl) rfl (by first | assumption | omega) (by decide) ?_
  refine Z_top (congrArg Value.int hk) ?_
  refine Z_iconst 9 (nI 1) dX4_isTreaty_8 rfl rfl ?_
  refine Z_isub 10 dX4_isTreaty_9 rfl ?_
  refine Z_callS 13 [_, _, _] (zX4_in _ _ _) dX4_isTreaty_10 rfl qX4_46 kX4_in rfl rfl ⟨(Nat.le_of_ble_eq_true rfl), (Nat.le_of_ble_eq_true rfl)⟩ (Nat.le_of_ble_eq_true rfl) ⟨rfl, rfl⟩ ⟨(Nat.le_of_ble_eq_true rfl), (Nat.le_of_ble_eq_true rfl)⟩ (fun r9 w9 hp9 => ?_)
  obtain ⟨rfl, rfl⟩ := hp9
  exact Z_zret dX4_isTreaty_13 rfl (by first | exact Or.inl rfl | exact Or.inr rfl | exact bI_01) ⟨some_bI (trn1 hn), rfl⟩

set_option maxRecDepth 100000 in
set_option maxHeartbeats 4000000 in
theorem zX4_isPair {G : zG} {l : Launch} {h : Nat → Nat} {m : zM} (x y : Int32) : zMet G l yX4_isPair mX4_isPair [.int x, .int y] (zw h m) (fun r w => r = some (.int (bI (hdg x ∧ hdg y ∧ ¬ x = y))) ∧ w = zw h m) 0 0 := by
  refine zMet_of [(0, .int x), (1, .int y)] (by decide +kernel) rfl (Or.inl rfl) (Nat.le_of_ble_eq_true rfl) rfl ?_
  refine Z_iload_n 1 0 dX4_isPair_0 rfl rfl ?_
  refine Z_callS 4 [_] (zX4_isHedge _) dX4_isPair_1 rfl qX4_87 kX4_isHedge rfl rfl ⟨(Nat.le_of_ble_eq_true rfl), (Nat.le_of_ble_eq_true rfl)⟩ (Nat.le_of_ble_eq_true rfl) ⟨rfl, rfl⟩ ⟨(Nat.le_of_ble_eq_true rfl), (Nat.le_of_ble_eq_true rfl)⟩ (fun r9 w9 hp9 => ?_)
  obtain ⟨rfl, rfl⟩ := hp9
  refine Z_if_eq 7 23 dX4_isPair_4 rfl rfl (fun c4 => ?_) (fun c4 => ?_)
  · skip
    refine Z_iconst 24 (nI 0) dX4_isPair_23 rfl rfl ?_
    exact Z_zret dX4_isPair_24 rfl (by first | exact Or.inl rfl | exact Or.inr rfl | exact bI_01) (by first | exact ⟨bRf (fun q => bI_0 c4 q.1), rfl⟩ | exact ⟨bRf (fun q => bI_0 c11 q.2.1), rfl⟩ | exact ⟨bRf (fun q => q.2.2 c16), rfl⟩ | exact ⟨bRt (⟨bI_1 c4, bI_1 c11, c16⟩), rfl⟩)
  · skip
    refine Z_iload_n 8 1 dX4_isPair_7 rfl rfl ?_
    refine Z_callS 11 [_] (zX4_isHedge _) dX4_isPair_8 rfl qX4_87 kX4_isHedge rfl rfl ⟨(Nat.le_of_ble_eq_true rfl), (Nat.le_of_ble_eq_true rfl)⟩ (Nat.le_of_ble_eq_true rfl) ⟨rfl, rfl⟩ ⟨(Nat.le_of_ble_eq_true rfl), (Nat.le_of_ble_eq_true rfl)⟩ (fun r9 w9 hp9 => ?_)
    obtain ⟨rfl, rfl⟩ := hp9
    refine Z_if_eq 14 23 dX4_isPair_11 rfl rfl (fun c11 => ?_) (fun c11 => ?_)
    · skip
      refine Z_iconst 24 (nI 0) dX4_isPair_23 rfl rfl ?_
      exact Z_zret dX4_isPair_24 rfl (by first | exact Or.inl rfl | exact Or.inr rfl | exact bI_01) (by first | exact ⟨bRf (fun q => bI_0 c4 q.1), rfl⟩ | exact ⟨bRf (fun q => bI_0 c11 q.2.1), rfl⟩ | exact ⟨bRf (fun q => q.2.2 c16), rfl⟩ | exact ⟨bRt (⟨bI_1 c4, bI_1 c11, c16⟩), rfl⟩)
    · skip
      refine Z_iload_n 15 0 dX4_isPair_14 rfl rfl ?_
      refine Z_iload_n 16 1 dX4_isPair_15 rfl rfl ?_
      refine Z_icmp_eq 19 23 dX4_isPair_16 rfl rfl (fun c16 => ?_) (fun c16 => ?_)
      · skip
        refine Z_iconst 24 (nI 0) dX4_isPair_23 rfl rfl ?_
        exact Z_zret dX4_isPair_24 rfl (by first | exact Or.inl rfl | exact Or.inr rfl | exact bI_01) (by first | exact ⟨bRf (fun q => bI_0 c4 q.1), rfl⟩ | exact ⟨bRf (fun q => bI_0 c11 q.2.1), rfl⟩ | exact ⟨bRf (fun q => q.2.2 c16), rfl⟩ | exact ⟨bRt (⟨bI_1 c4, bI_1 c11, c16⟩), rfl⟩)
      · skip
        refine Z_iconst 20 (nI 1) dX4_isPair_19 rfl rfl ?_
        refine Z_goto 24 dX4_isPair_20 rfl ?_
        exact Z_zret dX4_isPair_24 rfl (by first | exact Or.inl rfl | exact Or.inr rfl | exact bI_01) (by first | exact ⟨bRf (fun q => bI_0 c4 q.1), rfl⟩ | exact ⟨bRf (fun q => bI_0 c11 q.2.1), rfl⟩ | exact ⟨bRf (fun q => q.2.2 c16), rfl⟩ | exact ⟨bRt (⟨bI_1 c4, bI_1 c11, c16⟩), rfl⟩)

set_option maxRecDepth 100000 in
set_option maxHeartbeats 4000000 in
theorem zX4_refuses {G : zG} {l : Launch} {h : Nat → Nat} {m : zM} (x : Int32) : zMet G l yX4_refuses mX4_refuses [.ref (G.1 + 74), .int x] (zw h m) (fun r w => r = some (.int x) ∧ w = zw h (up2 m 75 4 (m 75 4 + nI 1))) 0 0 := by
  refine zMet_of [(0, .ref (G.1 + 74)), (1, .int x)] (by decide +kernel) rfl (Or.inl rfl) (Nat.le_of_ble_eq_true rfl) rfl ?_
  refine Z_aload_n 1 0 dX4_refuses_0 rfl rfl ?_
  refine Z_getR 4 dX4_refuses_1 rfl fX4_7 (Nat.le_of_ble_eq_true rfl) rfl rfl ?_
  refine Z_iconst 5 (nI 4) dX4_refuses_4 rfl rfl ?_
  refine Z_dup2 6 dX4_refuses_5 rfl rfl rfl ?_
  refine Z_ialn 7 dX4_refuses_6 rfl (Nat.le_of_ble_eq_true rfl) rfl (by first | assumption | omega) (by decide) ?_
  refine Z_iconst 8 (nI 1) dX4_refuses_7 rfl rfl ?_
  refine Z_iadd 9 dX4_refuses_8 rfl ?_
  refine Z_iasn 10 dX4_refuses_9 rfl (Nat.le_of_ble_eq_true rfl) rfl (by first | assumption | omega) (by decide) ?_
  refine Z_iload_n 11 1 dX4_refuses_10 rfl rfl ?_
  exact Z_iret dX4_refuses_11 rfl ⟨rfl, rfl⟩

theorem esg4 {n : Nat} {f o d : Int32} (hn : n ≤ 14) : (¬ (hdg f ∧ hdg o ∧ ¬ f = o) → esg n f o d = -1) ∧ (¬ (¬ d < -30 ∧ ¬ nI 60 < d) → esg n f o d = -1) ∧ ((hdg f ∧ hdg o ∧ ¬ f = o) → (¬ d < -30 ∧ ¬ nI 60 < d) → (nI n = nI 14 → esg n f o d = -3) ∧ (¬ nI n = nI 14 → esg n f o d = nI 0)) := by
  refine ⟨fun g => if_neg (fun z => g ⟨z.1, z.2.1, z.2.2.1⟩), fun g => if_neg (fun z => g ⟨z.2.2.2.1, z.2.2.2.2⟩), fun g1 g2 => ?_⟩
  have e : esg n f o d = if nI n < nI 14 then nI 0 else -3 := if_pos ⟨g1.1, g1.2.1, g1.2.2, g2.1, g2.2⟩
  rw [e, nI_eq (by omega) (by omega)]
  refine ⟨fun q => if_neg ?_, fun q => if_pos ?_⟩
  · rw [q]
    decide
  · exact nI_lt (by omega) (by decide)
set_option maxRecDepth 100000 in
set_option maxHeartbeats 4000000 in
theorem zX4_errorOfSign {G : zG} {l : Launch} {h : Nat → Nat} {m : zM} (n : Nat) (hk : m 75 2 = nI n) (hn : n ≤ 14) (x y d : Int32) : zMet G l yX4_errorOfSign mX4_errorOfSign [.ref (G.1 + 74), .int x, .int y, .int d] (zw h m) (fun r w => r = some (.int (esg n x y d)) ∧ w = zw h m) 0 0 := by
  refine zMet_of [(0, .ref (G.1 + 74)), (1, .int x), (2, .int y), (3, .int d)] (by decide +kernel) rfl (Or.inl rfl) (Nat.le_of_ble_eq_true rfl) rfl ?_
  refine Z_iload_n 1 1 dX4_errorOfSign_0 rfl rfl ?_
  refine Z_iload_n 2 2 dX4_errorOfSign_1 rfl rfl ?_
  refine Z_callS 5 [_, _] (zX4_isPair _ _) dX4_errorOfSign_2 rfl qX4_90 kX4_isPair rfl rfl ⟨(Nat.le_of_ble_eq_true rfl), (Nat.le_of_ble_eq_true rfl)⟩ (Nat.le_of_ble_eq_true rfl) ⟨rfl, rfl⟩ ⟨(Nat.le_of_ble_eq_true rfl), (Nat.le_of_ble_eq_true rfl)⟩ (fun r9 w9 hp9 => ?_)
  obtain ⟨rfl, rfl⟩ := hp9
  refine Z_if_eq 8 19 dX4_errorOfSign_5 rfl rfl (fun c5 => ?_) (fun c5 => ?_)
  · skip
    refine Z_iconst 20 (-1) dX4_errorOfSign_19 rfl rfl ?_
    exact Z_iret dX4_errorOfSign_20 rfl ⟨congrArg (fun q => some (Value.int q)) (by first | exact ((esg4 hn).1 (bI_0 c5)).symm | exact ((esg4 hn).2.1 (bI_0 c16)).symm | exact (((esg4 hn).2.2 (bI_1 c5) (bI_1 c16)).1 (Decidable.not_not.mp c29)).symm | exact (((esg4 hn).2.2 (bI_1 c5) (bI_1 c16)).2 c29).symm | exact ((esg4 hn).2.1 (bI_0 (Decidable.not_not.mp c16))).symm), rfl⟩
  · skip
    refine Z_iload_n 9 3 dX4_errorOfSign_8 rfl rfl ?_
    refine Z_bipush 11 (-30) dX4_errorOfSign_9 rfl rfl ?_
    refine Z_bipush 13 (nI 60) dX4_errorOfSign_11 rfl rfl ?_
    refine Z_callS 16 [_, _, _] (zX4_in _ _ _) dX4_errorOfSign_13 rfl qX4_46 kX4_in rfl rfl ⟨(Nat.le_of_ble_eq_true rfl), (Nat.le_of_ble_eq_true rfl)⟩ (Nat.le_of_ble_eq_true rfl) ⟨rfl, rfl⟩ ⟨(Nat.le_of_ble_eq_true rfl), (Nat.le_of_ble_eq_true rfl)⟩ (fun r9 w9 hp9 => ?_)
    obtain ⟨rfl, rfl⟩ := hp9
    refine Z_if_ne 19 21 dX4_errorOfSign_16 rfl rfl (fun c16 => ?_) (fun c16 => ?_)
    · skip
      refine Z_aload_n 22 0 dX4_errorOfSign_21 rfl rfl ?_
      refine Z_getR 25 dX4_errorOfSign_22 rfl fX4_7 (Nat.le_of_ble_eq_true rfl) rfl rfl ?_
      refine Z_iconst 26 (nI 2) dX4_errorOfSign_25 rfl rfl ?_
      refine Z_ialn 27 dX4_errorOfSign_26 rfl (Nat.le_of_ble_eq_true rfl) rfl (by first | assumption | omega) (by decide) ?_
      refine Z_top (congrArg Value.int hk) ?_
      refine Z_bipush 29 (nI 14) dX4_errorOfSign_27 rfl rfl ?_
      refine Z_icmp_ne 32 37 dX4_errorOfSign_29 rfl rfl (fun c29 => ?_) (fun c29 => ?_)
      · skip
        refine Z_iconst 38 (nI 0) dX4_errorOfSign_37 rfl rfl ?_
        exact Z_iret dX4_errorOfSign_38 rfl ⟨congrArg (fun q => some (Value.int q)) (by first | exact ((esg4 hn).1 (bI_0 c5)).symm | exact ((esg4 hn).2.1 (bI_0 c16)).symm | exact (((esg4 hn).2.2 (bI_1 c5) (bI_1 c16)).1 (Decidable.not_not.mp c29)).symm | exact (((esg4 hn).2.2 (bI_1 c5) (bI_1 c16)).2 c29).symm | exact ((esg4 hn).2.1 (bI_0 (Decidable.not_not.mp c16))).symm), rfl⟩
      · skip
        refine Z_bipush 34 (-3) dX4_errorOfSign_32 rfl rfl ?_
        refine Z_goto 38 dX4_errorOfSign_34 rfl ?_
        exact Z_iret dX4_errorOfSign_38 rfl ⟨congrArg (fun q => some (Value.int q)) (by first | exact ((esg4 hn).1 (bI_0 c5)).symm | exact ((esg4 hn).2.1 (bI_0 c16)).symm | exact (((esg4 hn).2.2 (bI_1 c5) (bI_1 c16)).1 (Decidable.not_not.mp c29)).symm | exact (((esg4 hn).2.2 (bI_1 c5) (bI_1 c16)).2 c29).symm | exact ((esg4 hn).2.1 (bI_0 (Decidable.not_not.mp c16))).symm), rfl⟩
    · skip
      refine Z_iconst 20 (-1) dX4_errorOfSign_19 rfl rfl ?_
      exact Z_iret dX4_errorOfSign_20 rfl ⟨congrArg (fun q => some (Value.int q)) (by first | exact ((esg4 hn).1 (bI_0 c5)).symm | exact ((esg4 hn).2.1 (bI_0 c16)).symm | exact (((esg4 hn).2.2 (bI_1 c5) (bI_1 c16)).1 (Decidable.not_not.mp c29)).symm | exact (((esg4 hn).2.2 (bI_1 c5) (bI_1 c16)).2 c29).symm | exact ((esg4 hn).2.1 (bI_0 (Decidable.not_not.mp c16))).symm), rfl⟩

set_option maxRecDepth 100000 in
set_option maxHeartbeats 4000000 in
theorem zX4_isNested {G : zG} {l : Launch} {h : Nat → Nat} {m : zM} (i : Nat) (hi : i < 8) : zMet G l yX4_isNested mX4_isNested [.ref (G.1 + 74), .int (nI i)] (zw h m) (fun r w => r = some (.int (bI (sNest (vR (m 75)) 1 i))) ∧ w = zw h m) 0 0 := by
  refine zMet_of [(0, .ref (G.1 + 74)), (1, .int (nI i))] (by decide +kernel) rfl (Or.inl rfl) (Nat.le_of_ble_eq_true rfl) rfl ?_
  refine Z_aload_n 1 0 dX4_isNested_0 rfl rfl ?_
  refine Z_getR 4 dX4_isNested_1 rfl fX4_7 (Nat.le_of_ble_eq_true rfl) rfl rfl ?_
  refine Z_iconst 5 (nI 0) dX4_isNested_4 rfl rfl ?_
  refine Z_ialn 6 dX4_isNested_5 rfl (Nat.le_of_ble_eq_true rfl) rfl (by first | assumption | omega) (by decide) ?_
  refine Z_aload_n 7 0 dX4_isNested_6 rfl rfl ?_
  refine Z_iload_n 8 1 dX4_isNested_7 rfl rfl ?_
  refine Z_iconst 9 (nI 2) dX4_isNested_8 rfl rfl ?_
  refine Z_callV 12 [_, _] 4 (zX4_of i 2 hi (by decide)) dX4_isNested_9 rfl qX4_50 kX4_of rfl rfl (Nat.le_of_ble_eq_true rfl) rfl rfl ⟨(Nat.le_of_ble_eq_true rfl), (Nat.le_of_ble_eq_true rfl)⟩ (Nat.le_of_ble_eq_true rfl) ⟨rfl, rfl⟩ ⟨(Nat.le_of_ble_eq_true rfl), (Nat.le_of_ble_eq_true rfl)⟩ (fun r9 w9 hp9 => ?_)
  obtain ⟨rfl, rfl⟩ := hp9
  refine Z_icmp_ge 15 19 dX4_isNested_12 rfl rfl (fun c12 => ?_) (fun c12 => ?_)
  · skip
    refine Z_iconst 20 (nI 0) dX4_isNested_19 rfl rfl ?_
    exact Z_zret dX4_isNested_20 rfl (by first | exact Or.inl rfl | exact Or.inr rfl | exact bI_01) (by first | exact ⟨bRf (p := sNest (vR (m 75)) 1 i) (Int32.not_lt.mpr c12), rfl⟩ | exact ⟨bRt (p := sNest (vR (m 75)) 1 i) (Int32.not_le.mp c12), rfl⟩)
  · skip
    refine Z_iconst 16 (nI 1) dX4_isNested_15 rfl rfl ?_
    refine Z_goto 20 dX4_isNested_16 rfl ?_
    exact Z_zret dX4_isNested_20 rfl (by first | exact Or.inl rfl | exact Or.inr rfl | exact bI_01) (by first | exact ⟨bRf (p := sNest (vR (m 75)) 1 i) (Int32.not_lt.mpr c12), rfl⟩ | exact ⟨bRt (p := sNest (vR (m 75)) 1 i) (Int32.not_le.mp c12), rfl⟩)

set_option maxRecDepth 100000 in
set_option maxHeartbeats 4000000 in
theorem zX4_isForce {G : zG} {l : Launch} {h : Nat → Nat} {m : zM} (t : Nat) (ht : t < 14) : zMet G l yX4_isForce mX4_isForce [.ref (G.1 + 74), .int (nI t)] (zw h m) (fun r w => r = some (.int (bI (sForce (vR (m 75)) 1 t))) ∧ w = zw h m) 0 0 := by
  refine zMet_of [(0, .ref (G.1 + 74)), (1, .int (nI t))] (by decide +kernel) rfl (Or.inl rfl) (Nat.le_of_ble_eq_true rfl) rfl ?_
  refine Z_aload_n 1 0 dX4_isForce_0 rfl rfl ?_
  refine Z_getR 4 dX4_isForce_1 rfl fX4_7 (Nat.le_of_ble_eq_true rfl) rfl rfl ?_
  refine Z_iconst 5 (nI 0) dX4_isForce_4 rfl rfl ?_
  refine Z_ialn 6 dX4_isForce_5 rfl (Nat.le_of_ble_eq_true rfl) rfl (by first | assumption | omega) (by decide) ?_
  refine Z_aload_n 7 0 dX4_isForce_6 rfl rfl ?_
  refine Z_iload_n 8 1 dX4_isForce_7 rfl rfl ?_
  refine Z_iconst 9 (nI 3) dX4_isForce_8 rfl rfl ?_
  refine Z_callV 12 [_, _] 4 (zX4_ofTreaty t 3 ht (by decide)) dX4_isForce_9 rfl qX4_54 kX4_ofTreaty rfl rfl (Nat.le_of_ble_eq_true rfl) rfl rfl ⟨(Nat.le_of_ble_eq_true rfl), (Nat.le_of_ble_eq_true rfl)⟩ (Nat.le_of_ble_eq_true rfl) ⟨rfl, rfl⟩ ⟨(Nat.le_of_ble_eq_true rfl), (Nat.le_of_ble_eq_true rfl)⟩ (fun r9 w9 hp9 => ?_)
  obtain ⟨rfl, rfl⟩ := hp9
  refine Z_icmp_lt 15 19 dX4_isForce_12 rfl rfl (fun c12 => ?_) (fun c12 => ?_)
  · skip
    refine Z_iconst 20 (nI 0) dX4_isForce_19 rfl rfl ?_
    exact Z_zret dX4_isForce_20 rfl (by first | exact Or.inl rfl | exact Or.inr rfl | exact bI_01) (by first | exact ⟨bRf (p := sForce (vR (m 75)) 1 t) (Int32.not_le.mpr c12), rfl⟩ | exact ⟨bRt (p := sForce (vR (m 75)) 1 t) (Int32.not_lt.mp c12), rfl⟩)
  · skip
    refine Z_iconst 16 (nI 1) dX4_isForce_15 rfl rfl ?_
    refine Z_goto 20 dX4_isForce_16 rfl ?_
    exact Z_zret dX4_isForce_20 rfl (by first | exact Or.inl rfl | exact Or.inr rfl | exact bI_01) (by first | exact ⟨bRf (p := sForce (vR (m 75)) 1 t) (Int32.not_le.mpr c12), rfl⟩ | exact ⟨bRt (p := sForce (vR (m 75)) 1 t) (Int32.not_lt.mp c12), rfl⟩)

set_option maxRecDepth 100000 in
set_option maxHeartbeats 4000000 in
theorem zX4_slackOf {G : zG} {l : Launch} {h : Nat → Nat} {m : zM} (n : Nat) (hk : sOk (vR (m 75)) 1 n) (t : Nat) (ht : t < n) : zMet G l yX4_slackOf mX4_slackOf [.ref (G.1 + 74), .int (nI t)] (zw h m) (fun r w => r = some (.int (slk (vR (m 75)) t)) ∧ w = zw h m) 0 0 := by
  refine zMet_of [(0, .ref (G.1 + 74)), (1, .int (nI t))] (by decide +kernel) rfl (Or.inl rfl) (Nat.le_of_ble_eq_true rfl) rfl ?_
  obtain ⟨-, hn, hk⟩ := hk
  obtain ⟨⟨ef, hf⟩, ⟨eo, ho⟩⟩ := hk t ht
  have ht9 : t < 14 := by omega
  refine Z_aload_n 1 0 dX4_slackOf_0 rfl rfl ?_
  refine Z_iload_n 2 1 dX4_slackOf_1 rfl rfl ?_
  refine Z_iconst 3 (nI 2) dX4_slackOf_2 rfl rfl ?_
  refine Z_callV 6 [_, _] 4 (zX4_ofTreaty t 2 ht9 (by decide)) dX4_slackOf_3 rfl qX4_54 kX4_ofTreaty rfl rfl (Nat.le_of_ble_eq_true rfl) rfl rfl ⟨(Nat.le_of_ble_eq_true rfl), (Nat.le_of_ble_eq_true rfl)⟩ (Nat.le_of_ble_eq_true rfl) ⟨rfl, rfl⟩ ⟨(Nat.le_of_ble_eq_true rfl), (Nat.le_of_ble_eq_true rfl)⟩ (fun r9 w9 hp9 => ?_)
  obtain ⟨rfl, rfl⟩ := hp9
  refine Z_aload_n 7 0 dX4_slackOf_6 rfl rfl ?_
  refine Z_aload_n 8 0 dX4_slackOf_7 rfl rfl ?_
  refine Z_iload_n 9 1 dX4_slackOf_8 rfl rfl ?_
  refine Z_iconst 10 (nI 1) dX4_slackOf_9 rfl rfl ?_
  refine Z_callV 13 [_, _] 4 (zX4_ofTreaty t 1 ht9 (by decide)) dX4_slackOf_10 rfl qX4_54 kX4_ofTreaty rfl rfl (Nat.le_of_ble_eq_true rfl) rfl rfl ⟨(Nat.le_of_ble_eq_true rfl), (Nat.le_of_ble_eq_true rfl)⟩ (Nat.le_of_ble_eq_true rfl) ⟨rfl, rfl⟩ ⟨(Nat.le_of_ble_eq_true rfl), (Nat.le_of_ble_eq_true rfl)⟩ (fun r9 w9 hp9 => ?_)
  obtain ⟨rfl, rfl⟩ := hp9
  refine Z_top (v' := .int (nI (sO (vR (m 75)) 1 t))) (congrArg Value.int eo) ?_
  refine Z_iconst 14 (nI 0) dX4_slackOf_13 rfl rfl ?_
  refine Z_callV 17 [_, _] 4 (zX4_of _ 0 ho (by decide)) dX4_slackOf_14 rfl qX4_50 kX4_of rfl rfl (Nat.le_of_ble_eq_true rfl) rfl rfl ⟨(Nat.le_of_ble_eq_true rfl), (Nat.le_of_ble_eq_true rfl)⟩ (Nat.le_of_ble_eq_true rfl) ⟨rfl, rfl⟩ ⟨(Nat.le_of_ble_eq_true rfl), (Nat.le_of_ble_eq_true rfl)⟩ (fun r9 w9 hp9 => ?_)
  obtain ⟨rfl, rfl⟩ := hp9
  refine Z_iadd 18 dX4_slackOf_17 rfl ?_
  refine Z_aload_n 19 0 dX4_slackOf_18 rfl rfl ?_
  refine Z_aload_n 20 0 dX4_slackOf_19 rfl rfl ?_
  refine Z_iload_n 21 1 dX4_slackOf_20 rfl rfl ?_
  refine Z_iconst 22 (nI 0) dX4_slackOf_21 rfl rfl ?_
  refine Z_callV 25 [_, _] 4 (zX4_ofTreaty t 0 ht9 (by decide)) dX4_slackOf_22 rfl qX4_54 kX4_ofTreaty rfl rfl (Nat.le_of_ble_eq_true rfl) rfl rfl ⟨(Nat.le_of_ble_eq_true rfl), (Nat.le_of_ble_eq_true rfl)⟩ (Nat.le_of_ble_eq_true rfl) ⟨rfl, rfl⟩ ⟨(Nat.le_of_ble_eq_true rfl), (Nat.le_of_ble_eq_true rfl)⟩ (fun r9 w9 hp9 => ?_)
  obtain ⟨rfl, rfl⟩ := hp9
  refine Z_top (v' := .int (nI (sF (vR (m 75)) 1 t))) (congrArg Value.int ef) ?_
  refine Z_iconst 26 (nI 0) dX4_slackOf_25 rfl rfl ?_
  refine Z_callV 29 [_, _] 4 (zX4_of _ 0 hf (by decide)) dX4_slackOf_26 rfl qX4_50 kX4_of rfl rfl (Nat.le_of_ble_eq_true rfl) rfl rfl ⟨(Nat.le_of_ble_eq_true rfl), (Nat.le_of_ble_eq_true rfl)⟩ (Nat.le_of_ble_eq_true rfl) ⟨rfl, rfl⟩ ⟨(Nat.le_of_ble_eq_true rfl), (Nat.le_of_ble_eq_true rfl)⟩ (fun r9 w9 hp9 => ?_)
  obtain ⟨rfl, rfl⟩ := hp9
  refine Z_isub 30 dX4_slackOf_29 rfl ?_
  exact Z_iret dX4_slackOf_30 rfl ⟨rfl, rfl⟩

set_option maxRecDepth 100000 in
set_option maxHeartbeats 4000000 in
theorem zX4_isBroken {G : zG} {l : Launch} {h : Nat → Nat} {m : zM} (n : Nat) (hk : sOk (vR (m 75)) 1 n) (t : Nat) (ht : t < n) : zMet G l yX4_isBroken mX4_isBroken [.ref (G.1 + 74), .int (nI t)] (zw h m) (fun r w => r = some (.int (bI (bkV (vR (m 75)) t))) ∧ w = zw h m) 0 0 := by
  refine zMet_of [(0, .ref (G.1 + 74)), (1, .int (nI t))] (by decide +kernel) rfl (Or.inl rfl) (Nat.le_of_ble_eq_true rfl) rfl ?_
  have ht9 : t < 14 := by have := hk.2.1; omega
  refine Z_aload_n 1 0 dX4_isBroken_0 rfl rfl ?_
  refine Z_iload_n 2 1 dX4_isBroken_1 rfl rfl ?_
  refine Z_callV 5 [_] 4 (zX4_isForce t ht9) dX4_isBroken_2 rfl qX4_57 kX4_isForce rfl rfl (Nat.le_of_ble_eq_true rfl) rfl rfl ⟨(Nat.le_of_ble_eq_true rfl), (Nat.le_of_ble_eq_true rfl)⟩ (Nat.le_of_ble_eq_true rfl) ⟨rfl, rfl⟩ ⟨(Nat.le_of_ble_eq_true rfl), (Nat.le_of_ble_eq_true rfl)⟩ (fun r9 w9 hp9 => ?_)
  obtain ⟨rfl, rfl⟩ := hp9
  refine Z_if_eq 8 20 dX4_isBroken_5 rfl rfl (fun c5 => ?_) (fun c5 => ?_)
  · skip
    refine Z_iconst 21 (nI 0) dX4_isBroken_20 rfl rfl ?_
    exact Z_zret dX4_isBroken_21 rfl (by first | exact Or.inl rfl | exact Or.inr rfl | exact bI_01) (by first | exact ⟨bRf (fun q => bI_0 c5 q.1), rfl⟩ | exact ⟨bRf (fun q => absurd q.2 (Int32.not_lt.mpr c13)), rfl⟩ | exact ⟨bRt (⟨bI_1 c5, Int32.not_le.mp c13⟩), rfl⟩)
  · skip
    refine Z_aload_n 9 0 dX4_isBroken_8 rfl rfl ?_
    refine Z_iload_n 10 1 dX4_isBroken_9 rfl rfl ?_
    refine Z_callV 13 [_] 4 (zX4_slackOf n hk t ht) dX4_isBroken_10 rfl qX4_61 kX4_slackOf rfl rfl (Nat.le_of_ble_eq_true rfl) rfl rfl ⟨(Nat.le_of_ble_eq_true rfl), (Nat.le_of_ble_eq_true rfl)⟩ (Nat.le_of_ble_eq_true rfl) ⟨rfl, rfl⟩ ⟨(Nat.le_of_ble_eq_true rfl), (Nat.le_of_ble_eq_true rfl)⟩ (fun r9 w9 hp9 => ?_)
    obtain ⟨rfl, rfl⟩ := hp9
    refine Z_if_ge 16 20 dX4_isBroken_13 rfl rfl (fun c13 => ?_) (fun c13 => ?_)
    · skip
      refine Z_iconst 21 (nI 0) dX4_isBroken_20 rfl rfl ?_
      exact Z_zret dX4_isBroken_21 rfl (by first | exact Or.inl rfl | exact Or.inr rfl | exact bI_01) (by first | exact ⟨bRf (fun q => bI_0 c5 q.1), rfl⟩ | exact ⟨bRf (fun q => absurd q.2 (Int32.not_lt.mpr c13)), rfl⟩ | exact ⟨bRt (⟨bI_1 c5, Int32.not_le.mp c13⟩), rfl⟩)
    · skip
      refine Z_iconst 17 (nI 1) dX4_isBroken_16 rfl rfl ?_
      refine Z_goto 21 dX4_isBroken_17 rfl ?_
      exact Z_zret dX4_isBroken_21 rfl (by first | exact Or.inl rfl | exact Or.inr rfl | exact bI_01) (by first | exact ⟨bRf (fun q => bI_0 c5 q.1), rfl⟩ | exact ⟨bRf (fun q => absurd q.2 (Int32.not_lt.mpr c13)), rfl⟩ | exact ⟨bRt (⟨bI_1 c5, Int32.not_le.mp c13⟩), rfl⟩)

set_option maxRecDepth 100000 in
set_option maxHeartbeats 4000000 in
theorem lX4_brokenOnes {G : zG} {l : Launch} {h : Nat → Nat} {m : zM} (n : Nat) (hk : sOk (vR (m 75)) 1 n) : ∀ (t i : Nat), i + t = n → Z G mX4_brokenOnes (fun _ => True) (zN G (fun r w => r = some (.int (nI (cnt (fun j => decide (bkV (vR (m 75)) j)) n))) ∧ w = zw h m) 0 0) l 0 0 (zw h m) 4 [(2, .int (nI i)), (1, .int (nI (cnt (fun j => decide (bkV (vR (m 75)) j)) i))), (0, .ref (G.1 + 74))] [] := by
  intro t
  induction t with
  | zero =>
    intro i hi
    have e9 : i = n := by omega
    subst e9
    have hn14 := hk.2.1
    refine Z_iload_n 5 0 dX4_brokenOnes_4 rfl rfl ?_
    refine Z_aload_n 6 2 dX4_brokenOnes_5 rfl rfl ?_
    refine Z_getR 9 dX4_brokenOnes_6 rfl fX4_7 (Nat.le_of_ble_eq_true rfl) rfl rfl ?_
    refine Z_iconst 10 (nI 2) dX4_brokenOnes_9 rfl rfl ?_
    refine Z_ialn 11 dX4_brokenOnes_10 rfl (Nat.le_of_ble_eq_true rfl) rfl (by first | assumption | omega) (by decide) ?_
    refine Z_top (congrArg Value.int hk.1) ?_
    refine Z_icmp_ge 14 36 dX4_brokenOnes_11 rfl rfl (fun c11 => ?_) (fun c11 => absurd (nI_le (Nat.le_refl _) (by omega)) c11)
    refine Z_iload_n 37 1 dX4_brokenOnes_36 rfl rfl ?_
    exact Z_iret dX4_brokenOnes_37 rfl ⟨rfl, rfl⟩
  | succ t ih =>
    intro i hi
    have hlt : i < n := by omega
    have hn14 := hk.2.1
    refine Z_iload_n 5 0 dX4_brokenOnes_4 rfl rfl ?_
    refine Z_aload_n 6 2 dX4_brokenOnes_5 rfl rfl ?_
    refine Z_getR 9 dX4_brokenOnes_6 rfl fX4_7 (Nat.le_of_ble_eq_true rfl) rfl rfl ?_
    refine Z_iconst 10 (nI 2) dX4_brokenOnes_9 rfl rfl ?_
    refine Z_ialn 11 dX4_brokenOnes_10 rfl (Nat.le_of_ble_eq_true rfl) rfl (by first | assumption | omega) (by decide) ?_
    refine Z_top (congrArg Value.int hk.1) ?_
    refine Z_icmp_ge 14 36 dX4_brokenOnes_11 rfl rfl (fun c11 => absurd c11 (nI_ge hlt (by omega))) (fun c11 => ?_)
    refine Z_iload_n 15 1 dX4_brokenOnes_14 rfl rfl ?_
    refine Z_aload_n 16 2 dX4_brokenOnes_15 rfl rfl ?_
    refine Z_iload_n 17 0 dX4_brokenOnes_16 rfl rfl ?_
    refine Z_callV 20 [_] 4 (zX4_isBroken n hk i hlt) dX4_brokenOnes_17 rfl qX4_65 kX4_isBroken rfl rfl (Nat.le_of_ble_eq_true rfl) rfl rfl ⟨(Nat.le_of_ble_eq_true rfl), (Nat.le_of_ble_eq_true rfl)⟩ (Nat.le_of_ble_eq_true rfl) ⟨rfl, rfl⟩ ⟨(Nat.le_of_ble_eq_true rfl), (Nat.le_of_ble_eq_true rfl)⟩ (fun r9 w9 hp9 => ?_)
    obtain ⟨rfl, rfl⟩ := hp9
    refine Z_if_eq 23 27 dX4_brokenOnes_20 rfl rfl (fun c20 => ?_) (fun c20 => ?_)
    · skip
      refine Z_iconst 28 (nI 0) dX4_brokenOnes_27 rfl rfl ?_
      refine Z_iadd 29 dX4_brokenOnes_28 rfl ?_
      refine Z_top (v' := .int (nI (cnt (fun j => decide (bkV (vR (m 75)) j)) (i + 1)))) (by first | exact congrArg Value.int (cnt_t (decide_eq_true (bI_1 c20))) | exact congrArg Value.int (cnt_f (decide_eq_false (bI_0 c20)))) ?_
      refine Z_istore_n 30 [(1, _), (2, _), (0, _)] dX4_brokenOnes_29 rfl (Nat.le_of_ble_eq_true rfl) rfl ?_
      refine Z_iinc 33 [(2, _), (1, _), (0, _)] 1 _ dX4_brokenOnes_30 rfl (Nat.le_of_ble_eq_true rfl) rfl (nI_1 _) rfl ?_
      refine Z_goto 4 dX4_brokenOnes_33 rfl ?_
      exact ih (i + 1) (by omega)
    · skip
      refine Z_iconst 24 (nI 1) dX4_brokenOnes_23 rfl rfl ?_
      refine Z_goto 28 dX4_brokenOnes_24 rfl ?_
      refine Z_iadd 29 dX4_brokenOnes_28 rfl ?_
      refine Z_top (v' := .int (nI (cnt (fun j => decide (bkV (vR (m 75)) j)) (i + 1)))) (by first | exact congrArg Value.int (cnt_t (decide_eq_true (bI_1 c20))) | exact congrArg Value.int (cnt_f (decide_eq_false (bI_0 c20)))) ?_
      refine Z_istore_n 30 [(1, _), (2, _), (0, _)] dX4_brokenOnes_29 rfl (Nat.le_of_ble_eq_true rfl) rfl ?_
      refine Z_iinc 33 [(2, _), (1, _), (0, _)] 1 _ dX4_brokenOnes_30 rfl (Nat.le_of_ble_eq_true rfl) rfl (nI_1 _) rfl ?_
      refine Z_goto 4 dX4_brokenOnes_33 rfl ?_
      exact ih (i + 1) (by omega)
set_option maxRecDepth 100000 in
set_option maxHeartbeats 4000000 in
theorem zX4_brokenOnes {G : zG} {l : Launch} {h : Nat → Nat} {m : zM} (n : Nat) (hk : sOk (vR (m 75)) 1 n) : zMet G l yX4_brokenOnes mX4_brokenOnes [.ref (G.1 + 74)] (zw h m) (fun r w => r = some (.int (nI (cnt (fun j => decide (bkV (vR (m 75)) j)) n))) ∧ w = zw h m) 0 0 := by
  refine zMet_of [(0, .ref (G.1 + 74))] (by decide +kernel) rfl (Or.inl rfl) (Nat.le_of_ble_eq_true rfl) rfl ?_
  have hn14 := hk.2.1
  refine Z_iconst 1 (nI 0) dX4_brokenOnes_0 rfl rfl ?_
  refine Z_istore_n 2 [(1, _), (0, _)] dX4_brokenOnes_1 rfl (Nat.le_of_ble_eq_true rfl) rfl ?_
  refine Z_iconst 3 (nI 0) dX4_brokenOnes_2 rfl rfl ?_
  refine Z_istore_n 4 [(2, _), (1, _), (0, _)] dX4_brokenOnes_3 rfl (Nat.le_of_ble_eq_true rfl) rfl ?_
  exact lX4_brokenOnes n hk n 0 (by omega)

set_option maxRecDepth 100000 in
set_option maxHeartbeats 4000000 in
theorem lX4_inForce {G : zG} {l : Launch} {h : Nat → Nat} {m : zM} (n : Nat) (hk : sOk (vR (m 75)) 1 n) : ∀ (t i : Nat), i + t = n → Z G mX4_inForce (fun _ => True) (zN G (fun r w => r = some (.int (nI (cnt (fun j => decide (sForce (vR (m 75)) 1 j)) n))) ∧ w = zw h m) 0 0) l 0 0 (zw h m) 4 [(2, .int (nI i)), (1, .int (nI (cnt (fun j => decide (sForce (vR (m 75)) 1 j)) i))), (0, .ref (G.1 + 74))] [] := by
  intro t
  induction t with
  | zero =>
    intro i hi
    have e9 : i = n := by omega
    subst e9
    have hn14 := hk.2.1
    refine Z_iload_n 5 0 dX4_inForce_4 rfl rfl ?_
    refine Z_aload_n 6 2 dX4_inForce_5 rfl rfl ?_
    refine Z_getR 9 dX4_inForce_6 rfl fX4_7 (Nat.le_of_ble_eq_true rfl) rfl rfl ?_
    refine Z_iconst 10 (nI 2) dX4_inForce_9 rfl rfl ?_
    refine Z_ialn 11 dX4_inForce_10 rfl (Nat.le_of_ble_eq_true rfl) rfl (by first | assumption | omega) (by decide) ?_
    refine Z_top (congrArg Value.int hk.1) ?_
    refine Z_icmp_ge 14 36 dX4_inForce_11 rfl rfl (fun c11 => ?_) (fun c11 => absurd (nI_le (Nat.le_refl _) (by omega)) c11)
    refine Z_iload_n 37 1 dX4_inForce_36 rfl rfl ?_
    exact Z_iret dX4_inForce_37 rfl ⟨rfl, rfl⟩
  | succ t ih =>
    intro i hi
    have hlt : i < n := by omega
    have hn14 := hk.2.1
    refine Z_iload_n 5 0 dX4_inForce_4 rfl rfl ?_
    refine Z_aload_n 6 2 dX4_inForce_5 rfl rfl ?_
    refine Z_getR 9 dX4_inForce_6 rfl fX4_7 (Nat.le_of_ble_eq_true rfl) rfl rfl ?_
    refine Z_iconst 10 (nI 2) dX4_inForce_9 rfl rfl ?_
    refine Z_ialn 11 dX4_inForce_10 rfl (Nat.le_of_ble_eq_true rfl) rfl (by first | assumption | omega) (by decide) ?_
    refine Z_top (congrArg Value.int hk.1) ?_
    refine Z_icmp_ge 14 36 dX4_inForce_11 rfl rfl (fun c11 => absurd c11 (nI_ge hlt (by omega))) (fun c11 => ?_)
    refine Z_iload_n 15 1 dX4_inForce_14 rfl rfl ?_
    refine Z_aload_n 16 2 dX4_inForce_15 rfl rfl ?_
    refine Z_iload_n 17 0 dX4_inForce_16 rfl rfl ?_
    refine Z_callV 20 [_] 4 (zX4_isForce i (by omega)) dX4_inForce_17 rfl qX4_57 kX4_isForce rfl rfl (Nat.le_of_ble_eq_true rfl) rfl rfl ⟨(Nat.le_of_ble_eq_true rfl), (Nat.le_of_ble_eq_true rfl)⟩ (Nat.le_of_ble_eq_true rfl) ⟨rfl, rfl⟩ ⟨(Nat.le_of_ble_eq_true rfl), (Nat.le_of_ble_eq_true rfl)⟩ (fun r9 w9 hp9 => ?_)
    obtain ⟨rfl, rfl⟩ := hp9
    refine Z_if_eq 23 27 dX4_inForce_20 rfl rfl (fun c20 => ?_) (fun c20 => ?_)
    · skip
      refine Z_iconst 28 (nI 0) dX4_inForce_27 rfl rfl ?_
      refine Z_iadd 29 dX4_inForce_28 rfl ?_
      refine Z_top (v' := .int (nI (cnt (fun j => decide (sForce (vR (m 75)) 1 j)) (i + 1)))) (by first | exact congrArg Value.int (cnt_t (decide_eq_true (bI_1 c20))) | exact congrArg Value.int (cnt_f (decide_eq_false (bI_0 c20)))) ?_
      refine Z_istore_n 30 [(1, _), (2, _), (0, _)] dX4_inForce_29 rfl (Nat.le_of_ble_eq_true rfl) rfl ?_
      refine Z_iinc 33 [(2, _), (1, _), (0, _)] 1 _ dX4_inForce_30 rfl (Nat.le_of_ble_eq_true rfl) rfl (nI_1 _) rfl ?_
      refine Z_goto 4 dX4_inForce_33 rfl ?_
      exact ih (i + 1) (by omega)
    · skip
      refine Z_iconst 24 (nI 1) dX4_inForce_23 rfl rfl ?_
      refine Z_goto 28 dX4_inForce_24 rfl ?_
      refine Z_iadd 29 dX4_inForce_28 rfl ?_
      refine Z_top (v' := .int (nI (cnt (fun j => decide (sForce (vR (m 75)) 1 j)) (i + 1)))) (by first | exact congrArg Value.int (cnt_t (decide_eq_true (bI_1 c20))) | exact congrArg Value.int (cnt_f (decide_eq_false (bI_0 c20)))) ?_
      refine Z_istore_n 30 [(1, _), (2, _), (0, _)] dX4_inForce_29 rfl (Nat.le_of_ble_eq_true rfl) rfl ?_
      refine Z_iinc 33 [(2, _), (1, _), (0, _)] 1 _ dX4_inForce_30 rfl (Nat.le_of_ble_eq_true rfl) rfl (nI_1 _) rfl ?_
      refine Z_goto 4 dX4_inForce_33 rfl ?_
      exact ih (i + 1) (by omega)
set_option maxRecDepth 100000 in
set_option maxHeartbeats 4000000 in
theorem zX4_inForce {G : zG} {l : Launch} {h : Nat → Nat} {m : zM} (n : Nat) (hk : sOk (vR (m 75)) 1 n) : zMet G l yX4_inForce mX4_inForce [.ref (G.1 + 74)] (zw h m) (fun r w => r = some (.int (nI (cnt (fun j => decide (sForce (vR (m 75)) 1 j)) n))) ∧ w = zw h m) 0 0 := by
  refine zMet_of [(0, .ref (G.1 + 74))] (by decide +kernel) rfl (Or.inl rfl) (Nat.le_of_ble_eq_true rfl) rfl ?_
  have hn14 := hk.2.1
  refine Z_iconst 1 (nI 0) dX4_inForce_0 rfl rfl ?_
  refine Z_istore_n 2 [(1, _), (0, _)] dX4_inForce_1 rfl (Nat.le_of_ble_eq_true rfl) rfl ?_
  refine Z_iconst 3 (nI 0) dX4_inForce_2 rfl rfl ?_
  refine Z_istore_n 4 [(2, _), (1, _), (0, _)] dX4_inForce_3 rfl (Nat.le_of_ble_eq_true rfl) rfl ?_
  exact lX4_inForce n hk n 0 (by omega)

set_option maxRecDepth 100000 in
set_option maxHeartbeats 4000000 in
theorem lX4_nested {G : zG} {l : Launch} {h : Nat → Nat} {m : zM}  : ∀ (t i : Nat), i + t = 8 → Z G mX4_nested (fun _ => True) (zN G (fun r w => r = some (.int (nI (cnt (fun j => decide (sNest (vR (m 75)) 1 j)) 8))) ∧ w = zw h m) 0 0) l 0 0 (zw h m) 4 [(2, .int (nI i)), (1, .int (nI (cnt (fun j => decide (sNest (vR (m 75)) 1 j)) i))), (0, .ref (G.1 + 74))] [] := by
  intro t
  induction t with
  | zero =>
    intro i hi
    have e9 : i = 8 := by omega
    subst e9
    refine Z_iload_n 5 0 dX4_nested_4 rfl rfl ?_
    refine Z_bipush 7 (nI 8) dX4_nested_5 rfl rfl ?_
    refine Z_icmp_ge 10 32 dX4_nested_7 rfl rfl (fun c7 => ?_) (fun c7 => absurd (nI_le (Nat.le_refl _) (by omega)) c7)
    refine Z_iload_n 33 1 dX4_nested_32 rfl rfl ?_
    exact Z_iret dX4_nested_33 rfl ⟨rfl, rfl⟩
  | succ t ih =>
    intro i hi
    have hlt : i < 8 := by omega
    refine Z_iload_n 5 0 dX4_nested_4 rfl rfl ?_
    refine Z_bipush 7 (nI 8) dX4_nested_5 rfl rfl ?_
    refine Z_icmp_ge 10 32 dX4_nested_7 rfl rfl (fun c7 => absurd c7 (nI_ge hlt (by omega))) (fun c7 => ?_)
    refine Z_iload_n 11 1 dX4_nested_10 rfl rfl ?_
    refine Z_aload_n 12 2 dX4_nested_11 rfl rfl ?_
    refine Z_iload_n 13 0 dX4_nested_12 rfl rfl ?_
    refine Z_callV 16 [_] 4 (zX4_isNested i hlt) dX4_nested_13 rfl qX4_106 kX4_isNested rfl rfl (Nat.le_of_ble_eq_true rfl) rfl rfl ⟨(Nat.le_of_ble_eq_true rfl), (Nat.le_of_ble_eq_true rfl)⟩ (Nat.le_of_ble_eq_true rfl) ⟨rfl, rfl⟩ ⟨(Nat.le_of_ble_eq_true rfl), (Nat.le_of_ble_eq_true rfl)⟩ (fun r9 w9 hp9 => ?_)
    obtain ⟨rfl, rfl⟩ := hp9
    refine Z_if_eq 19 23 dX4_nested_16 rfl rfl (fun c16 => ?_) (fun c16 => ?_)
    · skip
      refine Z_iconst 24 (nI 0) dX4_nested_23 rfl rfl ?_
      refine Z_iadd 25 dX4_nested_24 rfl ?_
      refine Z_top (v' := .int (nI (cnt (fun j => decide (sNest (vR (m 75)) 1 j)) (i + 1)))) (by first | exact congrArg Value.int (cnt_t (decide_eq_true (bI_1 c16))) | exact congrArg Value.int (cnt_f (decide_eq_false (bI_0 c16)))) ?_
      refine Z_istore_n 26 [(1, _), (2, _), (0, _)] dX4_nested_25 rfl (Nat.le_of_ble_eq_true rfl) rfl ?_
      refine Z_iinc 29 [(2, _), (1, _), (0, _)] 1 _ dX4_nested_26 rfl (Nat.le_of_ble_eq_true rfl) rfl (nI_1 _) rfl ?_
      refine Z_goto 4 dX4_nested_29 rfl ?_
      exact ih (i + 1) (by omega)
    · skip
      refine Z_iconst 20 (nI 1) dX4_nested_19 rfl rfl ?_
      refine Z_goto 24 dX4_nested_20 rfl ?_
      refine Z_iadd 25 dX4_nested_24 rfl ?_
      refine Z_top (v' := .int (nI (cnt (fun j => decide (sNest (vR (m 75)) 1 j)) (i + 1)))) (by first | exact congrArg Value.int (cnt_t (decide_eq_true (bI_1 c16))) | exact congrArg Value.int (cnt_f (decide_eq_false (bI_0 c16)))) ?_
      refine Z_istore_n 26 [(1, _), (2, _), (0, _)] dX4_nested_25 rfl (Nat.le_of_ble_eq_true rfl) rfl ?_
      refine Z_iinc 29 [(2, _), (1, _), (0, _)] 1 _ dX4_nested_26 rfl (Nat.le_of_ble_eq_true rfl) rfl (nI_1 _) rfl ?_
      refine Z_goto 4 dX4_nested_29 rfl ?_
      exact ih (i + 1) (by omega)
set_option maxRecDepth 100000 in
set_option maxHeartbeats 4000000 in
theorem zX4_nested {G : zG} {l : Launch} {h : Nat → Nat} {m : zM}  : zMet G l yX4_nested mX4_nested [.ref (G.1 + 74)] (zw h m) (fun r w => r = some (.int (nI (cnt (fun j => decide (sNest (vR (m 75)) 1 j)) 8))) ∧ w = zw h m) 0 0 := by
  refine zMet_of [(0, .ref (G.1 + 74))] (by decide +kernel) rfl (Or.inl rfl) (Nat.le_of_ble_eq_true rfl) rfl ?_
  refine Z_iconst 1 (nI 0) dX4_nested_0 rfl rfl ?_
  refine Z_istore_n 2 [(1, _), (0, _)] dX4_nested_1 rfl (Nat.le_of_ble_eq_true rfl) rfl ?_
  refine Z_iconst 3 (nI 0) dX4_nested_2 rfl rfl ?_
  refine Z_istore_n 4 [(2, _), (1, _), (0, _)] dX4_nested_3 rfl (Nat.le_of_ble_eq_true rfl) rfl ?_
  exact lX4_nested  8 0 (by omega)
