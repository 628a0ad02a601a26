/-! the model: days ahead, tightest, undo, save, restore -/
def dyK (r : Nat → Int32) : Nat → Nat → Int32
  | 0 => r
  | k + 1 => dyR (dyK r k)
def gdK (m : zM) : Nat → zM
  | 0 => m
  | k + 1 => gdM (gdK m k) 8
theorem gdK_75 (m : zM) : ∀ k, gdK m k 75 = dyK (m 75) k
  | 0 => rfl
  | k + 1 => by
    show gdM (gdK m k) 8 75 = dyR (dyK (m 75) k)
    rw [gdM_75, gdK_75 m k]
theorem gdK_q (m : zM) {q : Nat} (h : q ≠ 75) : ∀ k, gdK m k q = m q
  | 0 => rfl
  | k + 1 => by
    show gdM (gdK m k) 8 q = m q
    rw [gdM_q _ h, gdK_q m h k]
theorem dyK_sOk {r : Nat → Int32} {n : Nat} (h : sOk (vR r) 1 n) : ∀ k, sOk (vR (dyK r k)) 1 n
  | 0 => h
  | k + 1 => dyR_sOk (dyK_sOk h k)
theorem dyK_hi (r : Nat → Int32) {j : Nat} (h : 39 ≤ j) : ∀ k, dyK r k j = r j
  | 0 => rfl
  | k + 1 => (dyR_n (by omega) (by omega)).trans (dyK_hi r h k)
/-- the row, laid aside and taken back -/
theorem back_fr {m m1 : zM} (h : m1 = cpR m 75 0 76 0 95) (k : Nat) : Fr 76 m (cpR (gdK m1 k) 76 0 75 0 95) := fun q hq => by
  subst h
  by_cases g : q = 75
  · subst g
    funext j
    unfold cpR
    by_cases c : j < 95
    · rw [if_pos ⟨rfl, Nat.zero_le j, by omega⟩, gdK_q _ (by decide) k]
      show (if 76 = 76 ∧ 0 ≤ 0 + (j - 0) ∧ 0 + (j - 0) < 0 + 95 then m 75 (0 + (0 + (j - 0) - 0)) else m 76 (0 + (j - 0))) = m 75 j
      rw [if_pos ⟨rfl, Nat.zero_le _, by omega⟩]
      congr 1
      omega
    · rw [if_neg (fun z => by omega), gdK_75, dyK_hi _ (by omega)]
      show (if 75 = 76 ∧ _ then _ else _) = m 75 j
      rw [if_neg (fun z => absurd z.1 (by decide))]
  · rw [cpR_na _ g, gdK_q _ g k, cpR_na _ hq]
set_option maxRecDepth 100000 in
set_option maxHeartbeats 4000000 in
theorem eX4_ifDays {G : zG} {l : Launch} {h : Nat → Nat} {m : zM} (x y : Int32) (hne : ¬ ((¬ x < nI 1 ∧ ¬ nI 30 < x) ∧ ¬ y < nI 0 ∧ ¬ nI 1 < y)) : zMet G l yX4_ifDays mX4_ifDays [.ref (G.1 + 74), .int x, .int y] (zw h m) (fun r w => r = some (.int (-1)) ∧ w = zw h m) 0 0 := by
  refine zMet_of [(0, .ref (G.1 + 74)), (1, .int x), (2, .int y)] (by decide +kernel) rfl (Or.inl rfl) (Nat.le_of_ble_eq_true rfl) rfl ?_
  refine Z_iload_n 1 1 dX4_ifDays_0 rfl rfl ?_
  refine Z_iconst 2 (nI 1) dX4_ifDays_1 rfl rfl ?_
  refine Z_bipush 4 (nI 30) dX4_ifDays_2 rfl rfl ?_
  refine Z_callS 7 [_, _, _] (zX4_in _ _ _) dX4_ifDays_4 rfl qX4_46 kX4_in rfl rfl ⟨(Nat.le_of_ble_eq_true rfl), (Nat.le_of_ble_eq_true rfl)⟩ (Nat.le_of_ble_eq_true rfl) ⟨rfl, rfl⟩ ⟨(Nat.le_of_ble_eq_true rfl), (Nat.le_of_ble_eq_true rfl)⟩ (fun r9 w9 hp9 => ?_)
  obtain ⟨rfl, rfl⟩ := hp9
  refine Z_if_eq 10 19 dX4_ifDays_7 rfl rfl (fun c7 => ?_) (fun c7 => ?_)
  · skip
    refine Z_iconst 20 (-1) dX4_ifDays_19 rfl rfl ?_
    exact Z_iret dX4_ifDays_20 rfl ⟨rfl, rfl⟩
  · skip
    refine Z_iload_n 11 2 dX4_ifDays_10 rfl rfl ?_
    refine Z_iconst 12 (nI 0) dX4_ifDays_11 rfl rfl ?_
    refine Z_iconst 13 (nI 1) dX4_ifDays_12 rfl rfl ?_
    refine Z_callS 16 [_, _, _] (zX4_in _ _ _) dX4_ifDays_13 rfl qX4_46 kX4_in rfl rfl ⟨(Nat.le_of_ble_eq_true rfl), (Nat.le_of_ble_eq_true rfl)⟩ (Nat.le_of_ble_eq_true rfl) ⟨rfl, rfl⟩ ⟨(Nat.le_of_ble_eq_true rfl), (Nat.le_of_ble_eq_true rfl)⟩ (fun r9 w9 hp9 => ?_)
    obtain ⟨rfl, rfl⟩ := hp9
    refine Z_if_ne 19 21 dX4_ifDays_16 rfl rfl (fun c16 => absurd c16 (fun q => hne ⟨bI_1 c7, bI_1 q⟩)) (fun c16 => ?_)
    refine Z_iconst 20 (-1) dX4_ifDays_19 rfl rfl ?_
    exact Z_iret dX4_ifDays_20 rfl ⟨rfl, rfl⟩

set_option maxRecDepth 100000 in
set_option maxHeartbeats 4000000 in
theorem lX4_ifd0 {G : zG} {l : Launch} {h : Nat → Nat} {m : zM} (n : Nat) (hk : sOk (vR (m 75)) 1 n) (D : Nat) (hD0 : 0 < D) (hD : D ≤ 30) : ∀ (t i : Nat), i + t = D → Z G mX4_ifDays (fun _ => True) (zN G (fun r w => ∃ m', w = zw h m' ∧ Fr 76 m m' ∧ r = some (.int (nI (cnt (fun j => decide (bkV (vR (dyK (m 75) D)) j)) n)))) 0 0) l 0 0 (zw h (gdK (cpR m 75 0 76 0 95) i)) 36 [(3, .int (nI i)), (0, .ref (G.1 + 74)), (1, .int (nI D)), (2, .int (nI 0))] [] := by
  intro t
  induction t with
  | zero =>
    intro i hi
    have e9 : i = D := by omega
    subst e9
    have e1 : (cpR m 75 0 76 0 95) 75 = m 75 := cpR_na m (by decide)
    have e9 : (gdK (cpR m 75 0 76 0 95) i) 75 = dyK (m 75) i := by rw [gdK_75, e1]
    refine Z_iload_n 37 0 dX4_ifDays_36 rfl rfl ?_
    refine Z_iload_n 38 2 dX4_ifDays_37 rfl rfl ?_
    refine Z_icmp_ge 41 51 dX4_ifDays_38 rfl rfl (fun c38 => ?_) (fun c38 => absurd (nI_le (Nat.le_refl _) (by omega)) c38)
    refine Z_iload_n 52 3 dX4_ifDays_51 rfl rfl ?_
    refine Z_if_ne 55 62 dX4_ifDays_52 rfl rfl (fun c52 => absurd c52 (fun q => q rfl)) (fun c52 => ?_)
    refine Z_aload_n 56 1 dX4_ifDays_55 rfl rfl ?_
    refine Z_callV 59 [] 4 (zX4_brokenOnes (m := (gdK (cpR m 75 0 76 0 95) i)) n (sOk_row e9 (dyK_sOk hk i))) dX4_ifDays_56 rfl qX4_123 kX4_brokenOnes rfl rfl (Nat.le_of_ble_eq_true rfl) rfl rfl ⟨(Nat.le_of_ble_eq_true rfl), (Nat.le_of_ble_eq_true rfl)⟩ (Nat.le_of_ble_eq_true rfl) ⟨rfl, rfl⟩ ⟨(Nat.le_of_ble_eq_true rfl), (Nat.le_of_ble_eq_true rfl)⟩ (fun r9 w9 hp9 => ?_)
    obtain ⟨rfl, rfl⟩ := hp9
    refine Z_goto 66 dX4_ifDays_59 rfl ?_
    refine Z_istore_n 67 [(3, _), (0, _), (1, _), (2, _)] dX4_ifDays_66 rfl (Nat.le_of_ble_eq_true rfl) rfl ?_
    refine Z_aload_n 68 1 dX4_ifDays_67 rfl rfl ?_
    refine Z_getR 71 dX4_ifDays_68 rfl fX4_13 (Nat.le_of_ble_eq_true rfl) rfl rfl ?_
    refine Z_iconst 72 (nI 0) dX4_ifDays_71 rfl rfl ?_
    refine Z_aload_n 73 1 dX4_ifDays_72 rfl rfl ?_
    refine Z_getR 76 dX4_ifDays_73 rfl fX4_7 (Nat.le_of_ble_eq_true rfl) rfl rfl ?_
    refine Z_iconst 77 (nI 0) dX4_ifDays_76 rfl rfl ?_
    refine Z_callS 80 [_, _, _, _] (zX4_copies (m := (gdK (cpR m 75 0 76 0 95) i)) 76 75 95 95 0 0 (by decide) (by decide) rfl rfl (by decide) (by decide) (by decide) (by decide) (by decide)) dX4_ifDays_77 rfl qX4_42 kX4_copies rfl rfl ⟨(Nat.le_of_ble_eq_true rfl), (Nat.le_of_ble_eq_true rfl)⟩ (Nat.le_of_ble_eq_true rfl) ⟨rfl, rfl⟩ ⟨(Nat.le_of_ble_eq_true rfl), (Nat.le_of_ble_eq_true rfl)⟩ (fun r9 w9 hp9 => ?_)
    obtain ⟨rfl, rfl⟩ := hp9
    refine Z_iload_n 81 0 dX4_ifDays_80 rfl rfl ?_
    exact Z_iret dX4_ifDays_81 rfl ⟨_, rfl, back_fr rfl i, by rw [e9]⟩
  | succ t ih =>
    intro i hi
    have hlt : i < D := by omega
    refine Z_iload_n 37 0 dX4_ifDays_36 rfl rfl ?_
    refine Z_iload_n 38 2 dX4_ifDays_37 rfl rfl ?_
    refine Z_icmp_ge 41 51 dX4_ifDays_38 rfl rfl (fun c38 => absurd c38 (nI_ge hlt (by omega))) (fun c38 => ?_)
    refine Z_aload_n 42 1 dX4_ifDays_41 rfl rfl ?_
    refine Z_callV 45 [] 4 (zX4_goDay (m := (gdK (cpR m 75 0 76 0 95) i))) dX4_ifDays_42 rfl qX4_120 kX4_goDay rfl rfl (Nat.le_of_ble_eq_true rfl) rfl rfl ⟨(Nat.le_of_ble_eq_true rfl), (Nat.le_of_ble_eq_true rfl)⟩ (Nat.le_of_ble_eq_true rfl) ⟨rfl, rfl⟩ ⟨(Nat.le_of_ble_eq_true rfl), (Nat.le_of_ble_eq_true rfl)⟩ (fun r9 w9 hp9 => ?_)
    obtain ⟨rfl, rfl⟩ := hp9
    refine Z_iinc 48 [(3, _), (0, _), (1, _), (2, _)] 0 _ dX4_ifDays_45 rfl (Nat.le_of_ble_eq_true rfl) rfl (nI_1 _) rfl ?_
    refine Z_goto 36 dX4_ifDays_48 rfl ?_
    exact ih (i + 1) (by omega)

set_option maxRecDepth 100000 in
set_option maxHeartbeats 4000000 in
theorem zX4_ifDays0 {G : zG} {l : Launch} {h : Nat → Nat} {m : zM} (n : Nat) (hk : sOk (vR (m 75)) 1 n) (D : Nat) (hD0 : 0 < D) (hD : D ≤ 30) : zMet G l yX4_ifDays mX4_ifDays [.ref (G.1 + 74), .int (nI D), .int (nI 0)] (zw h m) (fun r w => ∃ m', w = zw h m' ∧ Fr 76 m m' ∧ r = some (.int (nI (cnt (fun j => decide (bkV (vR (dyK (m 75) D)) j)) n)))) 0 0 := by
  refine zMet_of [(0, .ref (G.1 + 74)), (1, .int (nI D)), (2, .int (nI 0))] (by decide +kernel) rfl (Or.inl rfl) (Nat.le_of_ble_eq_true rfl) rfl ?_
  refine Z_iload_n 1 1 dX4_ifDays_0 rfl rfl ?_
  refine Z_iconst 2 (nI 1) dX4_ifDays_1 rfl rfl ?_
  refine Z_bipush 4 (nI 30) dX4_ifDays_2 rfl rfl ?_
  refine Z_callS 7 [_, _, _] (zX4_in _ _ _) dX4_ifDays_4 rfl qX4_46 kX4_in rfl rfl ⟨(Nat.le_of_ble_eq_true rfl), (Nat.le_of_ble_eq_true rfl)⟩ (Nat.le_of_ble_eq_true rfl) ⟨rfl, rfl⟩ ⟨(Nat.le_of_ble_eq_true rfl), (Nat.le_of_ble_eq_true rfl)⟩ (fun r9 w9 hp9 => ?_)
  obtain ⟨rfl, rfl⟩ := hp9
  refine Z_if_eq 10 19 dX4_ifDays_7 rfl rfl (fun c7 => absurd c7 (bI_ne ⟨nI_nlt (by omega) (by omega), nI_nlt (by omega) (by omega)⟩)) (fun c7 => ?_)
  refine Z_iload_n 11 2 dX4_ifDays_10 rfl rfl ?_
  refine Z_iconst 12 (nI 0) dX4_ifDays_11 rfl rfl ?_
  refine Z_iconst 13 (nI 1) dX4_ifDays_12 rfl rfl ?_
  refine Z_callS 16 [_, _, _] (zX4_in _ _ _) dX4_ifDays_13 rfl qX4_46 kX4_in rfl rfl ⟨(Nat.le_of_ble_eq_true rfl), (Nat.le_of_ble_eq_true rfl)⟩ (Nat.le_of_ble_eq_true rfl) ⟨rfl, rfl⟩ ⟨(Nat.le_of_ble_eq_true rfl), (Nat.le_of_ble_eq_true rfl)⟩ (fun r9 w9 hp9 => ?_)
  obtain ⟨rfl, rfl⟩ := hp9
  refine Z_if_ne 19 21 dX4_ifDays_16 rfl rfl (fun c16 => ?_) (fun c16 => absurd (bI_ne (by decide)) c16)
  refine Z_aload_n 22 0 dX4_ifDays_21 rfl rfl ?_
  refine Z_getR 25 dX4_ifDays_22 rfl fX4_7 (Nat.le_of_ble_eq_true rfl) rfl rfl ?_
  refine Z_iconst 26 (nI 0) dX4_ifDays_25 rfl rfl ?_
  refine Z_aload_n 27 0 dX4_ifDays_26 rfl rfl ?_
  refine Z_getR 30 dX4_ifDays_27 rfl fX4_13 (Nat.le_of_ble_eq_true rfl) rfl rfl ?_
  refine Z_iconst 31 (nI 0) dX4_ifDays_30 rfl rfl ?_
  refine Z_callS 34 [_, _, _, _] (zX4_copies (m := m) 75 76 95 95 0 0 (by decide) (by decide) rfl rfl (by decide) (by decide) (by decide) (by decide) (by decide)) dX4_ifDays_31 rfl qX4_42 kX4_copies rfl rfl ⟨(Nat.le_of_ble_eq_true rfl), (Nat.le_of_ble_eq_true rfl)⟩ (Nat.le_of_ble_eq_true rfl) ⟨rfl, rfl⟩ ⟨(Nat.le_of_ble_eq_true rfl), (Nat.le_of_ble_eq_true rfl)⟩ (fun r9 w9 hp9 => ?_)
  obtain ⟨rfl, rfl⟩ := hp9
  refine Z_iconst 35 (nI 0) dX4_ifDays_34 rfl rfl ?_
  refine Z_istore_n 36 [(3, _), (0, _), (1, _), (2, _)] dX4_ifDays_35 rfl (Nat.le_of_ble_eq_true rfl) rfl ?_
  refine Z_w (w' := zw h (gdK (cpR m 75 0 76 0 95) 0)) rfl ?_
  exact lX4_ifd0 n hk D hD0 hD D 0 (by omega)

set_option maxRecDepth 100000 in
set_option maxHeartbeats 4000000 in
theorem lX4_ifd1 {G : zG} {l : Launch} {h : Nat → Nat} {m : zM} (n : Nat) (hk : sOk (vR (m 75)) 1 n) (D : Nat) (hD0 : 0 < D) (hD : D ≤ 30) : ∀ (t i : Nat), i + t = D → Z G mX4_ifDays (fun _ => True) (zN G (fun r w => ∃ m', w = zw h m' ∧ Fr 76 m m' ∧ r = some (.int (sumI (vR (dyK (m 75) D) 2) 8))) 0 0) l 0 0 (zw h (gdK (cpR m 75 0 76 0 95) i)) 36 [(3, .int (nI i)), (0, .ref (G.1 + 74)), (1, .int (nI D)), (2, .int (nI 1))] [] := by
  intro t
  induction t with
  | zero =>
    intro i hi
    have e9 : i = D := by omega
    subst e9
    have e1 : (cpR m 75 0 76 0 95) 75 = m 75 := cpR_na m (by decide)
    have e9 : (gdK (cpR m 75 0 76 0 95) i) 75 = dyK (m 75) i := by rw [gdK_75, e1]
    refine Z_iload_n 37 0 dX4_ifDays_36 rfl rfl ?_
    refine Z_iload_n 38 2 dX4_ifDays_37 rfl rfl ?_
    refine Z_icmp_ge 41 51 dX4_ifDays_38 rfl rfl (fun c38 => ?_) (fun c38 => absurd (nI_le (Nat.le_refl _) (by omega)) c38)
    refine Z_iload_n 52 3 dX4_ifDays_51 rfl rfl ?_
    refine Z_if_ne 55 62 dX4_ifDays_52 rfl rfl (fun c52 => ?_) (fun c52 => absurd (by decide) c52)
    refine Z_aload_n 63 1 dX4_ifDays_62 rfl rfl ?_
    refine Z_callV 66 [] 4 (zX4_allHeights (m := (gdK (cpR m 75 0 76 0 95) i))) dX4_ifDays_63 rfl qX4_197 kX4_allHeights rfl rfl (Nat.le_of_ble_eq_true rfl) rfl rfl ⟨(Nat.le_of_ble_eq_true rfl), (Nat.le_of_ble_eq_true rfl)⟩ (Nat.le_of_ble_eq_true rfl) ⟨rfl, rfl⟩ ⟨(Nat.le_of_ble_eq_true rfl), (Nat.le_of_ble_eq_true rfl)⟩ (fun r9 w9 hp9 => ?_)
    obtain ⟨rfl, rfl⟩ := hp9
    refine Z_istore_n 67 [(3, _), (0, _), (1, _), (2, _)] dX4_ifDays_66 rfl (Nat.le_of_ble_eq_true rfl) rfl ?_
    refine Z_aload_n 68 1 dX4_ifDays_67 rfl rfl ?_
    refine Z_getR 71 dX4_ifDays_68 rfl fX4_13 (Nat.le_of_ble_eq_true rfl) rfl rfl ?_
    refine Z_iconst 72 (nI 0) dX4_ifDays_71 rfl rfl ?_
    refine Z_aload_n 73 1 dX4_ifDays_72 rfl rfl ?_
    refine Z_getR 76 dX4_ifDays_73 rfl fX4_7 (Nat.le_of_ble_eq_true rfl) rfl rfl ?_
    refine Z_iconst 77 (nI 0) dX4_ifDays_76 rfl rfl ?_
    refine Z_callS 80 [_, _, _, _] (zX4_copies (m := (gdK (cpR m 75 0 76 0 95) i)) 76 75 95 95 0 0 (by decide) (by decide) rfl rfl (by decide) (by decide) (by decide) (by decide) (by decide)) dX4_ifDays_77 rfl qX4_42 kX4_copies rfl rfl ⟨(Nat.le_of_ble_eq_true rfl), (Nat.le_of_ble_eq_true rfl)⟩ (Nat.le_of_ble_eq_true rfl) ⟨rfl, rfl⟩ ⟨(Nat.le_of_ble_eq_true rfl), (Nat.le_of_ble_eq_true rfl)⟩ (fun r9 w9 hp9 => ?_)
    obtain ⟨rfl, rfl⟩ := hp9
    refine Z_iload_n 81 0 dX4_ifDays_80 rfl rfl ?_
    exact Z_iret dX4_ifDays_81 rfl ⟨_, rfl, back_fr rfl i, by rw [e9]⟩
  | succ t ih =>
    intro i hi
    have hlt : i < D := by omega
    refine Z_iload_n 37 0 dX4_ifDays_36 rfl rfl ?_
    refine Z_iload_n 38 2 dX4_ifDays_37 rfl rfl ?_
    refine Z_icmp_ge 41 51 dX4_ifDays_38 rfl rfl (fun c38 => absurd c38 (nI_ge hlt (by omega))) (fun c38 => ?_)
    refine Z_aload_n 42 1 dX4_ifDays_41 rfl rfl ?_
    refine Z_callV 45 [] 4 (zX4_goDay (m := (gdK (cpR m 75 0 76 0 95) i))) dX4_ifDays_42 rfl qX4_120 kX4_goDay rfl rfl (Nat.le_of_ble_eq_true rfl) rfl rfl ⟨(Nat.le_of_ble_eq_true rfl), (Nat.le_of_ble_eq_true rfl)⟩ (Nat.le_of_ble_eq_true rfl) ⟨rfl, rfl⟩ ⟨(Nat.le_of_ble_eq_true rfl), (Nat.le_of_ble_eq_true rfl)⟩ (fun r9 w9 hp9 => ?_)
    obtain ⟨rfl, rfl⟩ := hp9
    refine Z_iinc 48 [(3, _), (0, _), (1, _), (2, _)] 0 _ dX4_ifDays_45 rfl (Nat.le_of_ble_eq_true rfl) rfl (nI_1 _) rfl ?_
    refine Z_goto 36 dX4_ifDays_48 rfl ?_
    exact ih (i + 1) (by omega)

set_option maxRecDepth 100000 in
set_option maxHeartbeats 4000000 in
theorem zX4_ifDays1 {G : zG} {l : Launch} {h : Nat → Nat} {m : zM} (n : Nat) (hk : sOk (vR (m 75)) 1 n) (D : Nat) (hD0 : 0 < D) (hD : D ≤ 30) : zMet G l yX4_ifDays mX4_ifDays [.ref (G.1 + 74), .int (nI D), .int (nI 1)] (zw h m) (fun r w => ∃ m', w = zw h m' ∧ Fr 76 m m' ∧ r = some (.int (sumI (vR (dyK (m 75) D) 2) 8))) 0 0 := by
  refine zMet_of [(0, .ref (G.1 + 74)), (1, .int (nI D)), (2, .int (nI 1))] (by decide +kernel) rfl (Or.inl rfl) (Nat.le_of_ble_eq_true rfl) rfl ?_
  refine Z_iload_n 1 1 dX4_ifDays_0 rfl rfl ?_
  refine Z_iconst 2 (nI 1) dX4_ifDays_1 rfl rfl ?_
  refine Z_bipush 4 (nI 30) dX4_ifDays_2 rfl rfl ?_
  refine Z_callS 7 [_, _, _] (zX4_in _ _ _) dX4_ifDays_4 rfl qX4_46 kX4_in rfl rfl ⟨(Nat.le_of_ble_eq_true rfl), (Nat.le_of_ble_eq_true rfl)⟩ (Nat.le_of_ble_eq_true rfl) ⟨rfl, rfl⟩ ⟨(Nat.le_of_ble_eq_true rfl), (Nat.le_of_ble_eq_true rfl)⟩ (fun r9 w9 hp9 => ?_)
  obtain ⟨rfl, rfl⟩ := hp9
  refine Z_if_eq 10 19 dX4_ifDays_7 rfl rfl (fun c7 => absurd c7 (bI_ne ⟨nI_nlt (by omega) (by omega), nI_nlt (by omega) (by omega)⟩)) (fun c7 => ?_)
  refine Z_iload_n 11 2 dX4_ifDays_10 rfl rfl ?_
  refine Z_iconst 12 (nI 0) dX4_ifDays_11 rfl rfl ?_
  refine Z_iconst 13 (nI 1) dX4_ifDays_12 rfl rfl ?_
  refine Z_callS 16 [_, _, _] (zX4_in _ _ _) dX4_ifDays_13 rfl qX4_46 kX4_in rfl rfl ⟨(Nat.le_of_ble_eq_true rfl), (Nat.le_of_ble_eq_true rfl)⟩ (Nat.le_of_ble_eq_true rfl) ⟨rfl, rfl⟩ ⟨(Nat.le_of_ble_eq_true rfl), (Nat.le_of_ble_eq_true rfl)⟩ (fun r9 w9 hp9 => ?_)
  obtain ⟨rfl, rfl⟩ := hp9
  refine Z_if_ne 19 21 dX4_ifDays_16 rfl rfl (fun c16 => ?_) (fun c16 => absurd (bI_ne (by decide)) c16)
  refine Z_aload_n 22 0 dX4_ifDays_21 rfl rfl ?_
  refine Z_getR 25 dX4_ifDays_22 rfl fX4_7 (Nat.le_of_ble_eq_true rfl) rfl rfl ?_
  refine Z_iconst 26 (nI 0) dX4_ifDays_25 rfl rfl ?_
  refine Z_aload_n 27 0 dX4_ifDays_26 rfl rfl ?_
  refine Z_getR 30 dX4_ifDays_27 rfl fX4_13 (Nat.le_of_ble_eq_true rfl) rfl rfl ?_
  refine Z_iconst 31 (nI 0) dX4_ifDays_30 rfl rfl ?_
  refine Z_callS 34 [_, _, _, _] (zX4_copies (m := m) 75 76 95 95 0 0 (by decide) (by decide) rfl rfl (by decide) (by decide) (by decide) (by decide) (by decide)) dX4_ifDays_31 rfl qX4_42 kX4_copies rfl rfl ⟨(Nat.le_of_ble_eq_true rfl), (Nat.le_of_ble_eq_true rfl)⟩ (Nat.le_of_ble_eq_true rfl) ⟨rfl, rfl⟩ ⟨(Nat.le_of_ble_eq_true rfl), (Nat.le_of_ble_eq_true rfl)⟩ (fun r9 w9 hp9 => ?_)
  obtain ⟨rfl, rfl⟩ := hp9
  refine Z_iconst 35 (nI 0) dX4_ifDays_34 rfl rfl ?_
  refine Z_istore_n 36 [(3, _), (0, _), (1, _), (2, _)] dX4_ifDays_35 rfl (Nat.le_of_ble_eq_true rfl) rfl ?_
  refine Z_w (w' := zw h (gdK (cpR m 75 0 76 0 95) 0)) rfl ?_
  exact lX4_ifd1 n hk D hD0 hD D 0 (by omega)

abbrev bcM (r : Nat → Int32) (n k : Nat) : Nat := cnt (fun j => decide (bkV (vR (dyK r k)) j)) n
set_option maxRecDepth 100000 in
set_option maxHeartbeats 4000000 in
theorem lX4_bi38 {G : zG} {l : Launch} {h : Nat → Nat} {m : zM} (n : Nat) (hk : sOk (vR (m 75)) 1 n) (i : Nat) (hi : i ≤ 60) (hy : ∀ j, j < i → bcM (m 75) n j = 0) (hz : bcM (m 75) n i = 0 → ∀ j, j ≤ 60 → bcM (m 75) n j = 0) : Z G mX4_breaksIn (fun _ => True) (zN G (fun r w => ∃ m' v, w = zw h m' ∧ Fr 76 m m' ∧ r = some (.int v) ∧ brkIn (bcM (m 75) n) v) 0 0) l 0 0 (zw h (gdK (cpR m 75 0 76 0 95) i)) 38 [(1, .int (nI i)), (0, .ref (G.1 + 74))] [] := by
  have hn := hk.2.1
  have e1 : (cpR m 75 0 76 0 95) 75 = m 75 := cpR_na m (by decide)
  have e9 : (gdK (cpR m 75 0 76 0 95) i) 75 = dyK (m 75) i := by rw [gdK_75, e1]
  refine Z_aload_n 39 1 dX4_breaksIn_38 rfl rfl ?_
  refine Z_callV 42 [] 4 (zX4_brokenOnes (m := (gdK (cpR m 75 0 76 0 95) i)) n (sOk_row e9 (dyK_sOk hk i))) dX4_breaksIn_39 rfl qX4_123 kX4_brokenOnes rfl rfl (Nat.le_of_ble_eq_true rfl) rfl rfl ⟨(Nat.le_of_ble_eq_true rfl), (Nat.le_of_ble_eq_true rfl)⟩ (Nat.le_of_ble_eq_true rfl) ⟨rfl, rfl⟩ ⟨(Nat.le_of_ble_eq_true rfl), (Nat.le_of_ble_eq_true rfl)⟩ (fun r9 w9 hp9 => ?_)
  obtain ⟨rfl, rfl⟩ := hp9
  rw [e9]
  refine Z_if_ne 45 50 dX4_breaksIn_42 rfl rfl (fun c42 => ?_) (fun c42 => ?_)
  · skip
    have c0 : 0 < bcM (m 75) n i := by
      rcases Nat.eq_zero_or_pos (bcM (m 75) n i) with q | q
      · rw [show cnt (fun j => decide (bkV (vR (dyK (m 75) i)) j)) n = 0 from q] at c42
        exact absurd rfl c42
      · exact q
    refine Z_iload_n 51 0 dX4_breaksIn_50 rfl rfl ?_
    refine Z_istore_n 52 [(2, _), (1, _), (0, _)] dX4_breaksIn_51 rfl (Nat.le_of_ble_eq_true rfl) rfl ?_
    refine Z_aload_n 53 2 dX4_breaksIn_52 rfl rfl ?_
    refine Z_getR 56 dX4_breaksIn_53 rfl fX4_13 (Nat.le_of_ble_eq_true rfl) rfl rfl ?_
    refine Z_iconst 57 (nI 0) dX4_breaksIn_56 rfl rfl ?_
    refine Z_aload_n 58 2 dX4_breaksIn_57 rfl rfl ?_
    refine Z_getR 61 dX4_breaksIn_58 rfl fX4_7 (Nat.le_of_ble_eq_true rfl) rfl rfl ?_
    refine Z_iconst 62 (nI 0) dX4_breaksIn_61 rfl rfl ?_
    refine Z_callS 65 [_, _, _, _] (zX4_copies (m := (gdK (cpR m 75 0 76 0 95) i)) 76 75 95 95 0 0 (by decide) (by decide) rfl rfl (by decide) (by decide) (by decide) (by decide) (by decide)) dX4_breaksIn_62 rfl qX4_42 kX4_copies rfl rfl ⟨(Nat.le_of_ble_eq_true rfl), (Nat.le_of_ble_eq_true rfl)⟩ (Nat.le_of_ble_eq_true rfl) ⟨rfl, rfl⟩ ⟨(Nat.le_of_ble_eq_true rfl), (Nat.le_of_ble_eq_true rfl)⟩ (fun r9 w9 hp9 => ?_)
    obtain ⟨rfl, rfl⟩ := hp9
    refine Z_iload_n 66 0 dX4_breaksIn_65 rfl rfl ?_
    exact Z_iret dX4_breaksIn_66 rfl (by first | exact ⟨_, _, rfl, back_fr rfl i, rfl, Or.inl ⟨i, hi, hy, c0, rfl⟩⟩ | exact ⟨_, _, rfl, back_fr rfl i, rfl, Or.inr ⟨fun j hj => hz c0 j hj, rfl⟩⟩)
  · skip
    have c0 : bcM (m 75) n i = 0 := by
      rcases Nat.eq_zero_or_pos (bcM (m 75) n i) with q | q
      · exact q
      · exact absurd (nI_ne0 q (by have : bcM (m 75) n i ≤ n := cnt_le (fun j => decide (bkV (vR (dyK (m 75) i)) j)) n; omega)) c42
    refine Z_bipush 47 (-4) dX4_breaksIn_45 rfl rfl ?_
    refine Z_goto 51 dX4_breaksIn_47 rfl ?_
    refine Z_istore_n 52 [(2, _), (1, _), (0, _)] dX4_breaksIn_51 rfl (Nat.le_of_ble_eq_true rfl) rfl ?_
    refine Z_aload_n 53 2 dX4_breaksIn_52 rfl rfl ?_
    refine Z_getR 56 dX4_breaksIn_53 rfl fX4_13 (Nat.le_of_ble_eq_true rfl) rfl rfl ?_
    refine Z_iconst 57 (nI 0) dX4_breaksIn_56 rfl rfl ?_
    refine Z_aload_n 58 2 dX4_breaksIn_57 rfl rfl ?_
    refine Z_getR 61 dX4_breaksIn_58 rfl fX4_7 (Nat.le_of_ble_eq_true rfl) rfl rfl ?_
    refine Z_iconst 62 (nI 0) dX4_breaksIn_61 rfl rfl ?_
    refine Z_callS 65 [_, _, _, _] (zX4_copies (m := (gdK (cpR m 75 0 76 0 95) i)) 76 75 95 95 0 0 (by decide) (by decide) rfl rfl (by decide) (by decide) (by decide) (by decide) (by decide)) dX4_breaksIn_62 rfl qX4_42 kX4_copies rfl rfl ⟨(Nat.le_of_ble_eq_true rfl), (Nat.le_of_ble_eq_true rfl)⟩ (Nat.le_of_ble_eq_true rfl) ⟨rfl, rfl⟩ ⟨(Nat.le_of_ble_eq_true rfl), (Nat.le_of_ble_eq_true rfl)⟩ (fun r9 w9 hp9 => ?_)
    obtain ⟨rfl, rfl⟩ := hp9
    refine Z_iload_n 66 0 dX4_breaksIn_65 rfl rfl ?_
    exact Z_iret dX4_breaksIn_66 rfl (by first | exact ⟨_, _, rfl, back_fr rfl i, rfl, Or.inl ⟨i, hi, hy, c0, rfl⟩⟩ | exact ⟨_, _, rfl, back_fr rfl i, rfl, Or.inr ⟨fun j hj => hz c0 j hj, rfl⟩⟩)
set_option maxRecDepth 100000 in
set_option maxHeartbeats 4000000 in
theorem lX4_breaksIn {G : zG} {l : Launch} {h : Nat → Nat} {m : zM} (n : Nat) (hk : sOk (vR (m 75)) 1 n) : ∀ (t i : Nat), i + t = 60 → (∀ j, j < i → bcM (m 75) n j = 0) → Z G mX4_breaksIn (fun _ => True) (zN G (fun r w => ∃ m' v, w = zw h m' ∧ Fr 76 m m' ∧ r = some (.int v) ∧ brkIn (bcM (m 75) n) v) 0 0) l 0 0 (zw h (gdK (cpR m 75 0 76 0 95) i)) 15 [(1, .int (nI i)), (0, .ref (G.1 + 74))] [] := by
  intro t
  induction t with
  | zero =>
    intro i hi hy
    have e9 : i = 60 := by omega
    subst e9
    have hn := hk.2.1
    have e1 : (cpR m 75 0 76 0 95) 75 = m 75 := cpR_na m (by decide)
    refine Z_iload_n 16 0 dX4_breaksIn_15 rfl rfl ?_
    refine Z_bipush 18 (nI 60) dX4_breaksIn_16 rfl rfl ?_
    refine Z_icmp_ge 21 38 dX4_breaksIn_18 rfl rfl (fun c18 => ?_) (fun c18 => absurd (nI_le (Nat.le_refl _) (by omega)) c18)
    exact lX4_bi38 n hk 60 (by omega) hy (fun q j hj => by
      rcases Nat.lt_or_eq_of_le hj with g | g
      · exact hy j g
      · rw [g]
        exact q)
  | succ t ih =>
    intro i hi hy
    have hlt : i < 60 := by omega
    have hn := hk.2.1
    have e1 : (cpR m 75 0 76 0 95) 75 = m 75 := cpR_na m (by decide)
    have e9 : (gdK (cpR m 75 0 76 0 95) i) 75 = dyK (m 75) i := by rw [gdK_75, e1]
    refine Z_iload_n 16 0 dX4_breaksIn_15 rfl rfl ?_
    refine Z_bipush 18 (nI 60) dX4_breaksIn_16 rfl rfl ?_
    refine Z_icmp_ge 21 38 dX4_breaksIn_18 rfl rfl (fun c18 => absurd c18 (nI_ge hlt (by omega))) (fun c18 => ?_)
    refine Z_aload_n 22 1 dX4_breaksIn_21 rfl rfl ?_
    refine Z_callV 25 [] 4 (zX4_brokenOnes (m := (gdK (cpR m 75 0 76 0 95) i)) n (sOk_row e9 (dyK_sOk hk i))) dX4_breaksIn_22 rfl qX4_123 kX4_brokenOnes rfl rfl (Nat.le_of_ble_eq_true rfl) rfl rfl ⟨(Nat.le_of_ble_eq_true rfl), (Nat.le_of_ble_eq_true rfl)⟩ (Nat.le_of_ble_eq_true rfl) ⟨rfl, rfl⟩ ⟨(Nat.le_of_ble_eq_true rfl), (Nat.le_of_ble_eq_true rfl)⟩ (fun r9 w9 hp9 => ?_)
    obtain ⟨rfl, rfl⟩ := hp9
    rw [e9]
    refine Z_if_ne 28 38 dX4_breaksIn_25 rfl rfl (fun c25 => ?_) (fun c25 => ?_)
    · skip
      have c0 : 0 < bcM (m 75) n i := by
        rcases Nat.eq_zero_or_pos (bcM (m 75) n i) with q | q
        · rw [show cnt (fun j => decide (bkV (vR (dyK (m 75) i)) j)) n = 0 from q] at c25
          exact absurd rfl c25
        · exact q
      exact lX4_bi38 n hk i (by omega) hy (fun q => by omega)
    · skip
      have c0 : bcM (m 75) n i = 0 := by
        rcases Nat.eq_zero_or_pos (bcM (m 75) n i) with q | q
        · exact q
        · exact absurd (nI_ne0 q (by have : bcM (m 75) n i ≤ n := cnt_le (fun j => decide (bkV (vR (dyK (m 75) i)) j)) n; omega)) c25
      refine Z_aload_n 29 1 dX4_breaksIn_28 rfl rfl ?_
      refine Z_callV 32 [] 4 (zX4_goDay (m := (gdK (cpR m 75 0 76 0 95) i))) dX4_breaksIn_29 rfl qX4_120 kX4_goDay rfl rfl (Nat.le_of_ble_eq_true rfl) rfl rfl ⟨(Nat.le_of_ble_eq_true rfl), (Nat.le_of_ble_eq_true rfl)⟩ (Nat.le_of_ble_eq_true rfl) ⟨rfl, rfl⟩ ⟨(Nat.le_of_ble_eq_true rfl), (Nat.le_of_ble_eq_true rfl)⟩ (fun r9 w9 hp9 => ?_)
      obtain ⟨rfl, rfl⟩ := hp9
      refine Z_iinc 35 [(1, _), (0, _)] 0 _ dX4_breaksIn_32 rfl (Nat.le_of_ble_eq_true rfl) rfl (nI_1 _) rfl ?_
      refine Z_goto 15 dX4_breaksIn_35 rfl ?_
      exact ih (i + 1) (by omega) (fun j hj => by
        rcases Nat.lt_succ_iff_lt_or_eq.mp hj with g | g
        · exact hy j g
        · rw [g]
          exact c0)

set_option maxRecDepth 100000 in
set_option maxHeartbeats 4000000 in
theorem zX4_breaksIn {G : zG} {l : Launch} {h : Nat → Nat} {m : zM} (n : Nat) (hk : sOk (vR (m 75)) 1 n) : zMet G l yX4_breaksIn mX4_breaksIn [.ref (G.1 + 74)] (zw h m) (fun r w => ∃ m' v, w = zw h m' ∧ Fr 76 m m' ∧ r = some (.int v) ∧ brkIn (bcM (m 75) n) v) 0 0 := by
  refine zMet_of [(0, .ref (G.1 + 74))] (by decide +kernel) rfl (Or.inl rfl) (Nat.le_of_ble_eq_true rfl) rfl ?_
  refine Z_aload_n 1 0 dX4_breaksIn_0 rfl rfl ?_
  refine Z_getR 4 dX4_breaksIn_1 rfl fX4_7 (Nat.le_of_ble_eq_true rfl) rfl rfl ?_
  refine Z_iconst 5 (nI 0) dX4_breaksIn_4 rfl rfl ?_
  refine Z_aload_n 6 0 dX4_breaksIn_5 rfl rfl ?_
  refine Z_getR 9 dX4_breaksIn_6 rfl fX4_13 (Nat.le_of_ble_eq_true rfl) rfl rfl ?_
  refine Z_iconst 10 (nI 0) dX4_breaksIn_9 rfl rfl ?_
  refine Z_callS 13 [_, _, _, _] (zX4_copies (m := m) 75 76 95 95 0 0 (by decide) (by decide) rfl rfl (by decide) (by decide) (by decide) (by decide) (by decide)) dX4_breaksIn_10 rfl qX4_42 kX4_copies rfl rfl ⟨(Nat.le_of_ble_eq_true rfl), (Nat.le_of_ble_eq_true rfl)⟩ (Nat.le_of_ble_eq_true rfl) ⟨rfl, rfl⟩ ⟨(Nat.le_of_ble_eq_true rfl), (Nat.le_of_ble_eq_true rfl)⟩ (fun r9 w9 hp9 => ?_)
  obtain ⟨rfl, rfl⟩ := hp9
  refine Z_iconst 14 (nI 0) dX4_breaksIn_13 rfl rfl ?_
  refine Z_istore_n 15 [(1, _), (0, _)] dX4_breaksIn_14 rfl (Nat.le_of_ble_eq_true rfl) rfl ?_
  refine Z_w (w' := zw h (gdK (cpR m 75 0 76 0 95) 0)) rfl ?_
  exact lX4_breaksIn n hk 60 0 (by omega) (fun j hj => absurd hj (Nat.not_lt_zero j))

set_option maxRecDepth 100000 in
set_option maxHeartbeats 4000000 in
theorem lX4_tg {G : zG} {l : Launch} {h : Nat → Nat} {m : zM} (n : Nat) (g9 : gOk (vR (m 75)) n) (f o : Nat) (hf : f < 8) (ho : o < 8) : ∀ (T : Nat) (mm : zM) (d F : Int32), Fr 80 m mm → d.toInt = (T : Int) - 31 → T ≤ 91 → ((F = -4 ∧ (T ≤ 90 → ¬ FeI (vR (m 75)) n f o 60)) ∨ ∃ e : Int, d.toInt < e ∧ e ≤ 60 ∧ FeI (vR (m 75)) n f o e ∧ (∀ u, d.toInt < u → u < e → ¬ FeI (vR (m 75)) n f o u) ∧ F.toInt = e + 100) → Z G mX4_tightest (fun _ => True) (zN G (fun r w => ∃ m', w = zw h m' ∧ Fr 80 m m' ∧ ((¬ FeI (vR (m 75)) n f o 60 ∧ r = some (.int (-4))) ∨ ∃ d : Int, -30 ≤ d ∧ d ≤ 60 ∧ FeI (vR (m 75)) n f o d ∧ (∀ e, -30 ≤ e → e < d → ¬ FeI (vR (m 75)) n f o e) ∧ ∃ v, r = some (.int v) ∧ v.toInt = d + 100)) 0 0) l 0 0 (zw h mm) 17 [(4, .int d), (3, .int F), (0, .ref (G.1 + 74)), (1, .int (nI f)), (2, .int (nI o))] [] := by
  have hm30 : (-30 : Int32).toInt = -30 := rfl
  have h100 : (nI 100).toInt = 100 := rfl
  have hm1 : (Int32.ofInt (-1)).toInt = -1 := rfl
  intro T
  induction T with
  | zero =>
    intro mm d F hF hd hT hI
    refine Z_iload 19 0 dX4_tightest_17 rfl rfl ?_
    refine Z_bipush 21 (-30) dX4_tightest_19 rfl rfl ?_
    refine Z_icmp_lt 24 51 dX4_tightest_21 rfl rfl (fun c21 => ?_) (fun c21 => absurd (by rw [i32_lt, hm30]; omega) c21)
    refine Z_iload_n 52 1 dX4_tightest_51 rfl rfl ?_
    refine Z_iret dX4_tightest_52 rfl ⟨mm, rfl, hF, ?_⟩
    rcases hI with ⟨rfl, hI⟩ | ⟨e, h1, h2, h3, h4, h5⟩
    · exact Or.inl ⟨hI (by omega), rfl⟩
    · exact Or.inr ⟨e, by omega, h2, h3, fun u hu1 hu2 => h4 u (by omega) hu2, F, rfl, h5⟩
  | succ T ih =>
    intro mm d F hF hd hT hI
    have hd1 : (d + Int32.ofInt (-1)).toInt = (T : Int) - 31 := by
      rw [i32_add (by omega) (by omega)]
      omega
    refine Z_iload 19 0 dX4_tightest_17 rfl rfl ?_
    refine Z_bipush 21 (-30) dX4_tightest_19 rfl rfl ?_
    refine Z_icmp_lt 24 51 dX4_tightest_21 rfl rfl (fun c21 => absurd c21 (by rw [i32_lt, hm30]; omega)) (fun c21 => ?_)
    refine Z_aload_n 25 2 dX4_tightest_24 rfl rfl ?_
    refine Z_iload_n 26 3 dX4_tightest_25 rfl rfl ?_
    refine Z_iload_n 27 4 dX4_tightest_26 rfl rfl ?_
    refine Z_iload 29 0 dX4_tightest_27 rfl rfl ?_
    refine Z_callV 32 [_, _, _] 4 (zX4_isPossible (m := mm) n (by rw [hF 75 (by decide)]; exact g9) f o hf ho d ⟨by omega, by omega⟩) dX4_tightest_29 rfl qX4_80 kX4_isPossible rfl rfl (Nat.le_of_ble_eq_true rfl) rfl rfl ⟨(Nat.le_of_ble_eq_true rfl), (Nat.le_of_ble_eq_true rfl)⟩ (Nat.le_of_ble_eq_true rfl) ⟨rfl, rfl⟩ ⟨(Nat.le_of_ble_eq_true rfl), (Nat.le_of_ble_eq_true rfl)⟩ (fun r9 w9 hp9 => ?_)
    rw [hF 75 (by decide)] at hp9
    obtain ⟨m2, rfl, hF2, hr9⟩ := hp9
    rcases hr9 with ⟨hr8, hfe⟩ | ⟨hr8, hfe⟩
    · cases hr8
      refine Z_if_eq 35 43 dX4_tightest_32 rfl rfl (fun c32 => absurd c32 (by decide)) (fun c32 => ?_)
      refine Z_iload 37 0 dX4_tightest_35 rfl rfl ?_
      refine Z_bipush 39 (nI 100) dX4_tightest_37 rfl rfl ?_
      refine Z_iadd 40 dX4_tightest_39 rfl ?_
      refine Z_goto 44 dX4_tightest_40 rfl ?_
      refine Z_istore_n 45 [(3, _), (4, _), (0, _), (1, _), (2, _)] dX4_tightest_44 rfl (Nat.le_of_ble_eq_true rfl) rfl ?_
      refine Z_iinc 48 [(4, _), (3, _), (0, _), (1, _), (2, _)] 1 (d + Int32.ofInt (-1)) dX4_tightest_45 rfl (Nat.le_of_ble_eq_true rfl) rfl rfl rfl ?_
      refine Z_goto 17 dX4_tightest_48 rfl ?_
      refine ih m2 _ _ (hF.trans hF2) hd1 (by omega) ?_
      exact Or.inr ⟨d.toInt, by omega, by omega, hfe, fun u hu1 hu2 => by omega, by rw [i32_add (by rw [h100]; omega) (by rw [h100]; omega), h100]⟩
    · cases hr8
      refine Z_if_eq 35 43 dX4_tightest_32 rfl rfl (fun c32 => ?_) (fun c32 => absurd (rfl) c32)
      refine Z_iload_n 44 1 dX4_tightest_43 rfl rfl ?_
      refine Z_istore_n 45 [(3, _), (4, _), (0, _), (1, _), (2, _)] dX4_tightest_44 rfl (Nat.le_of_ble_eq_true rfl) rfl ?_
      refine Z_iinc 48 [(4, _), (3, _), (0, _), (1, _), (2, _)] 1 (d + Int32.ofInt (-1)) dX4_tightest_45 rfl (Nat.le_of_ble_eq_true rfl) rfl rfl rfl ?_
      refine Z_goto 17 dX4_tightest_48 rfl ?_
      refine ih m2 _ _ (hF.trans hF2) hd1 (by omega) ?_
      rcases hI with ⟨rfl, hI⟩ | ⟨e, h1, h2, h3, h4, h5⟩
      · refine Or.inl ⟨rfl, fun _ => ?_⟩
        by_cases g : T + 1 ≤ 90
        · exact hI g
        · rw [show (60 : Int) = d.toInt by omega]
          exact hfe
      · refine Or.inr ⟨e, by omega, h2, h3, fun u hu1 hu2 => ?_, h5⟩
        rcases Int.lt_or_le d.toInt u with g | g
        · exact h4 u g hu2
        · rw [show u = d.toInt by omega]
          exact hfe
set_option maxRecDepth 100000 in
set_option maxHeartbeats 4000000 in
theorem eX4_tightest {G : zG} {l : Launch} {h : Nat → Nat} {m : zM} (x1 x2 : Int32) (hne : ¬ (hdg x1 ∧ hdg x2 ∧ ¬ x1 = x2)) : zMet G l yX4_tightest mX4_tightest [.ref (G.1 + 74), .int x1, .int x2] (zw h m) (fun r w => r = some (.int (-1)) ∧ w = zw h m) 0 0 := by
  refine zMet_of [(0, .ref (G.1 + 74)), (1, .int x1), (2, .int x2)] (by decide +kernel) rfl (Or.inl rfl) (Nat.le_of_ble_eq_true rfl) rfl ?_
  refine Z_iload_n 1 1 dX4_tightest_0 rfl rfl ?_
  refine Z_iload_n 2 2 dX4_tightest_1 rfl rfl ?_
  refine Z_callS 5 [_, _] (zX4_isPair _ _) dX4_tightest_2 rfl qX4_90 kX4_isPair rfl rfl ⟨(Nat.le_of_ble_eq_true rfl), (Nat.le_of_ble_eq_true rfl)⟩ (Nat.le_of_ble_eq_true rfl) ⟨rfl, rfl⟩ ⟨(Nat.le_of_ble_eq_true rfl), (Nat.le_of_ble_eq_true rfl)⟩ (fun r9 w9 hp9 => ?_)
  obtain ⟨rfl, rfl⟩ := hp9
  refine Z_if_ne 8 10 dX4_tightest_5 rfl rfl (fun c5 => absurd c5 (fun q => hne (bI_1 q))) (fun c5 => ?_)
  refine Z_iconst 9 (-1) dX4_tightest_8 rfl rfl ?_
  exact Z_iret dX4_tightest_9 rfl ⟨rfl, rfl⟩

set_option maxRecDepth 100000 in
set_option maxHeartbeats 4000000 in
theorem zX4_tightest {G : zG} {l : Launch} {h : Nat → Nat} {m : zM} (n : Nat) (g9 : gOk (vR (m 75)) n) (f o : Nat) (hf : f < 8) (ho : o < 8) (hag : hdg (nI f) ∧ hdg (nI o) ∧ ¬ nI f = nI o) : zMet G l yX4_tightest mX4_tightest [.ref (G.1 + 74), .int (nI f), .int (nI o)] (zw h m) (fun r w => ∃ m', w = zw h m' ∧ Fr 80 m m' ∧ ((¬ FeI (vR (m 75)) n f o 60 ∧ r = some (.int (-4))) ∨ ∃ d : Int, -30 ≤ d ∧ d ≤ 60 ∧ FeI (vR (m 75)) n f o d ∧ (∀ e, -30 ≤ e → e < d → ¬ FeI (vR (m 75)) n f o e) ∧ ∃ v, r = some (.int v) ∧ v.toInt = d + 100)) 0 0 := by
  refine zMet_of [(0, .ref (G.1 + 74)), (1, .int (nI f)), (2, .int (nI o))] (by decide +kernel) rfl (Or.inl rfl) (Nat.le_of_ble_eq_true rfl) rfl ?_
  refine Z_iload_n 1 1 dX4_tightest_0 rfl rfl ?_
  refine Z_iload_n 2 2 dX4_tightest_1 rfl rfl ?_
  refine Z_callS 5 [_, _] (zX4_isPair _ _) dX4_tightest_2 rfl qX4_90 kX4_isPair rfl rfl ⟨(Nat.le_of_ble_eq_true rfl), (Nat.le_of_ble_eq_true rfl)⟩ (Nat.le_of_ble_eq_true rfl) ⟨rfl, rfl⟩ ⟨(Nat.le_of_ble_eq_true rfl), (Nat.le_of_ble_eq_true rfl)⟩ (fun r9 w9 hp9 => ?_)
  obtain ⟨rfl, rfl⟩ := hp9
  refine Z_if_ne 8 10 dX4_tightest_5 rfl rfl (fun c5 => ?_) (fun c5 => absurd (bI_ne hag) c5)
  refine Z_bipush 12 (-4) dX4_tightest_10 rfl rfl ?_
  refine Z_istore_n 13 [(3, _), (0, _), (1, _), (2, _)] dX4_tightest_12 rfl (Nat.le_of_ble_eq_true rfl) rfl ?_
  refine Z_bipush 15 (nI 60) dX4_tightest_13 rfl rfl ?_
  refine Z_istore 17 [(4, _), (3, _), (0, _), (1, _), (2, _)] dX4_tightest_15 rfl (Nat.le_of_ble_eq_true rfl) rfl ?_
  exact lX4_tg n g9 f o hf ho 91 m _ _ Fr.rf (by decide) (by decide) (Or.inl ⟨rfl, fun z => by omega⟩)

set_option maxRecDepth 100000 in
set_option maxHeartbeats 4000000 in
theorem eX4_undo {G : zG} {l : Launch} {h : Nat → Nat} {m : zM} (hst : m 74 3 = nI 0) : zMet G l yX4_undo mX4_undo [.ref (G.1 + 74)] (zw h m) (fun r w => r = some (.int (-2)) ∧ w = zw h m) 0 0 := by
  refine zMet_of [(0, .ref (G.1 + 74))] (by decide +kernel) rfl (Or.inl rfl) (Nat.le_of_ble_eq_true rfl) rfl ?_
  refine Z_aload_n 1 0 dX4_undo_0 rfl rfl ?_
  refine Z_getI 4 dX4_undo_1 rfl fX4_38 (Nat.le_of_ble_eq_true rfl) rfl rfl ?_
  refine Z_top (congrArg Value.int hst) ?_
  refine Z_if_ne 7 10 dX4_undo_4 rfl rfl (fun c4 => absurd c4 (fun q => q rfl)) (fun c4 => ?_)
  refine Z_bipush 9 (-2) dX4_undo_7 rfl rfl ?_
  exact Z_iret dX4_undo_9 rfl ⟨rfl, rfl⟩

set_option maxRecDepth 100000 in
set_option maxHeartbeats 4000000 in
theorem zX4_undo {G : zG} {l : Launch} {h : Nat → Nat} {m : zM} (s : Nat) (hs : s < 4) (hst : m 74 3 = nI (s + 1)) : zMet G l yX4_undo mX4_undo [.ref (G.1 + 74)] (zw h m) (fun r w => r = some (.int (nI s)) ∧ w = zw h (cpR (up2 m 74 3 (nI s)) 77 (95 * s) 75 0 95)) 0 0 := by
  refine zMet_of [(0, .ref (G.1 + 74))] (by decide +kernel) rfl (Or.inl rfl) (Nat.le_of_ble_eq_true rfl) rfl ?_
  refine Z_aload_n 1 0 dX4_undo_0 rfl rfl ?_
  refine Z_getI 4 dX4_undo_1 rfl fX4_38 (Nat.le_of_ble_eq_true rfl) rfl rfl ?_
  refine Z_top (congrArg Value.int hst) ?_
  refine Z_if_ne 7 10 dX4_undo_4 rfl rfl (fun c4 => ?_) (fun c4 => absurd (nI_ne0 (by omega) (by omega)) c4)
  refine Z_aload_n 11 0 dX4_undo_10 rfl rfl ?_
  refine Z_dup 12 dX4_undo_11 rfl rfl ?_
  refine Z_getI 15 dX4_undo_12 rfl fX4_38 (Nat.le_of_ble_eq_true rfl) rfl rfl ?_
  refine Z_top (congrArg Value.int hst) ?_
  refine Z_iconst 16 (nI 1) dX4_undo_15 rfl rfl ?_
  refine Z_isub 17 dX4_undo_16 rfl ?_
  refine Z_top (v' := .int (nI s)) (congrArg Value.int (nI_pred s)) ?_
  refine Z_putI 20 .int dX4_undo_17 rfl fX4_38 ft_4_3 (Nat.le_of_ble_eq_true rfl) rfl rfl rfl rfl ?_
  refine Z_aload_n 21 0 dX4_undo_20 rfl rfl ?_
  refine Z_getR 24 dX4_undo_21 rfl fX4_16 (Nat.le_of_ble_eq_true rfl) rfl rfl ?_
  refine Z_bipush 26 (nI 95) dX4_undo_24 rfl rfl ?_
  refine Z_aload_n 27 0 dX4_undo_26 rfl rfl ?_
  refine Z_getI 30 dX4_undo_27 rfl fX4_38 (Nat.le_of_ble_eq_true rfl) rfl rfl ?_
  refine Z_top (v' := .int (nI s)) (congrArg Value.int (up2_eq _ _ _ _)) ?_
  refine Z_imul 31 dX4_undo_30 rfl ?_
  refine Z_top (v' := .int (nI (95 * s))) (congrArg Value.int (n95 s)) ?_
  refine Z_aload_n 32 0 dX4_undo_31 rfl rfl ?_
  refine Z_getR 35 dX4_undo_32 rfl fX4_7 (Nat.le_of_ble_eq_true rfl) rfl rfl ?_
  refine Z_iconst 36 (nI 0) dX4_undo_35 rfl rfl ?_
  refine Z_callS 39 [_, _, _, _] (zX4_copies (m := up2 m 74 3 (nI s)) 77 75 380 95 (95 * s) 0 (by decide) (by decide) rfl rfl (by decide) (by omega) (by decide) (by decide) (by decide)) dX4_undo_36 rfl qX4_42 kX4_copies rfl rfl ⟨(Nat.le_of_ble_eq_true rfl), (Nat.le_of_ble_eq_true rfl)⟩ (Nat.le_of_ble_eq_true rfl) ⟨rfl, rfl⟩ ⟨(Nat.le_of_ble_eq_true rfl), (Nat.le_of_ble_eq_true rfl)⟩ (fun r9 w9 hp9 => ?_)
  obtain ⟨rfl, rfl⟩ := hp9
  refine Z_aload_n 40 0 dX4_undo_39 rfl rfl ?_
  refine Z_getI 43 dX4_undo_40 rfl fX4_38 (Nat.le_of_ble_eq_true rfl) rfl rfl ?_
  refine Z_top (v' := .int (nI s)) (congrArg Value.int (by rw [cpR_na _ (by decide)]; exact up2_eq _ _ _ _)) ?_
  exact Z_iret dX4_undo_43 rfl ⟨rfl, rfl⟩

set_option maxRecDepth 100000 in
set_option maxHeartbeats 4000000 in
theorem zX4_save {G : zG} {l : Launch} {h : Nat → Nat} {m : zM}  : zMet G l yX4_save mX4_save [.ref (G.1 + 74)] (zw h m) (fun r w => r = some (.int (m 75 2)) ∧ w = zw h (up2 (cpR m 75 0 78 0 95) 74 5 (nI 1))) 0 0 := by
  refine zMet_of [(0, .ref (G.1 + 74))] (by decide +kernel) rfl (Or.inl rfl) (Nat.le_of_ble_eq_true rfl) rfl ?_
  refine Z_aload_n 1 0 dX4_save_0 rfl rfl ?_
  refine Z_getR 4 dX4_save_1 rfl fX4_7 (Nat.le_of_ble_eq_true rfl) rfl rfl ?_
  refine Z_iconst 5 (nI 0) dX4_save_4 rfl rfl ?_
  refine Z_aload_n 6 0 dX4_save_5 rfl rfl ?_
  refine Z_getR 9 dX4_save_6 rfl fX4_19 (Nat.le_of_ble_eq_true rfl) rfl rfl ?_
  refine Z_iconst 10 (nI 0) dX4_save_9 rfl rfl ?_
  refine Z_callS 13 [_, _, _, _] (zX4_copies (m := m) 75 78 95 95 0 0 (by decide) (by decide) rfl rfl (by decide) (by decide) (by decide) (by decide) (by decide)) dX4_save_10 rfl qX4_42 kX4_copies rfl rfl ⟨(Nat.le_of_ble_eq_true rfl), (Nat.le_of_ble_eq_true rfl)⟩ (Nat.le_of_ble_eq_true rfl) ⟨rfl, rfl⟩ ⟨(Nat.le_of_ble_eq_true rfl), (Nat.le_of_ble_eq_true rfl)⟩ (fun r9 w9 hp9 => ?_)
  obtain ⟨rfl, rfl⟩ := hp9
  refine Z_aload_n 14 0 dX4_save_13 rfl rfl ?_
  refine Z_iconst 15 (nI 1) dX4_save_14 rfl rfl ?_
  refine Z_putI 18 .boolean dX4_save_15 rfl fX4_203 ft_4_5 (Nat.le_of_ble_eq_true rfl) rfl rfl rfl rfl ?_
  refine Z_aload_n 19 0 dX4_save_18 rfl rfl ?_
  refine Z_getR 22 dX4_save_19 rfl fX4_7 (Nat.le_of_ble_eq_true rfl) rfl rfl ?_
  refine Z_iconst 23 (nI 2) dX4_save_22 rfl rfl ?_
  refine Z_ialn 24 dX4_save_23 rfl (Nat.le_of_ble_eq_true rfl) rfl (by first | assumption | omega) (by decide) ?_
  refine Z_top (v' := .int (m 75 2)) (congrArg Value.int (by rw [up2_na _ _ _ (by decide), cpR_na _ (by decide)])) ?_
  exact Z_iret dX4_save_24 rfl ⟨rfl, rfl⟩

set_option maxRecDepth 100000 in
set_option maxHeartbeats 4000000 in
theorem eX4_restore {G : zG} {l : Launch} {h : Nat → Nat} {m : zM} (hst : m 74 5 = nI 0) : zMet G l yX4_restore mX4_restore [.ref (G.1 + 74)] (zw h m) (fun r w => r = some (.int (-2)) ∧ w = zw h m) 0 0 := by
  refine zMet_of [(0, .ref (G.1 + 74))] (by decide +kernel) rfl (Or.inl rfl) (Nat.le_of_ble_eq_true rfl) rfl ?_
  refine Z_aload_n 1 0 dX4_restore_0 rfl rfl ?_
  refine Z_getI 4 dX4_restore_1 rfl fX4_203 (Nat.le_of_ble_eq_true rfl) rfl rfl ?_
  refine Z_top (congrArg Value.int hst) ?_
  refine Z_if_ne 7 10 dX4_restore_4 rfl rfl (fun c4 => absurd c4 (fun q => q rfl)) (fun c4 => ?_)
  refine Z_bipush 9 (-2) dX4_restore_7 rfl rfl ?_
  exact Z_iret dX4_restore_9 rfl ⟨rfl, rfl⟩

set_option maxRecDepth 100000 in
set_option maxHeartbeats 4000000 in
theorem zX4_restore {G : zG} {l : Launch} {h : Nat → Nat} {m : zM} (s : Nat) (hs : s ≤ 4) (hst : m 74 3 = nI s) (hsv : m 74 5 = nI 1) : zMet G l yX4_restore mX4_restore [.ref (G.1 + 74)] (zw h m) (fun r w => r = some (.int (m 78 2)) ∧ w = zw h (cpR (recM m s) 78 0 75 0 95)) 0 0 := by
  refine zMet_of [(0, .ref (G.1 + 74))] (by decide +kernel) rfl (Or.inl rfl) (Nat.le_of_ble_eq_true rfl) rfl ?_
  refine Z_aload_n 1 0 dX4_restore_0 rfl rfl ?_
  refine Z_getI 4 dX4_restore_1 rfl fX4_203 (Nat.le_of_ble_eq_true rfl) rfl rfl ?_
  refine Z_top (congrArg Value.int hsv) ?_
  refine Z_if_ne 7 10 dX4_restore_4 rfl rfl (fun c4 => ?_) (fun c4 => absurd (by decide) c4)
  refine Z_aload_n 11 0 dX4_restore_10 rfl rfl ?_
  refine Z_callV 14 [] 4 (zX4_records s hs hst) dX4_restore_11 rfl qX4_113 kX4_records rfl rfl (Nat.le_of_ble_eq_true rfl) rfl rfl ⟨(Nat.le_of_ble_eq_true rfl), (Nat.le_of_ble_eq_true rfl)⟩ (Nat.le_of_ble_eq_true rfl) ⟨rfl, rfl⟩ ⟨(Nat.le_of_ble_eq_true rfl), (Nat.le_of_ble_eq_true rfl)⟩ (fun r9 w9 hp9 => ?_)
  obtain ⟨rfl, rfl⟩ := hp9
  refine Z_aload_n 15 0 dX4_restore_14 rfl rfl ?_
  refine Z_getR 18 dX4_restore_15 rfl fX4_19 (Nat.le_of_ble_eq_true rfl) rfl rfl ?_
  refine Z_iconst 19 (nI 0) dX4_restore_18 rfl rfl ?_
  refine Z_aload_n 20 0 dX4_restore_19 rfl rfl ?_
  refine Z_getR 23 dX4_restore_20 rfl fX4_7 (Nat.le_of_ble_eq_true rfl) rfl rfl ?_
  refine Z_iconst 24 (nI 0) dX4_restore_23 rfl rfl ?_
  refine Z_callS 27 [_, _, _, _] (zX4_copies (m := (recM m s)) 78 75 95 95 0 0 (by decide) (by decide) rfl rfl (by decide) (by decide) (by decide) (by decide) (by decide)) dX4_restore_24 rfl qX4_42 kX4_copies rfl rfl ⟨(Nat.le_of_ble_eq_true rfl), (Nat.le_of_ble_eq_true rfl)⟩ (Nat.le_of_ble_eq_true rfl) ⟨rfl, rfl⟩ ⟨(Nat.le_of_ble_eq_true rfl), (Nat.le_of_ble_eq_true rfl)⟩ (fun r9 w9 hp9 => ?_)
  obtain ⟨rfl, rfl⟩ := hp9
  refine Z_aload_n 28 0 dX4_restore_27 rfl rfl ?_
  refine Z_getR 31 dX4_restore_28 rfl fX4_7 (Nat.le_of_ble_eq_true rfl) rfl rfl ?_
  refine Z_iconst 32 (nI 2) dX4_restore_31 rfl rfl ?_
  refine Z_ialn 33 dX4_restore_32 rfl (Nat.le_of_ble_eq_true rfl) rfl (by first | assumption | omega) (by decide) ?_
  refine Z_top (v' := .int (m 78 2)) (congrArg Value.int (by show recM m s 78 (0 + (2 - 0)) = m 78 2; rw [recm_q _ _ (by decide) (by decide)])) ?_
  exact Z_iret dX4_restore_33 rfl ⟨rfl, rfl⟩
