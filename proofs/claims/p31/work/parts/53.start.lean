/-! the law: its new object, its first state -/
section
variable {G : zG} {l : Launch} {b L : Nat} {xs : Nat → Int32}
theorem hok0 : hOk hh0 := by
  refine ⟨fun k hk => ?_, fun i j hi hj h => ?_⟩
  · have e : k = 0 ∨ k = 1 ∨ k = 2 ∨ k = 3 := by omega
    rcases e with rfl | rfl | rfl | rfl
    · exact Or.inl rfl
    · exact Or.inr (Or.inl rfl)
    · exact Or.inr (Or.inr (Or.inl rfl))
    · exact Or.inr (Or.inr (Or.inr rfl))
  · have e : i = 0 ∨ i = 1 ∨ i = 2 ∨ i = 3 := by omega
    have e2 : j = 0 ∨ j = 1 ∨ j = 2 ∨ j = 3 := by omega
    rcases e with rfl | rfl | rfl | rfl <;> rcases e2 with rfl | rfl | rfl | rfl <;> first | rfl | exact absurd h (by decide)
theorem m1_1 : mz1 1 8 = nI 0 ∧ (∀ q, q < 8 → 0 ≤ (mz1 2 q).toInt ∧ (mz1 2 q).toInt ≤ 99) ∧ (∀ i, i < 8 → 0 ≤ (mz1 3 i).toInt ∧ (mz1 3 i).toInt ≤ 5) ∧ (0 ≤ (mz1 1 9).toInt ∧ (mz1 1 9).toInt ≤ ((0 : Nat) : Int)) ∧ (0 ≤ (mz1 1 10).toInt ∧ (mz1 1 10).toInt ≤ ((0 : Nat) : Int) + 10) ∧ (∀ i, i < 8 → 0 ≤ (mz1 5 i).toInt ∧ (mz1 5 i).toInt ≤ 99 * ((0 : Nat) : Int)) := by decide +kernel
theorem m1_2 : mz1 0 5 = nI 0 ∧ mz1 0 6 = nI 0 ∧ mz1 68 1 = nI 0 := by decide +kernel
theorem sy0 : Sy 0 hh0 mz1 0 0 := by
  obtain ⟨a1, a2, a3, a4, a5, a6⟩ := m1_1
  obtain ⟨b1, b2, b3⟩ := m1_2
  refine ⟨hok0, ⟨⟨⟨a1, by decide, fun t ht => absurd ht (Nat.not_lt_zero t)⟩, fun t ht => absurd ht (Nat.not_lt_zero t), a2, fun _ => 0, fun q hq => ⟨Int.le_refl 0, show (0 : Int) ≤ 99 by decide⟩, fun t ht => absurd ht (Nat.not_lt_zero t)⟩, fun t ht => absurd ht (Nat.not_lt_zero t), a3, a4, fun t ht => absurd ht (Nat.not_lt_zero t), a5, a6⟩, ⟨by decide, b1, fun k hk => absurd hk (Nat.not_lt_zero k)⟩, Or.inl b2, 0, by decide, b3⟩
set_option maxRecDepth 100000 in
set_option maxHeartbeats 4000000 in
theorem law_start (hL : L ≤ 260) : Z G mL_law (EL G b L xs) QL l 0 0 (0, oS rN3 ff0, mz0) 0 [(0, .ref b)] [] := by
  refine Z_newC 3 dL_law_0 rfl nw_RL_14 ov_a rfl ⟨(Nat.le_of_ble_eq_true rfl), (Nat.le_of_ble_eq_true rfl)⟩ ?_
  refine Z_dup 4 dL_law_3 rfl rfl ?_
  refine Z_callI 7 [] (zX3_init G l) rfl dL_law_4 rfl qL_118 kX3_init rfl rfl ⟨(Nat.le_of_ble_eq_true rfl), (Nat.le_of_ble_eq_true rfl)⟩ (Nat.le_of_ble_eq_true rfl) ⟨rfl, rfl⟩ ⟨(Nat.le_of_ble_eq_true rfl), (Nat.le_of_ble_eq_true rfl)⟩ (fun r9 w9 hp9 => ?_)
  obtain ⟨rfl, rfl⟩ := hp9
  refine Z_astore_n 8 [(1, _), (0, _)] dL_law_7 rfl (Nat.le_of_ble_eq_true rfl) rfl ?_
  have sy := sy0
  have hk := sy.ok
  have hF : Fsv mz1 mz1 := Fsv.rf
  refine Z_aload_n 9 0 dL_law_8 rfl rfl ?_
  refine Z_callS 12 [_] (zL_holds sy.inv hF) dL_law_9 rfl qL_119 kL_holds rfl rfl ⟨(Nat.le_of_ble_eq_true rfl), (Nat.le_of_ble_eq_true rfl)⟩ (Nat.le_of_ble_eq_true rfl) ⟨rfl, rfl⟩ ⟨(Nat.le_of_ble_eq_true rfl), (Nat.le_of_ble_eq_true rfl)⟩ (fun r9 w9 hp9 => ?_)
  obtain ⟨rfl, mm, rfl, hF⟩ := hp9
  refine Z_if_eq 15 52 dL_law_12 rfl rfl (fun c12 => absurd c12 (by decide)) (fun c12 => ?_)
  refine Z_aload_n 16 0 dL_law_15 rfl rfl ?_
  refine Z_iconst 17 (nI 0) dL_law_16 rfl rfl ?_
  refine Z_callS 20 [_, _] (zL_would sy.inv hF _) dL_law_17 rfl qL_123 kL_would rfl rfl ⟨(Nat.le_of_ble_eq_true rfl), (Nat.le_of_ble_eq_true rfl)⟩ (Nat.le_of_ble_eq_true rfl) ⟨rfl, rfl⟩ ⟨(Nat.le_of_ble_eq_true rfl), (Nat.le_of_ble_eq_true rfl)⟩ (fun r9 w9 hp9 => ?_)
  obtain ⟨rfl, mm, rfl, hF⟩ := hp9
  refine Z_if_eq 23 52 dL_law_20 rfl rfl (fun c20 => absurd c20 (by decide)) (fun c20 => ?_)
  refine Z_aload_n 24 0 dL_law_23 rfl rfl ?_
  refine Z_callV 27 [] 3 (e_undo sy hF) dL_law_24 rfl qL_126 kX3_undo rfl rfl (Nat.le_of_ble_eq_true rfl) rfl rfl ⟨(Nat.le_of_ble_eq_true rfl), (Nat.le_of_ble_eq_true rfl)⟩ (Nat.le_of_ble_eq_true rfl) ⟨rfl, rfl⟩ ⟨(Nat.le_of_ble_eq_true rfl), (Nat.le_of_ble_eq_true rfl)⟩ (fun r9 w9 hp9 => ?_)
  obtain ⟨rfl, mm, rfl, hF⟩ := hp9
  refine Z_bipush 29 (-2) dL_law_27 rfl rfl ?_
  refine Z_icmp_ne 32 52 dL_law_29 rfl rfl (fun c29 => absurd c29 (by decide)) (fun c29 => ?_)
  refine Z_aload_n 33 0 dL_law_32 rfl rfl ?_
  refine Z_callV 36 [] 3 (e_restore hF m1_2.2.1) dL_law_33 rfl qL_129 kX3_restore rfl rfl (Nat.le_of_ble_eq_true rfl) rfl rfl ⟨(Nat.le_of_ble_eq_true rfl), (Nat.le_of_ble_eq_true rfl)⟩ (Nat.le_of_ble_eq_true rfl) ⟨rfl, rfl⟩ ⟨(Nat.le_of_ble_eq_true rfl), (Nat.le_of_ble_eq_true rfl)⟩ (fun r9 w9 hp9 => ?_)
  obtain ⟨rfl, mm, rfl, hF⟩ := hp9
  refine Z_bipush 38 (-2) dL_law_36 rfl rfl ?_
  refine Z_icmp_ne 41 52 dL_law_38 rfl rfl (fun c38 => absurd c38 (by decide)) (fun c38 => ?_)
  refine Z_aload_n 42 0 dL_law_41 rfl rfl ?_
  refine Z_callV 45 [] 3 (v_save sy hF) dL_law_42 rfl qL_132 kX3_save rfl rfl (Nat.le_of_ble_eq_true rfl) rfl rfl ⟨(Nat.le_of_ble_eq_true rfl), (Nat.le_of_ble_eq_true rfl)⟩ (Nat.le_of_ble_eq_true rfl) ⟨rfl, rfl⟩ ⟨(Nat.le_of_ble_eq_true rfl), (Nat.le_of_ble_eq_true rfl)⟩ (fun r9 w9 hp9 => ?_)
  obtain ⟨rfl, S9, rfl, syS, eS, hS9⟩ := hp9
  have hk := syS.ok
  have hF : Fsv S9 S9 := Fsv.rf
  refine Z_if_ne 48 52 dL_law_45 rfl rfl (fun c45 => absurd c45 (by decide)) (fun c45 => ?_)
  refine Z_iconst 49 (nI 1) dL_law_48 rfl rfl ?_
  refine Z_goto 53 dL_law_49 rfl ?_
  refine Z_istore_n 54 [(2, _), (1, _), (0, _)] dL_law_53 rfl (Nat.le_of_ble_eq_true rfl) rfl ?_
  refine Z_aload_n 55 1 dL_law_54 rfl rfl ?_
  refine Z_callS 58 [_] (zL_look hF hk) dL_law_55 rfl qL_65 kL_look rfl rfl ⟨(Nat.le_of_ble_eq_true rfl), (Nat.le_of_ble_eq_true rfl)⟩ (Nat.le_of_ble_eq_true rfl) ⟨rfl, rfl⟩ ⟨(Nat.le_of_ble_eq_true rfl), (Nat.le_of_ble_eq_true rfl)⟩ (fun r9 w9 hp9 => ?_)
  obtain ⟨rfl, mm, rfl, hF⟩ := hp9
  refine Z_lstore_n 59 [(3, _), (2, _), (1, _), (0, _)] dL_law_58 rfl (Nat.le_of_ble_eq_true rfl) rfl ?_
  refine Z_iconst 60 (nI 0) dL_law_59 rfl rfl ?_
  refine Z_istore 62 [(5, _), (3, _), (2, _), (1, _), (0, _)] dL_law_60 rfl (Nat.le_of_ble_eq_true rfl) rfl ?_
  exact law62 hL 54 0 (by omega) hh0 S9 0 0 _ syS (by rw [lkV_eq eS syS.ok]; exact hS9) _ hF
end
