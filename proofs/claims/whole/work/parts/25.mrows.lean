/-! the model: about, sums, days, records -/
theorem up2_self (m : zM) (a k : Nat) : up2 m a k (m a k) = m := by
  funext q j
  unfold up2
  by_cases g : q = a ∧ j = k
  · rw [if_pos g, g.1, g.2]
  · rw [if_neg g]
set_option maxRecDepth 100000 in
set_option maxHeartbeats 4000000 in
theorem zX4_isAbout {G : zG} {l : Launch} {h : Nat → Nat} {m : zM} (t : Nat) (ht : t < 14) (x : Int32) : zMet G l yX4_isAbout mX4_isAbout [.ref (G.1 + 74), .int (nI t), .int x] (zw h m) (fun r w => r = some (.int (bI ((vR (m 75)) (1 + 5) t = x ∨ (vR (m 75)) (1 + 6) t = x))) ∧ w = zw h m) 0 0 := by
  refine zMet_of [(0, .ref (G.1 + 74)), (1, .int (nI t)), (2, .int x)] (by decide +kernel) rfl (Or.inl rfl) (Nat.le_of_ble_eq_true rfl) rfl ?_
  refine Z_aload_n 1 0 dX4_isAbout_0 rfl rfl ?_
  refine Z_iload_n 2 1 dX4_isAbout_1 rfl rfl ?_
  refine Z_iconst 3 (nI 0) dX4_isAbout_2 rfl rfl ?_
  refine Z_callV 6 [_, _] 4 (zX4_ofTreaty t 0 ht (by decide)) dX4_isAbout_3 rfl qX4_54 kX4_ofTreaty rfl rfl (Nat.le_of_ble_eq_true rfl) rfl rfl ⟨(Nat.le_of_ble_eq_true rfl), (Nat.le_of_ble_eq_true rfl)⟩ (Nat.le_of_ble_eq_true rfl) ⟨rfl, rfl⟩ ⟨(Nat.le_of_ble_eq_true rfl), (Nat.le_of_ble_eq_true rfl)⟩ (fun r9 w9 hp9 => ?_)
  obtain ⟨rfl, rfl⟩ := hp9
  refine Z_iload_n 7 2 dX4_isAbout_6 rfl rfl ?_
  refine Z_icmp_eq 10 20 dX4_isAbout_7 rfl rfl (fun c7 => ?_) (fun c7 => ?_)
  · skip
    refine Z_iconst 21 (nI 1) dX4_isAbout_20 rfl rfl ?_
    refine Z_goto 25 dX4_isAbout_21 rfl ?_
    exact Z_zret dX4_isAbout_25 rfl (by first | exact Or.inl rfl | exact Or.inr rfl | exact bI_01) (by first | exact ⟨bRt (Or.inl c7), rfl⟩ | exact ⟨bRt (Or.inr (Decidable.not_not.mp c17)), rfl⟩ | exact ⟨bRf (fun q => q.elim c7 c17), rfl⟩)
  · skip
    refine Z_aload_n 11 0 dX4_isAbout_10 rfl rfl ?_
    refine Z_iload_n 12 1 dX4_isAbout_11 rfl rfl ?_
    refine Z_iconst 13 (nI 1) dX4_isAbout_12 rfl rfl ?_
    refine Z_callV 16 [_, _] 4 (zX4_ofTreaty t 1 ht (by decide)) dX4_isAbout_13 rfl qX4_54 kX4_ofTreaty rfl rfl (Nat.le_of_ble_eq_true rfl) rfl rfl ⟨(Nat.le_of_ble_eq_true rfl), (Nat.le_of_ble_eq_true rfl)⟩ (Nat.le_of_ble_eq_true rfl) ⟨rfl, rfl⟩ ⟨(Nat.le_of_ble_eq_true rfl), (Nat.le_of_ble_eq_true rfl)⟩ (fun r9 w9 hp9 => ?_)
    obtain ⟨rfl, rfl⟩ := hp9
    refine Z_iload_n 17 2 dX4_isAbout_16 rfl rfl ?_
    refine Z_icmp_ne 20 24 dX4_isAbout_17 rfl rfl (fun c17 => ?_) (fun c17 => ?_)
    · skip
      refine Z_iconst 25 (nI 0) dX4_isAbout_24 rfl rfl ?_
      exact Z_zret dX4_isAbout_25 rfl (by first | exact Or.inl rfl | exact Or.inr rfl | exact bI_01) (by first | exact ⟨bRt (Or.inl c7), rfl⟩ | exact ⟨bRt (Or.inr (Decidable.not_not.mp c17)), rfl⟩ | exact ⟨bRf (fun q => q.elim c7 c17), rfl⟩)
    · skip
      refine Z_iconst 21 (nI 1) dX4_isAbout_20 rfl rfl ?_
      refine Z_goto 25 dX4_isAbout_21 rfl ?_
      exact Z_zret dX4_isAbout_25 rfl (by first | exact Or.inl rfl | exact Or.inr rfl | exact bI_01) (by first | exact ⟨bRt (Or.inl c7), rfl⟩ | exact ⟨bRt (Or.inr (Decidable.not_not.mp c17)), rfl⟩ | exact ⟨bRf (fun q => q.elim c7 c17), rfl⟩)

set_option maxRecDepth 100000 in
set_option maxHeartbeats 4000000 in
theorem lX4_brokenAbout {G : zG} {l : Launch} {h : Nat → Nat} {m : zM} (n : Nat) (hk : sOk (vR (m 75)) 1 n) (x : Int32) : ∀ (t i : Nat), i + t = n → Z G mX4_brokenAbout (fun _ => True) (zN G (fun r w => r = some (.int (nI (cnt (fun j => decide (((vR (m 75)) (1 + 5) j = x ∨ (vR (m 75)) (1 + 6) j = x) ∧ bkV (vR (m 75)) j)) n))) ∧ w = zw h m) 0 0) l 0 0 (zw h m) 4 [(3, .int (nI i)), (2, .int (nI (cnt (fun j => decide (((vR (m 75)) (1 + 5) j = x ∨ (vR (m 75)) (1 + 6) j = x) ∧ bkV (vR (m 75)) j)) i))), (0, .ref (G.1 + 74)), (1, .int x)] [] := by
  intro t
  induction t with
  | zero =>
    intro i hi
    have e9 : i = n := by omega
    subst e9
    have hn14 := hk.2.1
    refine Z_iload_n 5 0 dX4_brokenAbout_4 rfl rfl ?_
    refine Z_aload_n 6 2 dX4_brokenAbout_5 rfl rfl ?_
    refine Z_getR 9 dX4_brokenAbout_6 rfl fX4_7 (Nat.le_of_ble_eq_true rfl) rfl rfl ?_
    refine Z_iconst 10 (nI 2) dX4_brokenAbout_9 rfl rfl ?_
    refine Z_ialn 11 dX4_brokenAbout_10 rfl (Nat.le_of_ble_eq_true rfl) rfl (by first | assumption | omega) (by decide) ?_
    refine Z_top (congrArg Value.int hk.1) ?_
    refine Z_icmp_ge 14 45 dX4_brokenAbout_11 rfl rfl (fun c11 => ?_) (fun c11 => absurd (nI_le (Nat.le_refl _) (by omega)) c11)
    refine Z_iload_n 46 1 dX4_brokenAbout_45 rfl rfl ?_
    exact Z_iret dX4_brokenAbout_46 rfl ⟨rfl, rfl⟩
  | succ t ih =>
    intro i hi
    have hlt : i < n := by omega
    have hn14 := hk.2.1
    refine Z_iload_n 5 0 dX4_brokenAbout_4 rfl rfl ?_
    refine Z_aload_n 6 2 dX4_brokenAbout_5 rfl rfl ?_
    refine Z_getR 9 dX4_brokenAbout_6 rfl fX4_7 (Nat.le_of_ble_eq_true rfl) rfl rfl ?_
    refine Z_iconst 10 (nI 2) dX4_brokenAbout_9 rfl rfl ?_
    refine Z_ialn 11 dX4_brokenAbout_10 rfl (Nat.le_of_ble_eq_true rfl) rfl (by first | assumption | omega) (by decide) ?_
    refine Z_top (congrArg Value.int hk.1) ?_
    refine Z_icmp_ge 14 45 dX4_brokenAbout_11 rfl rfl (fun c11 => absurd c11 (nI_ge hlt (by omega))) (fun c11 => ?_)
    refine Z_iload_n 15 1 dX4_brokenAbout_14 rfl rfl ?_
    refine Z_aload_n 16 2 dX4_brokenAbout_15 rfl rfl ?_
    refine Z_iload_n 17 0 dX4_brokenAbout_16 rfl rfl ?_
    refine Z_iload_n 18 3 dX4_brokenAbout_17 rfl rfl ?_
    refine Z_callV 21 [_, _] 4 (zX4_isAbout i (by omega) x) dX4_brokenAbout_18 rfl qX4_176 kX4_isAbout rfl rfl (Nat.le_of_ble_eq_true rfl) rfl rfl ⟨(Nat.le_of_ble_eq_true rfl), (Nat.le_of_ble_eq_true rfl)⟩ (Nat.le_of_ble_eq_true rfl) ⟨rfl, rfl⟩ ⟨(Nat.le_of_ble_eq_true rfl), (Nat.le_of_ble_eq_true rfl)⟩ (fun r9 w9 hp9 => ?_)
    obtain ⟨rfl, rfl⟩ := hp9
    refine Z_if_eq 24 36 dX4_brokenAbout_21 rfl rfl (fun c21 => ?_) (fun c21 => ?_)
    · skip
      refine Z_iconst 37 (nI 0) dX4_brokenAbout_36 rfl rfl ?_
      refine Z_iadd 38 dX4_brokenAbout_37 rfl ?_
      refine Z_top (v' := .int (nI (cnt (fun j => decide (((vR (m 75)) (1 + 5) j = x ∨ (vR (m 75)) (1 + 6) j = x) ∧ bkV (vR (m 75)) j)) (i + 1)))) (by first | exact congrArg Value.int (cnt_t (decide_eq_true ⟨bI_1 c21, bI_1 c29⟩)) | exact congrArg Value.int (cnt_f (decide_eq_false (fun q => bI_0 c21 q.1))) | exact congrArg Value.int (cnt_f (decide_eq_false (fun q => bI_0 c29 q.2)))) ?_
      refine Z_istore_n 39 [(2, _), (3, _), (0, _), (1, _)] dX4_brokenAbout_38 rfl (Nat.le_of_ble_eq_true rfl) rfl ?_
      refine Z_iinc 42 [(3, _), (2, _), (0, _), (1, _)] 1 _ dX4_brokenAbout_39 rfl (Nat.le_of_ble_eq_true rfl) rfl (nI_1 _) rfl ?_
      refine Z_goto 4 dX4_brokenAbout_42 rfl ?_
      exact ih (i + 1) (by omega)
    · skip
      refine Z_aload_n 25 2 dX4_brokenAbout_24 rfl rfl ?_
      refine Z_iload_n 26 0 dX4_brokenAbout_25 rfl rfl ?_
      refine Z_callV 29 [_] 4 (zX4_isBroken n hk i hlt) dX4_brokenAbout_26 rfl qX4_65 kX4_isBroken rfl rfl (Nat.le_of_ble_eq_true rfl) rfl rfl ⟨(Nat.le_of_ble_eq_true rfl), (Nat.le_of_ble_eq_true rfl)⟩ (Nat.le_of_ble_eq_true rfl) ⟨rfl, rfl⟩ ⟨(Nat.le_of_ble_eq_true rfl), (Nat.le_of_ble_eq_true rfl)⟩ (fun r9 w9 hp9 => ?_)
      obtain ⟨rfl, rfl⟩ := hp9
      refine Z_if_eq 32 36 dX4_brokenAbout_29 rfl rfl (fun c29 => ?_) (fun c29 => ?_)
      · skip
        refine Z_iconst 37 (nI 0) dX4_brokenAbout_36 rfl rfl ?_
        refine Z_iadd 38 dX4_brokenAbout_37 rfl ?_
        refine Z_top (v' := .int (nI (cnt (fun j => decide (((vR (m 75)) (1 + 5) j = x ∨ (vR (m 75)) (1 + 6) j = x) ∧ bkV (vR (m 75)) j)) (i + 1)))) (by first | exact congrArg Value.int (cnt_t (decide_eq_true ⟨bI_1 c21, bI_1 c29⟩)) | exact congrArg Value.int (cnt_f (decide_eq_false (fun q => bI_0 c21 q.1))) | exact congrArg Value.int (cnt_f (decide_eq_false (fun q => bI_0 c29 q.2)))) ?_
        refine Z_istore_n 39 [(2, _), (3, _), (0, _), (1, _)] dX4_brokenAbout_38 rfl (Nat.le_of_ble_eq_true rfl) rfl ?_
        refine Z_iinc 42 [(3, _), (2, _), (0, _), (1, _)] 1 _ dX4_brokenAbout_39 rfl (Nat.le_of_ble_eq_true rfl) rfl (nI_1 _) rfl ?_
        refine Z_goto 4 dX4_brokenAbout_42 rfl ?_
        exact ih (i + 1) (by omega)
      · skip
        refine Z_iconst 33 (nI 1) dX4_brokenAbout_32 rfl rfl ?_
        refine Z_goto 37 dX4_brokenAbout_33 rfl ?_
        refine Z_iadd 38 dX4_brokenAbout_37 rfl ?_
        refine Z_top (v' := .int (nI (cnt (fun j => decide (((vR (m 75)) (1 + 5) j = x ∨ (vR (m 75)) (1 + 6) j = x) ∧ bkV (vR (m 75)) j)) (i + 1)))) (by first | exact congrArg Value.int (cnt_t (decide_eq_true ⟨bI_1 c21, bI_1 c29⟩)) | exact congrArg Value.int (cnt_f (decide_eq_false (fun q => bI_0 c21 q.1))) | exact congrArg Value.int (cnt_f (decide_eq_false (fun q => bI_0 c29 q.2)))) ?_
        refine Z_istore_n 39 [(2, _), (3, _), (0, _), (1, _)] dX4_brokenAbout_38 rfl (Nat.le_of_ble_eq_true rfl) rfl ?_
        refine Z_iinc 42 [(3, _), (2, _), (0, _), (1, _)] 1 _ dX4_brokenAbout_39 rfl (Nat.le_of_ble_eq_true rfl) rfl (nI_1 _) rfl ?_
        refine Z_goto 4 dX4_brokenAbout_42 rfl ?_
        exact ih (i + 1) (by omega)
set_option maxRecDepth 100000 in
set_option maxHeartbeats 4000000 in
theorem zX4_brokenAbout {G : zG} {l : Launch} {h : Nat → Nat} {m : zM} (n : Nat) (hk : sOk (vR (m 75)) 1 n) (x : Int32) : zMet G l yX4_brokenAbout mX4_brokenAbout [.ref (G.1 + 74), .int x] (zw h m) (fun r w => r = some (.int (nI (cnt (fun j => decide (((vR (m 75)) (1 + 5) j = x ∨ (vR (m 75)) (1 + 6) j = x) ∧ bkV (vR (m 75)) j)) n))) ∧ w = zw h m) 0 0 := by
  refine zMet_of [(0, .ref (G.1 + 74)), (1, .int x)] (by decide +kernel) rfl (Or.inl rfl) (Nat.le_of_ble_eq_true rfl) rfl ?_
  have hn14 := hk.2.1
  refine Z_iconst 1 (nI 0) dX4_brokenAbout_0 rfl rfl ?_
  refine Z_istore_n 2 [(2, _), (0, _), (1, _)] dX4_brokenAbout_1 rfl (Nat.le_of_ble_eq_true rfl) rfl ?_
  refine Z_iconst 3 (nI 0) dX4_brokenAbout_2 rfl rfl ?_
  refine Z_istore_n 4 [(3, _), (2, _), (0, _), (1, _)] dX4_brokenAbout_3 rfl (Nat.le_of_ble_eq_true rfl) rfl ?_
  exact lX4_brokenAbout n hk x n 0 (by omega)

set_option maxRecDepth 100000 in
set_option maxHeartbeats 4000000 in
theorem lX4_forceAbout {G : zG} {l : Launch} {h : Nat → Nat} {m : zM} (n : Nat) (hk : sOk (vR (m 75)) 1 n) (x : Int32) : ∀ (t i : Nat), i + t = n → Z G mX4_forceAbout (fun _ => True) (zN G (fun r w => r = some (.int (nI (cnt (fun j => decide (((vR (m 75)) (1 + 5) j = x ∨ (vR (m 75)) (1 + 6) j = x) ∧ sForce (vR (m 75)) 1 j)) n))) ∧ w = zw h m) 0 0) l 0 0 (zw h m) 4 [(3, .int (nI i)), (2, .int (nI (cnt (fun j => decide (((vR (m 75)) (1 + 5) j = x ∨ (vR (m 75)) (1 + 6) j = x) ∧ sForce (vR (m 75)) 1 j)) i))), (0, .ref (G.1 + 74)), (1, .int x)] [] := by
  intro t
  induction t with
  | zero =>
    intro i hi
    have e9 : i = n := by omega
    subst e9
    have hn14 := hk.2.1
    refine Z_iload_n 5 0 dX4_forceAbout_4 rfl rfl ?_
    refine Z_aload_n 6 2 dX4_forceAbout_5 rfl rfl ?_
    refine Z_getR 9 dX4_forceAbout_6 rfl fX4_7 (Nat.le_of_ble_eq_true rfl) rfl rfl ?_
    refine Z_iconst 10 (nI 2) dX4_forceAbout_9 rfl rfl ?_
    refine Z_ialn 11 dX4_forceAbout_10 rfl (Nat.le_of_ble_eq_true rfl) rfl (by first | assumption | omega) (by decide) ?_
    refine Z_top (congrArg Value.int hk.1) ?_
    refine Z_icmp_ge 14 45 dX4_forceAbout_11 rfl rfl (fun c11 => ?_) (fun c11 => absurd (nI_le (Nat.le_refl _) (by omega)) c11)
    refine Z_iload_n 46 1 dX4_forceAbout_45 rfl rfl ?_
    exact Z_iret dX4_forceAbout_46 rfl ⟨rfl, rfl⟩
  | succ t ih =>
    intro i hi
    have hlt : i < n := by omega
    have hn14 := hk.2.1
    refine Z_iload_n 5 0 dX4_forceAbout_4 rfl rfl ?_
    refine Z_aload_n 6 2 dX4_forceAbout_5 rfl rfl ?_
    refine Z_getR 9 dX4_forceAbout_6 rfl fX4_7 (Nat.le_of_ble_eq_true rfl) rfl rfl ?_
    refine Z_iconst 10 (nI 2) dX4_forceAbout_9 rfl rfl ?_
    refine Z_ialn 11 dX4_forceAbout_10 rfl (Nat.le_of_ble_eq_true rfl) rfl (by first | assumption | omega) (by decide) ?_
    refine Z_top (congrArg Value.int hk.1) ?_
    refine Z_icmp_ge 14 45 dX4_forceAbout_11 rfl rfl (fun c11 => absurd c11 (nI_ge hlt (by omega))) (fun c11 => ?_)
    refine Z_iload_n 15 1 dX4_forceAbout_14 rfl rfl ?_
    refine Z_aload_n 16 2 dX4_forceAbout_15 rfl rfl ?_
    refine Z_iload_n 17 0 dX4_forceAbout_16 rfl rfl ?_
    refine Z_iload_n 18 3 dX4_forceAbout_17 rfl rfl ?_
    refine Z_callV 21 [_, _] 4 (zX4_isAbout i (by omega) x) dX4_forceAbout_18 rfl qX4_176 kX4_isAbout rfl rfl (Nat.le_of_ble_eq_true rfl) rfl rfl ⟨(Nat.le_of_ble_eq_true rfl), (Nat.le_of_ble_eq_true rfl)⟩ (Nat.le_of_ble_eq_true rfl) ⟨rfl, rfl⟩ ⟨(Nat.le_of_ble_eq_true rfl), (Nat.le_of_ble_eq_true rfl)⟩ (fun r9 w9 hp9 => ?_)
    obtain ⟨rfl, rfl⟩ := hp9
    refine Z_if_eq 24 36 dX4_forceAbout_21 rfl rfl (fun c21 => ?_) (fun c21 => ?_)
    · skip
      refine Z_iconst 37 (nI 0) dX4_forceAbout_36 rfl rfl ?_
      refine Z_iadd 38 dX4_forceAbout_37 rfl ?_
      refine Z_top (v' := .int (nI (cnt (fun j => decide (((vR (m 75)) (1 + 5) j = x ∨ (vR (m 75)) (1 + 6) j = x) ∧ sForce (vR (m 75)) 1 j)) (i + 1)))) (by first | exact congrArg Value.int (cnt_t (decide_eq_true ⟨bI_1 c21, bI_1 c29⟩)) | exact congrArg Value.int (cnt_f (decide_eq_false (fun q => bI_0 c21 q.1))) | exact congrArg Value.int (cnt_f (decide_eq_false (fun q => bI_0 c29 q.2)))) ?_
      refine Z_istore_n 39 [(2, _), (3, _), (0, _), (1, _)] dX4_forceAbout_38 rfl (Nat.le_of_ble_eq_true rfl) rfl ?_
      refine Z_iinc 42 [(3, _), (2, _), (0, _), (1, _)] 1 _ dX4_forceAbout_39 rfl (Nat.le_of_ble_eq_true rfl) rfl (nI_1 _) rfl ?_
      refine Z_goto 4 dX4_forceAbout_42 rfl ?_
      exact ih (i + 1) (by omega)
    · skip
      refine Z_aload_n 25 2 dX4_forceAbout_24 rfl rfl ?_
      refine Z_iload_n 26 0 dX4_forceAbout_25 rfl rfl ?_
      refine Z_callV 29 [_] 4 (zX4_isForce i (by omega)) dX4_forceAbout_26 rfl qX4_57 kX4_isForce rfl rfl (Nat.le_of_ble_eq_true rfl) rfl rfl ⟨(Nat.le_of_ble_eq_true rfl), (Nat.le_of_ble_eq_true rfl)⟩ (Nat.le_of_ble_eq_true rfl) ⟨rfl, rfl⟩ ⟨(Nat.le_of_ble_eq_true rfl), (Nat.le_of_ble_eq_true rfl)⟩ (fun r9 w9 hp9 => ?_)
      obtain ⟨rfl, rfl⟩ := hp9
      refine Z_if_eq 32 36 dX4_forceAbout_29 rfl rfl (fun c29 => ?_) (fun c29 => ?_)
      · skip
        refine Z_iconst 37 (nI 0) dX4_forceAbout_36 rfl rfl ?_
        refine Z_iadd 38 dX4_forceAbout_37 rfl ?_
        refine Z_top (v' := .int (nI (cnt (fun j => decide (((vR (m 75)) (1 + 5) j = x ∨ (vR (m 75)) (1 + 6) j = x) ∧ sForce (vR (m 75)) 1 j)) (i + 1)))) (by first | exact congrArg Value.int (cnt_t (decide_eq_true ⟨bI_1 c21, bI_1 c29⟩)) | exact congrArg Value.int (cnt_f (decide_eq_false (fun q => bI_0 c21 q.1))) | exact congrArg Value.int (cnt_f (decide_eq_false (fun q => bI_0 c29 q.2)))) ?_
        refine Z_istore_n 39 [(2, _), (3, _), (0, _), (1, _)] dX4_forceAbout_38 rfl (Nat.le_of_ble_eq_true rfl) rfl ?_
        refine Z_iinc 42 [(3, _), (2, _), (0, _), (1, _)] 1 _ dX4_forceAbout_39 rfl (Nat.le_of_ble_eq_true rfl) rfl (nI_1 _) rfl ?_
        refine Z_goto 4 dX4_forceAbout_42 rfl ?_
        exact ih (i + 1) (by omega)
      · skip
        refine Z_iconst 33 (nI 1) dX4_forceAbout_32 rfl rfl ?_
        refine Z_goto 37 dX4_forceAbout_33 rfl ?_
        refine Z_iadd 38 dX4_forceAbout_37 rfl ?_
        refine Z_top (v' := .int (nI (cnt (fun j => decide (((vR (m 75)) (1 + 5) j = x ∨ (vR (m 75)) (1 + 6) j = x) ∧ sForce (vR (m 75)) 1 j)) (i + 1)))) (by first | exact congrArg Value.int (cnt_t (decide_eq_true ⟨bI_1 c21, bI_1 c29⟩)) | exact congrArg Value.int (cnt_f (decide_eq_false (fun q => bI_0 c21 q.1))) | exact congrArg Value.int (cnt_f (decide_eq_false (fun q => bI_0 c29 q.2)))) ?_
        refine Z_istore_n 39 [(2, _), (3, _), (0, _), (1, _)] dX4_forceAbout_38 rfl (Nat.le_of_ble_eq_true rfl) rfl ?_
        refine Z_iinc 42 [(3, _), (2, _), (0, _), (1, _)] 1 _ dX4_forceAbout_39 rfl (Nat.le_of_ble_eq_true rfl) rfl (nI_1 _) rfl ?_
        refine Z_goto 4 dX4_forceAbout_42 rfl ?_
        exact ih (i + 1) (by omega)
set_option maxRecDepth 100000 in
set_option maxHeartbeats 4000000 in
theorem zX4_forceAbout {G : zG} {l : Launch} {h : Nat → Nat} {m : zM} (n : Nat) (hk : sOk (vR (m 75)) 1 n) (x : Int32) : zMet G l yX4_forceAbout mX4_forceAbout [.ref (G.1 + 74), .int x] (zw h m) (fun r w => r = some (.int (nI (cnt (fun j => decide (((vR (m 75)) (1 + 5) j = x ∨ (vR (m 75)) (1 + 6) j = x) ∧ sForce (vR (m 75)) 1 j)) n))) ∧ w = zw h m) 0 0 := by
  refine zMet_of [(0, .ref (G.1 + 74)), (1, .int x)] (by decide +kernel) rfl (Or.inl rfl) (Nat.le_of_ble_eq_true rfl) rfl ?_
  have hn14 := hk.2.1
  refine Z_iconst 1 (nI 0) dX4_forceAbout_0 rfl rfl ?_
  refine Z_istore_n 2 [(2, _), (0, _), (1, _)] dX4_forceAbout_1 rfl (Nat.le_of_ble_eq_true rfl) rfl ?_
  refine Z_iconst 3 (nI 0) dX4_forceAbout_2 rfl rfl ?_
  refine Z_istore_n 4 [(3, _), (2, _), (0, _), (1, _)] dX4_forceAbout_3 rfl (Nat.le_of_ble_eq_true rfl) rfl ?_
  exact lX4_forceAbout n hk x n 0 (by omega)

set_option maxRecDepth 100000 in
set_option maxHeartbeats 4000000 in
theorem lX4_allHeights {G : zG} {l : Launch} {h : Nat → Nat} {m : zM}  : ∀ (t i : Nat), i + t = 8 → Z G mX4_allHeights (fun _ => True) (zN G (fun r w => r = some (.int (sumI ((vR (m 75)) 2) 8)) ∧ w = zw h m) 0 0) l 0 0 (zw h m) 4 [(2, .int (nI i)), (1, .int (sumI ((vR (m 75)) 2) i)), (0, .ref (G.1 + 74))] [] := by
  intro t
  induction t with
  | zero =>
    intro i hi
    have e9 : i = 8 := by omega
    subst e9
    refine Z_iload_n 5 0 dX4_allHeights_4 rfl rfl ?_
    refine Z_bipush 7 (nI 8) dX4_allHeights_5 rfl rfl ?_
    refine Z_icmp_ge 10 25 dX4_allHeights_7 rfl rfl (fun c7 => ?_) (fun c7 => absurd (nI_le (Nat.le_refl _) (by omega)) c7)
    refine Z_iload_n 26 1 dX4_allHeights_25 rfl rfl ?_
    exact Z_iret dX4_allHeights_26 rfl ⟨rfl, rfl⟩
  | succ t ih =>
    intro i hi
    have hlt : i < 8 := by omega
    refine Z_iload_n 5 0 dX4_allHeights_4 rfl rfl ?_
    refine Z_bipush 7 (nI 8) dX4_allHeights_5 rfl rfl ?_
    refine Z_icmp_ge 10 25 dX4_allHeights_7 rfl rfl (fun c7 => absurd c7 (nI_ge hlt (by omega))) (fun c7 => ?_)
    refine Z_iload_n 11 1 dX4_allHeights_10 rfl rfl ?_
    refine Z_aload_n 12 2 dX4_allHeights_11 rfl rfl ?_
    refine Z_iload_n 13 0 dX4_allHeights_12 rfl rfl ?_
    refine Z_iconst 14 (nI 0) dX4_allHeights_13 rfl rfl ?_
    refine Z_callV 17 [_, _] 4 (zX4_of i 0 hlt (by decide)) dX4_allHeights_14 rfl qX4_50 kX4_of rfl rfl (Nat.le_of_ble_eq_true rfl) rfl rfl ⟨(Nat.le_of_ble_eq_true rfl), (Nat.le_of_ble_eq_true rfl)⟩ (Nat.le_of_ble_eq_true rfl) ⟨rfl, rfl⟩ ⟨(Nat.le_of_ble_eq_true rfl), (Nat.le_of_ble_eq_true rfl)⟩ (fun r9 w9 hp9 => ?_)
    obtain ⟨rfl, rfl⟩ := hp9
    refine Z_iadd 18 dX4_allHeights_17 rfl ?_
    refine Z_istore_n 19 [(1, _), (2, _), (0, _)] dX4_allHeights_18 rfl (Nat.le_of_ble_eq_true rfl) rfl ?_
    refine Z_iinc 22 [(2, _), (1, _), (0, _)] 1 _ dX4_allHeights_19 rfl (Nat.le_of_ble_eq_true rfl) rfl (nI_1 _) rfl ?_
    refine Z_goto 4 dX4_allHeights_22 rfl ?_
    exact ih (i + 1) (by omega)

set_option maxRecDepth 100000 in
set_option maxHeartbeats 4000000 in
theorem zX4_allHeights {G : zG} {l : Launch} {h : Nat → Nat} {m : zM}  : zMet G l yX4_allHeights mX4_allHeights [.ref (G.1 + 74)] (zw h m) (fun r w => r = some (.int (sumI ((vR (m 75)) 2) 8)) ∧ w = zw h m) 0 0 := by
  refine zMet_of [(0, .ref (G.1 + 74))] (by decide +kernel) rfl (Or.inl rfl) (Nat.le_of_ble_eq_true rfl) rfl ?_
  refine Z_iconst 1 (nI 0) dX4_allHeights_0 rfl rfl ?_
  refine Z_istore_n 2 [(1, _), (0, _)] dX4_allHeights_1 rfl (Nat.le_of_ble_eq_true rfl) rfl ?_
  refine Z_iconst 3 (nI 0) dX4_allHeights_2 rfl rfl ?_
  refine Z_istore_n 4 [(2, _), (1, _), (0, _)] dX4_allHeights_3 rfl (Nat.le_of_ble_eq_true rfl) rfl ?_
  exact lX4_allHeights 8 0 (by omega)

def clM (m : zM) (i : Nat) (y : Int32) : zM :=
  let m1 := up2 m 75 (7 + 4 * i + 0) (m 75 (7 + 4 * i + 0) - y)
  let m2 := up2 m1 75 (7 + 4 * i + 3) (m1 75 (7 + 4 * i + 3) + y)
  let m3 := up2 m2 75 5 (m2 75 5 + nI 1)
  up2 m3 75 6 (m3 75 6 + y)
set_option maxRecDepth 100000 in
set_option maxHeartbeats 4000000 in
theorem zX4_clips {G : zG} {l : Launch} {h : Nat → Nat} {m : zM} (i : Nat) (hi : i < 8) (y : Int32) : zMet G l yX4_clips mX4_clips [.ref (G.1 + 74), .int (nI i), .int y] (zw h m) (fun r w => r = none ∧ w = zw h (clM m i y)) 0 0 := by
  refine zMet_of [(0, .ref (G.1 + 74)), (1, .int (nI i)), (2, .int y)] (by decide +kernel) rfl (Or.inl rfl) (Nat.le_of_ble_eq_true rfl) rfl ?_
  refine Z_aload_n 1 0 dX4_clips_0 rfl rfl ?_
  refine Z_iload_n 2 1 dX4_clips_1 rfl rfl ?_
  refine Z_iconst 3 (nI 0) dX4_clips_2 rfl rfl ?_
  refine Z_aload_n 4 0 dX4_clips_3 rfl rfl ?_
  refine Z_iload_n 5 1 dX4_clips_4 rfl rfl ?_
  refine Z_iconst 6 (nI 0) dX4_clips_5 rfl rfl ?_
  refine Z_callV 9 [_, _] 4 (zX4_of i 0 hi (by decide)) dX4_clips_6 rfl qX4_50 kX4_of rfl rfl (Nat.le_of_ble_eq_true rfl) rfl rfl ⟨(Nat.le_of_ble_eq_true rfl), (Nat.le_of_ble_eq_true rfl)⟩ (Nat.le_of_ble_eq_true rfl) ⟨rfl, rfl⟩ ⟨(Nat.le_of_ble_eq_true rfl), (Nat.le_of_ble_eq_true rfl)⟩ (fun r9 w9 hp9 => ?_)
  obtain ⟨rfl, rfl⟩ := hp9
  refine Z_iload_n 10 2 dX4_clips_9 rfl rfl ?_
  refine Z_isub 11 dX4_clips_10 rfl ?_
  refine Z_callV 14 [_, _, _] 4 (zX4_lays i 0 hi (by decide) _) dX4_clips_11 rfl qX4_34 kX4_lays rfl rfl (Nat.le_of_ble_eq_true rfl) rfl rfl ⟨(Nat.le_of_ble_eq_true rfl), (Nat.le_of_ble_eq_true rfl)⟩ (Nat.le_of_ble_eq_true rfl) ⟨rfl, rfl⟩ ⟨(Nat.le_of_ble_eq_true rfl), (Nat.le_of_ble_eq_true rfl)⟩ (fun r9 w9 hp9 => ?_)
  obtain ⟨rfl, rfl⟩ := hp9
  refine Z_aload_n 15 0 dX4_clips_14 rfl rfl ?_
  refine Z_iload_n 16 1 dX4_clips_15 rfl rfl ?_
  refine Z_iconst 17 (nI 3) dX4_clips_16 rfl rfl ?_
  refine Z_aload_n 18 0 dX4_clips_17 rfl rfl ?_
  refine Z_iload_n 19 1 dX4_clips_18 rfl rfl ?_
  refine Z_iconst 20 (nI 3) dX4_clips_19 rfl rfl ?_
  refine Z_callV 23 [_, _] 4 (zX4_of i 3 hi (by decide)) dX4_clips_20 rfl qX4_50 kX4_of rfl rfl (Nat.le_of_ble_eq_true rfl) rfl rfl ⟨(Nat.le_of_ble_eq_true rfl), (Nat.le_of_ble_eq_true rfl)⟩ (Nat.le_of_ble_eq_true rfl) ⟨rfl, rfl⟩ ⟨(Nat.le_of_ble_eq_true rfl), (Nat.le_of_ble_eq_true rfl)⟩ (fun r9 w9 hp9 => ?_)
  obtain ⟨rfl, rfl⟩ := hp9
  refine Z_iload_n 24 2 dX4_clips_23 rfl rfl ?_
  refine Z_iadd 25 dX4_clips_24 rfl ?_
  refine Z_callV 28 [_, _, _] 4 (zX4_lays i 3 hi (by decide) _) dX4_clips_25 rfl qX4_34 kX4_lays rfl rfl (Nat.le_of_ble_eq_true rfl) rfl rfl ⟨(Nat.le_of_ble_eq_true rfl), (Nat.le_of_ble_eq_true rfl)⟩ (Nat.le_of_ble_eq_true rfl) ⟨rfl, rfl⟩ ⟨(Nat.le_of_ble_eq_true rfl), (Nat.le_of_ble_eq_true rfl)⟩ (fun r9 w9 hp9 => ?_)
  obtain ⟨rfl, rfl⟩ := hp9
  refine Z_aload_n 29 0 dX4_clips_28 rfl rfl ?_
  refine Z_getR 32 dX4_clips_29 rfl fX4_7 (Nat.le_of_ble_eq_true rfl) rfl rfl ?_
  refine Z_iconst 33 (nI 5) dX4_clips_32 rfl rfl ?_
  refine Z_dup2 34 dX4_clips_33 rfl rfl rfl ?_
  refine Z_ialn 35 dX4_clips_34 rfl (Nat.le_of_ble_eq_true rfl) rfl (by first | assumption | omega) (by decide) ?_
  refine Z_iconst 36 (nI 1) dX4_clips_35 rfl rfl ?_
  refine Z_iadd 37 dX4_clips_36 rfl ?_
  refine Z_iasn 38 dX4_clips_37 rfl (Nat.le_of_ble_eq_true rfl) rfl (by first | assumption | omega) (by decide) ?_
  refine Z_aload_n 39 0 dX4_clips_38 rfl rfl ?_
  refine Z_getR 42 dX4_clips_39 rfl fX4_7 (Nat.le_of_ble_eq_true rfl) rfl rfl ?_
  refine Z_bipush 44 (nI 6) dX4_clips_42 rfl rfl ?_
  refine Z_dup2 45 dX4_clips_44 rfl rfl rfl ?_
  refine Z_ialn 46 dX4_clips_45 rfl (Nat.le_of_ble_eq_true rfl) rfl (by first | assumption | omega) (by decide) ?_
  refine Z_iload_n 47 2 dX4_clips_46 rfl rfl ?_
  refine Z_iadd 48 dX4_clips_47 rfl ?_
  refine Z_iasn 49 dX4_clips_48 rfl (Nat.le_of_ble_eq_true rfl) rfl (by first | assumption | omega) (by decide) ?_
  exact Z_vret dX4_clips_49 rfl ⟨rfl, rfl⟩

def mn9 (x : Int32) : Int32 := if nI 99 < x then nI 99 else x
def gdM (m : zM) (i : Nat) : zM := fun q k => if q = 75 ∧ 7 ≤ k ∧ k < 39 ∧ (k - 7) % 4 = 0 ∧ (k - 7) / 4 < i then mn9 (m 75 k + m 75 (k + 1)) else up2 m 75 0 (m 75 0 + nI 1) q k
theorem gdM_0 (m : zM) : gdM m 0 = up2 m 75 0 (m 75 0 + nI 1) := by
  funext q k
  unfold gdM
  rw [if_neg (by omega)]
theorem gdM_rd (m : zM) {i : Nat} (hi : i < 8) : gdM m i 75 (7 + 4 * i + 0) = m 75 (7 + 4 * i) ∧ gdM m i 75 (7 + 4 * i + 1) = m 75 (7 + 4 * i + 1) := by
  constructor
  · unfold gdM
    rw [if_neg (by omega), up2_ne _ _ (by omega)]
    rfl
  · unfold gdM
    rw [if_neg (by omega), up2_ne _ _ (by omega)]
theorem gdM_step (m : zM) {i : Nat} (hi : i < 8) (v : Int32) (hv : v = mn9 (m 75 (7 + 4 * i) + m 75 (7 + 4 * i + 1))) : up2 (gdM m i) 75 (7 + 4 * i + 0) v = gdM m (i + 1) := by
  subst hv
  funext q k
  unfold up2
  by_cases h1 : q = 75 ∧ k = 7 + 4 * i + 0
  · obtain ⟨rfl, rfl⟩ := h1
    rw [if_pos ⟨rfl, rfl⟩]
    unfold gdM
    rw [if_pos (by omega)]
    rfl
  · rw [if_neg h1]
    unfold gdM
    by_cases h2 : q = 75 ∧ 7 ≤ k ∧ k < 39 ∧ (k - 7) % 4 = 0 ∧ (k - 7) / 4 < i
    · rw [if_pos h2, if_pos (by omega)]
    · rw [if_neg h2, if_neg (by omega)]
set_option maxRecDepth 100000 in
set_option maxHeartbeats 4000000 in
theorem lX4_goDay {G : zG} {l : Launch} {h : Nat → Nat} {m : zM}  : ∀ (t i : Nat), i + t = 8 → Z G mX4_goDay (fun _ => True) (zN G (fun r w => r = none ∧ w = zw h (gdM m 8)) 0 0) l 0 0 (zw h (gdM m i)) 12 [(1, .int (nI i)), (0, .ref (G.1 + 74))] [] := by
  intro t
  induction t with
  | zero =>
    intro i hi
    have e9 : i = 8 := by omega
    subst e9
    refine Z_iload_n 13 0 dX4_goDay_12 rfl rfl ?_
    refine Z_bipush 15 (nI 8) dX4_goDay_13 rfl rfl ?_
    refine Z_icmp_ge 18 56 dX4_goDay_15 rfl rfl (fun c15 => ?_) (fun c15 => absurd (nI_le (Nat.le_refl _) (by omega)) c15)
    exact Z_vret dX4_goDay_56 rfl ⟨rfl, rfl⟩
  | succ t ih =>
    intro i hi
    have hlt : i < 8 := by omega
    refine Z_iload_n 13 0 dX4_goDay_12 rfl rfl ?_
    refine Z_bipush 15 (nI 8) dX4_goDay_13 rfl rfl ?_
    refine Z_icmp_ge 18 56 dX4_goDay_15 rfl rfl (fun c15 => absurd c15 (nI_ge hlt (by omega))) (fun c15 => ?_)
    refine Z_aload_n 19 1 dX4_goDay_18 rfl rfl ?_
    refine Z_iload_n 20 0 dX4_goDay_19 rfl rfl ?_
    refine Z_iconst 21 (nI 0) dX4_goDay_20 rfl rfl ?_
    refine Z_callV 24 [_, _] 4 (zX4_of (m := gdM m i) i 0 hlt (by decide)) dX4_goDay_21 rfl qX4_50 kX4_of rfl rfl (Nat.le_of_ble_eq_true rfl) rfl rfl ⟨(Nat.le_of_ble_eq_true rfl), (Nat.le_of_ble_eq_true rfl)⟩ (Nat.le_of_ble_eq_true rfl) ⟨rfl, rfl⟩ ⟨(Nat.le_of_ble_eq_true rfl), (Nat.le_of_ble_eq_true rfl)⟩ (fun r9 w9 hp9 => ?_)
    obtain ⟨rfl, rfl⟩ := hp9
    refine Z_top (v' := .int (m 75 (7 + 4 * i))) (congrArg Value.int (gdM_rd m hlt).1) ?_
    refine Z_aload_n 25 1 dX4_goDay_24 rfl rfl ?_
    refine Z_iload_n 26 0 dX4_goDay_25 rfl rfl ?_
    refine Z_iconst 27 (nI 1) dX4_goDay_26 rfl rfl ?_
    refine Z_callV 30 [_, _] 4 (zX4_of (m := gdM m i) i 1 hlt (by decide)) dX4_goDay_27 rfl qX4_50 kX4_of rfl rfl (Nat.le_of_ble_eq_true rfl) rfl rfl ⟨(Nat.le_of_ble_eq_true rfl), (Nat.le_of_ble_eq_true rfl)⟩ (Nat.le_of_ble_eq_true rfl) ⟨rfl, rfl⟩ ⟨(Nat.le_of_ble_eq_true rfl), (Nat.le_of_ble_eq_true rfl)⟩ (fun r9 w9 hp9 => ?_)
    obtain ⟨rfl, rfl⟩ := hp9
    refine Z_top (v' := .int (m 75 (7 + 4 * i + 1))) (congrArg Value.int (gdM_rd m hlt).2) ?_
    refine Z_iadd 31 dX4_goDay_30 rfl ?_
    refine Z_istore_n 32 [(2, _), (1, _), (0, _)] dX4_goDay_31 rfl (Nat.le_of_ble_eq_true rfl) rfl ?_
    refine Z_aload_n 33 2 dX4_goDay_32 rfl rfl ?_
    refine Z_iload_n 34 1 dX4_goDay_33 rfl rfl ?_
    refine Z_iconst 35 (nI 0) dX4_goDay_34 rfl rfl ?_
    refine Z_iload_n 36 0 dX4_goDay_35 rfl rfl ?_
    refine Z_bipush 38 (nI 99) dX4_goDay_36 rfl rfl ?_
    refine Z_icmp_le 41 46 dX4_goDay_38 rfl rfl (fun c38 => ?_) (fun c38 => ?_)
    · skip
      refine Z_iload_n 47 0 dX4_goDay_46 rfl rfl ?_
      refine Z_callV 50 [_, _, _] 4 (zX4_lays (m := gdM m i) i 0 hlt (by decide) _) dX4_goDay_47 rfl qX4_34 kX4_lays rfl rfl (Nat.le_of_ble_eq_true rfl) rfl rfl ⟨(Nat.le_of_ble_eq_true rfl), (Nat.le_of_ble_eq_true rfl)⟩ (Nat.le_of_ble_eq_true rfl) ⟨rfl, rfl⟩ ⟨(Nat.le_of_ble_eq_true rfl), (Nat.le_of_ble_eq_true rfl)⟩ (fun r9 w9 hp9 => ?_)
      obtain ⟨rfl, rfl⟩ := hp9
      refine Z_w (w' := zw h (gdM m (i + 1))) (congrArg (zw h) (gdM_step m hlt _ (by first | exact (if_pos (Int32.not_le.mp c38)).symm | exact (if_neg (Int32.not_lt.mpr c38)).symm))) ?_
      refine Z_iinc 53 [(1, _), (2, _), (0, _)] 1 _ dX4_goDay_50 rfl (Nat.le_of_ble_eq_true rfl) rfl (nI_1 _) rfl ?_
      refine Z_goto 12 dX4_goDay_53 rfl ?_
      refine Z_lv [0, 2] rfl ?_
      exact ih (i + 1) (by omega)
    · skip
      refine Z_bipush 43 (nI 99) dX4_goDay_41 rfl rfl ?_
      refine Z_goto 47 dX4_goDay_43 rfl ?_
      refine Z_callV 50 [_, _, _] 4 (zX4_lays (m := gdM m i) i 0 hlt (by decide) _) dX4_goDay_47 rfl qX4_34 kX4_lays rfl rfl (Nat.le_of_ble_eq_true rfl) rfl rfl ⟨(Nat.le_of_ble_eq_true rfl), (Nat.le_of_ble_eq_true rfl)⟩ (Nat.le_of_ble_eq_true rfl) ⟨rfl, rfl⟩ ⟨(Nat.le_of_ble_eq_true rfl), (Nat.le_of_ble_eq_true rfl)⟩ (fun r9 w9 hp9 => ?_)
      obtain ⟨rfl, rfl⟩ := hp9
      refine Z_w (w' := zw h (gdM m (i + 1))) (congrArg (zw h) (gdM_step m hlt _ (by first | exact (if_pos (Int32.not_le.mp c38)).symm | exact (if_neg (Int32.not_lt.mpr c38)).symm))) ?_
      refine Z_iinc 53 [(1, _), (2, _), (0, _)] 1 _ dX4_goDay_50 rfl (Nat.le_of_ble_eq_true rfl) rfl (nI_1 _) rfl ?_
      refine Z_goto 12 dX4_goDay_53 rfl ?_
      refine Z_lv [0, 2] rfl ?_
      exact ih (i + 1) (by omega)

set_option maxRecDepth 100000 in
set_option maxHeartbeats 4000000 in
theorem zX4_goDay {G : zG} {l : Launch} {h : Nat → Nat} {m : zM}  : zMet G l yX4_goDay mX4_goDay [.ref (G.1 + 74)] (zw h m) (fun r w => r = none ∧ w = zw h (gdM m 8)) 0 0 := by
  refine zMet_of [(0, .ref (G.1 + 74))] (by decide +kernel) rfl (Or.inl rfl) (Nat.le_of_ble_eq_true rfl) rfl ?_
  refine Z_aload_n 1 0 dX4_goDay_0 rfl rfl ?_
  refine Z_getR 4 dX4_goDay_1 rfl fX4_7 (Nat.le_of_ble_eq_true rfl) rfl rfl ?_
  refine Z_iconst 5 (nI 0) dX4_goDay_4 rfl rfl ?_
  refine Z_dup2 6 dX4_goDay_5 rfl rfl rfl ?_
  refine Z_ialn 7 dX4_goDay_6 rfl (Nat.le_of_ble_eq_true rfl) rfl (by first | assumption | omega) (by decide) ?_
  refine Z_iconst 8 (nI 1) dX4_goDay_7 rfl rfl ?_
  refine Z_iadd 9 dX4_goDay_8 rfl ?_
  refine Z_iasn 10 dX4_goDay_9 rfl (Nat.le_of_ble_eq_true rfl) rfl (by first | assumption | omega) (by decide) ?_
  refine Z_iconst 11 (nI 0) dX4_goDay_10 rfl rfl ?_
  refine Z_istore_n 12 [(1, _), (0, _)] dX4_goDay_11 rfl (Nat.le_of_ble_eq_true rfl) rfl ?_
  refine Z_w (w' := zw h (gdM m 0)) (congrArg (zw h) (gdM_0 m).symm) ?_
  exact lX4_goDay 8 0 (by omega)

def shf (m : zM) (i : Nat) : zM := fun q k => if q = 77 ∧ k < i then m 77 (k + 95) else m q k
theorem shf_0 (m : zM) : shf m 0 = m := by
  funext q k
  unfold shf
  rw [if_neg (by omega)]
theorem shf_step (m : zM) (i : Nat) : up2 (shf m i) 77 i (m 77 (i + 95)) = shf m (i + 1) := by
  funext q k
  unfold up2 shf
  by_cases h1 : q = 77 ∧ k = i
  · obtain ⟨rfl, rfl⟩ := h1
    rw [if_pos ⟨rfl, rfl⟩, if_pos ⟨rfl, by omega⟩]
  · rw [if_neg h1]
    by_cases h2 : q = 77 ∧ k < i
    · rw [if_pos h2, if_pos ⟨h2.1, by omega⟩]
    · rw [if_neg h2, if_neg (by omega)]
def recM (m : zM) (s : Nat) : zM := if s < 4 then up2 (cpR m 75 0 77 (95 * s) 95) 74 3 (nI (s + 1)) else up2 (cpR (up2 (shf m 285) 74 3 (nI 3)) 75 0 77 285 95) 74 3 (nI 4)
theorem n95 : ∀ s : Nat, nI 95 * nI s = nI (95 * s) := fun s => pk_mul 95 s
set_option maxRecDepth 100000 in
set_option maxHeartbeats 4000000 in
theorem zX4_recordsA {G : zG} {l : Launch} {h : Nat → Nat} {m : zM} (s : Nat) (hs : s < 4) (hst : m 74 3 = nI s) : zMet G l yX4_records mX4_records [.ref (G.1 + 74)] (zw h m) (fun r w => r = none ∧ w = zw h (up2 (cpR m 75 0 77 (95 * s) 95) 74 3 (nI (s + 1)))) 0 0 := by
  refine zMet_of [(0, .ref (G.1 + 74))] (by decide +kernel) rfl (Or.inl rfl) (Nat.le_of_ble_eq_true rfl) rfl ?_
  refine Z_aload_n 1 0 dX4_records_0 rfl rfl ?_
  refine Z_getI 4 dX4_records_1 rfl fX4_38 (Nat.le_of_ble_eq_true rfl) rfl rfl ?_
  refine Z_top (v' := .int (nI s)) (congrArg Value.int hst) ?_
  refine Z_iconst 5 (nI 4) dX4_records_4 rfl rfl ?_
  refine Z_icmp_ne 8 48 dX4_records_5 rfl rfl (fun c5 => ?_) (fun c5 => absurd (fun q => absurd ((nI_eq (by omega) (by decide)).mp q) (by omega)) c5)
  refine Z_aload_n 49 0 dX4_records_48 rfl rfl ?_
  refine Z_getR 52 dX4_records_49 rfl fX4_7 (Nat.le_of_ble_eq_true rfl) rfl rfl ?_
  refine Z_iconst 53 (nI 0) dX4_records_52 rfl rfl ?_
  refine Z_aload_n 54 0 dX4_records_53 rfl rfl ?_
  refine Z_getR 57 dX4_records_54 rfl fX4_16 (Nat.le_of_ble_eq_true rfl) rfl rfl ?_
  refine Z_bipush 59 (nI 95) dX4_records_57 rfl rfl ?_
  refine Z_aload_n 60 0 dX4_records_59 rfl rfl ?_
  refine Z_getI 63 dX4_records_60 rfl fX4_38 (Nat.le_of_ble_eq_true rfl) rfl rfl ?_
  refine Z_top (v' := .int (nI s)) (congrArg Value.int hst) ?_
  refine Z_imul 64 dX4_records_63 rfl ?_
  refine Z_top (v' := .int (nI (95 * s))) (congrArg Value.int (n95 s)) ?_
  refine Z_callS 67 [_, _, _, _] (zX4_copies (m := m) 75 77 95 380 0 (95 * s) (by decide) (by decide) rfl rfl (by decide) (by decide) (by omega) (by decide) (by decide)) dX4_records_64 rfl qX4_42 kX4_copies rfl rfl ⟨(Nat.le_of_ble_eq_true rfl), (Nat.le_of_ble_eq_true rfl)⟩ (Nat.le_of_ble_eq_true rfl) ⟨rfl, rfl⟩ ⟨(Nat.le_of_ble_eq_true rfl), (Nat.le_of_ble_eq_true rfl)⟩ (fun r9 w9 hp9 => ?_)
  obtain ⟨rfl, rfl⟩ := hp9
  refine Z_aload_n 68 0 dX4_records_67 rfl rfl ?_
  refine Z_dup 69 dX4_records_68 rfl rfl ?_
  refine Z_getI 72 dX4_records_69 rfl fX4_38 (Nat.le_of_ble_eq_true rfl) rfl rfl ?_
  refine Z_top (v' := .int (nI s)) (congrArg Value.int (by rw [cpR_na _ (by decide)]; exact hst)) ?_
  refine Z_iconst 73 (nI 1) dX4_records_72 rfl rfl ?_
  refine Z_iadd 74 dX4_records_73 rfl ?_
  refine Z_top (v' := .int (nI (s + 1))) (congrArg Value.int (nI_1 s)) ?_
  refine Z_putI 77 .int dX4_records_74 rfl fX4_38 ft_4_3 (Nat.le_of_ble_eq_true rfl) rfl rfl rfl rfl ?_
  exact Z_vret dX4_records_77 rfl ⟨rfl, rfl⟩

set_option maxRecDepth 100000 in
set_option maxHeartbeats 4000000 in
theorem lX4_recordsB {G : zG} {l : Launch} {h : Nat → Nat} {m : zM} (hst : m 74 3 = nI 4) : ∀ (t i : Nat), i + t = 285 → Z G mX4_records (fun _ => True) (zN G (fun r w => r = none ∧ w = zw h (up2 (cpR (up2 (shf m 285) 74 3 (nI 3)) 75 0 77 285 95) 74 3 (nI 4))) 0 0) l 0 0 (zw h (shf m i)) 10 [(1, .int (nI i)), (0, .ref (G.1 + 74))] [] := by
  intro t
  induction t with
  | zero =>
    intro i hi
    have e9 : i = 285 := by omega
    subst e9
    refine Z_iload_n 11 0 dX4_records_10 rfl rfl ?_
    refine Z_sipush 14 (nI 285) dX4_records_11 rfl rfl ?_
    refine Z_icmp_ge 17 38 dX4_records_14 rfl rfl (fun c14 => ?_) (fun c14 => absurd (nI_le (Nat.le_refl _) (by omega)) c14)
    refine Z_aload_n 39 1 dX4_records_38 rfl rfl ?_
    refine Z_dup 40 dX4_records_39 rfl rfl ?_
    refine Z_getI 43 dX4_records_40 rfl fX4_38 (Nat.le_of_ble_eq_true rfl) rfl rfl ?_
    refine Z_top (v' := .int (nI 4)) (congrArg Value.int (by show shf m 285 74 3 = nI 4; unfold shf; rw [if_neg (by decide)]; exact hst)) ?_
    refine Z_iconst 44 (nI 1) dX4_records_43 rfl rfl ?_
    refine Z_isub 45 dX4_records_44 rfl ?_
    refine Z_top (v' := .int (nI 3)) (congrArg Value.int (rfl)) ?_
    refine Z_putI 48 .int dX4_records_45 rfl fX4_38 ft_4_3 (Nat.le_of_ble_eq_true rfl) rfl rfl rfl rfl ?_
    refine Z_aload_n 49 1 dX4_records_48 rfl rfl ?_
    refine Z_getR 52 dX4_records_49 rfl fX4_7 (Nat.le_of_ble_eq_true rfl) rfl rfl ?_
    refine Z_iconst 53 (nI 0) dX4_records_52 rfl rfl ?_
    refine Z_aload_n 54 1 dX4_records_53 rfl rfl ?_
    refine Z_getR 57 dX4_records_54 rfl fX4_16 (Nat.le_of_ble_eq_true rfl) rfl rfl ?_
    refine Z_bipush 59 (nI 95) dX4_records_57 rfl rfl ?_
    refine Z_aload_n 60 1 dX4_records_59 rfl rfl ?_
    refine Z_getI 63 dX4_records_60 rfl fX4_38 (Nat.le_of_ble_eq_true rfl) rfl rfl ?_
    refine Z_top (v' := .int (nI 3)) (congrArg Value.int (up2_eq _ _ _ _)) ?_
    refine Z_imul 64 dX4_records_63 rfl ?_
    refine Z_top (v' := .int (nI 285)) (congrArg Value.int (rfl)) ?_
    refine Z_callS 67 [_, _, _, _] (zX4_copies (m := (up2 (shf m 285) 74 3 (nI 3))) 75 77 95 380 0 (285) (by decide) (by decide) rfl rfl (by decide) (by decide) (by omega) (by decide) (by decide)) dX4_records_64 rfl qX4_42 kX4_copies rfl rfl ⟨(Nat.le_of_ble_eq_true rfl), (Nat.le_of_ble_eq_true rfl)⟩ (Nat.le_of_ble_eq_true rfl) ⟨rfl, rfl⟩ ⟨(Nat.le_of_ble_eq_true rfl), (Nat.le_of_ble_eq_true rfl)⟩ (fun r9 w9 hp9 => ?_)
    obtain ⟨rfl, rfl⟩ := hp9
    refine Z_aload_n 68 1 dX4_records_67 rfl rfl ?_
    refine Z_dup 69 dX4_records_68 rfl rfl ?_
    refine Z_getI 72 dX4_records_69 rfl fX4_38 (Nat.le_of_ble_eq_true rfl) rfl rfl ?_
    refine Z_top (v' := .int (nI 3)) (congrArg Value.int (by rw [cpR_na _ (by decide)]; exact up2_eq _ _ _ _)) ?_
    refine Z_iconst 73 (nI 1) dX4_records_72 rfl rfl ?_
    refine Z_iadd 74 dX4_records_73 rfl ?_
    refine Z_top (v' := .int (nI 4)) (congrArg Value.int (rfl)) ?_
    refine Z_putI 77 .int dX4_records_74 rfl fX4_38 ft_4_3 (Nat.le_of_ble_eq_true rfl) rfl rfl rfl rfl ?_
    exact Z_vret dX4_records_77 rfl ⟨rfl, rfl⟩
  | succ t ih =>
    intro i hi
    have hlt : i < 285 := by omega
    refine Z_iload_n 11 0 dX4_records_10 rfl rfl ?_
    refine Z_sipush 14 (nI 285) dX4_records_11 rfl rfl ?_
    refine Z_icmp_ge 17 38 dX4_records_14 rfl rfl (fun c14 => absurd c14 (nI_ge hlt (by omega))) (fun c14 => ?_)
    refine Z_aload_n 18 1 dX4_records_17 rfl rfl ?_
    refine Z_getR 21 dX4_records_18 rfl fX4_16 (Nat.le_of_ble_eq_true rfl) rfl rfl ?_
    refine Z_iload_n 22 0 dX4_records_21 rfl rfl ?_
    refine Z_aload_n 23 1 dX4_records_22 rfl rfl ?_
    refine Z_getR 26 dX4_records_23 rfl fX4_16 (Nat.le_of_ble_eq_true rfl) rfl rfl ?_
    refine Z_iload_n 27 0 dX4_records_26 rfl rfl ?_
    refine Z_bipush 29 (nI 95) dX4_records_27 rfl rfl ?_
    refine Z_iadd 30 dX4_records_29 rfl ?_
    refine Z_top (v' := .int (nI (i + 95))) (congrArg Value.int (nI_add _ _)) ?_
    refine Z_iald 31 dX4_records_30 rfl (Nat.le_of_ble_eq_true rfl) rfl (vp_inN (show i + 95 < 380 by omega) (by decide)) ?_
    refine Z_top (v' := .int (m 77 (i + 95))) (congrArg Value.int (by rw [nI_clamp (by omega)]; unfold shf; rw [if_neg (by omega)])) ?_
    refine Z_iasn 32 dX4_records_31 rfl (Nat.le_of_ble_eq_true rfl) rfl (by omega) (by decide) ?_
    rw [shf_step]
    refine Z_iinc 35 [(1, _), (0, _)] 0 _ dX4_records_32 rfl (Nat.le_of_ble_eq_true rfl) rfl (nI_1 _) rfl ?_
    refine Z_goto 10 dX4_records_35 rfl ?_
    exact ih (i + 1) (by omega)

set_option maxRecDepth 100000 in
set_option maxHeartbeats 4000000 in
theorem zX4_recordsB {G : zG} {l : Launch} {h : Nat → Nat} {m : zM} (hst : m 74 3 = nI 4) : zMet G l yX4_records mX4_records [.ref (G.1 + 74)] (zw h m) (fun r w => r = none ∧ w = zw h (up2 (cpR (up2 (shf m 285) 74 3 (nI 3)) 75 0 77 285 95) 74 3 (nI 4))) 0 0 := by
  refine zMet_of [(0, .ref (G.1 + 74))] (by decide +kernel) rfl (Or.inl rfl) (Nat.le_of_ble_eq_true rfl) rfl ?_
  refine Z_aload_n 1 0 dX4_records_0 rfl rfl ?_
  refine Z_getI 4 dX4_records_1 rfl fX4_38 (Nat.le_of_ble_eq_true rfl) rfl rfl ?_
  refine Z_top (v' := .int (nI 4)) (congrArg Value.int hst) ?_
  refine Z_iconst 5 (nI 4) dX4_records_4 rfl rfl ?_
  refine Z_icmp_ne 8 48 dX4_records_5 rfl rfl (fun c5 => absurd c5 (fun q => q rfl)) (fun c5 => ?_)
  refine Z_iconst 9 (nI 0) dX4_records_8 rfl rfl ?_
  refine Z_istore_n 10 [(1, _), (0, _)] dX4_records_9 rfl (Nat.le_of_ble_eq_true rfl) rfl ?_
  refine Z_w (w' := zw h (shf m 0)) (congrArg (zw h) (shf_0 m).symm) ?_
  exact lX4_recordsB hst 285 0 (by omega)

theorem zX4_records {G : zG} {l : Launch} {h : Nat → Nat} {m : zM} (s : Nat) (hs : s ≤ 4) (hst : m 74 3 = nI s) : zMet G l yX4_records mX4_records [.ref (G.1 + 74)] (zw h m) (fun r w => r = none ∧ w = zw h (recM m s)) 0 0 := by
  unfold recM
  by_cases g : s < 4
  · rw [if_pos g]
    exact zX4_recordsA s g hst
  · rw [if_neg g]
    have e : s = 4 := by omega
    subst e
    exact zX4_recordsB hst