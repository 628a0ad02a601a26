/-! the law: its switch, its loop, the two new objects -/
section
variable {G : zG} {l : Launch} {b L : Nat} {xs : Nat → Int32}
set_option maxRecDepth 100000 in
set_option maxHeartbeats 4000000 in
theorem law_body {i K : Nat} {h : Nat → Nat} {m : zM} (hL : L ≤ 2048) (hi : i + 3 < L) (hR : Rel K h m) (hK : K ≤ 100000) (kk : ∀ (h1 : Nat → Nat) (m1 : zM), Rel (K + 1) h1 m1 → ZL G l b L xs h1 m1 882 i) : ZL G l b L xs h m 26 i := by
  refine Z_aload_n 27 3 dL_law_26 rfl rfl ?_
  refine Z_iload_n 28 0 dL_law_27 rfl rfl ?_
  refine Z_sld 29 (fun s h => h.1) dL_law_28 rfl (vp_in_nI (by omega) (by omega)) ?_
  rw [nI_clamp (by omega)]
  refine Z_bipush 31 (nI 31) dL_law_29 rfl rfl ?_
  refine Z_iand 32 dL_law_31 rfl ?_
  obtain ⟨c, hc, e⟩ := pk_andE (xs i) (m := nI 31) 5 rfl
  rw [e]
  have hc : c < 32 := hc
  have f : c = 0 ∨ c = 1 ∨ c = 2 ∨ c = 3 ∨ c = 4 ∨ c = 5 ∨ c = 6 ∨ c = 7 ∨ c = 8 ∨ c = 9 ∨ c = 10 ∨ c = 11 ∨ c = 12 ∨ c = 13 ∨ c = 14 ∨ c = 15 ∨ c = 16 ∨ c = 17 ∨ c = 18 ∨ c = 19 ∨ c = 20 ∨ c = 21 ∨ c = 22 ∨ c = 23 ∨ c = 24 ∨ c = 25 ∨ c = 26 ∨ c = 27 ∨ c = 28 ∨ c = 29 ∨ c = 30 ∨ c = 31 := by omega
  rcases f with rfl | rfl | rfl | rfl | rfl | rfl | rfl | rfl | rfl | rfl | rfl | rfl | rfl | rfl | rfl | rfl | rfl | rfl | rfl | rfl | rfl | rfl | rfl | rfl | rfl | rfl | rfl | rfl | rfl | rfl | rfl | rfl
  · exact Z_tabIn 160 dL_law_32 (by decide) (by decide) rfl rfl (case0 hL hi hR hK kk)
  · exact Z_tabIn 193 dL_law_32 (by decide) (by decide) rfl rfl (case1 hL hi hR hK kk)
  · exact Z_tabIn 226 dL_law_32 (by decide) (by decide) rfl rfl (case2 hL hi hR hK kk)
  · exact Z_tabIn 259 dL_law_32 (by decide) (by decide) rfl rfl (case3 hL hi hR hK kk)
  · exact Z_tabIn 292 dL_law_32 (by decide) (by decide) rfl rfl (case4 hL hi hR hK kk)
  · exact Z_tabIn 305 dL_law_32 (by decide) (by decide) rfl rfl (case5 hL hi hR hK kk)
  · exact Z_tabIn 318 dL_law_32 (by decide) (by decide) rfl rfl (case6 hL hi hR hK kk)
  · exact Z_tabIn 361 dL_law_32 (by decide) (by decide) rfl rfl (case7 hL hi hR hK kk)
  · exact Z_tabIn 384 dL_law_32 (by decide) (by decide) rfl rfl (case8 hL hi hR hK kk)
  · exact Z_tabIn 417 dL_law_32 (by decide) (by decide) rfl rfl (case9 hL hi hR hK kk)
  · exact Z_tabIn 440 dL_law_32 (by decide) (by decide) rfl rfl (case10 hL hi hR hK kk)
  · exact Z_tabIn 463 dL_law_32 (by decide) (by decide) rfl rfl (case11 hL hi hR hK kk)
  · exact Z_tabIn 476 dL_law_32 (by decide) (by decide) rfl rfl (case12 hL hi hR hK kk)
  · exact Z_tabIn 489 dL_law_32 (by decide) (by decide) rfl rfl (case13 hL hi hR hK kk)
  · exact Z_tabIn 502 dL_law_32 (by decide) (by decide) rfl rfl (case14 hL hi hR hK kk)
  · exact Z_tabIn 525 dL_law_32 (by decide) (by decide) rfl rfl (case15 hL hi hR hK kk)
  · exact Z_tabIn 558 dL_law_32 (by decide) (by decide) rfl rfl (case16 hL hi hR hK kk)
  · exact Z_tabIn 591 dL_law_32 (by decide) (by decide) rfl rfl (case17 hL hi hR hK kk)
  · exact Z_tabIn 634 dL_law_32 (by decide) (by decide) rfl rfl (case18 hL hi hR hK kk)
  · exact Z_tabIn 677 dL_law_32 (by decide) (by decide) rfl rfl (case19 hL hi hR hK kk)
  · exact Z_tabIn 700 dL_law_32 (by decide) (by decide) rfl rfl (case20 hL hi hR hK kk)
  · exact Z_tabIn 723 dL_law_32 (by decide) (by decide) rfl rfl (case21 hL hi hR hK kk)
  · exact Z_tabIn 764 dL_law_32 (by decide) (by decide) rfl rfl (case22 hL hi hR hK kk)
  · exact Z_tabIn 797 dL_law_32 (by decide) (by decide) rfl rfl (case23 hL hi hR hK kk)
  · exact Z_tabIn 810 dL_law_32 (by decide) (by decide) rfl rfl (case24 hL hi hR hK kk)
  · exact Z_tabIn 843 dL_law_32 (by decide) (by decide) rfl rfl (case25 hL hi hR hK kk)
  · exact Z_tabIn 856 dL_law_32 (by decide) (by decide) rfl rfl (case26 hL hi hR hK kk)
  · exact Z_tabIn 869 dL_law_32 (by decide) (by decide) rfl rfl (case27 hL hi hR hK kk)
  · exact Z_tabOut 882 dL_law_32 (Or.inr (by decide)) rfl (kk h m (hR.mono (by omega)))
  · exact Z_tabOut 882 dL_law_32 (Or.inr (by decide)) rfl (kk h m (hR.mono (by omega)))
  · exact Z_tabOut 882 dL_law_32 (Or.inr (by decide)) rfl (kk h m (hR.mono (by omega)))
  · exact Z_tabOut 882 dL_law_32 (Or.inr (by decide)) rfl (kk h m (hR.mono (by omega)))

set_option maxRecDepth 100000 in
set_option maxHeartbeats 4000000 in
theorem law_loop (hL : L ≤ 2048) : ∀ (f t : Nat) (h : Nat → Nat) (m : zM), t + f ≤ 1000 → L ≤ 4 * (t + f) → Rel t h m → ZL G l b L xs h m 18 (4 * t) := by
  intro f
  induction f with
  | zero =>
    intro t h m h1 h2 hR
    refine Z_iload_n 19 0 dL_law_18 rfl rfl ?_
    refine Z_aload_n 20 3 dL_law_19 rfl rfl ?_
    refine Z_slen 21 (fun s h => h.1) dL_law_20 rfl ?_
    refine Z_iconst 22 (nI 4) dL_law_21 rfl rfl ?_
    refine Z_isub 23 dL_law_22 rfl ?_
    refine Z_icmp_gt 26 888 dL_law_23 rfl rfl (fun _ => ?_) (fun c => absurd ?_ c)
    · refine Z_iconst 889 (nI 1) dL_law_888 rfl rfl ?_
      exact Z_lret dL_law_889 (Nat.le_of_ble_eq_true rfl) (Nat.le_of_ble_eq_true rfl)
    · rw [i32_lt, pk_sub_toInt (by omega) (by omega), nI_toInt (by omega)]
      omega
  | succ f ih =>
    intro t h m h1 h2 hR
    refine Z_iload_n 19 0 dL_law_18 rfl rfl ?_
    refine Z_aload_n 20 3 dL_law_19 rfl rfl ?_
    refine Z_slen 21 (fun s h => h.1) dL_law_20 rfl ?_
    refine Z_iconst 22 (nI 4) dL_law_21 rfl rfl ?_
    refine Z_isub 23 dL_law_22 rfl ?_
    refine Z_icmp_gt 26 888 dL_law_23 rfl rfl (fun _ => ?_) (fun c => ?_)
    · refine Z_iconst 889 (nI 1) dL_law_888 rfl rfl ?_
      exact Z_lret dL_law_889 (Nat.le_of_ble_eq_true rfl) (Nat.le_of_ble_eq_true rfl)
    · rw [i32_lt, pk_sub_toInt (by omega) (by omega), nI_toInt (by omega)] at c
      refine law_body hL (by omega) hR (by omega) (fun h5 m5 hR5 => ?_)
      have e : nI (4 * t) + Int32.ofInt 4 = nI (4 * (t + 1)) := (nI_add (4 * t) 4).trans (congrArg nI (by omega))
      refine Z_iinc 885 [(3, _), (2, _), (1, _), (0, _)] 0 (nI (4 * (t + 1))) dL_law_882 rfl (Nat.le_of_ble_eq_true rfl) rfl e rfl ?_
      refine Z_goto 18 dL_law_885 rfl ?_
      exact ih (t + 1) h5 m5 (by omega) (by omega) hR5
theorem M1_z : ∀ q, 56 ≤ q → mz1 q = fun _ => 0 := stI_z (a := 47) (b := 56) (stI_z (a := 38) (b := 47) (stI_z (a := 29) (b := 38) (stI_z (a := 20) (b := 29) (stI_z (a := 10) (b := 20) (stI_z (a := 1) (b := 10) (mm := mz0) (fun _ _ => rfl) (by decide)) (by decide)) (by decide)) (by decide)) (by decide)) (by decide)
def m00 : zM := mI mz1 8
theorem hok0 : hOk hh0 := by
  refine ⟨fun k hk => ?_, fun i j hi hj h => ?_⟩
  · have e : k = 0 ∨ k = 1 ∨ k = 2 ∨ k = 3 := by omega
    rcases e with rfl | rfl | rfl | rfl
    · exact Or.inl rfl
    · exact Or.inr (Or.inl rfl)
    · exact Or.inr (Or.inr (Or.inl rfl))
    · exact Or.inr (Or.inr (Or.inr rfl))
  · have e : i = 0 ∨ i = 1 ∨ i = 2 ∨ i = 3 := by omega
    have e2 : j = 0 ∨ j = 1 ∨ j = 2 ∨ j = 3 := by omega
    rcases e with rfl | rfl | rfl | rfl <;> rcases e2 with rfl | rfl | rfl | rfl <;> first | rfl | exact absurd h (by decide)
theorem m00_1 : ∀ k, k ≤ 13 → 8 ≤ k → m00 1 k = vR (m00 75) 1 k := by decide +kernel
theorem m00_2 : ∀ q, q ≤ 5 → 2 ≤ q → ∀ i, i < 8 → m00 q i = vR (m00 75) q i := by decide +kernel
theorem m00_3 : vR (m00 75) 1 8 = nI 0 ∧ (∀ q, q < 8 → 0 ≤ (vR (m00 75) 2 q).toInt ∧ (vR (m00 75) 2 q).toInt ≤ 99) ∧ (∀ i, i < 8 → 0 ≤ (vR (m00 75) 3 i).toInt ∧ (vR (m00 75) 3 i).toInt ≤ 5) ∧ (0 ≤ (m00 75 0).toInt ∧ (m00 75 0).toInt ≤ ((0 : Nat) : Int)) ∧ m00 75 6 = sumI (vR (m00 75) 5) 8 := by decide +kernel
theorem m00_4 : m00 0 5 = nI 0 ∧ m00 74 3 = nI 0 ∧ m00 0 6 = nI 0 ∧ m00 74 5 = nI 0 ∧ m00 68 1 = nI 0 ∧ m00 74 7 = nI 0 ∧ m00 0 7 = nI 0 ∧ m00 74 15 = nI 0 := by decide +kernel
theorem rel0 : Rel 0 hh0 m00 := by
  obtain ⟨a1, a2, a3, a4, a5⟩ := m00_3
  obtain ⟨b1, b2, b3, b4, b5, b6, b7, b8⟩ := m00_4
  refine ⟨hok0, ⟨0, ⟨fun k h1 h2 => m00_1 k h2 h1, fun q h1 h2 => m00_2 q h2 h1, fun q _ _ t ht => absurd ht (Nat.not_lt_zero t)⟩, ⟨⟨a1, by decide, fun t ht => absurd ht (Nat.not_lt_zero t)⟩, fun t ht => absurd ht (Nat.not_lt_zero t), a2, fun _ => 0, fun q => ?_, fun t ht => absurd ht (Nat.not_lt_zero t)⟩, a3, a4, fun t ht => absurd ht (Nat.not_lt_zero t), a5⟩, ⟨0, by decide, b1, b2, fun k hk => absurd hk (Nat.not_lt_zero k)⟩, Or.inl ⟨b3, b4⟩, ⟨0, by decide, b5, b6, fun j hj => absurd hj (Nat.not_lt_zero j)⟩, Or.inl ⟨b7, b8⟩⟩
  exact fun _ => ⟨Int.le_refl 0, show (0 : Int) ≤ 99 by decide⟩
set_option maxRecDepth 100000 in
set_option maxHeartbeats 4000000 in
theorem law_start (hL : L ≤ 2048) : Z G mL_law (EL G b L xs) QL l 0 0 (0, oS rN3 ff0, mz0) 0 [(0, .ref b)] [] := by
  refine Z_newC 3 dL_law_0 rfl nw_RL_7 ov_a rfl ⟨(Nat.le_of_ble_eq_true rfl), (Nat.le_of_ble_eq_true rfl)⟩ ?_
  refine Z_dup 4 dL_law_3 rfl rfl ?_
  refine Z_callI 7 [] (zX3_init G l) rfl dL_law_4 rfl qL_9 kX3_init rfl rfl ⟨(Nat.le_of_ble_eq_true rfl), (Nat.le_of_ble_eq_true rfl)⟩ (Nat.le_of_ble_eq_true rfl) ⟨rfl, rfl⟩ ⟨(Nat.le_of_ble_eq_true rfl), (Nat.le_of_ble_eq_true rfl)⟩ (fun r9 w9 hp9 => ?_)
  obtain ⟨rfl, rfl⟩ := hp9
  refine Z_astore_n 8 [(1, _), (0, _)] dL_law_7 rfl (Nat.le_of_ble_eq_true rfl) rfl ?_
  refine Z_wfr (n9 := 74) (sh' := ov 74 4 rN4 (SH hh0)) (mm' := mz1) (fun q hq => (ov_n (by omega)).symm) (fun _ _ => rfl) ?_
  refine Z_newC 11 dL_law_8 rfl nw_RL_10 ov_a (M1_z _ (by decide)) ⟨(Nat.le_of_ble_eq_true rfl), (Nat.le_of_ble_eq_true rfl)⟩ ?_
  refine Z_dup 12 dL_law_11 rfl rfl ?_
  refine Z_callI 15 [] (zX4_init G l mz1 (fun q hq => M1_z q (by omega))) rfl dL_law_12 rfl qL_12 kX4_init rfl rfl ⟨(Nat.le_of_ble_eq_true rfl), (Nat.le_of_ble_eq_true rfl)⟩ (Nat.le_of_ble_eq_true rfl) ⟨rfl, rfl⟩ ⟨(Nat.le_of_ble_eq_true rfl), (Nat.le_of_ble_eq_true rfl)⟩ (fun r9 w9 hp9 => ?_)
  obtain ⟨rfl, rfl⟩ := hp9
  refine Z_astore_n 16 [(2, _), (1, _), (0, _)] dL_law_15 rfl (Nat.le_of_ble_eq_true rfl) rfl ?_
  refine Z_iconst 17 (nI 0) dL_law_16 rfl rfl ?_
  refine Z_istore_n 18 [(3, _), (2, _), (1, _), (0, _)] dL_law_17 rfl (Nat.le_of_ble_eq_true rfl) rfl ?_
  exact law_loop hL 600 0 hh0 m00 (by omega) (by omega) rel0
end
