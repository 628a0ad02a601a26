/-! the constructors -/
def ov (a ci : Nat) (rs : List (Option (Option Nat))) (sh : Nat → zK) : Nat → zK := fun q => if q = a then .inr (.inr (ci, rs)) else sh q
theorem ov_a {a ci : Nat} {rs : List (Option (Option Nat))} {sh : Nat → zK} : ov a ci rs sh a = .inr (.inr (ci, rs)) := if_pos rfl
theorem ov_n {a ci q : Nat} {rs : List (Option (Option Nat))} {sh : Nat → zK} (h : q ≠ a) : ov a ci rs sh q = sh q := if_neg h
theorem ov_ov (a ci : Nat) (rs rs' : List (Option (Option Nat))) (sh : Nat → zK) (q : Nat) : (fun a9 => if a9 = a then (.inr (.inr (ci, rs')) : zK) else ov a ci rs sh a9) q = ov a ci rs' sh q := by
  show (if q = a then _ else ov a ci rs sh q) = _
  unfold ov
  by_cases h : q = a
  · rw [if_pos h, if_pos h]
  · rw [if_neg h, if_neg h, if_neg h]
theorem ov_id {a ci : Nat} {rs : List (Option (Option Nat))} {sh : Nat → zK} (h : sh a = .inr (.inr (ci, rs))) (q : Nat) : ov a ci rs sh q = sh q := by
  unfold ov
  by_cases g : q = a
  · rw [if_pos g, g, h]
  · rw [if_neg g]
abbrev nF9 : Option (Option Nat) := some none

abbrev rN0 : List (Option (Option Nat)) := [nF9, none, nF9, nF9, nF9, nF9, none, none, none, none]
abbrev rN1 : List (Option (Option Nat)) := [nF9, nF9, nF9, nF9, nF9, nF9, nF9, nF9, none, none, none, none, none, none]
abbrev rN2 : List (Option (Option Nat)) := [nF9, nF9, nF9]
abbrev rN3 : List (Option (Option Nat)) := [nF9, nF9, nF9, nF9, nF9, none, none, none, none, none]
theorem nw_RX3_7 : zNw RX3 7 1 rN1 14 := ⟨RX1, TX1, 14, tyX1, rfl, rfl, inK_1, tyX1_ok, kcX3_7, kn_1.1, kn_1.2, fun b q hq => match q, hq with | 0, _ => rfl | 1, _ => rfl | 2, _ => rfl | 3, _ => rfl | 4, _ => rfl | 5, _ => rfl | 6, _ => rfl | 7, _ => rfl | 8, _ => rfl | 9, _ => rfl | 10, _ => rfl | 11, _ => rfl | 12, _ => rfl | 13, _ => rfl | n + 14, h => absurd h (by omega)⟩
theorem nw_RX3_23 : zNw RX3 23 2 rN2 3 := ⟨RX2, TX2, 3, tyX2, rfl, rfl, inK_2, tyX2_ok, kcX3_23, kn_2.1, kn_2.2, fun b q hq => match q, hq with | 0, _ => rfl | 1, _ => rfl | 2, _ => rfl | n + 3, h => absurd h (by omega)⟩
theorem nw_RX3_30 : zNw RX3 30 0 rN0 10 := ⟨RX0, TX0, 10, tyX0, rfl, rfl, inK_0, tyX0_ok, kcX3_30, kn_0.1, kn_0.2, fun b q hq => match q, hq with | 0, _ => rfl | 1, _ => rfl | 2, _ => rfl | 3, _ => rfl | 4, _ => rfl | 5, _ => rfl | 6, _ => rfl | 7, _ => rfl | 8, _ => rfl | 9, _ => rfl | n + 10, h => absurd h (by omega)⟩
theorem nw_RL_14 : zNw RL 14 3 rN3 10 := ⟨RX3, TX3, 10, tyX3, rfl, rfl, inK_3, tyX3_ok, kcL_14, kn_3.1, kn_3.2, fun b q hq => match q, hq with | 0, _ => rfl | 1, _ => rfl | 2, _ => rfl | 3, _ => rfl | 4, _ => rfl | 5, _ => rfl | 6, _ => rfl | 7, _ => rfl | 8, _ => rfl | 9, _ => rfl | n + 10, h => absurd h (by omega)⟩
theorem cd_X0_init : Cond.initialized yX0_init.cls ∈ lw_ok ∧ Cond.code yX0_init mX0_init.2.1 mX0_init.2.2.1 mX0_init.2.2.2.1 ∈ lw_ok ∧ (yX0_init.cls ≠ "java/lang/invoke/MethodHandle" ∧ yX0_init.cls ≠ "java/lang/invoke/VarHandle" ∧ (parseMethodDescriptor yX0_init.desc).map (fun d => d.parameters.length) = some 0) := ⟨kn_0.2, lw_in 130 (by decide +kernel) (by decide +kernel), by decide +kernel⟩
theorem cd_X2_init : Cond.initialized yX2_init.cls ∈ lw_ok ∧ Cond.code yX2_init mX2_init.2.1 mX2_init.2.2.1 mX2_init.2.2.2.1 ∈ lw_ok ∧ (yX2_init.cls ≠ "java/lang/invoke/MethodHandle" ∧ yX2_init.cls ≠ "java/lang/invoke/VarHandle" ∧ (parseMethodDescriptor yX2_init.desc).map (fun d => d.parameters.length) = some 0) := ⟨kn_2.2, lw_in 111 (by decide +kernel) (by decide +kernel), by decide +kernel⟩
/-- a new street's ints -/
def stL (mm : zM) (a i : Nat) : zM := fun q k => if q = a + 1 ∧ k < i then nI 10 else if q = a + 2 ∧ k < i then nI 1 else up2 mm a 10 (nI 10) q k
def stI (mm : zM) (a : Nat) : zM := stL mm a 8
theorem stL_0 (mm : zM) (a : Nat) : stL mm a 0 = up2 mm a 10 (nI 10) := by
  funext q k
  unfold stL
  rw [if_neg (by omega), if_neg (by omega)]
theorem stL_step (mm : zM) (a i : Nat) : up2 (up2 (stL mm a i) (a + 1) i (nI 10)) (a + 2) i (nI 1) = stL mm a (i + 1) := by
  funext q k
  unfold stL
  by_cases h1 : q = a + 2
  · subst h1
    rw [up2_ak]
    by_cases h2 : k = i
    · rw [if_pos h2, if_neg (by omega), if_pos (by omega)]
    · rw [if_neg h2, up2_ne _ _ (by omega)]
      by_cases h3 : k < i
      · rw [if_neg (by omega), if_pos (by omega), if_neg (by omega), if_pos (by omega)]
      · rw [if_neg (by omega), if_neg (by omega), if_neg (by omega), if_neg (by omega)]
  · rw [up2_ne _ _ (by omega)]
    by_cases h4 : q = a + 1
    · subst h4
      rw [up2_ak]
      by_cases h2 : k = i
      · rw [if_pos h2, if_pos (by omega)]
      · rw [if_neg h2]
        by_cases h3 : k < i
        · rw [if_pos (by omega), if_pos (by omega)]
        · rw [if_neg (by omega), if_neg (by omega), if_neg (by omega), if_neg (by omega)]
    · rw [up2_ne _ _ (by omega), if_neg (by omega), if_neg (by omega), if_neg (by omega), if_neg (by omega)]
theorem stI_hi (mm : zM) {a q : Nat} (h : q < a ∨ a + 3 ≤ q) : stI mm a q = mm q := by
  funext k
  unfold stI stL
  rw [if_neg (by omega), if_neg (by omega), up2_ne _ _ (by omega)]
set_option maxRecDepth 100000 in
set_option maxHeartbeats 4000000 in
theorem lX1_init {G : zG} {l : Launch} (a : Nat) (sh : Nat → zK) (mm : zM) (h0 : sh a = .inr (.inr (1, stF a))) (hs : ∀ j, 1 ≤ j → j ≤ 8 → sh (a + j) = .inl (if j ≤ 4 then 8 else 14)) : ∀ (t i : Nat), i + t = 8 → Z G mX1_init (fun _ => True) (zN G (fun r w => r = none ∧ w = (a + 9, sh, stI mm a)) 8 88) l 8 88 (a + 9, sh, stL mm a i) 76 [(1, .int (nI i)), (0, .ref (G.1 + a))] [] := by
  intro t
  induction t with
  | zero =>
    intro i hi
    have e9 : i = 8 := by omega
    subst e9
    refine Z_iload_n 77 0 dX1_init_76 rfl rfl ?_
    refine Z_bipush 79 (nI 8) dX1_init_77 rfl rfl ?_
    refine Z_icmp_ge 82 103 dX1_init_79 rfl rfl (fun c79 => ?_) (fun c79 => absurd (nI_le (Nat.le_refl _) (by omega)) c79)
    exact Z_vret dX1_init_103 rfl ⟨rfl, rfl⟩
  | succ t ih =>
    intro i hi
    have hlt : i < 8 := by omega
    refine Z_iload_n 77 0 dX1_init_76 rfl rfl ?_
    refine Z_bipush 79 (nI 8) dX1_init_77 rfl rfl ?_
    refine Z_icmp_ge 82 103 dX1_init_79 rfl rfl (fun c79 => absurd c79 (nI_ge hlt (by omega))) (fun c79 => ?_)
    refine Z_aload_n 83 1 dX1_init_82 rfl rfl ?_
    refine Z_getR 86 dX1_init_83 rfl fX1_9 (by omega) h0 rfl ?_
    refine Z_iload_n 87 0 dX1_init_86 rfl rfl ?_
    refine Z_bipush 89 (nI 10) dX1_init_87 rfl rfl ?_
    refine Z_iasn 90 dX1_init_89 rfl (by omega) (hs 1 (by decide) (by decide)) hlt (by decide) ?_
    refine Z_aload_n 91 1 dX1_init_90 rfl rfl ?_
    refine Z_getR 94 dX1_init_91 rfl fX1_15 (by omega) h0 rfl ?_
    refine Z_iload_n 95 0 dX1_init_94 rfl rfl ?_
    refine Z_iconst 96 (nI 1) dX1_init_95 rfl rfl ?_
    refine Z_iasn 97 dX1_init_96 rfl (by omega) (hs 2 (by decide) (by decide)) hlt (by decide) ?_
    rw [stL_step]
    refine Z_iinc 100 [(1, _), (0, _)] 0 _ dX1_init_97 rfl (Nat.le_of_ble_eq_true rfl) rfl (nI_1 _) rfl ?_
    refine Z_goto 76 dX1_init_100 rfl ?_
    exact ih (i + 1) (by omega)

set_option maxRecDepth 100000 in
set_option maxHeartbeats 4000000 in
theorem zX1_init {G : zG} {l : Launch} (a : Nat) (sh : Nat → zK) (mm : zM) (h0 : sh a = .inr (.inr (1, stF a))) (hs : ∀ j, 1 ≤ j → j ≤ 8 → sh (a + j) = .inl (if j ≤ 4 then 8 else 14)) (hm : ∀ q, a ≤ q → mm q = fun _ => 0) : zMet G l yX1_init mX1_init [.ref (G.1 + a)] (a + 1, ov a 1 rN1 sh, mm) (fun r w => r = none ∧ w = (a + 9, sh, stI mm a)) 8 88 := by
  refine zMet_of [(0, .ref (G.1 + a))] (by decide +kernel) rfl (Or.inr rfl) (Nat.le_of_ble_eq_true rfl) rfl ?_
  refine Z_aload_n 1 0 dX1_init_0 rfl rfl ?_
  refine Z_objInit 4 dX1_init_1 rfl qX1_3 ⟨(Nat.le_of_ble_eq_true rfl), (Nat.le_of_ble_eq_true rfl)⟩ rfl ⟨(Nat.le_of_ble_eq_true rfl), (Nat.le_of_ble_eq_true rfl)⟩ ?_
  refine Z_aload_n 5 0 dX1_init_4 rfl rfl ?_
  refine Z_bipush 7 (nI 8) dX1_init_5 rfl rfl ?_
  refine Z_newA (n9 := a + 1) 9 dX1_init_7 rfl ((ov_n (by omega)).trans (hs 1 (by decide) (by decide))) (hm _ (by omega)) (by decide) ⟨(Nat.le_of_ble_eq_true rfl), (Nat.le_of_ble_eq_true rfl)⟩ ?_
  refine Z_putR 12 (.array .int) dX1_init_9 rfl fX1_9 fr_1_0 rfl (by omega) ov_a rfl (fun _ => rfl) (fun _ => rfl) ?_
  refine Z_wsh (sh' := ov a 1 [rF (a + 1), nF9, nF9, nF9, nF9, nF9, nF9, nF9, none, none, none, none, none, none] sh) (ov_ov a 1 _ _ _) ?_
  refine Z_aload_n 13 0 dX1_init_12 rfl rfl ?_
  refine Z_bipush 15 (nI 8) dX1_init_13 rfl rfl ?_
  refine Z_newA (n9 := a + 2) 17 dX1_init_15 rfl ((ov_n (by omega)).trans (hs 2 (by decide) (by decide))) (hm _ (by omega)) (by decide) ⟨(Nat.le_of_ble_eq_true rfl), (Nat.le_of_ble_eq_true rfl)⟩ ?_
  refine Z_putR 20 (.array .int) dX1_init_17 rfl fX1_15 fr_1_1 rfl (by omega) ov_a rfl (fun _ => rfl) (fun _ => rfl) ?_
  refine Z_wsh (sh' := ov a 1 [rF (a + 1), rF (a + 2), nF9, nF9, nF9, nF9, nF9, nF9, none, none, none, none, none, none] sh) (ov_ov a 1 _ _ _) ?_
  refine Z_aload_n 21 0 dX1_init_20 rfl rfl ?_
  refine Z_bipush 23 (nI 8) dX1_init_21 rfl rfl ?_
  refine Z_newA (n9 := a + 3) 25 dX1_init_23 rfl ((ov_n (by omega)).trans (hs 3 (by decide) (by decide))) (hm _ (by omega)) (by decide) ⟨(Nat.le_of_ble_eq_true rfl), (Nat.le_of_ble_eq_true rfl)⟩ ?_
  refine Z_putR 28 (.array .int) dX1_init_25 rfl fX1_18 fr_1_2 rfl (by omega) ov_a rfl (fun _ => rfl) (fun _ => rfl) ?_
  refine Z_wsh (sh' := ov a 1 [rF (a + 1), rF (a + 2), rF (a + 3), nF9, nF9, nF9, nF9, nF9, none, none, none, none, none, none] sh) (ov_ov a 1 _ _ _) ?_
  refine Z_aload_n 29 0 dX1_init_28 rfl rfl ?_
  refine Z_bipush 31 (nI 8) dX1_init_29 rfl rfl ?_
  refine Z_newA (n9 := a + 4) 33 dX1_init_31 rfl ((ov_n (by omega)).trans (hs 4 (by decide) (by decide))) (hm _ (by omega)) (by decide) ⟨(Nat.le_of_ble_eq_true rfl), (Nat.le_of_ble_eq_true rfl)⟩ ?_
  refine Z_putR 36 (.array .int) dX1_init_33 rfl fX1_21 fr_1_3 rfl (by omega) ov_a rfl (fun _ => rfl) (fun _ => rfl) ?_
  refine Z_wsh (sh' := ov a 1 [rF (a + 1), rF (a + 2), rF (a + 3), rF (a + 4), nF9, nF9, nF9, nF9, none, none, none, none, none, none] sh) (ov_ov a 1 _ _ _) ?_
  refine Z_aload_n 37 0 dX1_init_36 rfl rfl ?_
  refine Z_bipush 39 (nI 14) dX1_init_37 rfl rfl ?_
  refine Z_newA (n9 := a + 5) 41 dX1_init_39 rfl ((ov_n (by omega)).trans (hs 5 (by decide) (by decide))) (hm _ (by omega)) (by decide) ⟨(Nat.le_of_ble_eq_true rfl), (Nat.le_of_ble_eq_true rfl)⟩ ?_
  refine Z_putR 44 (.array .int) dX1_init_41 rfl fX1_24 fr_1_4 rfl (by omega) ov_a rfl (fun _ => rfl) (fun _ => rfl) ?_
  refine Z_wsh (sh' := ov a 1 [rF (a + 1), rF (a + 2), rF (a + 3), rF (a + 4), rF (a + 5), nF9, nF9, nF9, none, none, none, none, none, none] sh) (ov_ov a 1 _ _ _) ?_
  refine Z_aload_n 45 0 dX1_init_44 rfl rfl ?_
  refine Z_bipush 47 (nI 14) dX1_init_45 rfl rfl ?_
  refine Z_newA (n9 := a + 6) 49 dX1_init_47 rfl ((ov_n (by omega)).trans (hs 6 (by decide) (by decide))) (hm _ (by omega)) (by decide) ⟨(Nat.le_of_ble_eq_true rfl), (Nat.le_of_ble_eq_true rfl)⟩ ?_
  refine Z_putR 52 (.array .int) dX1_init_49 rfl fX1_27 fr_1_5 rfl (by omega) ov_a rfl (fun _ => rfl) (fun _ => rfl) ?_
  refine Z_wsh (sh' := ov a 1 [rF (a + 1), rF (a + 2), rF (a + 3), rF (a + 4), rF (a + 5), rF (a + 6), nF9, nF9, none, none, none, none, none, none] sh) (ov_ov a 1 _ _ _) ?_
  refine Z_aload_n 53 0 dX1_init_52 rfl rfl ?_
  refine Z_bipush 55 (nI 14) dX1_init_53 rfl rfl ?_
  refine Z_newA (n9 := a + 7) 57 dX1_init_55 rfl ((ov_n (by omega)).trans (hs 7 (by decide) (by decide))) (hm _ (by omega)) (by decide) ⟨(Nat.le_of_ble_eq_true rfl), (Nat.le_of_ble_eq_true rfl)⟩ ?_
  refine Z_putR 60 (.array .int) dX1_init_57 rfl fX1_30 fr_1_6 rfl (by omega) ov_a rfl (fun _ => rfl) (fun _ => rfl) ?_
  refine Z_wsh (sh' := ov a 1 [rF (a + 1), rF (a + 2), rF (a + 3), rF (a + 4), rF (a + 5), rF (a + 6), rF (a + 7), nF9, none, none, none, none, none, none] sh) (ov_ov a 1 _ _ _) ?_
  refine Z_aload_n 61 0 dX1_init_60 rfl rfl ?_
  refine Z_bipush 63 (nI 14) dX1_init_61 rfl rfl ?_
  refine Z_newA (n9 := a + 8) 65 dX1_init_63 rfl ((ov_n (by omega)).trans (hs 8 (by decide) (by decide))) (hm _ (by omega)) (by decide) ⟨(Nat.le_of_ble_eq_true rfl), (Nat.le_of_ble_eq_true rfl)⟩ ?_
  refine Z_putR 68 (.array .int) dX1_init_65 rfl fX1_33 fr_1_7 rfl (by omega) ov_a rfl (fun _ => rfl) (fun _ => rfl) ?_
  refine Z_wsh (sh' := ov a 1 [rF (a + 1), rF (a + 2), rF (a + 3), rF (a + 4), rF (a + 5), rF (a + 6), rF (a + 7), rF (a + 8), none, none, none, none, none, none] sh) (ov_ov a 1 _ _ _) ?_
  refine Z_aload_n 69 0 dX1_init_68 rfl rfl ?_
  refine Z_bipush 71 (nI 10) dX1_init_69 rfl rfl ?_
  refine Z_putI 74 .int dX1_init_71 rfl fX1_36 ft_1_10 (by omega) ov_a rfl rfl rfl ?_
  refine Z_wsh (fun q => ov_id h0 q) ?_
  refine Z_iconst 75 (nI 0) dX1_init_74 rfl rfl ?_
  refine Z_istore_n 76 [(1, _), (0, _)] dX1_init_75 rfl (Nat.le_of_ble_eq_true rfl) rfl ?_
  refine Z_w (w' := (a + 9, sh, stL mm a 0)) (congrArg (fun z => (a + 9, sh, z)) (stL_0 mm a).symm) ?_
  exact lX1_init a sh mm h0 hs 8 0 (by omega)
set_option maxRecDepth 100000 in
set_option maxHeartbeats 4000000 in
theorem zX0_init {G : zG} {l : Launch} (sh : Nat → zK) (mm : zM) (h0 : sh 68 = .inr (.inr (0, [rF 69, none, rF 70, rF 71, rF 72, rF 73, none, none, none, none]))) (hs : sh 69 = .inl 60 ∧ sh 70 = .inl 15 ∧ sh 71 = .inl 15 ∧ sh 72 = .inl 15 ∧ sh 73 = .inl 15) (hm : ∀ q, 68 ≤ q → mm q = fun _ => 0) : zMet G l yX0_init mX0_init [.ref (G.1 + 68)] (69, ov 68 0 rN0 sh, mm) (fun r w => r = none ∧ w = (74, sh, mm)) 5 120 := by
  refine zMet_of [(0, .ref (G.1 + 68))] (by decide +kernel) rfl (Or.inr rfl) (Nat.le_of_ble_eq_true rfl) rfl ?_
  refine Z_aload_n 1 0 dX0_init_0 rfl rfl ?_
  refine Z_objInit 4 dX0_init_1 rfl qX0_3 ⟨(Nat.le_of_ble_eq_true rfl), (Nat.le_of_ble_eq_true rfl)⟩ rfl ⟨(Nat.le_of_ble_eq_true rfl), (Nat.le_of_ble_eq_true rfl)⟩ ?_
  refine Z_aload_n 5 0 dX0_init_4 rfl rfl ?_
  refine Z_bipush 7 (nI 60) dX0_init_5 rfl rfl ?_
  refine Z_newA (n9 := 69) 9 dX0_init_7 rfl ((ov_n (by omega)).trans (hs.1)) (hm _ (by omega)) (by decide) ⟨(Nat.le_of_ble_eq_true rfl), (Nat.le_of_ble_eq_true rfl)⟩ ?_
  refine Z_putR 12 (.array .int) dX0_init_9 rfl fX0_9 fr_0_0 rfl (by omega) ov_a rfl (fun _ => rfl) (fun _ => rfl) ?_
  refine Z_wsh (sh' := ov 68 0 [rF 69, none, nF9, nF9, nF9, nF9, none, none, none, none] sh) (ov_ov 68 0 _ _ _) ?_
  refine Z_aload_n 13 0 dX0_init_12 rfl rfl ?_
  refine Z_bipush 15 (nI 15) dX0_init_13 rfl rfl ?_
  refine Z_newA (n9 := 70) 17 dX0_init_15 rfl ((ov_n (by omega)).trans (hs.2.1)) (hm _ (by omega)) (by decide) ⟨(Nat.le_of_ble_eq_true rfl), (Nat.le_of_ble_eq_true rfl)⟩ ?_
  refine Z_putR 20 (.array .int) dX0_init_17 rfl fX0_15 fr_0_2 rfl (by omega) ov_a rfl (fun _ => rfl) (fun _ => rfl) ?_
  refine Z_wsh (sh' := ov 68 0 [rF 69, none, rF 70, nF9, nF9, nF9, none, none, none, none] sh) (ov_ov 68 0 _ _ _) ?_
  refine Z_aload_n 21 0 dX0_init_20 rfl rfl ?_
  refine Z_bipush 23 (nI 15) dX0_init_21 rfl rfl ?_
  refine Z_newA (n9 := 71) 25 dX0_init_23 rfl ((ov_n (by omega)).trans (hs.2.2.1)) (hm _ (by omega)) (by decide) ⟨(Nat.le_of_ble_eq_true rfl), (Nat.le_of_ble_eq_true rfl)⟩ ?_
  refine Z_putR 28 (.array .int) dX0_init_25 rfl fX0_18 fr_0_3 rfl (by omega) ov_a rfl (fun _ => rfl) (fun _ => rfl) ?_
  refine Z_wsh (sh' := ov 68 0 [rF 69, none, rF 70, rF 71, nF9, nF9, none, none, none, none] sh) (ov_ov 68 0 _ _ _) ?_
  refine Z_aload_n 29 0 dX0_init_28 rfl rfl ?_
  refine Z_bipush 31 (nI 15) dX0_init_29 rfl rfl ?_
  refine Z_newA (n9 := 72) 33 dX0_init_31 rfl ((ov_n (by omega)).trans (hs.2.2.2.1)) (hm _ (by omega)) (by decide) ⟨(Nat.le_of_ble_eq_true rfl), (Nat.le_of_ble_eq_true rfl)⟩ ?_
  refine Z_putR 36 (.array .int) dX0_init_33 rfl fX0_21 fr_0_4 rfl (by omega) ov_a rfl (fun _ => rfl) (fun _ => rfl) ?_
  refine Z_wsh (sh' := ov 68 0 [rF 69, none, rF 70, rF 71, rF 72, nF9, none, none, none, none] sh) (ov_ov 68 0 _ _ _) ?_
  refine Z_aload_n 37 0 dX0_init_36 rfl rfl ?_
  refine Z_bipush 39 (nI 15) dX0_init_37 rfl rfl ?_
  refine Z_newA (n9 := 73) 41 dX0_init_39 rfl ((ov_n (by omega)).trans (hs.2.2.2.2)) (hm _ (by omega)) (by decide) ⟨(Nat.le_of_ble_eq_true rfl), (Nat.le_of_ble_eq_true rfl)⟩ ?_
  refine Z_putR 44 (.array .int) dX0_init_41 rfl fX0_24 fr_0_5 rfl (by omega) ov_a rfl (fun _ => rfl) (fun _ => rfl) ?_
  refine Z_wsh (sh' := ov 68 0 [rF 69, none, rF 70, rF 71, rF 72, rF 73, none, none, none, none] sh) (ov_ov 68 0 _ _ _) ?_
  refine Z_wsh (fun q => ov_id h0 q) ?_
  exact Z_vret dX0_init_44 rfl ⟨rfl, rfl⟩
set_option maxRecDepth 100000 in
set_option maxHeartbeats 4000000 in
theorem zX2_init {G : zG} {l : Launch} (sh : Nat → zK) (mm : zM) (h0 : sh 56 = .inr (.inr (2, [rF 57, rF 58, rF 59]))) (hs : sh 57 = .inl 8 ∧ sh 58 = .inl 8 ∧ sh 59 = .inr (.inl (true, 8, fun i => if i < 8 then some (60 + i) else none)) ∧ ∀ i, i < 8 → sh (60 + i) = .inl 8) (hm : ∀ q, 56 ≤ q → mm q = fun _ => 0) : zMet G l yX2_init mX2_init [.ref (G.1 + 56)] (57, ov 56 2 rN2 sh, mm) (fun r w => r = none ∧ w = (68, sh, mm)) 11 88 := by
  refine zMet_of [(0, .ref (G.1 + 56))] (by decide +kernel) rfl (Or.inr rfl) (Nat.le_of_ble_eq_true rfl) rfl ?_
  refine Z_aload_n 1 0 dX2_init_0 rfl rfl ?_
  refine Z_objInit 4 dX2_init_1 rfl qX2_3 ⟨(Nat.le_of_ble_eq_true rfl), (Nat.le_of_ble_eq_true rfl)⟩ rfl ⟨(Nat.le_of_ble_eq_true rfl), (Nat.le_of_ble_eq_true rfl)⟩ ?_
  refine Z_aload_n 5 0 dX2_init_4 rfl rfl ?_
  refine Z_bipush 7 (nI 8) dX2_init_5 rfl rfl ?_
  refine Z_newA (n9 := 57) 9 dX2_init_7 rfl ((ov_n (by omega)).trans (hs.1)) (hm _ (by omega)) (by decide) ⟨(Nat.le_of_ble_eq_true rfl), (Nat.le_of_ble_eq_true rfl)⟩ ?_
  refine Z_putR 12 (.array .int) dX2_init_9 rfl fX2_9 fr_2_0 rfl (by omega) ov_a rfl (fun _ => rfl) (fun _ => rfl) ?_
  refine Z_wsh (sh' := ov 56 2 [rF 57, nF9, nF9] sh) (ov_ov 56 2 _ _ _) ?_
  refine Z_aload_n 13 0 dX2_init_12 rfl rfl ?_
  refine Z_bipush 15 (nI 8) dX2_init_13 rfl rfl ?_
  refine Z_newA (n9 := 58) 17 dX2_init_15 rfl ((ov_n (by omega)).trans (hs.2.1)) (hm _ (by omega)) (by decide) ⟨(Nat.le_of_ble_eq_true rfl), (Nat.le_of_ble_eq_true rfl)⟩ ?_
  refine Z_putR 20 (.array .int) dX2_init_17 rfl fX2_15 fr_2_1 rfl (by omega) ov_a rfl (fun _ => rfl) (fun _ => rfl) ?_
  refine Z_wsh (sh' := ov 56 2 [rF 57, rF 58, nF9] sh) (ov_ov 56 2 _ _ _) ?_
  refine Z_aload_n 21 0 dX2_init_20 rfl rfl ?_
  refine Z_bipush 23 (nI 8) dX2_init_21 rfl rfl ?_
  refine Z_bipush 25 (nI 8) dX2_init_23 rfl rfl ?_
  refine Z_newM (n9 := 59) 29 dX2_init_25 rfl kcX2_18 ((ov_n (by omega)).trans hs.2.2.1) (fun i hi => ⟨(ov_n (by omega)).trans (hs.2.2.2 i hi), hm _ (by omega)⟩) ⟨(Nat.le_of_ble_eq_true rfl), (Nat.le_of_ble_eq_true rfl)⟩ ?_
  refine Z_putR 32 (.array (.array .int)) dX2_init_29 rfl fX2_20 fr_2_2 rfl (by omega) ov_a rfl (fun _ => rfl) (fun _ => rfl) ?_
  refine Z_wsh (sh' := ov 56 2 [rF 57, rF 58, rF 59] sh) (ov_ov 56 2 _ _ _) ?_
  refine Z_wsh (fun q => ov_id h0 q) ?_
  exact Z_vret dX2_init_32 rfl ⟨rfl, rfl⟩