/-! Street.copyFrom -/
def cp1 (m : zM) (a c i : Nat) : zM := fun q k => if a + 1 ≤ q ∧ q ≤ a + 4 ∧ k < i then m (c + (q - a)) k else m q k
def cp2 (m : zM) (a c i : Nat) : zM := fun q k => if a + 5 ≤ q ∧ q ≤ a + 8 ∧ k < i then m (c + (q - a)) k else cp1 m a c 8 q k
/-- the world behind a copy of the street at c into that at a -/
def cpM (m : zM) (a c : Nat) : zM := fun q k => if (a + 1 ≤ q ∧ q ≤ a + 4 ∧ k < 8) ∨ (a + 5 ≤ q ∧ q ≤ a + 8 ∧ k < 14) ∨ (q = a ∧ 8 ≤ k ∧ k ≤ 13) then m (c + (q - a)) k else m q k
theorem IsSt.apart {a c : Nat} (hs : IsSt a) (hc : IsSt c) (h : a ≠ c) : a + 9 ≤ c ∨ c + 9 ≤ a := by
  unfold IsSt at hs hc
  omega
theorem cp1_c {m : zM} {a c i : Nat} (hd : a + 9 ≤ c ∨ c + 9 ≤ a) (j k : Nat) (hj : j ≤ 8) : cp1 m a c i (c + j) k = m (c + j) k := by
  unfold cp1
  rw [if_neg (by omega)]
theorem cp2_c {m : zM} {a c i : Nat} (hd : a + 9 ≤ c ∨ c + 9 ≤ a) (j k : Nat) (hj : j ≤ 8) : cp2 m a c i (c + j) k = m (c + j) k := by
  unfold cp2
  rw [if_neg (by omega), cp1_c hd j k hj]
theorem cp1_step (m : zM) {a c : Nat} (i : Nat) : up2 (up2 (up2 (up2 (cp1 m a c i) (a + 1) i (m (c + 1) i)) (a + 2) i (m (c + 2) i)) (a + 3) i (m (c + 3) i)) (a + 4) i (m (c + 4) i) = cp1 m a c (i + 1) := by
  funext q k
  unfold up2 cp1
  by_cases h1 : k = i
  · subst h1
    by_cases h2 : a + 1 ≤ q ∧ q ≤ a + 4
    · have h4 : q = a + 1 ∨ q = a + 2 ∨ q = a + 3 ∨ q = a + 4 := by omega
      rcases h4 with h4 | h4 | h4 | h4 <;> subst h4 <;> simp [show ∀ z, a + z - a = z by omega]
    · have g1 : q ≠ a + 1 := by omega
      have g2 : q ≠ a + 2 := by omega
      have g3 : q ≠ a + 3 := by omega
      have g4 : q ≠ a + 4 := by omega
      simp only [g1, g2, g3, g4, false_and, if_false]
      rw [if_neg (fun z => h2 ⟨z.1, z.2.1⟩), if_neg (fun z => h2 ⟨z.1, z.2.1⟩)]
  · simp only [h1, and_false, if_false]
    by_cases h2 : a + 1 ≤ q ∧ q ≤ a + 4 ∧ k < i
    · rw [if_pos h2, if_pos ⟨h2.1, h2.2.1, by omega⟩]
    · rw [if_neg h2, if_neg (fun z => h2 ⟨z.1, z.2.1, by omega⟩)]
theorem cp2_step (m : zM) {a c : Nat} (i : Nat) : up2 (up2 (up2 (up2 (cp2 m a c i) (a + 5) i (m (c + 5) i)) (a + 6) i (m (c + 6) i)) (a + 7) i (m (c + 7) i)) (a + 8) i (m (c + 8) i) = cp2 m a c (i + 1) := by
  funext q k
  unfold up2 cp2
  by_cases h1 : k = i
  · subst h1
    by_cases h2 : a + 5 ≤ q ∧ q ≤ a + 8
    · have h4 : q = a + 5 ∨ q = a + 6 ∨ q = a + 7 ∨ q = a + 8 := by omega
      rcases h4 with h4 | h4 | h4 | h4 <;> subst h4 <;> simp [show ∀ z, a + z - a = z by omega]
    · have g1 : q ≠ a + 5 := by omega
      have g2 : q ≠ a + 6 := by omega
      have g3 : q ≠ a + 7 := by omega
      have g4 : q ≠ a + 8 := by omega
      simp only [g1, g2, g3, g4, false_and, if_false]
      rw [if_neg (fun z => h2 ⟨z.1, z.2.1⟩), if_neg (fun z => h2 ⟨z.1, z.2.1⟩)]
  · simp only [h1, and_false, if_false]
    by_cases h2 : a + 5 ≤ q ∧ q ≤ a + 8 ∧ k < i
    · rw [if_pos h2, if_pos ⟨h2.1, h2.2.1, by omega⟩]
    · rw [if_neg h2, if_neg (fun z => h2 ⟨z.1, z.2.1, by omega⟩)]
theorem cpM_end (m : zM) {a c : Nat} : up2 (up2 (up2 (up2 (up2 (up2 (cp2 m a c 14) a 8 (m c 8)) a 9 (m c 9)) a 10 (m c 10)) a 11 (m c 11)) a 12 (m c 12)) a 13 (m c 13) = cpM m a c := by
  funext q k
  unfold up2 cp2 cp1 cpM
  by_cases h0 : q = a
  · subst h0
    by_cases h1 : 8 ≤ k ∧ k ≤ 13
    · have h4 : k = 8 ∨ k = 9 ∨ k = 10 ∨ k = 11 ∨ k = 12 ∨ k = 13 := by omega
      rcases h4 with h4 | h4 | h4 | h4 | h4 | h4 <;> subst h4 <;> simp
    · have g1 : k ≠ 8 := by omega
      have g2 : k ≠ 9 := by omega
      have g3 : k ≠ 10 := by omega
      have g4 : k ≠ 11 := by omega
      have g5 : k ≠ 12 := by omega
      have g6 : k ≠ 13 := by omega
      simp only [g1, g2, g3, g4, g5, g6, and_false, if_false]
      rw [if_neg (by omega), if_neg (by omega), if_neg (by omega)]
  · simp only [h0, false_and, if_false]
    by_cases h2 : a + 5 ≤ q ∧ q ≤ a + 8 ∧ k < 14
    · rw [if_pos h2, if_pos (Or.inr (Or.inl h2))]
    · rw [if_neg h2]
      by_cases h3 : a + 1 ≤ q ∧ q ≤ a + 4 ∧ k < 8
      · rw [if_pos h3, if_pos (Or.inl h3)]
      · rw [if_neg h3, if_neg (fun z => by rcases z with z | z | z <;> omega)]
set_option maxRecDepth 100000 in
set_option maxHeartbeats 4000000 in
theorem lX1_copyFrom2 {G : zG} {l : Launch} {h : Nat → Nat} {m : zM} (a c : Nat) (hs : IsSt a) (hc : IsSt c) (hd : a + 9 ≤ c ∨ c + 9 ≤ a) : ∀ (t i : Nat), i + t = 14 → Z G mX1_copyFrom (fun _ => True) (zN G (fun r w => r = none ∧ w = zw h (cpM m a c)) 0 0) l 0 0 (zw h (cp2 m a c i)) 64 [(2, .int (nI i)), (0, .ref (G.1 + a)), (1, .ref (G.1 + c))] [] := by
  intro t
  induction t with
  | zero =>
    intro i hi
    have e9 : i = 14 := by omega
    subst e9
    have hne : ∀ i j : Nat, i ≤ 8 → j ≤ 8 → ¬ c + i = a + j := fun i j _ _ => by omega
    have hne0 : ¬ c = a := by omega
    refine Z_iload_n 65 0 dX1_copyFrom_64 rfl rfl ?_
    refine Z_bipush 67 (nI 14) dX1_copyFrom_65 rfl rfl ?_
    refine Z_icmp_ge 70 124 dX1_copyFrom_67 rfl rfl (fun c67 => ?_) (fun c67 => absurd (nI_le (Nat.le_refl _) (by omega)) c67)
    refine Z_aload_n 125 1 dX1_copyFrom_124 rfl rfl ?_
    refine Z_aload_n 126 2 dX1_copyFrom_125 rfl rfl ?_
    refine Z_getI 129 dX1_copyFrom_126 rfl fX1_40 (Nat.lt_of_le_of_lt hc.lt (Nat.le_of_ble_eq_true rfl)) (shS hc) rfl ?_
    refine Z_top (v' := .int (m c 8)) (congrArg Value.int (by (try simp only [up2, hne0, false_and, if_false]); exact cp2_c (i := 14) hd 0 8 (by decide))) ?_
    refine Z_putI 132 .int dX1_copyFrom_129 rfl fX1_40 ft_1_8 (Nat.lt_of_le_of_lt hs.lt (Nat.le_of_ble_eq_true rfl)) (shS hs) rfl rfl rfl ?_
    refine Z_aload_n 133 1 dX1_copyFrom_132 rfl rfl ?_
    refine Z_aload_n 134 2 dX1_copyFrom_133 rfl rfl ?_
    refine Z_getI 137 dX1_copyFrom_134 rfl fX1_43 (Nat.lt_of_le_of_lt hc.lt (Nat.le_of_ble_eq_true rfl)) (shS hc) rfl ?_
    refine Z_top (v' := .int (m c 9)) (congrArg Value.int (by (try simp only [up2, hne0, false_and, if_false]); exact cp2_c (i := 14) hd 0 9 (by decide))) ?_
    refine Z_putI 140 .int dX1_copyFrom_137 rfl fX1_43 ft_1_9 (Nat.lt_of_le_of_lt hs.lt (Nat.le_of_ble_eq_true rfl)) (shS hs) rfl rfl rfl ?_
    refine Z_aload_n 141 1 dX1_copyFrom_140 rfl rfl ?_
    refine Z_aload_n 142 2 dX1_copyFrom_141 rfl rfl ?_
    refine Z_getI 145 dX1_copyFrom_142 rfl fX1_36 (Nat.lt_of_le_of_lt hc.lt (Nat.le_of_ble_eq_true rfl)) (shS hc) rfl ?_
    refine Z_top (v' := .int (m c 10)) (congrArg Value.int (by (try simp only [up2, hne0, false_and, if_false]); exact cp2_c (i := 14) hd 0 10 (by decide))) ?_
    refine Z_putI 148 .int dX1_copyFrom_145 rfl fX1_36 ft_1_10 (Nat.lt_of_le_of_lt hs.lt (Nat.le_of_ble_eq_true rfl)) (shS hs) rfl rfl rfl ?_
    refine Z_aload_n 149 1 dX1_copyFrom_148 rfl rfl ?_
    refine Z_aload_n 150 2 dX1_copyFrom_149 rfl rfl ?_
    refine Z_getI 153 dX1_copyFrom_150 rfl fX1_46 (Nat.lt_of_le_of_lt hc.lt (Nat.le_of_ble_eq_true rfl)) (shS hc) rfl ?_
    refine Z_top (v' := .int (m c 11)) (congrArg Value.int (by (try simp only [up2, hne0, false_and, if_false]); exact cp2_c (i := 14) hd 0 11 (by decide))) ?_
    refine Z_putI 156 .int dX1_copyFrom_153 rfl fX1_46 ft_1_11 (Nat.lt_of_le_of_lt hs.lt (Nat.le_of_ble_eq_true rfl)) (shS hs) rfl rfl rfl ?_
    refine Z_aload_n 157 1 dX1_copyFrom_156 rfl rfl ?_
    refine Z_aload_n 158 2 dX1_copyFrom_157 rfl rfl ?_
    refine Z_getI 161 dX1_copyFrom_158 rfl fX1_49 (Nat.lt_of_le_of_lt hc.lt (Nat.le_of_ble_eq_true rfl)) (shS hc) rfl ?_
    refine Z_top (v' := .int (m c 12)) (congrArg Value.int (by (try simp only [up2, hne0, false_and, if_false]); exact cp2_c (i := 14) hd 0 12 (by decide))) ?_
    refine Z_putI 164 .int dX1_copyFrom_161 rfl fX1_49 ft_1_12 (Nat.lt_of_le_of_lt hs.lt (Nat.le_of_ble_eq_true rfl)) (shS hs) rfl rfl rfl ?_
    refine Z_aload_n 165 1 dX1_copyFrom_164 rfl rfl ?_
    refine Z_aload_n 166 2 dX1_copyFrom_165 rfl rfl ?_
    refine Z_getI 169 dX1_copyFrom_166 rfl fX1_52 (Nat.lt_of_le_of_lt hc.lt (Nat.le_of_ble_eq_true rfl)) (shS hc) rfl ?_
    refine Z_top (v' := .int (m c 13)) (congrArg Value.int (by (try simp only [up2, hne0, false_and, if_false]); exact cp2_c (i := 14) hd 0 13 (by decide))) ?_
    refine Z_putI 172 .int dX1_copyFrom_169 rfl fX1_52 ft_1_13 (Nat.lt_of_le_of_lt hs.lt (Nat.le_of_ble_eq_true rfl)) (shS hs) rfl rfl rfl ?_
    rw [cpM_end]
    exact Z_vret dX1_copyFrom_172 rfl ⟨rfl, rfl⟩
  | succ t ih =>
    intro i hi
    have hlt : i < 14 := by omega
    have hne : ∀ i j : Nat, i ≤ 8 → j ≤ 8 → ¬ c + i = a + j := fun i j _ _ => by omega
    have hne0 : ¬ c = a := by omega
    refine Z_iload_n 65 0 dX1_copyFrom_64 rfl rfl ?_
    refine Z_bipush 67 (nI 14) dX1_copyFrom_65 rfl rfl ?_
    refine Z_icmp_ge 70 124 dX1_copyFrom_67 rfl rfl (fun c67 => absurd c67 (nI_ge hlt (by omega))) (fun c67 => ?_)
    refine Z_aload_n 71 1 dX1_copyFrom_70 rfl rfl ?_
    refine Z_getR 74 dX1_copyFrom_71 rfl fX1_24 (Nat.lt_of_le_of_lt hs.lt (Nat.le_of_ble_eq_true rfl)) (shS hs) rfl ?_
    refine Z_iload_n 75 0 dX1_copyFrom_74 rfl rfl ?_
    refine Z_aload_n 76 2 dX1_copyFrom_75 rfl rfl ?_
    refine Z_getR 79 dX1_copyFrom_76 rfl fX1_24 (Nat.lt_of_le_of_lt hc.lt (Nat.le_of_ble_eq_true rfl)) (shS hc) rfl ?_
    refine Z_iload_n 80 0 dX1_copyFrom_79 rfl rfl ?_
    refine Z_ialn 81 dX1_copyFrom_80 rfl (Nat.lt_of_le_of_lt (Nat.add_le_add_right hc.lt _) (Nat.le_of_ble_eq_true rfl)) (shS4 hc) (by omega) (by decide) ?_
    refine Z_top (v' := .int (m (c + 5) i)) (congrArg Value.int (by exact cp2_c hd 5 i (by decide))) ?_
    refine Z_iasn 82 dX1_copyFrom_81 rfl (Nat.lt_of_le_of_lt (Nat.add_le_add_right hs.lt _) (Nat.le_of_ble_eq_true rfl)) (shS4 hs) (by first | assumption | omega) (by decide) ?_
    refine Z_aload_n 83 1 dX1_copyFrom_82 rfl rfl ?_
    refine Z_getR 86 dX1_copyFrom_83 rfl fX1_27 (Nat.lt_of_le_of_lt hs.lt (Nat.le_of_ble_eq_true rfl)) (shS hs) rfl ?_
    refine Z_iload_n 87 0 dX1_copyFrom_86 rfl rfl ?_
    refine Z_aload_n 88 2 dX1_copyFrom_87 rfl rfl ?_
    refine Z_getR 91 dX1_copyFrom_88 rfl fX1_27 (Nat.lt_of_le_of_lt hc.lt (Nat.le_of_ble_eq_true rfl)) (shS hc) rfl ?_
    refine Z_iload_n 92 0 dX1_copyFrom_91 rfl rfl ?_
    refine Z_ialn 93 dX1_copyFrom_92 rfl (Nat.lt_of_le_of_lt (Nat.add_le_add_right hc.lt _) (Nat.le_of_ble_eq_true rfl)) (shS5 hc) (by omega) (by decide) ?_
    refine Z_top (v' := .int (m (c + 6) i)) (congrArg Value.int (by simp only [up2, (show ¬ c + 6 = a + 5 from hne 6 5 (by decide) (by decide)), false_and, if_false]; exact cp2_c hd 6 i (by decide))) ?_
    refine Z_iasn 94 dX1_copyFrom_93 rfl (Nat.lt_of_le_of_lt (Nat.add_le_add_right hs.lt _) (Nat.le_of_ble_eq_true rfl)) (shS5 hs) (by first | assumption | omega) (by decide) ?_
    refine Z_aload_n 95 1 dX1_copyFrom_94 rfl rfl ?_
    refine Z_getR 98 dX1_copyFrom_95 rfl fX1_30 (Nat.lt_of_le_of_lt hs.lt (Nat.le_of_ble_eq_true rfl)) (shS hs) rfl ?_
    refine Z_iload_n 99 0 dX1_copyFrom_98 rfl rfl ?_
    refine Z_aload_n 100 2 dX1_copyFrom_99 rfl rfl ?_
    refine Z_getR 103 dX1_copyFrom_100 rfl fX1_30 (Nat.lt_of_le_of_lt hc.lt (Nat.le_of_ble_eq_true rfl)) (shS hc) rfl ?_
    refine Z_iload_n 104 0 dX1_copyFrom_103 rfl rfl ?_
    refine Z_ialn 105 dX1_copyFrom_104 rfl (Nat.lt_of_le_of_lt (Nat.add_le_add_right hc.lt _) (Nat.le_of_ble_eq_true rfl)) (shS6 hc) (by omega) (by decide) ?_
    refine Z_top (v' := .int (m (c + 7) i)) (congrArg Value.int (by simp only [up2, (show ¬ c + 7 = a + 5 from hne 7 5 (by decide) (by decide)), (show ¬ c + 7 = a + 6 from hne 7 6 (by decide) (by decide)), false_and, if_false]; exact cp2_c hd 7 i (by decide))) ?_
    refine Z_iasn 106 dX1_copyFrom_105 rfl (Nat.lt_of_le_of_lt (Nat.add_le_add_right hs.lt _) (Nat.le_of_ble_eq_true rfl)) (shS6 hs) (by first | assumption | omega) (by decide) ?_
    refine Z_aload_n 107 1 dX1_copyFrom_106 rfl rfl ?_
    refine Z_getR 110 dX1_copyFrom_107 rfl fX1_33 (Nat.lt_of_le_of_lt hs.lt (Nat.le_of_ble_eq_true rfl)) (shS hs) rfl ?_
    refine Z_iload_n 111 0 dX1_copyFrom_110 rfl rfl ?_
    refine Z_aload_n 112 2 dX1_copyFrom_111 rfl rfl ?_
    refine Z_getR 115 dX1_copyFrom_112 rfl fX1_33 (Nat.lt_of_le_of_lt hc.lt (Nat.le_of_ble_eq_true rfl)) (shS hc) rfl ?_
    refine Z_iload_n 116 0 dX1_copyFrom_115 rfl rfl ?_
    refine Z_ialn 117 dX1_copyFrom_116 rfl (Nat.lt_of_le_of_lt (Nat.add_le_add_right hc.lt _) (Nat.le_of_ble_eq_true rfl)) (shS7 hc) (by omega) (by decide) ?_
    refine Z_top (v' := .int (m (c + 8) i)) (congrArg Value.int (by simp only [up2, (show ¬ c + 8 = a + 5 from hne 8 5 (by decide) (by decide)), (show ¬ c + 8 = a + 6 from hne 8 6 (by decide) (by decide)), (show ¬ c + 8 = a + 7 from hne 8 7 (by decide) (by decide)), false_and, if_false]; exact cp2_c hd 8 i (by decide))) ?_
    refine Z_iasn 118 dX1_copyFrom_117 rfl (Nat.lt_of_le_of_lt (Nat.add_le_add_right hs.lt _) (Nat.le_of_ble_eq_true rfl)) (shS7 hs) (by first | assumption | omega) (by decide) ?_
    rw [cp2_step]
    refine Z_iinc 121 [(2, _), (0, _), (1, _)] 0 _ dX1_copyFrom_118 rfl (Nat.le_of_ble_eq_true rfl) rfl (nI_1 _) rfl ?_
    refine Z_goto 64 dX1_copyFrom_121 rfl ?_
    exact ih (i + 1) (by omega)

set_option maxRecDepth 100000 in
set_option maxHeartbeats 4000000 in
theorem lX1_copyFrom1 {G : zG} {l : Launch} {h : Nat → Nat} {m : zM} (a c : Nat) (hs : IsSt a) (hc : IsSt c) (hd : a + 9 ≤ c ∨ c + 9 ≤ a) : ∀ (t i : Nat), i + t = 8 → Z G mX1_copyFrom (fun _ => True) (zN G (fun r w => r = none ∧ w = zw h (cpM m a c)) 0 0) l 0 0 (zw h (cp1 m a c i)) 2 [(2, .int (nI i)), (0, .ref (G.1 + a)), (1, .ref (G.1 + c))] [] := by
  intro t
  induction t with
  | zero =>
    intro i hi
    have e9 : i = 8 := by omega
    subst e9
    have hne : ∀ i j : Nat, i ≤ 8 → j ≤ 8 → ¬ c + i = a + j := fun i j _ _ => by omega
    have hne0 : ¬ c = a := by omega
    refine Z_iload_n 3 0 dX1_copyFrom_2 rfl rfl ?_
    refine Z_bipush 5 (nI 8) dX1_copyFrom_3 rfl rfl ?_
    refine Z_icmp_ge 8 62 dX1_copyFrom_5 rfl rfl (fun c5 => ?_) (fun c5 => absurd (nI_le (Nat.le_refl _) (by omega)) c5)
    refine Z_iconst 63 (nI 0) dX1_copyFrom_62 rfl rfl ?_
    refine Z_istore_n 64 [(2, _), (0, _), (1, _)] dX1_copyFrom_63 rfl (Nat.le_of_ble_eq_true rfl) rfl ?_
    refine Z_w (w' := zw h (cp2 m a c 0)) (congrArg (zw h) (by funext q k; simp [cp2])) ?_
    exact lX1_copyFrom2 a c hs hc hd 14 0 (by omega)
  | succ t ih =>
    intro i hi
    have hlt : i < 8 := by omega
    have hne : ∀ i j : Nat, i ≤ 8 → j ≤ 8 → ¬ c + i = a + j := fun i j _ _ => by omega
    have hne0 : ¬ c = a := by omega
    refine Z_iload_n 3 0 dX1_copyFrom_2 rfl rfl ?_
    refine Z_bipush 5 (nI 8) dX1_copyFrom_3 rfl rfl ?_
    refine Z_icmp_ge 8 62 dX1_copyFrom_5 rfl rfl (fun c5 => absurd c5 (nI_ge hlt (by omega))) (fun c5 => ?_)
    refine Z_aload_n 9 1 dX1_copyFrom_8 rfl rfl ?_
    refine Z_getR 12 dX1_copyFrom_9 rfl fX1_9 (Nat.lt_of_le_of_lt hs.lt (Nat.le_of_ble_eq_true rfl)) (shS hs) rfl ?_
    refine Z_iload_n 13 0 dX1_copyFrom_12 rfl rfl ?_
    refine Z_aload_n 14 2 dX1_copyFrom_13 rfl rfl ?_
    refine Z_getR 17 dX1_copyFrom_14 rfl fX1_9 (Nat.lt_of_le_of_lt hc.lt (Nat.le_of_ble_eq_true rfl)) (shS hc) rfl ?_
    refine Z_iload_n 18 0 dX1_copyFrom_17 rfl rfl ?_
    refine Z_ialn 19 dX1_copyFrom_18 rfl (Nat.lt_of_le_of_lt (Nat.add_le_add_right hc.lt _) (Nat.le_of_ble_eq_true rfl)) (shS0 hc) (by omega) (by decide) ?_
    refine Z_top (v' := .int (m (c + 1) i)) (congrArg Value.int (by exact cp1_c hd 1 i (by decide))) ?_
    refine Z_iasn 20 dX1_copyFrom_19 rfl (Nat.lt_of_le_of_lt (Nat.add_le_add_right hs.lt _) (Nat.le_of_ble_eq_true rfl)) (shS0 hs) (by first | assumption | omega) (by decide) ?_
    refine Z_aload_n 21 1 dX1_copyFrom_20 rfl rfl ?_
    refine Z_getR 24 dX1_copyFrom_21 rfl fX1_15 (Nat.lt_of_le_of_lt hs.lt (Nat.le_of_ble_eq_true rfl)) (shS hs) rfl ?_
    refine Z_iload_n 25 0 dX1_copyFrom_24 rfl rfl ?_
    refine Z_aload_n 26 2 dX1_copyFrom_25 rfl rfl ?_
    refine Z_getR 29 dX1_copyFrom_26 rfl fX1_15 (Nat.lt_of_le_of_lt hc.lt (Nat.le_of_ble_eq_true rfl)) (shS hc) rfl ?_
    refine Z_iload_n 30 0 dX1_copyFrom_29 rfl rfl ?_
    refine Z_ialn 31 dX1_copyFrom_30 rfl (Nat.lt_of_le_of_lt (Nat.add_le_add_right hc.lt _) (Nat.le_of_ble_eq_true rfl)) (shS1 hc) (by omega) (by decide) ?_
    refine Z_top (v' := .int (m (c + 2) i)) (congrArg Value.int (by simp only [up2, (show ¬ c + 2 = a + 1 from hne 2 1 (by decide) (by decide)), false_and, if_false]; exact cp1_c hd 2 i (by decide))) ?_
    refine Z_iasn 32 dX1_copyFrom_31 rfl (Nat.lt_of_le_of_lt (Nat.add_le_add_right hs.lt _) (Nat.le_of_ble_eq_true rfl)) (shS1 hs) (by first | assumption | omega) (by decide) ?_
    refine Z_aload_n 33 1 dX1_copyFrom_32 rfl rfl ?_
    refine Z_getR 36 dX1_copyFrom_33 rfl fX1_18 (Nat.lt_of_le_of_lt hs.lt (Nat.le_of_ble_eq_true rfl)) (shS hs) rfl ?_
    refine Z_iload_n 37 0 dX1_copyFrom_36 rfl rfl ?_
    refine Z_aload_n 38 2 dX1_copyFrom_37 rfl rfl ?_
    refine Z_getR 41 dX1_copyFrom_38 rfl fX1_18 (Nat.lt_of_le_of_lt hc.lt (Nat.le_of_ble_eq_true rfl)) (shS hc) rfl ?_
    refine Z_iload_n 42 0 dX1_copyFrom_41 rfl rfl ?_
    refine Z_ialn 43 dX1_copyFrom_42 rfl (Nat.lt_of_le_of_lt (Nat.add_le_add_right hc.lt _) (Nat.le_of_ble_eq_true rfl)) (shS2 hc) (by omega) (by decide) ?_
    refine Z_top (v' := .int (m (c + 3) i)) (congrArg Value.int (by simp only [up2, (show ¬ c + 3 = a + 1 from hne 3 1 (by decide) (by decide)), (show ¬ c + 3 = a + 2 from hne 3 2 (by decide) (by decide)), false_and, if_false]; exact cp1_c hd 3 i (by decide))) ?_
    refine Z_iasn 44 dX1_copyFrom_43 rfl (Nat.lt_of_le_of_lt (Nat.add_le_add_right hs.lt _) (Nat.le_of_ble_eq_true rfl)) (shS2 hs) (by first | assumption | omega) (by decide) ?_
    refine Z_aload_n 45 1 dX1_copyFrom_44 rfl rfl ?_
    refine Z_getR 48 dX1_copyFrom_45 rfl fX1_21 (Nat.lt_of_le_of_lt hs.lt (Nat.le_of_ble_eq_true rfl)) (shS hs) rfl ?_
    refine Z_iload_n 49 0 dX1_copyFrom_48 rfl rfl ?_
    refine Z_aload_n 50 2 dX1_copyFrom_49 rfl rfl ?_
    refine Z_getR 53 dX1_copyFrom_50 rfl fX1_21 (Nat.lt_of_le_of_lt hc.lt (Nat.le_of_ble_eq_true rfl)) (shS hc) rfl ?_
    refine Z_iload_n 54 0 dX1_copyFrom_53 rfl rfl ?_
    refine Z_ialn 55 dX1_copyFrom_54 rfl (Nat.lt_of_le_of_lt (Nat.add_le_add_right hc.lt _) (Nat.le_of_ble_eq_true rfl)) (shS3 hc) (by omega) (by decide) ?_
    refine Z_top (v' := .int (m (c + 4) i)) (congrArg Value.int (by simp only [up2, (show ¬ c + 4 = a + 1 from hne 4 1 (by decide) (by decide)), (show ¬ c + 4 = a + 2 from hne 4 2 (by decide) (by decide)), (show ¬ c + 4 = a + 3 from hne 4 3 (by decide) (by decide)), false_and, if_false]; exact cp1_c hd 4 i (by decide))) ?_
    refine Z_iasn 56 dX1_copyFrom_55 rfl (Nat.lt_of_le_of_lt (Nat.add_le_add_right hs.lt _) (Nat.le_of_ble_eq_true rfl)) (shS3 hs) (by first | assumption | omega) (by decide) ?_
    rw [cp1_step]
    refine Z_iinc 59 [(2, _), (0, _), (1, _)] 0 _ dX1_copyFrom_56 rfl (Nat.le_of_ble_eq_true rfl) rfl (nI_1 _) rfl ?_
    refine Z_goto 2 dX1_copyFrom_59 rfl ?_
    exact ih (i + 1) (by omega)

set_option maxRecDepth 100000 in
set_option maxHeartbeats 4000000 in
theorem zX1_copyFrom {G : zG} {l : Launch} {h : Nat → Nat} {m : zM} (a c : Nat) (hs : IsSt a) (hc : IsSt c) (hd : a + 9 ≤ c ∨ c + 9 ≤ a) : zMet G l yX1_copyFrom mX1_copyFrom [.ref (G.1 + a), .ref (G.1 + c)] (zw h m) (fun r w => r = none ∧ w = zw h (cpM m a c)) 0 0 := by
  refine zMet_of [(0, .ref (G.1 + a)), (1, .ref (G.1 + c))] (by decide +kernel) rfl (Or.inl rfl) (Nat.le_of_ble_eq_true rfl) rfl ?_
  refine Z_iconst 1 (nI 0) dX1_copyFrom_0 rfl rfl ?_
  refine Z_istore_n 2 [(2, _), (0, _), (1, _)] dX1_copyFrom_1 rfl (Nat.le_of_ble_eq_true rfl) rfl ?_
  refine Z_w (w' := zw h (cp1 m a c 0)) (congrArg (zw h) (by funext q k; simp [cp1])) ?_
  exact lX1_copyFrom1 a c hs hc hd 8 0 (by omega)

/-! HedgeTreaties: tests of arguments, the history -/
theorem bRt {p : Prop} [Decidable p] (h : p) : some (Value.int (nI 1)) = some (Value.int (bI p)) := by rw [bI_t h]
theorem bRf {p : Prop} [Decidable p] (h : ¬ p) : some (Value.int (nI 0)) = some (Value.int (bI p)) := by rw [bI_f h]
abbrev hdg (x : Int32) : Prop := ¬ x < 0 ∧ x < nI 8
abbrev agr (f o d : Int32) : Prop := hdg f ∧ hdg o ∧ ¬ f = o ∧ ¬ d < -30 ∧ ¬ nI 60 < d
set_option maxRecDepth 100000 in
set_option maxHeartbeats 4000000 in
theorem zX3_isHedge {G : zG} {l : Launch} {h : Nat → Nat} {m : zM} (x : Int32) : zMet G l yX3_isHedge mX3_isHedge [.int x] (zw h m) (fun r w => r = some (.int (bI (hdg x))) ∧ w = zw h m) 0 0 := by
  refine zMet_of [(0, .int x)] (by decide +kernel) rfl (Or.inl rfl) (Nat.le_of_ble_eq_true rfl) rfl ?_
  refine Z_iload_n 1 0 dX3_isHedge_0 rfl rfl ?_
  refine Z_if_lt 4 14 dX3_isHedge_1 rfl rfl (fun c1 => ?_) (fun c1 => ?_)
  · skip
    refine Z_iconst 15 (nI 0) dX3_isHedge_14 rfl rfl ?_
    exact Z_zret dX3_isHedge_15 rfl (by first | exact Or.inl rfl | exact Or.inr rfl | exact bI_01) (by first | exact ⟨bRf (fun q => q.1 c1), rfl⟩ | exact ⟨bRf (fun q => absurd q.2 (Int32.not_lt.mpr c7)), rfl⟩ | exact ⟨bRt (⟨c1, Int32.not_le.mp c7⟩), rfl⟩)
  · skip
    refine Z_iload_n 5 0 dX3_isHedge_4 rfl rfl ?_
    refine Z_bipush 7 (nI 8) dX3_isHedge_5 rfl rfl ?_
    refine Z_icmp_ge 10 14 dX3_isHedge_7 rfl rfl (fun c7 => ?_) (fun c7 => ?_)
    · skip
      refine Z_iconst 15 (nI 0) dX3_isHedge_14 rfl rfl ?_
      exact Z_zret dX3_isHedge_15 rfl (by first | exact Or.inl rfl | exact Or.inr rfl | exact bI_01) (by first | exact ⟨bRf (fun q => q.1 c1), rfl⟩ | exact ⟨bRf (fun q => absurd q.2 (Int32.not_lt.mpr c7)), rfl⟩ | exact ⟨bRt (⟨c1, Int32.not_le.mp c7⟩), rfl⟩)
    · skip
      refine Z_iconst 11 (nI 1) dX3_isHedge_10 rfl rfl ?_
      refine Z_goto 15 dX3_isHedge_11 rfl ?_
      exact Z_zret dX3_isHedge_15 rfl (by first | exact Or.inl rfl | exact Or.inr rfl | exact bI_01) (by first | exact ⟨bRf (fun q => q.1 c1), rfl⟩ | exact ⟨bRf (fun q => absurd q.2 (Int32.not_lt.mpr c7)), rfl⟩ | exact ⟨bRt (⟨c1, Int32.not_le.mp c7⟩), rfl⟩)

set_option maxRecDepth 100000 in
set_option maxHeartbeats 4000000 in
theorem zX3_isAgreement {G : zG} {l : Launch} {h : Nat → Nat} {m : zM} (f o d : Int32) : zMet G l yX3_isAgreement mX3_isAgreement [.int f, .int o, .int d] (zw h m) (fun r w => r = some (.int (bI (agr f o d))) ∧ w = zw h m) 0 0 := by
  refine zMet_of [(0, .int f), (1, .int o), (2, .int d)] (by decide +kernel) rfl (Or.inl rfl) (Nat.le_of_ble_eq_true rfl) rfl ?_
  refine Z_iload_n 1 0 dX3_isAgreement_0 rfl rfl ?_
  refine Z_callS 4 [_] (zX3_isHedge _) dX3_isAgreement_1 rfl qX3_37 kX3_isHedge rfl rfl ⟨(Nat.le_of_ble_eq_true rfl), (Nat.le_of_ble_eq_true rfl)⟩ (Nat.le_of_ble_eq_true rfl) ⟨rfl, rfl⟩ ⟨(Nat.le_of_ble_eq_true rfl), (Nat.le_of_ble_eq_true rfl)⟩ (fun r9 w9 hp9 => ?_)
  obtain ⟨rfl, rfl⟩ := hp9
  refine Z_if_eq 7 35 dX3_isAgreement_4 rfl rfl (fun c4 => ?_) (fun c4 => ?_)
  · skip
    refine Z_iconst 36 (nI 0) dX3_isAgreement_35 rfl rfl ?_
    exact Z_zret dX3_isAgreement_36 rfl (by first | exact Or.inl rfl | exact Or.inr rfl | exact bI_01) (by first | exact ⟨bRf (fun q => bI_0 c4 q.1), rfl⟩ | exact ⟨bRf (fun q => bI_0 c11 q.2.1), rfl⟩ | exact ⟨bRf (fun q => q.2.2.1 c16), rfl⟩ | exact ⟨bRf (fun q => q.2.2.2.1 c22), rfl⟩ | exact ⟨bRf (fun q => q.2.2.2.2 c28), rfl⟩ | exact ⟨bRt (⟨bI_1 c4, bI_1 c11, c16, c22, c28⟩), rfl⟩)
  · skip
    refine Z_iload_n 8 1 dX3_isAgreement_7 rfl rfl ?_
    refine Z_callS 11 [_] (zX3_isHedge _) dX3_isAgreement_8 rfl qX3_37 kX3_isHedge rfl rfl ⟨(Nat.le_of_ble_eq_true rfl), (Nat.le_of_ble_eq_true rfl)⟩ (Nat.le_of_ble_eq_true rfl) ⟨rfl, rfl⟩ ⟨(Nat.le_of_ble_eq_true rfl), (Nat.le_of_ble_eq_true rfl)⟩ (fun r9 w9 hp9 => ?_)
    obtain ⟨rfl, rfl⟩ := hp9
    refine Z_if_eq 14 35 dX3_isAgreement_11 rfl rfl (fun c11 => ?_) (fun c11 => ?_)
    · skip
      refine Z_iconst 36 (nI 0) dX3_isAgreement_35 rfl rfl ?_
      exact Z_zret dX3_isAgreement_36 rfl (by first | exact Or.inl rfl | exact Or.inr rfl | exact bI_01) (by first | exact ⟨bRf (fun q => bI_0 c4 q.1), rfl⟩ | exact ⟨bRf (fun q => bI_0 c11 q.2.1), rfl⟩ | exact ⟨bRf (fun q => q.2.2.1 c16), rfl⟩ | exact ⟨bRf (fun q => q.2.2.2.1 c22), rfl⟩ | exact ⟨bRf (fun q => q.2.2.2.2 c28), rfl⟩ | exact ⟨bRt (⟨bI_1 c4, bI_1 c11, c16, c22, c28⟩), rfl⟩)
    · skip
      refine Z_iload_n 15 0 dX3_isAgreement_14 rfl rfl ?_
      refine Z_iload_n 16 1 dX3_isAgreement_15 rfl rfl ?_
      refine Z_icmp_eq 19 35 dX3_isAgreement_16 rfl rfl (fun c16 => ?_) (fun c16 => ?_)
      · skip
        refine Z_iconst 36 (nI 0) dX3_isAgreement_35 rfl rfl ?_
        exact Z_zret dX3_isAgreement_36 rfl (by first | exact Or.inl rfl | exact Or.inr rfl | exact bI_01) (by first | exact ⟨bRf (fun q => bI_0 c4 q.1), rfl⟩ | exact ⟨bRf (fun q => bI_0 c11 q.2.1), rfl⟩ | exact ⟨bRf (fun q => q.2.2.1 c16), rfl⟩ | exact ⟨bRf (fun q => q.2.2.2.1 c22), rfl⟩ | exact ⟨bRf (fun q => q.2.2.2.2 c28), rfl⟩ | exact ⟨bRt (⟨bI_1 c4, bI_1 c11, c16, c22, c28⟩), rfl⟩)
      · skip
        refine Z_iload_n 20 2 dX3_isAgreement_19 rfl rfl ?_
        refine Z_bipush 22 (-30) dX3_isAgreement_20 rfl rfl ?_
        refine Z_icmp_lt 25 35 dX3_isAgreement_22 rfl rfl (fun c22 => ?_) (fun c22 => ?_)
        · skip
          refine Z_iconst 36 (nI 0) dX3_isAgreement_35 rfl rfl ?_
          exact Z_zret dX3_isAgreement_36 rfl (by first | exact Or.inl rfl | exact Or.inr rfl | exact bI_01) (by first | exact ⟨bRf (fun q => bI_0 c4 q.1), rfl⟩ | exact ⟨bRf (fun q => bI_0 c11 q.2.1), rfl⟩ | exact ⟨bRf (fun q => q.2.2.1 c16), rfl⟩ | exact ⟨bRf (fun q => q.2.2.2.1 c22), rfl⟩ | exact ⟨bRf (fun q => q.2.2.2.2 c28), rfl⟩ | exact ⟨bRt (⟨bI_1 c4, bI_1 c11, c16, c22, c28⟩), rfl⟩)
        · skip
          refine Z_iload_n 26 2 dX3_isAgreement_25 rfl rfl ?_
          refine Z_bipush 28 (nI 60) dX3_isAgreement_26 rfl rfl ?_
          refine Z_icmp_gt 31 35 dX3_isAgreement_28 rfl rfl (fun c28 => ?_) (fun c28 => ?_)
          · skip
            refine Z_iconst 36 (nI 0) dX3_isAgreement_35 rfl rfl ?_
            exact Z_zret dX3_isAgreement_36 rfl (by first | exact Or.inl rfl | exact Or.inr rfl | exact bI_01) (by first | exact ⟨bRf (fun q => bI_0 c4 q.1), rfl⟩ | exact ⟨bRf (fun q => bI_0 c11 q.2.1), rfl⟩ | exact ⟨bRf (fun q => q.2.2.1 c16), rfl⟩ | exact ⟨bRf (fun q => q.2.2.2.1 c22), rfl⟩ | exact ⟨bRf (fun q => q.2.2.2.2 c28), rfl⟩ | exact ⟨bRt (⟨bI_1 c4, bI_1 c11, c16, c22, c28⟩), rfl⟩)
          · skip
            refine Z_iconst 32 (nI 1) dX3_isAgreement_31 rfl rfl ?_
            refine Z_goto 36 dX3_isAgreement_32 rfl ?_
            exact Z_zret dX3_isAgreement_36 rfl (by first | exact Or.inl rfl | exact Or.inr rfl | exact bI_01) (by first | exact ⟨bRf (fun q => bI_0 c4 q.1), rfl⟩ | exact ⟨bRf (fun q => bI_0 c11 q.2.1), rfl⟩ | exact ⟨bRf (fun q => q.2.2.1 c16), rfl⟩ | exact ⟨bRf (fun q => q.2.2.2.1 c22), rfl⟩ | exact ⟨bRf (fun q => q.2.2.2.2 c28), rfl⟩ | exact ⟨bRt (⟨bI_1 c4, bI_1 c11, c16, c22, c28⟩), rfl⟩)

set_option maxRecDepth 100000 in
set_option maxHeartbeats 4000000 in
theorem zX3_isTreaty {G : zG} {l : Launch} {h : Nat → Nat} {m : zM} (n : Nat) (hk : m 1 8 = nI n) (x : Int32) : zMet G l yX3_isTreaty mX3_isTreaty [.ref (G.1 + 0), .int x] (zw h m) (fun r w => r = some (.int (bI (¬ x < 0 ∧ x < nI n))) ∧ w = zw h m) 0 0 := by
  refine zMet_of [(0, .ref (G.1 + 0)), (1, .int x)] (by decide +kernel) rfl (Or.inl rfl) (Nat.le_of_ble_eq_true rfl) rfl ?_
  refine Z_iload_n 1 1 dX3_isTreaty_0 rfl rfl ?_
  refine Z_if_lt 4 19 dX3_isTreaty_1 rfl rfl (fun c1 => ?_) (fun c1 => ?_)
  · skip
    refine Z_iconst 20 (nI 0) dX3_isTreaty_19 rfl rfl ?_
    exact Z_zret dX3_isTreaty_20 rfl (by first | exact Or.inl rfl | exact Or.inr rfl | exact bI_01) (by first | exact ⟨bRf (fun q => q.1 c1), rfl⟩ | exact ⟨bRf (fun q => absurd q.2 (Int32.not_lt.mpr c12)), rfl⟩ | exact ⟨bRt (⟨c1, Int32.not_le.mp c12⟩), rfl⟩)
  · skip
    refine Z_iload_n 5 1 dX3_isTreaty_4 rfl rfl ?_
    refine Z_aload_n 6 0 dX3_isTreaty_5 rfl rfl ?_
    refine Z_getR 9 dX3_isTreaty_6 rfl fX3_10 (Nat.le_of_ble_eq_true rfl) rfl rfl ?_
    refine Z_getI 12 dX3_isTreaty_9 rfl fX3_101 (Nat.le_of_ble_eq_true rfl) rfl rfl ?_
    refine Z_top (congrArg Value.int hk) ?_
    refine Z_icmp_ge 15 19 dX3_isTreaty_12 rfl rfl (fun c12 => ?_) (fun c12 => ?_)
    · skip
      refine Z_iconst 20 (nI 0) dX3_isTreaty_19 rfl rfl ?_
      exact Z_zret dX3_isTreaty_20 rfl (by first | exact Or.inl rfl | exact Or.inr rfl | exact bI_01) (by first | exact ⟨bRf (fun q => q.1 c1), rfl⟩ | exact ⟨bRf (fun q => absurd q.2 (Int32.not_lt.mpr c12)), rfl⟩ | exact ⟨bRt (⟨c1, Int32.not_le.mp c12⟩), rfl⟩)
    · skip
      refine Z_iconst 16 (nI 1) dX3_isTreaty_15 rfl rfl ?_
      refine Z_goto 20 dX3_isTreaty_16 rfl ?_
      exact Z_zret dX3_isTreaty_20 rfl (by first | exact Or.inl rfl | exact Or.inr rfl | exact bI_01) (by first | exact ⟨bRf (fun q => q.1 c1), rfl⟩ | exact ⟨bRf (fun q => absurd q.2 (Int32.not_lt.mpr c12)), rfl⟩ | exact ⟨bRt (⟨c1, Int32.not_le.mp c12⟩), rfl⟩)

set_option maxRecDepth 100000 in
set_option maxHeartbeats 4000000 in
theorem zX3_refuse {G : zG} {l : Launch} {h : Nat → Nat} {m : zM} (x : Int32) : zMet G l yX3_refuse mX3_refuse [.ref (G.1 + 0), .int x] (zw h m) (fun r w => r = some (.int x) ∧ w = zw h (up2 m 1 12 (m 1 12 + nI 1))) 0 0 := by
  refine zMet_of [(0, .ref (G.1 + 0)), (1, .int x)] (by decide +kernel) rfl (Or.inl rfl) (Nat.le_of_ble_eq_true rfl) rfl ?_
  refine Z_aload_n 1 0 dX3_refuse_0 rfl rfl ?_
  refine Z_getR 4 dX3_refuse_1 rfl fX3_10 (Nat.le_of_ble_eq_true rfl) rfl rfl ?_
  refine Z_dup 5 dX3_refuse_4 rfl rfl ?_
  refine Z_getI 8 dX3_refuse_5 rfl fX3_194 (Nat.le_of_ble_eq_true rfl) rfl rfl ?_
  refine Z_iconst 9 (nI 1) dX3_refuse_8 rfl rfl ?_
  refine Z_iadd 10 dX3_refuse_9 rfl ?_
  refine Z_putI 13 .int dX3_refuse_10 rfl fX3_194 ft_1_12 (Nat.le_of_ble_eq_true rfl) rfl rfl rfl rfl ?_
  refine Z_iload_n 14 1 dX3_refuse_13 rfl rfl ?_
  exact Z_iret dX3_refuse_14 rfl ⟨rfl, rfl⟩

def esg (n : Nat) (f o d : Int32) : Int32 := if agr f o d then (if nI n < nI 14 then nI 0 else -3) else -1
theorem esg_1 {n : Nat} {f o d : Int32} (h : ¬ agr f o d) : esg n f o d = -1 := if_neg h
theorem esg_3 {n : Nat} {f o d : Int32} (h : agr f o d) (h2 : ¬ nI n < nI 14) : esg n f o d = -3 := by
  unfold esg
  rw [if_pos h, if_neg h2]
theorem esg_0 {n : Nat} {f o d : Int32} (h : agr f o d) (h2 : nI n < nI 14) : esg n f o d = nI 0 := by
  unfold esg
  rw [if_pos h, if_pos h2]
set_option maxRecDepth 100000 in
set_option maxHeartbeats 4000000 in
theorem zX3_errorOfSigning {G : zG} {l : Launch} {h : Nat → Nat} {m : zM} (n : Nat) (hk : m 1 8 = nI n) (f o d : Int32) : zMet G l yX3_errorOfSigning mX3_errorOfSigning [.ref (G.1 + 0), .int f, .int o, .int d] (zw h m) (fun r w => r = some (.int (esg n f o d)) ∧ w = zw h m) 0 0 := by
  refine zMet_of [(0, .ref (G.1 + 0)), (1, .int f), (2, .int o), (3, .int d)] (by decide +kernel) rfl (Or.inl rfl) (Nat.le_of_ble_eq_true rfl) rfl ?_
  refine Z_iload_n 1 1 dX3_errorOfSigning_0 rfl rfl ?_
  refine Z_iload_n 2 2 dX3_errorOfSigning_1 rfl rfl ?_
  refine Z_iload_n 3 3 dX3_errorOfSigning_2 rfl rfl ?_
  refine Z_callS 6 [_, _, _] (zX3_isAgreement _ _ _) dX3_errorOfSigning_3 rfl qX3_174 kX3_isAgreement rfl rfl ⟨(Nat.le_of_ble_eq_true rfl), (Nat.le_of_ble_eq_true rfl)⟩ (Nat.le_of_ble_eq_true rfl) ⟨rfl, rfl⟩ ⟨(Nat.le_of_ble_eq_true rfl), (Nat.le_of_ble_eq_true rfl)⟩ (fun r9 w9 hp9 => ?_)
  obtain ⟨rfl, rfl⟩ := hp9
  refine Z_if_ne 9 11 dX3_errorOfSigning_6 rfl rfl (fun c6 => ?_) (fun c6 => ?_)
  · skip
    refine Z_aload_n 12 0 dX3_errorOfSigning_11 rfl rfl ?_
    refine Z_getR 15 dX3_errorOfSigning_12 rfl fX3_10 (Nat.le_of_ble_eq_true rfl) rfl rfl ?_
    refine Z_getI 18 dX3_errorOfSigning_15 rfl fX3_101 (Nat.le_of_ble_eq_true rfl) rfl rfl ?_
    refine Z_top (congrArg Value.int hk) ?_
    refine Z_bipush 20 (nI 14) dX3_errorOfSigning_18 rfl rfl ?_
    refine Z_icmp_lt 23 28 dX3_errorOfSigning_20 rfl rfl (fun c20 => ?_) (fun c20 => ?_)
    · skip
      refine Z_iconst 29 (nI 0) dX3_errorOfSigning_28 rfl rfl ?_
      exact Z_iret dX3_errorOfSigning_29 rfl (by first | exact ⟨congrArg (fun v => some (Value.int v)) (esg_0 (bI_1 c6) c20).symm, rfl⟩ | exact ⟨congrArg (fun v => some (Value.int v)) (esg_3 (bI_1 c6) c20).symm, rfl⟩ | exact ⟨congrArg (fun v => some (Value.int v)) (esg_1 (bI_0 (by simpa using c6))).symm, rfl⟩)
    · skip
      refine Z_bipush 25 (-3) dX3_errorOfSigning_23 rfl rfl ?_
      refine Z_goto 29 dX3_errorOfSigning_25 rfl ?_
      exact Z_iret dX3_errorOfSigning_29 rfl (by first | exact ⟨congrArg (fun v => some (Value.int v)) (esg_0 (bI_1 c6) c20).symm, rfl⟩ | exact ⟨congrArg (fun v => some (Value.int v)) (esg_3 (bI_1 c6) c20).symm, rfl⟩ | exact ⟨congrArg (fun v => some (Value.int v)) (esg_1 (bI_0 (by simpa using c6))).symm, rfl⟩)
  · skip
    refine Z_iconst 10 (-1) dX3_errorOfSigning_9 rfl rfl ?_
    exact Z_iret dX3_errorOfSigning_10 rfl (by first | exact ⟨congrArg (fun v => some (Value.int v)) (esg_0 (bI_1 c6) c20).symm, rfl⟩ | exact ⟨congrArg (fun v => some (Value.int v)) (esg_3 (bI_1 c6) c20).symm, rfl⟩ | exact ⟨congrArg (fun v => some (Value.int v)) (esg_1 (bI_0 (by simpa using c6))).symm, rfl⟩)

set_option maxRecDepth 100000 in
set_option maxHeartbeats 4000000 in
theorem lX3_sum {G : zG} {l : Launch} {h : Nat → Nat} {m : zM} (q9 : Nat) (hq : q9 < 74) (hs9 : SH h q9 = .inl 8) : ∀ (t i : Nat), i + t = 8 → Z G mX3_sum (fun _ => True) (zN G (fun r w => r = some (.int (sumI (m q9) 8)) ∧ w = zw h m) 0 0) l 0 0 (zw h m) 10 [(4, .int (nI i)), (1, .int (sumI (m q9) i)), (3, .int (nI 8)), (2, .ref (G.1 + q9))] [] := by
  intro t
  induction t with
  | zero =>
    intro i hi
    have e9 : i = 8 := by omega
    subst e9
    refine Z_iload 12 0 dX3_sum_10 rfl rfl ?_
    refine Z_iload_n 13 2 dX3_sum_12 rfl rfl ?_
    refine Z_icmp_ge 16 33 dX3_sum_13 rfl rfl (fun c13 => ?_) (fun c13 => absurd (nI_le (Nat.le_refl _) (by omega)) c13)
    refine Z_iload_n 34 1 dX3_sum_33 rfl rfl ?_
    exact Z_iret dX3_sum_34 rfl ⟨rfl, rfl⟩
  | succ t ih =>
    intro i hi
    have hlt : i < 8 := by omega
    refine Z_iload 12 0 dX3_sum_10 rfl rfl ?_
    refine Z_iload_n 13 2 dX3_sum_12 rfl rfl ?_
    refine Z_icmp_ge 16 33 dX3_sum_13 rfl rfl (fun c13 => absurd c13 (nI_ge hlt (by omega))) (fun c13 => ?_)
    refine Z_aload_n 17 3 dX3_sum_16 rfl rfl ?_
    refine Z_iload 19 0 dX3_sum_17 rfl rfl ?_
    refine Z_ialn 20 dX3_sum_19 rfl hq hs9 (by first | assumption | omega) (by decide) ?_
    refine Z_istore 22 [(5, _), (4, _), (1, _), (3, _), (2, _)] dX3_sum_20 rfl (Nat.le_of_ble_eq_true rfl) rfl ?_
    refine Z_iload_n 23 2 dX3_sum_22 rfl rfl ?_
    refine Z_iload 25 0 dX3_sum_23 rfl rfl ?_
    refine Z_iadd 26 dX3_sum_25 rfl ?_
    refine Z_istore_n 27 [(1, _), (5, _), (4, _), (3, _), (2, _)] dX3_sum_26 rfl (Nat.le_of_ble_eq_true rfl) rfl ?_
    refine Z_iinc 30 [(4, _), (1, _), (5, _), (3, _), (2, _)] 2 _ dX3_sum_27 rfl (Nat.le_of_ble_eq_true rfl) rfl (nI_1 _) rfl ?_
    refine Z_goto 10 dX3_sum_30 rfl ?_
    refine Z_lv [0, 1, 3, 4] rfl ?_
    exact ih (i + 1) (by omega)

set_option maxRecDepth 100000 in
set_option maxHeartbeats 4000000 in
theorem zX3_sum {G : zG} {l : Launch} {h : Nat → Nat} {m : zM} (q9 : Nat) (hq : q9 < 74) (hs9 : SH h q9 = .inl 8) : zMet G l yX3_sum mX3_sum [.ref (G.1 + q9)] (zw h m) (fun r w => r = some (.int (sumI (m q9) 8)) ∧ w = zw h m) 0 0 := by
  refine zMet_of [(0, .ref (G.1 + q9))] (by decide +kernel) rfl (Or.inl rfl) (Nat.le_of_ble_eq_true rfl) rfl ?_
  refine Z_iconst 1 (nI 0) dX3_sum_0 rfl rfl ?_
  refine Z_istore_n 2 [(1, _), (0, _)] dX3_sum_1 rfl (Nat.le_of_ble_eq_true rfl) rfl ?_
  refine Z_aload_n 3 1 dX3_sum_2 rfl rfl ?_
  refine Z_astore_n 4 [(2, _), (1, _), (0, _)] dX3_sum_3 rfl (Nat.le_of_ble_eq_true rfl) rfl ?_
  refine Z_aload_n 5 0 dX3_sum_4 rfl rfl ?_
  refine Z_alen 6 dX3_sum_5 rfl hq hs9 ?_
  refine Z_istore_n 7 [(3, _), (2, _), (1, _), (0, _)] dX3_sum_6 rfl (Nat.le_of_ble_eq_true rfl) rfl ?_
  refine Z_iconst 8 (nI 0) dX3_sum_7 rfl rfl ?_
  refine Z_istore 10 [(4, _), (3, _), (2, _), (1, _), (0, _)] dX3_sum_8 rfl (Nat.le_of_ble_eq_true rfl) rfl ?_
  refine Z_lv [0, 3, 1, 2] rfl ?_
  exact lX3_sum q9 hq hs9 8 0 (by omega)

/-- the history's order: four streets, each once -/
def IsH (a : Nat) : Prop := a = 20 ∨ a = 29 ∨ a = 38 ∨ a = 47
theorem IsH.st {a : Nat} (h : IsH a) : IsSt a := by unfold IsH at h; unfold IsSt; omega
theorem IsH.ne1 {a : Nat} (h : IsH a) : a + 9 ≤ 1 ∨ 1 + 9 ≤ a := by unfold IsH at h; omega
def hOk (h : Nat → Nat) : Prop := (∀ k, k < 4 → IsH (h k)) ∧ ∀ i j, i < 4 → j < 4 → h i = h j → i = j
def rotH (h : Nat → Nat) : Nat → Nat := fun j => if j = 3 then h 0 else if j = 2 then h 3 else if j = 1 then h 2 else if j = 0 then h 1 else h j
theorem rotH_ok {h : Nat → Nat} (hh : hOk h) : hOk (rotH h) := by
  refine ⟨fun k hk => ?_, fun i j hi hj e => ?_⟩
  · have h4 : k = 0 ∨ k = 1 ∨ k = 2 ∨ k = 3 := by omega
    rcases h4 with rfl | rfl | rfl | rfl
    · exact hh.1 1 (by decide)
    · exact hh.1 2 (by decide)
    · exact hh.1 3 (by decide)
    · exact hh.1 0 (by decide)
  · have key : ∀ i, i < 4 → ∃ q, q < 4 ∧ rotH h i = h q ∧ (i = 3 ∧ q = 0 ∨ i < 3 ∧ q = i + 1) := by
      intro i hi
      have h4 : i = 0 ∨ i = 1 ∨ i = 2 ∨ i = 3 := by omega
      rcases h4 with rfl | rfl | rfl | rfl
      · exact ⟨1, by decide, rfl, by omega⟩
      · exact ⟨2, by decide, rfl, by omega⟩
      · exact ⟨3, by decide, rfl, by omega⟩
      · exact ⟨0, by decide, rfl, by omega⟩
    obtain ⟨q1, g1, g2, g3⟩ := key i hi
    obtain ⟨q2, f1, f2, f3⟩ := key j hj
    rw [g2, f2] at e
    have := hh.2 q1 q2 g1 f1 e
    omega
set_option maxRecDepth 100000 in
set_option maxHeartbeats 4000000 in
theorem zX3_dropOldestState {G : zG} {l : Launch} {h : Nat → Nat} {m : zM} (hh : hOk h) : zMet G l yX3_dropOldestState mX3_dropOldestState [.ref (G.1 + 0)] (zw h m) (fun r w => r = none ∧ w = zw (rotH h) (up2 m 0 5 (nI 3))) 0 0 := by
  refine zMet_of [(0, .ref (G.1 + 0))] (by decide +kernel) rfl (Or.inl rfl) (Nat.le_of_ble_eq_true rfl) rfl ?_
  refine Z_aload_n 1 0 dX3_dropOldestState_0 rfl rfl ?_
  refine Z_getR 4 dX3_dropOldestState_1 rfl fX3_19 (Nat.le_of_ble_eq_true rfl) rfl rfl ?_
  refine Z_iconst 5 (nI 0) dX3_dropOldestState_4 rfl rfl ?_
  refine Z_aaln (r := h 0) 6 dX3_dropOldestState_5 rfl (Nat.le_of_ble_eq_true rfl) rfl (show 0 < 4 by decide) (by decide) rfl ?_
  refine Z_astore_n 7 [(1, _), (0, _)] dX3_dropOldestState_6 rfl (Nat.le_of_ble_eq_true rfl) rfl ?_
  refine Z_iconst 8 (nI 1) dX3_dropOldestState_7 rfl rfl ?_
  refine Z_istore_n 9 [(2, _), (1, _), (0, _)] dX3_dropOldestState_8 rfl (Nat.le_of_ble_eq_true rfl) rfl ?_
  refine Z_iload_n 10 0 dX3_dropOldestState_9 rfl rfl ?_
  refine Z_iconst 11 (nI 4) dX3_dropOldestState_10 rfl rfl ?_
  refine Z_icmp_ge 14 34 dX3_dropOldestState_11 rfl rfl (fun c => absurd c (by decide)) (fun _ => ?_)
  refine Z_aload_n 15 2 dX3_dropOldestState_14 rfl rfl ?_
  refine Z_getR 18 dX3_dropOldestState_15 rfl fX3_19 (Nat.le_of_ble_eq_true rfl) rfl rfl ?_
  refine Z_iload_n 19 0 dX3_dropOldestState_18 rfl rfl ?_
  refine Z_iconst 20 (nI 1) dX3_dropOldestState_19 rfl rfl ?_
  refine Z_isub 21 dX3_dropOldestState_20 rfl ?_
  refine Z_top (v' := .int (nI 0)) rfl ?_
  refine Z_aload_n 22 2 dX3_dropOldestState_21 rfl rfl ?_
  refine Z_getR 25 dX3_dropOldestState_22 rfl fX3_19 (Nat.le_of_ble_eq_true rfl) rfl rfl ?_
  refine Z_iload_n 26 0 dX3_dropOldestState_25 rfl rfl ?_
  refine Z_aaln (r := h 1) 27 dX3_dropOldestState_26 rfl (Nat.le_of_ble_eq_true rfl) rfl (show 1 < 4 by decide) (by decide) rfl ?_
  refine Z_aasn 28 dX3_dropOldestState_27 rfl (Nat.le_of_ble_eq_true rfl) rfl (show 0 < 4 by decide) (by decide) (Nat.lt_of_le_of_lt (hh.1 1 (by decide)).st.lt (Nat.le_of_ble_eq_true rfl)) (shS (hh.1 1 (by decide)).st) ?_
  refine Z_w (w' := zw (fun j => if j = 0 then h 1 else h j) m) (congrArg (fun z => ((74, z, m) : zW)) (SH_set h 0 (h 1))) ?_
  refine Z_iinc 31 [(2, _), (1, _), (0, _)] 0 (nI 2) dX3_dropOldestState_28 rfl (Nat.le_of_ble_eq_true rfl) rfl rfl rfl ?_
  refine Z_goto 9 dX3_dropOldestState_31 rfl ?_
  refine Z_iload_n 10 0 dX3_dropOldestState_9 rfl rfl ?_
  refine Z_iconst 11 (nI 4) dX3_dropOldestState_10 rfl rfl ?_
  refine Z_icmp_ge 14 34 dX3_dropOldestState_11 rfl rfl (fun c => absurd c (by decide)) (fun _ => ?_)
  refine Z_aload_n 15 2 dX3_dropOldestState_14 rfl rfl ?_
  refine Z_getR 18 dX3_dropOldestState_15 rfl fX3_19 (Nat.le_of_ble_eq_true rfl) rfl rfl ?_
  refine Z_iload_n 19 0 dX3_dropOldestState_18 rfl rfl ?_
  refine Z_iconst 20 (nI 1) dX3_dropOldestState_19 rfl rfl ?_
  refine Z_isub 21 dX3_dropOldestState_20 rfl ?_
  refine Z_top (v' := .int (nI 1)) rfl ?_
  refine Z_aload_n 22 2 dX3_dropOldestState_21 rfl rfl ?_
  refine Z_getR 25 dX3_dropOldestState_22 rfl fX3_19 (Nat.le_of_ble_eq_true rfl) rfl rfl ?_
  refine Z_iload_n 26 0 dX3_dropOldestState_25 rfl rfl ?_
  refine Z_aaln (r := h 2) 27 dX3_dropOldestState_26 rfl (Nat.le_of_ble_eq_true rfl) rfl (show 2 < 4 by decide) (by decide) rfl ?_
  refine Z_aasn 28 dX3_dropOldestState_27 rfl (Nat.le_of_ble_eq_true rfl) rfl (show 1 < 4 by decide) (by decide) (Nat.lt_of_le_of_lt (hh.1 2 (by decide)).st.lt (Nat.le_of_ble_eq_true rfl)) (shS (hh.1 2 (by decide)).st) ?_
  refine Z_w (w' := zw (fun j => if j = 1 then h 2 else (fun j => if j = 0 then h 1 else h j) j) m) (congrArg (fun z => ((74, z, m) : zW)) (SH_set (fun j => if j = 0 then h 1 else h j) 1 (h 2))) ?_
  refine Z_iinc 31 [(2, _), (1, _), (0, _)] 0 (nI 3) dX3_dropOldestState_28 rfl (Nat.le_of_ble_eq_true rfl) rfl rfl rfl ?_
  refine Z_goto 9 dX3_dropOldestState_31 rfl ?_
  refine Z_iload_n 10 0 dX3_dropOldestState_9 rfl rfl ?_
  refine Z_iconst 11 (nI 4) dX3_dropOldestState_10 rfl rfl ?_
  refine Z_icmp_ge 14 34 dX3_dropOldestState_11 rfl rfl (fun c => absurd c (by decide)) (fun _ => ?_)
  refine Z_aload_n 15 2 dX3_dropOldestState_14 rfl rfl ?_
  refine Z_getR 18 dX3_dropOldestState_15 rfl fX3_19 (Nat.le_of_ble_eq_true rfl) rfl rfl ?_
  refine Z_iload_n 19 0 dX3_dropOldestState_18 rfl rfl ?_
  refine Z_iconst 20 (nI 1) dX3_dropOldestState_19 rfl rfl ?_
  refine Z_isub 21 dX3_dropOldestState_20 rfl ?_
  refine Z_top (v' := .int (nI 2)) rfl ?_
  refine Z_aload_n 22 2 dX3_dropOldestState_21 rfl rfl ?_
  refine Z_getR 25 dX3_dropOldestState_22 rfl fX3_19 (Nat.le_of_ble_eq_true rfl) rfl rfl ?_
  refine Z_iload_n 26 0 dX3_dropOldestState_25 rfl rfl ?_
  refine Z_aaln (r := h 3) 27 dX3_dropOldestState_26 rfl (Nat.le_of_ble_eq_true rfl) rfl (show 3 < 4 by decide) (by decide) rfl ?_
  refine Z_aasn 28 dX3_dropOldestState_27 rfl (Nat.le_of_ble_eq_true rfl) rfl (show 2 < 4 by decide) (by decide) (Nat.lt_of_le_of_lt (hh.1 3 (by decide)).st.lt (Nat.le_of_ble_eq_true rfl)) (shS (hh.1 3 (by decide)).st) ?_
  refine Z_w (w' := zw (fun j => if j = 2 then h 3 else (fun j => if j = 1 then h 2 else (fun j => if j = 0 then h 1 else h j) j) j) m) (congrArg (fun z => ((74, z, m) : zW)) (SH_set (fun j => if j = 1 then h 2 else (fun j => if j = 0 then h 1 else h j) j) 2 (h 3))) ?_
  refine Z_iinc 31 [(2, _), (1, _), (0, _)] 0 (nI 4) dX3_dropOldestState_28 rfl (Nat.le_of_ble_eq_true rfl) rfl rfl rfl ?_
  refine Z_goto 9 dX3_dropOldestState_31 rfl ?_
  refine Z_iload_n 10 0 dX3_dropOldestState_9 rfl rfl ?_
  refine Z_iconst 11 (nI 4) dX3_dropOldestState_10 rfl rfl ?_
  refine Z_icmp_ge 14 34 dX3_dropOldestState_11 rfl rfl (fun _ => ?_) (fun c => absurd (by decide) c)
  refine Z_aload_n 35 2 dX3_dropOldestState_34 rfl rfl ?_
  refine Z_getR 38 dX3_dropOldestState_35 rfl fX3_19 (Nat.le_of_ble_eq_true rfl) rfl rfl ?_
  refine Z_iconst 39 (nI 3) dX3_dropOldestState_38 rfl rfl ?_
  refine Z_aload_n 40 1 dX3_dropOldestState_39 rfl rfl ?_
  refine Z_aasn 41 dX3_dropOldestState_40 rfl (Nat.le_of_ble_eq_true rfl) rfl (show 3 < 4 by decide) (by decide) (Nat.lt_of_le_of_lt (hh.1 0 (by decide)).st.lt (Nat.le_of_ble_eq_true rfl)) (shS (hh.1 0 (by decide)).st) ?_
  refine Z_w (w' := zw (rotH h) m) (congrArg (fun z => ((74, z, m) : zW)) (SH_set (fun j => if j = 2 then h 3 else (fun j => if j = 1 then h 2 else (fun j => if j = 0 then h 1 else h j) j) j) 3 (h 0))) ?_
  refine Z_aload_n 42 2 dX3_dropOldestState_41 rfl rfl ?_
  refine Z_iconst 43 (nI 3) dX3_dropOldestState_42 rfl rfl ?_
  refine Z_putI 46 .int dX3_dropOldestState_43 rfl fX3_200 ft_3_5 (Nat.le_of_ble_eq_true rfl) rfl rfl rfl rfl ?_
  exact Z_vret dX3_dropOldestState_46 rfl ⟨rfl, rfl⟩

def hRem (h : Nat → Nat) (s : Nat) : Nat → Nat := if s < 4 then h else rotH h
def mRem (h : Nat → Nat) (m : zM) (s : Nat) : zM := if s < 4 then up2 (cpM m (h s) 1) 0 5 (nI (s + 1)) else up2 (cpM (up2 m 0 5 (nI 3)) (h 0) 1) 0 5 (nI 4)
theorem cpM_0 {m : zM} {a k : Nat} (ha : IsH a) : cpM m a 1 0 k = m 0 k := by
  unfold IsH at ha
  unfold cpM
  rw [if_neg (by omega)]
set_option maxRecDepth 100000 in
set_option maxHeartbeats 4000000 in
theorem zX3_remember {G : zG} {l : Launch} {h : Nat → Nat} {m : zM} (s : Nat) (hs : s ≤ 4) (hst : m 0 5 = nI s) (hh : hOk h) : zMet G l yX3_remember mX3_remember [.ref (G.1 + 0)] (zw h m) (fun r w => r = none ∧ w = zw (hRem h s) (mRem h m s)) 0 0 := by
  refine zMet_of [(0, .ref (G.1 + 0))] (by decide +kernel) rfl (Or.inl rfl) (Nat.le_of_ble_eq_true rfl) rfl ?_
  refine Z_aload_n 1 0 dX3_remember_0 rfl rfl ?_
  refine Z_getI 4 dX3_remember_1 rfl fX3_200 (Nat.le_of_ble_eq_true rfl) rfl rfl ?_
  refine Z_top (congrArg Value.int hst) ?_
  refine Z_iconst 5 (nI 4) dX3_remember_4 rfl rfl ?_
  refine Z_icmp_lt 8 12 dX3_remember_5 rfl rfl (fun c => ?_) (fun c => ?_)
  · have hs4 : s < 4 := (nI_ltI (by omega) (by decide)).mp c
    refine Z_aload_n 13 0 dX3_remember_12 rfl rfl ?_
    refine Z_getR 16 dX3_remember_13 rfl fX3_19 (Nat.le_of_ble_eq_true rfl) rfl rfl ?_
    refine Z_aload_n 17 0 dX3_remember_16 rfl rfl ?_
    refine Z_getI 20 dX3_remember_17 rfl fX3_200 (Nat.le_of_ble_eq_true rfl) rfl rfl ?_
    refine Z_top (v' := .int (nI s)) (congrArg Value.int hst) ?_
    refine Z_aaln (r := h s) 21 dX3_remember_20 rfl (Nat.le_of_ble_eq_true rfl) rfl (by omega) (by decide) rfl ?_
    refine Z_aload_n 22 0 dX3_remember_21 rfl rfl ?_
    refine Z_getR 25 dX3_remember_22 rfl fX3_10 (Nat.le_of_ble_eq_true rfl) rfl rfl ?_
    refine Z_callV 28 [_] 1 (zX1_copyFrom (h s) 1 (hh.1 s (by omega)).st (Or.inl rfl) (hh.1 s (by omega)).ne1) dX3_remember_25 rfl qX3_210 kX1_copyFrom rfl rfl (Nat.lt_of_le_of_lt (hh.1 s (by omega)).st.lt (Nat.le_of_ble_eq_true rfl)) (shS (hh.1 s (by omega)).st) rfl ⟨(Nat.le_of_ble_eq_true rfl), (Nat.le_of_ble_eq_true rfl)⟩ (Nat.le_of_ble_eq_true rfl) ⟨rfl, rfl⟩ ⟨(Nat.le_of_ble_eq_true rfl), (Nat.le_of_ble_eq_true rfl)⟩ (fun r9 w9 hp9 => ?_)
    obtain ⟨rfl, rfl⟩ := hp9
    refine Z_aload_n 29 0 dX3_remember_28 rfl rfl ?_
    refine Z_dup 30 dX3_remember_29 rfl rfl ?_
    refine Z_getI 33 dX3_remember_30 rfl fX3_200 (Nat.le_of_ble_eq_true rfl) rfl rfl ?_
    refine Z_iconst 34 (nI 1) dX3_remember_33 rfl rfl ?_
    refine Z_iadd 35 dX3_remember_34 rfl ?_
    refine Z_top (v' := .int (nI (s + 1))) (congrArg Value.int (by rw [show cpM m (h s) 1 0 5 = nI s from (cpM_0 (hh.1 s (by omega))).trans hst]; exact nI_1 _)) ?_
    refine Z_putI 38 .int dX3_remember_35 rfl fX3_200 ft_3_5 (Nat.le_of_ble_eq_true rfl) rfl rfl rfl rfl ?_
    exact Z_vret dX3_remember_38 rfl ⟨rfl, by unfold hRem mRem; rw [if_pos hs4, if_pos hs4]⟩
  · have hs4 : ¬ s < 4 := fun q => c ((nI_ltI (by omega) (by decide)).mpr q)
    refine Z_aload_n 9 0 dX3_remember_8 rfl rfl ?_
    refine Z_callV 12 [] 3 (zX3_dropOldestState hh) dX3_remember_9 rfl qX3_218 kX3_dropOldestState rfl rfl (Nat.le_of_ble_eq_true rfl) rfl rfl ⟨(Nat.le_of_ble_eq_true rfl), (Nat.le_of_ble_eq_true rfl)⟩ (Nat.le_of_ble_eq_true rfl) ⟨rfl, rfl⟩ ⟨(Nat.le_of_ble_eq_true rfl), (Nat.le_of_ble_eq_true rfl)⟩ (fun r9 w9 hp9 => ?_)
    obtain ⟨rfl, rfl⟩ := hp9
    refine Z_aload_n 13 0 dX3_remember_12 rfl rfl ?_
    refine Z_getR 16 dX3_remember_13 rfl fX3_19 (Nat.le_of_ble_eq_true rfl) rfl rfl ?_
    refine Z_aload_n 17 0 dX3_remember_16 rfl rfl ?_
    refine Z_getI 20 dX3_remember_17 rfl fX3_200 (Nat.le_of_ble_eq_true rfl) rfl rfl ?_
    refine Z_top (v' := .int (nI 3)) (congrArg Value.int (up2_eq _ _ _ _)) ?_
    refine Z_aaln (r := h 0) 21 dX3_remember_20 rfl (Nat.le_of_ble_eq_true rfl) rfl (by decide) (by decide) rfl ?_
    refine Z_aload_n 22 0 dX3_remember_21 rfl rfl ?_
    refine Z_getR 25 dX3_remember_22 rfl fX3_10 (Nat.le_of_ble_eq_true rfl) rfl rfl ?_
    refine Z_callV 28 [_] 1 (zX1_copyFrom (h 0) 1 (hh.1 0 (by omega)).st (Or.inl rfl) (hh.1 0 (by omega)).ne1) dX3_remember_25 rfl qX3_210 kX1_copyFrom rfl rfl (Nat.lt_of_le_of_lt (hh.1 0 (by omega)).st.lt (Nat.le_of_ble_eq_true rfl)) (shS (hh.1 0 (by omega)).st) rfl ⟨(Nat.le_of_ble_eq_true rfl), (Nat.le_of_ble_eq_true rfl)⟩ (Nat.le_of_ble_eq_true rfl) ⟨rfl, rfl⟩ ⟨(Nat.le_of_ble_eq_true rfl), (Nat.le_of_ble_eq_true rfl)⟩ (fun r9 w9 hp9 => ?_)
    obtain ⟨rfl, rfl⟩ := hp9
    refine Z_aload_n 29 0 dX3_remember_28 rfl rfl ?_
    refine Z_dup 30 dX3_remember_29 rfl rfl ?_
    refine Z_getI 33 dX3_remember_30 rfl fX3_200 (Nat.le_of_ble_eq_true rfl) rfl rfl ?_
    refine Z_iconst 34 (nI 1) dX3_remember_33 rfl rfl ?_
    refine Z_iadd 35 dX3_remember_34 rfl ?_
    refine Z_top (v' := .int (nI (3 + 1))) (congrArg Value.int (by rw [show cpM (up2 m 0 5 (nI 3)) (h 0) 1 0 5 = nI 3 from (cpM_0 (hh.1 0 (by omega))).trans (up2_eq _ _ _ _)]; exact nI_1 _)) ?_
    refine Z_putI 38 .int dX3_remember_35 rfl fX3_200 ft_3_5 (Nat.le_of_ble_eq_true rfl) rfl rfl rfl rfl ?_
    exact Z_vret dX3_remember_38 rfl ⟨rfl, by unfold hRem mRem; rw [if_neg hs4, if_neg hs4]⟩
