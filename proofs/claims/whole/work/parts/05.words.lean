theorem lw_ins {ws : List Cond} (ps : List Nat) (hp : ws = ps.filterMap (fun i => lw_tbl[i]?)) (h : ws.all goodWord = true) : ∀ w ∈ ws, w ∈ lw_ok := by
  intro w hw
  have hg := List.all_eq_true.mp h w hw
  rw [hp] at hw
  obtain ⟨i, -, hi⟩ := List.mem_filterMap.mp hw
  exact List.mem_filter.mpr ⟨List.mem_of_getElem? hi, hg⟩
theorem inK_0 : ∀ w ∈ u_ws RX0 TX0 10, w ∈ lw_ok := lw_ins [189, 191, 193, 195, 197, 199, 201, 203, 205, 207] (by decide +kernel) (by decide +kernel)
theorem inK_1 : ∀ w ∈ u_ws RX1 TX1 14, w ∈ lw_ok := lw_ins [116, 118, 120, 122, 124, 126, 128, 130, 132, 134, 136, 138, 140, 142] (by decide +kernel) (by decide +kernel)
theorem inK_2 : ∀ w ∈ u_ws RX2 TX2 3, w ∈ lw_ok := lw_ins [159, 161, 163] (by decide +kernel) (by decide +kernel)
theorem inK_3 : ∀ w ∈ u_ws RX3 TX3 10, w ∈ lw_ok := lw_ins [220, 222, 224, 226, 228, 230, 232, 234, 236, 238] (by decide +kernel) (by decide +kernel)
theorem inK_4 : ∀ w ∈ u_ws RX4 TX4 17, w ∈ lw_ok := lw_ins [582, 584, 586, 588, 590, 592, 594, 596, 598, 600, 602, 604, 606, 608, 610, 612, 614] (by decide +kernel) (by decide +kernel)
theorem fX1_9 : zF RX1 9 1 0 := ⟨RX1, TX1, 14, tyX1, rfl, by decide, lw_in 83 (by decide +kernel) (by decide +kernel), inK_1, tyX1_ok, nmX1⟩
theorem fX3_44 : zF RX3 44 1 0 := ⟨RX1, TX1, 14, tyX1, rfl, by decide, lw_in 84 (by decide +kernel) (by decide +kernel), inK_1, tyX1_ok, nmX1⟩
theorem fX2_64 : zF RX2 64 1 0 := ⟨RX1, TX1, 14, tyX1, rfl, by decide, lw_in 85 (by decide +kernel) (by decide +kernel), inK_1, tyX1_ok, nmX1⟩
theorem fX1_15 : zF RX1 15 1 1 := ⟨RX1, TX1, 14, tyX1, rfl, by decide, lw_in 86 (by decide +kernel) (by decide +kernel), inK_1, tyX1_ok, nmX1⟩
theorem fX3_48 : zF RX3 48 1 1 := ⟨RX1, TX1, 14, tyX1, rfl, by decide, lw_in 87 (by decide +kernel) (by decide +kernel), inK_1, tyX1_ok, nmX1⟩
theorem fX1_18 : zF RX1 18 1 2 := ⟨RX1, TX1, 14, tyX1, rfl, by decide, lw_in 88 (by decide +kernel) (by decide +kernel), inK_1, tyX1_ok, nmX1⟩
theorem fX3_51 : zF RX3 51 1 2 := ⟨RX1, TX1, 14, tyX1, rfl, by decide, lw_in 89 (by decide +kernel) (by decide +kernel), inK_1, tyX1_ok, nmX1⟩
theorem fX1_21 : zF RX1 21 1 3 := ⟨RX1, TX1, 14, tyX1, rfl, by decide, lw_in 90 (by decide +kernel) (by decide +kernel), inK_1, tyX1_ok, nmX1⟩
theorem fX3_147 : zF RX3 147 1 3 := ⟨RX1, TX1, 14, tyX1, rfl, by decide, lw_in 91 (by decide +kernel) (by decide +kernel), inK_1, tyX1_ok, nmX1⟩
theorem fX1_24 : zF RX1 24 1 4 := ⟨RX1, TX1, 14, tyX1, rfl, by decide, lw_in 92 (by decide +kernel) (by decide +kernel), inK_1, tyX1_ok, nmX1⟩
theorem fX2_34 : zF RX2 34 1 4 := ⟨RX1, TX1, 14, tyX1, rfl, by decide, lw_in 93 (by decide +kernel) (by decide +kernel), inK_1, tyX1_ok, nmX1⟩
theorem fX3_150 : zF RX3 150 1 4 := ⟨RX1, TX1, 14, tyX1, rfl, by decide, lw_in 94 (by decide +kernel) (by decide +kernel), inK_1, tyX1_ok, nmX1⟩
theorem fX1_27 : zF RX1 27 1 5 := ⟨RX1, TX1, 14, tyX1, rfl, by decide, lw_in 95 (by decide +kernel) (by decide +kernel), inK_1, tyX1_ok, nmX1⟩
theorem fX2_41 : zF RX2 41 1 5 := ⟨RX1, TX1, 14, tyX1, rfl, by decide, lw_in 96 (by decide +kernel) (by decide +kernel), inK_1, tyX1_ok, nmX1⟩
theorem fX3_153 : zF RX3 153 1 5 := ⟨RX1, TX1, 14, tyX1, rfl, by decide, lw_in 97 (by decide +kernel) (by decide +kernel), inK_1, tyX1_ok, nmX1⟩
theorem fX1_30 : zF RX1 30 1 6 := ⟨RX1, TX1, 14, tyX1, rfl, by decide, lw_in 98 (by decide +kernel) (by decide +kernel), inK_1, tyX1_ok, nmX1⟩
theorem fX2_44 : zF RX2 44 1 6 := ⟨RX1, TX1, 14, tyX1, rfl, by decide, lw_in 99 (by decide +kernel) (by decide +kernel), inK_1, tyX1_ok, nmX1⟩
theorem fX3_156 : zF RX3 156 1 6 := ⟨RX1, TX1, 14, tyX1, rfl, by decide, lw_in 100 (by decide +kernel) (by decide +kernel), inK_1, tyX1_ok, nmX1⟩
theorem fX1_33 : zF RX1 33 1 7 := ⟨RX1, TX1, 14, tyX1, rfl, by decide, lw_in 101 (by decide +kernel) (by decide +kernel), inK_1, tyX1_ok, nmX1⟩
theorem fX3_110 : zF RX3 110 1 7 := ⟨RX1, TX1, 14, tyX1, rfl, by decide, lw_in 102 (by decide +kernel) (by decide +kernel), inK_1, tyX1_ok, nmX1⟩
theorem fX1_40 : zF RX1 40 1 8 := ⟨RX1, TX1, 14, tyX1, rfl, by decide, lw_in 103 (by decide +kernel) (by decide +kernel), inK_1, tyX1_ok, nmX1⟩
theorem fX2_28 : zF RX2 28 1 8 := ⟨RX1, TX1, 14, tyX1, rfl, by decide, lw_in 104 (by decide +kernel) (by decide +kernel), inK_1, tyX1_ok, nmX1⟩
theorem fX3_101 : zF RX3 101 1 8 := ⟨RX1, TX1, 14, tyX1, rfl, by decide, lw_in 105 (by decide +kernel) (by decide +kernel), inK_1, tyX1_ok, nmX1⟩
theorem fX1_43 : zF RX1 43 1 9 := ⟨RX1, TX1, 14, tyX1, rfl, by decide, lw_in 106 (by decide +kernel) (by decide +kernel), inK_1, tyX1_ok, nmX1⟩
theorem fX3_54 : zF RX3 54 1 9 := ⟨RX1, TX1, 14, tyX1, rfl, by decide, lw_in 107 (by decide +kernel) (by decide +kernel), inK_1, tyX1_ok, nmX1⟩
theorem fX1_36 : zF RX1 36 1 10 := ⟨RX1, TX1, 14, tyX1, rfl, by decide, lw_in 108 (by decide +kernel) (by decide +kernel), inK_1, tyX1_ok, nmX1⟩
theorem fX3_107 : zF RX3 107 1 10 := ⟨RX1, TX1, 14, tyX1, rfl, by decide, lw_in 109 (by decide +kernel) (by decide +kernel), inK_1, tyX1_ok, nmX1⟩
theorem fX1_46 : zF RX1 46 1 11 := ⟨RX1, TX1, 14, tyX1, rfl, by decide, lw_in 110 (by decide +kernel) (by decide +kernel), inK_1, tyX1_ok, nmX1⟩
theorem fX3_191 : zF RX3 191 1 11 := ⟨RX1, TX1, 14, tyX1, rfl, by decide, lw_in 111 (by decide +kernel) (by decide +kernel), inK_1, tyX1_ok, nmX1⟩
theorem fX1_49 : zF RX1 49 1 12 := ⟨RX1, TX1, 14, tyX1, rfl, by decide, lw_in 112 (by decide +kernel) (by decide +kernel), inK_1, tyX1_ok, nmX1⟩
theorem fX3_194 : zF RX3 194 1 12 := ⟨RX1, TX1, 14, tyX1, rfl, by decide, lw_in 113 (by decide +kernel) (by decide +kernel), inK_1, tyX1_ok, nmX1⟩
theorem fX1_52 : zF RX1 52 1 13 := ⟨RX1, TX1, 14, tyX1, rfl, by decide, lw_in 114 (by decide +kernel) (by decide +kernel), inK_1, tyX1_ok, nmX1⟩
theorem fX3_197 : zF RX3 197 1 13 := ⟨RX1, TX1, 14, tyX1, rfl, by decide, lw_in 115 (by decide +kernel) (by decide +kernel), inK_1, tyX1_ok, nmX1⟩
theorem fX2_9 : zF RX2 9 2 0 := ⟨RX2, TX2, 3, tyX2, rfl, by decide, lw_in 155 (by decide +kernel) (by decide +kernel), inK_2, tyX2_ok, nmX2⟩
theorem fX3_77 : zF RX3 77 2 0 := ⟨RX2, TX2, 3, tyX2, rfl, by decide, lw_in 156 (by decide +kernel) (by decide +kernel), inK_2, tyX2_ok, nmX2⟩
theorem fX2_15 : zF RX2 15 2 1 := ⟨RX2, TX2, 3, tyX2, rfl, by decide, lw_in 157 (by decide +kernel) (by decide +kernel), inK_2, tyX2_ok, nmX2⟩
theorem fX2_20 : zF RX2 20 2 2 := ⟨RX2, TX2, 3, tyX2, rfl, by decide, lw_in 158 (by decide +kernel) (by decide +kernel), inK_2, tyX2_ok, nmX2⟩
theorem fX0_9 : zF RX0 9 0 0 := ⟨RX0, TX0, 10, tyX0, rfl, by decide, lw_in 172 (by decide +kernel) (by decide +kernel), inK_0, tyX0_ok, nmX0⟩
theorem fX3_119 : zF RX3 119 0 0 := ⟨RX0, TX0, 10, tyX0, rfl, by decide, lw_in 173 (by decide +kernel) (by decide +kernel), inK_0, tyX0_ok, nmX0⟩
theorem fX0_31 : zF RX0 31 0 1 := ⟨RX0, TX0, 10, tyX0, rfl, by decide, lw_in 174 (by decide +kernel) (by decide +kernel), inK_0, tyX0_ok, nmX0⟩
theorem fX3_116 : zF RX3 116 0 1 := ⟨RX0, TX0, 10, tyX0, rfl, by decide, lw_in 175 (by decide +kernel) (by decide +kernel), inK_0, tyX0_ok, nmX0⟩
theorem fX0_15 : zF RX0 15 0 2 := ⟨RX0, TX0, 10, tyX0, rfl, by decide, lw_in 176 (by decide +kernel) (by decide +kernel), inK_0, tyX0_ok, nmX0⟩
theorem fX3_138 : zF RX3 138 0 2 := ⟨RX0, TX0, 10, tyX0, rfl, by decide, lw_in 177 (by decide +kernel) (by decide +kernel), inK_0, tyX0_ok, nmX0⟩
theorem fX0_18 : zF RX0 18 0 3 := ⟨RX0, TX0, 10, tyX0, rfl, by decide, lw_in 178 (by decide +kernel) (by decide +kernel), inK_0, tyX0_ok, nmX0⟩
theorem fX3_225 : zF RX3 225 0 3 := ⟨RX0, TX0, 10, tyX0, rfl, by decide, lw_in 179 (by decide +kernel) (by decide +kernel), inK_0, tyX0_ok, nmX0⟩
theorem fX0_21 : zF RX0 21 0 4 := ⟨RX0, TX0, 10, tyX0, rfl, by decide, lw_in 180 (by decide +kernel) (by decide +kernel), inK_0, tyX0_ok, nmX0⟩
theorem fX3_226 : zF RX3 226 0 4 := ⟨RX0, TX0, 10, tyX0, rfl, by decide, lw_in 181 (by decide +kernel) (by decide +kernel), inK_0, tyX0_ok, nmX0⟩
theorem fX0_24 : zF RX0 24 0 5 := ⟨RX0, TX0, 10, tyX0, rfl, by decide, lw_in 182 (by decide +kernel) (by decide +kernel), inK_0, tyX0_ok, nmX0⟩
theorem fX3_227 : zF RX3 227 0 5 := ⟨RX0, TX0, 10, tyX0, rfl, by decide, lw_in 183 (by decide +kernel) (by decide +kernel), inK_0, tyX0_ok, nmX0⟩
theorem fX0_27 : zF RX0 27 0 6 := ⟨RX0, TX0, 10, tyX0, rfl, by decide, lw_in 184 (by decide +kernel) (by decide +kernel), inK_0, tyX0_ok, nmX0⟩
theorem fX3_129 : zF RX3 129 0 6 := ⟨RX0, TX0, 10, tyX0, rfl, by decide, lw_in 185 (by decide +kernel) (by decide +kernel), inK_0, tyX0_ok, nmX0⟩
theorem fX0_58 : zF RX0 58 0 7 := ⟨RX0, TX0, 10, tyX0, rfl, by decide, lw_in 186 (by decide +kernel) (by decide +kernel), inK_0, tyX0_ok, nmX0⟩
theorem fX0_61 : zF RX0 61 0 8 := ⟨RX0, TX0, 10, tyX0, rfl, by decide, lw_in 187 (by decide +kernel) (by decide +kernel), inK_0, tyX0_ok, nmX0⟩
theorem fX0_64 : zF RX0 64 0 9 := ⟨RX0, TX0, 10, tyX0, rfl, by decide, lw_in 188 (by decide +kernel) (by decide +kernel), inK_0, tyX0_ok, nmX0⟩
theorem fX3_10 : zF RX3 10 3 0 := ⟨RX3, TX3, 10, tyX3, rfl, by decide, lw_in 210 (by decide +kernel) (by decide +kernel), inK_3, tyX3_ok, nmX3⟩
theorem fX3_16 : zF RX3 16 3 1 := ⟨RX3, TX3, 10, tyX3, rfl, by decide, lw_in 211 (by decide +kernel) (by decide +kernel), inK_3, tyX3_ok, nmX3⟩
theorem fX3_19 : zF RX3 19 3 2 := ⟨RX3, TX3, 10, tyX3, rfl, by decide, lw_in 212 (by decide +kernel) (by decide +kernel), inK_3, tyX3_ok, nmX3⟩
theorem fX3_26 : zF RX3 26 3 3 := ⟨RX3, TX3, 10, tyX3, rfl, by decide, lw_in 213 (by decide +kernel) (by decide +kernel), inK_3, tyX3_ok, nmX3⟩
theorem fX3_33 : zF RX3 33 3 4 := ⟨RX3, TX3, 10, tyX3, rfl, by decide, lw_in 214 (by decide +kernel) (by decide +kernel), inK_3, tyX3_ok, nmX3⟩
theorem fX3_200 : zF RX3 200 3 5 := ⟨RX3, TX3, 10, tyX3, rfl, by decide, lw_in 215 (by decide +kernel) (by decide +kernel), inK_3, tyX3_ok, nmX3⟩
theorem fX3_214 : zF RX3 214 3 6 := ⟨RX3, TX3, 10, tyX3, rfl, by decide, lw_in 216 (by decide +kernel) (by decide +kernel), inK_3, tyX3_ok, nmX3⟩
theorem fX3_126 : zF RX3 126 3 7 := ⟨RX3, TX3, 10, tyX3, rfl, by decide, lw_in 217 (by decide +kernel) (by decide +kernel), inK_3, tyX3_ok, nmX3⟩
theorem fX3_135 : zF RX3 135 3 8 := ⟨RX3, TX3, 10, tyX3, rfl, by decide, lw_in 218 (by decide +kernel) (by decide +kernel), inK_3, tyX3_ok, nmX3⟩
theorem fX3_141 : zF RX3 141 3 9 := ⟨RX3, TX3, 10, tyX3, rfl, by decide, lw_in 219 (by decide +kernel) (by decide +kernel), inK_3, tyX3_ok, nmX3⟩
theorem fX4_7 : zF RX4 7 4 0 := ⟨RX4, TX4, 17, tyX4, rfl, by decide, lw_in 565 (by decide +kernel) (by decide +kernel), inK_4, tyX4_ok, nmX4⟩
theorem fX4_13 : zF RX4 13 4 1 := ⟨RX4, TX4, 17, tyX4, rfl, by decide, lw_in 566 (by decide +kernel) (by decide +kernel), inK_4, tyX4_ok, nmX4⟩
theorem fX4_16 : zF RX4 16 4 2 := ⟨RX4, TX4, 17, tyX4, rfl, by decide, lw_in 567 (by decide +kernel) (by decide +kernel), inK_4, tyX4_ok, nmX4⟩
theorem fX4_38 : zF RX4 38 4 3 := ⟨RX4, TX4, 17, tyX4, rfl, by decide, lw_in 568 (by decide +kernel) (by decide +kernel), inK_4, tyX4_ok, nmX4⟩
theorem fX4_19 : zF RX4 19 4 4 := ⟨RX4, TX4, 17, tyX4, rfl, by decide, lw_in 569 (by decide +kernel) (by decide +kernel), inK_4, tyX4_ok, nmX4⟩
theorem fX4_203 : zF RX4 203 4 5 := ⟨RX4, TX4, 17, tyX4, rfl, by decide, lw_in 570 (by decide +kernel) (by decide +kernel), inK_4, tyX4_ok, nmX4⟩
theorem fX4_22 : zF RX4 22 4 6 := ⟨RX4, TX4, 17, tyX4, rfl, by decide, lw_in 571 (by decide +kernel) (by decide +kernel), inK_4, tyX4_ok, nmX4⟩
theorem fX4_135 : zF RX4 135 4 7 := ⟨RX4, TX4, 17, tyX4, rfl, by decide, lw_in 572 (by decide +kernel) (by decide +kernel), inK_4, tyX4_ok, nmX4⟩
theorem fX4_25 : zF RX4 25 4 8 := ⟨RX4, TX4, 17, tyX4, rfl, by decide, lw_in 573 (by decide +kernel) (by decide +kernel), inK_4, tyX4_ok, nmX4⟩
theorem fX4_28 : zF RX4 28 4 9 := ⟨RX4, TX4, 17, tyX4, rfl, by decide, lw_in 574 (by decide +kernel) (by decide +kernel), inK_4, tyX4_ok, nmX4⟩
theorem fX4_138 : zF RX4 138 4 10 := ⟨RX4, TX4, 17, tyX4, rfl, by decide, lw_in 575 (by decide +kernel) (by decide +kernel), inK_4, tyX4_ok, nmX4⟩
theorem fX4_141 : zF RX4 141 4 11 := ⟨RX4, TX4, 17, tyX4, rfl, by decide, lw_in 576 (by decide +kernel) (by decide +kernel), inK_4, tyX4_ok, nmX4⟩
theorem fX4_155 : zF RX4 155 4 12 := ⟨RX4, TX4, 17, tyX4, rfl, by decide, lw_in 577 (by decide +kernel) (by decide +kernel), inK_4, tyX4_ok, nmX4⟩
theorem fX4_158 : zF RX4 158 4 13 := ⟨RX4, TX4, 17, tyX4, rfl, by decide, lw_in 578 (by decide +kernel) (by decide +kernel), inK_4, tyX4_ok, nmX4⟩
theorem fX4_161 : zF RX4 161 4 14 := ⟨RX4, TX4, 17, tyX4, rfl, by decide, lw_in 579 (by decide +kernel) (by decide +kernel), inK_4, tyX4_ok, nmX4⟩
theorem fX4_173 : zF RX4 173 4 15 := ⟨RX4, TX4, 17, tyX4, rfl, by decide, lw_in 580 (by decide +kernel) (by decide +kernel), inK_4, tyX4_ok, nmX4⟩
theorem fX4_31 : zF RX4 31 4 16 := ⟨RX4, TX4, 17, tyX4, rfl, by decide, lw_in 581 (by decide +kernel) (by decide +kernel), inK_4, tyX4_ok, nmX4⟩
theorem fr_0_0 : zFt 0 0 (fun f => f.1 = RX0 ∧ f.2.2.2 = true ∧ parseFieldDescriptor f.2.2.1 = some (.array .int)) := by
  intro r hr
  cases hr
  exact ⟨rfl, rfl, by decide +kernel⟩
theorem ft_0_1 : zFt 0 1 (fun f => f.2.2.2 = false ∧ parseFieldDescriptor f.2.2.1 = some .int) := by
  intro r hr
  cases hr
  exact ⟨rfl, by decide +kernel⟩
theorem fr_0_2 : zFt 0 2 (fun f => f.1 = RX0 ∧ f.2.2.2 = true ∧ parseFieldDescriptor f.2.2.1 = some (.array .int)) := by
  intro r hr
  cases hr
  exact ⟨rfl, rfl, by decide +kernel⟩
theorem fr_0_3 : zFt 0 3 (fun f => f.1 = RX0 ∧ f.2.2.2 = true ∧ parseFieldDescriptor f.2.2.1 = some (.array .int)) := by
  intro r hr
  cases hr
  exact ⟨rfl, rfl, by decide +kernel⟩
theorem fr_0_4 : zFt 0 4 (fun f => f.1 = RX0 ∧ f.2.2.2 = true ∧ parseFieldDescriptor f.2.2.1 = some (.array .int)) := by
  intro r hr
  cases hr
  exact ⟨rfl, rfl, by decide +kernel⟩
theorem fr_0_5 : zFt 0 5 (fun f => f.1 = RX0 ∧ f.2.2.2 = true ∧ parseFieldDescriptor f.2.2.1 = some (.array .int)) := by
  intro r hr
  cases hr
  exact ⟨rfl, rfl, by decide +kernel⟩
theorem ft_0_6 : zFt 0 6 (fun f => f.2.2.2 = false ∧ parseFieldDescriptor f.2.2.1 = some .int) := by
  intro r hr
  cases hr
  exact ⟨rfl, by decide +kernel⟩
theorem ft_0_7 : zFt 0 7 (fun f => f.2.2.2 = false ∧ parseFieldDescriptor f.2.2.1 = some .int) := by
  intro r hr
  cases hr
  exact ⟨rfl, by decide +kernel⟩
theorem ft_0_8 : zFt 0 8 (fun f => f.2.2.2 = false ∧ parseFieldDescriptor f.2.2.1 = some .int) := by
  intro r hr
  cases hr
  exact ⟨rfl, by decide +kernel⟩
theorem ft_0_9 : zFt 0 9 (fun f => f.2.2.2 = false ∧ parseFieldDescriptor f.2.2.1 = some .int) := by
  intro r hr
  cases hr
  exact ⟨rfl, by decide +kernel⟩
theorem fr_1_0 : zFt 1 0 (fun f => f.1 = RX1 ∧ f.2.2.2 = true ∧ parseFieldDescriptor f.2.2.1 = some (.array .int)) := by
  intro r hr
  cases hr
  exact ⟨rfl, rfl, by decide +kernel⟩
theorem fr_1_1 : zFt 1 1 (fun f => f.1 = RX1 ∧ f.2.2.2 = true ∧ parseFieldDescriptor f.2.2.1 = some (.array .int)) := by
  intro r hr
  cases hr
  exact ⟨rfl, rfl, by decide +kernel⟩
theorem fr_1_2 : zFt 1 2 (fun f => f.1 = RX1 ∧ f.2.2.2 = true ∧ parseFieldDescriptor f.2.2.1 = some (.array .int)) := by
  intro r hr
  cases hr
  exact ⟨rfl, rfl, by decide +kernel⟩
theorem fr_1_3 : zFt 1 3 (fun f => f.1 = RX1 ∧ f.2.2.2 = true ∧ parseFieldDescriptor f.2.2.1 = some (.array .int)) := by
  intro r hr
  cases hr
  exact ⟨rfl, rfl, by decide +kernel⟩
theorem fr_1_4 : zFt 1 4 (fun f => f.1 = RX1 ∧ f.2.2.2 = true ∧ parseFieldDescriptor f.2.2.1 = some (.array .int)) := by
  intro r hr
  cases hr
  exact ⟨rfl, rfl, by decide +kernel⟩
theorem fr_1_5 : zFt 1 5 (fun f => f.1 = RX1 ∧ f.2.2.2 = true ∧ parseFieldDescriptor f.2.2.1 = some (.array .int)) := by
  intro r hr
  cases hr
  exact ⟨rfl, rfl, by decide +kernel⟩
theorem fr_1_6 : zFt 1 6 (fun f => f.1 = RX1 ∧ f.2.2.2 = true ∧ parseFieldDescriptor f.2.2.1 = some (.array .int)) := by
  intro r hr
  cases hr
  exact ⟨rfl, rfl, by decide +kernel⟩
theorem fr_1_7 : zFt 1 7 (fun f => f.1 = RX1 ∧ f.2.2.2 = true ∧ parseFieldDescriptor f.2.2.1 = some (.array .int)) := by
  intro r hr
  cases hr
  exact ⟨rfl, rfl, by decide +kernel⟩
theorem ft_1_8 : zFt 1 8 (fun f => f.2.2.2 = false ∧ parseFieldDescriptor f.2.2.1 = some .int) := by
  intro r hr
  cases hr
  exact ⟨rfl, by decide +kernel⟩
theorem ft_1_9 : zFt 1 9 (fun f => f.2.2.2 = false ∧ parseFieldDescriptor f.2.2.1 = some .int) := by
  intro r hr
  cases hr
  exact ⟨rfl, by decide +kernel⟩
theorem ft_1_10 : zFt 1 10 (fun f => f.2.2.2 = false ∧ parseFieldDescriptor f.2.2.1 = some .int) := by
  intro r hr
  cases hr
  exact ⟨rfl, by decide +kernel⟩
theorem ft_1_11 : zFt 1 11 (fun f => f.2.2.2 = false ∧ parseFieldDescriptor f.2.2.1 = some .int) := by
  intro r hr
  cases hr
  exact ⟨rfl, by decide +kernel⟩
theorem ft_1_12 : zFt 1 12 (fun f => f.2.2.2 = false ∧ parseFieldDescriptor f.2.2.1 = some .int) := by
  intro r hr
  cases hr
  exact ⟨rfl, by decide +kernel⟩
theorem ft_1_13 : zFt 1 13 (fun f => f.2.2.2 = false ∧ parseFieldDescriptor f.2.2.1 = some .int) := by
  intro r hr
  cases hr
  exact ⟨rfl, by decide +kernel⟩
theorem fr_2_0 : zFt 2 0 (fun f => f.1 = RX2 ∧ f.2.2.2 = true ∧ parseFieldDescriptor f.2.2.1 = some (.array .int)) := by
  intro r hr
  cases hr
  exact ⟨rfl, rfl, by decide +kernel⟩
theorem fr_2_1 : zFt 2 1 (fun f => f.1 = RX2 ∧ f.2.2.2 = true ∧ parseFieldDescriptor f.2.2.1 = some (.array .int)) := by
  intro r hr
  cases hr
  exact ⟨rfl, rfl, by decide +kernel⟩
theorem fr_2_2 : zFt 2 2 (fun f => f.1 = RX2 ∧ f.2.2.2 = true ∧ parseFieldDescriptor f.2.2.1 = some (.array (.array .int))) := by
  intro r hr
  cases hr
  exact ⟨rfl, rfl, by decide +kernel⟩
theorem fr_3_0 : zFt 3 0 (fun f => f.1 = RX3 ∧ f.2.2.2 = true ∧ parseFieldDescriptor f.2.2.1 = some (.object "HedgeTreaties$Street")) := by
  intro r hr
  cases hr
  exact ⟨rfl, rfl, by decide +kernel⟩
theorem fr_3_1 : zFt 3 1 (fun f => f.1 = RX3 ∧ f.2.2.2 = true ∧ parseFieldDescriptor f.2.2.1 = some (.object "HedgeTreaties$Street")) := by
  intro r hr
  cases hr
  exact ⟨rfl, rfl, by decide +kernel⟩
theorem fr_3_2 : zFt 3 2 (fun f => f.1 = RX3 ∧ f.2.2.2 = true ∧ parseFieldDescriptor f.2.2.1 = some (.array (.object RX1))) := by
  intro r hr
  cases hr
  exact ⟨rfl, rfl, by decide +kernel⟩
theorem fr_3_3 : zFt 3 3 (fun f => f.1 = RX3 ∧ f.2.2.2 = true ∧ parseFieldDescriptor f.2.2.1 = some (.object "HedgeTreaties$Surveyor")) := by
  intro r hr
  cases hr
  exact ⟨rfl, rfl, by decide +kernel⟩
theorem fr_3_4 : zFt 3 4 (fun f => f.1 = RX3 ∧ f.2.2.2 = true ∧ parseFieldDescriptor f.2.2.1 = some (.object "HedgeTreaties$Pad")) := by
  intro r hr
  cases hr
  exact ⟨rfl, rfl, by decide +kernel⟩
theorem ft_3_5 : zFt 3 5 (fun f => f.2.2.2 = false ∧ parseFieldDescriptor f.2.2.1 = some .int) := by
  intro r hr
  cases hr
  exact ⟨rfl, by decide +kernel⟩
theorem ft_3_6 : zFt 3 6 (fun f => f.2.2.2 = false ∧ parseFieldDescriptor f.2.2.1 = some .boolean) := by
  intro r hr
  cases hr
  exact ⟨rfl, by decide +kernel⟩
theorem ft_3_7 : zFt 3 7 (fun f => f.2.2.2 = false ∧ parseFieldDescriptor f.2.2.1 = some .int) := by
  intro r hr
  cases hr
  exact ⟨rfl, by decide +kernel⟩
theorem ft_3_8 : zFt 3 8 (fun f => f.2.2.2 = false ∧ parseFieldDescriptor f.2.2.1 = some .int) := by
  intro r hr
  cases hr
  exact ⟨rfl, by decide +kernel⟩
theorem ft_3_9 : zFt 3 9 (fun f => f.2.2.2 = false ∧ parseFieldDescriptor f.2.2.1 = some .int) := by
  intro r hr
  cases hr
  exact ⟨rfl, by decide +kernel⟩
theorem fr_4_0 : zFt 4 0 (fun f => f.1 = RX4 ∧ f.2.2.2 = true ∧ parseFieldDescriptor f.2.2.1 = some (.array .int)) := by
  intro r hr
  cases hr
  exact ⟨rfl, rfl, by decide +kernel⟩
theorem fr_4_1 : zFt 4 1 (fun f => f.1 = RX4 ∧ f.2.2.2 = true ∧ parseFieldDescriptor f.2.2.1 = some (.array .int)) := by
  intro r hr
  cases hr
  exact ⟨rfl, rfl, by decide +kernel⟩
theorem fr_4_2 : zFt 4 2 (fun f => f.1 = RX4 ∧ f.2.2.2 = true ∧ parseFieldDescriptor f.2.2.1 = some (.array .int)) := by
  intro r hr
  cases hr
  exact ⟨rfl, rfl, by decide +kernel⟩
theorem ft_4_3 : zFt 4 3 (fun f => f.2.2.2 = false ∧ parseFieldDescriptor f.2.2.1 = some .int) := by
  intro r hr
  cases hr
  exact ⟨rfl, by decide +kernel⟩
theorem fr_4_4 : zFt 4 4 (fun f => f.1 = RX4 ∧ f.2.2.2 = true ∧ parseFieldDescriptor f.2.2.1 = some (.array .int)) := by
  intro r hr
  cases hr
  exact ⟨rfl, rfl, by decide +kernel⟩
theorem ft_4_5 : zFt 4 5 (fun f => f.2.2.2 = false ∧ parseFieldDescriptor f.2.2.1 = some .boolean) := by
  intro r hr
  cases hr
  exact ⟨rfl, by decide +kernel⟩
theorem fr_4_6 : zFt 4 6 (fun f => f.1 = RX4 ∧ f.2.2.2 = true ∧ parseFieldDescriptor f.2.2.1 = some (.array .int)) := by
  intro r hr
  cases hr
  exact ⟨rfl, rfl, by decide +kernel⟩
theorem ft_4_7 : zFt 4 7 (fun f => f.2.2.2 = false ∧ parseFieldDescriptor f.2.2.1 = some .int) := by
  intro r hr
  cases hr
  exact ⟨rfl, by decide +kernel⟩
theorem fr_4_8 : zFt 4 8 (fun f => f.1 = RX4 ∧ f.2.2.2 = true ∧ parseFieldDescriptor f.2.2.1 = some (.array .int)) := by
  intro r hr
  cases hr
  exact ⟨rfl, rfl, by decide +kernel⟩
theorem fr_4_9 : zFt 4 9 (fun f => f.1 = RX4 ∧ f.2.2.2 = true ∧ parseFieldDescriptor f.2.2.1 = some (.array .int)) := by
  intro r hr
  cases hr
  exact ⟨rfl, rfl, by decide +kernel⟩
theorem ft_4_10 : zFt 4 10 (fun f => f.2.2.2 = false ∧ parseFieldDescriptor f.2.2.1 = some .int) := by
  intro r hr
  cases hr
  exact ⟨rfl, by decide +kernel⟩
theorem ft_4_11 : zFt 4 11 (fun f => f.2.2.2 = false ∧ parseFieldDescriptor f.2.2.1 = some .boolean) := by
  intro r hr
  cases hr
  exact ⟨rfl, by decide +kernel⟩
theorem ft_4_12 : zFt 4 12 (fun f => f.2.2.2 = false ∧ parseFieldDescriptor f.2.2.1 = some .int) := by
  intro r hr
  cases hr
  exact ⟨rfl, by decide +kernel⟩
theorem ft_4_13 : zFt 4 13 (fun f => f.2.2.2 = false ∧ parseFieldDescriptor f.2.2.1 = some .int) := by
  intro r hr
  cases hr
  exact ⟨rfl, by decide +kernel⟩
theorem ft_4_14 : zFt 4 14 (fun f => f.2.2.2 = false ∧ parseFieldDescriptor f.2.2.1 = some .int) := by
  intro r hr
  cases hr
  exact ⟨rfl, by decide +kernel⟩
theorem ft_4_15 : zFt 4 15 (fun f => f.2.2.2 = false ∧ parseFieldDescriptor f.2.2.1 = some .boolean) := by
  intro r hr
  cases hr
  exact ⟨rfl, by decide +kernel⟩
theorem fr_4_16 : zFt 4 16 (fun f => f.1 = RX4 ∧ f.2.2.2 = true ∧ parseFieldDescriptor f.2.2.1 = some (.array .int)) := by
  intro r hr
  cases hr
  exact ⟨rfl, rfl, by decide +kernel⟩
abbrev mX0_init : zD := (RX0, cX0_init, 1, none, "<init>", { frames := 1, cells := 5, slots := 120, locals := 12 })
abbrev mX0_read : zD := (RX0, cX0_read, 3, some .int, "", { frames := 3, cells := 0, slots := 0, locals := 66 })
abbrev mX0_placeBehind : zD := (RX0, cX0_placeBehind, 4, some .int, "", { frames := 2, cells := 0, slots := 0, locals := 43 })
abbrev mX0_isDigit : zD := (RX0, cX0_isDigit, 2, some .boolean, "", { frames := 0, cells := 0, slots := 0, locals := 0 })
abbrev mX0_startPart : zD := (RX0, cX0_startPart, 3, some .int, "", { frames := 1, cells := 0, slots := 0, locals := 21 })
abbrev mX0_takeOther : zD := (RX0, cX0_takeOther, 2, some .int, "", { frames := 1, cells := 0, slots := 0, locals := 21 })
abbrev mX0_takeSign : zD := (RX0, cX0_takeSign, 2, some .int, "", { frames := 1, cells := 0, slots := 0, locals := 22 })
abbrev mX0_startNumber : zD := (RX0, cX0_startNumber, 3, some .int, "", { frames := 0, cells := 0, slots := 0, locals := 0 })
abbrev mX0_takeDigit : zD := (RX0, cX0_takeDigit, 2, some .int, "", { frames := 1, cells := 0, slots := 0, locals := 21 })
abbrev mX1_init : zD := (RX1, cX1_init, 2, none, "<init>", { frames := 1, cells := 8, slots := 88, locals := 12 })
abbrev mX1_copyFrom : zD := (RX1, cX1_copyFrom, 3, none, "", { frames := 0, cells := 0, slots := 0, locals := 0 })
abbrev mX1_isNested : zD := (RX1, cX1_isNested, 2, some .boolean, "", { frames := 0, cells := 0, slots := 0, locals := 0 })
abbrev mX1_countNested : zD := (RX1, cX1_countNested, 3, some .int, "", { frames := 1, cells := 0, slots := 0, locals := 21 })
abbrev mX1_heightAfter : zD := (RX1, cX1_heightAfter, 3, some .int, "", { frames := 1, cells := 0, slots := 0, locals := 21 })
abbrev mX1_heightsAfter : zD := (RX1, cX1_heightsAfter, 4, some .int, "", { frames := 2, cells := 0, slots := 0, locals := 43 })
abbrev mX1_passDay : zD := (RX1, cX1_passDay, 2, none, "", { frames := 2, cells := 0, slots := 0, locals := 43 })
abbrev mX1_cutOff : zD := (RX1, cX1_cutOff, 3, none, "", { frames := 0, cells := 0, slots := 0, locals := 0 })
abbrev mX1_addTreaty : zD := (RX1, cX1_addTreaty, 4, none, "", { frames := 0, cells := 0, slots := 0, locals := 0 })
abbrev mX1_removeTreaty : zD := (RX1, cX1_removeTreaty, 3, none, "", { frames := 0, cells := 0, slots := 0, locals := 0 })
abbrev mX1_isAbout : zD := (RX1, cX1_isAbout, 3, some .boolean, "", { frames := 0, cells := 0, slots := 0, locals := 0 })
abbrev mX1_isInForce : zD := (RX1, cX1_isInForce, 2, some .boolean, "", { frames := 0, cells := 0, slots := 0, locals := 0 })
abbrev mX1_countInForce : zD := (RX1, cX1_countInForce, 4, some .int, "", { frames := 1, cells := 0, slots := 0, locals := 22 })
abbrev mX1_slackAfter : zD := (RX1, cX1_slackAfter, 4, some .int, "", { frames := 2, cells := 0, slots := 0, locals := 43 })
abbrev mX1_isBrokenAfter : zD := (RX1, cX1_isBrokenAfter, 3, some .boolean, "", { frames := 3, cells := 0, slots := 0, locals := 66 })
abbrev mX1_isBroken : zD := (RX1, cX1_isBroken, 2, some .boolean, "", { frames := 4, cells := 0, slots := 0, locals := 88 })
abbrev mX1_countBroken : zD := (RX1, cX1_countBroken, 5, some .int, "", { frames := 4, cells := 0, slots := 0, locals := 88 })
abbrev mX2_init : zD := (RX2, cX2_init, 1, none, "<init>", { frames := 1, cells := 11, slots := 88, locals := 12 })
abbrev mX2_boundByTreaties : zD := (RX2, cX2_boundByTreaties, 7, some .int, "", { frames := 2, cells := 0, slots := 0, locals := 48 })
abbrev mX2_shortenSums : zD := (RX2, cX2_shortenSums, 8, some .boolean, "", { frames := 1, cells := 0, slots := 0, locals := 21 })
abbrev mX2_boundByPairs : zD := (RX2, cX2_boundByPairs, 4, some .int, "", { frames := 3, cells := 0, slots := 0, locals := 69 })
abbrev mX2_findPairs : zD := (RX2, cX2_findPairs, 5, none, "", { frames := 2, cells := 0, slots := 0, locals := 45 })
abbrev mX2_startPairs : zD := (RX2, cX2_startPairs, 5, none, "", { frames := 1, cells := 0, slots := 0, locals := 21 })
abbrev mX2_joinPair : zD := (RX2, cX2_joinPair, 6, none, "", { frames := 0, cells := 0, slots := 0, locals := 0 })
abbrev mX2_findLeastClipping : zD := (RX2, cX2_findLeastClipping, 4, some .boolean, "", { frames := 2, cells := 0, slots := 0, locals := 48 })
abbrev mX2_findLeastClippingByBounds : zD := (RX2, cX2_findLeastClippingByBounds, 5, some .boolean, "", { frames := 3, cells := 0, slots := 0, locals := 69 })
abbrev mX2_isPossibleWith : zD := (RX2, cX2_isPossibleWith, 7, some .boolean, "", { frames := 2, cells := 0, slots := 0, locals := 48 })
abbrev mX2_pressByTreaties : zD := (RX2, cX2_pressByTreaties, 5, some .boolean, "", { frames := 1, cells := 0, slots := 0, locals := 24 })
abbrev mX2_press : zD := (RX2, cX2_press, 5, some .boolean, "", { frames := 0, cells := 0, slots := 0, locals := 0 })
abbrev mX2_areLevelsAboveGround : zD := (RX2, cX2_areLevelsAboveGround, 2, some .boolean, "", { frames := 0, cells := 0, slots := 0, locals := 0 })
abbrev mX3_init : zD := (RX3, cX3_init, 2, none, "<init>", { frames := 2, cells := 73, slots := 837, locals := 33 })
abbrev mX3_height : zD := (RX3, cX3_height, 4, some .int, "", { frames := 2, cells := 0, slots := 0, locals := 42 })
abbrev mX3_growth : zD := (RX3, cX3_growth, 4, some .int, "", { frames := 2, cells := 0, slots := 0, locals := 42 })
abbrev mX3_nest : zD := (RX3, cX3_nest, 4, some .int, "", { frames := 2, cells := 0, slots := 0, locals := 42 })
abbrev mX3_clip : zD := (RX3, cX3_clip, 3, some .int, "", { frames := 2, cells := 0, slots := 0, locals := 42 })
abbrev mX3_plan : zD := (RX3, cX3_plan, 4, some .int, "", { frames := 3, cells := 0, slots := 0, locals := 71 })
abbrev mX3_day : zD := (RX3, cX3_day, 1, some .int, "", { frames := 5, cells := 0, slots := 0, locals := 112 })
abbrev mX3_sign : zD := (RX3, cX3_sign, 5, some .int, "", { frames := 5, cells := 0, slots := 0, locals := 122 })
abbrev mX3_cancel : zD := (RX3, cX3_cancel, 2, some .int, "", { frames := 2, cells := 0, slots := 0, locals := 42 })
abbrev mX3_freeze : zD := (RX3, cX3_freeze, 3, some .int, "", { frames := 5, cells := 0, slots := 0, locals := 109 })
abbrev mX3_thaw : zD := (RX3, cX3_thaw, 3, some .int, "", { frames := 2, cells := 0, slots := 0, locals := 42 })
abbrev mX3_append : zD := (RX3, cX3_append, 2, some .int, "", { frames := 0, cells := 0, slots := 0, locals := 0 })
abbrev mX3_clear : zD := (RX3, cX3_clear, 2, some .int, "", { frames := 0, cells := 0, slots := 0, locals := 0 })
abbrev mX3_fault : zD := (RX3, cX3_fault, 1, some .int, "", { frames := 4, cells := 0, slots := 0, locals := 88 })
abbrev mX3_signAll : zD := (RX3, cX3_signAll, 4, some .int, "", { frames := 6, cells := 0, slots := 0, locals := 147 })
abbrev mX3_why : zD := (RX3, cX3_why, 2, some .int, "", { frames := 0, cells := 0, slots := 0, locals := 0 })
abbrev mX3_hedge : zD := (RX3, cX3_hedge, 3, some .int, "", { frames := 5, cells := 0, slots := 0, locals := 112 })
abbrev mX3_treaty : zD := (RX3, cX3_treaty, 3, some .int, "", { frames := 5, cells := 0, slots := 0, locals := 109 })
abbrev mX3_bound : zD := (RX3, cX3_bound, 5, some .int, "", { frames := 4, cells := 0, slots := 0, locals := 92 })
abbrev mX3_whyNot : zD := (RX3, cX3_whyNot, 4, some .int, "", { frames := 4, cells := 0, slots := 0, locals := 98 })
abbrev mX3_clipping : zD := (RX3, cX3_clipping, 3, some .int, "", { frames := 4, cells := 0, slots := 0, locals := 93 })
abbrev mX3_count : zD := (RX3, cX3_count, 2, some .int, "", { frames := 5, cells := 0, slots := 0, locals := 112 })
abbrev mX3_peace : zD := (RX3, cX3_peace, 2, some .double, "", { frames := 5, cells := 0, slots := 0, locals := 112 })
abbrev mX3_ifDays : zD := (RX3, cX3_ifDays, 3, some .int, "", { frames := 5, cells := 0, slots := 0, locals := 112 })
abbrev mX3_breaksIn : zD := (RX3, cX3_breaksIn, 2, some .int, "", { frames := 5, cells := 0, slots := 0, locals := 112 })
abbrev mX3_tightest : zD := (RX3, cX3_tightest, 6, some .int, "", { frames := 3, cells := 0, slots := 0, locals := 74 })
abbrev mX3_undo : zD := (RX3, cX3_undo, 1, some .int, "", { frames := 1, cells := 0, slots := 0, locals := 22 })
abbrev mX3_save : zD := (RX3, cX3_save, 1, some .int, "", { frames := 1, cells := 0, slots := 0, locals := 22 })
abbrev mX3_restore : zD := (RX3, cX3_restore, 1, some .int, "", { frames := 2, cells := 0, slots := 0, locals := 42 })
abbrev mX3_isHedge : zD := (RX3, cX3_isHedge, 1, some .boolean, "", { frames := 0, cells := 0, slots := 0, locals := 0 })
abbrev mX3_isTreaty : zD := (RX3, cX3_isTreaty, 2, some .boolean, "", { frames := 0, cells := 0, slots := 0, locals := 0 })
abbrev mX3_isAgreement : zD := (RX3, cX3_isAgreement, 3, some .boolean, "", { frames := 1, cells := 0, slots := 0, locals := 20 })
abbrev mX3_sum : zD := (RX3, cX3_sum, 6, some .int, "", { frames := 0, cells := 0, slots := 0, locals := 0 })
abbrev mX3_remember : zD := (RX3, cX3_remember, 1, none, "", { frames := 1, cells := 0, slots := 0, locals := 22 })
abbrev mX3_dropOldestState : zD := (RX3, cX3_dropOldestState, 3, none, "", { frames := 0, cells := 0, slots := 0, locals := 0 })
abbrev mX3_refuse : zD := (RX3, cX3_refuse, 2, some .int, "", { frames := 0, cells := 0, slots := 0, locals := 0 })
abbrev mX3_isNestInTheWay : zD := (RX3, cX3_isNestInTheWay, 2, some .boolean, "", { frames := 1, cells := 0, slots := 0, locals := 21 })
abbrev mX3_errorOfSigning : zD := (RX3, cX3_errorOfSigning, 4, some .int, "", { frames := 2, cells := 0, slots := 0, locals := 42 })
abbrev mX3_reasonAgainst : zD := (RX3, cX3_reasonAgainst, 5, some .int, "", { frames := 3, cells := 0, slots := 0, locals := 74 })
abbrev mX3_signOne : zD := (RX3, cX3_signOne, 5, some .int, "", { frames := 4, cells := 0, slots := 0, locals := 98 })
abbrev mX3_signPart : zD := (RX3, cX3_signPart, 6, some .int, "", { frames := 5, cells := 0, slots := 0, locals := 122 })
abbrev mX3_isNothingNewBesideOthers : zD := (RX3, cX3_isNothingNewBesideOthers, 4, some .boolean, "", { frames := 3, cells := 0, slots := 0, locals := 74 })
abbrev mX4_init : zD := (RX4, cX4_init, 2, none, "<init>", { frames := 1, cells := 8, slots := 744, locals := 23 })
abbrev mX4_in : zD := (RX4, cX4_in, 3, some .boolean, "", { frames := 0, cells := 0, slots := 0, locals := 0 })
abbrev mX4_copies : zD := (RX4, cX4_copies, 5, none, "", { frames := 0, cells := 0, slots := 0, locals := 0 })
abbrev mX4_records : zD := (RX4, cX4_records, 2, none, "", { frames := 1, cells := 0, slots := 0, locals := 24 })
abbrev mX4_isHedge : zD := (RX4, cX4_isHedge, 1, some .boolean, "", { frames := 1, cells := 0, slots := 0, locals := 22 })
abbrev mX4_isTreaty : zD := (RX4, cX4_isTreaty, 2, some .boolean, "", { frames := 1, cells := 0, slots := 0, locals := 22 })
abbrev mX4_of : zD := (RX4, cX4_of, 3, some .int, "", { frames := 0, cells := 0, slots := 0, locals := 0 })
abbrev mX4_lays : zD := (RX4, cX4_lays, 4, none, "", { frames := 0, cells := 0, slots := 0, locals := 0 })
abbrev mX4_ofTreaty : zD := (RX4, cX4_ofTreaty, 3, some .int, "", { frames := 0, cells := 0, slots := 0, locals := 0 })
abbrev mX4_laysTreaty : zD := (RX4, cX4_laysTreaty, 4, none, "", { frames := 0, cells := 0, slots := 0, locals := 0 })
abbrev mX4_isNested : zD := (RX4, cX4_isNested, 2, some .boolean, "", { frames := 1, cells := 0, slots := 0, locals := 22 })
abbrev mX4_isForce : zD := (RX4, cX4_isForce, 2, some .boolean, "", { frames := 1, cells := 0, slots := 0, locals := 22 })
abbrev mX4_slackOf : zD := (RX4, cX4_slackOf, 2, some .int, "", { frames := 1, cells := 0, slots := 0, locals := 22 })
abbrev mX4_isBroken : zD := (RX4, cX4_isBroken, 2, some .boolean, "", { frames := 2, cells := 0, slots := 0, locals := 43 })
abbrev mX4_brokenOnes : zD := (RX4, cX4_brokenOnes, 3, some .int, "", { frames := 3, cells := 0, slots := 0, locals := 64 })
abbrev mX4_inForce : zD := (RX4, cX4_inForce, 3, some .int, "", { frames := 2, cells := 0, slots := 0, locals := 43 })
abbrev mX4_lowers : zD := (RX4, cX4_lowers, 5, some .boolean, "", { frames := 0, cells := 0, slots := 0, locals := 0 })
abbrev mX4_areTall : zD := (RX4, cX4_areTall, 3, some .boolean, "", { frames := 0, cells := 0, slots := 0, locals := 0 })
abbrev mX4_settles : zD := (RX4, cX4_settles, 5, some .boolean, "", { frames := 2, cells := 0, slots := 0, locals := 43 })
abbrev mX4_isPossible : zD := (RX4, cX4_isPossible, 5, some .boolean, "", { frames := 3, cells := 0, slots := 0, locals := 67 })
abbrev mX4_hasLeast : zD := (RX4, cX4_hasLeast, 2, some .boolean, "", { frames := 3, cells := 0, slots := 0, locals := 67 })
abbrev mX4_boundBut : zD := (RX4, cX4_boundBut, 9, some .int, "", { frames := 2, cells := 0, slots := 0, locals := 43 })
abbrev mX4_reasonToSign : zD := (RX4, cX4_reasonToSign, 4, some .int, "", { frames := 4, cells := 0, slots := 0, locals := 91 })
abbrev mX4_refuses : zD := (RX4, cX4_refuses, 2, some .int, "", { frames := 0, cells := 0, slots := 0, locals := 0 })
abbrev mX4_isPair : zD := (RX4, cX4_isPair, 2, some .boolean, "", { frames := 2, cells := 0, slots := 0, locals := 42 })
abbrev mX4_errorOfSign : zD := (RX4, cX4_errorOfSign, 4, some .int, "", { frames := 3, cells := 0, slots := 0, locals := 63 })
abbrev mX4_goSign : zD := (RX4, cX4_goSign, 6, some .int, "", { frames := 5, cells := 0, slots := 0, locals := 114 })
abbrev mX4_clips : zD := (RX4, cX4_clips, 3, none, "", { frames := 1, cells := 0, slots := 0, locals := 23 })
abbrev mX4_goPlan : zD := (RX4, cX4_goPlan, 4, some .int, "", { frames := 4, cells := 0, slots := 0, locals := 88 })
abbrev mX4_goDay : zD := (RX4, cX4_goDay, 3, none, "", { frames := 1, cells := 0, slots := 0, locals := 23 })
abbrev mX4_height : zD := (RX4, cX4_height, 4, some .int, "", { frames := 2, cells := 0, slots := 0, locals := 45 })
abbrev mX4_growth : zD := (RX4, cX4_growth, 4, some .int, "", { frames := 2, cells := 0, slots := 0, locals := 45 })
abbrev mX4_nest : zD := (RX4, cX4_nest, 4, some .int, "", { frames := 2, cells := 0, slots := 0, locals := 45 })
abbrev mX4_clip : zD := (RX4, cX4_clip, 3, some .int, "", { frames := 2, cells := 0, slots := 0, locals := 45 })
abbrev mX4_plan : zD := (RX4, cX4_plan, 1, some .int, "", { frames := 5, cells := 0, slots := 0, locals := 111 })
abbrev mX4_day : zD := (RX4, cX4_day, 1, some .int, "", { frames := 4, cells := 0, slots := 0, locals := 86 })
abbrev mX4_sign : zD := (RX4, cX4_sign, 5, some .int, "", { frames := 6, cells := 0, slots := 0, locals := 139 })
abbrev mX4_cancel : zD := (RX4, cX4_cancel, 3, some .int, "", { frames := 2, cells := 0, slots := 0, locals := 45 })
abbrev mX4_freeze : zD := (RX4, cX4_freeze, 3, some .int, "", { frames := 3, cells := 0, slots := 0, locals := 64 })
abbrev mX4_thaw : zD := (RX4, cX4_thaw, 3, some .int, "", { frames := 2, cells := 0, slots := 0, locals := 45 })
abbrev mX4_append : zD := (RX4, cX4_append, 2, some .int, "", { frames := 1, cells := 0, slots := 0, locals := 22 })
abbrev mX4_clear : zD := (RX4, cX4_clear, 2, some .int, "", { frames := 0, cells := 0, slots := 0, locals := 0 })
abbrev mX4_here : zD := (RX4, cX4_here, 1, some .int, "", { frames := 0, cells := 0, slots := 0, locals := 0 })
abbrev mX4_takes : zD := (RX4, cX4_takes, 2, none, "", { frames := 0, cells := 0, slots := 0, locals := 0 })
abbrev mX4_takesDigit : zD := (RX4, cX4_takesDigit, 4, some .int, "", { frames := 1, cells := 0, slots := 0, locals := 22 })
abbrev mX4_takesNumber : zD := (RX4, cX4_takesNumber, 5, some .int, "", { frames := 2, cells := 0, slots := 0, locals := 45 })
abbrev mX4_takesPart : zD := (RX4, cX4_takesPart, 2, none, "", { frames := 3, cells := 0, slots := 0, locals := 69 })
abbrev mX4_isText : zD := (RX4, cX4_isText, 1, some .boolean, "", { frames := 4, cells := 0, slots := 0, locals := 90 })
abbrev mX4_fault : zD := (RX4, cX4_fault, 1, some .int, "", { frames := 5, cells := 0, slots := 0, locals := 110 })
abbrev mX4_signAll : zD := (RX4, cX4_signAll, 4, some .int, "", { frames := 6, cells := 0, slots := 0, locals := 139 })
abbrev mX4_why : zD := (RX4, cX4_why, 2, some .int, "", { frames := 1, cells := 0, slots := 0, locals := 22 })
abbrev mX4_isAbout : zD := (RX4, cX4_isAbout, 3, some .boolean, "", { frames := 1, cells := 0, slots := 0, locals := 22 })
abbrev mX4_brokenAbout : zD := (RX4, cX4_brokenAbout, 4, some .int, "", { frames := 3, cells := 0, slots := 0, locals := 64 })
abbrev mX4_forceAbout : zD := (RX4, cX4_forceAbout, 4, some .int, "", { frames := 2, cells := 0, slots := 0, locals := 44 })
abbrev mX4_hedge : zD := (RX4, cX4_hedge, 3, some .int, "", { frames := 4, cells := 0, slots := 0, locals := 88 })
abbrev mX4_saysNothing : zD := (RX4, cX4_saysNothing, 2, some .boolean, "", { frames := 3, cells := 0, slots := 0, locals := 71 })
abbrev mX4_treaty : zD := (RX4, cX4_treaty, 3, some .int, "", { frames := 4, cells := 0, slots := 0, locals := 92 })
abbrev mX4_boundOf : zD := (RX4, cX4_boundOf, 4, some .int, "", { frames := 3, cells := 0, slots := 0, locals := 71 })
abbrev mX4_bound : zD := (RX4, cX4_bound, 4, some .int, "", { frames := 4, cells := 0, slots := 0, locals := 94 })
abbrev mX4_whyNot : zD := (RX4, cX4_whyNot, 4, some .int, "", { frames := 5, cells := 0, slots := 0, locals := 114 })
abbrev mX4_clippingNow : zD := (RX4, cX4_clippingNow, 3, some .int, "", { frames := 4, cells := 0, slots := 0, locals := 88 })
abbrev mX4_clipping : zD := (RX4, cX4_clipping, 2, some .int, "", { frames := 5, cells := 0, slots := 0, locals := 110 })
abbrev mX4_allHeights : zD := (RX4, cX4_allHeights, 3, some .int, "", { frames := 1, cells := 0, slots := 0, locals := 22 })
abbrev mX4_nested : zD := (RX4, cX4_nested, 3, some .int, "", { frames := 2, cells := 0, slots := 0, locals := 43 })
abbrev mX4_count : zD := (RX4, cX4_count, 2, some .int, "", { frames := 4, cells := 0, slots := 0, locals := 86 })
abbrev mX4_peace : zD := (RX4, cX4_peace, 1, some .double, "", { frames := 4, cells := 0, slots := 0, locals := 86 })
abbrev mX4_ifDays : zD := (RX4, cX4_ifDays, 4, some .int, "", { frames := 4, cells := 0, slots := 0, locals := 86 })
abbrev mX4_breaksIn : zD := (RX4, cX4_breaksIn, 3, some .int, "", { frames := 4, cells := 0, slots := 0, locals := 86 })
abbrev mX4_tightest : zD := (RX4, cX4_tightest, 5, some .int, "", { frames := 4, cells := 0, slots := 0, locals := 91 })
abbrev mX4_undo : zD := (RX4, cX4_undo, 1, some .int, "", { frames := 1, cells := 0, slots := 0, locals := 24 })
abbrev mX4_save : zD := (RX4, cX4_save, 1, some .int, "", { frames := 1, cells := 0, slots := 0, locals := 24 })
abbrev mX4_restore : zD := (RX4, cX4_restore, 1, some .int, "", { frames := 2, cells := 0, slots := 0, locals := 45 })
abbrev mL_law : zD := (RL, cL_law, 8, ret, "", room_1)
theorem qL_9 : zY RL 9 yX3_init mX3_init 0 := ⟨lw_in 71 (by decide +kernel) (by decide +kernel), lw_in 63 (by decide +kernel) (by decide +kernel), lw_in 73 (by decide +kernel) (by decide +kernel), by decide +kernel⟩
theorem kX3_init : yX3_init.name = "<init>" ∧ Cond.instanceMethod yX3_init ∈ lw_ok := ⟨rfl, lw_in 72 (by decide +kernel) (by decide +kernel)⟩
theorem qL_12 : zY RL 12 yX4_init mX4_init 0 := ⟨lw_in 557 (by decide +kernel) (by decide +kernel), lw_in 67 (by decide +kernel) (by decide +kernel), lw_in 559 (by decide +kernel) (by decide +kernel), by decide +kernel⟩
theorem kX4_init : yX4_init.name = "<init>" ∧ Cond.instanceMethod yX4_init ∈ lw_ok := ⟨rfl, lw_in 558 (by decide +kernel) (by decide +kernel)⟩
theorem qL_13 : zY RL 13 yX3_height mX3_height 2 := ⟨lw_in 241 (by decide +kernel) (by decide +kernel), lw_in 63 (by decide +kernel) (by decide +kernel), lw_in 244 (by decide +kernel) (by decide +kernel), by decide +kernel⟩
theorem kX3_height : Cond.instanceMethod yX3_height ∈ lw_ok ∧ Cond.selects yX3_height.cls yX3_height yX3_height ∈ lw_ok := ⟨lw_in 242 (by decide +kernel) (by decide +kernel), lw_in 243 (by decide +kernel) (by decide +kernel)⟩
theorem qL_17 : zY RL 17 yX4_height mX4_height 2 := ⟨lw_in 617 (by decide +kernel) (by decide +kernel), lw_in 67 (by decide +kernel) (by decide +kernel), lw_in 620 (by decide +kernel) (by decide +kernel), by decide +kernel⟩
theorem kX4_height : Cond.instanceMethod yX4_height ∈ lw_ok ∧ Cond.selects yX4_height.cls yX4_height yX4_height ∈ lw_ok := ⟨lw_in 618 (by decide +kernel) (by decide +kernel), lw_in 619 (by decide +kernel) (by decide +kernel)⟩
theorem qL_18 : zY RL 18 yX3_growth mX3_growth 2 := ⟨lw_in 260 (by decide +kernel) (by decide +kernel), lw_in 63 (by decide +kernel) (by decide +kernel), lw_in 263 (by decide +kernel) (by decide +kernel), by decide +kernel⟩
theorem kX3_growth : Cond.instanceMethod yX3_growth ∈ lw_ok ∧ Cond.selects yX3_growth.cls yX3_growth yX3_growth ∈ lw_ok := ⟨lw_in 261 (by decide +kernel) (by decide +kernel), lw_in 262 (by decide +kernel) (by decide +kernel)⟩
theorem qL_21 : zY RL 21 yX4_growth mX4_growth 2 := ⟨lw_in 638 (by decide +kernel) (by decide +kernel), lw_in 67 (by decide +kernel) (by decide +kernel), lw_in 641 (by decide +kernel) (by decide +kernel), by decide +kernel⟩
theorem kX4_growth : Cond.instanceMethod yX4_growth ∈ lw_ok ∧ Cond.selects yX4_growth.cls yX4_growth yX4_growth ∈ lw_ok := ⟨lw_in 639 (by decide +kernel) (by decide +kernel), lw_in 640 (by decide +kernel) (by decide +kernel)⟩
theorem qL_22 : zY RL 22 yX3_nest mX3_nest 2 := ⟨lw_in 264 (by decide +kernel) (by decide +kernel), lw_in 63 (by decide +kernel) (by decide +kernel), lw_in 267 (by decide +kernel) (by decide +kernel), by decide +kernel⟩
theorem kX3_nest : Cond.instanceMethod yX3_nest ∈ lw_ok ∧ Cond.selects yX3_nest.cls yX3_nest yX3_nest ∈ lw_ok := ⟨lw_in 265 (by decide +kernel) (by decide +kernel), lw_in 266 (by decide +kernel) (by decide +kernel)⟩
theorem qL_25 : zY RL 25 yX4_nest mX4_nest 2 := ⟨lw_in 642 (by decide +kernel) (by decide +kernel), lw_in 67 (by decide +kernel) (by decide +kernel), lw_in 645 (by decide +kernel) (by decide +kernel), by decide +kernel⟩
theorem kX4_nest : Cond.instanceMethod yX4_nest ∈ lw_ok ∧ Cond.selects yX4_nest.cls yX4_nest yX4_nest ∈ lw_ok := ⟨lw_in 643 (by decide +kernel) (by decide +kernel), lw_in 644 (by decide +kernel) (by decide +kernel)⟩
theorem qL_26 : zY RL 26 yX3_clip mX3_clip 2 := ⟨lw_in 268 (by decide +kernel) (by decide +kernel), lw_in 63 (by decide +kernel) (by decide +kernel), lw_in 271 (by decide +kernel) (by decide +kernel), by decide +kernel⟩
theorem kX3_clip : Cond.instanceMethod yX3_clip ∈ lw_ok ∧ Cond.selects yX3_clip.cls yX3_clip yX3_clip ∈ lw_ok := ⟨lw_in 269 (by decide +kernel) (by decide +kernel), lw_in 270 (by decide +kernel) (by decide +kernel)⟩
theorem qL_29 : zY RL 29 yX4_clip mX4_clip 2 := ⟨lw_in 646 (by decide +kernel) (by decide +kernel), lw_in 67 (by decide +kernel) (by decide +kernel), lw_in 649 (by decide +kernel) (by decide +kernel), by decide +kernel⟩
theorem kX4_clip : Cond.instanceMethod yX4_clip ∈ lw_ok ∧ Cond.selects yX4_clip.cls yX4_clip yX4_clip ∈ lw_ok := ⟨lw_in 647 (by decide +kernel) (by decide +kernel), lw_in 648 (by decide +kernel) (by decide +kernel)⟩
theorem qL_30 : zY RL 30 yX3_plan mX3_plan 0 := ⟨lw_in 284 (by decide +kernel) (by decide +kernel), lw_in 63 (by decide +kernel) (by decide +kernel), lw_in 287 (by decide +kernel) (by decide +kernel), by decide +kernel⟩
theorem kX3_plan : Cond.instanceMethod yX3_plan ∈ lw_ok ∧ Cond.selects yX3_plan.cls yX3_plan yX3_plan ∈ lw_ok := ⟨lw_in 285 (by decide +kernel) (by decide +kernel), lw_in 286 (by decide +kernel) (by decide +kernel)⟩
theorem qL_34 : zY RL 34 yX4_plan mX4_plan 0 := ⟨lw_in 662 (by decide +kernel) (by decide +kernel), lw_in 67 (by decide +kernel) (by decide +kernel), lw_in 665 (by decide +kernel) (by decide +kernel), by decide +kernel⟩
theorem kX4_plan : Cond.instanceMethod yX4_plan ∈ lw_ok ∧ Cond.selects yX4_plan.cls yX4_plan yX4_plan ∈ lw_ok := ⟨lw_in 663 (by decide +kernel) (by decide +kernel), lw_in 664 (by decide +kernel) (by decide +kernel)⟩
theorem qL_35 : zY RL 35 yX3_day mX3_day 0 := ⟨lw_in 312 (by decide +kernel) (by decide +kernel), lw_in 63 (by decide +kernel) (by decide +kernel), lw_in 315 (by decide +kernel) (by decide +kernel), by decide +kernel⟩
theorem kX3_day : Cond.instanceMethod yX3_day ∈ lw_ok ∧ Cond.selects yX3_day.cls yX3_day yX3_day ∈ lw_ok := ⟨lw_in 313 (by decide +kernel) (by decide +kernel), lw_in 314 (by decide +kernel) (by decide +kernel)⟩
theorem qL_38 : zY RL 38 yX4_day mX4_day 0 := ⟨lw_in 694 (by decide +kernel) (by decide +kernel), lw_in 67 (by decide +kernel) (by decide +kernel), lw_in 697 (by decide +kernel) (by decide +kernel), by decide +kernel⟩
theorem kX4_day : Cond.instanceMethod yX4_day ∈ lw_ok ∧ Cond.selects yX4_day.cls yX4_day yX4_day ∈ lw_ok := ⟨lw_in 695 (by decide +kernel) (by decide +kernel), lw_in 696 (by decide +kernel) (by decide +kernel)⟩
theorem qL_39 : zY RL 39 yX3_sign mX3_sign 3 := ⟨lw_in 343 (by decide +kernel) (by decide +kernel), lw_in 63 (by decide +kernel) (by decide +kernel), lw_in 346 (by decide +kernel) (by decide +kernel), by decide +kernel⟩
theorem kX3_sign : Cond.instanceMethod yX3_sign ∈ lw_ok ∧ Cond.selects yX3_sign.cls yX3_sign yX3_sign ∈ lw_ok := ⟨lw_in 344 (by decide +kernel) (by decide +kernel), lw_in 345 (by decide +kernel) (by decide +kernel)⟩
theorem qL_43 : zY RL 43 yX4_sign mX4_sign 3 := ⟨lw_in 714 (by decide +kernel) (by decide +kernel), lw_in 67 (by decide +kernel) (by decide +kernel), lw_in 717 (by decide +kernel) (by decide +kernel), by decide +kernel⟩
theorem kX4_sign : Cond.instanceMethod yX4_sign ∈ lw_ok ∧ Cond.selects yX4_sign.cls yX4_sign yX4_sign ∈ lw_ok := ⟨lw_in 715 (by decide +kernel) (by decide +kernel), lw_in 716 (by decide +kernel) (by decide +kernel)⟩
theorem qL_44 : zY RL 44 yX3_cancel mX3_cancel 1 := ⟨lw_in 379 (by decide +kernel) (by decide +kernel), lw_in 63 (by decide +kernel) (by decide +kernel), lw_in 382 (by decide +kernel) (by decide +kernel), by decide +kernel⟩
theorem kX3_cancel : Cond.instanceMethod yX3_cancel ∈ lw_ok ∧ Cond.selects yX3_cancel.cls yX3_cancel yX3_cancel ∈ lw_ok := ⟨lw_in 380 (by decide +kernel) (by decide +kernel), lw_in 381 (by decide +kernel) (by decide +kernel)⟩
theorem qL_48 : zY RL 48 yX4_cancel mX4_cancel 1 := ⟨lw_in 746 (by decide +kernel) (by decide +kernel), lw_in 67 (by decide +kernel) (by decide +kernel), lw_in 749 (by decide +kernel) (by decide +kernel), by decide +kernel⟩
theorem kX4_cancel : Cond.instanceMethod yX4_cancel ∈ lw_ok ∧ Cond.selects yX4_cancel.cls yX4_cancel yX4_cancel ∈ lw_ok := ⟨lw_in 747 (by decide +kernel) (by decide +kernel), lw_in 748 (by decide +kernel) (by decide +kernel)⟩
theorem qL_49 : zY RL 49 yX3_freeze mX3_freeze 2 := ⟨lw_in 391 (by decide +kernel) (by decide +kernel), lw_in 63 (by decide +kernel) (by decide +kernel), lw_in 394 (by decide +kernel) (by decide +kernel), by decide +kernel⟩
theorem kX3_freeze : Cond.instanceMethod yX3_freeze ∈ lw_ok ∧ Cond.selects yX3_freeze.cls yX3_freeze yX3_freeze ∈ lw_ok := ⟨lw_in 392 (by decide +kernel) (by decide +kernel), lw_in 393 (by decide +kernel) (by decide +kernel)⟩
theorem qL_52 : zY RL 52 yX4_freeze mX4_freeze 2 := ⟨lw_in 754 (by decide +kernel) (by decide +kernel), lw_in 67 (by decide +kernel) (by decide +kernel), lw_in 757 (by decide +kernel) (by decide +kernel), by decide +kernel⟩
theorem kX4_freeze : Cond.instanceMethod yX4_freeze ∈ lw_ok ∧ Cond.selects yX4_freeze.cls yX4_freeze yX4_freeze ∈ lw_ok := ⟨lw_in 755 (by decide +kernel) (by decide +kernel), lw_in 756 (by decide +kernel) (by decide +kernel)⟩
theorem qL_53 : zY RL 53 yX3_thaw mX3_thaw 1 := ⟨lw_in 399 (by decide +kernel) (by decide +kernel), lw_in 63 (by decide +kernel) (by decide +kernel), lw_in 402 (by decide +kernel) (by decide +kernel), by decide +kernel⟩
theorem kX3_thaw : Cond.instanceMethod yX3_thaw ∈ lw_ok ∧ Cond.selects yX3_thaw.cls yX3_thaw yX3_thaw ∈ lw_ok := ⟨lw_in 400 (by decide +kernel) (by decide +kernel), lw_in 401 (by decide +kernel) (by decide +kernel)⟩
theorem qL_56 : zY RL 56 yX4_thaw mX4_thaw 1 := ⟨lw_in 758 (by decide +kernel) (by decide +kernel), lw_in 67 (by decide +kernel) (by decide +kernel), lw_in 761 (by decide +kernel) (by decide +kernel), by decide +kernel⟩
theorem kX4_thaw : Cond.instanceMethod yX4_thaw ∈ lw_ok ∧ Cond.selects yX4_thaw.cls yX4_thaw yX4_thaw ∈ lw_ok := ⟨lw_in 759 (by decide +kernel) (by decide +kernel), lw_in 760 (by decide +kernel) (by decide +kernel)⟩
theorem qL_57 : zY RL 57 yX3_append mX3_append 1 := ⟨lw_in 404 (by decide +kernel) (by decide +kernel), lw_in 63 (by decide +kernel) (by decide +kernel), lw_in 407 (by decide +kernel) (by decide +kernel), by decide +kernel⟩
theorem kX3_append : Cond.instanceMethod yX3_append ∈ lw_ok ∧ Cond.selects yX3_append.cls yX3_append yX3_append ∈ lw_ok := ⟨lw_in 405 (by decide +kernel) (by decide +kernel), lw_in 406 (by decide +kernel) (by decide +kernel)⟩
theorem qL_60 : zY RL 60 yX4_append mX4_append 1 := ⟨lw_in 762 (by decide +kernel) (by decide +kernel), lw_in 67 (by decide +kernel) (by decide +kernel), lw_in 765 (by decide +kernel) (by decide +kernel), by decide +kernel⟩
theorem kX4_append : Cond.instanceMethod yX4_append ∈ lw_ok ∧ Cond.selects yX4_append.cls yX4_append yX4_append ∈ lw_ok := ⟨lw_in 763 (by decide +kernel) (by decide +kernel), lw_in 764 (by decide +kernel) (by decide +kernel)⟩
theorem qL_61 : zY RL 61 yX3_clear mX3_clear 0 := ⟨lw_in 408 (by decide +kernel) (by decide +kernel), lw_in 63 (by decide +kernel) (by decide +kernel), lw_in 411 (by decide +kernel) (by decide +kernel), by decide +kernel⟩
theorem kX3_clear : Cond.instanceMethod yX3_clear ∈ lw_ok ∧ Cond.selects yX3_clear.cls yX3_clear yX3_clear ∈ lw_ok := ⟨lw_in 409 (by decide +kernel) (by decide +kernel), lw_in 410 (by decide +kernel) (by decide +kernel)⟩
theorem qL_64 : zY RL 64 yX4_clear mX4_clear 0 := ⟨lw_in 766 (by decide +kernel) (by decide +kernel), lw_in 67 (by decide +kernel) (by decide +kernel), lw_in 769 (by decide +kernel) (by decide +kernel), by decide +kernel⟩
theorem kX4_clear : Cond.instanceMethod yX4_clear ∈ lw_ok ∧ Cond.selects yX4_clear.cls yX4_clear yX4_clear ∈ lw_ok := ⟨lw_in 767 (by decide +kernel) (by decide +kernel), lw_in 768 (by decide +kernel) (by decide +kernel)⟩
theorem qL_65 : zY RL 65 yX3_fault mX3_fault 0 := ⟨lw_in 412 (by decide +kernel) (by decide +kernel), lw_in 63 (by decide +kernel) (by decide +kernel), lw_in 415 (by decide +kernel) (by decide +kernel), by decide +kernel⟩
theorem kX3_fault : Cond.instanceMethod yX3_fault ∈ lw_ok ∧ Cond.selects yX3_fault.cls yX3_fault yX3_fault ∈ lw_ok := ⟨lw_in 413 (by decide +kernel) (by decide +kernel), lw_in 414 (by decide +kernel) (by decide +kernel)⟩
theorem qL_68 : zY RL 68 yX4_fault mX4_fault 0 := ⟨lw_in 770 (by decide +kernel) (by decide +kernel), lw_in 67 (by decide +kernel) (by decide +kernel), lw_in 773 (by decide +kernel) (by decide +kernel), by decide +kernel⟩
theorem kX4_fault : Cond.instanceMethod yX4_fault ∈ lw_ok ∧ Cond.selects yX4_fault.cls yX4_fault yX4_fault ∈ lw_ok := ⟨lw_in 771 (by decide +kernel) (by decide +kernel), lw_in 772 (by decide +kernel) (by decide +kernel)⟩
theorem qL_69 : zY RL 69 yX3_signAll mX3_signAll 0 := ⟨lw_in 447 (by decide +kernel) (by decide +kernel), lw_in 63 (by decide +kernel) (by decide +kernel), lw_in 450 (by decide +kernel) (by decide +kernel), by decide +kernel⟩
theorem kX3_signAll : Cond.instanceMethod yX3_signAll ∈ lw_ok ∧ Cond.selects yX3_signAll.cls yX3_signAll yX3_signAll ∈ lw_ok := ⟨lw_in 448 (by decide +kernel) (by decide +kernel), lw_in 449 (by decide +kernel) (by decide +kernel)⟩
theorem qL_72 : zY RL 72 yX4_signAll mX4_signAll 0 := ⟨lw_in 798 (by decide +kernel) (by decide +kernel), lw_in 67 (by decide +kernel) (by decide +kernel), lw_in 801 (by decide +kernel) (by decide +kernel), by decide +kernel⟩
theorem kX4_signAll : Cond.instanceMethod yX4_signAll ∈ lw_ok ∧ Cond.selects yX4_signAll.cls yX4_signAll yX4_signAll ∈ lw_ok := ⟨lw_in 799 (by decide +kernel) (by decide +kernel), lw_in 800 (by decide +kernel) (by decide +kernel)⟩
theorem qL_73 : zY RL 73 yX3_why mX3_why 1 := ⟨lw_in 455 (by decide +kernel) (by decide +kernel), lw_in 63 (by decide +kernel) (by decide +kernel), lw_in 458 (by decide +kernel) (by decide +kernel), by decide +kernel⟩
theorem kX3_why : Cond.instanceMethod yX3_why ∈ lw_ok ∧ Cond.selects yX3_why.cls yX3_why yX3_why ∈ lw_ok := ⟨lw_in 456 (by decide +kernel) (by decide +kernel), lw_in 457 (by decide +kernel) (by decide +kernel)⟩
theorem qL_76 : zY RL 76 yX4_why mX4_why 1 := ⟨lw_in 802 (by decide +kernel) (by decide +kernel), lw_in 67 (by decide +kernel) (by decide +kernel), lw_in 805 (by decide +kernel) (by decide +kernel), by decide +kernel⟩
theorem kX4_why : Cond.instanceMethod yX4_why ∈ lw_ok ∧ Cond.selects yX4_why.cls yX4_why yX4_why ∈ lw_ok := ⟨lw_in 803 (by decide +kernel) (by decide +kernel), lw_in 804 (by decide +kernel) (by decide +kernel)⟩
theorem qL_77 : zY RL 77 yX3_hedge mX3_hedge 2 := ⟨lw_in 459 (by decide +kernel) (by decide +kernel), lw_in 63 (by decide +kernel) (by decide +kernel), lw_in 462 (by decide +kernel) (by decide +kernel), by decide +kernel⟩
theorem kX3_hedge : Cond.instanceMethod yX3_hedge ∈ lw_ok ∧ Cond.selects yX3_hedge.cls yX3_hedge yX3_hedge ∈ lw_ok := ⟨lw_in 460 (by decide +kernel) (by decide +kernel), lw_in 461 (by decide +kernel) (by decide +kernel)⟩
theorem qL_80 : zY RL 80 yX4_hedge mX4_hedge 2 := ⟨lw_in 806 (by decide +kernel) (by decide +kernel), lw_in 67 (by decide +kernel) (by decide +kernel), lw_in 809 (by decide +kernel) (by decide +kernel), by decide +kernel⟩
theorem kX4_hedge : Cond.instanceMethod yX4_hedge ∈ lw_ok ∧ Cond.selects yX4_hedge.cls yX4_hedge yX4_hedge ∈ lw_ok := ⟨lw_in 807 (by decide +kernel) (by decide +kernel), lw_in 808 (by decide +kernel) (by decide +kernel)⟩
theorem qL_81 : zY RL 81 yX3_treaty mX3_treaty 2 := ⟨lw_in 468 (by decide +kernel) (by decide +kernel), lw_in 63 (by decide +kernel) (by decide +kernel), lw_in 471 (by decide +kernel) (by decide +kernel), by decide +kernel⟩
theorem kX3_treaty : Cond.instanceMethod yX3_treaty ∈ lw_ok ∧ Cond.selects yX3_treaty.cls yX3_treaty yX3_treaty ∈ lw_ok := ⟨lw_in 469 (by decide +kernel) (by decide +kernel), lw_in 470 (by decide +kernel) (by decide +kernel)⟩
theorem qL_84 : zY RL 84 yX4_treaty mX4_treaty 2 := ⟨lw_in 822 (by decide +kernel) (by decide +kernel), lw_in 67 (by decide +kernel) (by decide +kernel), lw_in 825 (by decide +kernel) (by decide +kernel), by decide +kernel⟩
theorem kX4_treaty : Cond.instanceMethod yX4_treaty ∈ lw_ok ∧ Cond.selects yX4_treaty.cls yX4_treaty yX4_treaty ∈ lw_ok := ⟨lw_in 823 (by decide +kernel) (by decide +kernel), lw_in 824 (by decide +kernel) (by decide +kernel)⟩
theorem qL_85 : zY RL 85 yX3_bound mX3_bound 3 := ⟨lw_in 477 (by decide +kernel) (by decide +kernel), lw_in 63 (by decide +kernel) (by decide +kernel), lw_in 480 (by decide +kernel) (by decide +kernel), by decide +kernel⟩
theorem kX3_bound : Cond.instanceMethod yX3_bound ∈ lw_ok ∧ Cond.selects yX3_bound.cls yX3_bound yX3_bound ∈ lw_ok := ⟨lw_in 478 (by decide +kernel) (by decide +kernel), lw_in 479 (by decide +kernel) (by decide +kernel)⟩
theorem qL_88 : zY RL 88 yX4_bound mX4_bound 3 := ⟨lw_in 830 (by decide +kernel) (by decide +kernel), lw_in 67 (by decide +kernel) (by decide +kernel), lw_in 833 (by decide +kernel) (by decide +kernel), by decide +kernel⟩
theorem kX4_bound : Cond.instanceMethod yX4_bound ∈ lw_ok ∧ Cond.selects yX4_bound.cls yX4_bound yX4_bound ∈ lw_ok := ⟨lw_in 831 (by decide +kernel) (by decide +kernel), lw_in 832 (by decide +kernel) (by decide +kernel)⟩
theorem qL_89 : zY RL 89 yX3_whyNot mX3_whyNot 3 := ⟨lw_in 499 (by decide +kernel) (by decide +kernel), lw_in 63 (by decide +kernel) (by decide +kernel), lw_in 502 (by decide +kernel) (by decide +kernel), by decide +kernel⟩
theorem kX3_whyNot : Cond.instanceMethod yX3_whyNot ∈ lw_ok ∧ Cond.selects yX3_whyNot.cls yX3_whyNot yX3_whyNot ∈ lw_ok := ⟨lw_in 500 (by decide +kernel) (by decide +kernel), lw_in 501 (by decide +kernel) (by decide +kernel)⟩
theorem qL_92 : zY RL 92 yX4_whyNot mX4_whyNot 3 := ⟨lw_in 838 (by decide +kernel) (by decide +kernel), lw_in 67 (by decide +kernel) (by decide +kernel), lw_in 841 (by decide +kernel) (by decide +kernel), by decide +kernel⟩
theorem kX4_whyNot : Cond.instanceMethod yX4_whyNot ∈ lw_ok ∧ Cond.selects yX4_whyNot.cls yX4_whyNot yX4_whyNot ∈ lw_ok := ⟨lw_in 839 (by decide +kernel) (by decide +kernel), lw_in 840 (by decide +kernel) (by decide +kernel)⟩
theorem qL_93 : zY RL 93 yX3_clipping mX3_clipping 1 := ⟨lw_in 503 (by decide +kernel) (by decide +kernel), lw_in 63 (by decide +kernel) (by decide +kernel), lw_in 506 (by decide +kernel) (by decide +kernel), by decide +kernel⟩
theorem kX3_clipping : Cond.instanceMethod yX3_clipping ∈ lw_ok ∧ Cond.selects yX3_clipping.cls yX3_clipping yX3_clipping ∈ lw_ok := ⟨lw_in 504 (by decide +kernel) (by decide +kernel), lw_in 505 (by decide +kernel) (by decide +kernel)⟩
theorem qL_96 : zY RL 96 yX4_clipping mX4_clipping 1 := ⟨lw_in 842 (by decide +kernel) (by decide +kernel), lw_in 67 (by decide +kernel) (by decide +kernel), lw_in 845 (by decide +kernel) (by decide +kernel), by decide +kernel⟩
theorem kX4_clipping : Cond.instanceMethod yX4_clipping ∈ lw_ok ∧ Cond.selects yX4_clipping.cls yX4_clipping yX4_clipping ∈ lw_ok := ⟨lw_in 843 (by decide +kernel) (by decide +kernel), lw_in 844 (by decide +kernel) (by decide +kernel)⟩
theorem qL_97 : zY RL 97 yX3_count mX3_count 1 := ⟨lw_in 514 (by decide +kernel) (by decide +kernel), lw_in 63 (by decide +kernel) (by decide +kernel), lw_in 517 (by decide +kernel) (by decide +kernel), by decide +kernel⟩
theorem kX3_count : Cond.instanceMethod yX3_count ∈ lw_ok ∧ Cond.selects yX3_count.cls yX3_count yX3_count ∈ lw_ok := ⟨lw_in 515 (by decide +kernel) (by decide +kernel), lw_in 516 (by decide +kernel) (by decide +kernel)⟩
theorem qL_100 : zY RL 100 yX4_count mX4_count 1 := ⟨lw_in 850 (by decide +kernel) (by decide +kernel), lw_in 67 (by decide +kernel) (by decide +kernel), lw_in 853 (by decide +kernel) (by decide +kernel), by decide +kernel⟩
theorem kX4_count : Cond.instanceMethod yX4_count ∈ lw_ok ∧ Cond.selects yX4_count.cls yX4_count yX4_count ∈ lw_ok := ⟨lw_in 851 (by decide +kernel) (by decide +kernel), lw_in 852 (by decide +kernel) (by decide +kernel)⟩
theorem qL_101 : zY RL 101 yX3_peace mX3_peace 0 := ⟨lw_in 523 (by decide +kernel) (by decide +kernel), lw_in 63 (by decide +kernel) (by decide +kernel), lw_in 526 (by decide +kernel) (by decide +kernel), by decide +kernel⟩
theorem kX3_peace : Cond.instanceMethod yX3_peace ∈ lw_ok ∧ Cond.selects yX3_peace.cls yX3_peace yX3_peace ∈ lw_ok := ⟨lw_in 524 (by decide +kernel) (by decide +kernel), lw_in 525 (by decide +kernel) (by decide +kernel)⟩
theorem qL_105 : zY RL 105 yX4_peace mX4_peace 0 := ⟨lw_in 866 (by decide +kernel) (by decide +kernel), lw_in 67 (by decide +kernel) (by decide +kernel), lw_in 869 (by decide +kernel) (by decide +kernel), by decide +kernel⟩
theorem kX4_peace : Cond.instanceMethod yX4_peace ∈ lw_ok ∧ Cond.selects yX4_peace.cls yX4_peace yX4_peace ∈ lw_ok := ⟨lw_in 867 (by decide +kernel) (by decide +kernel), lw_in 868 (by decide +kernel) (by decide +kernel)⟩
theorem qL_106 : zY RL 106 yX3_ifDays mX3_ifDays 2 := ⟨lw_in 527 (by decide +kernel) (by decide +kernel), lw_in 63 (by decide +kernel) (by decide +kernel), lw_in 530 (by decide +kernel) (by decide +kernel), by decide +kernel⟩
theorem kX3_ifDays : Cond.instanceMethod yX3_ifDays ∈ lw_ok ∧ Cond.selects yX3_ifDays.cls yX3_ifDays yX3_ifDays ∈ lw_ok := ⟨lw_in 528 (by decide +kernel) (by decide +kernel), lw_in 529 (by decide +kernel) (by decide +kernel)⟩
theorem qL_109 : zY RL 109 yX4_ifDays mX4_ifDays 2 := ⟨lw_in 870 (by decide +kernel) (by decide +kernel), lw_in 67 (by decide +kernel) (by decide +kernel), lw_in 873 (by decide +kernel) (by decide +kernel), by decide +kernel⟩
theorem kX4_ifDays : Cond.instanceMethod yX4_ifDays ∈ lw_ok ∧ Cond.selects yX4_ifDays.cls yX4_ifDays yX4_ifDays ∈ lw_ok := ⟨lw_in 871 (by decide +kernel) (by decide +kernel), lw_in 872 (by decide +kernel) (by decide +kernel)⟩
theorem qL_110 : zY RL 110 yX3_breaksIn mX3_breaksIn 0 := ⟨lw_in 535 (by decide +kernel) (by decide +kernel), lw_in 63 (by decide +kernel) (by decide +kernel), lw_in 538 (by decide +kernel) (by decide +kernel), by decide +kernel⟩
theorem kX3_breaksIn : Cond.instanceMethod yX3_breaksIn ∈ lw_ok ∧ Cond.selects yX3_breaksIn.cls yX3_breaksIn yX3_breaksIn ∈ lw_ok := ⟨lw_in 536 (by decide +kernel) (by decide +kernel), lw_in 537 (by decide +kernel) (by decide +kernel)⟩
theorem qL_113 : zY RL 113 yX4_breaksIn mX4_breaksIn 0 := ⟨lw_in 874 (by decide +kernel) (by decide +kernel), lw_in 67 (by decide +kernel) (by decide +kernel), lw_in 877 (by decide +kernel) (by decide +kernel), by decide +kernel⟩
theorem kX4_breaksIn : Cond.instanceMethod yX4_breaksIn ∈ lw_ok ∧ Cond.selects yX4_breaksIn.cls yX4_breaksIn yX4_breaksIn ∈ lw_ok := ⟨lw_in 875 (by decide +kernel) (by decide +kernel), lw_in 876 (by decide +kernel) (by decide +kernel)⟩
theorem qL_114 : zY RL 114 yX3_tightest mX3_tightest 2 := ⟨lw_in 539 (by decide +kernel) (by decide +kernel), lw_in 63 (by decide +kernel) (by decide +kernel), lw_in 542 (by decide +kernel) (by decide +kernel), by decide +kernel⟩
theorem kX3_tightest : Cond.instanceMethod yX3_tightest ∈ lw_ok ∧ Cond.selects yX3_tightest.cls yX3_tightest yX3_tightest ∈ lw_ok := ⟨lw_in 540 (by decide +kernel) (by decide +kernel), lw_in 541 (by decide +kernel) (by decide +kernel)⟩
theorem qL_117 : zY RL 117 yX4_tightest mX4_tightest 2 := ⟨lw_in 878 (by decide +kernel) (by decide +kernel), lw_in 67 (by decide +kernel) (by decide +kernel), lw_in 881 (by decide +kernel) (by decide +kernel), by decide +kernel⟩
theorem kX4_tightest : Cond.instanceMethod yX4_tightest ∈ lw_ok ∧ Cond.selects yX4_tightest.cls yX4_tightest yX4_tightest ∈ lw_ok := ⟨lw_in 879 (by decide +kernel) (by decide +kernel), lw_in 880 (by decide +kernel) (by decide +kernel)⟩
theorem qL_118 : zY RL 118 yX3_undo mX3_undo 0 := ⟨lw_in 543 (by decide +kernel) (by decide +kernel), lw_in 63 (by decide +kernel) (by decide +kernel), lw_in 546 (by decide +kernel) (by decide +kernel), by decide +kernel⟩
theorem kX3_undo : Cond.instanceMethod yX3_undo ∈ lw_ok ∧ Cond.selects yX3_undo.cls yX3_undo yX3_undo ∈ lw_ok := ⟨lw_in 544 (by decide +kernel) (by decide +kernel), lw_in 545 (by decide +kernel) (by decide +kernel)⟩
theorem qL_121 : zY RL 121 yX4_undo mX4_undo 0 := ⟨lw_in 882 (by decide +kernel) (by decide +kernel), lw_in 67 (by decide +kernel) (by decide +kernel), lw_in 885 (by decide +kernel) (by decide +kernel), by decide +kernel⟩
theorem kX4_undo : Cond.instanceMethod yX4_undo ∈ lw_ok ∧ Cond.selects yX4_undo.cls yX4_undo yX4_undo ∈ lw_ok := ⟨lw_in 883 (by decide +kernel) (by decide +kernel), lw_in 884 (by decide +kernel) (by decide +kernel)⟩
theorem qL_122 : zY RL 122 yX3_save mX3_save 0 := ⟨lw_in 547 (by decide +kernel) (by decide +kernel), lw_in 63 (by decide +kernel) (by decide +kernel), lw_in 550 (by decide +kernel) (by decide +kernel), by decide +kernel⟩
theorem kX3_save : Cond.instanceMethod yX3_save ∈ lw_ok ∧ Cond.selects yX3_save.cls yX3_save yX3_save ∈ lw_ok := ⟨lw_in 548 (by decide +kernel) (by decide +kernel), lw_in 549 (by decide +kernel) (by decide +kernel)⟩
theorem qL_125 : zY RL 125 yX4_save mX4_save 0 := ⟨lw_in 886 (by decide +kernel) (by decide +kernel), lw_in 67 (by decide +kernel) (by decide +kernel), lw_in 889 (by decide +kernel) (by decide +kernel), by decide +kernel⟩
theorem kX4_save : Cond.instanceMethod yX4_save ∈ lw_ok ∧ Cond.selects yX4_save.cls yX4_save yX4_save ∈ lw_ok := ⟨lw_in 887 (by decide +kernel) (by decide +kernel), lw_in 888 (by decide +kernel) (by decide +kernel)⟩
theorem qL_126 : zY RL 126 yX3_restore mX3_restore 0 := ⟨lw_in 551 (by decide +kernel) (by decide +kernel), lw_in 63 (by decide +kernel) (by decide +kernel), lw_in 554 (by decide +kernel) (by decide +kernel), by decide +kernel⟩
theorem kX3_restore : Cond.instanceMethod yX3_restore ∈ lw_ok ∧ Cond.selects yX3_restore.cls yX3_restore yX3_restore ∈ lw_ok := ⟨lw_in 552 (by decide +kernel) (by decide +kernel), lw_in 553 (by decide +kernel) (by decide +kernel)⟩
theorem qL_129 : zY RL 129 yX4_restore mX4_restore 0 := ⟨lw_in 890 (by decide +kernel) (by decide +kernel), lw_in 67 (by decide +kernel) (by decide +kernel), lw_in 893 (by decide +kernel) (by decide +kernel), by decide +kernel⟩
theorem kX4_restore : Cond.instanceMethod yX4_restore ∈ lw_ok ∧ Cond.selects yX4_restore.cls yX4_restore yX4_restore ∈ lw_ok := ⟨lw_in 891 (by decide +kernel) (by decide +kernel), lw_in 892 (by decide +kernel) (by decide +kernel)⟩
theorem qX0_34 : zY RX0 34 yX0_placeBehind mX0_placeBehind 2 := ⟨lw_in 420 (by decide +kernel) (by decide +kernel), lw_in 66 (by decide +kernel) (by decide +kernel), lw_in 423 (by decide +kernel) (by decide +kernel), by decide +kernel⟩
theorem kX0_placeBehind : Cond.instanceMethod yX0_placeBehind ∈ lw_ok ∧ Cond.selects yX0_placeBehind.cls yX0_placeBehind yX0_placeBehind ∈ lw_ok := ⟨lw_in 422 (by decide +kernel) (by decide +kernel), lw_in 12 (by decide +kernel) (by decide +kernel)⟩
theorem qX0_38 : zY RX0 38 yX0_startPart mX0_startPart 1 := ⟨lw_in 424 (by decide +kernel) (by decide +kernel), lw_in 66 (by decide +kernel) (by decide +kernel), lw_in 427 (by decide +kernel) (by decide +kernel), by decide +kernel⟩
theorem kX0_startPart : Cond.instanceMethod yX0_startPart ∈ lw_ok ∧ Cond.selects yX0_startPart.cls yX0_startPart yX0_startPart ∈ lw_ok := ⟨lw_in 426 (by decide +kernel) (by decide +kernel), lw_in 13 (by decide +kernel) (by decide +kernel)⟩
theorem qX0_42 : zY RX0 42 yX0_takeOther mX0_takeOther 1 := ⟨lw_in 431 (by decide +kernel) (by decide +kernel), lw_in 66 (by decide +kernel) (by decide +kernel), lw_in 434 (by decide +kernel) (by decide +kernel), by decide +kernel⟩
theorem kX0_takeOther : Cond.instanceMethod yX0_takeOther ∈ lw_ok ∧ Cond.selects yX0_takeOther.cls yX0_takeOther yX0_takeOther ∈ lw_ok := ⟨lw_in 433 (by decide +kernel) (by decide +kernel), lw_in 14 (by decide +kernel) (by decide +kernel)⟩
theorem qX0_45 : zY RX0 45 yX0_takeSign mX0_takeSign 1 := ⟨lw_in 435 (by decide +kernel) (by decide +kernel), lw_in 66 (by decide +kernel) (by decide +kernel), lw_in 438 (by decide +kernel) (by decide +kernel), by decide +kernel⟩
theorem kX0_takeSign : Cond.instanceMethod yX0_takeSign ∈ lw_ok ∧ Cond.selects yX0_takeSign.cls yX0_takeSign yX0_takeSign ∈ lw_ok := ⟨lw_in 437 (by decide +kernel) (by decide +kernel), lw_in 15 (by decide +kernel) (by decide +kernel)⟩
theorem qX0_48 : zY RX0 48 yX0_takeDigit mX0_takeDigit 1 := ⟨lw_in 443 (by decide +kernel) (by decide +kernel), lw_in 66 (by decide +kernel) (by decide +kernel), lw_in 446 (by decide +kernel) (by decide +kernel), by decide +kernel⟩
theorem kX0_takeDigit : Cond.instanceMethod yX0_takeDigit ∈ lw_ok ∧ Cond.selects yX0_takeDigit.cls yX0_takeDigit yX0_takeDigit ∈ lw_ok := ⟨lw_in 445 (by decide +kernel) (by decide +kernel), lw_in 17 (by decide +kernel) (by decide +kernel)⟩
theorem qX0_51 : zY RX0 51 yX0_isDigit mX0_isDigit 2 := ⟨lw_in 428 (by decide +kernel) (by decide +kernel), lw_in 66 (by decide +kernel) (by decide +kernel), lw_in 430 (by decide +kernel) (by decide +kernel), by decide +kernel⟩
theorem kX0_isDigit : Cond.static yX0_isDigit ∈ lw_ok := lw_in 429 (by decide +kernel) (by decide +kernel)
theorem qX0_55 : zY RX0 55 yX0_startNumber mX0_startNumber 2 := ⟨lw_in 439 (by decide +kernel) (by decide +kernel), lw_in 66 (by decide +kernel) (by decide +kernel), lw_in 442 (by decide +kernel) (by decide +kernel), by decide +kernel⟩
theorem kX0_startNumber : Cond.instanceMethod yX0_startNumber ∈ lw_ok ∧ Cond.selects yX0_startNumber.cls yX0_startNumber yX0_startNumber ∈ lw_ok := ⟨lw_in 441 (by decide +kernel) (by decide +kernel), lw_in 16 (by decide +kernel) (by decide +kernel)⟩
theorem qX1_55 : zY RX1 55 yX1_isNested mX1_isNested 1 := ⟨lw_in 522 (by decide +kernel) (by decide +kernel), lw_in 64 (by decide +kernel) (by decide +kernel), lw_in 275 (by decide +kernel) (by decide +kernel), by decide +kernel⟩
theorem kX1_isNested : Cond.instanceMethod yX1_isNested ∈ lw_ok ∧ Cond.selects yX1_isNested.cls yX1_isNested yX1_isNested ∈ lw_ok := ⟨lw_in 273 (by decide +kernel) (by decide +kernel), lw_in 274 (by decide +kernel) (by decide +kernel)⟩
theorem qX1_65 : zY RX1 65 yX1_heightAfter mX1_heightAfter 2 := ⟨lw_in 320 (by decide +kernel) (by decide +kernel), lw_in 64 (by decide +kernel) (by decide +kernel), lw_in 323 (by decide +kernel) (by decide +kernel), by decide +kernel⟩
theorem kX1_heightAfter : Cond.instanceMethod yX1_heightAfter ∈ lw_ok ∧ Cond.selects yX1_heightAfter.cls yX1_heightAfter yX1_heightAfter ∈ lw_ok := ⟨lw_in 321 (by decide +kernel) (by decide +kernel), lw_in 322 (by decide +kernel) (by decide +kernel)⟩
theorem qX1_68 : zY RX1 68 yX1_isAbout mX1_isAbout 2 := ⟨lw_in 331 (by decide +kernel) (by decide +kernel), lw_in 64 (by decide +kernel) (by decide +kernel), lw_in 334 (by decide +kernel) (by decide +kernel), by decide +kernel⟩
theorem kX1_isAbout : Cond.instanceMethod yX1_isAbout ∈ lw_ok ∧ Cond.selects yX1_isAbout.cls yX1_isAbout yX1_isAbout ∈ lw_ok := ⟨lw_in 332 (by decide +kernel) (by decide +kernel), lw_in 333 (by decide +kernel) (by decide +kernel)⟩
theorem qX1_72 : zY RX1 72 yX1_isInForce mX1_isInForce 1 := ⟨lw_in 467 (by decide +kernel) (by decide +kernel), lw_in 64 (by decide +kernel) (by decide +kernel), lw_in 299 (by decide +kernel) (by decide +kernel), by decide +kernel⟩
theorem kX1_isInForce : Cond.instanceMethod yX1_isInForce ∈ lw_ok ∧ Cond.selects yX1_isInForce.cls yX1_isInForce yX1_isInForce ∈ lw_ok := ⟨lw_in 297 (by decide +kernel) (by decide +kernel), lw_in 298 (by decide +kernel) (by decide +kernel)⟩
theorem qX1_75 : zY RX1 75 yX1_slackAfter mX1_slackAfter 2 := ⟨lw_in 339 (by decide +kernel) (by decide +kernel), lw_in 64 (by decide +kernel) (by decide +kernel), lw_in 342 (by decide +kernel) (by decide +kernel), by decide +kernel⟩
theorem kX1_slackAfter : Cond.instanceMethod yX1_slackAfter ∈ lw_ok ∧ Cond.selects yX1_slackAfter.cls yX1_slackAfter yX1_slackAfter ∈ lw_ok := ⟨lw_in 340 (by decide +kernel) (by decide +kernel), lw_in 341 (by decide +kernel) (by decide +kernel)⟩
theorem qX1_78 : zY RX1 78 yX1_isBrokenAfter mX1_isBrokenAfter 2 := ⟨lw_in 335 (by decide +kernel) (by decide +kernel), lw_in 64 (by decide +kernel) (by decide +kernel), lw_in 338 (by decide +kernel) (by decide +kernel), by decide +kernel⟩
theorem kX1_isBrokenAfter : Cond.instanceMethod yX1_isBrokenAfter ∈ lw_ok ∧ Cond.selects yX1_isBrokenAfter.cls yX1_isBrokenAfter yX1_isBrokenAfter ∈ lw_ok := ⟨lw_in 336 (by decide +kernel) (by decide +kernel), lw_in 337 (by decide +kernel) (by decide +kernel)⟩
theorem qX2_24 : zY RX2 24 yX2_shortenSums mX2_shortenSums 2 := ⟨lw_in 371 (by decide +kernel) (by decide +kernel), lw_in 65 (by decide +kernel) (by decide +kernel), lw_in 374 (by decide +kernel) (by decide +kernel), by decide +kernel⟩
theorem kX2_shortenSums : Cond.instanceMethod yX2_shortenSums ∈ lw_ok ∧ Cond.selects yX2_shortenSums.cls yX2_shortenSums yX2_shortenSums ∈ lw_ok := ⟨lw_in 373 (by decide +kernel) (by decide +kernel), lw_in 10 (by decide +kernel) (by decide +kernel)⟩
theorem qX2_37 : zY RX2 37 yX1_isInForce mX1_isInForce 1 := ⟨lw_in 296 (by decide +kernel) (by decide +kernel), lw_in 64 (by decide +kernel) (by decide +kernel), lw_in 299 (by decide +kernel) (by decide +kernel), by decide +kernel⟩
theorem qX2_47 : zY RX2 47 yX2_findPairs mX2_findPairs 1 := ⟨lw_in 485 (by decide +kernel) (by decide +kernel), lw_in 65 (by decide +kernel) (by decide +kernel), lw_in 488 (by decide +kernel) (by decide +kernel), by decide +kernel⟩
theorem kX2_findPairs : Cond.instanceMethod yX2_findPairs ∈ lw_ok ∧ Cond.selects yX2_findPairs.cls yX2_findPairs yX2_findPairs ∈ lw_ok := ⟨lw_in 487 (by decide +kernel) (by decide +kernel), lw_in 20 (by decide +kernel) (by decide +kernel)⟩
theorem qX2_51 : zY RX2 51 yX2_startPairs mX2_startPairs 1 := ⟨lw_in 489 (by decide +kernel) (by decide +kernel), lw_in 65 (by decide +kernel) (by decide +kernel), lw_in 492 (by decide +kernel) (by decide +kernel), by decide +kernel⟩
theorem kX2_startPairs : Cond.instanceMethod yX2_startPairs ∈ lw_ok ∧ Cond.selects yX2_startPairs.cls yX2_startPairs yX2_startPairs ∈ lw_ok := ⟨lw_in 491 (by decide +kernel) (by decide +kernel), lw_in 21 (by decide +kernel) (by decide +kernel)⟩
theorem qX2_54 : zY RX2 54 yX2_joinPair mX2_joinPair 3 := ⟨lw_in 494 (by decide +kernel) (by decide +kernel), lw_in 65 (by decide +kernel) (by decide +kernel), lw_in 497 (by decide +kernel) (by decide +kernel), by decide +kernel⟩
theorem kX2_joinPair : Cond.instanceMethod yX2_joinPair ∈ lw_ok ∧ Cond.selects yX2_joinPair.cls yX2_joinPair yX2_joinPair ∈ lw_ok := ⟨lw_in 496 (by decide +kernel) (by decide +kernel), lw_in 22 (by decide +kernel) (by decide +kernel)⟩
theorem qX2_67 : zY RX2 67 yX2_pressByTreaties mX2_pressByTreaties 2 := ⟨lw_in 292 (by decide +kernel) (by decide +kernel), lw_in 65 (by decide +kernel) (by decide +kernel), lw_in 295 (by decide +kernel) (by decide +kernel), by decide +kernel⟩
theorem kX2_pressByTreaties : Cond.instanceMethod yX2_pressByTreaties ∈ lw_ok ∧ Cond.selects yX2_pressByTreaties.cls yX2_pressByTreaties yX2_pressByTreaties ∈ lw_ok := ⟨lw_in 294 (by decide +kernel) (by decide +kernel), lw_in 3 (by decide +kernel) (by decide +kernel)⟩
theorem qX2_71 : zY RX2 71 yX2_areLevelsAboveGround mX2_areLevelsAboveGround 0 := ⟨lw_in 304 (by decide +kernel) (by decide +kernel), lw_in 65 (by decide +kernel) (by decide +kernel), lw_in 307 (by decide +kernel) (by decide +kernel), by decide +kernel⟩
theorem kX2_areLevelsAboveGround : Cond.instanceMethod yX2_areLevelsAboveGround ∈ lw_ok ∧ Cond.selects yX2_areLevelsAboveGround.cls yX2_areLevelsAboveGround yX2_areLevelsAboveGround ∈ lw_ok := ⟨lw_in 306 (by decide +kernel) (by decide +kernel), lw_in 5 (by decide +kernel) (by decide +kernel)⟩
theorem qX2_75 : zY RX2 75 yX2_press mX2_press 3 := ⟨lw_in 300 (by decide +kernel) (by decide +kernel), lw_in 65 (by decide +kernel) (by decide +kernel), lw_in 303 (by decide +kernel) (by decide +kernel), by decide +kernel⟩
theorem kX2_press : Cond.instanceMethod yX2_press ∈ lw_ok ∧ Cond.selects yX2_press.cls yX2_press yX2_press ∈ lw_ok := ⟨lw_in 302 (by decide +kernel) (by decide +kernel), lw_in 4 (by decide +kernel) (by decide +kernel)⟩
theorem qX3_9 : zY RX3 9 yX1_init mX1_init 0 := ⟨lw_in 79 (by decide +kernel) (by decide +kernel), lw_in 64 (by decide +kernel) (by decide +kernel), lw_in 81 (by decide +kernel) (by decide +kernel), by decide +kernel⟩
theorem kX1_init : yX1_init.name = "<init>" ∧ Cond.instanceMethod yX1_init ∈ lw_ok := ⟨rfl, lw_in 80 (by decide +kernel) (by decide +kernel)⟩
theorem kX2_init : yX2_init.name = "<init>" ∧ Cond.instanceMethod yX2_init ∈ lw_ok := ⟨rfl, lw_in 150 (by decide +kernel) (by decide +kernel)⟩
theorem kX0_init : yX0_init.name = "<init>" ∧ Cond.instanceMethod yX0_init ∈ lw_ok := ⟨rfl, lw_in 169 (by decide +kernel) (by decide +kernel)⟩
theorem qX3_37 : zY RX3 37 yX3_isHedge mX3_isHedge 1 := ⟨lw_in 245 (by decide +kernel) (by decide +kernel), lw_in 63 (by decide +kernel) (by decide +kernel), lw_in 247 (by decide +kernel) (by decide +kernel), by decide +kernel⟩
theorem kX3_isHedge : Cond.static yX3_isHedge ∈ lw_ok := lw_in 246 (by decide +kernel) (by decide +kernel)
theorem qX3_41 : zY RX3 41 yX3_remember mX3_remember 0 := ⟨lw_in 248 (by decide +kernel) (by decide +kernel), lw_in 63 (by decide +kernel) (by decide +kernel), lw_in 251 (by decide +kernel) (by decide +kernel), by decide +kernel⟩
theorem kX3_remember : Cond.instanceMethod yX3_remember ∈ lw_ok ∧ Cond.selects yX3_remember.cls yX3_remember yX3_remember ∈ lw_ok := ⟨lw_in 250 (by decide +kernel) (by decide +kernel), lw_in 0 (by decide +kernel) (by decide +kernel)⟩
theorem qX3_58 : zY RX3 58 yX1_isNested mX1_isNested 1 := ⟨lw_in 272 (by decide +kernel) (by decide +kernel), lw_in 64 (by decide +kernel) (by decide +kernel), lw_in 275 (by decide +kernel) (by decide +kernel), by decide +kernel⟩
theorem qX3_61 : zY RX3 61 yX3_refuse mX3_refuse 1 := ⟨lw_in 276 (by decide +kernel) (by decide +kernel), lw_in 63 (by decide +kernel) (by decide +kernel), lw_in 279 (by decide +kernel) (by decide +kernel), by decide +kernel⟩
theorem kX3_refuse : Cond.instanceMethod yX3_refuse ∈ lw_ok ∧ Cond.selects yX3_refuse.cls yX3_refuse yX3_refuse ∈ lw_ok := ⟨lw_in 278 (by decide +kernel) (by decide +kernel), lw_in 2 (by decide +kernel) (by decide +kernel)⟩
theorem qX3_65 : zY RX3 65 yX1_cutOff mX1_cutOff 2 := ⟨lw_in 280 (by decide +kernel) (by decide +kernel), lw_in 64 (by decide +kernel) (by decide +kernel), lw_in 283 (by decide +kernel) (by decide +kernel), by decide +kernel⟩
theorem kX1_cutOff : Cond.instanceMethod yX1_cutOff ∈ lw_ok ∧ Cond.selects yX1_cutOff.cls yX1_cutOff yX1_cutOff ∈ lw_ok := ⟨lw_in 281 (by decide +kernel) (by decide +kernel), lw_in 282 (by decide +kernel) (by decide +kernel)⟩
theorem qX3_69 : zY RX3 69 yX2_findLeastClipping mX2_findLeastClipping 1 := ⟨lw_in 288 (by decide +kernel) (by decide +kernel), lw_in 65 (by decide +kernel) (by decide +kernel), lw_in 291 (by decide +kernel) (by decide +kernel), by decide +kernel⟩
theorem kX2_findLeastClipping : Cond.instanceMethod yX2_findLeastClipping ∈ lw_ok ∧ Cond.selects yX2_findLeastClipping.cls yX2_findLeastClipping yX2_findLeastClipping ∈ lw_ok := ⟨lw_in 289 (by decide +kernel) (by decide +kernel), lw_in 290 (by decide +kernel) (by decide +kernel)⟩
theorem qX3_73 : zY RX3 73 yX3_isNestInTheWay mX3_isNestInTheWay 0 := ⟨lw_in 308 (by decide +kernel) (by decide +kernel), lw_in 63 (by decide +kernel) (by decide +kernel), lw_in 311 (by decide +kernel) (by decide +kernel), by decide +kernel⟩
theorem kX3_isNestInTheWay : Cond.instanceMethod yX3_isNestInTheWay ∈ lw_ok ∧ Cond.selects yX3_isNestInTheWay.cls yX3_isNestInTheWay yX3_isNestInTheWay ∈ lw_ok := ⟨lw_in 310 (by decide +kernel) (by decide +kernel), lw_in 6 (by decide +kernel) (by decide +kernel)⟩
theorem qX3_80 : zY RX3 80 yX1_passDay mX1_passDay 0 := ⟨lw_in 316 (by decide +kernel) (by decide +kernel), lw_in 64 (by decide +kernel) (by decide +kernel), lw_in 319 (by decide +kernel) (by decide +kernel), by decide +kernel⟩
theorem kX1_passDay : Cond.instanceMethod yX1_passDay ∈ lw_ok ∧ Cond.selects yX1_passDay.cls yX1_passDay yX1_passDay ∈ lw_ok := ⟨lw_in 317 (by decide +kernel) (by decide +kernel), lw_in 318 (by decide +kernel) (by decide +kernel)⟩
theorem qX3_83 : zY RX3 83 yX1_countBroken mX1_countBroken 2 := ⟨lw_in 327 (by decide +kernel) (by decide +kernel), lw_in 64 (by decide +kernel) (by decide +kernel), lw_in 330 (by decide +kernel) (by decide +kernel), by decide +kernel⟩
theorem kX1_countBroken : Cond.instanceMethod yX1_countBroken ∈ lw_ok ∧ Cond.selects yX1_countBroken.cls yX1_countBroken yX1_countBroken ∈ lw_ok := ⟨lw_in 328 (by decide +kernel) (by decide +kernel), lw_in 329 (by decide +kernel) (by decide +kernel)⟩
theorem qX3_87 : zY RX3 87 yX3_errorOfSigning mX3_errorOfSigning 3 := ⟨lw_in 347 (by decide +kernel) (by decide +kernel), lw_in 63 (by decide +kernel) (by decide +kernel), lw_in 350 (by decide +kernel) (by decide +kernel), by decide +kernel⟩
theorem kX3_errorOfSigning : Cond.instanceMethod yX3_errorOfSigning ∈ lw_ok ∧ Cond.selects yX3_errorOfSigning.cls yX3_errorOfSigning yX3_errorOfSigning ∈ lw_ok := ⟨lw_in 349 (by decide +kernel) (by decide +kernel), lw_in 7 (by decide +kernel) (by decide +kernel)⟩
theorem qX3_91 : zY RX3 91 yX3_signOne mX3_signOne 3 := ⟨lw_in 354 (by decide +kernel) (by decide +kernel), lw_in 63 (by decide +kernel) (by decide +kernel), lw_in 357 (by decide +kernel) (by decide +kernel), by decide +kernel⟩
theorem kX3_signOne : Cond.instanceMethod yX3_signOne ∈ lw_ok ∧ Cond.selects yX3_signOne.cls yX3_signOne yX3_signOne ∈ lw_ok := ⟨lw_in 356 (by decide +kernel) (by decide +kernel), lw_in 8 (by decide +kernel) (by decide +kernel)⟩
theorem qX3_94 : zY RX3 94 yX3_isTreaty mX3_isTreaty 1 := ⟨lw_in 383 (by decide +kernel) (by decide +kernel), lw_in 63 (by decide +kernel) (by decide +kernel), lw_in 386 (by decide +kernel) (by decide +kernel), by decide +kernel⟩
theorem kX3_isTreaty : Cond.instanceMethod yX3_isTreaty ∈ lw_ok ∧ Cond.selects yX3_isTreaty.cls yX3_isTreaty yX3_isTreaty ∈ lw_ok := ⟨lw_in 385 (by decide +kernel) (by decide +kernel), lw_in 11 (by decide +kernel) (by decide +kernel)⟩
theorem qX3_97 : zY RX3 97 yX1_removeTreaty mX1_removeTreaty 1 := ⟨lw_in 387 (by decide +kernel) (by decide +kernel), lw_in 64 (by decide +kernel) (by decide +kernel), lw_in 390 (by decide +kernel) (by decide +kernel), by decide +kernel⟩
theorem kX1_removeTreaty : Cond.instanceMethod yX1_removeTreaty ∈ lw_ok ∧ Cond.selects yX1_removeTreaty.cls yX1_removeTreaty yX1_removeTreaty ∈ lw_ok := ⟨lw_in 388 (by decide +kernel) (by decide +kernel), lw_in 389 (by decide +kernel) (by decide +kernel)⟩
theorem qX3_104 : zY RX3 104 yX1_isBroken mX1_isBroken 1 := ⟨lw_in 395 (by decide +kernel) (by decide +kernel), lw_in 64 (by decide +kernel) (by decide +kernel), lw_in 398 (by decide +kernel) (by decide +kernel), by decide +kernel⟩
theorem kX1_isBroken : Cond.instanceMethod yX1_isBroken ∈ lw_ok ∧ Cond.selects yX1_isBroken.cls yX1_isBroken yX1_isBroken ∈ lw_ok := ⟨lw_in 396 (by decide +kernel) (by decide +kernel), lw_in 397 (by decide +kernel) (by decide +kernel)⟩
theorem qX3_113 : zY RX3 113 yX1_isInForce mX1_isInForce 1 := ⟨lw_in 403 (by decide +kernel) (by decide +kernel), lw_in 64 (by decide +kernel) (by decide +kernel), lw_in 299 (by decide +kernel) (by decide +kernel), by decide +kernel⟩
theorem qX3_122 : zY RX3 122 yX0_read mX0_read 0 := ⟨lw_in 416 (by decide +kernel) (by decide +kernel), lw_in 66 (by decide +kernel) (by decide +kernel), lw_in 419 (by decide +kernel) (by decide +kernel), by decide +kernel⟩
theorem kX0_read : Cond.instanceMethod yX0_read ∈ lw_ok ∧ Cond.selects yX0_read.cls yX0_read yX0_read ∈ lw_ok := ⟨lw_in 417 (by decide +kernel) (by decide +kernel), lw_in 418 (by decide +kernel) (by decide +kernel)⟩
theorem qX3_132 : zY RX3 132 yX3_signPart mX3_signPart 1 := ⟨lw_in 451 (by decide +kernel) (by decide +kernel), lw_in 63 (by decide +kernel) (by decide +kernel), lw_in 454 (by decide +kernel) (by decide +kernel), by decide +kernel⟩
theorem kX3_signPart : Cond.instanceMethod yX3_signPart ∈ lw_ok ∧ Cond.selects yX3_signPart.cls yX3_signPart yX3_signPart ∈ lw_ok := ⟨lw_in 453 (by decide +kernel) (by decide +kernel), lw_in 18 (by decide +kernel) (by decide +kernel)⟩
theorem qX3_144 : zY RX3 144 yX1_countInForce mX1_countInForce 1 := ⟨lw_in 463 (by decide +kernel) (by decide +kernel), lw_in 64 (by decide +kernel) (by decide +kernel), lw_in 466 (by decide +kernel) (by decide +kernel), by decide +kernel⟩
theorem kX1_countInForce : Cond.instanceMethod yX1_countInForce ∈ lw_ok ∧ Cond.selects yX1_countInForce.cls yX1_countInForce yX1_countInForce ∈ lw_ok := ⟨lw_in 464 (by decide +kernel) (by decide +kernel), lw_in 465 (by decide +kernel) (by decide +kernel)⟩
theorem qX3_159 : zY RX3 159 yX1_slackAfter mX1_slackAfter 2 := ⟨lw_in 472 (by decide +kernel) (by decide +kernel), lw_in 64 (by decide +kernel) (by decide +kernel), lw_in 342 (by decide +kernel) (by decide +kernel), by decide +kernel⟩
theorem qX3_162 : zY RX3 162 yX3_isNothingNewBesideOthers mX3_isNothingNewBesideOthers 1 := ⟨lw_in 473 (by decide +kernel) (by decide +kernel), lw_in 63 (by decide +kernel) (by decide +kernel), lw_in 476 (by decide +kernel) (by decide +kernel), by decide +kernel⟩
theorem kX3_isNothingNewBesideOthers : Cond.instanceMethod yX3_isNothingNewBesideOthers ∈ lw_ok ∧ Cond.selects yX3_isNothingNewBesideOthers.cls yX3_isNothingNewBesideOthers yX3_isNothingNewBesideOthers ∈ lw_ok := ⟨lw_in 475 (by decide +kernel) (by decide +kernel), lw_in 19 (by decide +kernel) (by decide +kernel)⟩
theorem qX3_165 : zY RX3 165 yX2_boundByTreaties mX2_boundByTreaties 4 := ⟨lw_in 366 (by decide +kernel) (by decide +kernel), lw_in 65 (by decide +kernel) (by decide +kernel), lw_in 369 (by decide +kernel) (by decide +kernel), by decide +kernel⟩
theorem kX2_boundByTreaties : Cond.instanceMethod yX2_boundByTreaties ∈ lw_ok ∧ Cond.selects yX2_boundByTreaties.cls yX2_boundByTreaties yX2_boundByTreaties ∈ lw_ok := ⟨lw_in 367 (by decide +kernel) (by decide +kernel), lw_in 368 (by decide +kernel) (by decide +kernel)⟩
theorem qX3_169 : zY RX3 169 yX2_boundByPairs mX2_boundByPairs 3 := ⟨lw_in 481 (by decide +kernel) (by decide +kernel), lw_in 65 (by decide +kernel) (by decide +kernel), lw_in 484 (by decide +kernel) (by decide +kernel), by decide +kernel⟩
theorem kX2_boundByPairs : Cond.instanceMethod yX2_boundByPairs ∈ lw_ok ∧ Cond.selects yX2_boundByPairs.cls yX2_boundByPairs yX2_boundByPairs ∈ lw_ok := ⟨lw_in 482 (by decide +kernel) (by decide +kernel), lw_in 483 (by decide +kernel) (by decide +kernel)⟩
theorem qX3_174 : zY RX3 174 yX3_isAgreement mX3_isAgreement 3 := ⟨lw_in 351 (by decide +kernel) (by decide +kernel), lw_in 63 (by decide +kernel) (by decide +kernel), lw_in 353 (by decide +kernel) (by decide +kernel), by decide +kernel⟩
theorem kX3_isAgreement : Cond.static yX3_isAgreement ∈ lw_ok := lw_in 352 (by decide +kernel) (by decide +kernel)
theorem qX3_178 : zY RX3 178 yX3_reasonAgainst mX3_reasonAgainst 3 := ⟨lw_in 358 (by decide +kernel) (by decide +kernel), lw_in 63 (by decide +kernel) (by decide +kernel), lw_in 361 (by decide +kernel) (by decide +kernel), by decide +kernel⟩
theorem kX3_reasonAgainst : Cond.instanceMethod yX3_reasonAgainst ∈ lw_ok ∧ Cond.selects yX3_reasonAgainst.cls yX3_reasonAgainst yX3_reasonAgainst ∈ lw_ok := ⟨lw_in 360 (by decide +kernel) (by decide +kernel), lw_in 9 (by decide +kernel) (by decide +kernel)⟩
theorem qX3_181 : zY RX3 181 yX2_findLeastClippingByBounds mX2_findLeastClippingByBounds 1 := ⟨lw_in 507 (by decide +kernel) (by decide +kernel), lw_in 65 (by decide +kernel) (by decide +kernel), lw_in 510 (by decide +kernel) (by decide +kernel), by decide +kernel⟩
theorem kX2_findLeastClippingByBounds : Cond.instanceMethod yX2_findLeastClippingByBounds ∈ lw_ok ∧ Cond.selects yX2_findLeastClippingByBounds.cls yX2_findLeastClippingByBounds yX2_findLeastClippingByBounds ∈ lw_ok := ⟨lw_in 508 (by decide +kernel) (by decide +kernel), lw_in 509 (by decide +kernel) (by decide +kernel)⟩
theorem qX3_184 : zY RX3 184 yX3_sum mX3_sum 1 := ⟨lw_in 511 (by decide +kernel) (by decide +kernel), lw_in 63 (by decide +kernel) (by decide +kernel), lw_in 513 (by decide +kernel) (by decide +kernel), by decide +kernel⟩
theorem kX3_sum : Cond.static yX3_sum ∈ lw_ok := lw_in 512 (by decide +kernel) (by decide +kernel)
theorem qX3_188 : zY RX3 188 yX1_countNested mX1_countNested 0 := ⟨lw_in 518 (by decide +kernel) (by decide +kernel), lw_in 64 (by decide +kernel) (by decide +kernel), lw_in 521 (by decide +kernel) (by decide +kernel), by decide +kernel⟩
theorem kX1_countNested : Cond.instanceMethod yX1_countNested ∈ lw_ok ∧ Cond.selects yX1_countNested.cls yX1_countNested yX1_countNested ∈ lw_ok := ⟨lw_in 519 (by decide +kernel) (by decide +kernel), lw_in 520 (by decide +kernel) (by decide +kernel)⟩
theorem qX3_203 : zY RX3 203 yX1_heightsAfter mX1_heightsAfter 1 := ⟨lw_in 531 (by decide +kernel) (by decide +kernel), lw_in 64 (by decide +kernel) (by decide +kernel), lw_in 534 (by decide +kernel) (by decide +kernel), by decide +kernel⟩
theorem kX1_heightsAfter : Cond.instanceMethod yX1_heightsAfter ∈ lw_ok ∧ Cond.selects yX1_heightsAfter.cls yX1_heightsAfter yX1_heightsAfter ∈ lw_ok := ⟨lw_in 532 (by decide +kernel) (by decide +kernel), lw_in 533 (by decide +kernel) (by decide +kernel)⟩
theorem qX3_206 : zY RX3 206 yX2_isPossibleWith mX2_isPossibleWith 4 := ⟨lw_in 362 (by decide +kernel) (by decide +kernel), lw_in 65 (by decide +kernel) (by decide +kernel), lw_in 365 (by decide +kernel) (by decide +kernel), by decide +kernel⟩
theorem kX2_isPossibleWith : Cond.instanceMethod yX2_isPossibleWith ∈ lw_ok ∧ Cond.selects yX2_isPossibleWith.cls yX2_isPossibleWith yX2_isPossibleWith ∈ lw_ok := ⟨lw_in 363 (by decide +kernel) (by decide +kernel), lw_in 364 (by decide +kernel) (by decide +kernel)⟩
theorem qX3_210 : zY RX3 210 yX1_copyFrom mX1_copyFrom 1 := ⟨lw_in 256 (by decide +kernel) (by decide +kernel), lw_in 64 (by decide +kernel) (by decide +kernel), lw_in 259 (by decide +kernel) (by decide +kernel), by decide +kernel⟩
theorem kX1_copyFrom : Cond.instanceMethod yX1_copyFrom ∈ lw_ok ∧ Cond.selects yX1_copyFrom.cls yX1_copyFrom yX1_copyFrom ∈ lw_ok := ⟨lw_in 257 (by decide +kernel) (by decide +kernel), lw_in 258 (by decide +kernel) (by decide +kernel)⟩
theorem qX3_218 : zY RX3 218 yX3_dropOldestState mX3_dropOldestState 0 := ⟨lw_in 252 (by decide +kernel) (by decide +kernel), lw_in 63 (by decide +kernel) (by decide +kernel), lw_in 255 (by decide +kernel) (by decide +kernel), by decide +kernel⟩
theorem kX3_dropOldestState : Cond.instanceMethod yX3_dropOldestState ∈ lw_ok ∧ Cond.selects yX3_dropOldestState.cls yX3_dropOldestState yX3_dropOldestState ∈ lw_ok := ⟨lw_in 254 (by decide +kernel) (by decide +kernel), lw_in 1 (by decide +kernel) (by decide +kernel)⟩
theorem qX3_221 : zY RX3 221 yX1_addTreaty mX1_addTreaty 3 := ⟨lw_in 375 (by decide +kernel) (by decide +kernel), lw_in 64 (by decide +kernel) (by decide +kernel), lw_in 378 (by decide +kernel) (by decide +kernel), by decide +kernel⟩
theorem kX1_addTreaty : Cond.instanceMethod yX1_addTreaty ∈ lw_ok ∧ Cond.selects yX1_addTreaty.cls yX1_addTreaty yX1_addTreaty ∈ lw_ok := ⟨lw_in 376 (by decide +kernel) (by decide +kernel), lw_in 377 (by decide +kernel) (by decide +kernel)⟩
theorem qX4_34 : zY RX4 34 yX4_lays mX4_lays 3 := ⟨lw_in 561 (by decide +kernel) (by decide +kernel), lw_in 67 (by decide +kernel) (by decide +kernel), lw_in 564 (by decide +kernel) (by decide +kernel), by decide +kernel⟩
theorem kX4_lays : Cond.instanceMethod yX4_lays ∈ lw_ok ∧ Cond.selects yX4_lays.cls yX4_lays yX4_lays ∈ lw_ok := ⟨lw_in 563 (by decide +kernel) (by decide +kernel), lw_in 23 (by decide +kernel) (by decide +kernel)⟩
theorem qX4_42 : zY RX4 42 yX4_copies mX4_copies 4 := ⟨lw_in 631 (by decide +kernel) (by decide +kernel), lw_in 67 (by decide +kernel) (by decide +kernel), lw_in 633 (by decide +kernel) (by decide +kernel), by decide +kernel⟩
theorem kX4_copies : Cond.static yX4_copies ∈ lw_ok := lw_in 632 (by decide +kernel) (by decide +kernel)
theorem qX4_46 : zY RX4 46 yX4_in mX4_in 3 := ⟨lw_in 624 (by decide +kernel) (by decide +kernel), lw_in 67 (by decide +kernel) (by decide +kernel), lw_in 626 (by decide +kernel) (by decide +kernel), by decide +kernel⟩
theorem kX4_in : Cond.static yX4_in ∈ lw_ok := lw_in 625 (by decide +kernel) (by decide +kernel)
theorem qX4_50 : zY RX4 50 yX4_of mX4_of 2 := ⟨lw_in 634 (by decide +kernel) (by decide +kernel), lw_in 67 (by decide +kernel) (by decide +kernel), lw_in 637 (by decide +kernel) (by decide +kernel), by decide +kernel⟩
theorem kX4_of : Cond.instanceMethod yX4_of ∈ lw_ok ∧ Cond.selects yX4_of.cls yX4_of yX4_of ∈ lw_ok := ⟨lw_in 636 (by decide +kernel) (by decide +kernel), lw_in 25 (by decide +kernel) (by decide +kernel)⟩
theorem qX4_54 : zY RX4 54 yX4_ofTreaty mX4_ofTreaty 2 := ⟨lw_in 686 (by decide +kernel) (by decide +kernel), lw_in 67 (by decide +kernel) (by decide +kernel), lw_in 689 (by decide +kernel) (by decide +kernel), by decide +kernel⟩
theorem kX4_ofTreaty : Cond.instanceMethod yX4_ofTreaty ∈ lw_ok ∧ Cond.selects yX4_ofTreaty.cls yX4_ofTreaty yX4_ofTreaty ∈ lw_ok := ⟨lw_in 688 (by decide +kernel) (by decide +kernel), lw_in 34 (by decide +kernel) (by decide +kernel)⟩
theorem qX4_57 : zY RX4 57 yX4_isForce mX4_isForce 1 := ⟨lw_in 682 (by decide +kernel) (by decide +kernel), lw_in 67 (by decide +kernel) (by decide +kernel), lw_in 685 (by decide +kernel) (by decide +kernel), by decide +kernel⟩
theorem kX4_isForce : Cond.instanceMethod yX4_isForce ∈ lw_ok ∧ Cond.selects yX4_isForce.cls yX4_isForce yX4_isForce ∈ lw_ok := ⟨lw_in 684 (by decide +kernel) (by decide +kernel), lw_in 33 (by decide +kernel) (by decide +kernel)⟩
theorem qX4_61 : zY RX4 61 yX4_slackOf mX4_slackOf 1 := ⟨lw_in 710 (by decide +kernel) (by decide +kernel), lw_in 67 (by decide +kernel) (by decide +kernel), lw_in 713 (by decide +kernel) (by decide +kernel), by decide +kernel⟩
theorem kX4_slackOf : Cond.instanceMethod yX4_slackOf ∈ lw_ok ∧ Cond.selects yX4_slackOf.cls yX4_slackOf yX4_slackOf ∈ lw_ok := ⟨lw_in 712 (by decide +kernel) (by decide +kernel), lw_in 39 (by decide +kernel) (by decide +kernel)⟩
theorem qX4_65 : zY RX4 65 yX4_isBroken mX4_isBroken 1 := ⟨lw_in 706 (by decide +kernel) (by decide +kernel), lw_in 67 (by decide +kernel) (by decide +kernel), lw_in 709 (by decide +kernel) (by decide +kernel), by decide +kernel⟩
theorem kX4_isBroken : Cond.instanceMethod yX4_isBroken ∈ lw_ok ∧ Cond.selects yX4_isBroken.cls yX4_isBroken yX4_isBroken ∈ lw_ok := ⟨lw_in 708 (by decide +kernel) (by decide +kernel), lw_in 38 (by decide +kernel) (by decide +kernel)⟩
theorem qX4_68 : zY RX4 68 yX4_areTall mX4_areTall 0 := ⟨lw_in 678 (by decide +kernel) (by decide +kernel), lw_in 67 (by decide +kernel) (by decide +kernel), lw_in 681 (by decide +kernel) (by decide +kernel), by decide +kernel⟩
theorem kX4_areTall : Cond.instanceMethod yX4_areTall ∈ lw_ok ∧ Cond.selects yX4_areTall.cls yX4_areTall yX4_areTall ∈ lw_ok := ⟨lw_in 680 (by decide +kernel) (by decide +kernel), lw_in 32 (by decide +kernel) (by decide +kernel)⟩
theorem qX4_72 : zY RX4 72 yX4_lowers mX4_lowers 3 := ⟨lw_in 690 (by decide +kernel) (by decide +kernel), lw_in 67 (by decide +kernel) (by decide +kernel), lw_in 693 (by decide +kernel) (by decide +kernel), by decide +kernel⟩
theorem kX4_lowers : Cond.instanceMethod yX4_lowers ∈ lw_ok ∧ Cond.selects yX4_lowers.cls yX4_lowers yX4_lowers ∈ lw_ok := ⟨lw_in 692 (by decide +kernel) (by decide +kernel), lw_in 35 (by decide +kernel) (by decide +kernel)⟩
theorem qX4_75 : zY RX4 75 yX4_settles mX4_settles 1 := ⟨lw_in 674 (by decide +kernel) (by decide +kernel), lw_in 67 (by decide +kernel) (by decide +kernel), lw_in 677 (by decide +kernel) (by decide +kernel), by decide +kernel⟩
theorem kX4_settles : Cond.instanceMethod yX4_settles ∈ lw_ok ∧ Cond.selects yX4_settles.cls yX4_settles yX4_settles ∈ lw_ok := ⟨lw_in 676 (by decide +kernel) (by decide +kernel), lw_in 31 (by decide +kernel) (by decide +kernel)⟩
theorem qX4_80 : zY RX4 80 yX4_isPossible mX4_isPossible 3 := ⟨lw_in 733 (by decide +kernel) (by decide +kernel), lw_in 67 (by decide +kernel) (by decide +kernel), lw_in 736 (by decide +kernel) (by decide +kernel), by decide +kernel⟩
theorem kX4_isPossible : Cond.instanceMethod yX4_isPossible ∈ lw_ok ∧ Cond.selects yX4_isPossible.cls yX4_isPossible yX4_isPossible ∈ lw_ok := ⟨lw_in 735 (by decide +kernel) (by decide +kernel), lw_in 43 (by decide +kernel) (by decide +kernel)⟩
theorem qX4_83 : zY RX4 83 yX4_boundBut mX4_boundBut 3 := ⟨lw_in 737 (by decide +kernel) (by decide +kernel), lw_in 67 (by decide +kernel) (by decide +kernel), lw_in 740 (by decide +kernel) (by decide +kernel), by decide +kernel⟩
theorem kX4_boundBut : Cond.instanceMethod yX4_boundBut ∈ lw_ok ∧ Cond.selects yX4_boundBut.cls yX4_boundBut yX4_boundBut ∈ lw_ok := ⟨lw_in 739 (by decide +kernel) (by decide +kernel), lw_in 44 (by decide +kernel) (by decide +kernel)⟩
theorem qX4_87 : zY RX4 87 yX4_isHedge mX4_isHedge 1 := ⟨lw_in 621 (by decide +kernel) (by decide +kernel), lw_in 67 (by decide +kernel) (by decide +kernel), lw_in 623 (by decide +kernel) (by decide +kernel), by decide +kernel⟩
theorem kX4_isHedge : Cond.static yX4_isHedge ∈ lw_ok := lw_in 622 (by decide +kernel) (by decide +kernel)
theorem qX4_90 : zY RX4 90 yX4_isPair mX4_isPair 2 := ⟨lw_in 722 (by decide +kernel) (by decide +kernel), lw_in 67 (by decide +kernel) (by decide +kernel), lw_in 724 (by decide +kernel) (by decide +kernel), by decide +kernel⟩
theorem kX4_isPair : Cond.static yX4_isPair ∈ lw_ok := lw_in 723 (by decide +kernel) (by decide +kernel)
theorem qX4_94 : zY RX4 94 yX4_reasonToSign mX4_reasonToSign 3 := ⟨lw_in 729 (by decide +kernel) (by decide +kernel), lw_in 67 (by decide +kernel) (by decide +kernel), lw_in 732 (by decide +kernel) (by decide +kernel), by decide +kernel⟩
theorem kX4_reasonToSign : Cond.instanceMethod yX4_reasonToSign ∈ lw_ok ∧ Cond.selects yX4_reasonToSign.cls yX4_reasonToSign yX4_reasonToSign ∈ lw_ok := ⟨lw_in 731 (by decide +kernel) (by decide +kernel), lw_in 42 (by decide +kernel) (by decide +kernel)⟩
theorem qX4_97 : zY RX4 97 yX4_refuses mX4_refuses 1 := ⟨lw_in 654 (by decide +kernel) (by decide +kernel), lw_in 67 (by decide +kernel) (by decide +kernel), lw_in 657 (by decide +kernel) (by decide +kernel), by decide +kernel⟩
theorem kX4_refuses : Cond.instanceMethod yX4_refuses ∈ lw_ok ∧ Cond.selects yX4_refuses.cls yX4_refuses yX4_refuses ∈ lw_ok := ⟨lw_in 656 (by decide +kernel) (by decide +kernel), lw_in 27 (by decide +kernel) (by decide +kernel)⟩
theorem qX4_100 : zY RX4 100 yX4_laysTreaty mX4_laysTreaty 3 := ⟨lw_in 742 (by decide +kernel) (by decide +kernel), lw_in 67 (by decide +kernel) (by decide +kernel), lw_in 745 (by decide +kernel) (by decide +kernel), by decide +kernel⟩
theorem kX4_laysTreaty : Cond.instanceMethod yX4_laysTreaty ∈ lw_ok ∧ Cond.selects yX4_laysTreaty.cls yX4_laysTreaty yX4_laysTreaty ∈ lw_ok := ⟨lw_in 744 (by decide +kernel) (by decide +kernel), lw_in 45 (by decide +kernel) (by decide +kernel)⟩
theorem qX4_103 : zY RX4 103 yX4_hasLeast mX4_hasLeast 0 := ⟨lw_in 670 (by decide +kernel) (by decide +kernel), lw_in 67 (by decide +kernel) (by decide +kernel), lw_in 673 (by decide +kernel) (by decide +kernel), by decide +kernel⟩
theorem kX4_hasLeast : Cond.instanceMethod yX4_hasLeast ∈ lw_ok ∧ Cond.selects yX4_hasLeast.cls yX4_hasLeast yX4_hasLeast ∈ lw_ok := ⟨lw_in 672 (by decide +kernel) (by decide +kernel), lw_in 30 (by decide +kernel) (by decide +kernel)⟩
theorem qX4_106 : zY RX4 106 yX4_isNested mX4_isNested 1 := ⟨lw_in 650 (by decide +kernel) (by decide +kernel), lw_in 67 (by decide +kernel) (by decide +kernel), lw_in 653 (by decide +kernel) (by decide +kernel), by decide +kernel⟩
theorem kX4_isNested : Cond.instanceMethod yX4_isNested ∈ lw_ok ∧ Cond.selects yX4_isNested.cls yX4_isNested yX4_isNested ∈ lw_ok := ⟨lw_in 652 (by decide +kernel) (by decide +kernel), lw_in 26 (by decide +kernel) (by decide +kernel)⟩
theorem qX4_109 : zY RX4 109 yX4_clips mX4_clips 2 := ⟨lw_in 658 (by decide +kernel) (by decide +kernel), lw_in 67 (by decide +kernel) (by decide +kernel), lw_in 661 (by decide +kernel) (by decide +kernel), by decide +kernel⟩
theorem kX4_clips : Cond.instanceMethod yX4_clips ∈ lw_ok ∧ Cond.selects yX4_clips.cls yX4_clips yX4_clips ∈ lw_ok := ⟨lw_in 660 (by decide +kernel) (by decide +kernel), lw_in 28 (by decide +kernel) (by decide +kernel)⟩
theorem qX4_113 : zY RX4 113 yX4_records mX4_records 0 := ⟨lw_in 627 (by decide +kernel) (by decide +kernel), lw_in 67 (by decide +kernel) (by decide +kernel), lw_in 630 (by decide +kernel) (by decide +kernel), by decide +kernel⟩
theorem kX4_records : Cond.instanceMethod yX4_records ∈ lw_ok ∧ Cond.selects yX4_records.cls yX4_records yX4_records ∈ lw_ok := ⟨lw_in 629 (by decide +kernel) (by decide +kernel), lw_in 24 (by decide +kernel) (by decide +kernel)⟩
theorem qX4_116 : zY RX4 116 yX4_goPlan mX4_goPlan 0 := ⟨lw_in 666 (by decide +kernel) (by decide +kernel), lw_in 67 (by decide +kernel) (by decide +kernel), lw_in 669 (by decide +kernel) (by decide +kernel), by decide +kernel⟩
theorem kX4_goPlan : Cond.instanceMethod yX4_goPlan ∈ lw_ok ∧ Cond.selects yX4_goPlan.cls yX4_goPlan yX4_goPlan ∈ lw_ok := ⟨lw_in 668 (by decide +kernel) (by decide +kernel), lw_in 29 (by decide +kernel) (by decide +kernel)⟩
theorem qX4_120 : zY RX4 120 yX4_goDay mX4_goDay 0 := ⟨lw_in 698 (by decide +kernel) (by decide +kernel), lw_in 67 (by decide +kernel) (by decide +kernel), lw_in 701 (by decide +kernel) (by decide +kernel), by decide +kernel⟩
theorem kX4_goDay : Cond.instanceMethod yX4_goDay ∈ lw_ok ∧ Cond.selects yX4_goDay.cls yX4_goDay yX4_goDay ∈ lw_ok := ⟨lw_in 700 (by decide +kernel) (by decide +kernel), lw_in 36 (by decide +kernel) (by decide +kernel)⟩
theorem qX4_123 : zY RX4 123 yX4_brokenOnes mX4_brokenOnes 0 := ⟨lw_in 702 (by decide +kernel) (by decide +kernel), lw_in 67 (by decide +kernel) (by decide +kernel), lw_in 705 (by decide +kernel) (by decide +kernel), by decide +kernel⟩
theorem kX4_brokenOnes : Cond.instanceMethod yX4_brokenOnes ∈ lw_ok ∧ Cond.selects yX4_brokenOnes.cls yX4_brokenOnes yX4_brokenOnes ∈ lw_ok := ⟨lw_in 704 (by decide +kernel) (by decide +kernel), lw_in 37 (by decide +kernel) (by decide +kernel)⟩
theorem qX4_126 : zY RX4 126 yX4_errorOfSign mX4_errorOfSign 3 := ⟨lw_in 718 (by decide +kernel) (by decide +kernel), lw_in 67 (by decide +kernel) (by decide +kernel), lw_in 721 (by decide +kernel) (by decide +kernel), by decide +kernel⟩
theorem kX4_errorOfSign : Cond.instanceMethod yX4_errorOfSign ∈ lw_ok ∧ Cond.selects yX4_errorOfSign.cls yX4_errorOfSign yX4_errorOfSign ∈ lw_ok := ⟨lw_in 720 (by decide +kernel) (by decide +kernel), lw_in 40 (by decide +kernel) (by decide +kernel)⟩
theorem qX4_129 : zY RX4 129 yX4_goSign mX4_goSign 3 := ⟨lw_in 725 (by decide +kernel) (by decide +kernel), lw_in 67 (by decide +kernel) (by decide +kernel), lw_in 728 (by decide +kernel) (by decide +kernel), by decide +kernel⟩
theorem kX4_goSign : Cond.instanceMethod yX4_goSign ∈ lw_ok ∧ Cond.selects yX4_goSign.cls yX4_goSign yX4_goSign ∈ lw_ok := ⟨lw_in 727 (by decide +kernel) (by decide +kernel), lw_in 41 (by decide +kernel) (by decide +kernel)⟩
theorem qX4_132 : zY RX4 132 yX4_isTreaty mX4_isTreaty 1 := ⟨lw_in 750 (by decide +kernel) (by decide +kernel), lw_in 67 (by decide +kernel) (by decide +kernel), lw_in 753 (by decide +kernel) (by decide +kernel), by decide +kernel⟩
theorem kX4_isTreaty : Cond.instanceMethod yX4_isTreaty ∈ lw_ok ∧ Cond.selects yX4_isTreaty.cls yX4_isTreaty yX4_isTreaty ∈ lw_ok := ⟨lw_in 752 (by decide +kernel) (by decide +kernel), lw_in 46 (by decide +kernel) (by decide +kernel)⟩
theorem qX4_145 : zY RX4 145 yX4_here mX4_here 0 := ⟨lw_in 786 (by decide +kernel) (by decide +kernel), lw_in 67 (by decide +kernel) (by decide +kernel), lw_in 789 (by decide +kernel) (by decide +kernel), by decide +kernel⟩
theorem kX4_here : Cond.instanceMethod yX4_here ∈ lw_ok ∧ Cond.selects yX4_here.cls yX4_here yX4_here ∈ lw_ok := ⟨lw_in 788 (by decide +kernel) (by decide +kernel), lw_in 50 (by decide +kernel) (by decide +kernel)⟩
theorem qX4_148 : zY RX4 148 yX4_takes mX4_takes 1 := ⟨lw_in 790 (by decide +kernel) (by decide +kernel), lw_in 67 (by decide +kernel) (by decide +kernel), lw_in 793 (by decide +kernel) (by decide +kernel), by decide +kernel⟩
theorem kX4_takes : Cond.instanceMethod yX4_takes ∈ lw_ok ∧ Cond.selects yX4_takes.cls yX4_takes yX4_takes ∈ lw_ok := ⟨lw_in 792 (by decide +kernel) (by decide +kernel), lw_in 51 (by decide +kernel) (by decide +kernel)⟩
theorem qX4_152 : zY RX4 152 yX4_takesDigit mX4_takesDigit 2 := ⟨lw_in 782 (by decide +kernel) (by decide +kernel), lw_in 67 (by decide +kernel) (by decide +kernel), lw_in 785 (by decide +kernel) (by decide +kernel), by decide +kernel⟩
theorem kX4_takesDigit : Cond.instanceMethod yX4_takesDigit ∈ lw_ok ∧ Cond.selects yX4_takesDigit.cls yX4_takesDigit yX4_takesDigit ∈ lw_ok := ⟨lw_in 784 (by decide +kernel) (by decide +kernel), lw_in 49 (by decide +kernel) (by decide +kernel)⟩
theorem qX4_164 : zY RX4 164 yX4_takesNumber mX4_takesNumber 1 := ⟨lw_in 794 (by decide +kernel) (by decide +kernel), lw_in 67 (by decide +kernel) (by decide +kernel), lw_in 797 (by decide +kernel) (by decide +kernel), by decide +kernel⟩
theorem kX4_takesNumber : Cond.instanceMethod yX4_takesNumber ∈ lw_ok ∧ Cond.selects yX4_takesNumber.cls yX4_takesNumber yX4_takesNumber ∈ lw_ok := ⟨lw_in 796 (by decide +kernel) (by decide +kernel), lw_in 52 (by decide +kernel) (by decide +kernel)⟩
theorem qX4_167 : zY RX4 167 yX4_takesPart mX4_takesPart 0 := ⟨lw_in 778 (by decide +kernel) (by decide +kernel), lw_in 67 (by decide +kernel) (by decide +kernel), lw_in 781 (by decide +kernel) (by decide +kernel), by decide +kernel⟩
theorem kX4_takesPart : Cond.instanceMethod yX4_takesPart ∈ lw_ok ∧ Cond.selects yX4_takesPart.cls yX4_takesPart yX4_takesPart ∈ lw_ok := ⟨lw_in 780 (by decide +kernel) (by decide +kernel), lw_in 48 (by decide +kernel) (by decide +kernel)⟩
theorem qX4_170 : zY RX4 170 yX4_isText mX4_isText 0 := ⟨lw_in 774 (by decide +kernel) (by decide +kernel), lw_in 67 (by decide +kernel) (by decide +kernel), lw_in 777 (by decide +kernel) (by decide +kernel), by decide +kernel⟩
theorem kX4_isText : Cond.instanceMethod yX4_isText ∈ lw_ok ∧ Cond.selects yX4_isText.cls yX4_isText yX4_isText ∈ lw_ok := ⟨lw_in 776 (by decide +kernel) (by decide +kernel), lw_in 47 (by decide +kernel) (by decide +kernel)⟩
theorem qX4_176 : zY RX4 176 yX4_isAbout mX4_isAbout 2 := ⟨lw_in 814 (by decide +kernel) (by decide +kernel), lw_in 67 (by decide +kernel) (by decide +kernel), lw_in 817 (by decide +kernel) (by decide +kernel), by decide +kernel⟩
theorem kX4_isAbout : Cond.instanceMethod yX4_isAbout ∈ lw_ok ∧ Cond.selects yX4_isAbout.cls yX4_isAbout yX4_isAbout ∈ lw_ok := ⟨lw_in 816 (by decide +kernel) (by decide +kernel), lw_in 54 (by decide +kernel) (by decide +kernel)⟩
theorem qX4_179 : zY RX4 179 yX4_brokenAbout mX4_brokenAbout 1 := ⟨lw_in 810 (by decide +kernel) (by decide +kernel), lw_in 67 (by decide +kernel) (by decide +kernel), lw_in 813 (by decide +kernel) (by decide +kernel), by decide +kernel⟩
theorem kX4_brokenAbout : Cond.instanceMethod yX4_brokenAbout ∈ lw_ok ∧ Cond.selects yX4_brokenAbout.cls yX4_brokenAbout yX4_brokenAbout ∈ lw_ok := ⟨lw_in 812 (by decide +kernel) (by decide +kernel), lw_in 53 (by decide +kernel) (by decide +kernel)⟩
theorem qX4_182 : zY RX4 182 yX4_forceAbout mX4_forceAbout 1 := ⟨lw_in 818 (by decide +kernel) (by decide +kernel), lw_in 67 (by decide +kernel) (by decide +kernel), lw_in 821 (by decide +kernel) (by decide +kernel), by decide +kernel⟩
theorem kX4_forceAbout : Cond.instanceMethod yX4_forceAbout ∈ lw_ok ∧ Cond.selects yX4_forceAbout.cls yX4_forceAbout yX4_forceAbout ∈ lw_ok := ⟨lw_in 820 (by decide +kernel) (by decide +kernel), lw_in 55 (by decide +kernel) (by decide +kernel)⟩
theorem qX4_185 : zY RX4 185 yX4_saysNothing mX4_saysNothing 1 := ⟨lw_in 826 (by decide +kernel) (by decide +kernel), lw_in 67 (by decide +kernel) (by decide +kernel), lw_in 829 (by decide +kernel) (by decide +kernel), by decide +kernel⟩
theorem kX4_saysNothing : Cond.instanceMethod yX4_saysNothing ∈ lw_ok ∧ Cond.selects yX4_saysNothing.cls yX4_saysNothing yX4_saysNothing ∈ lw_ok := ⟨lw_in 828 (by decide +kernel) (by decide +kernel), lw_in 56 (by decide +kernel) (by decide +kernel)⟩
theorem qX4_188 : zY RX4 188 yX4_boundOf mX4_boundOf 2 := ⟨lw_in 834 (by decide +kernel) (by decide +kernel), lw_in 67 (by decide +kernel) (by decide +kernel), lw_in 837 (by decide +kernel) (by decide +kernel), by decide +kernel⟩
theorem kX4_boundOf : Cond.instanceMethod yX4_boundOf ∈ lw_ok ∧ Cond.selects yX4_boundOf.cls yX4_boundOf yX4_boundOf ∈ lw_ok := ⟨lw_in 836 (by decide +kernel) (by decide +kernel), lw_in 57 (by decide +kernel) (by decide +kernel)⟩
theorem qX4_191 : zY RX4 191 yX4_clippingNow mX4_clippingNow 0 := ⟨lw_in 846 (by decide +kernel) (by decide +kernel), lw_in 67 (by decide +kernel) (by decide +kernel), lw_in 849 (by decide +kernel) (by decide +kernel), by decide +kernel⟩
theorem kX4_clippingNow : Cond.instanceMethod yX4_clippingNow ∈ lw_ok ∧ Cond.selects yX4_clippingNow.cls yX4_clippingNow yX4_clippingNow ∈ lw_ok := ⟨lw_in 848 (by decide +kernel) (by decide +kernel), lw_in 58 (by decide +kernel) (by decide +kernel)⟩
theorem qX4_194 : zY RX4 194 yX4_inForce mX4_inForce 0 := ⟨lw_in 854 (by decide +kernel) (by decide +kernel), lw_in 67 (by decide +kernel) (by decide +kernel), lw_in 857 (by decide +kernel) (by decide +kernel), by decide +kernel⟩
theorem kX4_inForce : Cond.instanceMethod yX4_inForce ∈ lw_ok ∧ Cond.selects yX4_inForce.cls yX4_inForce yX4_inForce ∈ lw_ok := ⟨lw_in 856 (by decide +kernel) (by decide +kernel), lw_in 59 (by decide +kernel) (by decide +kernel)⟩
theorem qX4_197 : zY RX4 197 yX4_allHeights mX4_allHeights 0 := ⟨lw_in 858 (by decide +kernel) (by decide +kernel), lw_in 67 (by decide +kernel) (by decide +kernel), lw_in 861 (by decide +kernel) (by decide +kernel), by decide +kernel⟩
theorem kX4_allHeights : Cond.instanceMethod yX4_allHeights ∈ lw_ok ∧ Cond.selects yX4_allHeights.cls yX4_allHeights yX4_allHeights ∈ lw_ok := ⟨lw_in 860 (by decide +kernel) (by decide +kernel), lw_in 60 (by decide +kernel) (by decide +kernel)⟩
theorem qX4_200 : zY RX4 200 yX4_nested mX4_nested 0 := ⟨lw_in 862 (by decide +kernel) (by decide +kernel), lw_in 67 (by decide +kernel) (by decide +kernel), lw_in 865 (by decide +kernel) (by decide +kernel), by decide +kernel⟩
theorem kX4_nested : Cond.instanceMethod yX4_nested ∈ lw_ok ∧ Cond.selects yX4_nested.cls yX4_nested yX4_nested ∈ lw_ok := ⟨lw_in 864 (by decide +kernel) (by decide +kernel), lw_in 61 (by decide +kernel) (by decide +kernel)⟩
theorem qX0_3 : Cond.methodLink RX0 3 objectInit ∈ lw_ok ∧ Cond.instanceMethod objectInit ∈ lw_ok ∧ Cond.code objectInit ⟨#[0xb1]⟩ 1 none ∈ lw_ok := ⟨lw_in 171 (by decide +kernel) (by decide +kernel), lw_in 75 (by decide +kernel) (by decide +kernel), lw_in 76 (by decide +kernel) (by decide +kernel)⟩
theorem qX1_3 : Cond.methodLink RX1 3 objectInit ∈ lw_ok ∧ Cond.instanceMethod objectInit ∈ lw_ok ∧ Cond.code objectInit ⟨#[0xb1]⟩ 1 none ∈ lw_ok := ⟨lw_in 82 (by decide +kernel) (by decide +kernel), lw_in 75 (by decide +kernel) (by decide +kernel), lw_in 76 (by decide +kernel) (by decide +kernel)⟩
theorem qX1_59 : Cond.methodLink RX1 59 Lib.Math.min.name ∈ lw_ok := lw_in 324 (by decide +kernel) (by decide +kernel)
theorem qX2_3 : Cond.methodLink RX2 3 objectInit ∈ lw_ok ∧ Cond.instanceMethod objectInit ∈ lw_ok ∧ Cond.code objectInit ⟨#[0xb1]⟩ 1 none ∈ lw_ok := ⟨lw_in 152 (by decide +kernel) (by decide +kernel), lw_in 75 (by decide +kernel) (by decide +kernel), lw_in 76 (by decide +kernel) (by decide +kernel)⟩
theorem qX2_58 : Cond.methodLink RX2 58 Lib.Math.min.name ∈ lw_ok := lw_in 493 (by decide +kernel) (by decide +kernel)
theorem qX3_1 : Cond.methodLink RX3 1 objectInit ∈ lw_ok ∧ Cond.instanceMethod objectInit ∈ lw_ok ∧ Cond.code objectInit ⟨#[0xb1]⟩ 1 none ∈ lw_ok := ⟨lw_in 74 (by decide +kernel) (by decide +kernel), lw_in 75 (by decide +kernel) (by decide +kernel), lw_in 76 (by decide +kernel) (by decide +kernel)⟩
theorem qX4_1 : Cond.methodLink RX4 1 objectInit ∈ lw_ok ∧ Cond.instanceMethod objectInit ∈ lw_ok ∧ Cond.code objectInit ⟨#[0xb1]⟩ 1 none ∈ lw_ok := ⟨lw_in 560 (by decide +kernel) (by decide +kernel), lw_in 75 (by decide +kernel) (by decide +kernel), lw_in 76 (by decide +kernel) (by decide +kernel)⟩
theorem kmin : Cond.static Lib.Math.min.name ∈ lw_ok ∧ Cond.initialized "java/lang/Math" ∈ lw_ok ∧ Cond.code Lib.Math.min.name Lib.Math.min.code 2 (some .int) ∈ lw_ok := ⟨lw_in 325 (by decide +kernel) (by decide +kernel), lw_in 68 (by decide +kernel) (by decide +kernel), lw_in 326 (by decide +kernel) (by decide +kernel)⟩
theorem kX2_23 : Cond.constant RX2 23 1000000 ∈ lw_ok := lw_in 370 (by decide +kernel) (by decide +kernel)
theorem kX3_173 : Cond.constant RX3 173 1000000 ∈ lw_ok := lw_in 498 (by decide +kernel) (by decide +kernel)
theorem kX4_79 : Cond.constant RX4 79 100000 ∈ lw_ok := lw_in 741 (by decide +kernel) (by decide +kernel)
theorem karr : Cond.arrayClass .int ∈ lw_ok := lw_in 145 (by decide +kernel) (by decide +kernel)
theorem kcL_7 : Cond.classLink RL 7 RX3 ∈ lw_ok := lw_in 69 (by decide +kernel) (by decide +kernel)
theorem kcX3_7 : Cond.classLink RX3 7 RX1 ∈ lw_ok := lw_in 77 (by decide +kernel) (by decide +kernel)
theorem kcX3_23 : Cond.classLink RX3 23 RX2 ∈ lw_ok := lw_in 147 (by decide +kernel) (by decide +kernel)
theorem kcX2_18 : Cond.classLink RX2 18 "[[I" ∈ lw_ok := lw_in 153 (by decide +kernel) (by decide +kernel)
theorem kcX3_30 : Cond.classLink RX3 30 RX0 ∈ lw_ok := lw_in 166 (by decide +kernel) (by decide +kernel)
theorem kcL_10 : Cond.classLink RL 10 RX4 ∈ lw_ok := lw_in 555 (by decide +kernel) (by decide +kernel)
theorem kn_0 : Cond.instantiable RX0 10 ∈ lw_ok ∧ Cond.initialized RX0 ∈ lw_ok := ⟨lw_in 167 (by decide +kernel) (by decide +kernel), lw_in 66 (by decide +kernel) (by decide +kernel)⟩
theorem kn_1 : Cond.instantiable RX1 14 ∈ lw_ok ∧ Cond.initialized RX1 ∈ lw_ok := ⟨lw_in 78 (by decide +kernel) (by decide +kernel), lw_in 64 (by decide +kernel) (by decide +kernel)⟩
theorem kn_2 : Cond.instantiable RX2 3 ∈ lw_ok ∧ Cond.initialized RX2 ∈ lw_ok := ⟨lw_in 148 (by decide +kernel) (by decide +kernel), lw_in 65 (by decide +kernel) (by decide +kernel)⟩
theorem kn_3 : Cond.instantiable RX3 10 ∈ lw_ok ∧ Cond.initialized RX3 ∈ lw_ok := ⟨lw_in 70 (by decide +kernel) (by decide +kernel), lw_in 63 (by decide +kernel) (by decide +kernel)⟩
theorem kn_4 : Cond.instantiable RX4 17 ∈ lw_ok ∧ Cond.initialized RX4 ∈ lw_ok := ⟨lw_in 556 (by decide +kernel) (by decide +kernel), lw_in 67 (by decide +kernel) (by decide +kernel)⟩
