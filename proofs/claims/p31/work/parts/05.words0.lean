theorem lw_ins {ws : List Cond} (ps : List Nat) (hp : ws = ps.filterMap (fun i => lw_tbl[i]?)) (h : ws.all goodWord = true) : ∀ w ∈ ws, w ∈ lw_ok := by
  intro w hw
  have hg := List.all_eq_true.mp h w hw
  rw [hp] at hw
  obtain ⟨i, -, hi⟩ := List.mem_filterMap.mp hw
  exact List.mem_filter.mpr ⟨List.mem_of_getElem? hi, hg⟩
theorem inK_0 : ∀ w ∈ u_ws RX0 TX0 10, w ∈ lw_ok := lw_ins [149, 151, 153, 155, 157, 159, 161, 163, 165, 167] (by decide +kernel) (by decide +kernel)
theorem inK_1 : ∀ w ∈ u_ws RX1 TX1 14, w ∈ lw_ok := lw_ins [76, 78, 80, 82, 84, 86, 88, 90, 92, 94, 96, 98, 100, 102] (by decide +kernel) (by decide +kernel)
theorem inK_2 : ∀ w ∈ u_ws RX2 TX2 3, w ∈ lw_ok := lw_ins [119, 121, 123] (by decide +kernel) (by decide +kernel)
theorem inK_3 : ∀ w ∈ u_ws RX3 TX3 10, w ∈ lw_ok := lw_ins [180, 182, 184, 186, 188, 190, 192, 194, 196, 198] (by decide +kernel) (by decide +kernel)
theorem fX1_9 : zF RX1 9 1 0 := ⟨RX1, TX1, 14, tyX1, rfl, by decide, lw_in 43 (by decide +kernel) (by decide +kernel), inK_1, tyX1_ok, nmX1⟩
theorem fX3_44 : zF RX3 44 1 0 := ⟨RX1, TX1, 14, tyX1, rfl, by decide, lw_in 44 (by decide +kernel) (by decide +kernel), inK_1, tyX1_ok, nmX1⟩
theorem fX2_64 : zF RX2 64 1 0 := ⟨RX1, TX1, 14, tyX1, rfl, by decide, lw_in 45 (by decide +kernel) (by decide +kernel), inK_1, tyX1_ok, nmX1⟩
theorem fX1_15 : zF RX1 15 1 1 := ⟨RX1, TX1, 14, tyX1, rfl, by decide, lw_in 46 (by decide +kernel) (by decide +kernel), inK_1, tyX1_ok, nmX1⟩
theorem fX3_48 : zF RX3 48 1 1 := ⟨RX1, TX1, 14, tyX1, rfl, by decide, lw_in 47 (by decide +kernel) (by decide +kernel), inK_1, tyX1_ok, nmX1⟩
theorem fX1_18 : zF RX1 18 1 2 := ⟨RX1, TX1, 14, tyX1, rfl, by decide, lw_in 48 (by decide +kernel) (by decide +kernel), inK_1, tyX1_ok, nmX1⟩
theorem fX3_51 : zF RX3 51 1 2 := ⟨RX1, TX1, 14, tyX1, rfl, by decide, lw_in 49 (by decide +kernel) (by decide +kernel), inK_1, tyX1_ok, nmX1⟩
theorem fX1_21 : zF RX1 21 1 3 := ⟨RX1, TX1, 14, tyX1, rfl, by decide, lw_in 50 (by decide +kernel) (by decide +kernel), inK_1, tyX1_ok, nmX1⟩
theorem fX3_147 : zF RX3 147 1 3 := ⟨RX1, TX1, 14, tyX1, rfl, by decide, lw_in 51 (by decide +kernel) (by decide +kernel), inK_1, tyX1_ok, nmX1⟩
theorem fX1_24 : zF RX1 24 1 4 := ⟨RX1, TX1, 14, tyX1, rfl, by decide, lw_in 52 (by decide +kernel) (by decide +kernel), inK_1, tyX1_ok, nmX1⟩
theorem fX2_34 : zF RX2 34 1 4 := ⟨RX1, TX1, 14, tyX1, rfl, by decide, lw_in 53 (by decide +kernel) (by decide +kernel), inK_1, tyX1_ok, nmX1⟩
theorem fX3_150 : zF RX3 150 1 4 := ⟨RX1, TX1, 14, tyX1, rfl, by decide, lw_in 54 (by decide +kernel) (by decide +kernel), inK_1, tyX1_ok, nmX1⟩
theorem fX1_27 : zF RX1 27 1 5 := ⟨RX1, TX1, 14, tyX1, rfl, by decide, lw_in 55 (by decide +kernel) (by decide +kernel), inK_1, tyX1_ok, nmX1⟩
theorem fX2_41 : zF RX2 41 1 5 := ⟨RX1, TX1, 14, tyX1, rfl, by decide, lw_in 56 (by decide +kernel) (by decide +kernel), inK_1, tyX1_ok, nmX1⟩
theorem fX3_153 : zF RX3 153 1 5 := ⟨RX1, TX1, 14, tyX1, rfl, by decide, lw_in 57 (by decide +kernel) (by decide +kernel), inK_1, tyX1_ok, nmX1⟩
theorem fX1_30 : zF RX1 30 1 6 := ⟨RX1, TX1, 14, tyX1, rfl, by decide, lw_in 58 (by decide +kernel) (by decide +kernel), inK_1, tyX1_ok, nmX1⟩
theorem fX2_44 : zF RX2 44 1 6 := ⟨RX1, TX1, 14, tyX1, rfl, by decide, lw_in 59 (by decide +kernel) (by decide +kernel), inK_1, tyX1_ok, nmX1⟩
theorem fX3_156 : zF RX3 156 1 6 := ⟨RX1, TX1, 14, tyX1, rfl, by decide, lw_in 60 (by decide +kernel) (by decide +kernel), inK_1, tyX1_ok, nmX1⟩
theorem fX1_33 : zF RX1 33 1 7 := ⟨RX1, TX1, 14, tyX1, rfl, by decide, lw_in 61 (by decide +kernel) (by decide +kernel), inK_1, tyX1_ok, nmX1⟩
theorem fX3_110 : zF RX3 110 1 7 := ⟨RX1, TX1, 14, tyX1, rfl, by decide, lw_in 62 (by decide +kernel) (by decide +kernel), inK_1, tyX1_ok, nmX1⟩
theorem fX1_40 : zF RX1 40 1 8 := ⟨RX1, TX1, 14, tyX1, rfl, by decide, lw_in 63 (by decide +kernel) (by decide +kernel), inK_1, tyX1_ok, nmX1⟩
theorem fX2_28 : zF RX2 28 1 8 := ⟨RX1, TX1, 14, tyX1, rfl, by decide, lw_in 64 (by decide +kernel) (by decide +kernel), inK_1, tyX1_ok, nmX1⟩
theorem fX3_101 : zF RX3 101 1 8 := ⟨RX1, TX1, 14, tyX1, rfl, by decide, lw_in 65 (by decide +kernel) (by decide +kernel), inK_1, tyX1_ok, nmX1⟩
theorem fX1_43 : zF RX1 43 1 9 := ⟨RX1, TX1, 14, tyX1, rfl, by decide, lw_in 66 (by decide +kernel) (by decide +kernel), inK_1, tyX1_ok, nmX1⟩
theorem fX3_54 : zF RX3 54 1 9 := ⟨RX1, TX1, 14, tyX1, rfl, by decide, lw_in 67 (by decide +kernel) (by decide +kernel), inK_1, tyX1_ok, nmX1⟩
theorem fX1_36 : zF RX1 36 1 10 := ⟨RX1, TX1, 14, tyX1, rfl, by decide, lw_in 68 (by decide +kernel) (by decide +kernel), inK_1, tyX1_ok, nmX1⟩
theorem fX3_107 : zF RX3 107 1 10 := ⟨RX1, TX1, 14, tyX1, rfl, by decide, lw_in 69 (by decide +kernel) (by decide +kernel), inK_1, tyX1_ok, nmX1⟩
theorem fX1_46 : zF RX1 46 1 11 := ⟨RX1, TX1, 14, tyX1, rfl, by decide, lw_in 70 (by decide +kernel) (by decide +kernel), inK_1, tyX1_ok, nmX1⟩
theorem fX3_191 : zF RX3 191 1 11 := ⟨RX1, TX1, 14, tyX1, rfl, by decide, lw_in 71 (by decide +kernel) (by decide +kernel), inK_1, tyX1_ok, nmX1⟩
theorem fX1_49 : zF RX1 49 1 12 := ⟨RX1, TX1, 14, tyX1, rfl, by decide, lw_in 72 (by decide +kernel) (by decide +kernel), inK_1, tyX1_ok, nmX1⟩
theorem fX3_194 : zF RX3 194 1 12 := ⟨RX1, TX1, 14, tyX1, rfl, by decide, lw_in 73 (by decide +kernel) (by decide +kernel), inK_1, tyX1_ok, nmX1⟩
theorem fX1_52 : zF RX1 52 1 13 := ⟨RX1, TX1, 14, tyX1, rfl, by decide, lw_in 74 (by decide +kernel) (by decide +kernel), inK_1, tyX1_ok, nmX1⟩
theorem fX3_197 : zF RX3 197 1 13 := ⟨RX1, TX1, 14, tyX1, rfl, by decide, lw_in 75 (by decide +kernel) (by decide +kernel), inK_1, tyX1_ok, nmX1⟩
theorem fX2_9 : zF RX2 9 2 0 := ⟨RX2, TX2, 3, tyX2, rfl, by decide, lw_in 115 (by decide +kernel) (by decide +kernel), inK_2, tyX2_ok, nmX2⟩
theorem fX3_77 : zF RX3 77 2 0 := ⟨RX2, TX2, 3, tyX2, rfl, by decide, lw_in 116 (by decide +kernel) (by decide +kernel), inK_2, tyX2_ok, nmX2⟩
theorem fX2_15 : zF RX2 15 2 1 := ⟨RX2, TX2, 3, tyX2, rfl, by decide, lw_in 117 (by decide +kernel) (by decide +kernel), inK_2, tyX2_ok, nmX2⟩
theorem fX2_20 : zF RX2 20 2 2 := ⟨RX2, TX2, 3, tyX2, rfl, by decide, lw_in 118 (by decide +kernel) (by decide +kernel), inK_2, tyX2_ok, nmX2⟩
theorem fX0_9 : zF RX0 9 0 0 := ⟨RX0, TX0, 10, tyX0, rfl, by decide, lw_in 132 (by decide +kernel) (by decide +kernel), inK_0, tyX0_ok, nmX0⟩
theorem fX3_119 : zF RX3 119 0 0 := ⟨RX0, TX0, 10, tyX0, rfl, by decide, lw_in 133 (by decide +kernel) (by decide +kernel), inK_0, tyX0_ok, nmX0⟩
theorem fX0_31 : zF RX0 31 0 1 := ⟨RX0, TX0, 10, tyX0, rfl, by decide, lw_in 134 (by decide +kernel) (by decide +kernel), inK_0, tyX0_ok, nmX0⟩
theorem fX3_116 : zF RX3 116 0 1 := ⟨RX0, TX0, 10, tyX0, rfl, by decide, lw_in 135 (by decide +kernel) (by decide +kernel), inK_0, tyX0_ok, nmX0⟩
theorem fX0_15 : zF RX0 15 0 2 := ⟨RX0, TX0, 10, tyX0, rfl, by decide, lw_in 136 (by decide +kernel) (by decide +kernel), inK_0, tyX0_ok, nmX0⟩
theorem fX3_138 : zF RX3 138 0 2 := ⟨RX0, TX0, 10, tyX0, rfl, by decide, lw_in 137 (by decide +kernel) (by decide +kernel), inK_0, tyX0_ok, nmX0⟩
theorem fX0_18 : zF RX0 18 0 3 := ⟨RX0, TX0, 10, tyX0, rfl, by decide, lw_in 138 (by decide +kernel) (by decide +kernel), inK_0, tyX0_ok, nmX0⟩
theorem fX3_225 : zF RX3 225 0 3 := ⟨RX0, TX0, 10, tyX0, rfl, by decide, lw_in 139 (by decide +kernel) (by decide +kernel), inK_0, tyX0_ok, nmX0⟩
theorem fX0_21 : zF RX0 21 0 4 := ⟨RX0, TX0, 10, tyX0, rfl, by decide, lw_in 140 (by decide +kernel) (by decide +kernel), inK_0, tyX0_ok, nmX0⟩
theorem fX3_226 : zF RX3 226 0 4 := ⟨RX0, TX0, 10, tyX0, rfl, by decide, lw_in 141 (by decide +kernel) (by decide +kernel), inK_0, tyX0_ok, nmX0⟩
theorem fX0_24 : zF RX0 24 0 5 := ⟨RX0, TX0, 10, tyX0, rfl, by decide, lw_in 142 (by decide +kernel) (by decide +kernel), inK_0, tyX0_ok, nmX0⟩
theorem fX3_227 : zF RX3 227 0 5 := ⟨RX0, TX0, 10, tyX0, rfl, by decide, lw_in 143 (by decide +kernel) (by decide +kernel), inK_0, tyX0_ok, nmX0⟩
theorem fX0_27 : zF RX0 27 0 6 := ⟨RX0, TX0, 10, tyX0, rfl, by decide, lw_in 144 (by decide +kernel) (by decide +kernel), inK_0, tyX0_ok, nmX0⟩
theorem fX3_129 : zF RX3 129 0 6 := ⟨RX0, TX0, 10, tyX0, rfl, by decide, lw_in 145 (by decide +kernel) (by decide +kernel), inK_0, tyX0_ok, nmX0⟩
theorem fX0_58 : zF RX0 58 0 7 := ⟨RX0, TX0, 10, tyX0, rfl, by decide, lw_in 146 (by decide +kernel) (by decide +kernel), inK_0, tyX0_ok, nmX0⟩
theorem fX0_61 : zF RX0 61 0 8 := ⟨RX0, TX0, 10, tyX0, rfl, by decide, lw_in 147 (by decide +kernel) (by decide +kernel), inK_0, tyX0_ok, nmX0⟩
theorem fX0_64 : zF RX0 64 0 9 := ⟨RX0, TX0, 10, tyX0, rfl, by decide, lw_in 148 (by decide +kernel) (by decide +kernel), inK_0, tyX0_ok, nmX0⟩
theorem fX3_10 : zF RX3 10 3 0 := ⟨RX3, TX3, 10, tyX3, rfl, by decide, lw_in 170 (by decide +kernel) (by decide +kernel), inK_3, tyX3_ok, nmX3⟩
theorem fX3_16 : zF RX3 16 3 1 := ⟨RX3, TX3, 10, tyX3, rfl, by decide, lw_in 171 (by decide +kernel) (by decide +kernel), inK_3, tyX3_ok, nmX3⟩
theorem fX3_19 : zF RX3 19 3 2 := ⟨RX3, TX3, 10, tyX3, rfl, by decide, lw_in 172 (by decide +kernel) (by decide +kernel), inK_3, tyX3_ok, nmX3⟩
theorem fX3_26 : zF RX3 26 3 3 := ⟨RX3, TX3, 10, tyX3, rfl, by decide, lw_in 173 (by decide +kernel) (by decide +kernel), inK_3, tyX3_ok, nmX3⟩
theorem fX3_33 : zF RX3 33 3 4 := ⟨RX3, TX3, 10, tyX3, rfl, by decide, lw_in 174 (by decide +kernel) (by decide +kernel), inK_3, tyX3_ok, nmX3⟩
theorem fX3_200 : zF RX3 200 3 5 := ⟨RX3, TX3, 10, tyX3, rfl, by decide, lw_in 175 (by decide +kernel) (by decide +kernel), inK_3, tyX3_ok, nmX3⟩
theorem fX3_214 : zF RX3 214 3 6 := ⟨RX3, TX3, 10, tyX3, rfl, by decide, lw_in 176 (by decide +kernel) (by decide +kernel), inK_3, tyX3_ok, nmX3⟩
theorem fX3_126 : zF RX3 126 3 7 := ⟨RX3, TX3, 10, tyX3, rfl, by decide, lw_in 177 (by decide +kernel) (by decide +kernel), inK_3, tyX3_ok, nmX3⟩
theorem fX3_135 : zF RX3 135 3 8 := ⟨RX3, TX3, 10, tyX3, rfl, by decide, lw_in 178 (by decide +kernel) (by decide +kernel), inK_3, tyX3_ok, nmX3⟩
theorem fX3_141 : zF RX3 141 3 9 := ⟨RX3, TX3, 10, tyX3, rfl, by decide, lw_in 179 (by decide +kernel) (by decide +kernel), inK_3, tyX3_ok, nmX3⟩
theorem fr_0_0 : zFt 0 0 (fun f => f.1 = RX0 ∧ f.2.2.2 = true ∧ parseFieldDescriptor f.2.2.1 = some (.array .int)) := by
  intro r hr
  cases hr
  exact ⟨rfl, rfl, by decide +kernel⟩
theorem ft_0_1 : zFt 0 1 (fun f => f.2.2.2 = false ∧ parseFieldDescriptor f.2.2.1 = some .int) := by
  intro r hr
  cases hr
  exact ⟨rfl, by decide +kernel⟩
theorem fr_0_2 : zFt 0 2 (fun f => f.1 = RX0 ∧ f.2.2.2 = true ∧ parseFieldDescriptor f.2.2.1 = some (.array .int)) := by
  intro r hr
  cases hr
  exact ⟨rfl, rfl, by decide +kernel⟩
theorem fr_0_3 : zFt 0 3 (fun f => f.1 = RX0 ∧ f.2.2.2 = true ∧ parseFieldDescriptor f.2.2.1 = some (.array .int)) := by
  intro r hr
  cases hr
  exact ⟨rfl, rfl, by decide +kernel⟩
theorem fr_0_4 : zFt 0 4 (fun f => f.1 = RX0 ∧ f.2.2.2 = true ∧ parseFieldDescriptor f.2.2.1 = some (.array .int)) := by
  intro r hr
  cases hr
  exact ⟨rfl, rfl, by decide +kernel⟩
theorem fr_0_5 : zFt 0 5 (fun f => f.1 = RX0 ∧ f.2.2.2 = true ∧ parseFieldDescriptor f.2.2.1 = some (.array .int)) := by
  intro r hr
  cases hr
  exact ⟨rfl, rfl, by decide +kernel⟩
theorem ft_0_6 : zFt 0 6 (fun f => f.2.2.2 = false ∧ parseFieldDescriptor f.2.2.1 = some .int) := by
  intro r hr
  cases hr
  exact ⟨rfl, by decide +kernel⟩
theorem ft_0_7 : zFt 0 7 (fun f => f.2.2.2 = false ∧ parseFieldDescriptor f.2.2.1 = some .int) := by
  intro r hr
  cases hr
  exact ⟨rfl, by decide +kernel⟩
theorem ft_0_8 : zFt 0 8 (fun f => f.2.2.2 = false ∧ parseFieldDescriptor f.2.2.1 = some .int) := by
  intro r hr
  cases hr
  exact ⟨rfl, by decide +kernel⟩
theorem ft_0_9 : zFt 0 9 (fun f => f.2.2.2 = false ∧ parseFieldDescriptor f.2.2.1 = some .int) := by
  intro r hr
  cases hr
  exact ⟨rfl, by decide +kernel⟩
theorem fr_1_0 : zFt 1 0 (fun f => f.1 = RX1 ∧ f.2.2.2 = true ∧ parseFieldDescriptor f.2.2.1 = some (.array .int)) := by
  intro r hr
  cases hr
  exact ⟨rfl, rfl, by decide +kernel⟩
theorem fr_1_1 : zFt 1 1 (fun f => f.1 = RX1 ∧ f.2.2.2 = true ∧ parseFieldDescriptor f.2.2.1 = some (.array .int)) := by
  intro r hr
  cases hr
  exact ⟨rfl, rfl, by decide +kernel⟩
theorem fr_1_2 : zFt 1 2 (fun f => f.1 = RX1 ∧ f.2.2.2 = true ∧ parseFieldDescriptor f.2.2.1 = some (.array .int)) := by
  intro r hr
  cases hr
  exact ⟨rfl, rfl, by decide +kernel⟩
theorem fr_1_3 : zFt 1 3 (fun f => f.1 = RX1 ∧ f.2.2.2 = true ∧ parseFieldDescriptor f.2.2.1 = some (.array .int)) := by
  intro r hr
  cases hr
  exact ⟨rfl, rfl, by decide +kernel⟩
theorem fr_1_4 : zFt 1 4 (fun f => f.1 = RX1 ∧ f.2.2.2 = true ∧ parseFieldDescriptor f.2.2.1 = some (.array .int)) := by
  intro r hr
  cases hr
  exact ⟨rfl, rfl, by decide +kernel⟩
theorem fr_1_5 : zFt 1 5 (fun f => f.1 = RX1 ∧ f.2.2.2 = true ∧ parseFieldDescriptor f.2.2.1 = some (.array .int)) := by
  intro r hr
  cases hr
  exact ⟨rfl, rfl, by decide +kernel⟩
theorem fr_1_6 : zFt 1 6 (fun f => f.1 = RX1 ∧ f.2.2.2 = true ∧ parseFieldDescriptor f.2.2.1 = some (.array .int)) := by
  intro r hr
  cases hr
  exact ⟨rfl, rfl, by decide +kernel⟩
theorem fr_1_7 : zFt 1 7 (fun f => f.1 = RX1 ∧ f.2.2.2 = true ∧ parseFieldDescriptor f.2.2.1 = some (.array .int)) := by
  intro r hr
  cases hr
  exact ⟨rfl, rfl, by decide +kernel⟩
theorem ft_1_8 : zFt 1 8 (fun f => f.2.2.2 = false ∧ parseFieldDescriptor f.2.2.1 = some .int) := by
  intro r hr
  cases hr
  exact ⟨rfl, by decide +kernel⟩
theorem ft_1_9 : zFt 1 9 (fun f => f.2.2.2 = false ∧ parseFieldDescriptor f.2.2.1 = some .int) := by
  intro r hr
  cases hr
  exact ⟨rfl, by decide +kernel⟩
theorem ft_1_10 : zFt 1 10 (fun f => f.2.2.2 = false ∧ parseFieldDescriptor f.2.2.1 = some .int) := by
  intro r hr
  cases hr
  exact ⟨rfl, by decide +kernel⟩
theorem ft_1_11 : zFt 1 11 (fun f => f.2.2.2 = false ∧ parseFieldDescriptor f.2.2.1 = some .int) := by
  intro r hr
  cases hr
  exact ⟨rfl, by decide +kernel⟩
theorem ft_1_12 : zFt 1 12 (fun f => f.2.2.2 = false ∧ parseFieldDescriptor f.2.2.1 = some .int) := by
  intro r hr
  cases hr
  exact ⟨rfl, by decide +kernel⟩
theorem ft_1_13 : zFt 1 13 (fun f => f.2.2.2 = false ∧ parseFieldDescriptor f.2.2.1 = some .int) := by
  intro r hr
  cases hr
  exact ⟨rfl, by decide +kernel⟩
theorem fr_2_0 : zFt 2 0 (fun f => f.1 = RX2 ∧ f.2.2.2 = true ∧ parseFieldDescriptor f.2.2.1 = some (.array .int)) := by
  intro r hr
  cases hr
  exact ⟨rfl, rfl, by decide +kernel⟩
theorem fr_2_1 : zFt 2 1 (fun f => f.1 = RX2 ∧ f.2.2.2 = true ∧ parseFieldDescriptor f.2.2.1 = some (.array .int)) := by
  intro r hr
  cases hr
  exact ⟨rfl, rfl, by decide +kernel⟩
theorem fr_2_2 : zFt 2 2 (fun f => f.1 = RX2 ∧ f.2.2.2 = true ∧ parseFieldDescriptor f.2.2.1 = some (.array (.array .int))) := by
  intro r hr
  cases hr
  exact ⟨rfl, rfl, by decide +kernel⟩
theorem fr_3_0 : zFt 3 0 (fun f => f.1 = RX3 ∧ f.2.2.2 = true ∧ parseFieldDescriptor f.2.2.1 = some (.object "HedgeTreaties$Street")) := by
  intro r hr
  cases hr
  exact ⟨rfl, rfl, by decide +kernel⟩
theorem fr_3_1 : zFt 3 1 (fun f => f.1 = RX3 ∧ f.2.2.2 = true ∧ parseFieldDescriptor f.2.2.1 = some (.object "HedgeTreaties$Street")) := by
  intro r hr
  cases hr
  exact ⟨rfl, rfl, by decide +kernel⟩
theorem fr_3_2 : zFt 3 2 (fun f => f.1 = RX3 ∧ f.2.2.2 = true ∧ parseFieldDescriptor f.2.2.1 = some (.array (.object RX1))) := by
  intro r hr
  cases hr
  exact ⟨rfl, rfl, by decide +kernel⟩
theorem fr_3_3 : zFt 3 3 (fun f => f.1 = RX3 ∧ f.2.2.2 = true ∧ parseFieldDescriptor f.2.2.1 = some (.object "HedgeTreaties$Surveyor")) := by
  intro r hr
  cases hr
  exact ⟨rfl, rfl, by decide +kernel⟩
theorem fr_3_4 : zFt 3 4 (fun f => f.1 = RX3 ∧ f.2.2.2 = true ∧ parseFieldDescriptor f.2.2.1 = some (.object "HedgeTreaties$Pad")) := by
  intro r hr
  cases hr
  exact ⟨rfl, rfl, by decide +kernel⟩
theorem ft_3_5 : zFt 3 5 (fun f => f.2.2.2 = false ∧ parseFieldDescriptor f.2.2.1 = some .int) := by
  intro r hr
  cases hr
  exact ⟨rfl, by decide +kernel⟩
theorem ft_3_6 : zFt 3 6 (fun f => f.2.2.2 = false ∧ parseFieldDescriptor f.2.2.1 = some .boolean) := by
  intro r hr
  cases hr
  exact ⟨rfl, by decide +kernel⟩
theorem ft_3_7 : zFt 3 7 (fun f => f.2.2.2 = false ∧ parseFieldDescriptor f.2.2.1 = some .int) := by
  intro r hr
  cases hr
  exact ⟨rfl, by decide +kernel⟩
theorem ft_3_8 : zFt 3 8 (fun f => f.2.2.2 = false ∧ parseFieldDescriptor f.2.2.1 = some .int) := by
  intro r hr
  cases hr
  exact ⟨rfl, by decide +kernel⟩
theorem ft_3_9 : zFt 3 9 (fun f => f.2.2.2 = false ∧ parseFieldDescriptor f.2.2.1 = some .int) := by
  intro r hr
  cases hr
  exact ⟨rfl, by decide +kernel⟩
abbrev mX0_init : zD := (RX0, cX0_init, 1, none, "<init>", { frames := 1, cells := 5, slots := 120, locals := 12 })
abbrev mX0_read : zD := (RX0, cX0_read, 3, some .int, "", { frames := 3, cells := 0, slots := 0, locals := 66 })
abbrev mX0_placeBehind : zD := (RX0, cX0_placeBehind, 4, some .int, "", { frames := 2, cells := 0, slots := 0, locals := 43 })
abbrev mX0_isDigit : zD := (RX0, cX0_isDigit, 2, some .boolean, "", { frames := 0, cells := 0, slots := 0, locals := 0 })
abbrev mX0_startPart : zD := (RX0, cX0_startPart, 3, some .int, "", { frames := 1, cells := 0, slots := 0, locals := 21 })
abbrev mX0_takeOther : zD := (RX0, cX0_takeOther, 2, some .int, "", { frames := 1, cells := 0, slots := 0, locals := 21 })
abbrev mX0_takeSign : zD := (RX0, cX0_takeSign, 2, some .int, "", { frames := 1, cells := 0, slots := 0, locals := 22 })
abbrev mX0_startNumber : zD := (RX0, cX0_startNumber, 3, some .int, "", { frames := 0, cells := 0, slots := 0, locals := 0 })
