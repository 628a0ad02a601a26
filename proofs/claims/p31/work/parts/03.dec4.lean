theorem dL_lot_0 : decode cL_lot 0 = .ok (.iload_n 1, 1) := by decide +kernel
theorem dL_lot_1 : decode cL_lot 1 = .ok (.aload_n 0, 1) := by decide +kernel
theorem dL_lot_2 : decode cL_lot 2 = .ok (.arraylength, 1) := by decide +kernel
theorem dL_lot_3 : decode cL_lot 3 = .ok (.if_icmp .ge 9, 3) := by decide +kernel
theorem dL_lot_6 : decode cL_lot 6 = .ok (.aload_n 0, 1) := by decide +kernel
theorem dL_lot_7 : decode cL_lot 7 = .ok (.iload_n 1, 1) := by decide +kernel
theorem dL_lot_8 : decode cL_lot 8 = .ok (.iaload, 1) := by decide +kernel
theorem dL_lot_9 : decode cL_lot 9 = .ok (.goto 15, 3) := by decide +kernel
theorem dL_lot_12 : decode cL_lot 12 = .ok (.ldc 7, 2) := by decide +kernel
theorem dL_lot_14 : decode cL_lot 14 = .ok (.iload_n 1, 1) := by decide +kernel
theorem dL_lot_15 : decode cL_lot 15 = .ok (.sipush 4831, 3) := by decide +kernel
theorem dL_lot_18 : decode cL_lot 18 = .ok (.iadd, 1) := by decide +kernel
theorem dL_lot_19 : decode cL_lot 19 = .ok (.imul, 1) := by decide +kernel
theorem dL_lot_20 : decode cL_lot 20 = .ok (.sipush 4621, 3) := by decide +kernel
theorem dL_lot_23 : decode cL_lot 23 = .ok (.iadd, 1) := by decide +kernel
theorem dL_lot_24 : decode cL_lot 24 = .ok (.ireturn, 1) := by decide +kernel
theorem dL_low_0 : decode cL_low 0 = .ok (.iload_n 0, 1) := by decide +kernel
theorem dL_low_1 : decode cL_low 1 = .ok (.ldc 8, 2) := by decide +kernel
theorem dL_low_3 : decode cL_low 3 = .ok (.iand, 1) := by decide +kernel
theorem dL_low_4 : decode cL_low 4 = .ok (.iload_n 1, 1) := by decide +kernel
theorem dL_low_5 : decode cL_low 5 = .ok (.irem, 1) := by decide +kernel
theorem dL_low_6 : decode cL_low 6 = .ok (.ireturn, 1) := by decide +kernel
theorem dL_look_0 : decode cL_look 0 = .ok (.ldc2_w 9, 3) := by decide +kernel
theorem dL_look_3 : decode cL_look 3 = .ok (.lstore_n 1, 1) := by decide +kernel
theorem dL_look_4 : decode cL_look 4 = .ok (.iconst 0, 1) := by decide +kernel
theorem dL_look_5 : decode cL_look 5 = .ok (.istore_n 3, 1) := by decide +kernel
theorem dL_look_6 : decode cL_look 6 = .ok (.iload_n 3, 1) := by decide +kernel
theorem dL_look_7 : decode cL_look 7 = .ok (.bipush 11, 2) := by decide +kernel
theorem dL_look_9 : decode cL_look 9 = .ok (.if_icmp .ge 22, 3) := by decide +kernel
theorem dL_look_12 : decode cL_look 12 = .ok (.ldc2_w 11, 3) := by decide +kernel
theorem dL_look_15 : decode cL_look 15 = .ok (.lload_n 1, 1) := by decide +kernel
theorem dL_look_16 : decode cL_look 16 = .ok (.lmul, 1) := by decide +kernel
theorem dL_look_17 : decode cL_look 17 = .ok (.aload_n 0, 1) := by decide +kernel
theorem dL_look_18 : decode cL_look 18 = .ok (.iload_n 3, 1) := by decide +kernel
theorem dL_look_19 : decode cL_look 19 = .ok (.invokevirtual 13, 3) := by decide +kernel
theorem dL_look_22 : decode cL_look 22 = .ok (.i2l, 1) := by decide +kernel
theorem dL_look_23 : decode cL_look 23 = .ok (.ladd, 1) := by decide +kernel
theorem dL_look_24 : decode cL_look 24 = .ok (.lstore_n 1, 1) := by decide +kernel
theorem dL_look_25 : decode cL_look 25 = .ok (.iinc 3 1, 3) := by decide +kernel
theorem dL_look_28 : decode cL_look 28 = .ok (.goto (-22), 3) := by decide +kernel
theorem dL_look_31 : decode cL_look 31 = .ok (.iconst 0, 1) := by decide +kernel
theorem dL_look_32 : decode cL_look 32 = .ok (.istore_n 3, 1) := by decide +kernel
theorem dL_look_33 : decode cL_look 33 = .ok (.iload_n 3, 1) := by decide +kernel
theorem dL_look_34 : decode cL_look 34 = .ok (.bipush 8, 2) := by decide +kernel
theorem dL_look_36 : decode cL_look 36 = .ok (.if_icmp .ge 60, 3) := by decide +kernel
theorem dL_look_39 : decode cL_look 39 = .ok (.ldc2_w 11, 3) := by decide +kernel
theorem dL_look_42 : decode cL_look 42 = .ok (.ldc2_w 11, 3) := by decide +kernel
theorem dL_look_45 : decode cL_look 45 = .ok (.ldc2_w 11, 3) := by decide +kernel
theorem dL_look_48 : decode cL_look 48 = .ok (.ldc2_w 11, 3) := by decide +kernel
theorem dL_look_51 : decode cL_look 51 = .ok (.lload_n 1, 1) := by decide +kernel
theorem dL_look_52 : decode cL_look 52 = .ok (.lmul, 1) := by decide +kernel
theorem dL_look_53 : decode cL_look 53 = .ok (.aload_n 0, 1) := by decide +kernel
theorem dL_look_54 : decode cL_look 54 = .ok (.iload_n 3, 1) := by decide +kernel
theorem dL_look_55 : decode cL_look 55 = .ok (.iconst 0, 1) := by decide +kernel
theorem dL_look_56 : decode cL_look 56 = .ok (.invokevirtual 19, 3) := by decide +kernel
theorem dL_look_59 : decode cL_look 59 = .ok (.i2l, 1) := by decide +kernel
theorem dL_look_60 : decode cL_look 60 = .ok (.ladd, 1) := by decide +kernel
theorem dL_look_61 : decode cL_look 61 = .ok (.lmul, 1) := by decide +kernel
theorem dL_look_62 : decode cL_look 62 = .ok (.aload_n 0, 1) := by decide +kernel
theorem dL_look_63 : decode cL_look 63 = .ok (.iload_n 3, 1) := by decide +kernel
theorem dL_look_64 : decode cL_look 64 = .ok (.iconst 1, 1) := by decide +kernel
theorem dL_look_65 : decode cL_look 65 = .ok (.invokevirtual 19, 3) := by decide +kernel
theorem dL_look_68 : decode cL_look 68 = .ok (.i2l, 1) := by decide +kernel
theorem dL_look_69 : decode cL_look 69 = .ok (.ladd, 1) := by decide +kernel
theorem dL_look_70 : decode cL_look 70 = .ok (.lmul, 1) := by decide +kernel
theorem dL_look_71 : decode cL_look 71 = .ok (.aload_n 0, 1) := by decide +kernel
theorem dL_look_72 : decode cL_look 72 = .ok (.iload_n 3, 1) := by decide +kernel
theorem dL_look_73 : decode cL_look 73 = .ok (.iconst 3, 1) := by decide +kernel
theorem dL_look_74 : decode cL_look 74 = .ok (.invokevirtual 19, 3) := by decide +kernel
theorem dL_look_77 : decode cL_look 77 = .ok (.i2l, 1) := by decide +kernel
theorem dL_look_78 : decode cL_look 78 = .ok (.ladd, 1) := by decide +kernel
theorem dL_look_79 : decode cL_look 79 = .ok (.lmul, 1) := by decide +kernel
theorem dL_look_80 : decode cL_look 80 = .ok (.aload_n 0, 1) := by decide +kernel
theorem dL_look_81 : decode cL_look 81 = .ok (.iload_n 3, 1) := by decide +kernel
theorem dL_look_82 : decode cL_look 82 = .ok (.bipush 7, 2) := by decide +kernel
theorem dL_look_84 : decode cL_look 84 = .ok (.invokevirtual 19, 3) := by decide +kernel
theorem dL_look_87 : decode cL_look 87 = .ok (.i2l, 1) := by decide +kernel
theorem dL_look_88 : decode cL_look 88 = .ok (.ladd, 1) := by decide +kernel
theorem dL_look_89 : decode cL_look 89 = .ok (.lstore_n 1, 1) := by decide +kernel
theorem dL_look_90 : decode cL_look 90 = .ok (.iinc 3 1, 3) := by decide +kernel
theorem dL_look_93 : decode cL_look 93 = .ok (.goto (-60), 3) := by decide +kernel
theorem dL_look_96 : decode cL_look 96 = .ok (.iconst 0, 1) := by decide +kernel
theorem dL_look_97 : decode cL_look 97 = .ok (.istore_n 3, 1) := by decide +kernel
theorem dL_look_98 : decode cL_look 98 = .ok (.iload_n 3, 1) := by decide +kernel
theorem dL_look_99 : decode cL_look 99 = .ok (.aload_n 0, 1) := by decide +kernel
theorem dL_look_100 : decode cL_look 100 = .ok (.iconst 1, 1) := by decide +kernel
theorem dL_look_101 : decode cL_look 101 = .ok (.invokevirtual 13, 3) := by decide +kernel
theorem dL_look_104 : decode cL_look 104 = .ok (.if_icmp .ge 60, 3) := by decide +kernel
theorem dL_look_107 : decode cL_look 107 = .ok (.ldc2_w 11, 3) := by decide +kernel
theorem dL_look_110 : decode cL_look 110 = .ok (.ldc2_w 11, 3) := by decide +kernel
theorem dL_look_113 : decode cL_look 113 = .ok (.ldc2_w 11, 3) := by decide +kernel
theorem dL_look_116 : decode cL_look 116 = .ok (.ldc2_w 11, 3) := by decide +kernel
theorem dL_look_119 : decode cL_look 119 = .ok (.lload_n 1, 1) := by decide +kernel
theorem dL_look_120 : decode cL_look 120 = .ok (.lmul, 1) := by decide +kernel
theorem dL_look_121 : decode cL_look 121 = .ok (.aload_n 0, 1) := by decide +kernel
theorem dL_look_122 : decode cL_look 122 = .ok (.iload_n 3, 1) := by decide +kernel
theorem dL_look_123 : decode cL_look 123 = .ok (.iconst 0, 1) := by decide +kernel
theorem dL_look_124 : decode cL_look 124 = .ok (.invokevirtual 23, 3) := by decide +kernel
theorem dL_look_127 : decode cL_look 127 = .ok (.i2l, 1) := by decide +kernel
theorem dL_look_128 : decode cL_look 128 = .ok (.ladd, 1) := by decide +kernel
theorem dL_look_129 : decode cL_look 129 = .ok (.lmul, 1) := by decide +kernel
theorem dL_look_130 : decode cL_look 130 = .ok (.aload_n 0, 1) := by decide +kernel
theorem dL_look_131 : decode cL_look 131 = .ok (.iload_n 3, 1) := by decide +kernel
theorem dL_look_132 : decode cL_look 132 = .ok (.iconst 1, 1) := by decide +kernel
theorem dL_look_133 : decode cL_look 133 = .ok (.invokevirtual 23, 3) := by decide +kernel
theorem dL_look_136 : decode cL_look 136 = .ok (.i2l, 1) := by decide +kernel
theorem dL_look_137 : decode cL_look 137 = .ok (.ladd, 1) := by decide +kernel
theorem dL_look_138 : decode cL_look 138 = .ok (.lmul, 1) := by decide +kernel
theorem dL_look_139 : decode cL_look 139 = .ok (.aload_n 0, 1) := by decide +kernel
theorem dL_look_140 : decode cL_look 140 = .ok (.iload_n 3, 1) := by decide +kernel
theorem dL_look_141 : decode cL_look 141 = .ok (.iconst 2, 1) := by decide +kernel
theorem dL_look_142 : decode cL_look 142 = .ok (.invokevirtual 23, 3) := by decide +kernel
theorem dL_look_145 : decode cL_look 145 = .ok (.i2l, 1) := by decide +kernel
theorem dL_look_146 : decode cL_look 146 = .ok (.ladd, 1) := by decide +kernel
theorem dL_look_147 : decode cL_look 147 = .ok (.lmul, 1) := by decide +kernel
theorem dL_look_148 : decode cL_look 148 = .ok (.aload_n 0, 1) := by decide +kernel
theorem dL_look_149 : decode cL_look 149 = .ok (.iload_n 3, 1) := by decide +kernel
theorem dL_look_150 : decode cL_look 150 = .ok (.bipush 6, 2) := by decide +kernel
theorem dL_look_152 : decode cL_look 152 = .ok (.invokevirtual 23, 3) := by decide +kernel
theorem dL_look_155 : decode cL_look 155 = .ok (.i2l, 1) := by decide +kernel
theorem dL_look_156 : decode cL_look 156 = .ok (.ladd, 1) := by decide +kernel
theorem dL_look_157 : decode cL_look 157 = .ok (.lstore_n 1, 1) := by decide +kernel
theorem dL_look_158 : decode cL_look 158 = .ok (.iinc 3 1, 3) := by decide +kernel
theorem dL_look_161 : decode cL_look 161 = .ok (.goto (-63), 3) := by decide +kernel
theorem dL_look_164 : decode cL_look 164 = .ok (.lload_n 1, 1) := by decide +kernel
theorem dL_look_165 : decode cL_look 165 = .ok (.lreturn, 1) := by decide +kernel
theorem dL_holds_0 : decode cL_holds 0 = .ok (.aload_n 0, 1) := by decide +kernel
theorem dL_holds_1 : decode cL_holds 1 = .ok (.iconst 0, 1) := by decide +kernel
theorem dL_holds_2 : decode cL_holds 2 = .ok (.invokevirtual 13, 3) := by decide +kernel
theorem dL_holds_5 : decode cL_holds 5 = .ok (.istore_n 1, 1) := by decide +kernel
theorem dL_holds_6 : decode cL_holds 6 = .ok (.iconst 0, 1) := by decide +kernel
theorem dL_holds_7 : decode cL_holds 7 = .ok (.istore_n 2, 1) := by decide +kernel
theorem dL_holds_8 : decode cL_holds 8 = .ok (.iconst 0, 1) := by decide +kernel
theorem dL_holds_9 : decode cL_holds 9 = .ok (.istore_n 3, 1) := by decide +kernel
theorem dL_holds_10 : decode cL_holds 10 = .ok (.iconst 0, 1) := by decide +kernel
theorem dL_holds_11 : decode cL_holds 11 = .ok (.istore 4, 2) := by decide +kernel
theorem dL_holds_13 : decode cL_holds 13 = .ok (.iconst 0, 1) := by decide +kernel
theorem dL_holds_14 : decode cL_holds 14 = .ok (.istore 5, 2) := by decide +kernel
theorem dL_holds_16 : decode cL_holds 16 = .ok (.iconst 0, 1) := by decide +kernel
theorem dL_holds_17 : decode cL_holds 17 = .ok (.istore 6, 2) := by decide +kernel
theorem dL_holds_19 : decode cL_holds 19 = .ok (.iconst 0, 1) := by decide +kernel
theorem dL_holds_20 : decode cL_holds 20 = .ok (.istore 7, 2) := by decide +kernel
theorem dL_holds_22 : decode cL_holds 22 = .ok (.aload_n 0, 1) := by decide +kernel
theorem dL_holds_23 : decode cL_holds 23 = .ok (.iconst 0, 1) := by decide +kernel
theorem dL_holds_24 : decode cL_holds 24 = .ok (.invokevirtual 26, 3) := by decide +kernel
theorem dL_holds_27 : decode cL_holds 27 = .ok (.istore 8, 2) := by decide +kernel
theorem dL_holds_29 : decode cL_holds 29 = .ok (.iload_n 1, 1) := by decide +kernel
theorem dL_holds_30 : decode cL_holds 30 = .ok (.ifCond .lt 81, 3) := by decide +kernel
theorem dL_holds_33 : decode cL_holds 33 = .ok (.aload_n 0, 1) := by decide +kernel
theorem dL_holds_34 : decode cL_holds 34 = .ok (.iconst 1, 1) := by decide +kernel
theorem dL_holds_35 : decode cL_holds 35 = .ok (.invokevirtual 13, 3) := by decide +kernel
theorem dL_holds_38 : decode cL_holds 38 = .ok (.ifCond .lt 73, 3) := by decide +kernel
theorem dL_holds_41 : decode cL_holds 41 = .ok (.aload_n 0, 1) := by decide +kernel
theorem dL_holds_42 : decode cL_holds 42 = .ok (.iconst 1, 1) := by decide +kernel
theorem dL_holds_43 : decode cL_holds 43 = .ok (.invokevirtual 13, 3) := by decide +kernel
theorem dL_holds_46 : decode cL_holds 46 = .ok (.bipush 14, 2) := by decide +kernel
theorem dL_holds_48 : decode cL_holds 48 = .ok (.if_icmp .gt 63, 3) := by decide +kernel
theorem dL_holds_51 : decode cL_holds 51 = .ok (.aload_n 0, 1) := by decide +kernel
theorem dL_holds_52 : decode cL_holds 52 = .ok (.bipush 6, 2) := by decide +kernel
theorem dL_holds_54 : decode cL_holds 54 = .ok (.invokevirtual 13, 3) := by decide +kernel
theorem dL_holds_57 : decode cL_holds 57 = .ok (.ifCond .lt 54, 3) := by decide +kernel
theorem dL_holds_60 : decode cL_holds 60 = .ok (.iload 8, 2) := by decide +kernel
theorem dL_holds_62 : decode cL_holds 62 = .ok (.aload_n 0, 1) := by decide +kernel
theorem dL_holds_63 : decode cL_holds 63 = .ok (.iconst 1, 1) := by decide +kernel
theorem dL_holds_64 : decode cL_holds 64 = .ok (.invokevirtual 26, 3) := by decide +kernel
theorem dL_holds_67 : decode cL_holds 67 = .ok (.if_icmp .ne 44, 3) := by decide +kernel
theorem dL_holds_70 : decode cL_holds 70 = .ok (.iload 8, 2) := by decide +kernel
theorem dL_holds_72 : decode cL_holds 72 = .ok (.bipush (-4), 2) := by decide +kernel
theorem dL_holds_74 : decode cL_holds 74 = .ok (.if_icmp .eq 8, 3) := by decide +kernel
theorem dL_holds_77 : decode cL_holds 77 = .ok (.iload 8, 2) := by decide +kernel
theorem dL_holds_79 : decode cL_holds 79 = .ok (.ifCond .lt 32, 3) := by decide +kernel
theorem dL_holds_82 : decode cL_holds 82 = .ok (.aload_n 0, 1) := by decide +kernel
theorem dL_holds_83 : decode cL_holds 83 = .ok (.bipush 8, 2) := by decide +kernel
theorem dL_holds_85 : decode cL_holds 85 = .ok (.iconst 0, 1) := by decide +kernel
theorem dL_holds_86 : decode cL_holds 86 = .ok (.invokevirtual 19, 3) := by decide +kernel
theorem dL_holds_89 : decode cL_holds 89 = .ok (.iconst (-1), 1) := by decide +kernel
theorem dL_holds_90 : decode cL_holds 90 = .ok (.if_icmp .ne 21, 3) := by decide +kernel
theorem dL_holds_93 : decode cL_holds 93 = .ok (.aload_n 0, 1) := by decide +kernel
theorem dL_holds_94 : decode cL_holds 94 = .ok (.aload_n 0, 1) := by decide +kernel
theorem dL_holds_95 : decode cL_holds 95 = .ok (.iconst 1, 1) := by decide +kernel
theorem dL_holds_96 : decode cL_holds 96 = .ok (.invokevirtual 13, 3) := by decide +kernel
theorem dL_holds_99 : decode cL_holds 99 = .ok (.iconst 0, 1) := by decide +kernel
theorem dL_holds_100 : decode cL_holds 100 = .ok (.invokevirtual 23, 3) := by decide +kernel
theorem dL_holds_103 : decode cL_holds 103 = .ok (.iconst (-1), 1) := by decide +kernel
theorem dL_holds_104 : decode cL_holds 104 = .ok (.if_icmp .ne 7, 3) := by decide +kernel
theorem dL_holds_107 : decode cL_holds 107 = .ok (.iconst 1, 1) := by decide +kernel
theorem dL_holds_108 : decode cL_holds 108 = .ok (.goto 4, 3) := by decide +kernel
theorem dL_holds_111 : decode cL_holds 111 = .ok (.iconst 0, 1) := by decide +kernel
theorem dL_holds_112 : decode cL_holds 112 = .ok (.istore 9, 2) := by decide +kernel
theorem dL_holds_114 : decode cL_holds 114 = .ok (.iconst 0, 1) := by decide +kernel
theorem dL_holds_115 : decode cL_holds 115 = .ok (.istore 10, 2) := by decide +kernel
theorem dL_holds_117 : decode cL_holds 117 = .ok (.iload 10, 2) := by decide +kernel
theorem dL_holds_119 : decode cL_holds 119 = .ok (.aload_n 0, 1) := by decide +kernel
theorem dL_holds_120 : decode cL_holds 120 = .ok (.iconst 1, 1) := by decide +kernel
theorem dL_holds_121 : decode cL_holds 121 = .ok (.invokevirtual 13, 3) := by decide +kernel
theorem dL_holds_124 : decode cL_holds 124 = .ok (.if_icmp .ge 286, 3) := by decide +kernel
theorem dL_holds_127 : decode cL_holds 127 = .ok (.iload 9, 2) := by decide +kernel
theorem dL_holds_129 : decode cL_holds 129 = .ok (.ifCond .eq 281, 3) := by decide +kernel
theorem dL_holds_132 : decode cL_holds 132 = .ok (.aload_n 0, 1) := by decide +kernel
theorem dL_holds_133 : decode cL_holds 133 = .ok (.iload 10, 2) := by decide +kernel
theorem dL_holds_135 : decode cL_holds 135 = .ok (.iconst 0, 1) := by decide +kernel
theorem dL_holds_136 : decode cL_holds 136 = .ok (.invokevirtual 23, 3) := by decide +kernel
theorem dL_holds_139 : decode cL_holds 139 = .ok (.istore 11, 2) := by decide +kernel
theorem dL_holds_141 : decode cL_holds 141 = .ok (.aload_n 0, 1) := by decide +kernel
theorem dL_holds_142 : decode cL_holds 142 = .ok (.iload 10, 2) := by decide +kernel
theorem dL_holds_144 : decode cL_holds 144 = .ok (.iconst 1, 1) := by decide +kernel
theorem dL_holds_145 : decode cL_holds 145 = .ok (.invokevirtual 23, 3) := by decide +kernel
theorem dL_holds_148 : decode cL_holds 148 = .ok (.istore 12, 2) := by decide +kernel
theorem dL_holds_150 : decode cL_holds 150 = .ok (.aload_n 0, 1) := by decide +kernel
theorem dL_holds_151 : decode cL_holds 151 = .ok (.iload 10, 2) := by decide +kernel
theorem dL_holds_153 : decode cL_holds 153 = .ok (.iconst 2, 1) := by decide +kernel
theorem dL_holds_154 : decode cL_holds 154 = .ok (.invokevirtual 23, 3) := by decide +kernel
theorem dL_holds_157 : decode cL_holds 157 = .ok (.bipush 100, 2) := by decide +kernel
theorem dL_holds_159 : decode cL_holds 159 = .ok (.isub, 1) := by decide +kernel
theorem dL_holds_160 : decode cL_holds 160 = .ok (.istore 13, 2) := by decide +kernel
theorem dL_holds_162 : decode cL_holds 162 = .ok (.iload 13, 2) := by decide +kernel
theorem dL_holds_164 : decode cL_holds 164 = .ok (.aload_n 0, 1) := by decide +kernel
theorem dL_holds_165 : decode cL_holds 165 = .ok (.iload 12, 2) := by decide +kernel
theorem dL_holds_167 : decode cL_holds 167 = .ok (.iconst 0, 1) := by decide +kernel
theorem dL_holds_168 : decode cL_holds 168 = .ok (.invokevirtual 19, 3) := by decide +kernel
theorem dL_holds_171 : decode cL_holds 171 = .ok (.iadd, 1) := by decide +kernel
theorem dL_holds_172 : decode cL_holds 172 = .ok (.aload_n 0, 1) := by decide +kernel
theorem dL_holds_173 : decode cL_holds 173 = .ok (.iload 11, 2) := by decide +kernel
theorem dL_holds_175 : decode cL_holds 175 = .ok (.iconst 0, 1) := by decide +kernel
theorem dL_holds_176 : decode cL_holds 176 = .ok (.invokevirtual 19, 3) := by decide +kernel
theorem dL_holds_179 : decode cL_holds 179 = .ok (.isub, 1) := by decide +kernel
theorem dL_holds_180 : decode cL_holds 180 = .ok (.istore 14, 2) := by decide +kernel
theorem dL_holds_182 : decode cL_holds 182 = .ok (.iload_n 1, 1) := by decide +kernel
theorem dL_holds_183 : decode cL_holds 183 = .ok (.aload_n 0, 1) := by decide +kernel
theorem dL_holds_184 : decode cL_holds 184 = .ok (.iload 10, 2) := by decide +kernel
theorem dL_holds_186 : decode cL_holds 186 = .ok (.bipush 6, 2) := by decide +kernel
theorem dL_holds_188 : decode cL_holds 188 = .ok (.invokevirtual 23, 3) := by decide +kernel
theorem dL_holds_191 : decode cL_holds 191 = .ok (.if_icmp .lt 7, 3) := by decide +kernel
theorem dL_holds_194 : decode cL_holds 194 = .ok (.iconst 1, 1) := by decide +kernel
theorem dL_holds_195 : decode cL_holds 195 = .ok (.goto 4, 3) := by decide +kernel
theorem dL_holds_198 : decode cL_holds 198 = .ok (.iconst 0, 1) := by decide +kernel
theorem dL_holds_199 : decode cL_holds 199 = .ok (.istore 15, 2) := by decide +kernel
theorem dL_holds_201 : decode cL_holds 201 = .ok (.iload 5, 2) := by decide +kernel
theorem dL_holds_203 : decode cL_holds 203 = .ok (.iload 15, 2) := by decide +kernel
theorem dL_holds_205 : decode cL_holds 205 = .ok (.ifCond .eq 7, 3) := by decide +kernel
theorem dL_holds_208 : decode cL_holds 208 = .ok (.iconst 1, 1) := by decide +kernel
theorem dL_holds_209 : decode cL_holds 209 = .ok (.goto 4, 3) := by decide +kernel
theorem dL_holds_212 : decode cL_holds 212 = .ok (.iconst 0, 1) := by decide +kernel
theorem dL_holds_213 : decode cL_holds 213 = .ok (.iadd, 1) := by decide +kernel
theorem dL_holds_214 : decode cL_holds 214 = .ok (.istore 5, 2) := by decide +kernel
theorem dL_holds_216 : decode cL_holds 216 = .ok (.iload 6, 2) := by decide +kernel
theorem dL_holds_218 : decode cL_holds 218 = .ok (.iload 15, 2) := by decide +kernel
theorem dL_holds_220 : decode cL_holds 220 = .ok (.ifCond .eq 12, 3) := by decide +kernel
theorem dL_holds_223 : decode cL_holds 223 = .ok (.iload 14, 2) := by decide +kernel
theorem dL_holds_225 : decode cL_holds 225 = .ok (.ifCond .ge 7, 3) := by decide +kernel
theorem dL_holds_228 : decode cL_holds 228 = .ok (.iconst 1, 1) := by decide +kernel
theorem dL_holds_229 : decode cL_holds 229 = .ok (.goto 4, 3) := by decide +kernel
theorem dL_holds_232 : decode cL_holds 232 = .ok (.iconst 0, 1) := by decide +kernel
theorem dL_holds_233 : decode cL_holds 233 = .ok (.iadd, 1) := by decide +kernel
theorem dL_holds_234 : decode cL_holds 234 = .ok (.istore 6, 2) := by decide +kernel
theorem dL_holds_236 : decode cL_holds 236 = .ok (.iload 11, 2) := by decide +kernel
theorem dL_holds_238 : decode cL_holds 238 = .ok (.ifCond .lt 163, 3) := by decide +kernel
theorem dL_holds_241 : decode cL_holds 241 = .ok (.iload 11, 2) := by decide +kernel
theorem dL_holds_243 : decode cL_holds 243 = .ok (.bipush 8, 2) := by decide +kernel
theorem dL_holds_245 : decode cL_holds 245 = .ok (.if_icmp .ge 156, 3) := by decide +kernel
theorem dL_holds_248 : decode cL_holds 248 = .ok (.iload 12, 2) := by decide +kernel
theorem dL_holds_250 : decode cL_holds 250 = .ok (.ifCond .lt 151, 3) := by decide +kernel
theorem dL_holds_253 : decode cL_holds 253 = .ok (.iload 12, 2) := by decide +kernel
theorem dL_holds_255 : decode cL_holds 255 = .ok (.bipush 8, 2) := by decide +kernel
theorem dL_holds_257 : decode cL_holds 257 = .ok (.if_icmp .ge 144, 3) := by decide +kernel
theorem dL_holds_260 : decode cL_holds 260 = .ok (.iload 11, 2) := by decide +kernel
theorem dL_holds_262 : decode cL_holds 262 = .ok (.iload 12, 2) := by decide +kernel
theorem dL_holds_264 : decode cL_holds 264 = .ok (.if_icmp .eq 137, 3) := by decide +kernel
theorem dL_holds_267 : decode cL_holds 267 = .ok (.iload 13, 2) := by decide +kernel
theorem dL_holds_269 : decode cL_holds 269 = .ok (.bipush (-30), 2) := by decide +kernel
theorem dL_holds_271 : decode cL_holds 271 = .ok (.if_icmp .lt 130, 3) := by decide +kernel
theorem dL_holds_274 : decode cL_holds 274 = .ok (.iload 13, 2) := by decide +kernel
theorem dL_holds_276 : decode cL_holds 276 = .ok (.bipush 60, 2) := by decide +kernel
theorem dL_holds_278 : decode cL_holds 278 = .ok (.if_icmp .gt 123, 3) := by decide +kernel
theorem dL_holds_281 : decode cL_holds 281 = .ok (.aload_n 0, 1) := by decide +kernel
theorem dL_holds_282 : decode cL_holds 282 = .ok (.iload 10, 2) := by decide +kernel
theorem dL_holds_284 : decode cL_holds 284 = .ok (.iconst 3, 1) := by decide +kernel
theorem dL_holds_285 : decode cL_holds 285 = .ok (.invokevirtual 23, 3) := by decide +kernel
theorem dL_holds_288 : decode cL_holds 288 = .ok (.iload 15, 2) := by decide +kernel
theorem dL_holds_290 : decode cL_holds 290 = .ok (.ifCond .eq 7, 3) := by decide +kernel
theorem dL_holds_293 : decode cL_holds 293 = .ok (.iconst 1, 1) := by decide +kernel
theorem dL_holds_294 : decode cL_holds 294 = .ok (.goto 4, 3) := by decide +kernel
theorem dL_holds_297 : decode cL_holds 297 = .ok (.iconst 0, 1) := by decide +kernel
theorem dL_holds_298 : decode cL_holds 298 = .ok (.if_icmp .ne 103, 3) := by decide +kernel
theorem dL_holds_301 : decode cL_holds 301 = .ok (.aload_n 0, 1) := by decide +kernel
theorem dL_holds_302 : decode cL_holds 302 = .ok (.iload 10, 2) := by decide +kernel
theorem dL_holds_304 : decode cL_holds 304 = .ok (.iconst 4, 1) := by decide +kernel
theorem dL_holds_305 : decode cL_holds 305 = .ok (.invokevirtual 23, 3) := by decide +kernel
theorem dL_holds_308 : decode cL_holds 308 = .ok (.iload 15, 2) := by decide +kernel
theorem dL_holds_310 : decode cL_holds 310 = .ok (.ifCond .eq 12, 3) := by decide +kernel
theorem dL_holds_313 : decode cL_holds 313 = .ok (.iload 14, 2) := by decide +kernel
theorem dL_holds_315 : decode cL_holds 315 = .ok (.ifCond .ge 7, 3) := by decide +kernel
theorem dL_holds_318 : decode cL_holds 318 = .ok (.iconst 1, 1) := by decide +kernel
theorem dL_holds_319 : decode cL_holds 319 = .ok (.goto 4, 3) := by decide +kernel
theorem dL_holds_322 : decode cL_holds 322 = .ok (.iconst 0, 1) := by decide +kernel
theorem dL_holds_323 : decode cL_holds 323 = .ok (.if_icmp .ne 78, 3) := by decide +kernel
theorem dL_holds_326 : decode cL_holds 326 = .ok (.aload_n 0, 1) := by decide +kernel
theorem dL_holds_327 : decode cL_holds 327 = .ok (.iload 10, 2) := by decide +kernel
theorem dL_holds_329 : decode cL_holds 329 = .ok (.iconst 5, 1) := by decide +kernel
theorem dL_holds_330 : decode cL_holds 330 = .ok (.invokevirtual 23, 3) := by decide +kernel
theorem dL_holds_333 : decode cL_holds 333 = .ok (.sipush 1000, 3) := by decide +kernel
theorem dL_holds_336 : decode cL_holds 336 = .ok (.iload 14, 2) := by decide +kernel
theorem dL_holds_338 : decode cL_holds 338 = .ok (.iadd, 1) := by decide +kernel
theorem dL_holds_339 : decode cL_holds 339 = .ok (.if_icmp .ne 62, 3) := by decide +kernel
theorem dL_holds_342 : decode cL_holds 342 = .ok (.iload 15, 2) := by decide +kernel
theorem dL_holds_344 : decode cL_holds 344 = .ok (.ifCond .eq 21, 3) := by decide +kernel
theorem dL_holds_347 : decode cL_holds 347 = .ok (.aload_n 0, 1) := by decide +kernel
theorem dL_holds_348 : decode cL_holds 348 = .ok (.iload 11, 2) := by decide +kernel
theorem dL_holds_350 : decode cL_holds 350 = .ok (.iload 12, 2) := by decide +kernel
theorem dL_holds_352 : decode cL_holds 352 = .ok (.iconst 0, 1) := by decide +kernel
theorem dL_holds_353 : decode cL_holds 353 = .ok (.invokevirtual 31, 3) := by decide +kernel
theorem dL_holds_356 : decode cL_holds 356 = .ok (.sipush 1000, 3) := by decide +kernel
theorem dL_holds_359 : decode cL_holds 359 = .ok (.iload 13, 2) := by decide +kernel
theorem dL_holds_361 : decode cL_holds 361 = .ok (.iadd, 1) := by decide +kernel
theorem dL_holds_362 : decode cL_holds 362 = .ok (.if_icmp .gt 39, 3) := by decide +kernel
theorem dL_holds_365 : decode cL_holds 365 = .ok (.iload 15, 2) := by decide +kernel
theorem dL_holds_367 : decode cL_holds 367 = .ok (.ifCond .eq 30, 3) := by decide +kernel
theorem dL_holds_370 : decode cL_holds 370 = .ok (.iload 8, 2) := by decide +kernel
theorem dL_holds_372 : decode cL_holds 372 = .ok (.bipush (-4), 2) := by decide +kernel
theorem dL_holds_374 : decode cL_holds 374 = .ok (.if_icmp .eq 23, 3) := by decide +kernel
theorem dL_holds_377 : decode cL_holds 377 = .ok (.aload_n 0, 1) := by decide +kernel
theorem dL_holds_378 : decode cL_holds 378 = .ok (.iload 11, 2) := by decide +kernel
theorem dL_holds_380 : decode cL_holds 380 = .ok (.iconst 4, 1) := by decide +kernel
theorem dL_holds_381 : decode cL_holds 381 = .ok (.invokevirtual 19, 3) := by decide +kernel
theorem dL_holds_384 : decode cL_holds 384 = .ok (.aload_n 0, 1) := by decide +kernel
theorem dL_holds_385 : decode cL_holds 385 = .ok (.iload 12, 2) := by decide +kernel
theorem dL_holds_387 : decode cL_holds 387 = .ok (.iconst 4, 1) := by decide +kernel
theorem dL_holds_388 : decode cL_holds 388 = .ok (.invokevirtual 19, 3) := by decide +kernel
theorem dL_holds_391 : decode cL_holds 391 = .ok (.iload 13, 2) := by decide +kernel
theorem dL_holds_393 : decode cL_holds 393 = .ok (.iadd, 1) := by decide +kernel
theorem dL_holds_394 : decode cL_holds 394 = .ok (.if_icmp .gt 7, 3) := by decide +kernel
theorem dL_holds_397 : decode cL_holds 397 = .ok (.iconst 1, 1) := by decide +kernel
theorem dL_holds_398 : decode cL_holds 398 = .ok (.goto 4, 3) := by decide +kernel
theorem dL_holds_401 : decode cL_holds 401 = .ok (.iconst 0, 1) := by decide +kernel
theorem dL_holds_402 : decode cL_holds 402 = .ok (.istore 9, 2) := by decide +kernel
theorem dL_holds_404 : decode cL_holds 404 = .ok (.iinc 10 1, 3) := by decide +kernel
theorem dL_holds_407 : decode cL_holds 407 = .ok (.goto (-290), 3) := by decide +kernel
theorem dL_holds_410 : decode cL_holds 410 = .ok (.iconst 0, 1) := by decide +kernel
theorem dL_holds_411 : decode cL_holds 411 = .ok (.istore 10, 2) := by decide +kernel
theorem dL_holds_413 : decode cL_holds 413 = .ok (.iload 10, 2) := by decide +kernel
theorem dL_holds_415 : decode cL_holds 415 = .ok (.bipush 8, 2) := by decide +kernel
theorem dL_holds_417 : decode cL_holds 417 = .ok (.if_icmp .ge 405, 3) := by decide +kernel
theorem dL_holds_420 : decode cL_holds 420 = .ok (.iload 9, 2) := by decide +kernel
theorem dL_holds_422 : decode cL_holds 422 = .ok (.ifCond .eq 400, 3) := by decide +kernel
theorem dL_holds_425 : decode cL_holds 425 = .ok (.aload_n 0, 1) := by decide +kernel
theorem dL_holds_426 : decode cL_holds 426 = .ok (.iload 10, 2) := by decide +kernel
theorem dL_holds_428 : decode cL_holds 428 = .ok (.iconst 4, 1) := by decide +kernel
theorem dL_holds_429 : decode cL_holds 429 = .ok (.invokevirtual 19, 3) := by decide +kernel
theorem dL_holds_432 : decode cL_holds 432 = .ok (.istore 11, 2) := by decide +kernel
theorem dL_holds_434 : decode cL_holds 434 = .ok (.iconst 0, 1) := by decide +kernel
theorem dL_holds_435 : decode cL_holds 435 = .ok (.istore 12, 2) := by decide +kernel
theorem dL_holds_437 : decode cL_holds 437 = .ok (.iconst 0, 1) := by decide +kernel
theorem dL_holds_438 : decode cL_holds 438 = .ok (.istore 13, 2) := by decide +kernel
theorem dL_holds_440 : decode cL_holds 440 = .ok (.iconst 0, 1) := by decide +kernel
theorem dL_holds_441 : decode cL_holds 441 = .ok (.istore 14, 2) := by decide +kernel
theorem dL_holds_443 : decode cL_holds 443 = .ok (.iconst 0, 1) := by decide +kernel
theorem dL_holds_444 : decode cL_holds 444 = .ok (.istore 15, 2) := by decide +kernel
theorem dL_holds_446 : decode cL_holds 446 = .ok (.iload 15, 2) := by decide +kernel
theorem dL_holds_448 : decode cL_holds 448 = .ok (.aload_n 0, 1) := by decide +kernel
theorem dL_holds_449 : decode cL_holds 449 = .ok (.iconst 1, 1) := by decide +kernel
theorem dL_holds_450 : decode cL_holds 450 = .ok (.invokevirtual 13, 3) := by decide +kernel
theorem dL_holds_453 : decode cL_holds 453 = .ok (.if_icmp .ge 152, 3) := by decide +kernel
theorem dL_holds_456 : decode cL_holds 456 = .ok (.aload_n 0, 1) := by decide +kernel
theorem dL_holds_457 : decode cL_holds 457 = .ok (.iload 15, 2) := by decide +kernel
theorem dL_holds_459 : decode cL_holds 459 = .ok (.iconst 0, 1) := by decide +kernel
theorem dL_holds_460 : decode cL_holds 460 = .ok (.invokevirtual 23, 3) := by decide +kernel
theorem dL_holds_463 : decode cL_holds 463 = .ok (.iload 10, 2) := by decide +kernel
theorem dL_holds_465 : decode cL_holds 465 = .ok (.if_icmp .eq 15, 3) := by decide +kernel
theorem dL_holds_468 : decode cL_holds 468 = .ok (.aload_n 0, 1) := by decide +kernel
theorem dL_holds_469 : decode cL_holds 469 = .ok (.iload 15, 2) := by decide +kernel
theorem dL_holds_471 : decode cL_holds 471 = .ok (.iconst 1, 1) := by decide +kernel
theorem dL_holds_472 : decode cL_holds 472 = .ok (.invokevirtual 23, 3) := by decide +kernel
theorem dL_holds_475 : decode cL_holds 475 = .ok (.iload 10, 2) := by decide +kernel
theorem dL_holds_477 : decode cL_holds 477 = .ok (.if_icmp .ne 7, 3) := by decide +kernel
theorem dL_holds_480 : decode cL_holds 480 = .ok (.iconst 1, 1) := by decide +kernel
theorem dL_holds_481 : decode cL_holds 481 = .ok (.goto 4, 3) := by decide +kernel
theorem dL_holds_484 : decode cL_holds 484 = .ok (.iconst 0, 1) := by decide +kernel
theorem dL_holds_485 : decode cL_holds 485 = .ok (.istore 16, 2) := by decide +kernel
theorem dL_holds_487 : decode cL_holds 487 = .ok (.iload 12, 2) := by decide +kernel
theorem dL_holds_489 : decode cL_holds 489 = .ok (.iload 16, 2) := by decide +kernel
theorem dL_holds_491 : decode cL_holds 491 = .ok (.ifCond .eq 13, 3) := by decide +kernel
theorem dL_holds_494 : decode cL_holds 494 = .ok (.aload_n 0, 1) := by decide +kernel
theorem dL_holds_495 : decode cL_holds 495 = .ok (.iload 15, 2) := by decide +kernel
theorem dL_holds_497 : decode cL_holds 497 = .ok (.iconst 4, 1) := by decide +kernel
theorem dL_holds_498 : decode cL_holds 498 = .ok (.invokevirtual 23, 3) := by decide +kernel
theorem dL_holds_501 : decode cL_holds 501 = .ok (.goto 4, 3) := by decide +kernel
theorem dL_holds_504 : decode cL_holds 504 = .ok (.iconst 0, 1) := by decide +kernel
theorem dL_holds_505 : decode cL_holds 505 = .ok (.iadd, 1) := by decide +kernel
theorem dL_holds_506 : decode cL_holds 506 = .ok (.istore 12, 2) := by decide +kernel
theorem dL_holds_508 : decode cL_holds 508 = .ok (.iload 13, 2) := by decide +kernel
theorem dL_holds_510 : decode cL_holds 510 = .ok (.iload 16, 2) := by decide +kernel
theorem dL_holds_512 : decode cL_holds 512 = .ok (.ifCond .eq 13, 3) := by decide +kernel
theorem dL_holds_515 : decode cL_holds 515 = .ok (.aload_n 0, 1) := by decide +kernel
theorem dL_holds_516 : decode cL_holds 516 = .ok (.iload 15, 2) := by decide +kernel
theorem dL_holds_518 : decode cL_holds 518 = .ok (.iconst 3, 1) := by decide +kernel
theorem dL_holds_519 : decode cL_holds 519 = .ok (.invokevirtual 23, 3) := by decide +kernel
theorem dL_holds_522 : decode cL_holds 522 = .ok (.goto 4, 3) := by decide +kernel
theorem dL_holds_525 : decode cL_holds 525 = .ok (.iconst 0, 1) := by decide +kernel
theorem dL_holds_526 : decode cL_holds 526 = .ok (.iadd, 1) := by decide +kernel
theorem dL_holds_527 : decode cL_holds 527 = .ok (.istore 13, 2) := by decide +kernel
theorem dL_holds_529 : decode cL_holds 529 = .ok (.iload 14, 2) := by decide +kernel
theorem dL_holds_531 : decode cL_holds 531 = .ok (.ifCond .ne 61, 3) := by decide +kernel
theorem dL_holds_534 : decode cL_holds 534 = .ok (.iload 8, 2) := by decide +kernel
theorem dL_holds_536 : decode cL_holds 536 = .ok (.bipush (-4), 2) := by decide +kernel
theorem dL_holds_538 : decode cL_holds 538 = .ok (.if_icmp .eq 58, 3) := by decide +kernel
theorem dL_holds_541 : decode cL_holds 541 = .ok (.aload_n 0, 1) := by decide +kernel
theorem dL_holds_542 : decode cL_holds 542 = .ok (.iload 15, 2) := by decide +kernel
theorem dL_holds_544 : decode cL_holds 544 = .ok (.iconst 0, 1) := by decide +kernel
theorem dL_holds_545 : decode cL_holds 545 = .ok (.invokevirtual 23, 3) := by decide +kernel
theorem dL_holds_548 : decode cL_holds 548 = .ok (.iload 10, 2) := by decide +kernel
theorem dL_holds_550 : decode cL_holds 550 = .ok (.if_icmp .ne 46, 3) := by decide +kernel
theorem dL_holds_553 : decode cL_holds 553 = .ok (.aload_n 0, 1) := by decide +kernel
theorem dL_holds_554 : decode cL_holds 554 = .ok (.iload 15, 2) := by decide +kernel
theorem dL_holds_556 : decode cL_holds 556 = .ok (.iconst 3, 1) := by decide +kernel
theorem dL_holds_557 : decode cL_holds 557 = .ok (.invokevirtual 23, 3) := by decide +kernel
theorem dL_holds_560 : decode cL_holds 560 = .ok (.iconst 1, 1) := by decide +kernel
theorem dL_holds_561 : decode cL_holds 561 = .ok (.if_icmp .ne 35, 3) := by decide +kernel
theorem dL_holds_564 : decode cL_holds 564 = .ok (.aload_n 0, 1) := by decide +kernel
theorem dL_holds_565 : decode cL_holds 565 = .ok (.aload_n 0, 1) := by decide +kernel
theorem dL_holds_566 : decode cL_holds 566 = .ok (.iload 15, 2) := by decide +kernel
theorem dL_holds_568 : decode cL_holds 568 = .ok (.iconst 1, 1) := by decide +kernel
theorem dL_holds_569 : decode cL_holds 569 = .ok (.invokevirtual 23, 3) := by decide +kernel
theorem dL_holds_572 : decode cL_holds 572 = .ok (.iconst 4, 1) := by decide +kernel
theorem dL_holds_573 : decode cL_holds 573 = .ok (.invokevirtual 19, 3) := by decide +kernel
theorem dL_holds_576 : decode cL_holds 576 = .ok (.aload_n 0, 1) := by decide +kernel
theorem dL_holds_577 : decode cL_holds 577 = .ok (.iload 15, 2) := by decide +kernel
theorem dL_holds_579 : decode cL_holds 579 = .ok (.iconst 2, 1) := by decide +kernel
theorem dL_holds_580 : decode cL_holds 580 = .ok (.invokevirtual 23, 3) := by decide +kernel
theorem dL_holds_583 : decode cL_holds 583 = .ok (.iadd, 1) := by decide +kernel
theorem dL_holds_584 : decode cL_holds 584 = .ok (.bipush 100, 2) := by decide +kernel
theorem dL_holds_586 : decode cL_holds 586 = .ok (.isub, 1) := by decide +kernel
theorem dL_holds_587 : decode cL_holds 587 = .ok (.iload 11, 2) := by decide +kernel
theorem dL_holds_589 : decode cL_holds 589 = .ok (.if_icmp .ne 7, 3) := by decide +kernel
theorem dL_holds_592 : decode cL_holds 592 = .ok (.iconst 1, 1) := by decide +kernel
theorem dL_holds_593 : decode cL_holds 593 = .ok (.goto 4, 3) := by decide +kernel
theorem dL_holds_596 : decode cL_holds 596 = .ok (.iconst 0, 1) := by decide +kernel
theorem dL_holds_597 : decode cL_holds 597 = .ok (.istore 14, 2) := by decide +kernel
theorem dL_holds_599 : decode cL_holds 599 = .ok (.iinc 15 1, 3) := by decide +kernel
theorem dL_holds_602 : decode cL_holds 602 = .ok (.goto (-156), 3) := by decide +kernel
theorem dL_holds_605 : decode cL_holds 605 = .ok (.iload_n 2, 1) := by decide +kernel
theorem dL_holds_606 : decode cL_holds 606 = .ok (.aload_n 0, 1) := by decide +kernel
theorem dL_holds_607 : decode cL_holds 607 = .ok (.iload 10, 2) := by decide +kernel
theorem dL_holds_609 : decode cL_holds 609 = .ok (.iconst 0, 1) := by decide +kernel
theorem dL_holds_610 : decode cL_holds 610 = .ok (.invokevirtual 19, 3) := by decide +kernel
theorem dL_holds_613 : decode cL_holds 613 = .ok (.iadd, 1) := by decide +kernel
theorem dL_holds_614 : decode cL_holds 614 = .ok (.istore_n 2, 1) := by decide +kernel
theorem dL_holds_615 : decode cL_holds 615 = .ok (.iload_n 3, 1) := by decide +kernel
theorem dL_holds_616 : decode cL_holds 616 = .ok (.aload_n 0, 1) := by decide +kernel
theorem dL_holds_617 : decode cL_holds 617 = .ok (.iload 10, 2) := by decide +kernel
theorem dL_holds_619 : decode cL_holds 619 = .ok (.iconst 2, 1) := by decide +kernel
theorem dL_holds_620 : decode cL_holds 620 = .ok (.invokevirtual 19, 3) := by decide +kernel
theorem dL_holds_623 : decode cL_holds 623 = .ok (.iadd, 1) := by decide +kernel
theorem dL_holds_624 : decode cL_holds 624 = .ok (.istore_n 3, 1) := by decide +kernel
theorem dL_holds_625 : decode cL_holds 625 = .ok (.iload 4, 2) := by decide +kernel
theorem dL_holds_627 : decode cL_holds 627 = .ok (.aload_n 0, 1) := by decide +kernel
theorem dL_holds_628 : decode cL_holds 628 = .ok (.iload 10, 2) := by decide +kernel
theorem dL_holds_630 : decode cL_holds 630 = .ok (.bipush 7, 2) := by decide +kernel
theorem dL_holds_632 : decode cL_holds 632 = .ok (.invokevirtual 19, 3) := by decide +kernel
theorem dL_holds_635 : decode cL_holds 635 = .ok (.iadd, 1) := by decide +kernel
theorem dL_holds_636 : decode cL_holds 636 = .ok (.istore 4, 2) := by decide +kernel
theorem dL_holds_638 : decode cL_holds 638 = .ok (.iload 7, 2) := by decide +kernel
theorem dL_holds_640 : decode cL_holds 640 = .ok (.aload_n 0, 1) := by decide +kernel
theorem dL_holds_641 : decode cL_holds 641 = .ok (.iload 10, 2) := by decide +kernel
theorem dL_holds_643 : decode cL_holds 643 = .ok (.iconst 0, 1) := by decide +kernel
theorem dL_holds_644 : decode cL_holds 644 = .ok (.invokevirtual 19, 3) := by decide +kernel
theorem dL_holds_647 : decode cL_holds 647 = .ok (.iload 11, 2) := by decide +kernel
theorem dL_holds_649 : decode cL_holds 649 = .ok (.isub, 1) := by decide +kernel
theorem dL_holds_650 : decode cL_holds 650 = .ok (.iadd, 1) := by decide +kernel
theorem dL_holds_651 : decode cL_holds 651 = .ok (.istore 7, 2) := by decide +kernel
theorem dL_holds_653 : decode cL_holds 653 = .ok (.aload_n 0, 1) := by decide +kernel
theorem dL_holds_654 : decode cL_holds 654 = .ok (.iload 10, 2) := by decide +kernel
theorem dL_holds_656 : decode cL_holds 656 = .ok (.iconst 0, 1) := by decide +kernel
theorem dL_holds_657 : decode cL_holds 657 = .ok (.invokevirtual 19, 3) := by decide +kernel
theorem dL_holds_660 : decode cL_holds 660 = .ok (.ifCond .lt 153, 3) := by decide +kernel
theorem dL_holds_663 : decode cL_holds 663 = .ok (.aload_n 0, 1) := by decide +kernel
theorem dL_holds_664 : decode cL_holds 664 = .ok (.iload 10, 2) := by decide +kernel
theorem dL_holds_666 : decode cL_holds 666 = .ok (.iconst 0, 1) := by decide +kernel
theorem dL_holds_667 : decode cL_holds 667 = .ok (.invokevirtual 19, 3) := by decide +kernel
theorem dL_holds_670 : decode cL_holds 670 = .ok (.bipush 99, 2) := by decide +kernel
theorem dL_holds_672 : decode cL_holds 672 = .ok (.if_icmp .gt 141, 3) := by decide +kernel
theorem dL_holds_675 : decode cL_holds 675 = .ok (.aload_n 0, 1) := by decide +kernel
theorem dL_holds_676 : decode cL_holds 676 = .ok (.iload 10, 2) := by decide +kernel
theorem dL_holds_678 : decode cL_holds 678 = .ok (.iconst 1, 1) := by decide +kernel
theorem dL_holds_679 : decode cL_holds 679 = .ok (.invokevirtual 19, 3) := by decide +kernel
theorem dL_holds_682 : decode cL_holds 682 = .ok (.ifCond .lt 131, 3) := by decide +kernel
theorem dL_holds_685 : decode cL_holds 685 = .ok (.aload_n 0, 1) := by decide +kernel
theorem dL_holds_686 : decode cL_holds 686 = .ok (.iload 10, 2) := by decide +kernel
theorem dL_holds_688 : decode cL_holds 688 = .ok (.iconst 1, 1) := by decide +kernel
theorem dL_holds_689 : decode cL_holds 689 = .ok (.invokevirtual 19, 3) := by decide +kernel
theorem dL_holds_692 : decode cL_holds 692 = .ok (.iconst 5, 1) := by decide +kernel
theorem dL_holds_693 : decode cL_holds 693 = .ok (.if_icmp .gt 120, 3) := by decide +kernel
theorem dL_holds_696 : decode cL_holds 696 = .ok (.aload_n 0, 1) := by decide +kernel
theorem dL_holds_697 : decode cL_holds 697 = .ok (.iload 10, 2) := by decide +kernel
theorem dL_holds_699 : decode cL_holds 699 = .ok (.iconst 2, 1) := by decide +kernel
theorem dL_holds_700 : decode cL_holds 700 = .ok (.invokevirtual 19, 3) := by decide +kernel
theorem dL_holds_703 : decode cL_holds 703 = .ok (.iload_n 1, 1) := by decide +kernel
theorem dL_holds_704 : decode cL_holds 704 = .ok (.aload_n 0, 1) := by decide +kernel
theorem dL_holds_705 : decode cL_holds 705 = .ok (.iload 10, 2) := by decide +kernel
theorem dL_holds_707 : decode cL_holds 707 = .ok (.iconst 3, 1) := by decide +kernel
theorem dL_holds_708 : decode cL_holds 708 = .ok (.invokevirtual 19, 3) := by decide +kernel
theorem dL_holds_711 : decode cL_holds 711 = .ok (.if_icmp .ge 7, 3) := by decide +kernel
theorem dL_holds_714 : decode cL_holds 714 = .ok (.iconst 1, 1) := by decide +kernel
theorem dL_holds_715 : decode cL_holds 715 = .ok (.goto 4, 3) := by decide +kernel
theorem dL_holds_718 : decode cL_holds 718 = .ok (.iconst 0, 1) := by decide +kernel
theorem dL_holds_719 : decode cL_holds 719 = .ok (.if_icmp .ne 94, 3) := by decide +kernel
theorem dL_holds_722 : decode cL_holds 722 = .ok (.aload_n 0, 1) := by decide +kernel
theorem dL_holds_723 : decode cL_holds 723 = .ok (.iload 10, 2) := by decide +kernel
theorem dL_holds_725 : decode cL_holds 725 = .ok (.iconst 5, 1) := by decide +kernel
theorem dL_holds_726 : decode cL_holds 726 = .ok (.invokevirtual 19, 3) := by decide +kernel
theorem dL_holds_729 : decode cL_holds 729 = .ok (.iload 12, 2) := by decide +kernel
theorem dL_holds_731 : decode cL_holds 731 = .ok (.if_icmp .ne 82, 3) := by decide +kernel
theorem dL_holds_734 : decode cL_holds 734 = .ok (.aload_n 0, 1) := by decide +kernel
theorem dL_holds_735 : decode cL_holds 735 = .ok (.iload 10, 2) := by decide +kernel
theorem dL_holds_737 : decode cL_holds 737 = .ok (.bipush 6, 2) := by decide +kernel
theorem dL_holds_739 : decode cL_holds 739 = .ok (.invokevirtual 19, 3) := by decide +kernel
theorem dL_holds_742 : decode cL_holds 742 = .ok (.iload 13, 2) := by decide +kernel
theorem dL_holds_744 : decode cL_holds 744 = .ok (.if_icmp .ne 69, 3) := by decide +kernel
theorem dL_holds_747 : decode cL_holds 747 = .ok (.aload_n 0, 1) := by decide +kernel
theorem dL_holds_748 : decode cL_holds 748 = .ok (.iload 10, 2) := by decide +kernel
theorem dL_holds_750 : decode cL_holds 750 = .ok (.bipush 7, 2) := by decide +kernel
theorem dL_holds_752 : decode cL_holds 752 = .ok (.invokevirtual 19, 3) := by decide +kernel
theorem dL_holds_755 : decode cL_holds 755 = .ok (.ifCond .lt 58, 3) := by decide +kernel
theorem dL_holds_758 : decode cL_holds 758 = .ok (.iload 8, 2) := by decide +kernel
theorem dL_holds_760 : decode cL_holds 760 = .ok (.bipush (-4), 2) := by decide +kernel
theorem dL_holds_762 : decode cL_holds 762 = .ok (.if_icmp .ne 13, 3) := by decide +kernel
theorem dL_holds_765 : decode cL_holds 765 = .ok (.iload 11, 2) := by decide +kernel
theorem dL_holds_767 : decode cL_holds 767 = .ok (.bipush (-4), 2) := by decide +kernel
theorem dL_holds_769 : decode cL_holds 769 = .ok (.if_icmp .ne 44, 3) := by decide +kernel
theorem dL_holds_772 : decode cL_holds 772 = .ok (.goto 37, 3) := by decide +kernel
theorem dL_holds_775 : decode cL_holds 775 = .ok (.iload 11, 2) := by decide +kernel
theorem dL_holds_777 : decode cL_holds 777 = .ok (.ifCond .lt 36, 3) := by decide +kernel
theorem dL_holds_780 : decode cL_holds 780 = .ok (.iload 11, 2) := by decide +kernel
theorem dL_holds_782 : decode cL_holds 782 = .ok (.aload_n 0, 1) := by decide +kernel
theorem dL_holds_783 : decode cL_holds 783 = .ok (.iload 10, 2) := by decide +kernel
theorem dL_holds_785 : decode cL_holds 785 = .ok (.iconst 0, 1) := by decide +kernel
theorem dL_holds_786 : decode cL_holds 786 = .ok (.invokevirtual 19, 3) := by decide +kernel
theorem dL_holds_789 : decode cL_holds 789 = .ok (.if_icmp .eq 20, 3) := by decide +kernel
theorem dL_holds_792 : decode cL_holds 792 = .ok (.iload 11, 2) := by decide +kernel
theorem dL_holds_794 : decode cL_holds 794 = .ok (.aload_n 0, 1) := by decide +kernel
theorem dL_holds_795 : decode cL_holds 795 = .ok (.iload 10, 2) := by decide +kernel
theorem dL_holds_797 : decode cL_holds 797 = .ok (.iconst 0, 1) := by decide +kernel
theorem dL_holds_798 : decode cL_holds 798 = .ok (.invokevirtual 19, 3) := by decide +kernel
theorem dL_holds_801 : decode cL_holds 801 = .ok (.if_icmp .ge 12, 3) := by decide +kernel
theorem dL_holds_804 : decode cL_holds 804 = .ok (.iload 14, 2) := by decide +kernel
theorem dL_holds_806 : decode cL_holds 806 = .ok (.ifCond .eq 7, 3) := by decide +kernel
theorem dL_holds_809 : decode cL_holds 809 = .ok (.iconst 1, 1) := by decide +kernel
theorem dL_holds_810 : decode cL_holds 810 = .ok (.goto 4, 3) := by decide +kernel
theorem dL_holds_813 : decode cL_holds 813 = .ok (.iconst 0, 1) := by decide +kernel
theorem dL_holds_814 : decode cL_holds 814 = .ok (.istore 9, 2) := by decide +kernel
theorem dL_holds_816 : decode cL_holds 816 = .ok (.iinc 10 1, 3) := by decide +kernel
theorem dL_holds_819 : decode cL_holds 819 = .ok (.goto (-406), 3) := by decide +kernel
theorem dL_holds_822 : decode cL_holds 822 = .ok (.iload 9, 2) := by decide +kernel
theorem dL_holds_824 : decode cL_holds 824 = .ok (.ifCond .eq 107, 3) := by decide +kernel
theorem dL_holds_827 : decode cL_holds 827 = .ok (.iload_n 2, 1) := by decide +kernel
theorem dL_holds_828 : decode cL_holds 828 = .ok (.aload_n 0, 1) := by decide +kernel
theorem dL_holds_829 : decode cL_holds 829 = .ok (.iconst 4, 1) := by decide +kernel
theorem dL_holds_830 : decode cL_holds 830 = .ok (.invokevirtual 13, 3) := by decide +kernel
theorem dL_holds_833 : decode cL_holds 833 = .ok (.if_icmp .ne 98, 3) := by decide +kernel
theorem dL_holds_836 : decode cL_holds 836 = .ok (.iload_n 3, 1) := by decide +kernel
theorem dL_holds_837 : decode cL_holds 837 = .ok (.aload_n 0, 1) := by decide +kernel
theorem dL_holds_838 : decode cL_holds 838 = .ok (.iconst 5, 1) := by decide +kernel
theorem dL_holds_839 : decode cL_holds 839 = .ok (.invokevirtual 13, 3) := by decide +kernel
theorem dL_holds_842 : decode cL_holds 842 = .ok (.if_icmp .ne 89, 3) := by decide +kernel
theorem dL_holds_845 : decode cL_holds 845 = .ok (.iload 4, 2) := by decide +kernel
theorem dL_holds_847 : decode cL_holds 847 = .ok (.aload_n 0, 1) := by decide +kernel
theorem dL_holds_848 : decode cL_holds 848 = .ok (.bipush 10, 2) := by decide +kernel
theorem dL_holds_850 : decode cL_holds 850 = .ok (.invokevirtual 13, 3) := by decide +kernel
theorem dL_holds_853 : decode cL_holds 853 = .ok (.if_icmp .ne 78, 3) := by decide +kernel
theorem dL_holds_856 : decode cL_holds 856 = .ok (.iload 5, 2) := by decide +kernel
theorem dL_holds_858 : decode cL_holds 858 = .ok (.aload_n 0, 1) := by decide +kernel
theorem dL_holds_859 : decode cL_holds 859 = .ok (.iconst 2, 1) := by decide +kernel
theorem dL_holds_860 : decode cL_holds 860 = .ok (.invokevirtual 13, 3) := by decide +kernel
theorem dL_holds_863 : decode cL_holds 863 = .ok (.if_icmp .ne 68, 3) := by decide +kernel
theorem dL_holds_866 : decode cL_holds 866 = .ok (.iload 6, 2) := by decide +kernel
theorem dL_holds_868 : decode cL_holds 868 = .ok (.aload_n 0, 1) := by decide +kernel
theorem dL_holds_869 : decode cL_holds 869 = .ok (.iconst 3, 1) := by decide +kernel
theorem dL_holds_870 : decode cL_holds 870 = .ok (.invokevirtual 13, 3) := by decide +kernel
theorem dL_holds_873 : decode cL_holds 873 = .ok (.if_icmp .ne 58, 3) := by decide +kernel
theorem dL_holds_876 : decode cL_holds 876 = .ok (.iload 8, 2) := by decide +kernel
theorem dL_holds_878 : decode cL_holds 878 = .ok (.bipush (-4), 2) := by decide +kernel
theorem dL_holds_880 : decode cL_holds 880 = .ok (.if_icmp .eq 10, 3) := by decide +kernel
theorem dL_holds_883 : decode cL_holds 883 = .ok (.iload 8, 2) := by decide +kernel
theorem dL_holds_885 : decode cL_holds 885 = .ok (.iload 7, 2) := by decide +kernel
theorem dL_holds_887 : decode cL_holds 887 = .ok (.if_icmp .ne 44, 3) := by decide +kernel
theorem dL_holds_890 : decode cL_holds 890 = .ok (.iload 6, 2) := by decide +kernel
theorem dL_holds_892 : decode cL_holds 892 = .ok (.ifCond .gt 8, 3) := by decide +kernel
theorem dL_holds_895 : decode cL_holds 895 = .ok (.iload 8, 2) := by decide +kernel
theorem dL_holds_897 : decode cL_holds 897 = .ok (.ifCond .ne 34, 3) := by decide +kernel
theorem dL_holds_900 : decode cL_holds 900 = .ok (.aload_n 0, 1) := by decide +kernel
theorem dL_holds_901 : decode cL_holds 901 = .ok (.invokevirtual 35, 3) := by decide +kernel
theorem dL_holds_904 : decode cL_holds 904 = .ok (.iload 5, 2) := by decide +kernel
theorem dL_holds_906 : decode cL_holds 906 = .ok (.ifCond .ne 7, 3) := by decide +kernel
theorem dL_holds_909 : decode cL_holds 909 = .ok (.dconst 1, 1) := by decide +kernel
theorem dL_holds_910 : decode cL_holds 910 = .ok (.goto 13, 3) := by decide +kernel
theorem dL_holds_913 : decode cL_holds 913 = .ok (.iload 5, 2) := by decide +kernel
theorem dL_holds_915 : decode cL_holds 915 = .ok (.iload 6, 2) := by decide +kernel
theorem dL_holds_917 : decode cL_holds 917 = .ok (.isub, 1) := by decide +kernel
theorem dL_holds_918 : decode cL_holds 918 = .ok (.i2d, 1) := by decide +kernel
theorem dL_holds_919 : decode cL_holds 919 = .ok (.iload 5, 2) := by decide +kernel
theorem dL_holds_921 : decode cL_holds 921 = .ok (.i2d, 1) := by decide +kernel
theorem dL_holds_922 : decode cL_holds 922 = .ok (.ddiv, 1) := by decide +kernel
theorem dL_holds_923 : decode cL_holds 923 = .ok (.dcmp .l, 1) := by decide +kernel
theorem dL_holds_924 : decode cL_holds 924 = .ok (.ifCond .ne 7, 3) := by decide +kernel
theorem dL_holds_927 : decode cL_holds 927 = .ok (.iconst 1, 1) := by decide +kernel
theorem dL_holds_928 : decode cL_holds 928 = .ok (.goto 4, 3) := by decide +kernel
theorem dL_holds_931 : decode cL_holds 931 = .ok (.iconst 0, 1) := by decide +kernel
theorem dL_holds_932 : decode cL_holds 932 = .ok (.ireturn, 1) := by decide +kernel
theorem dL_would_0 : decode cL_would 0 = .ok (.iload_n 1, 1) := by decide +kernel
theorem dL_would_1 : decode cL_would 1 = .ok (.bipush 9, 2) := by decide +kernel
theorem dL_would_3 : decode cL_would 3 = .ok (.invokestatic 39, 3) := by decide +kernel
theorem dL_would_6 : decode cL_would 6 = .ok (.istore_n 2, 1) := by decide +kernel
theorem dL_would_7 : decode cL_would 7 = .ok (.iload_n 1, 1) := by decide +kernel
theorem dL_would_8 : decode cL_would 8 = .ok (.iconst 3, 1) := by decide +kernel
theorem dL_would_9 : decode cL_would 9 = .ok (.ishr, 1) := by decide +kernel
theorem dL_would_10 : decode cL_would 10 = .ok (.bipush 9, 2) := by decide +kernel
theorem dL_would_12 : decode cL_would 12 = .ok (.invokestatic 39, 3) := by decide +kernel
theorem dL_would_15 : decode cL_would 15 = .ok (.istore_n 3, 1) := by decide +kernel
theorem dL_would_16 : decode cL_would 16 = .ok (.iload_n 1, 1) := by decide +kernel
theorem dL_would_17 : decode cL_would 17 = .ok (.bipush 6, 2) := by decide +kernel
theorem dL_would_19 : decode cL_would 19 = .ok (.ishr, 1) := by decide +kernel
theorem dL_would_20 : decode cL_would 20 = .ok (.bipush 93, 2) := by decide +kernel
theorem dL_would_22 : decode cL_would 22 = .ok (.invokestatic 39, 3) := by decide +kernel
theorem dL_would_25 : decode cL_would 25 = .ok (.bipush 31, 2) := by decide +kernel
theorem dL_would_27 : decode cL_would 27 = .ok (.isub, 1) := by decide +kernel
theorem dL_would_28 : decode cL_would 28 = .ok (.istore 4, 2) := by decide +kernel
theorem dL_would_30 : decode cL_would 30 = .ok (.aload_n 0, 1) := by decide +kernel
theorem dL_would_31 : decode cL_would 31 = .ok (.iload_n 2, 1) := by decide +kernel
theorem dL_would_32 : decode cL_would 32 = .ok (.iload_n 3, 1) := by decide +kernel
theorem dL_would_33 : decode cL_would 33 = .ok (.iload 4, 2) := by decide +kernel
theorem dL_would_35 : decode cL_would 35 = .ok (.invokevirtual 42, 3) := by decide +kernel
theorem dL_would_38 : decode cL_would 38 = .ok (.istore 5, 2) := by decide +kernel
theorem dL_would_40 : decode cL_would 40 = .ok (.aload_n 0, 1) := by decide +kernel
theorem dL_would_41 : decode cL_would 41 = .ok (.iload_n 2, 1) := by decide +kernel
theorem dL_would_42 : decode cL_would 42 = .ok (.iload_n 3, 1) := by decide +kernel
theorem dL_would_43 : decode cL_would 43 = .ok (.iload_n 1, 1) := by decide +kernel
theorem dL_would_44 : decode cL_would 44 = .ok (.iconst 5, 1) := by decide +kernel
theorem dL_would_45 : decode cL_would 45 = .ok (.ishr, 1) := by decide +kernel
theorem dL_would_46 : decode cL_would 46 = .ok (.iconst 2, 1) := by decide +kernel
theorem dL_would_47 : decode cL_would 47 = .ok (.invokestatic 39, 3) := by decide +kernel
theorem dL_would_50 : decode cL_would 50 = .ok (.invokevirtual 31, 3) := by decide +kernel
theorem dL_would_53 : decode cL_would 53 = .ok (.istore 6, 2) := by decide +kernel
theorem dL_would_55 : decode cL_would 55 = .ok (.aload_n 0, 1) := by decide +kernel
theorem dL_would_56 : decode cL_would 56 = .ok (.iload_n 2, 1) := by decide +kernel
theorem dL_would_57 : decode cL_would 57 = .ok (.iload_n 3, 1) := by decide +kernel
theorem dL_would_58 : decode cL_would 58 = .ok (.invokevirtual 45, 3) := by decide +kernel
theorem dL_would_61 : decode cL_would 61 = .ok (.istore 7, 2) := by decide +kernel
theorem dL_would_63 : decode cL_would 63 = .ok (.iload_n 1, 1) := by decide +kernel
theorem dL_would_64 : decode cL_would 64 = .ok (.bipush 7, 2) := by decide +kernel
theorem dL_would_66 : decode cL_would 66 = .ok (.ishr, 1) := by decide +kernel
theorem dL_would_67 : decode cL_would 67 = .ok (.bipush 32, 2) := by decide +kernel
theorem dL_would_69 : decode cL_would 69 = .ok (.invokestatic 39, 3) := by decide +kernel
theorem dL_would_72 : decode cL_would 72 = .ok (.istore 8, 2) := by decide +kernel
theorem dL_would_74 : decode cL_would 74 = .ok (.iload_n 1, 1) := by decide +kernel
theorem dL_would_75 : decode cL_would 75 = .ok (.bipush 10, 2) := by decide +kernel
theorem dL_would_77 : decode cL_would 77 = .ok (.ishr, 1) := by decide +kernel
theorem dL_would_78 : decode cL_would 78 = .ok (.iconst 4, 1) := by decide +kernel
theorem dL_would_79 : decode cL_would 79 = .ok (.invokestatic 39, 3) := by decide +kernel
theorem dL_would_82 : decode cL_would 82 = .ok (.iconst 1, 1) := by decide +kernel
theorem dL_would_83 : decode cL_would 83 = .ok (.isub, 1) := by decide +kernel
theorem dL_would_84 : decode cL_would 84 = .ok (.istore 9, 2) := by decide +kernel
theorem dL_would_86 : decode cL_would 86 = .ok (.aload_n 0, 1) := by decide +kernel
theorem dL_would_87 : decode cL_would 87 = .ok (.iload 8, 2) := by decide +kernel
theorem dL_would_89 : decode cL_would 89 = .ok (.iload 9, 2) := by decide +kernel
theorem dL_would_91 : decode cL_would 91 = .ok (.invokevirtual 48, 3) := by decide +kernel
theorem dL_would_94 : decode cL_would 94 = .ok (.istore 10, 2) := by decide +kernel
theorem dL_would_96 : decode cL_would 96 = .ok (.aload_n 0, 1) := by decide +kernel
theorem dL_would_97 : decode cL_would 97 = .ok (.invokevirtual 51, 3) := by decide +kernel
theorem dL_would_100 : decode cL_would 100 = .ok (.istore 11, 2) := by decide +kernel
theorem dL_would_102 : decode cL_would 102 = .ok (.iload_n 2, 1) := by decide +kernel
theorem dL_would_103 : decode cL_would 103 = .ok (.bipush 8, 2) := by decide +kernel
theorem dL_would_105 : decode cL_would 105 = .ok (.if_icmp .eq 9, 3) := by decide +kernel
theorem dL_would_108 : decode cL_would 108 = .ok (.iload_n 3, 1) := by decide +kernel
theorem dL_would_109 : decode cL_would 109 = .ok (.bipush 8, 2) := by decide +kernel
theorem dL_would_111 : decode cL_would 111 = .ok (.if_icmp .ne 7, 3) := by decide +kernel
theorem dL_would_114 : decode cL_would 114 = .ok (.iconst 1, 1) := by decide +kernel
theorem dL_would_115 : decode cL_would 115 = .ok (.goto 4, 3) := by decide +kernel
theorem dL_would_118 : decode cL_would 118 = .ok (.iconst 0, 1) := by decide +kernel
theorem dL_would_119 : decode cL_would 119 = .ok (.istore 12, 2) := by decide +kernel
theorem dL_would_121 : decode cL_would 121 = .ok (.iload 12, 2) := by decide +kernel
theorem dL_would_123 : decode cL_would 123 = .ok (.ifCond .ne 8, 3) := by decide +kernel
theorem dL_would_126 : decode cL_would 126 = .ok (.iload_n 2, 1) := by decide +kernel
theorem dL_would_127 : decode cL_would 127 = .ok (.iload_n 3, 1) := by decide +kernel
theorem dL_would_128 : decode cL_would 128 = .ok (.if_icmp .ne 7, 3) := by decide +kernel
theorem dL_would_131 : decode cL_would 131 = .ok (.iconst 1, 1) := by decide +kernel
theorem dL_would_132 : decode cL_would 132 = .ok (.goto 4, 3) := by decide +kernel
theorem dL_would_135 : decode cL_would 135 = .ok (.iconst 0, 1) := by decide +kernel
theorem dL_would_136 : decode cL_would 136 = .ok (.istore 13, 2) := by decide +kernel
theorem dL_would_138 : decode cL_would 138 = .ok (.iload 8, 2) := by decide +kernel
theorem dL_would_140 : decode cL_would 140 = .ok (.ifCond .eq 21, 3) := by decide +kernel
theorem dL_would_143 : decode cL_would 143 = .ok (.iload 8, 2) := by decide +kernel
theorem dL_would_145 : decode cL_would 145 = .ok (.bipush 31, 2) := by decide +kernel
theorem dL_would_147 : decode cL_would 147 = .ok (.if_icmp .eq 14, 3) := by decide +kernel
theorem dL_would_150 : decode cL_would 150 = .ok (.iload 9, 2) := by decide +kernel
theorem dL_would_152 : decode cL_would 152 = .ok (.ifCond .lt 9, 3) := by decide +kernel
theorem dL_would_155 : decode cL_would 155 = .ok (.iload 9, 2) := by decide +kernel
theorem dL_would_157 : decode cL_would 157 = .ok (.iconst 1, 1) := by decide +kernel
theorem dL_would_158 : decode cL_would 158 = .ok (.if_icmp .le 7, 3) := by decide +kernel
theorem dL_would_161 : decode cL_would 161 = .ok (.iconst 1, 1) := by decide +kernel
theorem dL_would_162 : decode cL_would 162 = .ok (.goto 4, 3) := by decide +kernel
theorem dL_would_165 : decode cL_would 165 = .ok (.iconst 0, 1) := by decide +kernel
theorem dL_would_166 : decode cL_would 166 = .ok (.istore 14, 2) := by decide +kernel
theorem dL_would_168 : decode cL_would 168 = .ok (.iload 13, 2) := by decide +kernel
theorem dL_would_170 : decode cL_would 170 = .ok (.ifCond .eq 12, 3) := by decide +kernel
theorem dL_would_173 : decode cL_would 173 = .ok (.iload 7, 2) := by decide +kernel
theorem dL_would_175 : decode cL_would 175 = .ok (.iconst (-1), 1) := by decide +kernel
theorem dL_would_176 : decode cL_would 176 = .ok (.if_icmp .ne 162, 3) := by decide +kernel
theorem dL_would_179 : decode cL_would 179 = .ok (.goto 25, 3) := by decide +kernel
theorem dL_would_182 : decode cL_would 182 = .ok (.iload 7, 2) := by decide +kernel
theorem dL_would_184 : decode cL_would 184 = .ok (.bipush (-4), 2) := by decide +kernel
theorem dL_would_186 : decode cL_would 186 = .ok (.if_icmp .eq 18, 3) := by decide +kernel
theorem dL_would_189 : decode cL_would 189 = .ok (.iload 7, 2) := by decide +kernel
theorem dL_would_191 : decode cL_would 191 = .ok (.bipush 70, 2) := by decide +kernel
theorem dL_would_193 : decode cL_would 193 = .ok (.if_icmp .lt 145, 3) := by decide +kernel
theorem dL_would_196 : decode cL_would 196 = .ok (.iload 7, 2) := by decide +kernel
theorem dL_would_198 : decode cL_would 198 = .ok (.sipush 160, 3) := by decide +kernel
theorem dL_would_201 : decode cL_would 201 = .ok (.if_icmp .gt 137, 3) := by decide +kernel
theorem dL_would_204 : decode cL_would 204 = .ok (.iload 13, 2) := by decide +kernel
theorem dL_would_206 : decode cL_would 206 = .ok (.ifCond .ne 17, 3) := by decide +kernel
theorem dL_would_209 : decode cL_would 209 = .ok (.iload 4, 2) := by decide +kernel
theorem dL_would_211 : decode cL_would 211 = .ok (.bipush (-30), 2) := by decide +kernel
theorem dL_would_213 : decode cL_would 213 = .ok (.if_icmp .lt 10, 3) := by decide +kernel
theorem dL_would_216 : decode cL_would 216 = .ok (.iload 4, 2) := by decide +kernel
theorem dL_would_218 : decode cL_would 218 = .ok (.bipush 60, 2) := by decide +kernel
theorem dL_would_220 : decode cL_would 220 = .ok (.if_icmp .le 12, 3) := by decide +kernel
theorem dL_would_223 : decode cL_would 223 = .ok (.iload 5, 2) := by decide +kernel
theorem dL_would_225 : decode cL_would 225 = .ok (.iconst (-1), 1) := by decide +kernel
theorem dL_would_226 : decode cL_would 226 = .ok (.if_icmp .ne 112, 3) := by decide +kernel
theorem dL_would_229 : decode cL_would 229 = .ok (.goto 52, 3) := by decide +kernel
theorem dL_would_232 : decode cL_would 232 = .ok (.iload 5, 2) := by decide +kernel
theorem dL_would_234 : decode cL_would 234 = .ok (.iload 7, 2) := by decide +kernel
theorem dL_would_236 : decode cL_would 236 = .ok (.bipush (-4), 2) := by decide +kernel
theorem dL_would_238 : decode cL_would 238 = .ok (.if_icmp .eq 13, 3) := by decide +kernel
theorem dL_would_241 : decode cL_would 241 = .ok (.iload 4, 2) := by decide +kernel
theorem dL_would_243 : decode cL_would 243 = .ok (.iload 7, 2) := by decide +kernel
theorem dL_would_245 : decode cL_would 245 = .ok (.bipush 100, 2) := by decide +kernel
theorem dL_would_247 : decode cL_would 247 = .ok (.isub, 1) := by decide +kernel
theorem dL_would_248 : decode cL_would 248 = .ok (.if_icmp .ge 7, 3) := by decide +kernel
theorem dL_would_251 : decode cL_would 251 = .ok (.iconst 1, 1) := by decide +kernel
theorem dL_would_252 : decode cL_would 252 = .ok (.goto 26, 3) := by decide +kernel
theorem dL_would_255 : decode cL_would 255 = .ok (.iload 6, 2) := by decide +kernel
theorem dL_would_257 : decode cL_would 257 = .ok (.bipush (-4), 2) := by decide +kernel
theorem dL_would_259 : decode cL_would 259 = .ok (.if_icmp .eq 18, 3) := by decide +kernel
theorem dL_would_262 : decode cL_would 262 = .ok (.iload 6, 2) := by decide +kernel
theorem dL_would_264 : decode cL_would 264 = .ok (.sipush 1000, 3) := by decide +kernel
theorem dL_would_267 : decode cL_would 267 = .ok (.iload 4, 2) := by decide +kernel
theorem dL_would_269 : decode cL_would 269 = .ok (.iadd, 1) := by decide +kernel
theorem dL_would_270 : decode cL_would 270 = .ok (.if_icmp .gt 7, 3) := by decide +kernel
theorem dL_would_273 : decode cL_would 273 = .ok (.iconst 2, 1) := by decide +kernel
theorem dL_would_274 : decode cL_would 274 = .ok (.goto 4, 3) := by decide +kernel
theorem dL_would_277 : decode cL_would 277 = .ok (.iconst 0, 1) := by decide +kernel
theorem dL_would_278 : decode cL_would 278 = .ok (.if_icmp .ne 60, 3) := by decide +kernel
theorem dL_would_281 : decode cL_would 281 = .ok (.iload 12, 2) := by decide +kernel
theorem dL_would_283 : decode cL_would 283 = .ok (.ifCond .eq 12, 3) := by decide +kernel
theorem dL_would_286 : decode cL_would 286 = .ok (.iload 6, 2) := by decide +kernel
theorem dL_would_288 : decode cL_would 288 = .ok (.iconst (-1), 1) := by decide +kernel
theorem dL_would_289 : decode cL_would 289 = .ok (.if_icmp .ne 49, 3) := by decide +kernel
theorem dL_would_292 : decode cL_would 292 = .ok (.goto 42, 3) := by decide +kernel
theorem dL_would_295 : decode cL_would 295 = .ok (.iload_n 2, 1) := by decide +kernel
theorem dL_would_296 : decode cL_would 296 = .ok (.iload_n 3, 1) := by decide +kernel
theorem dL_would_297 : decode cL_would 297 = .ok (.if_icmp .ne 14, 3) := by decide +kernel
theorem dL_would_300 : decode cL_would 300 = .ok (.iload 6, 2) := by decide +kernel
theorem dL_would_302 : decode cL_would 302 = .ok (.sipush 1000, 3) := by decide +kernel
theorem dL_would_305 : decode cL_would 305 = .ok (.if_icmp .ne 33, 3) := by decide +kernel
theorem dL_would_308 : decode cL_would 308 = .ok (.goto 26, 3) := by decide +kernel
theorem dL_would_311 : decode cL_would 311 = .ok (.iload 6, 2) := by decide +kernel
theorem dL_would_313 : decode cL_would 313 = .ok (.bipush (-4), 2) := by decide +kernel
theorem dL_would_315 : decode cL_would 315 = .ok (.if_icmp .eq 19, 3) := by decide +kernel
theorem dL_would_318 : decode cL_would 318 = .ok (.iload 6, 2) := by decide +kernel
theorem dL_would_320 : decode cL_would 320 = .ok (.sipush 901, 3) := by decide +kernel
theorem dL_would_323 : decode cL_would 323 = .ok (.if_icmp .lt 15, 3) := by decide +kernel
theorem dL_would_326 : decode cL_would 326 = .ok (.iload 6, 2) := by decide +kernel
theorem dL_would_328 : decode cL_would 328 = .ok (.sipush 2000, 3) := by decide +kernel
theorem dL_would_331 : decode cL_would 331 = .ok (.if_icmp .ge 7, 3) := by decide +kernel
theorem dL_would_334 : decode cL_would 334 = .ok (.iconst 1, 1) := by decide +kernel
theorem dL_would_335 : decode cL_would 335 = .ok (.goto 4, 3) := by decide +kernel
theorem dL_would_338 : decode cL_would 338 = .ok (.iconst 0, 1) := by decide +kernel
theorem dL_would_339 : decode cL_would 339 = .ok (.istore 15, 2) := by decide +kernel
theorem dL_would_341 : decode cL_would 341 = .ok (.iload 15, 2) := by decide +kernel
theorem dL_would_343 : decode cL_would 343 = .ok (.ifCond .eq 153, 3) := by decide +kernel
theorem dL_would_346 : decode cL_would 346 = .ok (.iload 14, 2) := by decide +kernel
theorem dL_would_348 : decode cL_would 348 = .ok (.ifCond .eq 12, 3) := by decide +kernel
theorem dL_would_351 : decode cL_would 351 = .ok (.iload 10, 2) := by decide +kernel
theorem dL_would_353 : decode cL_would 353 = .ok (.iconst (-1), 1) := by decide +kernel
theorem dL_would_354 : decode cL_would 354 = .ok (.if_icmp .ne 142, 3) := by decide +kernel
theorem dL_would_357 : decode cL_would 357 = .ok (.goto 90, 3) := by decide +kernel
theorem dL_would_360 : decode cL_would 360 = .ok (.iload 9, 2) := by decide +kernel
theorem dL_would_362 : decode cL_would 362 = .ok (.ifCond .ne 67, 3) := by decide +kernel
theorem dL_would_365 : decode cL_would 365 = .ok (.iload 10, 2) := by decide +kernel
theorem dL_would_367 : decode cL_would 367 = .ok (.ifCond .lt 129, 3) := by decide +kernel
theorem dL_would_370 : decode cL_would 370 = .ok (.iload 10, 2) := by decide +kernel
theorem dL_would_372 : decode cL_would 372 = .ok (.aload_n 0, 1) := by decide +kernel
theorem dL_would_373 : decode cL_would 373 = .ok (.iconst 1, 1) := by decide +kernel
theorem dL_would_374 : decode cL_would 374 = .ok (.invokevirtual 13, 3) := by decide +kernel
theorem dL_would_377 : decode cL_would 377 = .ok (.if_icmp .gt 119, 3) := by decide +kernel
theorem dL_would_380 : decode cL_would 380 = .ok (.iload 11, 2) := by decide +kernel
theorem dL_would_382 : decode cL_would 382 = .ok (.bipush (-4), 2) := by decide +kernel
theorem dL_would_384 : decode cL_would 384 = .ok (.if_icmp .eq 15, 3) := by decide +kernel
theorem dL_would_387 : decode cL_would 387 = .ok (.iload 8, 2) := by decide +kernel
theorem dL_would_389 : decode cL_would 389 = .ok (.iload 11, 2) := by decide +kernel
theorem dL_would_391 : decode cL_would 391 = .ok (.if_icmp .ne 8, 3) := by decide +kernel
theorem dL_would_394 : decode cL_would 394 = .ok (.iload 10, 2) := by decide +kernel
theorem dL_would_396 : decode cL_would 396 = .ok (.ifCond .le 100, 3) := by decide +kernel
theorem dL_would_399 : decode cL_would 399 = .ok (.iload 11, 2) := by decide +kernel
theorem dL_would_401 : decode cL_would 401 = .ok (.bipush (-4), 2) := by decide +kernel
theorem dL_would_403 : decode cL_would 403 = .ok (.if_icmp .ne 11, 3) := by decide +kernel
theorem dL_would_406 : decode cL_would 406 = .ok (.iload 10, 2) := by decide +kernel
theorem dL_would_408 : decode cL_would 408 = .ok (.ifCond .ne 88, 3) := by decide +kernel
theorem dL_would_411 : decode cL_would 411 = .ok (.goto 36, 3) := by decide +kernel
theorem dL_would_414 : decode cL_would 414 = .ok (.iload 8, 2) := by decide +kernel
theorem dL_would_416 : decode cL_would 416 = .ok (.iload 11, 2) := by decide +kernel
theorem dL_would_418 : decode cL_would 418 = .ok (.if_icmp .ge 29, 3) := by decide +kernel
theorem dL_would_421 : decode cL_would 421 = .ok (.iload 10, 2) := by decide +kernel
theorem dL_would_423 : decode cL_would 423 = .ok (.ifCond .ne 73, 3) := by decide +kernel
theorem dL_would_426 : decode cL_would 426 = .ok (.goto 21, 3) := by decide +kernel
theorem dL_would_429 : decode cL_would 429 = .ok (.iload 10, 2) := by decide +kernel
theorem dL_would_431 : decode cL_would 431 = .ok (.aload_n 0, 1) := by decide +kernel
theorem dL_would_432 : decode cL_would 432 = .ok (.iconst 4, 1) := by decide +kernel
theorem dL_would_433 : decode cL_would 433 = .ok (.invokevirtual 13, 3) := by decide +kernel
theorem dL_would_436 : decode cL_would 436 = .ok (.if_icmp .lt 60, 3) := by decide +kernel
theorem dL_would_439 : decode cL_would 439 = .ok (.iload 10, 2) := by decide +kernel
theorem dL_would_441 : decode cL_would 441 = .ok (.sipush 792, 3) := by decide +kernel
theorem dL_would_444 : decode cL_would 444 = .ok (.if_icmp .gt 52, 3) := by decide +kernel
theorem dL_would_447 : decode cL_would 447 = .ok (.iload 11, 2) := by decide +kernel
theorem dL_would_449 : decode cL_would 449 = .ok (.bipush (-4), 2) := by decide +kernel
theorem dL_would_451 : decode cL_would 451 = .ok (.if_icmp .eq 15, 3) := by decide +kernel
theorem dL_would_454 : decode cL_would 454 = .ok (.iload 11, 2) := by decide +kernel
theorem dL_would_456 : decode cL_would 456 = .ok (.ifCond .lt 40, 3) := by decide +kernel
theorem dL_would_459 : decode cL_would 459 = .ok (.iload 11, 2) := by decide +kernel
theorem dL_would_461 : decode cL_would 461 = .ok (.bipush 60, 2) := by decide +kernel
theorem dL_would_463 : decode cL_would 463 = .ok (.if_icmp .gt 33, 3) := by decide +kernel
theorem dL_would_466 : decode cL_would 466 = .ok (.iload 11, 2) := by decide +kernel
theorem dL_would_468 : decode cL_would 468 = .ok (.ifCond .ne 7, 3) := by decide +kernel
theorem dL_would_471 : decode cL_would 471 = .ok (.iconst 1, 1) := by decide +kernel
theorem dL_would_472 : decode cL_would 472 = .ok (.goto 4, 3) := by decide +kernel
theorem dL_would_475 : decode cL_would 475 = .ok (.iconst 0, 1) := by decide +kernel
theorem dL_would_476 : decode cL_would 476 = .ok (.aload_n 0, 1) := by decide +kernel
theorem dL_would_477 : decode cL_would 477 = .ok (.iconst 3, 1) := by decide +kernel
theorem dL_would_478 : decode cL_would 478 = .ok (.invokevirtual 13, 3) := by decide +kernel
theorem dL_would_481 : decode cL_would 481 = .ok (.ifCond .le 7, 3) := by decide +kernel
theorem dL_would_484 : decode cL_would 484 = .ok (.iconst 1, 1) := by decide +kernel
theorem dL_would_485 : decode cL_would 485 = .ok (.goto 4, 3) := by decide +kernel
theorem dL_would_488 : decode cL_would 488 = .ok (.iconst 0, 1) := by decide +kernel
theorem dL_would_489 : decode cL_would 489 = .ok (.if_icmp .ne 7, 3) := by decide +kernel
theorem dL_would_492 : decode cL_would 492 = .ok (.iconst 1, 1) := by decide +kernel
theorem dL_would_493 : decode cL_would 493 = .ok (.goto 4, 3) := by decide +kernel
theorem dL_would_496 : decode cL_would 496 = .ok (.iconst 0, 1) := by decide +kernel
theorem dL_would_497 : decode cL_would 497 = .ok (.ireturn, 1) := by decide +kernel
theorem dL_types_0 : decode cL_types 0 = .ok (.iload_n 1, 1) := by decide +kernel
theorem dL_types_1 : decode cL_types 1 = .ok (.bipush 9, 2) := by decide +kernel
theorem dL_types_3 : decode cL_types 3 = .ok (.invokestatic 39, 3) := by decide +kernel
theorem dL_types_6 : decode cL_types 6 = .ok (.istore_n 2, 1) := by decide +kernel
theorem dL_types_7 : decode cL_types 7 = .ok (.aload_n 0, 1) := by decide +kernel
theorem dL_types_8 : decode cL_types 8 = .ok (.invokevirtual 55, 3) := by decide +kernel
theorem dL_types_11 : decode cL_types 11 = .ok (.ifCond .lt 7, 3) := by decide +kernel
theorem dL_types_14 : decode cL_types 14 = .ok (.iconst 1, 1) := by decide +kernel
theorem dL_types_15 : decode cL_types 15 = .ok (.goto 4, 3) := by decide +kernel
theorem dL_types_18 : decode cL_types 18 = .ok (.iconst 0, 1) := by decide +kernel
theorem dL_types_19 : decode cL_types 19 = .ok (.istore_n 3, 1) := by decide +kernel
theorem dL_types_20 : decode cL_types 20 = .ok (.iconst 0, 1) := by decide +kernel
theorem dL_types_21 : decode cL_types 21 = .ok (.istore 4, 2) := by decide +kernel
theorem dL_types_23 : decode cL_types 23 = .ok (.iload 4, 2) := by decide +kernel
theorem dL_types_25 : decode cL_types 25 = .ok (.iload_n 2, 1) := by decide +kernel
theorem dL_types_26 : decode cL_types 26 = .ok (.if_icmp .ge 256, 3) := by decide +kernel
theorem dL_types_29 : decode cL_types 29 = .ok (.iload_n 1, 1) := by decide +kernel
theorem dL_types_30 : decode cL_types 30 = .ok (.iconst 1, 1) := by decide +kernel
theorem dL_types_31 : decode cL_types 31 = .ok (.iconst 2, 1) := by decide +kernel
theorem dL_types_32 : decode cL_types 32 = .ok (.iload 4, 2) := by decide +kernel
theorem dL_types_34 : decode cL_types 34 = .ok (.imul, 1) := by decide +kernel
theorem dL_types_35 : decode cL_types 35 = .ok (.iadd, 1) := by decide +kernel
theorem dL_types_36 : decode cL_types 36 = .ok (.ishr, 1) := by decide +kernel
theorem dL_types_37 : decode cL_types 37 = .ok (.istore 5, 2) := by decide +kernel
theorem dL_types_39 : decode cL_types 39 = .ok (.iload 5, 2) := by decide +kernel
theorem dL_types_41 : decode cL_types 41 = .ok (.iconst 5, 1) := by decide +kernel
theorem dL_types_42 : decode cL_types 42 = .ok (.ishr, 1) := by decide +kernel
theorem dL_types_43 : decode cL_types 43 = .ok (.iconst 3, 1) := by decide +kernel
theorem dL_types_44 : decode cL_types 44 = .ok (.invokestatic 39, 3) := by decide +kernel
theorem dL_types_47 : decode cL_types 47 = .ok (.ifCond .le 18, 3) := by decide +kernel
theorem dL_types_50 : decode cL_types 50 = .ok (.iload 5, 2) := by decide +kernel
theorem dL_types_52 : decode cL_types 52 = .ok (.bipush 7, 2) := by decide +kernel
theorem dL_types_54 : decode cL_types 54 = .ok (.ishr, 1) := by decide +kernel
theorem dL_types_55 : decode cL_types 55 = .ok (.bipush 21, 2) := by decide +kernel
theorem dL_types_57 : decode cL_types 57 = .ok (.invokestatic 39, 3) := by decide +kernel
theorem dL_types_60 : decode cL_types 60 = .ok (.iconst 4, 1) := by decide +kernel
theorem dL_types_61 : decode cL_types 61 = .ok (.isub, 1) := by decide +kernel
theorem dL_types_62 : decode cL_types 62 = .ok (.goto 33, 3) := by decide +kernel
theorem dL_types_65 : decode cL_types 65 = .ok (.iload 5, 2) := by decide +kernel
theorem dL_types_67 : decode cL_types 67 = .ok (.bipush 7, 2) := by decide +kernel
theorem dL_types_69 : decode cL_types 69 = .ok (.ishr, 1) := by decide +kernel
theorem dL_types_70 : decode cL_types 70 = .ok (.iload_n 1, 1) := by decide +kernel
theorem dL_types_71 : decode cL_types 71 = .ok (.bipush 22, 2) := by decide +kernel
theorem dL_types_73 : decode cL_types 73 = .ok (.ishr, 1) := by decide +kernel
theorem dL_types_74 : decode cL_types 74 = .ok (.bipush 9, 2) := by decide +kernel
theorem dL_types_76 : decode cL_types 76 = .ok (.invokestatic 39, 3) := by decide +kernel
theorem dL_types_79 : decode cL_types 79 = .ok (.ifCond .ne 8, 3) := by decide +kernel
theorem dL_types_82 : decode cL_types 82 = .ok (.bipush 99, 2) := by decide +kernel
theorem dL_types_84 : decode cL_types 84 = .ok (.goto 5, 3) := by decide +kernel
theorem dL_types_87 : decode cL_types 87 = .ok (.bipush 91, 2) := by decide +kernel
theorem dL_types_89 : decode cL_types 89 = .ok (.invokestatic 39, 3) := by decide +kernel
theorem dL_types_92 : decode cL_types 92 = .ok (.bipush 30, 2) := by decide +kernel
theorem dL_types_94 : decode cL_types 94 = .ok (.isub, 1) := by decide +kernel
theorem dL_types_95 : decode cL_types 95 = .ok (.istore 6, 2) := by decide +kernel
theorem dL_types_97 : decode cL_types 97 = .ok (.iload 6, 2) := by decide +kernel
theorem dL_types_99 : decode cL_types 99 = .ok (.ifCond .ge 9, 3) := by decide +kernel
theorem dL_types_102 : decode cL_types 102 = .ok (.iload 6, 2) := by decide +kernel
theorem dL_types_104 : decode cL_types 104 = .ok (.ineg, 1) := by decide +kernel
theorem dL_types_105 : decode cL_types 105 = .ok (.goto 5, 3) := by decide +kernel
theorem dL_types_108 : decode cL_types 108 = .ok (.iload 6, 2) := by decide +kernel
theorem dL_types_110 : decode cL_types 110 = .ok (.istore 7, 2) := by decide +kernel
theorem dL_types_112 : decode cL_types 112 = .ok (.iload_n 3, 1) := by decide +kernel
theorem dL_types_113 : decode cL_types 113 = .ok (.ifCond .eq 161, 3) := by decide +kernel
theorem dL_types_116 : decode cL_types 116 = .ok (.iload 4, 2) := by decide +kernel
theorem dL_types_118 : decode cL_types 118 = .ok (.ifCond .eq 12, 3) := by decide +kernel
theorem dL_types_121 : decode cL_types 121 = .ok (.aload_n 0, 1) := by decide +kernel
theorem dL_types_122 : decode cL_types 122 = .ok (.bipush 59, 2) := by decide +kernel
theorem dL_types_124 : decode cL_types 124 = .ok (.invokevirtual 58, 3) := by decide +kernel
theorem dL_types_127 : decode cL_types 127 = .ok (.ifCond .le 147, 3) := by decide +kernel
theorem dL_types_130 : decode cL_types 130 = .ok (.aload_n 0, 1) := by decide +kernel
theorem dL_types_131 : decode cL_types 131 = .ok (.bipush 48, 2) := by decide +kernel
theorem dL_types_133 : decode cL_types 133 = .ok (.iload 5, 2) := by decide +kernel
theorem dL_types_135 : decode cL_types 135 = .ok (.iload_n 1, 1) := by decide +kernel
theorem dL_types_136 : decode cL_types 136 = .ok (.bipush 23, 2) := by decide +kernel
theorem dL_types_138 : decode cL_types 138 = .ok (.ishr, 1) := by decide +kernel
theorem dL_types_139 : decode cL_types 139 = .ok (.bipush 9, 2) := by decide +kernel
theorem dL_types_141 : decode cL_types 141 = .ok (.invokestatic 39, 3) := by decide +kernel
theorem dL_types_144 : decode cL_types 144 = .ok (.ifCond .ne 8, 3) := by decide +kernel
theorem dL_types_147 : decode cL_types 147 = .ok (.bipush 9, 2) := by decide +kernel
theorem dL_types_149 : decode cL_types 149 = .ok (.goto 5, 3) := by decide +kernel
theorem dL_types_152 : decode cL_types 152 = .ok (.bipush 8, 2) := by decide +kernel
theorem dL_types_154 : decode cL_types 154 = .ok (.invokestatic 39, 3) := by decide +kernel
theorem dL_types_157 : decode cL_types 157 = .ok (.iadd, 1) := by decide +kernel
theorem dL_types_158 : decode cL_types 158 = .ok (.invokevirtual 58, 3) := by decide +kernel
theorem dL_types_161 : decode cL_types 161 = .ok (.ifCond .le 113, 3) := by decide +kernel
theorem dL_types_164 : decode cL_types 164 = .ok (.aload_n 0, 1) := by decide +kernel
theorem dL_types_165 : decode cL_types 165 = .ok (.bipush 60, 2) := by decide +kernel
theorem dL_types_167 : decode cL_types 167 = .ok (.invokevirtual 58, 3) := by decide +kernel
theorem dL_types_170 : decode cL_types 170 = .ok (.ifCond .le 104, 3) := by decide +kernel
theorem dL_types_173 : decode cL_types 173 = .ok (.aload_n 0, 1) := by decide +kernel
theorem dL_types_174 : decode cL_types 174 = .ok (.bipush 48, 2) := by decide +kernel
theorem dL_types_176 : decode cL_types 176 = .ok (.iload 5, 2) := by decide +kernel
theorem dL_types_178 : decode cL_types 178 = .ok (.iconst 3, 1) := by decide +kernel
theorem dL_types_179 : decode cL_types 179 = .ok (.ishr, 1) := by decide +kernel
theorem dL_types_180 : decode cL_types 180 = .ok (.iload_n 1, 1) := by decide +kernel
theorem dL_types_181 : decode cL_types 181 = .ok (.bipush 24, 2) := by decide +kernel
theorem dL_types_183 : decode cL_types 183 = .ok (.ishr, 1) := by decide +kernel
theorem dL_types_184 : decode cL_types 184 = .ok (.bipush 9, 2) := by decide +kernel
theorem dL_types_186 : decode cL_types 186 = .ok (.invokestatic 39, 3) := by decide +kernel
theorem dL_types_189 : decode cL_types 189 = .ok (.ifCond .ne 8, 3) := by decide +kernel
theorem dL_types_192 : decode cL_types 192 = .ok (.bipush 9, 2) := by decide +kernel
theorem dL_types_194 : decode cL_types 194 = .ok (.goto 5, 3) := by decide +kernel
theorem dL_types_197 : decode cL_types 197 = .ok (.bipush 8, 2) := by decide +kernel
theorem dL_types_199 : decode cL_types 199 = .ok (.invokestatic 39, 3) := by decide +kernel
theorem dL_types_202 : decode cL_types 202 = .ok (.iadd, 1) := by decide +kernel
theorem dL_types_203 : decode cL_types 203 = .ok (.invokevirtual 58, 3) := by decide +kernel
theorem dL_types_206 : decode cL_types 206 = .ok (.ifCond .le 68, 3) := by decide +kernel
theorem dL_types_209 : decode cL_types 209 = .ok (.iload 6, 2) := by decide +kernel
theorem dL_types_211 : decode cL_types 211 = .ok (.ifCond .eq 59, 3) := by decide +kernel
theorem dL_types_214 : decode cL_types 214 = .ok (.aload_n 0, 1) := by decide +kernel
theorem dL_types_215 : decode cL_types 215 = .ok (.iload 6, 2) := by decide +kernel
theorem dL_types_217 : decode cL_types 217 = .ok (.ifCond .ge 8, 3) := by decide +kernel
theorem dL_types_220 : decode cL_types 220 = .ok (.bipush 45, 2) := by decide +kernel
theorem dL_types_222 : decode cL_types 222 = .ok (.goto 5, 3) := by decide +kernel
theorem dL_types_225 : decode cL_types 225 = .ok (.bipush 43, 2) := by decide +kernel
theorem dL_types_227 : decode cL_types 227 = .ok (.invokevirtual 58, 3) := by decide +kernel
theorem dL_types_230 : decode cL_types 230 = .ok (.ifCond .le 44, 3) := by decide +kernel
theorem dL_types_233 : decode cL_types 233 = .ok (.iload 7, 2) := by decide +kernel
theorem dL_types_235 : decode cL_types 235 = .ok (.bipush 10, 2) := by decide +kernel
theorem dL_types_237 : decode cL_types 237 = .ok (.if_icmp .lt 18, 3) := by decide +kernel
theorem dL_types_240 : decode cL_types 240 = .ok (.aload_n 0, 1) := by decide +kernel
theorem dL_types_241 : decode cL_types 241 = .ok (.bipush 48, 2) := by decide +kernel
theorem dL_types_243 : decode cL_types 243 = .ok (.iload 7, 2) := by decide +kernel
theorem dL_types_245 : decode cL_types 245 = .ok (.bipush 10, 2) := by decide +kernel
theorem dL_types_247 : decode cL_types 247 = .ok (.idiv, 1) := by decide +kernel
theorem dL_types_248 : decode cL_types 248 = .ok (.iadd, 1) := by decide +kernel
theorem dL_types_249 : decode cL_types 249 = .ok (.invokevirtual 58, 3) := by decide +kernel
theorem dL_types_252 : decode cL_types 252 = .ok (.ifCond .le 22, 3) := by decide +kernel
theorem dL_types_255 : decode cL_types 255 = .ok (.aload_n 0, 1) := by decide +kernel
theorem dL_types_256 : decode cL_types 256 = .ok (.bipush 48, 2) := by decide +kernel
theorem dL_types_258 : decode cL_types 258 = .ok (.iload 7, 2) := by decide +kernel
theorem dL_types_260 : decode cL_types 260 = .ok (.bipush 10, 2) := by decide +kernel
theorem dL_types_262 : decode cL_types 262 = .ok (.irem, 1) := by decide +kernel
theorem dL_types_263 : decode cL_types 263 = .ok (.iadd, 1) := by decide +kernel
theorem dL_types_264 : decode cL_types 264 = .ok (.invokevirtual 58, 3) := by decide +kernel
theorem dL_types_267 : decode cL_types 267 = .ok (.ifCond .le 7, 3) := by decide +kernel
theorem dL_types_270 : decode cL_types 270 = .ok (.iconst 1, 1) := by decide +kernel
theorem dL_types_271 : decode cL_types 271 = .ok (.goto 4, 3) := by decide +kernel
theorem dL_types_274 : decode cL_types 274 = .ok (.iconst 0, 1) := by decide +kernel
theorem dL_types_275 : decode cL_types 275 = .ok (.istore_n 3, 1) := by decide +kernel
theorem dL_types_276 : decode cL_types 276 = .ok (.iinc 4 1, 3) := by decide +kernel
theorem dL_types_279 : decode cL_types 279 = .ok (.goto (-256), 3) := by decide +kernel
theorem dL_types_282 : decode cL_types 282 = .ok (.iload_n 3, 1) := by decide +kernel
theorem dL_types_283 : decode cL_types 283 = .ok (.ifCond .eq 28, 3) := by decide +kernel
theorem dL_types_286 : decode cL_types 286 = .ok (.iload_n 1, 1) := by decide +kernel
theorem dL_types_287 : decode cL_types 287 = .ok (.bipush 26, 2) := by decide +kernel
theorem dL_types_289 : decode cL_types 289 = .ok (.ishr, 1) := by decide +kernel
theorem dL_types_290 : decode cL_types 290 = .ok (.bipush 6, 2) := by decide +kernel
theorem dL_types_292 : decode cL_types 292 = .ok (.invokestatic 39, 3) := by decide +kernel
theorem dL_types_295 : decode cL_types 295 = .ok (.ifCond .gt 12, 3) := by decide +kernel
theorem dL_types_298 : decode cL_types 298 = .ok (.aload_n 0, 1) := by decide +kernel
theorem dL_types_299 : decode cL_types 299 = .ok (.bipush 59, 2) := by decide +kernel
theorem dL_types_301 : decode cL_types 301 = .ok (.invokevirtual 58, 3) := by decide +kernel
theorem dL_types_304 : decode cL_types 304 = .ok (.ifCond .le 7, 3) := by decide +kernel
theorem dL_types_307 : decode cL_types 307 = .ok (.iconst 1, 1) := by decide +kernel
theorem dL_types_308 : decode cL_types 308 = .ok (.goto 4, 3) := by decide +kernel
theorem dL_types_311 : decode cL_types 311 = .ok (.iconst 0, 1) := by decide +kernel
theorem dL_types_312 : decode cL_types 312 = .ok (.ireturn, 1) := by decide +kernel
theorem dL_signs_0 : decode cL_signs 0 = .ok (.iload_n 1, 1) := by decide +kernel
theorem dL_signs_1 : decode cL_signs 1 = .ok (.bipush 9, 2) := by decide +kernel
theorem dL_signs_3 : decode cL_signs 3 = .ok (.invokestatic 39, 3) := by decide +kernel
theorem dL_signs_6 : decode cL_signs 6 = .ok (.istore_n 2, 1) := by decide +kernel
theorem dL_signs_7 : decode cL_signs 7 = .ok (.aload_n 0, 1) := by decide +kernel
theorem dL_signs_8 : decode cL_signs 8 = .ok (.iload_n 1, 1) := by decide +kernel
theorem dL_signs_9 : decode cL_signs 9 = .ok (.invokestatic 61, 3) := by decide +kernel
theorem dL_signs_12 : decode cL_signs 12 = .ok (.istore_n 3, 1) := by decide +kernel
theorem dL_signs_13 : decode cL_signs 13 = .ok (.aload_n 0, 1) := by decide +kernel
theorem dL_signs_14 : decode cL_signs 14 = .ok (.invokestatic 65, 3) := by decide +kernel
theorem dL_signs_17 : decode cL_signs 17 = .ok (.lstore 4, 2) := by decide +kernel
theorem dL_signs_19 : decode cL_signs 19 = .ok (.aload_n 0, 1) := by decide +kernel
theorem dL_signs_20 : decode cL_signs 20 = .ok (.bipush 12, 2) := by decide +kernel
theorem dL_signs_22 : decode cL_signs 22 = .ok (.invokevirtual 13, 3) := by decide +kernel
theorem dL_signs_25 : decode cL_signs 25 = .ok (.istore 6, 2) := by decide +kernel
theorem dL_signs_27 : decode cL_signs 27 = .ok (.aload_n 0, 1) := by decide +kernel
theorem dL_signs_28 : decode cL_signs 28 = .ok (.iconst 1, 1) := by decide +kernel
theorem dL_signs_29 : decode cL_signs 29 = .ok (.invokevirtual 13, 3) := by decide +kernel
theorem dL_signs_32 : decode cL_signs 32 = .ok (.istore 7, 2) := by decide +kernel
theorem dL_signs_34 : decode cL_signs 34 = .ok (.aload_n 0, 1) := by decide +kernel
theorem dL_signs_35 : decode cL_signs 35 = .ok (.bipush 7, 2) := by decide +kernel
theorem dL_signs_37 : decode cL_signs 37 = .ok (.invokevirtual 13, 3) := by decide +kernel
theorem dL_signs_40 : decode cL_signs 40 = .ok (.istore 8, 2) := by decide +kernel
theorem dL_signs_42 : decode cL_signs 42 = .ok (.aload_n 0, 1) := by decide +kernel
theorem dL_signs_43 : decode cL_signs 43 = .ok (.bipush 8, 2) := by decide +kernel
theorem dL_signs_45 : decode cL_signs 45 = .ok (.invokevirtual 13, 3) := by decide +kernel
theorem dL_signs_48 : decode cL_signs 48 = .ok (.istore 9, 2) := by decide +kernel
theorem dL_signs_50 : decode cL_signs 50 = .ok (.aload_n 0, 1) := by decide +kernel
theorem dL_signs_51 : decode cL_signs 51 = .ok (.bipush 11, 2) := by decide +kernel
theorem dL_signs_53 : decode cL_signs 53 = .ok (.invokevirtual 13, 3) := by decide +kernel
theorem dL_signs_56 : decode cL_signs 56 = .ok (.istore 10, 2) := by decide +kernel
theorem dL_signs_58 : decode cL_signs 58 = .ok (.aload_n 0, 1) := by decide +kernel
theorem dL_signs_59 : decode cL_signs 59 = .ok (.invokevirtual 69, 3) := by decide +kernel
theorem dL_signs_62 : decode cL_signs 62 = .ok (.istore 11, 2) := by decide +kernel
theorem dL_signs_64 : decode cL_signs 64 = .ok (.aload_n 0, 1) := by decide +kernel
theorem dL_signs_65 : decode cL_signs 65 = .ok (.invokevirtual 72, 3) := by decide +kernel
theorem dL_signs_68 : decode cL_signs 68 = .ok (.istore 12, 2) := by decide +kernel
theorem dL_signs_70 : decode cL_signs 70 = .ok (.aload_n 0, 1) := by decide +kernel
theorem dL_signs_71 : decode cL_signs 71 = .ok (.invokevirtual 55, 3) := by decide +kernel
theorem dL_signs_74 : decode cL_signs 74 = .ok (.istore 13, 2) := by decide +kernel
theorem dL_signs_76 : decode cL_signs 76 = .ok (.iload_n 3, 1) := by decide +kernel
theorem dL_signs_77 : decode cL_signs 77 = .ok (.ifCond .eq 34, 3) := by decide +kernel
theorem dL_signs_80 : decode cL_signs 80 = .ok (.iload 12, 2) := by decide +kernel
theorem dL_signs_82 : decode cL_signs 82 = .ok (.bipush (-2), 2) := by decide +kernel
theorem dL_signs_84 : decode cL_signs 84 = .ok (.if_icmp .ne 7, 3) := by decide +kernel
theorem dL_signs_87 : decode cL_signs 87 = .ok (.iconst 1, 1) := by decide +kernel
theorem dL_signs_88 : decode cL_signs 88 = .ok (.goto 4, 3) := by decide +kernel
theorem dL_signs_91 : decode cL_signs 91 = .ok (.iconst 0, 1) := by decide +kernel
theorem dL_signs_92 : decode cL_signs 92 = .ok (.iload 11, 2) := by decide +kernel
theorem dL_signs_94 : decode cL_signs 94 = .ok (.bipush (-4), 2) := by decide +kernel
theorem dL_signs_96 : decode cL_signs 96 = .ok (.if_icmp .eq 7, 3) := by decide +kernel
theorem dL_signs_99 : decode cL_signs 99 = .ok (.iconst 1, 1) := by decide +kernel
theorem dL_signs_100 : decode cL_signs 100 = .ok (.goto 4, 3) := by decide +kernel
theorem dL_signs_103 : decode cL_signs 103 = .ok (.iconst 0, 1) := by decide +kernel
theorem dL_signs_104 : decode cL_signs 104 = .ok (.if_icmp .ne 7, 3) := by decide +kernel
theorem dL_signs_107 : decode cL_signs 107 = .ok (.iconst 1, 1) := by decide +kernel
theorem dL_signs_108 : decode cL_signs 108 = .ok (.goto 4, 3) := by decide +kernel
theorem dL_signs_111 : decode cL_signs 111 = .ok (.iconst 0, 1) := by decide +kernel
theorem dL_signs_112 : decode cL_signs 112 = .ok (.istore 14, 2) := by decide +kernel
theorem dL_signs_114 : decode cL_signs 114 = .ok (.iload 12, 2) := by decide +kernel
theorem dL_signs_116 : decode cL_signs 116 = .ok (.ifCond .ge 54, 3) := by decide +kernel
theorem dL_signs_119 : decode cL_signs 119 = .ok (.iload 14, 2) := by decide +kernel
theorem dL_signs_121 : decode cL_signs 121 = .ok (.ifCond .eq 47, 3) := by decide +kernel
theorem dL_signs_124 : decode cL_signs 124 = .ok (.iload 11, 2) := by decide +kernel
theorem dL_signs_126 : decode cL_signs 126 = .ok (.ifCond .lt 42, 3) := by decide +kernel
theorem dL_signs_129 : decode cL_signs 129 = .ok (.iload 11, 2) := by decide +kernel
theorem dL_signs_131 : decode cL_signs 131 = .ok (.iload 10, 2) := by decide +kernel
theorem dL_signs_133 : decode cL_signs 133 = .ok (.if_icmp .gt 35, 3) := by decide +kernel
theorem dL_signs_136 : decode cL_signs 136 = .ok (.iload 13, 2) := by decide +kernel
theorem dL_signs_138 : decode cL_signs 138 = .ok (.iload 10, 2) := by decide +kernel
theorem dL_signs_140 : decode cL_signs 140 = .ok (.if_icmp .ne 28, 3) := by decide +kernel
theorem dL_signs_143 : decode cL_signs 143 = .ok (.aload_n 0, 1) := by decide +kernel
theorem dL_signs_144 : decode cL_signs 144 = .ok (.invokestatic 65, 3) := by decide +kernel
theorem dL_signs_147 : decode cL_signs 147 = .ok (.lload 4, 2) := by decide +kernel
theorem dL_signs_149 : decode cL_signs 149 = .ok (.lcmp, 1) := by decide +kernel
theorem dL_signs_150 : decode cL_signs 150 = .ok (.ifCond .ne 18, 3) := by decide +kernel
theorem dL_signs_153 : decode cL_signs 153 = .ok (.aload_n 0, 1) := by decide +kernel
theorem dL_signs_154 : decode cL_signs 154 = .ok (.bipush 12, 2) := by decide +kernel
theorem dL_signs_156 : decode cL_signs 156 = .ok (.invokevirtual 13, 3) := by decide +kernel
theorem dL_signs_159 : decode cL_signs 159 = .ok (.iload 6, 2) := by decide +kernel
theorem dL_signs_161 : decode cL_signs 161 = .ok (.if_icmp .ne 7, 3) := by decide +kernel
theorem dL_signs_164 : decode cL_signs 164 = .ok (.iconst 1, 1) := by decide +kernel
theorem dL_signs_165 : decode cL_signs 165 = .ok (.goto 4, 3) := by decide +kernel
theorem dL_signs_168 : decode cL_signs 168 = .ok (.iconst 0, 1) := by decide +kernel
theorem dL_signs_169 : decode cL_signs 169 = .ok (.ireturn, 1) := by decide +kernel
theorem dL_signs_170 : decode cL_signs 170 = .ok (.aload_n 0, 1) := by decide +kernel
theorem dL_signs_171 : decode cL_signs 171 = .ok (.iconst 0, 1) := by decide +kernel
theorem dL_signs_172 : decode cL_signs 172 = .ok (.invokevirtual 75, 3) := by decide +kernel
theorem dL_signs_175 : decode cL_signs 175 = .ok (.istore 15, 2) := by decide +kernel
theorem dL_signs_177 : decode cL_signs 177 = .ok (.iload 14, 2) := by decide +kernel
theorem dL_signs_179 : decode cL_signs 179 = .ok (.ifCond .eq 180, 3) := by decide +kernel
theorem dL_signs_182 : decode cL_signs 182 = .ok (.iload 12, 2) := by decide +kernel
theorem dL_signs_184 : decode cL_signs 184 = .ok (.iload_n 2, 1) := by decide +kernel
theorem dL_signs_185 : decode cL_signs 185 = .ok (.if_icmp .gt 174, 3) := by decide +kernel
theorem dL_signs_188 : decode cL_signs 188 = .ok (.iload 13, 2) := by decide +kernel
theorem dL_signs_190 : decode cL_signs 190 = .ok (.ifCond .ne 169, 3) := by decide +kernel
theorem dL_signs_193 : decode cL_signs 193 = .ok (.aload_n 0, 1) := by decide +kernel
theorem dL_signs_194 : decode cL_signs 194 = .ok (.bipush 12, 2) := by decide +kernel
theorem dL_signs_196 : decode cL_signs 196 = .ok (.invokevirtual 13, 3) := by decide +kernel
theorem dL_signs_199 : decode cL_signs 199 = .ok (.iload 6, 2) := by decide +kernel
theorem dL_signs_201 : decode cL_signs 201 = .ok (.iconst 4, 1) := by decide +kernel
theorem dL_signs_202 : decode cL_signs 202 = .ok (.if_icmp .ge 10, 3) := by decide +kernel
theorem dL_signs_205 : decode cL_signs 205 = .ok (.iload 6, 2) := by decide +kernel
theorem dL_signs_207 : decode cL_signs 207 = .ok (.iconst 1, 1) := by decide +kernel
theorem dL_signs_208 : decode cL_signs 208 = .ok (.iadd, 1) := by decide +kernel
theorem dL_signs_209 : decode cL_signs 209 = .ok (.goto 4, 3) := by decide +kernel
theorem dL_signs_212 : decode cL_signs 212 = .ok (.iconst 4, 1) := by decide +kernel
theorem dL_signs_213 : decode cL_signs 213 = .ok (.if_icmp .ne 146, 3) := by decide +kernel
theorem dL_signs_216 : decode cL_signs 216 = .ok (.aload_n 0, 1) := by decide +kernel
theorem dL_signs_217 : decode cL_signs 217 = .ok (.iconst 1, 1) := by decide +kernel
theorem dL_signs_218 : decode cL_signs 218 = .ok (.invokevirtual 13, 3) := by decide +kernel
theorem dL_signs_221 : decode cL_signs 221 = .ok (.iload 7, 2) := by decide +kernel
theorem dL_signs_223 : decode cL_signs 223 = .ok (.iload 12, 2) := by decide +kernel
theorem dL_signs_225 : decode cL_signs 225 = .ok (.iadd, 1) := by decide +kernel
theorem dL_signs_226 : decode cL_signs 226 = .ok (.if_icmp .ne 133, 3) := by decide +kernel
theorem dL_signs_229 : decode cL_signs 229 = .ok (.aload_n 0, 1) := by decide +kernel
theorem dL_signs_230 : decode cL_signs 230 = .ok (.bipush 7, 2) := by decide +kernel
theorem dL_signs_232 : decode cL_signs 232 = .ok (.invokevirtual 13, 3) := by decide +kernel
theorem dL_signs_235 : decode cL_signs 235 = .ok (.iload 8, 2) := by decide +kernel
theorem dL_signs_237 : decode cL_signs 237 = .ok (.iload 12, 2) := by decide +kernel
theorem dL_signs_239 : decode cL_signs 239 = .ok (.iadd, 1) := by decide +kernel
theorem dL_signs_240 : decode cL_signs 240 = .ok (.if_icmp .ne 119, 3) := by decide +kernel
theorem dL_signs_243 : decode cL_signs 243 = .ok (.aload_n 0, 1) := by decide +kernel
theorem dL_signs_244 : decode cL_signs 244 = .ok (.bipush 8, 2) := by decide +kernel
theorem dL_signs_246 : decode cL_signs 246 = .ok (.invokevirtual 13, 3) := by decide +kernel
theorem dL_signs_249 : decode cL_signs 249 = .ok (.iload 9, 2) := by decide +kernel
theorem dL_signs_251 : decode cL_signs 251 = .ok (.iload 15, 2) := by decide +kernel
theorem dL_signs_253 : decode cL_signs 253 = .ok (.ifCond .le 7, 3) := by decide +kernel
theorem dL_signs_256 : decode cL_signs 256 = .ok (.iconst 1, 1) := by decide +kernel
theorem dL_signs_257 : decode cL_signs 257 = .ok (.goto 4, 3) := by decide +kernel
theorem dL_signs_260 : decode cL_signs 260 = .ok (.iconst 0, 1) := by decide +kernel
theorem dL_signs_261 : decode cL_signs 261 = .ok (.iadd, 1) := by decide +kernel
theorem dL_signs_262 : decode cL_signs 262 = .ok (.if_icmp .ne 97, 3) := by decide +kernel
theorem dL_signs_265 : decode cL_signs 265 = .ok (.iload 12, 2) := by decide +kernel
theorem dL_signs_267 : decode cL_signs 267 = .ok (.iload_n 2, 1) := by decide +kernel
theorem dL_signs_268 : decode cL_signs 268 = .ok (.if_icmp .ne 7, 3) := by decide +kernel
theorem dL_signs_271 : decode cL_signs 271 = .ok (.iconst 1, 1) := by decide +kernel
theorem dL_signs_272 : decode cL_signs 272 = .ok (.goto 4, 3) := by decide +kernel
theorem dL_signs_275 : decode cL_signs 275 = .ok (.iconst 0, 1) := by decide +kernel
theorem dL_signs_276 : decode cL_signs 276 = .ok (.iload 15, 2) := by decide +kernel
theorem dL_signs_278 : decode cL_signs 278 = .ok (.bipush (-4), 2) := by decide +kernel
theorem dL_signs_280 : decode cL_signs 280 = .ok (.if_icmp .ne 7, 3) := by decide +kernel
theorem dL_signs_283 : decode cL_signs 283 = .ok (.iconst 1, 1) := by decide +kernel
theorem dL_signs_284 : decode cL_signs 284 = .ok (.goto 4, 3) := by decide +kernel
theorem dL_signs_287 : decode cL_signs 287 = .ok (.iconst 0, 1) := by decide +kernel
theorem dL_signs_288 : decode cL_signs 288 = .ok (.if_icmp .ne 71, 3) := by decide +kernel
theorem dL_signs_291 : decode cL_signs 291 = .ok (.iload 15, 2) := by decide +kernel
theorem dL_signs_293 : decode cL_signs 293 = .ok (.bipush (-4), 2) := by decide +kernel
theorem dL_signs_295 : decode cL_signs 295 = .ok (.if_icmp .eq 60, 3) := by decide +kernel
theorem dL_signs_298 : decode cL_signs 298 = .ok (.iload 15, 2) := by decide +kernel
theorem dL_signs_300 : decode cL_signs 300 = .ok (.iconst 1, 1) := by decide +kernel
theorem dL_signs_301 : decode cL_signs 301 = .ok (.if_icmp .eq 22, 3) := by decide +kernel
theorem dL_signs_304 : decode cL_signs 304 = .ok (.iload 15, 2) := by decide +kernel
theorem dL_signs_306 : decode cL_signs 306 = .ok (.iconst 2, 1) := by decide +kernel
theorem dL_signs_307 : decode cL_signs 307 = .ok (.if_icmp .eq 16, 3) := by decide +kernel
theorem dL_signs_310 : decode cL_signs 310 = .ok (.iload 15, 2) := by decide +kernel
theorem dL_signs_312 : decode cL_signs 312 = .ok (.iconst (-1), 1) := by decide +kernel
theorem dL_signs_313 : decode cL_signs 313 = .ok (.if_icmp .eq 10, 3) := by decide +kernel
theorem dL_signs_316 : decode cL_signs 316 = .ok (.iload 15, 2) := by decide +kernel
theorem dL_signs_318 : decode cL_signs 318 = .ok (.bipush (-3), 2) := by decide +kernel
theorem dL_signs_320 : decode cL_signs 320 = .ok (.if_icmp .ne 39, 3) := by decide +kernel
theorem dL_signs_323 : decode cL_signs 323 = .ok (.aload_n 0, 1) := by decide +kernel
theorem dL_signs_324 : decode cL_signs 324 = .ok (.iconst 1, 1) := by decide +kernel
theorem dL_signs_325 : decode cL_signs 325 = .ok (.invokevirtual 75, 3) := by decide +kernel
theorem dL_signs_328 : decode cL_signs 328 = .ok (.iload 12, 2) := by decide +kernel
theorem dL_signs_330 : decode cL_signs 330 = .ok (.if_icmp .ne 29, 3) := by decide +kernel
theorem dL_signs_333 : decode cL_signs 333 = .ok (.aload_n 0, 1) := by decide +kernel
theorem dL_signs_334 : decode cL_signs 334 = .ok (.iconst 2, 1) := by decide +kernel
theorem dL_signs_335 : decode cL_signs 335 = .ok (.invokevirtual 75, 3) := by decide +kernel
theorem dL_signs_338 : decode cL_signs 338 = .ok (.iconst 4, 1) := by decide +kernel
theorem dL_signs_339 : decode cL_signs 339 = .ok (.iload 12, 2) := by decide +kernel
theorem dL_signs_341 : decode cL_signs 341 = .ok (.imul, 1) := by decide +kernel
theorem dL_signs_342 : decode cL_signs 342 = .ok (.if_icmp .lt 17, 3) := by decide +kernel
theorem dL_signs_345 : decode cL_signs 345 = .ok (.aload_n 0, 1) := by decide +kernel
theorem dL_signs_346 : decode cL_signs 346 = .ok (.iconst 2, 1) := by decide +kernel
theorem dL_signs_347 : decode cL_signs 347 = .ok (.invokevirtual 75, 3) := by decide +kernel
theorem dL_signs_350 : decode cL_signs 350 = .ok (.iload 10, 2) := by decide +kernel
theorem dL_signs_352 : decode cL_signs 352 = .ok (.if_icmp .ge 7, 3) := by decide +kernel
theorem dL_signs_355 : decode cL_signs 355 = .ok (.iconst 1, 1) := by decide +kernel
theorem dL_signs_356 : decode cL_signs 356 = .ok (.goto 4, 3) := by decide +kernel
theorem dL_signs_359 : decode cL_signs 359 = .ok (.iconst 0, 1) := by decide +kernel
theorem dL_signs_360 : decode cL_signs 360 = .ok (.ireturn, 1) := by decide +kernel
theorem dL_garden_0 : decode cL_garden 0 = .ok (.iload_n 2, 1) := by decide +kernel
theorem dL_garden_1 : decode cL_garden 1 = .ok (.iload_n 2, 1) := by decide +kernel
theorem dL_garden_2 : decode cL_garden 2 = .ok (.bipush 14, 2) := by decide +kernel
theorem dL_garden_4 : decode cL_garden 4 = .ok (.ishr, 1) := by decide +kernel
theorem dL_garden_5 : decode cL_garden 5 = .ok (.bipush 9, 2) := by decide +kernel
theorem dL_garden_7 : decode cL_garden 7 = .ok (.invokestatic 39, 3) := by decide +kernel
theorem dL_garden_10 : decode cL_garden 10 = .ok (.ifCond .ne 8, 3) := by decide +kernel
theorem dL_garden_13 : decode cL_garden 13 = .ok (.bipush 9, 2) := by decide +kernel
theorem dL_garden_15 : decode cL_garden 15 = .ok (.goto 5, 3) := by decide +kernel
theorem dL_garden_18 : decode cL_garden 18 = .ok (.bipush 8, 2) := by decide +kernel
theorem dL_garden_20 : decode cL_garden 20 = .ok (.invokestatic 39, 3) := by decide +kernel
theorem dL_garden_23 : decode cL_garden 23 = .ok (.istore_n 3, 1) := by decide +kernel
theorem dL_garden_24 : decode cL_garden 24 = .ok (.iload_n 3, 1) := by decide +kernel
theorem dL_garden_25 : decode cL_garden 25 = .ok (.bipush 8, 2) := by decide +kernel
theorem dL_garden_27 : decode cL_garden 27 = .ok (.if_icmp .ne 7, 3) := by decide +kernel
theorem dL_garden_30 : decode cL_garden 30 = .ok (.iconst 1, 1) := by decide +kernel
theorem dL_garden_31 : decode cL_garden 31 = .ok (.goto 4, 3) := by decide +kernel
theorem dL_garden_34 : decode cL_garden 34 = .ok (.iconst 0, 1) := by decide +kernel
theorem dL_garden_35 : decode cL_garden 35 = .ok (.istore 4, 2) := by decide +kernel
theorem dL_garden_37 : decode cL_garden 37 = .ok (.iload_n 1, 1) := by decide +kernel
theorem dL_garden_38 : decode cL_garden 38 = .ok (.ifCond .ne 118, 3) := by decide +kernel
theorem dL_garden_41 : decode cL_garden 41 = .ok (.iload_n 2, 1) := by decide +kernel
theorem dL_garden_42 : decode cL_garden 42 = .ok (.iconst 3, 1) := by decide +kernel
theorem dL_garden_43 : decode cL_garden 43 = .ok (.ishr, 1) := by decide +kernel
theorem dL_garden_44 : decode cL_garden 44 = .ok (.iload_n 2, 1) := by decide +kernel
theorem dL_garden_45 : decode cL_garden 45 = .ok (.bipush 11, 2) := by decide +kernel
theorem dL_garden_47 : decode cL_garden 47 = .ok (.ishr, 1) := by decide +kernel
theorem dL_garden_48 : decode cL_garden 48 = .ok (.iconst 4, 1) := by decide +kernel
theorem dL_garden_49 : decode cL_garden 49 = .ok (.invokestatic 39, 3) := by decide +kernel
theorem dL_garden_52 : decode cL_garden 52 = .ok (.ifCond .ne 8, 3) := by decide +kernel
theorem dL_garden_55 : decode cL_garden 55 = .ok (.bipush 101, 2) := by decide +kernel
theorem dL_garden_57 : decode cL_garden 57 = .ok (.goto 5, 3) := by decide +kernel
theorem dL_garden_60 : decode cL_garden 60 = .ok (.bipush 25, 2) := by decide +kernel
theorem dL_garden_62 : decode cL_garden 62 = .ok (.invokestatic 39, 3) := by decide +kernel
theorem dL_garden_65 : decode cL_garden 65 = .ok (.istore 5, 2) := by decide +kernel
theorem dL_garden_67 : decode cL_garden 67 = .ok (.iload 4, 2) := by decide +kernel
theorem dL_garden_69 : decode cL_garden 69 = .ok (.ifCond .eq 7, 3) := by decide +kernel
theorem dL_garden_72 : decode cL_garden 72 = .ok (.iconst 0, 1) := by decide +kernel
theorem dL_garden_73 : decode cL_garden 73 = .ok (.goto 9, 3) := by decide +kernel
theorem dL_garden_76 : decode cL_garden 76 = .ok (.aload_n 0, 1) := by decide +kernel
theorem dL_garden_77 : decode cL_garden 77 = .ok (.iload_n 3, 1) := by decide +kernel
theorem dL_garden_78 : decode cL_garden 78 = .ok (.iconst 0, 1) := by decide +kernel
theorem dL_garden_79 : decode cL_garden 79 = .ok (.invokevirtual 19, 3) := by decide +kernel
theorem dL_garden_82 : decode cL_garden 82 = .ok (.istore 6, 2) := by decide +kernel
theorem dL_garden_84 : decode cL_garden 84 = .ok (.iload 4, 2) := by decide +kernel
theorem dL_garden_86 : decode cL_garden 86 = .ok (.ifCond .ne 10, 3) := by decide +kernel
theorem dL_garden_89 : decode cL_garden 89 = .ok (.iload 5, 2) := by decide +kernel
theorem dL_garden_91 : decode cL_garden 91 = .ok (.bipush 100, 2) := by decide +kernel
theorem dL_garden_93 : decode cL_garden 93 = .ok (.if_icmp .ne 7, 3) := by decide +kernel
theorem dL_garden_96 : decode cL_garden 96 = .ok (.iconst 1, 1) := by decide +kernel
theorem dL_garden_97 : decode cL_garden 97 = .ok (.goto 4, 3) := by decide +kernel
theorem dL_garden_100 : decode cL_garden 100 = .ok (.iconst 0, 1) := by decide +kernel
theorem dL_garden_101 : decode cL_garden 101 = .ok (.istore 7, 2) := by decide +kernel
theorem dL_garden_103 : decode cL_garden 103 = .ok (.aload_n 0, 1) := by decide +kernel
theorem dL_garden_104 : decode cL_garden 104 = .ok (.iload_n 3, 1) := by decide +kernel
theorem dL_garden_105 : decode cL_garden 105 = .ok (.iload 5, 2) := by decide +kernel
theorem dL_garden_107 : decode cL_garden 107 = .ok (.invokevirtual 78, 3) := by decide +kernel
theorem dL_garden_110 : decode cL_garden 110 = .ok (.iload 7, 2) := by decide +kernel
theorem dL_garden_112 : decode cL_garden 112 = .ok (.ifCond .eq 7, 3) := by decide +kernel
theorem dL_garden_115 : decode cL_garden 115 = .ok (.iconst (-1), 1) := by decide +kernel
theorem dL_garden_116 : decode cL_garden 116 = .ok (.goto 5, 3) := by decide +kernel
theorem dL_garden_119 : decode cL_garden 119 = .ok (.iload 6, 2) := by decide +kernel
theorem dL_garden_121 : decode cL_garden 121 = .ok (.if_icmp .ne 33, 3) := by decide +kernel
theorem dL_garden_124 : decode cL_garden 124 = .ok (.iload 4, 2) := by decide +kernel
theorem dL_garden_126 : decode cL_garden 126 = .ok (.ifCond .ne 24, 3) := by decide +kernel
theorem dL_garden_129 : decode cL_garden 129 = .ok (.aload_n 0, 1) := by decide +kernel
theorem dL_garden_130 : decode cL_garden 130 = .ok (.iload_n 3, 1) := by decide +kernel
theorem dL_garden_131 : decode cL_garden 131 = .ok (.iconst 0, 1) := by decide +kernel
theorem dL_garden_132 : decode cL_garden 132 = .ok (.invokevirtual 19, 3) := by decide +kernel
theorem dL_garden_135 : decode cL_garden 135 = .ok (.iload 7, 2) := by decide +kernel
theorem dL_garden_137 : decode cL_garden 137 = .ok (.ifCond .eq 8, 3) := by decide +kernel
theorem dL_garden_140 : decode cL_garden 140 = .ok (.iload 6, 2) := by decide +kernel
theorem dL_garden_142 : decode cL_garden 142 = .ok (.goto 5, 3) := by decide +kernel
theorem dL_garden_145 : decode cL_garden 145 = .ok (.iload 5, 2) := by decide +kernel
theorem dL_garden_147 : decode cL_garden 147 = .ok (.if_icmp .ne 7, 3) := by decide +kernel
theorem dL_garden_150 : decode cL_garden 150 = .ok (.iconst 1, 1) := by decide +kernel
theorem dL_garden_151 : decode cL_garden 151 = .ok (.goto 4, 3) := by decide +kernel
theorem dL_garden_154 : decode cL_garden 154 = .ok (.iconst 0, 1) := by decide +kernel
theorem dL_garden_155 : decode cL_garden 155 = .ok (.ireturn, 1) := by decide +kernel
theorem dL_garden_156 : decode cL_garden 156 = .ok (.iload_n 1, 1) := by decide +kernel
theorem dL_garden_157 : decode cL_garden 157 = .ok (.iconst 1, 1) := by decide +kernel
theorem dL_garden_158 : decode cL_garden 158 = .ok (.if_icmp .ne 102, 3) := by decide +kernel
theorem dL_garden_161 : decode cL_garden 161 = .ok (.iload_n 2, 1) := by decide +kernel
theorem dL_garden_162 : decode cL_garden 162 = .ok (.iconst 3, 1) := by decide +kernel
theorem dL_garden_163 : decode cL_garden 163 = .ok (.ishr, 1) := by decide +kernel
theorem dL_garden_164 : decode cL_garden 164 = .ok (.bipush 7, 2) := by decide +kernel
theorem dL_garden_166 : decode cL_garden 166 = .ok (.invokestatic 39, 3) := by decide +kernel
theorem dL_garden_169 : decode cL_garden 169 = .ok (.istore 5, 2) := by decide +kernel
theorem dL_garden_171 : decode cL_garden 171 = .ok (.iload 4, 2) := by decide +kernel
theorem dL_garden_173 : decode cL_garden 173 = .ok (.ifCond .eq 7, 3) := by decide +kernel
theorem dL_garden_176 : decode cL_garden 176 = .ok (.iconst 0, 1) := by decide +kernel
theorem dL_garden_177 : decode cL_garden 177 = .ok (.goto 9, 3) := by decide +kernel
theorem dL_garden_180 : decode cL_garden 180 = .ok (.aload_n 0, 1) := by decide +kernel
theorem dL_garden_181 : decode cL_garden 181 = .ok (.iload_n 3, 1) := by decide +kernel
theorem dL_garden_182 : decode cL_garden 182 = .ok (.iconst 1, 1) := by decide +kernel
theorem dL_garden_183 : decode cL_garden 183 = .ok (.invokevirtual 19, 3) := by decide +kernel
theorem dL_garden_186 : decode cL_garden 186 = .ok (.istore 6, 2) := by decide +kernel
theorem dL_garden_188 : decode cL_garden 188 = .ok (.iload 4, 2) := by decide +kernel
theorem dL_garden_190 : decode cL_garden 190 = .ok (.ifCond .ne 10, 3) := by decide +kernel
theorem dL_garden_193 : decode cL_garden 193 = .ok (.iload 5, 2) := by decide +kernel
theorem dL_garden_195 : decode cL_garden 195 = .ok (.bipush 6, 2) := by decide +kernel
theorem dL_garden_197 : decode cL_garden 197 = .ok (.if_icmp .ne 7, 3) := by decide +kernel
theorem dL_garden_200 : decode cL_garden 200 = .ok (.iconst 1, 1) := by decide +kernel
theorem dL_garden_201 : decode cL_garden 201 = .ok (.goto 4, 3) := by decide +kernel
theorem dL_garden_204 : decode cL_garden 204 = .ok (.iconst 0, 1) := by decide +kernel
theorem dL_garden_205 : decode cL_garden 205 = .ok (.istore 7, 2) := by decide +kernel
theorem dL_garden_207 : decode cL_garden 207 = .ok (.aload_n 0, 1) := by decide +kernel
theorem dL_garden_208 : decode cL_garden 208 = .ok (.iload_n 3, 1) := by decide +kernel
theorem dL_garden_209 : decode cL_garden 209 = .ok (.iload 5, 2) := by decide +kernel
theorem dL_garden_211 : decode cL_garden 211 = .ok (.invokevirtual 81, 3) := by decide +kernel
theorem dL_garden_214 : decode cL_garden 214 = .ok (.iload 7, 2) := by decide +kernel
theorem dL_garden_216 : decode cL_garden 216 = .ok (.ifCond .eq 7, 3) := by decide +kernel
theorem dL_garden_219 : decode cL_garden 219 = .ok (.iconst (-1), 1) := by decide +kernel
theorem dL_garden_220 : decode cL_garden 220 = .ok (.goto 5, 3) := by decide +kernel
theorem dL_garden_223 : decode cL_garden 223 = .ok (.iload 6, 2) := by decide +kernel
theorem dL_garden_225 : decode cL_garden 225 = .ok (.if_icmp .ne 33, 3) := by decide +kernel
theorem dL_garden_228 : decode cL_garden 228 = .ok (.iload 4, 2) := by decide +kernel
theorem dL_garden_230 : decode cL_garden 230 = .ok (.ifCond .ne 24, 3) := by decide +kernel
theorem dL_garden_233 : decode cL_garden 233 = .ok (.aload_n 0, 1) := by decide +kernel
theorem dL_garden_234 : decode cL_garden 234 = .ok (.iload_n 3, 1) := by decide +kernel
theorem dL_garden_235 : decode cL_garden 235 = .ok (.iconst 1, 1) := by decide +kernel
theorem dL_garden_236 : decode cL_garden 236 = .ok (.invokevirtual 19, 3) := by decide +kernel
theorem dL_garden_239 : decode cL_garden 239 = .ok (.iload 7, 2) := by decide +kernel
theorem dL_garden_241 : decode cL_garden 241 = .ok (.ifCond .eq 8, 3) := by decide +kernel
theorem dL_garden_244 : decode cL_garden 244 = .ok (.iload 6, 2) := by decide +kernel
theorem dL_garden_246 : decode cL_garden 246 = .ok (.goto 5, 3) := by decide +kernel
theorem dL_garden_249 : decode cL_garden 249 = .ok (.iload 5, 2) := by decide +kernel
theorem dL_garden_251 : decode cL_garden 251 = .ok (.if_icmp .ne 7, 3) := by decide +kernel
theorem dL_garden_254 : decode cL_garden 254 = .ok (.iconst 1, 1) := by decide +kernel
theorem dL_garden_255 : decode cL_garden 255 = .ok (.goto 4, 3) := by decide +kernel
theorem dL_garden_258 : decode cL_garden 258 = .ok (.iconst 0, 1) := by decide +kernel
theorem dL_garden_259 : decode cL_garden 259 = .ok (.ireturn, 1) := by decide +kernel
theorem dL_garden_260 : decode cL_garden 260 = .ok (.iload_n 1, 1) := by decide +kernel
theorem dL_garden_261 : decode cL_garden 261 = .ok (.iconst 2, 1) := by decide +kernel
theorem dL_garden_262 : decode cL_garden 262 = .ok (.if_icmp .ne 123, 3) := by decide +kernel
theorem dL_garden_265 : decode cL_garden 265 = .ok (.iload_n 2, 1) := by decide +kernel
theorem dL_garden_266 : decode cL_garden 266 = .ok (.iconst 3, 1) := by decide +kernel
theorem dL_garden_267 : decode cL_garden 267 = .ok (.ishr, 1) := by decide +kernel
theorem dL_garden_268 : decode cL_garden 268 = .ok (.iload_n 2, 1) := by decide +kernel
theorem dL_garden_269 : decode cL_garden 269 = .ok (.bipush 9, 2) := by decide +kernel
theorem dL_garden_271 : decode cL_garden 271 = .ok (.ishr, 1) := by decide +kernel
theorem dL_garden_272 : decode cL_garden 272 = .ok (.iconst 3, 1) := by decide +kernel
theorem dL_garden_273 : decode cL_garden 273 = .ok (.invokestatic 39, 3) := by decide +kernel
theorem dL_garden_276 : decode cL_garden 276 = .ok (.ifCond .ne 8, 3) := by decide +kernel
theorem dL_garden_279 : decode cL_garden 279 = .ok (.bipush 32, 2) := by decide +kernel
theorem dL_garden_281 : decode cL_garden 281 = .ok (.goto 4, 3) := by decide +kernel
theorem dL_garden_284 : decode cL_garden 284 = .ok (.iconst 4, 1) := by decide +kernel
theorem dL_garden_285 : decode cL_garden 285 = .ok (.invokestatic 39, 3) := by decide +kernel
theorem dL_garden_288 : decode cL_garden 288 = .ok (.istore 5, 2) := by decide +kernel
theorem dL_garden_290 : decode cL_garden 290 = .ok (.iload 4, 2) := by decide +kernel
theorem dL_garden_292 : decode cL_garden 292 = .ok (.ifCond .eq 7, 3) := by decide +kernel
theorem dL_garden_295 : decode cL_garden 295 = .ok (.iconst 0, 1) := by decide +kernel
theorem dL_garden_296 : decode cL_garden 296 = .ok (.goto 9, 3) := by decide +kernel
theorem dL_garden_299 : decode cL_garden 299 = .ok (.aload_n 0, 1) := by decide +kernel
theorem dL_garden_300 : decode cL_garden 300 = .ok (.iload_n 3, 1) := by decide +kernel
theorem dL_garden_301 : decode cL_garden 301 = .ok (.iconst 3, 1) := by decide +kernel
theorem dL_garden_302 : decode cL_garden 302 = .ok (.invokevirtual 19, 3) := by decide +kernel
theorem dL_garden_305 : decode cL_garden 305 = .ok (.istore 6, 2) := by decide +kernel
theorem dL_garden_307 : decode cL_garden 307 = .ok (.iload 4, 2) := by decide +kernel
theorem dL_garden_309 : decode cL_garden 309 = .ok (.ifCond .ne 10, 3) := by decide +kernel
theorem dL_garden_312 : decode cL_garden 312 = .ok (.iload 5, 2) := by decide +kernel
theorem dL_garden_314 : decode cL_garden 314 = .ok (.bipush 31, 2) := by decide +kernel
theorem dL_garden_316 : decode cL_garden 316 = .ok (.if_icmp .ne 7, 3) := by decide +kernel
theorem dL_garden_319 : decode cL_garden 319 = .ok (.iconst 1, 1) := by decide +kernel
theorem dL_garden_320 : decode cL_garden 320 = .ok (.goto 4, 3) := by decide +kernel
theorem dL_garden_323 : decode cL_garden 323 = .ok (.iconst 0, 1) := by decide +kernel
theorem dL_garden_324 : decode cL_garden 324 = .ok (.istore 7, 2) := by decide +kernel
theorem dL_garden_326 : decode cL_garden 326 = .ok (.aload_n 0, 1) := by decide +kernel
theorem dL_garden_327 : decode cL_garden 327 = .ok (.iload_n 3, 1) := by decide +kernel
theorem dL_garden_328 : decode cL_garden 328 = .ok (.iload 5, 2) := by decide +kernel
theorem dL_garden_330 : decode cL_garden 330 = .ok (.invokevirtual 84, 3) := by decide +kernel
theorem dL_garden_333 : decode cL_garden 333 = .ok (.iload 7, 2) := by decide +kernel
theorem dL_garden_335 : decode cL_garden 335 = .ok (.ifCond .eq 7, 3) := by decide +kernel
theorem dL_garden_338 : decode cL_garden 338 = .ok (.iconst (-1), 1) := by decide +kernel
theorem dL_garden_339 : decode cL_garden 339 = .ok (.goto 5, 3) := by decide +kernel
theorem dL_garden_342 : decode cL_garden 342 = .ok (.iload 6, 2) := by decide +kernel
theorem dL_garden_344 : decode cL_garden 344 = .ok (.if_icmp .ne 39, 3) := by decide +kernel
theorem dL_garden_347 : decode cL_garden 347 = .ok (.iload 4, 2) := by decide +kernel
theorem dL_garden_349 : decode cL_garden 349 = .ok (.ifCond .ne 30, 3) := by decide +kernel
theorem dL_garden_352 : decode cL_garden 352 = .ok (.aload_n 0, 1) := by decide +kernel
theorem dL_garden_353 : decode cL_garden 353 = .ok (.iload_n 3, 1) := by decide +kernel
theorem dL_garden_354 : decode cL_garden 354 = .ok (.iconst 3, 1) := by decide +kernel
theorem dL_garden_355 : decode cL_garden 355 = .ok (.invokevirtual 19, 3) := by decide +kernel
theorem dL_garden_358 : decode cL_garden 358 = .ok (.iload 7, 2) := by decide +kernel
theorem dL_garden_360 : decode cL_garden 360 = .ok (.ifCond .eq 8, 3) := by decide +kernel
theorem dL_garden_363 : decode cL_garden 363 = .ok (.iload 6, 2) := by decide +kernel
theorem dL_garden_365 : decode cL_garden 365 = .ok (.goto 11, 3) := by decide +kernel
theorem dL_garden_368 : decode cL_garden 368 = .ok (.aload_n 0, 1) := by decide +kernel
theorem dL_garden_369 : decode cL_garden 369 = .ok (.iconst 0, 1) := by decide +kernel
theorem dL_garden_370 : decode cL_garden 370 = .ok (.invokevirtual 13, 3) := by decide +kernel
theorem dL_garden_373 : decode cL_garden 373 = .ok (.iload 5, 2) := by decide +kernel
theorem dL_garden_375 : decode cL_garden 375 = .ok (.iadd, 1) := by decide +kernel
theorem dL_garden_376 : decode cL_garden 376 = .ok (.if_icmp .ne 7, 3) := by decide +kernel
theorem dL_garden_379 : decode cL_garden 379 = .ok (.iconst 1, 1) := by decide +kernel
theorem dL_garden_380 : decode cL_garden 380 = .ok (.goto 4, 3) := by decide +kernel
theorem dL_garden_383 : decode cL_garden 383 = .ok (.iconst 0, 1) := by decide +kernel
theorem dL_garden_384 : decode cL_garden 384 = .ok (.ireturn, 1) := by decide +kernel
theorem dL_garden_385 : decode cL_garden 385 = .ok (.iload_n 2, 1) := by decide +kernel
theorem dL_garden_386 : decode cL_garden 386 = .ok (.iconst 3, 1) := by decide +kernel
theorem dL_garden_387 : decode cL_garden 387 = .ok (.ishr, 1) := by decide +kernel
theorem dL_garden_388 : decode cL_garden 388 = .ok (.iload_n 2, 1) := by decide +kernel
theorem dL_garden_389 : decode cL_garden 389 = .ok (.bipush 9, 2) := by decide +kernel
theorem dL_garden_391 : decode cL_garden 391 = .ok (.ishr, 1) := by decide +kernel
theorem dL_garden_392 : decode cL_garden 392 = .ok (.iconst 4, 1) := by decide +kernel
theorem dL_garden_393 : decode cL_garden 393 = .ok (.invokestatic 39, 3) := by decide +kernel
theorem dL_garden_396 : decode cL_garden 396 = .ok (.ifCond .ne 8, 3) := by decide +kernel
theorem dL_garden_399 : decode cL_garden 399 = .ok (.bipush 101, 2) := by decide +kernel
theorem dL_garden_401 : decode cL_garden 401 = .ok (.goto 5, 3) := by decide +kernel
theorem dL_garden_404 : decode cL_garden 404 = .ok (.bipush 9, 2) := by decide +kernel
theorem dL_garden_406 : decode cL_garden 406 = .ok (.invokestatic 39, 3) := by decide +kernel
theorem dL_garden_409 : decode cL_garden 409 = .ok (.istore 5, 2) := by decide +kernel
theorem dL_garden_411 : decode cL_garden 411 = .ok (.iload 4, 2) := by decide +kernel
theorem dL_garden_413 : decode cL_garden 413 = .ok (.ifCond .ne 15, 3) := by decide +kernel
theorem dL_garden_416 : decode cL_garden 416 = .ok (.iload 5, 2) := by decide +kernel
theorem dL_garden_418 : decode cL_garden 418 = .ok (.ifCond .eq 10, 3) := by decide +kernel
theorem dL_garden_421 : decode cL_garden 421 = .ok (.iload 5, 2) := by decide +kernel
theorem dL_garden_423 : decode cL_garden 423 = .ok (.bipush 100, 2) := by decide +kernel
theorem dL_garden_425 : decode cL_garden 425 = .ok (.if_icmp .ne 7, 3) := by decide +kernel
theorem dL_garden_428 : decode cL_garden 428 = .ok (.iconst 1, 1) := by decide +kernel
theorem dL_garden_429 : decode cL_garden 429 = .ok (.goto 4, 3) := by decide +kernel
theorem dL_garden_432 : decode cL_garden 432 = .ok (.iconst 0, 1) := by decide +kernel
theorem dL_garden_433 : decode cL_garden 433 = .ok (.istore 6, 2) := by decide +kernel
theorem dL_garden_435 : decode cL_garden 435 = .ok (.iload 4, 2) := by decide +kernel
theorem dL_garden_437 : decode cL_garden 437 = .ok (.ifCond .eq 7, 3) := by decide +kernel
theorem dL_garden_440 : decode cL_garden 440 = .ok (.iconst 0, 1) := by decide +kernel
theorem dL_garden_441 : decode cL_garden 441 = .ok (.goto 9, 3) := by decide +kernel
theorem dL_garden_444 : decode cL_garden 444 = .ok (.aload_n 0, 1) := by decide +kernel
theorem dL_garden_445 : decode cL_garden 445 = .ok (.iload_n 3, 1) := by decide +kernel
theorem dL_garden_446 : decode cL_garden 446 = .ok (.iconst 0, 1) := by decide +kernel
theorem dL_garden_447 : decode cL_garden 447 = .ok (.invokevirtual 19, 3) := by decide +kernel
theorem dL_garden_450 : decode cL_garden 450 = .ok (.istore 7, 2) := by decide +kernel
theorem dL_garden_452 : decode cL_garden 452 = .ok (.iload 6, 2) := by decide +kernel
theorem dL_garden_454 : decode cL_garden 454 = .ok (.ifCond .eq 7, 3) := by decide +kernel
theorem dL_garden_457 : decode cL_garden 457 = .ok (.iconst 0, 1) := by decide +kernel
theorem dL_garden_458 : decode cL_garden 458 = .ok (.goto 29, 3) := by decide +kernel
theorem dL_garden_461 : decode cL_garden 461 = .ok (.aload_n 0, 1) := by decide +kernel
theorem dL_garden_462 : decode cL_garden 462 = .ok (.iload_n 3, 1) := by decide +kernel
theorem dL_garden_463 : decode cL_garden 463 = .ok (.iconst 2, 1) := by decide +kernel
theorem dL_garden_464 : decode cL_garden 464 = .ok (.invokevirtual 19, 3) := by decide +kernel
theorem dL_garden_467 : decode cL_garden 467 = .ok (.iconst 1, 1) := by decide +kernel
theorem dL_garden_468 : decode cL_garden 468 = .ok (.if_icmp .ne 7, 3) := by decide +kernel
theorem dL_garden_471 : decode cL_garden 471 = .ok (.iconst 3, 1) := by decide +kernel
theorem dL_garden_472 : decode cL_garden 472 = .ok (.goto 15, 3) := by decide +kernel
theorem dL_garden_475 : decode cL_garden 475 = .ok (.iload 5, 2) := by decide +kernel
theorem dL_garden_477 : decode cL_garden 477 = .ok (.iload 7, 2) := by decide +kernel
theorem dL_garden_479 : decode cL_garden 479 = .ok (.if_icmp .le 7, 3) := by decide +kernel
theorem dL_garden_482 : decode cL_garden 482 = .ok (.iconst 4, 1) := by decide +kernel
theorem dL_garden_483 : decode cL_garden 483 = .ok (.goto 4, 3) := by decide +kernel
theorem dL_garden_486 : decode cL_garden 486 = .ok (.iconst 0, 1) := by decide +kernel
theorem dL_garden_487 : decode cL_garden 487 = .ok (.istore 8, 2) := by decide +kernel
theorem dL_garden_489 : decode cL_garden 489 = .ok (.aload_n 0, 1) := by decide +kernel
theorem dL_garden_490 : decode cL_garden 490 = .ok (.bipush 8, 2) := by decide +kernel
theorem dL_garden_492 : decode cL_garden 492 = .ok (.invokevirtual 13, 3) := by decide +kernel
theorem dL_garden_495 : decode cL_garden 495 = .ok (.istore 9, 2) := by decide +kernel
theorem dL_garden_497 : decode cL_garden 497 = .ok (.aload_n 0, 1) := by decide +kernel
theorem dL_garden_498 : decode cL_garden 498 = .ok (.bipush 9, 2) := by decide +kernel
theorem dL_garden_500 : decode cL_garden 500 = .ok (.invokevirtual 13, 3) := by decide +kernel
theorem dL_garden_503 : decode cL_garden 503 = .ok (.istore 10, 2) := by decide +kernel
theorem dL_garden_505 : decode cL_garden 505 = .ok (.aload_n 0, 1) := by decide +kernel
theorem dL_garden_506 : decode cL_garden 506 = .ok (.bipush 10, 2) := by decide +kernel
theorem dL_garden_508 : decode cL_garden 508 = .ok (.invokevirtual 13, 3) := by decide +kernel
theorem dL_garden_511 : decode cL_garden 511 = .ok (.istore 11, 2) := by decide +kernel
theorem dL_garden_513 : decode cL_garden 513 = .ok (.iload 6, 2) := by decide +kernel
theorem dL_garden_515 : decode cL_garden 515 = .ok (.ifCond .ne 12, 3) := by decide +kernel
theorem dL_garden_518 : decode cL_garden 518 = .ok (.iload 8, 2) := by decide +kernel
theorem dL_garden_520 : decode cL_garden 520 = .ok (.ifCond .ne 7, 3) := by decide +kernel
theorem dL_garden_523 : decode cL_garden 523 = .ok (.iconst 1, 1) := by decide +kernel
theorem dL_garden_524 : decode cL_garden 524 = .ok (.goto 4, 3) := by decide +kernel
theorem dL_garden_527 : decode cL_garden 527 = .ok (.iconst 0, 1) := by decide +kernel
theorem dL_garden_528 : decode cL_garden 528 = .ok (.istore 12, 2) := by decide +kernel
theorem dL_garden_530 : decode cL_garden 530 = .ok (.aload_n 0, 1) := by decide +kernel
theorem dL_garden_531 : decode cL_garden 531 = .ok (.iload_n 3, 1) := by decide +kernel
theorem dL_garden_532 : decode cL_garden 532 = .ok (.iload 5, 2) := by decide +kernel
theorem dL_garden_534 : decode cL_garden 534 = .ok (.invokevirtual 87, 3) := by decide +kernel
theorem dL_garden_537 : decode cL_garden 537 = .ok (.istore 13, 2) := by decide +kernel
theorem dL_garden_539 : decode cL_garden 539 = .ok (.iload 13, 2) := by decide +kernel
theorem dL_garden_541 : decode cL_garden 541 = .ok (.iload 6, 2) := by decide +kernel
theorem dL_garden_543 : decode cL_garden 543 = .ok (.ifCond .eq 7, 3) := by decide +kernel
theorem dL_garden_546 : decode cL_garden 546 = .ok (.iconst (-1), 1) := by decide +kernel
theorem dL_garden_547 : decode cL_garden 547 = .ok (.goto 21, 3) := by decide +kernel
theorem dL_garden_550 : decode cL_garden 550 = .ok (.iload 8, 2) := by decide +kernel
theorem dL_garden_552 : decode cL_garden 552 = .ok (.ifCond .le 8, 3) := by decide +kernel
theorem dL_garden_555 : decode cL_garden 555 = .ok (.iload 8, 2) := by decide +kernel
theorem dL_garden_557 : decode cL_garden 557 = .ok (.goto 11, 3) := by decide +kernel
theorem dL_garden_560 : decode cL_garden 560 = .ok (.bipush 10, 2) := by decide +kernel
theorem dL_garden_562 : decode cL_garden 562 = .ok (.iload 7, 2) := by decide +kernel
theorem dL_garden_564 : decode cL_garden 564 = .ok (.iadd, 1) := by decide +kernel
theorem dL_garden_565 : decode cL_garden 565 = .ok (.iload 5, 2) := by decide +kernel
theorem dL_garden_567 : decode cL_garden 567 = .ok (.isub, 1) := by decide +kernel
theorem dL_garden_568 : decode cL_garden 568 = .ok (.if_icmp .ne 102, 3) := by decide +kernel
theorem dL_garden_571 : decode cL_garden 571 = .ok (.aload_n 0, 1) := by decide +kernel
theorem dL_garden_572 : decode cL_garden 572 = .ok (.bipush 8, 2) := by decide +kernel
theorem dL_garden_574 : decode cL_garden 574 = .ok (.invokevirtual 13, 3) := by decide +kernel
theorem dL_garden_577 : decode cL_garden 577 = .ok (.iload 9, 2) := by decide +kernel
theorem dL_garden_579 : decode cL_garden 579 = .ok (.iload 8, 2) := by decide +kernel
theorem dL_garden_581 : decode cL_garden 581 = .ok (.ifCond .le 7, 3) := by decide +kernel
theorem dL_garden_584 : decode cL_garden 584 = .ok (.iconst 1, 1) := by decide +kernel
theorem dL_garden_585 : decode cL_garden 585 = .ok (.goto 4, 3) := by decide +kernel
theorem dL_garden_588 : decode cL_garden 588 = .ok (.iconst 0, 1) := by decide +kernel
theorem dL_garden_589 : decode cL_garden 589 = .ok (.iadd, 1) := by decide +kernel
theorem dL_garden_590 : decode cL_garden 590 = .ok (.if_icmp .ne 80, 3) := by decide +kernel
theorem dL_garden_593 : decode cL_garden 593 = .ok (.aload_n 0, 1) := by decide +kernel
theorem dL_garden_594 : decode cL_garden 594 = .ok (.bipush 9, 2) := by decide +kernel
theorem dL_garden_596 : decode cL_garden 596 = .ok (.invokevirtual 13, 3) := by decide +kernel
theorem dL_garden_599 : decode cL_garden 599 = .ok (.iload 10, 2) := by decide +kernel
theorem dL_garden_601 : decode cL_garden 601 = .ok (.iload 12, 2) := by decide +kernel
theorem dL_garden_603 : decode cL_garden 603 = .ok (.ifCond .eq 7, 3) := by decide +kernel
theorem dL_garden_606 : decode cL_garden 606 = .ok (.iconst 1, 1) := by decide +kernel
theorem dL_garden_607 : decode cL_garden 607 = .ok (.goto 4, 3) := by decide +kernel
theorem dL_garden_610 : decode cL_garden 610 = .ok (.iconst 0, 1) := by decide +kernel
theorem dL_garden_611 : decode cL_garden 611 = .ok (.iadd, 1) := by decide +kernel
theorem dL_garden_612 : decode cL_garden 612 = .ok (.if_icmp .ne 58, 3) := by decide +kernel
theorem dL_garden_615 : decode cL_garden 615 = .ok (.aload_n 0, 1) := by decide +kernel
theorem dL_garden_616 : decode cL_garden 616 = .ok (.bipush 10, 2) := by decide +kernel
theorem dL_garden_618 : decode cL_garden 618 = .ok (.invokevirtual 13, 3) := by decide +kernel
theorem dL_garden_621 : decode cL_garden 621 = .ok (.iload 11, 2) := by decide +kernel
theorem dL_garden_623 : decode cL_garden 623 = .ok (.iload 12, 2) := by decide +kernel
theorem dL_garden_625 : decode cL_garden 625 = .ok (.ifCond .eq 8, 3) := by decide +kernel
theorem dL_garden_628 : decode cL_garden 628 = .ok (.iload 5, 2) := by decide +kernel
theorem dL_garden_630 : decode cL_garden 630 = .ok (.goto 4, 3) := by decide +kernel
theorem dL_garden_633 : decode cL_garden 633 = .ok (.iconst 0, 1) := by decide +kernel
theorem dL_garden_634 : decode cL_garden 634 = .ok (.iadd, 1) := by decide +kernel
theorem dL_garden_635 : decode cL_garden 635 = .ok (.if_icmp .ne 35, 3) := by decide +kernel
theorem dL_garden_638 : decode cL_garden 638 = .ok (.iload 4, 2) := by decide +kernel
theorem dL_garden_640 : decode cL_garden 640 = .ok (.ifCond .ne 26, 3) := by decide +kernel
theorem dL_garden_643 : decode cL_garden 643 = .ok (.aload_n 0, 1) := by decide +kernel
theorem dL_garden_644 : decode cL_garden 644 = .ok (.iload_n 3, 1) := by decide +kernel
theorem dL_garden_645 : decode cL_garden 645 = .ok (.iconst 0, 1) := by decide +kernel
theorem dL_garden_646 : decode cL_garden 646 = .ok (.invokevirtual 19, 3) := by decide +kernel
theorem dL_garden_649 : decode cL_garden 649 = .ok (.iload 7, 2) := by decide +kernel
theorem dL_garden_651 : decode cL_garden 651 = .ok (.iload 12, 2) := by decide +kernel
theorem dL_garden_653 : decode cL_garden 653 = .ok (.ifCond .eq 8, 3) := by decide +kernel
theorem dL_garden_656 : decode cL_garden 656 = .ok (.iload 5, 2) := by decide +kernel
theorem dL_garden_658 : decode cL_garden 658 = .ok (.goto 4, 3) := by decide +kernel
theorem dL_garden_661 : decode cL_garden 661 = .ok (.iconst 0, 1) := by decide +kernel
theorem dL_garden_662 : decode cL_garden 662 = .ok (.isub, 1) := by decide +kernel
theorem dL_garden_663 : decode cL_garden 663 = .ok (.if_icmp .ne 7, 3) := by decide +kernel
theorem dL_garden_666 : decode cL_garden 666 = .ok (.iconst 1, 1) := by decide +kernel
theorem dL_garden_667 : decode cL_garden 667 = .ok (.goto 4, 3) := by decide +kernel
theorem dL_garden_670 : decode cL_garden 670 = .ok (.iconst 0, 1) := by decide +kernel
theorem dL_garden_671 : decode cL_garden 671 = .ok (.ireturn, 1) := by decide +kernel
theorem dL_talks_0 : decode cL_talks 0 = .ok (.aload_n 0, 1) := by decide +kernel
theorem dL_talks_1 : decode cL_talks 1 = .ok (.iconst 1, 1) := by decide +kernel
theorem dL_talks_2 : decode cL_talks 2 = .ok (.invokevirtual 13, 3) := by decide +kernel
theorem dL_talks_5 : decode cL_talks 5 = .ok (.istore_n 3, 1) := by decide +kernel
theorem dL_talks_6 : decode cL_talks 6 = .ok (.iload_n 2, 1) := by decide +kernel
theorem dL_talks_7 : decode cL_talks 7 = .ok (.iload_n 3, 1) := by decide +kernel
theorem dL_talks_8 : decode cL_talks 8 = .ok (.iconst 1, 1) := by decide +kernel
theorem dL_talks_9 : decode cL_talks 9 = .ok (.iadd, 1) := by decide +kernel
theorem dL_talks_10 : decode cL_talks 10 = .ok (.invokestatic 39, 3) := by decide +kernel
theorem dL_talks_13 : decode cL_talks 13 = .ok (.istore 4, 2) := by decide +kernel
theorem dL_talks_15 : decode cL_talks 15 = .ok (.iload 4, 2) := by decide +kernel
theorem dL_talks_17 : decode cL_talks 17 = .ok (.iload_n 3, 1) := by decide +kernel
theorem dL_talks_18 : decode cL_talks 18 = .ok (.if_icmp .ne 7, 3) := by decide +kernel
theorem dL_talks_21 : decode cL_talks 21 = .ok (.iconst 1, 1) := by decide +kernel
theorem dL_talks_22 : decode cL_talks 22 = .ok (.goto 4, 3) := by decide +kernel
theorem dL_talks_25 : decode cL_talks 25 = .ok (.iconst 0, 1) := by decide +kernel
theorem dL_talks_26 : decode cL_talks 26 = .ok (.istore 5, 2) := by decide +kernel
theorem dL_talks_28 : decode cL_talks 28 = .ok (.aload_n 0, 1) := by decide +kernel
theorem dL_talks_29 : decode cL_talks 29 = .ok (.iconst 0, 1) := by decide +kernel
theorem dL_talks_30 : decode cL_talks 30 = .ok (.invokevirtual 13, 3) := by decide +kernel
theorem dL_talks_33 : decode cL_talks 33 = .ok (.istore 6, 2) := by decide +kernel
theorem dL_talks_35 : decode cL_talks 35 = .ok (.aload_n 0, 1) := by decide +kernel
theorem dL_talks_36 : decode cL_talks 36 = .ok (.bipush 6, 2) := by decide +kernel
theorem dL_talks_38 : decode cL_talks 38 = .ok (.invokevirtual 13, 3) := by decide +kernel
theorem dL_talks_41 : decode cL_talks 41 = .ok (.istore 7, 2) := by decide +kernel
theorem dL_talks_43 : decode cL_talks 43 = .ok (.iload 5, 2) := by decide +kernel
theorem dL_talks_45 : decode cL_talks 45 = .ok (.ifCond .eq 7, 3) := by decide +kernel
theorem dL_talks_48 : decode cL_talks 48 = .ok (.iconst 0, 1) := by decide +kernel
theorem dL_talks_49 : decode cL_talks 49 = .ok (.goto 11, 3) := by decide +kernel
theorem dL_talks_52 : decode cL_talks 52 = .ok (.aload_n 0, 1) := by decide +kernel
theorem dL_talks_53 : decode cL_talks 53 = .ok (.iload 4, 2) := by decide +kernel
theorem dL_talks_55 : decode cL_talks 55 = .ok (.bipush 6, 2) := by decide +kernel
theorem dL_talks_57 : decode cL_talks 57 = .ok (.invokevirtual 23, 3) := by decide +kernel
theorem dL_talks_60 : decode cL_talks 60 = .ok (.istore 8, 2) := by decide +kernel
theorem dL_talks_62 : decode cL_talks 62 = .ok (.iload 5, 2) := by decide +kernel
theorem dL_talks_64 : decode cL_talks 64 = .ok (.ifCond .eq 7, 3) := by decide +kernel
theorem dL_talks_67 : decode cL_talks 67 = .ok (.iconst 0, 1) := by decide +kernel
theorem dL_talks_68 : decode cL_talks 68 = .ok (.goto 10, 3) := by decide +kernel
theorem dL_talks_71 : decode cL_talks 71 = .ok (.aload_n 0, 1) := by decide +kernel
theorem dL_talks_72 : decode cL_talks 72 = .ok (.iload 4, 2) := by decide +kernel
theorem dL_talks_74 : decode cL_talks 74 = .ok (.iconst 4, 1) := by decide +kernel
theorem dL_talks_75 : decode cL_talks 75 = .ok (.invokevirtual 23, 3) := by decide +kernel
theorem dL_talks_78 : decode cL_talks 78 = .ok (.istore 9, 2) := by decide +kernel
theorem dL_talks_80 : decode cL_talks 80 = .ok (.iload_n 1, 1) := by decide +kernel
theorem dL_talks_81 : decode cL_talks 81 = .ok (.ifCond .ne 156, 3) := by decide +kernel
theorem dL_talks_84 : decode cL_talks 84 = .ok (.iload_n 2, 1) := by decide +kernel
theorem dL_talks_85 : decode cL_talks 85 = .ok (.iconst 3, 1) := by decide +kernel
theorem dL_talks_86 : decode cL_talks 86 = .ok (.ishr, 1) := by decide +kernel
theorem dL_talks_87 : decode cL_talks 87 = .ok (.iload_n 2, 1) := by decide +kernel
theorem dL_talks_88 : decode cL_talks 88 = .ok (.bipush 9, 2) := by decide +kernel
theorem dL_talks_90 : decode cL_talks 90 = .ok (.ishr, 1) := by decide +kernel
theorem dL_talks_91 : decode cL_talks 91 = .ok (.iconst 3, 1) := by decide +kernel
theorem dL_talks_92 : decode cL_talks 92 = .ok (.invokestatic 39, 3) := by decide +kernel
theorem dL_talks_95 : decode cL_talks 95 = .ok (.ifCond .ne 8, 3) := by decide +kernel
theorem dL_talks_98 : decode cL_talks 98 = .ok (.bipush 32, 2) := by decide +kernel
theorem dL_talks_100 : decode cL_talks 100 = .ok (.goto 4, 3) := by decide +kernel
theorem dL_talks_103 : decode cL_talks 103 = .ok (.iconst 5, 1) := by decide +kernel
theorem dL_talks_104 : decode cL_talks 104 = .ok (.invokestatic 39, 3) := by decide +kernel
theorem dL_talks_107 : decode cL_talks 107 = .ok (.istore 10, 2) := by decide +kernel
theorem dL_talks_109 : decode cL_talks 109 = .ok (.iload 5, 2) := by decide +kernel
theorem dL_talks_111 : decode cL_talks 111 = .ok (.ifCond .ne 15, 3) := by decide +kernel
theorem dL_talks_114 : decode cL_talks 114 = .ok (.iload 10, 2) := by decide +kernel
theorem dL_talks_116 : decode cL_talks 116 = .ok (.ifCond .eq 10, 3) := by decide +kernel
theorem dL_talks_119 : decode cL_talks 119 = .ok (.iload 10, 2) := by decide +kernel
theorem dL_talks_121 : decode cL_talks 121 = .ok (.bipush 31, 2) := by decide +kernel
theorem dL_talks_123 : decode cL_talks 123 = .ok (.if_icmp .ne 7, 3) := by decide +kernel
theorem dL_talks_126 : decode cL_talks 126 = .ok (.iconst 1, 1) := by decide +kernel
theorem dL_talks_127 : decode cL_talks 127 = .ok (.goto 4, 3) := by decide +kernel
theorem dL_talks_130 : decode cL_talks 130 = .ok (.iconst 0, 1) := by decide +kernel
theorem dL_talks_131 : decode cL_talks 131 = .ok (.istore 11, 2) := by decide +kernel
theorem dL_talks_133 : decode cL_talks 133 = .ok (.aload_n 0, 1) := by decide +kernel
theorem dL_talks_134 : decode cL_talks 134 = .ok (.iload 4, 2) := by decide +kernel
theorem dL_talks_136 : decode cL_talks 136 = .ok (.iload 10, 2) := by decide +kernel
theorem dL_talks_138 : decode cL_talks 138 = .ok (.invokevirtual 90, 3) := by decide +kernel
theorem dL_talks_141 : decode cL_talks 141 = .ok (.istore 12, 2) := by decide +kernel
theorem dL_talks_143 : decode cL_talks 143 = .ok (.iload 12, 2) := by decide +kernel
theorem dL_talks_145 : decode cL_talks 145 = .ok (.iload 11, 2) := by decide +kernel
theorem dL_talks_147 : decode cL_talks 147 = .ok (.ifCond .eq 7, 3) := by decide +kernel
theorem dL_talks_150 : decode cL_talks 150 = .ok (.iconst (-1), 1) := by decide +kernel
theorem dL_talks_151 : decode cL_talks 151 = .ok (.goto 8, 3) := by decide +kernel
theorem dL_talks_154 : decode cL_talks 154 = .ok (.iload 7, 2) := by decide +kernel
theorem dL_talks_156 : decode cL_talks 156 = .ok (.iload 9, 2) := by decide +kernel
theorem dL_talks_158 : decode cL_talks 158 = .ok (.iadd, 1) := by decide +kernel
theorem dL_talks_159 : decode cL_talks 159 = .ok (.if_icmp .ne 76, 3) := by decide +kernel
theorem dL_talks_162 : decode cL_talks 162 = .ok (.aload_n 0, 1) := by decide +kernel
theorem dL_talks_163 : decode cL_talks 163 = .ok (.bipush 6, 2) := by decide +kernel
theorem dL_talks_165 : decode cL_talks 165 = .ok (.invokevirtual 13, 3) := by decide +kernel
theorem dL_talks_168 : decode cL_talks 168 = .ok (.iload 7, 2) := by decide +kernel
theorem dL_talks_170 : decode cL_talks 170 = .ok (.iload 11, 2) := by decide +kernel
theorem dL_talks_172 : decode cL_talks 172 = .ok (.ifCond .eq 7, 3) := by decide +kernel
theorem dL_talks_175 : decode cL_talks 175 = .ok (.iconst 0, 1) := by decide +kernel
theorem dL_talks_176 : decode cL_talks 176 = .ok (.goto 5, 3) := by decide +kernel
theorem dL_talks_179 : decode cL_talks 179 = .ok (.iload 9, 2) := by decide +kernel
theorem dL_talks_181 : decode cL_talks 181 = .ok (.iadd, 1) := by decide +kernel
theorem dL_talks_182 : decode cL_talks 182 = .ok (.if_icmp .ne 53, 3) := by decide +kernel
theorem dL_talks_185 : decode cL_talks 185 = .ok (.iload 5, 2) := by decide +kernel
theorem dL_talks_187 : decode cL_talks 187 = .ok (.ifCond .ne 44, 3) := by decide +kernel
theorem dL_talks_190 : decode cL_talks 190 = .ok (.aload_n 0, 1) := by decide +kernel
theorem dL_talks_191 : decode cL_talks 191 = .ok (.iload 4, 2) := by decide +kernel
theorem dL_talks_193 : decode cL_talks 193 = .ok (.bipush 6, 2) := by decide +kernel
theorem dL_talks_195 : decode cL_talks 195 = .ok (.invokevirtual 23, 3) := by decide +kernel
theorem dL_talks_198 : decode cL_talks 198 = .ok (.iload 11, 2) := by decide +kernel
theorem dL_talks_200 : decode cL_talks 200 = .ok (.ifCond .eq 8, 3) := by decide +kernel
theorem dL_talks_203 : decode cL_talks 203 = .ok (.iload 8, 2) := by decide +kernel
theorem dL_talks_205 : decode cL_talks 205 = .ok (.goto 8, 3) := by decide +kernel
theorem dL_talks_208 : decode cL_talks 208 = .ok (.iload 6, 2) := by decide +kernel
theorem dL_talks_210 : decode cL_talks 210 = .ok (.iload 10, 2) := by decide +kernel
theorem dL_talks_212 : decode cL_talks 212 = .ok (.iadd, 1) := by decide +kernel
theorem dL_talks_213 : decode cL_talks 213 = .ok (.if_icmp .ne 22, 3) := by decide +kernel
theorem dL_talks_216 : decode cL_talks 216 = .ok (.iload 11, 2) := by decide +kernel
theorem dL_talks_218 : decode cL_talks 218 = .ok (.ifCond .ne 13, 3) := by decide +kernel
theorem dL_talks_221 : decode cL_talks 221 = .ok (.aload_n 0, 1) := by decide +kernel
theorem dL_talks_222 : decode cL_talks 222 = .ok (.iload 4, 2) := by decide +kernel
theorem dL_talks_224 : decode cL_talks 224 = .ok (.iconst 3, 1) := by decide +kernel
theorem dL_talks_225 : decode cL_talks 225 = .ok (.invokevirtual 23, 3) := by decide +kernel
theorem dL_talks_228 : decode cL_talks 228 = .ok (.ifCond .ne 7, 3) := by decide +kernel
theorem dL_talks_231 : decode cL_talks 231 = .ok (.iconst 1, 1) := by decide +kernel
theorem dL_talks_232 : decode cL_talks 232 = .ok (.goto 4, 3) := by decide +kernel
theorem dL_talks_235 : decode cL_talks 235 = .ok (.iconst 0, 1) := by decide +kernel
theorem dL_talks_236 : decode cL_talks 236 = .ok (.ireturn, 1) := by decide +kernel
theorem dL_talks_237 : decode cL_talks 237 = .ok (.iload_n 1, 1) := by decide +kernel
theorem dL_talks_238 : decode cL_talks 238 = .ok (.iconst 1, 1) := by decide +kernel
theorem dL_talks_239 : decode cL_talks 239 = .ok (.if_icmp .ne 173, 3) := by decide +kernel
theorem dL_talks_242 : decode cL_talks 242 = .ok (.iload 8, 2) := by decide +kernel
theorem dL_talks_244 : decode cL_talks 244 = .ok (.iload 6, 2) := by decide +kernel
theorem dL_talks_246 : decode cL_talks 246 = .ok (.isub, 1) := by decide +kernel
theorem dL_talks_247 : decode cL_talks 247 = .ok (.istore 10, 2) := by decide +kernel
theorem dL_talks_249 : decode cL_talks 249 = .ok (.iload 5, 2) := by decide +kernel
theorem dL_talks_251 : decode cL_talks 251 = .ok (.ifCond .eq 7, 3) := by decide +kernel
theorem dL_talks_254 : decode cL_talks 254 = .ok (.iconst 0, 1) := by decide +kernel
theorem dL_talks_255 : decode cL_talks 255 = .ok (.goto 25, 3) := by decide +kernel
theorem dL_talks_258 : decode cL_talks 258 = .ok (.iload 10, 2) := by decide +kernel
theorem dL_talks_260 : decode cL_talks 260 = .ok (.ifCond .gt 7, 3) := by decide +kernel
theorem dL_talks_263 : decode cL_talks 263 = .ok (.iconst 5, 1) := by decide +kernel
theorem dL_talks_264 : decode cL_talks 264 = .ok (.goto 16, 3) := by decide +kernel
theorem dL_talks_267 : decode cL_talks 267 = .ok (.iload 10, 2) := by decide +kernel
theorem dL_talks_269 : decode cL_talks 269 = .ok (.iload 7, 2) := by decide +kernel
theorem dL_talks_271 : decode cL_talks 271 = .ok (.if_icmp .le 8, 3) := by decide +kernel
theorem dL_talks_274 : decode cL_talks 274 = .ok (.bipush 6, 2) := by decide +kernel
theorem dL_talks_276 : decode cL_talks 276 = .ok (.goto 4, 3) := by decide +kernel
theorem dL_talks_279 : decode cL_talks 279 = .ok (.iconst 0, 1) := by decide +kernel
theorem dL_talks_280 : decode cL_talks 280 = .ok (.istore 11, 2) := by decide +kernel
theorem dL_talks_282 : decode cL_talks 282 = .ok (.aload_n 0, 1) := by decide +kernel
theorem dL_talks_283 : decode cL_talks 283 = .ok (.bipush 8, 2) := by decide +kernel
theorem dL_talks_285 : decode cL_talks 285 = .ok (.invokevirtual 13, 3) := by decide +kernel
theorem dL_talks_288 : decode cL_talks 288 = .ok (.istore 12, 2) := by decide +kernel
theorem dL_talks_290 : decode cL_talks 290 = .ok (.aload_n 0, 1) := by decide +kernel
theorem dL_talks_291 : decode cL_talks 291 = .ok (.iload 4, 2) := by decide +kernel
theorem dL_talks_293 : decode cL_talks 293 = .ok (.invokevirtual 93, 3) := by decide +kernel
theorem dL_talks_296 : decode cL_talks 296 = .ok (.istore 13, 2) := by decide +kernel
theorem dL_talks_298 : decode cL_talks 298 = .ok (.iload 13, 2) := by decide +kernel
theorem dL_talks_300 : decode cL_talks 300 = .ok (.iload 5, 2) := by decide +kernel
theorem dL_talks_302 : decode cL_talks 302 = .ok (.ifCond .eq 7, 3) := by decide +kernel
theorem dL_talks_305 : decode cL_talks 305 = .ok (.iconst (-1), 1) := by decide +kernel
theorem dL_talks_306 : decode cL_talks 306 = .ok (.goto 21, 3) := by decide +kernel
theorem dL_talks_309 : decode cL_talks 309 = .ok (.iload 11, 2) := by decide +kernel
theorem dL_talks_311 : decode cL_talks 311 = .ok (.ifCond .le 8, 3) := by decide +kernel
theorem dL_talks_314 : decode cL_talks 314 = .ok (.iload 11, 2) := by decide +kernel
theorem dL_talks_316 : decode cL_talks 316 = .ok (.goto 11, 3) := by decide +kernel
theorem dL_talks_319 : decode cL_talks 319 = .ok (.bipush 10, 2) := by decide +kernel
theorem dL_talks_321 : decode cL_talks 321 = .ok (.iload 7, 2) := by decide +kernel
theorem dL_talks_323 : decode cL_talks 323 = .ok (.iadd, 1) := by decide +kernel
theorem dL_talks_324 : decode cL_talks 324 = .ok (.iload 10, 2) := by decide +kernel
theorem dL_talks_326 : decode cL_talks 326 = .ok (.isub, 1) := by decide +kernel
theorem dL_talks_327 : decode cL_talks 327 = .ok (.if_icmp .ne 83, 3) := by decide +kernel
theorem dL_talks_330 : decode cL_talks 330 = .ok (.aload_n 0, 1) := by decide +kernel
theorem dL_talks_331 : decode cL_talks 331 = .ok (.bipush 8, 2) := by decide +kernel
theorem dL_talks_333 : decode cL_talks 333 = .ok (.invokevirtual 13, 3) := by decide +kernel
theorem dL_talks_336 : decode cL_talks 336 = .ok (.iload 12, 2) := by decide +kernel
theorem dL_talks_338 : decode cL_talks 338 = .ok (.iload 11, 2) := by decide +kernel
theorem dL_talks_340 : decode cL_talks 340 = .ok (.ifCond .le 7, 3) := by decide +kernel
theorem dL_talks_343 : decode cL_talks 343 = .ok (.iconst 1, 1) := by decide +kernel
theorem dL_talks_344 : decode cL_talks 344 = .ok (.goto 4, 3) := by decide +kernel
theorem dL_talks_347 : decode cL_talks 347 = .ok (.iconst 0, 1) := by decide +kernel
theorem dL_talks_348 : decode cL_talks 348 = .ok (.iadd, 1) := by decide +kernel
theorem dL_talks_349 : decode cL_talks 349 = .ok (.if_icmp .ne 61, 3) := by decide +kernel
theorem dL_talks_352 : decode cL_talks 352 = .ok (.iload 5, 2) := by decide +kernel
theorem dL_talks_354 : decode cL_talks 354 = .ok (.ifCond .ne 26, 3) := by decide +kernel
theorem dL_talks_357 : decode cL_talks 357 = .ok (.aload_n 0, 1) := by decide +kernel
theorem dL_talks_358 : decode cL_talks 358 = .ok (.iload 4, 2) := by decide +kernel
theorem dL_talks_360 : decode cL_talks 360 = .ok (.bipush 6, 2) := by decide +kernel
theorem dL_talks_362 : decode cL_talks 362 = .ok (.invokevirtual 23, 3) := by decide +kernel
theorem dL_talks_365 : decode cL_talks 365 = .ok (.iload 11, 2) := by decide +kernel
theorem dL_talks_367 : decode cL_talks 367 = .ok (.ifCond .le 8, 3) := by decide +kernel
theorem dL_talks_370 : decode cL_talks 370 = .ok (.iload 8, 2) := by decide +kernel
theorem dL_talks_372 : decode cL_talks 372 = .ok (.goto 5, 3) := by decide +kernel
theorem dL_talks_375 : decode cL_talks 375 = .ok (.iload 6, 2) := by decide +kernel
theorem dL_talks_377 : decode cL_talks 377 = .ok (.if_icmp .ne 33, 3) := by decide +kernel
theorem dL_talks_380 : decode cL_talks 380 = .ok (.aload_n 0, 1) := by decide +kernel
theorem dL_talks_381 : decode cL_talks 381 = .ok (.bipush 6, 2) := by decide +kernel
theorem dL_talks_383 : decode cL_talks 383 = .ok (.invokevirtual 13, 3) := by decide +kernel
theorem dL_talks_386 : decode cL_talks 386 = .ok (.iload 13, 2) := by decide +kernel
theorem dL_talks_388 : decode cL_talks 388 = .ok (.bipush 10, 2) := by decide +kernel
theorem dL_talks_390 : decode cL_talks 390 = .ok (.if_icmp .lt 11, 3) := by decide +kernel
theorem dL_talks_393 : decode cL_talks 393 = .ok (.iload 13, 2) := by decide +kernel
theorem dL_talks_395 : decode cL_talks 395 = .ok (.bipush 10, 2) := by decide +kernel
theorem dL_talks_397 : decode cL_talks 397 = .ok (.isub, 1) := by decide +kernel
theorem dL_talks_398 : decode cL_talks 398 = .ok (.goto 5, 3) := by decide +kernel
theorem dL_talks_401 : decode cL_talks 401 = .ok (.iload 7, 2) := by decide +kernel
theorem dL_talks_403 : decode cL_talks 403 = .ok (.if_icmp .ne 7, 3) := by decide +kernel
theorem dL_talks_406 : decode cL_talks 406 = .ok (.iconst 1, 1) := by decide +kernel
theorem dL_talks_407 : decode cL_talks 407 = .ok (.goto 4, 3) := by decide +kernel
theorem dL_talks_410 : decode cL_talks 410 = .ok (.iconst 0, 1) := by decide +kernel
theorem dL_talks_411 : decode cL_talks 411 = .ok (.ireturn, 1) := by decide +kernel
theorem dL_talks_412 : decode cL_talks 412 = .ok (.aload_n 0, 1) := by decide +kernel
theorem dL_talks_413 : decode cL_talks 413 = .ok (.iload 4, 2) := by decide +kernel
theorem dL_talks_415 : decode cL_talks 415 = .ok (.invokevirtual 96, 3) := by decide +kernel
theorem dL_talks_418 : decode cL_talks 418 = .ok (.iload 5, 2) := by decide +kernel
theorem dL_talks_420 : decode cL_talks 420 = .ok (.ifCond .eq 7, 3) := by decide +kernel
theorem dL_talks_423 : decode cL_talks 423 = .ok (.iconst (-1), 1) := by decide +kernel
theorem dL_talks_424 : decode cL_talks 424 = .ok (.goto 6, 3) := by decide +kernel
theorem dL_talks_427 : decode cL_talks 427 = .ok (.iload_n 3, 1) := by decide +kernel
theorem dL_talks_428 : decode cL_talks 428 = .ok (.iconst 1, 1) := by decide +kernel
theorem dL_talks_429 : decode cL_talks 429 = .ok (.isub, 1) := by decide +kernel
theorem dL_talks_430 : decode cL_talks 430 = .ok (.if_icmp .ne 27, 3) := by decide +kernel
theorem dL_talks_433 : decode cL_talks 433 = .ok (.aload_n 0, 1) := by decide +kernel
theorem dL_talks_434 : decode cL_talks 434 = .ok (.iconst 1, 1) := by decide +kernel
theorem dL_talks_435 : decode cL_talks 435 = .ok (.invokevirtual 13, 3) := by decide +kernel
theorem dL_talks_438 : decode cL_talks 438 = .ok (.iload_n 3, 1) := by decide +kernel
theorem dL_talks_439 : decode cL_talks 439 = .ok (.iload 5, 2) := by decide +kernel
theorem dL_talks_441 : decode cL_talks 441 = .ok (.ifCond .eq 7, 3) := by decide +kernel
theorem dL_talks_444 : decode cL_talks 444 = .ok (.iconst 0, 1) := by decide +kernel
theorem dL_talks_445 : decode cL_talks 445 = .ok (.goto 4, 3) := by decide +kernel
theorem dL_talks_448 : decode cL_talks 448 = .ok (.iconst 1, 1) := by decide +kernel
theorem dL_talks_449 : decode cL_talks 449 = .ok (.isub, 1) := by decide +kernel
theorem dL_talks_450 : decode cL_talks 450 = .ok (.if_icmp .ne 7, 3) := by decide +kernel
theorem dL_talks_453 : decode cL_talks 453 = .ok (.iconst 1, 1) := by decide +kernel
theorem dL_talks_454 : decode cL_talks 454 = .ok (.goto 4, 3) := by decide +kernel
theorem dL_talks_457 : decode cL_talks 457 = .ok (.iconst 0, 1) := by decide +kernel
theorem dL_talks_458 : decode cL_talks 458 = .ok (.ireturn, 1) := by decide +kernel
theorem dL_acts_0 : decode cL_acts 0 = .ok (.iload_n 1, 1) := by decide +kernel
theorem dL_acts_1 : decode cL_acts 1 = .ok (.bipush 32, 2) := by decide +kernel
theorem dL_acts_3 : decode cL_acts 3 = .ok (.invokestatic 39, 3) := by decide +kernel
theorem dL_acts_6 : decode cL_acts 6 = .ok (.istore_n 3, 1) := by decide +kernel
theorem dL_acts_7 : decode cL_acts 7 = .ok (.aload_n 0, 1) := by decide +kernel
theorem dL_acts_8 : decode cL_acts 8 = .ok (.bipush 8, 2) := by decide +kernel
theorem dL_acts_10 : decode cL_acts 10 = .ok (.invokevirtual 13, 3) := by decide +kernel
theorem dL_acts_13 : decode cL_acts 13 = .ok (.istore 4, 2) := by decide +kernel
theorem dL_acts_15 : decode cL_acts 15 = .ok (.iload_n 3, 1) := by decide +kernel
theorem dL_acts_16 : decode cL_acts 16 = .ok (.bipush 8, 2) := by decide +kernel
theorem dL_acts_18 : decode cL_acts 18 = .ok (.if_icmp .ge 326, 3) := by decide +kernel
theorem dL_acts_21 : decode cL_acts 21 = .ok (.aload_n 0, 1) := by decide +kernel
theorem dL_acts_22 : decode cL_acts 22 = .ok (.iconst 1, 1) := by decide +kernel
theorem dL_acts_23 : decode cL_acts 23 = .ok (.invokevirtual 13, 3) := by decide +kernel
theorem dL_acts_26 : decode cL_acts 26 = .ok (.istore 5, 2) := by decide +kernel
theorem dL_acts_28 : decode cL_acts 28 = .ok (.iload_n 2, 1) := by decide +kernel
theorem dL_acts_29 : decode cL_acts 29 = .ok (.iload_n 2, 1) := by decide +kernel
theorem dL_acts_30 : decode cL_acts 30 = .ok (.bipush 14, 2) := by decide +kernel
theorem dL_acts_32 : decode cL_acts 32 = .ok (.ishr, 1) := by decide +kernel
theorem dL_acts_33 : decode cL_acts 33 = .ok (.bipush 9, 2) := by decide +kernel
theorem dL_acts_35 : decode cL_acts 35 = .ok (.invokestatic 39, 3) := by decide +kernel
theorem dL_acts_38 : decode cL_acts 38 = .ok (.ifCond .ne 8, 3) := by decide +kernel
theorem dL_acts_41 : decode cL_acts 41 = .ok (.bipush 9, 2) := by decide +kernel
theorem dL_acts_43 : decode cL_acts 43 = .ok (.goto 5, 3) := by decide +kernel
theorem dL_acts_46 : decode cL_acts 46 = .ok (.bipush 8, 2) := by decide +kernel
theorem dL_acts_48 : decode cL_acts 48 = .ok (.invokestatic 39, 3) := by decide +kernel
theorem dL_acts_51 : decode cL_acts 51 = .ok (.istore 6, 2) := by decide +kernel
theorem dL_acts_53 : decode cL_acts 53 = .ok (.iload_n 2, 1) := by decide +kernel
theorem dL_acts_54 : decode cL_acts 54 = .ok (.iconst 3, 1) := by decide +kernel
theorem dL_acts_55 : decode cL_acts 55 = .ok (.ishr, 1) := by decide +kernel
theorem dL_acts_56 : decode cL_acts 56 = .ok (.iload_n 2, 1) := by decide +kernel
theorem dL_acts_57 : decode cL_acts 57 = .ok (.bipush 15, 2) := by decide +kernel
theorem dL_acts_59 : decode cL_acts 59 = .ok (.ishr, 1) := by decide +kernel
theorem dL_acts_60 : decode cL_acts 60 = .ok (.bipush 9, 2) := by decide +kernel
theorem dL_acts_62 : decode cL_acts 62 = .ok (.invokestatic 39, 3) := by decide +kernel
theorem dL_acts_65 : decode cL_acts 65 = .ok (.ifCond .ne 8, 3) := by decide +kernel
theorem dL_acts_68 : decode cL_acts 68 = .ok (.bipush 9, 2) := by decide +kernel
theorem dL_acts_70 : decode cL_acts 70 = .ok (.goto 5, 3) := by decide +kernel
theorem dL_acts_73 : decode cL_acts 73 = .ok (.bipush 8, 2) := by decide +kernel
theorem dL_acts_75 : decode cL_acts 75 = .ok (.invokestatic 39, 3) := by decide +kernel
theorem dL_acts_78 : decode cL_acts 78 = .ok (.istore 7, 2) := by decide +kernel
theorem dL_acts_80 : decode cL_acts 80 = .ok (.iload_n 2, 1) := by decide +kernel
theorem dL_acts_81 : decode cL_acts 81 = .ok (.bipush 9, 2) := by decide +kernel
theorem dL_acts_83 : decode cL_acts 83 = .ok (.ishr, 1) := by decide +kernel
theorem dL_acts_84 : decode cL_acts 84 = .ok (.iconst 3, 1) := by decide +kernel
theorem dL_acts_85 : decode cL_acts 85 = .ok (.invokestatic 39, 3) := by decide +kernel
theorem dL_acts_88 : decode cL_acts 88 = .ok (.ifCond .ne 18, 3) := by decide +kernel
theorem dL_acts_91 : decode cL_acts 91 = .ok (.iload_n 2, 1) := by decide +kernel
theorem dL_acts_92 : decode cL_acts 92 = .ok (.bipush 6, 2) := by decide +kernel
theorem dL_acts_94 : decode cL_acts 94 = .ok (.ishr, 1) := by decide +kernel
theorem dL_acts_95 : decode cL_acts 95 = .ok (.bipush 93, 2) := by decide +kernel
theorem dL_acts_97 : decode cL_acts 97 = .ok (.invokestatic 39, 3) := by decide +kernel
theorem dL_acts_100 : decode cL_acts 100 = .ok (.bipush 31, 2) := by decide +kernel
theorem dL_acts_102 : decode cL_acts 102 = .ok (.isub, 1) := by decide +kernel
theorem dL_acts_103 : decode cL_acts 103 = .ok (.goto 14, 3) := by decide +kernel
theorem dL_acts_106 : decode cL_acts 106 = .ok (.iload_n 2, 1) := by decide +kernel
theorem dL_acts_107 : decode cL_acts 107 = .ok (.bipush 6, 2) := by decide +kernel
theorem dL_acts_109 : decode cL_acts 109 = .ok (.ishr, 1) := by decide +kernel
theorem dL_acts_110 : decode cL_acts 110 = .ok (.bipush 16, 2) := by decide +kernel
theorem dL_acts_112 : decode cL_acts 112 = .ok (.invokestatic 39, 3) := by decide +kernel
theorem dL_acts_115 : decode cL_acts 115 = .ok (.iconst 3, 1) := by decide +kernel
theorem dL_acts_116 : decode cL_acts 116 = .ok (.isub, 1) := by decide +kernel
theorem dL_acts_117 : decode cL_acts 117 = .ok (.istore 8, 2) := by decide +kernel
theorem dL_acts_119 : decode cL_acts 119 = .ok (.iload 6, 2) := by decide +kernel
theorem dL_acts_121 : decode cL_acts 121 = .ok (.bipush 8, 2) := by decide +kernel
theorem dL_acts_123 : decode cL_acts 123 = .ok (.if_icmp .eq 31, 3) := by decide +kernel
theorem dL_acts_126 : decode cL_acts 126 = .ok (.iload 7, 2) := by decide +kernel
theorem dL_acts_128 : decode cL_acts 128 = .ok (.bipush 8, 2) := by decide +kernel
theorem dL_acts_130 : decode cL_acts 130 = .ok (.if_icmp .eq 24, 3) := by decide +kernel
theorem dL_acts_133 : decode cL_acts 133 = .ok (.iload 6, 2) := by decide +kernel
theorem dL_acts_135 : decode cL_acts 135 = .ok (.iload 7, 2) := by decide +kernel
theorem dL_acts_137 : decode cL_acts 137 = .ok (.if_icmp .eq 17, 3) := by decide +kernel
theorem dL_acts_140 : decode cL_acts 140 = .ok (.iload 8, 2) := by decide +kernel
theorem dL_acts_142 : decode cL_acts 142 = .ok (.bipush (-30), 2) := by decide +kernel
theorem dL_acts_144 : decode cL_acts 144 = .ok (.if_icmp .lt 10, 3) := by decide +kernel
theorem dL_acts_147 : decode cL_acts 147 = .ok (.iload 8, 2) := by decide +kernel
theorem dL_acts_149 : decode cL_acts 149 = .ok (.bipush 60, 2) := by decide +kernel
theorem dL_acts_151 : decode cL_acts 151 = .ok (.if_icmp .le 7, 3) := by decide +kernel
theorem dL_acts_154 : decode cL_acts 154 = .ok (.iconst 1, 1) := by decide +kernel
theorem dL_acts_155 : decode cL_acts 155 = .ok (.goto 4, 3) := by decide +kernel
theorem dL_acts_158 : decode cL_acts 158 = .ok (.iconst 0, 1) := by decide +kernel
theorem dL_acts_159 : decode cL_acts 159 = .ok (.istore 9, 2) := by decide +kernel
theorem dL_acts_161 : decode cL_acts 161 = .ok (.iload 9, 2) := by decide +kernel
theorem dL_acts_163 : decode cL_acts 163 = .ok (.ifCond .eq 7, 3) := by decide +kernel
theorem dL_acts_166 : decode cL_acts 166 = .ok (.iconst 0, 1) := by decide +kernel
theorem dL_acts_167 : decode cL_acts 167 = .ok (.goto 13, 3) := by decide +kernel
theorem dL_acts_170 : decode cL_acts 170 = .ok (.aload_n 0, 1) := by decide +kernel
theorem dL_acts_171 : decode cL_acts 171 = .ok (.iload 6, 2) := by decide +kernel
theorem dL_acts_173 : decode cL_acts 173 = .ok (.iload 7, 2) := by decide +kernel
theorem dL_acts_175 : decode cL_acts 175 = .ok (.iload 8, 2) := by decide +kernel
theorem dL_acts_177 : decode cL_acts 177 = .ok (.invokevirtual 42, 3) := by decide +kernel
theorem dL_acts_180 : decode cL_acts 180 = .ok (.istore 10, 2) := by decide +kernel
theorem dL_acts_182 : decode cL_acts 182 = .ok (.aload_n 0, 1) := by decide +kernel
theorem dL_acts_183 : decode cL_acts 183 = .ok (.iload 6, 2) := by decide +kernel
theorem dL_acts_185 : decode cL_acts 185 = .ok (.iload 7, 2) := by decide +kernel
theorem dL_acts_187 : decode cL_acts 187 = .ok (.iload 8, 2) := by decide +kernel
theorem dL_acts_189 : decode cL_acts 189 = .ok (.invokevirtual 99, 3) := by decide +kernel
theorem dL_acts_192 : decode cL_acts 192 = .ok (.istore 11, 2) := by decide +kernel
theorem dL_acts_194 : decode cL_acts 194 = .ok (.iload 9, 2) := by decide +kernel
theorem dL_acts_196 : decode cL_acts 196 = .ok (.ifCond .ne 19, 3) := by decide +kernel
theorem dL_acts_199 : decode cL_acts 199 = .ok (.iload 5, 2) := by decide +kernel
theorem dL_acts_201 : decode cL_acts 201 = .ok (.bipush 14, 2) := by decide +kernel
theorem dL_acts_203 : decode cL_acts 203 = .ok (.if_icmp .ge 12, 3) := by decide +kernel
theorem dL_acts_206 : decode cL_acts 206 = .ok (.iload 10, 2) := by decide +kernel
theorem dL_acts_208 : decode cL_acts 208 = .ok (.ifCond .le 7, 3) := by decide +kernel
theorem dL_acts_211 : decode cL_acts 211 = .ok (.iconst 1, 1) := by decide +kernel
theorem dL_acts_212 : decode cL_acts 212 = .ok (.goto 4, 3) := by decide +kernel
theorem dL_acts_215 : decode cL_acts 215 = .ok (.iconst 0, 1) := by decide +kernel
theorem dL_acts_216 : decode cL_acts 216 = .ok (.istore 12, 2) := by decide +kernel
theorem dL_acts_218 : decode cL_acts 218 = .ok (.iload 11, 2) := by decide +kernel
theorem dL_acts_220 : decode cL_acts 220 = .ok (.iload 9, 2) := by decide +kernel
theorem dL_acts_222 : decode cL_acts 222 = .ok (.ifCond .eq 7, 3) := by decide +kernel
theorem dL_acts_225 : decode cL_acts 225 = .ok (.iconst (-1), 1) := by decide +kernel
theorem dL_acts_226 : decode cL_acts 226 = .ok (.goto 30, 3) := by decide +kernel
theorem dL_acts_229 : decode cL_acts 229 = .ok (.iload 5, 2) := by decide +kernel
theorem dL_acts_231 : decode cL_acts 231 = .ok (.bipush 14, 2) := by decide +kernel
theorem dL_acts_233 : decode cL_acts 233 = .ok (.if_icmp .ne 8, 3) := by decide +kernel
theorem dL_acts_236 : decode cL_acts 236 = .ok (.bipush (-3), 2) := by decide +kernel
theorem dL_acts_238 : decode cL_acts 238 = .ok (.goto 18, 3) := by decide +kernel
theorem dL_acts_241 : decode cL_acts 241 = .ok (.iload 10, 2) := by decide +kernel
theorem dL_acts_243 : decode cL_acts 243 = .ok (.ifCond .le 8, 3) := by decide +kernel
theorem dL_acts_246 : decode cL_acts 246 = .ok (.iload 10, 2) := by decide +kernel
theorem dL_acts_248 : decode cL_acts 248 = .ok (.goto 8, 3) := by decide +kernel
theorem dL_acts_251 : decode cL_acts 251 = .ok (.bipush 10, 2) := by decide +kernel
theorem dL_acts_253 : decode cL_acts 253 = .ok (.iload 5, 2) := by decide +kernel
theorem dL_acts_255 : decode cL_acts 255 = .ok (.iadd, 1) := by decide +kernel
theorem dL_acts_256 : decode cL_acts 256 = .ok (.if_icmp .ne 86, 3) := by decide +kernel
theorem dL_acts_259 : decode cL_acts 259 = .ok (.aload_n 0, 1) := by decide +kernel
theorem dL_acts_260 : decode cL_acts 260 = .ok (.bipush 8, 2) := by decide +kernel
theorem dL_acts_262 : decode cL_acts 262 = .ok (.invokevirtual 13, 3) := by decide +kernel
theorem dL_acts_265 : decode cL_acts 265 = .ok (.iload 4, 2) := by decide +kernel
theorem dL_acts_267 : decode cL_acts 267 = .ok (.iload 12, 2) := by decide +kernel
theorem dL_acts_269 : decode cL_acts 269 = .ok (.ifCond .eq 7, 3) := by decide +kernel
theorem dL_acts_272 : decode cL_acts 272 = .ok (.iconst 1, 1) := by decide +kernel
theorem dL_acts_273 : decode cL_acts 273 = .ok (.goto 4, 3) := by decide +kernel
theorem dL_acts_276 : decode cL_acts 276 = .ok (.iconst 0, 1) := by decide +kernel
theorem dL_acts_277 : decode cL_acts 277 = .ok (.iadd, 1) := by decide +kernel
theorem dL_acts_278 : decode cL_acts 278 = .ok (.if_icmp .ne 64, 3) := by decide +kernel
theorem dL_acts_281 : decode cL_acts 281 = .ok (.iload 11, 2) := by decide +kernel
theorem dL_acts_283 : decode cL_acts 283 = .ok (.bipush 10, 2) := by decide +kernel
theorem dL_acts_285 : decode cL_acts 285 = .ok (.if_icmp .lt 53, 3) := by decide +kernel
theorem dL_acts_288 : decode cL_acts 288 = .ok (.aload_n 0, 1) := by decide +kernel
theorem dL_acts_289 : decode cL_acts 289 = .ok (.iload 5, 2) := by decide +kernel
theorem dL_acts_291 : decode cL_acts 291 = .ok (.iconst 0, 1) := by decide +kernel
theorem dL_acts_292 : decode cL_acts 292 = .ok (.invokevirtual 23, 3) := by decide +kernel
theorem dL_acts_295 : decode cL_acts 295 = .ok (.iload 6, 2) := by decide +kernel
theorem dL_acts_297 : decode cL_acts 297 = .ok (.if_icmp .ne 45, 3) := by decide +kernel
theorem dL_acts_300 : decode cL_acts 300 = .ok (.aload_n 0, 1) := by decide +kernel
theorem dL_acts_301 : decode cL_acts 301 = .ok (.iload 5, 2) := by decide +kernel
theorem dL_acts_303 : decode cL_acts 303 = .ok (.iconst 1, 1) := by decide +kernel
theorem dL_acts_304 : decode cL_acts 304 = .ok (.invokevirtual 23, 3) := by decide +kernel
theorem dL_acts_307 : decode cL_acts 307 = .ok (.iload 7, 2) := by decide +kernel
theorem dL_acts_309 : decode cL_acts 309 = .ok (.if_icmp .ne 33, 3) := by decide +kernel
theorem dL_acts_312 : decode cL_acts 312 = .ok (.aload_n 0, 1) := by decide +kernel
theorem dL_acts_313 : decode cL_acts 313 = .ok (.iload 5, 2) := by decide +kernel
theorem dL_acts_315 : decode cL_acts 315 = .ok (.iconst 2, 1) := by decide +kernel
theorem dL_acts_316 : decode cL_acts 316 = .ok (.invokevirtual 23, 3) := by decide +kernel
theorem dL_acts_319 : decode cL_acts 319 = .ok (.iload 8, 2) := by decide +kernel
theorem dL_acts_321 : decode cL_acts 321 = .ok (.bipush 100, 2) := by decide +kernel
theorem dL_acts_323 : decode cL_acts 323 = .ok (.iadd, 1) := by decide +kernel
theorem dL_acts_324 : decode cL_acts 324 = .ok (.if_icmp .ne 18, 3) := by decide +kernel
theorem dL_acts_327 : decode cL_acts 327 = .ok (.aload_n 0, 1) := by decide +kernel
theorem dL_acts_328 : decode cL_acts 328 = .ok (.iload 5, 2) := by decide +kernel
theorem dL_acts_330 : decode cL_acts 330 = .ok (.bipush 6, 2) := by decide +kernel
theorem dL_acts_332 : decode cL_acts 332 = .ok (.invokevirtual 23, 3) := by decide +kernel
theorem dL_acts_335 : decode cL_acts 335 = .ok (.ifCond .ne 7, 3) := by decide +kernel
theorem dL_acts_338 : decode cL_acts 338 = .ok (.iconst 1, 1) := by decide +kernel
theorem dL_acts_339 : decode cL_acts 339 = .ok (.goto 4, 3) := by decide +kernel
theorem dL_acts_342 : decode cL_acts 342 = .ok (.iconst 0, 1) := by decide +kernel
theorem dL_acts_343 : decode cL_acts 343 = .ok (.ireturn, 1) := by decide +kernel
theorem dL_acts_344 : decode cL_acts 344 = .ok (.iload_n 3, 1) := by decide +kernel
theorem dL_acts_345 : decode cL_acts 345 = .ok (.bipush 16, 2) := by decide +kernel
theorem dL_acts_347 : decode cL_acts 347 = .ok (.if_icmp .ge 40, 3) := by decide +kernel
theorem dL_acts_350 : decode cL_acts 350 = .ok (.aload_n 0, 1) := by decide +kernel
theorem dL_acts_351 : decode cL_acts 351 = .ok (.iload_n 3, 1) := by decide +kernel
theorem dL_acts_352 : decode cL_acts 352 = .ok (.bipush 10, 2) := by decide +kernel
theorem dL_acts_354 : decode cL_acts 354 = .ok (.if_icmp .ge 7, 3) := by decide +kernel
theorem dL_acts_357 : decode cL_acts 357 = .ok (.iconst 0, 1) := by decide +kernel
theorem dL_acts_358 : decode cL_acts 358 = .ok (.goto 24, 3) := by decide +kernel
theorem dL_acts_361 : decode cL_acts 361 = .ok (.iload_n 3, 1) := by decide +kernel
theorem dL_acts_362 : decode cL_acts 362 = .ok (.bipush 12, 2) := by decide +kernel
theorem dL_acts_364 : decode cL_acts 364 = .ok (.if_icmp .ge 7, 3) := by decide +kernel
theorem dL_acts_367 : decode cL_acts 367 = .ok (.iconst 1, 1) := by decide +kernel
theorem dL_acts_368 : decode cL_acts 368 = .ok (.goto 14, 3) := by decide +kernel
theorem dL_acts_371 : decode cL_acts 371 = .ok (.iload_n 3, 1) := by decide +kernel
theorem dL_acts_372 : decode cL_acts 372 = .ok (.bipush 13, 2) := by decide +kernel
theorem dL_acts_374 : decode cL_acts 374 = .ok (.if_icmp .ge 7, 3) := by decide +kernel
theorem dL_acts_377 : decode cL_acts 377 = .ok (.iconst 2, 1) := by decide +kernel
theorem dL_acts_378 : decode cL_acts 378 = .ok (.goto 4, 3) := by decide +kernel
theorem dL_acts_381 : decode cL_acts 381 = .ok (.iconst 3, 1) := by decide +kernel
theorem dL_acts_382 : decode cL_acts 382 = .ok (.iload_n 2, 1) := by decide +kernel
theorem dL_acts_383 : decode cL_acts 383 = .ok (.invokestatic 102, 3) := by decide +kernel
theorem dL_acts_386 : decode cL_acts 386 = .ok (.ireturn, 1) := by decide +kernel
theorem dL_acts_387 : decode cL_acts 387 = .ok (.iload_n 3, 1) := by decide +kernel
theorem dL_acts_388 : decode cL_acts 388 = .ok (.bipush 23, 2) := by decide +kernel
theorem dL_acts_390 : decode cL_acts 390 = .ok (.if_icmp .ge 30, 3) := by decide +kernel
theorem dL_acts_393 : decode cL_acts 393 = .ok (.aload_n 0, 1) := by decide +kernel
theorem dL_acts_394 : decode cL_acts 394 = .ok (.iload_n 3, 1) := by decide +kernel
theorem dL_acts_395 : decode cL_acts 395 = .ok (.bipush 19, 2) := by decide +kernel
theorem dL_acts_397 : decode cL_acts 397 = .ok (.if_icmp .ge 7, 3) := by decide +kernel
theorem dL_acts_400 : decode cL_acts 400 = .ok (.iconst 0, 1) := by decide +kernel
theorem dL_acts_401 : decode cL_acts 401 = .ok (.goto 14, 3) := by decide +kernel
theorem dL_acts_404 : decode cL_acts 404 = .ok (.iload_n 3, 1) := by decide +kernel
theorem dL_acts_405 : decode cL_acts 405 = .ok (.bipush 22, 2) := by decide +kernel
theorem dL_acts_407 : decode cL_acts 407 = .ok (.if_icmp .ge 7, 3) := by decide +kernel
theorem dL_acts_410 : decode cL_acts 410 = .ok (.iconst 1, 1) := by decide +kernel
theorem dL_acts_411 : decode cL_acts 411 = .ok (.goto 4, 3) := by decide +kernel
theorem dL_acts_414 : decode cL_acts 414 = .ok (.iconst 2, 1) := by decide +kernel
theorem dL_acts_415 : decode cL_acts 415 = .ok (.iload_n 2, 1) := by decide +kernel
theorem dL_acts_416 : decode cL_acts 416 = .ok (.invokestatic 106, 3) := by decide +kernel
theorem dL_acts_419 : decode cL_acts 419 = .ok (.ireturn, 1) := by decide +kernel
theorem dL_acts_420 : decode cL_acts 420 = .ok (.iload_n 3, 1) := by decide +kernel
theorem dL_acts_421 : decode cL_acts 421 = .ok (.bipush 25, 2) := by decide +kernel
theorem dL_acts_423 : decode cL_acts 423 = .ok (.if_icmp .ge 142, 3) := by decide +kernel
theorem dL_acts_426 : decode cL_acts 426 = .ok (.aload_n 0, 1) := by decide +kernel
theorem dL_acts_427 : decode cL_acts 427 = .ok (.iconst 0, 1) := by decide +kernel
theorem dL_acts_428 : decode cL_acts 428 = .ok (.invokevirtual 26, 3) := by decide +kernel
theorem dL_acts_431 : decode cL_acts 431 = .ok (.istore 5, 2) := by decide +kernel
theorem dL_acts_433 : decode cL_acts 433 = .ok (.aload_n 0, 1) := by decide +kernel
theorem dL_acts_434 : decode cL_acts 434 = .ok (.bipush 10, 2) := by decide +kernel
theorem dL_acts_436 : decode cL_acts 436 = .ok (.invokevirtual 13, 3) := by decide +kernel
theorem dL_acts_439 : decode cL_acts 439 = .ok (.istore 6, 2) := by decide +kernel
theorem dL_acts_441 : decode cL_acts 441 = .ok (.aload_n 0, 1) := by decide +kernel
theorem dL_acts_442 : decode cL_acts 442 = .ok (.invokevirtual 109, 3) := by decide +kernel
theorem dL_acts_445 : decode cL_acts 445 = .ok (.istore 7, 2) := by decide +kernel
theorem dL_acts_447 : decode cL_acts 447 = .ok (.iload 7, 2) := by decide +kernel
theorem dL_acts_449 : decode cL_acts 449 = .ok (.bipush 10, 2) := by decide +kernel
theorem dL_acts_451 : decode cL_acts 451 = .ok (.if_icmp .lt 7, 3) := by decide +kernel
theorem dL_acts_454 : decode cL_acts 454 = .ok (.iconst 1, 1) := by decide +kernel
theorem dL_acts_455 : decode cL_acts 455 = .ok (.goto 4, 3) := by decide +kernel
theorem dL_acts_458 : decode cL_acts 458 = .ok (.iconst 0, 1) := by decide +kernel
theorem dL_acts_459 : decode cL_acts 459 = .ok (.istore 8, 2) := by decide +kernel
theorem dL_acts_461 : decode cL_acts 461 = .ok (.iload 5, 2) := by decide +kernel
theorem dL_acts_463 : decode cL_acts 463 = .ok (.bipush (-4), 2) := by decide +kernel
theorem dL_acts_465 : decode cL_acts 465 = .ok (.if_icmp .ne 12, 3) := by decide +kernel
theorem dL_acts_468 : decode cL_acts 468 = .ok (.iload 7, 2) := by decide +kernel
theorem dL_acts_470 : decode cL_acts 470 = .ok (.iconst 4, 1) := by decide +kernel
theorem dL_acts_471 : decode cL_acts 471 = .ok (.if_icmp .ne 92, 3) := by decide +kernel
theorem dL_acts_474 : decode cL_acts 474 = .ok (.goto 19, 3) := by decide +kernel
theorem dL_acts_477 : decode cL_acts 477 = .ok (.iload 7, 2) := by decide +kernel
theorem dL_acts_479 : decode cL_acts 479 = .ok (.iconst 3, 1) := by decide +kernel
theorem dL_acts_480 : decode cL_acts 480 = .ok (.if_icmp .eq 13, 3) := by decide +kernel
theorem dL_acts_483 : decode cL_acts 483 = .ok (.iload 7, 2) := by decide +kernel
theorem dL_acts_485 : decode cL_acts 485 = .ok (.bipush 10, 2) := by decide +kernel
theorem dL_acts_487 : decode cL_acts 487 = .ok (.iload 5, 2) := by decide +kernel
theorem dL_acts_489 : decode cL_acts 489 = .ok (.iadd, 1) := by decide +kernel
theorem dL_acts_490 : decode cL_acts 490 = .ok (.if_icmp .ne 73, 3) := by decide +kernel
theorem dL_acts_493 : decode cL_acts 493 = .ok (.aload_n 0, 1) := by decide +kernel
theorem dL_acts_494 : decode cL_acts 494 = .ok (.bipush 8, 2) := by decide +kernel
theorem dL_acts_496 : decode cL_acts 496 = .ok (.invokevirtual 13, 3) := by decide +kernel
theorem dL_acts_499 : decode cL_acts 499 = .ok (.iload 4, 2) := by decide +kernel
theorem dL_acts_501 : decode cL_acts 501 = .ok (.iload 8, 2) := by decide +kernel
theorem dL_acts_503 : decode cL_acts 503 = .ok (.ifCond .eq 7, 3) := by decide +kernel
theorem dL_acts_506 : decode cL_acts 506 = .ok (.iconst 0, 1) := by decide +kernel
theorem dL_acts_507 : decode cL_acts 507 = .ok (.goto 4, 3) := by decide +kernel
theorem dL_acts_510 : decode cL_acts 510 = .ok (.iconst 1, 1) := by decide +kernel
theorem dL_acts_511 : decode cL_acts 511 = .ok (.iadd, 1) := by decide +kernel
theorem dL_acts_512 : decode cL_acts 512 = .ok (.if_icmp .ne 51, 3) := by decide +kernel
theorem dL_acts_515 : decode cL_acts 515 = .ok (.aload_n 0, 1) := by decide +kernel
theorem dL_acts_516 : decode cL_acts 516 = .ok (.bipush 10, 2) := by decide +kernel
theorem dL_acts_518 : decode cL_acts 518 = .ok (.invokevirtual 13, 3) := by decide +kernel
theorem dL_acts_521 : decode cL_acts 521 = .ok (.iload 6, 2) := by decide +kernel
theorem dL_acts_523 : decode cL_acts 523 = .ok (.iload 8, 2) := by decide +kernel
theorem dL_acts_525 : decode cL_acts 525 = .ok (.ifCond .eq 8, 3) := by decide +kernel
theorem dL_acts_528 : decode cL_acts 528 = .ok (.iload 5, 2) := by decide +kernel
theorem dL_acts_530 : decode cL_acts 530 = .ok (.goto 4, 3) := by decide +kernel
theorem dL_acts_533 : decode cL_acts 533 = .ok (.iconst 0, 1) := by decide +kernel
theorem dL_acts_534 : decode cL_acts 534 = .ok (.iadd, 1) := by decide +kernel
theorem dL_acts_535 : decode cL_acts 535 = .ok (.if_icmp .ne 28, 3) := by decide +kernel
theorem dL_acts_538 : decode cL_acts 538 = .ok (.iload 8, 2) := by decide +kernel
theorem dL_acts_540 : decode cL_acts 540 = .ok (.ifCond .eq 19, 3) := by decide +kernel
theorem dL_acts_543 : decode cL_acts 543 = .ok (.aload_n 0, 1) := by decide +kernel
theorem dL_acts_544 : decode cL_acts 544 = .ok (.iconst 3, 1) := by decide +kernel
theorem dL_acts_545 : decode cL_acts 545 = .ok (.invokevirtual 13, 3) := by decide +kernel
theorem dL_acts_548 : decode cL_acts 548 = .ok (.ifCond .ne 15, 3) := by decide +kernel
theorem dL_acts_551 : decode cL_acts 551 = .ok (.aload_n 0, 1) := by decide +kernel
theorem dL_acts_552 : decode cL_acts 552 = .ok (.iconst 1, 1) := by decide +kernel
theorem dL_acts_553 : decode cL_acts 553 = .ok (.invokevirtual 26, 3) := by decide +kernel
theorem dL_acts_556 : decode cL_acts 556 = .ok (.ifCond .ne 7, 3) := by decide +kernel
theorem dL_acts_559 : decode cL_acts 559 = .ok (.iconst 1, 1) := by decide +kernel
theorem dL_acts_560 : decode cL_acts 560 = .ok (.goto 4, 3) := by decide +kernel
theorem dL_acts_563 : decode cL_acts 563 = .ok (.iconst 0, 1) := by decide +kernel
theorem dL_acts_564 : decode cL_acts 564 = .ok (.ireturn, 1) := by decide +kernel
theorem dL_acts_565 : decode cL_acts 565 = .ok (.iload_n 3, 1) := by decide +kernel
theorem dL_acts_566 : decode cL_acts 566 = .ok (.bipush 29, 2) := by decide +kernel
theorem dL_acts_568 : decode cL_acts 568 = .ok (.if_icmp .ge 73, 3) := by decide +kernel
theorem dL_acts_571 : decode cL_acts 571 = .ok (.aload_n 0, 1) := by decide +kernel
theorem dL_acts_572 : decode cL_acts 572 = .ok (.iconst 1, 1) := by decide +kernel
theorem dL_acts_573 : decode cL_acts 573 = .ok (.iconst 0, 1) := by decide +kernel
theorem dL_acts_574 : decode cL_acts 574 = .ok (.invokevirtual 48, 3) := by decide +kernel
theorem dL_acts_577 : decode cL_acts 577 = .ok (.istore 5, 2) := by decide +kernel
theorem dL_acts_579 : decode cL_acts 579 = .ok (.aload_n 0, 1) := by decide +kernel
theorem dL_acts_580 : decode cL_acts 580 = .ok (.iconst 1, 1) := by decide +kernel
theorem dL_acts_581 : decode cL_acts 581 = .ok (.iconst 1, 1) := by decide +kernel
theorem dL_acts_582 : decode cL_acts 582 = .ok (.invokevirtual 48, 3) := by decide +kernel
theorem dL_acts_585 : decode cL_acts 585 = .ok (.istore 6, 2) := by decide +kernel
theorem dL_acts_587 : decode cL_acts 587 = .ok (.aload_n 0, 1) := by decide +kernel
theorem dL_acts_588 : decode cL_acts 588 = .ok (.iconst 0, 1) := by decide +kernel
theorem dL_acts_589 : decode cL_acts 589 = .ok (.invokevirtual 13, 3) := by decide +kernel
theorem dL_acts_592 : decode cL_acts 592 = .ok (.istore 7, 2) := by decide +kernel
theorem dL_acts_594 : decode cL_acts 594 = .ok (.aload_n 0, 1) := by decide +kernel
theorem dL_acts_595 : decode cL_acts 595 = .ok (.invokevirtual 112, 3) := by decide +kernel
theorem dL_acts_598 : decode cL_acts 598 = .ok (.iload 5, 2) := by decide +kernel
theorem dL_acts_600 : decode cL_acts 600 = .ok (.if_icmp .ne 39, 3) := by decide +kernel
theorem dL_acts_603 : decode cL_acts 603 = .ok (.aload_n 0, 1) := by decide +kernel
theorem dL_acts_604 : decode cL_acts 604 = .ok (.iconst 3, 1) := by decide +kernel
theorem dL_acts_605 : decode cL_acts 605 = .ok (.invokevirtual 13, 3) := by decide +kernel
theorem dL_acts_608 : decode cL_acts 608 = .ok (.iload 5, 2) := by decide +kernel
theorem dL_acts_610 : decode cL_acts 610 = .ok (.if_icmp .ne 29, 3) := by decide +kernel
theorem dL_acts_613 : decode cL_acts 613 = .ok (.aload_n 0, 1) := by decide +kernel
theorem dL_acts_614 : decode cL_acts 614 = .ok (.iconst 4, 1) := by decide +kernel
theorem dL_acts_615 : decode cL_acts 615 = .ok (.invokevirtual 13, 3) := by decide +kernel
theorem dL_acts_618 : decode cL_acts 618 = .ok (.iload 6, 2) := by decide +kernel
theorem dL_acts_620 : decode cL_acts 620 = .ok (.if_icmp .ne 19, 3) := by decide +kernel
theorem dL_acts_623 : decode cL_acts 623 = .ok (.aload_n 0, 1) := by decide +kernel
theorem dL_acts_624 : decode cL_acts 624 = .ok (.iconst 0, 1) := by decide +kernel
theorem dL_acts_625 : decode cL_acts 625 = .ok (.invokevirtual 13, 3) := by decide +kernel
theorem dL_acts_628 : decode cL_acts 628 = .ok (.iload 7, 2) := by decide +kernel
theorem dL_acts_630 : decode cL_acts 630 = .ok (.iconst 1, 1) := by decide +kernel
theorem dL_acts_631 : decode cL_acts 631 = .ok (.iadd, 1) := by decide +kernel
theorem dL_acts_632 : decode cL_acts 632 = .ok (.if_icmp .ne 7, 3) := by decide +kernel
theorem dL_acts_635 : decode cL_acts 635 = .ok (.iconst 1, 1) := by decide +kernel
theorem dL_acts_636 : decode cL_acts 636 = .ok (.goto 4, 3) := by decide +kernel
theorem dL_acts_639 : decode cL_acts 639 = .ok (.iconst 0, 1) := by decide +kernel
theorem dL_acts_640 : decode cL_acts 640 = .ok (.ireturn, 1) := by decide +kernel
theorem dL_acts_641 : decode cL_acts 641 = .ok (.aload_n 0, 1) := by decide +kernel
theorem dL_acts_642 : decode cL_acts 642 = .ok (.iload_n 2, 1) := by decide +kernel
theorem dL_acts_643 : decode cL_acts 643 = .ok (.invokestatic 115, 3) := by decide +kernel
theorem dL_acts_646 : decode cL_acts 646 = .ok (.ireturn, 1) := by decide +kernel
theorem dL_law_0 : decode cL_law 0 = .ok (.new 14, 3) := by decide +kernel
theorem dL_law_3 : decode cL_law 3 = .ok (.dup, 1) := by decide +kernel
theorem dL_law_4 : decode cL_law 4 = .ok (.invokespecial 118, 3) := by decide +kernel
theorem dL_law_7 : decode cL_law 7 = .ok (.astore_n 1, 1) := by decide +kernel
theorem dL_law_8 : decode cL_law 8 = .ok (.aload_n 1, 1) := by decide +kernel
theorem dL_law_9 : decode cL_law 9 = .ok (.invokestatic 119, 3) := by decide +kernel
theorem dL_law_12 : decode cL_law 12 = .ok (.ifCond .eq 40, 3) := by decide +kernel
theorem dL_law_15 : decode cL_law 15 = .ok (.aload_n 1, 1) := by decide +kernel
theorem dL_law_16 : decode cL_law 16 = .ok (.iconst 0, 1) := by decide +kernel
theorem dL_law_17 : decode cL_law 17 = .ok (.invokestatic 123, 3) := by decide +kernel
theorem dL_law_20 : decode cL_law 20 = .ok (.ifCond .eq 32, 3) := by decide +kernel
theorem dL_law_23 : decode cL_law 23 = .ok (.aload_n 1, 1) := by decide +kernel
theorem dL_law_24 : decode cL_law 24 = .ok (.invokevirtual 126, 3) := by decide +kernel
theorem dL_law_27 : decode cL_law 27 = .ok (.bipush (-2), 2) := by decide +kernel
theorem dL_law_29 : decode cL_law 29 = .ok (.if_icmp .ne 23, 3) := by decide +kernel
theorem dL_law_32 : decode cL_law 32 = .ok (.aload_n 1, 1) := by decide +kernel
theorem dL_law_33 : decode cL_law 33 = .ok (.invokevirtual 129, 3) := by decide +kernel
theorem dL_law_36 : decode cL_law 36 = .ok (.bipush (-2), 2) := by decide +kernel
theorem dL_law_38 : decode cL_law 38 = .ok (.if_icmp .ne 14, 3) := by decide +kernel
theorem dL_law_41 : decode cL_law 41 = .ok (.aload_n 1, 1) := by decide +kernel
theorem dL_law_42 : decode cL_law 42 = .ok (.invokevirtual 132, 3) := by decide +kernel
theorem dL_law_45 : decode cL_law 45 = .ok (.ifCond .ne 7, 3) := by decide +kernel
theorem dL_law_48 : decode cL_law 48 = .ok (.iconst 1, 1) := by decide +kernel
theorem dL_law_49 : decode cL_law 49 = .ok (.goto 4, 3) := by decide +kernel
theorem dL_law_52 : decode cL_law 52 = .ok (.iconst 0, 1) := by decide +kernel
theorem dL_law_53 : decode cL_law 53 = .ok (.istore_n 2, 1) := by decide +kernel
theorem dL_law_54 : decode cL_law 54 = .ok (.aload_n 1, 1) := by decide +kernel
theorem dL_law_55 : decode cL_law 55 = .ok (.invokestatic 65, 3) := by decide +kernel
theorem dL_law_58 : decode cL_law 58 = .ok (.lstore_n 3, 1) := by decide +kernel
theorem dL_law_59 : decode cL_law 59 = .ok (.iconst 0, 1) := by decide +kernel
theorem dL_law_60 : decode cL_law 60 = .ok (.istore 5, 2) := by decide +kernel
theorem dL_law_62 : decode cL_law 62 = .ok (.iload 5, 2) := by decide +kernel
theorem dL_law_64 : decode cL_law 64 = .ok (.bipush 54, 2) := by decide +kernel
theorem dL_law_66 : decode cL_law 66 = .ok (.if_icmp .ge 315, 3) := by decide +kernel
theorem dL_law_69 : decode cL_law 69 = .ok (.iload_n 2, 1) := by decide +kernel
theorem dL_law_70 : decode cL_law 70 = .ok (.ifCond .eq 311, 3) := by decide +kernel
theorem dL_law_73 : decode cL_law 73 = .ok (.aload_n 0, 1) := by decide +kernel
theorem dL_law_74 : decode cL_law 74 = .ok (.iconst 2, 1) := by decide +kernel
theorem dL_law_75 : decode cL_law 75 = .ok (.iload 5, 2) := by decide +kernel
theorem dL_law_77 : decode cL_law 77 = .ok (.imul, 1) := by decide +kernel
theorem dL_law_78 : decode cL_law 78 = .ok (.invokestatic 135, 3) := by decide +kernel
theorem dL_law_81 : decode cL_law 81 = .ok (.istore 6, 2) := by decide +kernel
theorem dL_law_83 : decode cL_law 83 = .ok (.aload_n 0, 1) := by decide +kernel
theorem dL_law_84 : decode cL_law 84 = .ok (.iconst 2, 1) := by decide +kernel
theorem dL_law_85 : decode cL_law 85 = .ok (.iload 5, 2) := by decide +kernel
theorem dL_law_87 : decode cL_law 87 = .ok (.imul, 1) := by decide +kernel
theorem dL_law_88 : decode cL_law 88 = .ok (.iconst 1, 1) := by decide +kernel
theorem dL_law_89 : decode cL_law 89 = .ok (.iadd, 1) := by decide +kernel
theorem dL_law_90 : decode cL_law 90 = .ok (.invokestatic 135, 3) := by decide +kernel
theorem dL_law_93 : decode cL_law 93 = .ok (.istore 7, 2) := by decide +kernel
theorem dL_law_95 : decode cL_law 95 = .ok (.aload_n 1, 1) := by decide +kernel
theorem dL_law_96 : decode cL_law 96 = .ok (.invokestatic 65, 3) := by decide +kernel
theorem dL_law_99 : decode cL_law 99 = .ok (.lstore 8, 2) := by decide +kernel
theorem dL_law_101 : decode cL_law 101 = .ok (.aload_n 1, 1) := by decide +kernel
theorem dL_law_102 : decode cL_law 102 = .ok (.bipush 12, 2) := by decide +kernel
theorem dL_law_104 : decode cL_law 104 = .ok (.invokevirtual 13, 3) := by decide +kernel
theorem dL_law_107 : decode cL_law 107 = .ok (.istore 10, 2) := by decide +kernel
theorem dL_law_109 : decode cL_law 109 = .ok (.aload_n 1, 1) := by decide +kernel
theorem dL_law_110 : decode cL_law 110 = .ok (.iload 6, 2) := by decide +kernel
theorem dL_law_112 : decode cL_law 112 = .ok (.iload 7, 2) := by decide +kernel
theorem dL_law_114 : decode cL_law 114 = .ok (.invokestatic 139, 3) := by decide +kernel
theorem dL_law_117 : decode cL_law 117 = .ok (.ifCond .eq 38, 3) := by decide +kernel
theorem dL_law_120 : decode cL_law 120 = .ok (.iload 5, 2) := by decide +kernel
theorem dL_law_122 : decode cL_law 122 = .ok (.iconst 4, 1) := by decide +kernel
theorem dL_law_123 : decode cL_law 123 = .ok (.irem, 1) := by decide +kernel
theorem dL_law_124 : decode cL_law 124 = .ok (.ifCond .gt 10, 3) := by decide +kernel
theorem dL_law_127 : decode cL_law 127 = .ok (.aload_n 1, 1) := by decide +kernel
theorem dL_law_128 : decode cL_law 128 = .ok (.invokestatic 119, 3) := by decide +kernel
theorem dL_law_131 : decode cL_law 131 = .ok (.ifCond .eq 24, 3) := by decide +kernel
theorem dL_law_134 : decode cL_law 134 = .ok (.iload 5, 2) := by decide +kernel
theorem dL_law_136 : decode cL_law 136 = .ok (.iconst 4, 1) := by decide +kernel
theorem dL_law_137 : decode cL_law 137 = .ok (.irem, 1) := by decide +kernel
theorem dL_law_138 : decode cL_law 138 = .ok (.iconst 2, 1) := by decide +kernel
theorem dL_law_139 : decode cL_law 139 = .ok (.if_icmp .ne 12, 3) := by decide +kernel
theorem dL_law_142 : decode cL_law 142 = .ok (.aload_n 1, 1) := by decide +kernel
theorem dL_law_143 : decode cL_law 143 = .ok (.iload 7, 2) := by decide +kernel
theorem dL_law_145 : decode cL_law 145 = .ok (.invokestatic 123, 3) := by decide +kernel
theorem dL_law_148 : decode cL_law 148 = .ok (.ifCond .eq 7, 3) := by decide +kernel
theorem dL_law_151 : decode cL_law 151 = .ok (.iconst 1, 1) := by decide +kernel
theorem dL_law_152 : decode cL_law 152 = .ok (.goto 4, 3) := by decide +kernel
theorem dL_law_155 : decode cL_law 155 = .ok (.iconst 0, 1) := by decide +kernel
theorem dL_law_156 : decode cL_law 156 = .ok (.istore_n 2, 1) := by decide +kernel
theorem dL_law_157 : decode cL_law 157 = .ok (.aload_n 1, 1) := by decide +kernel
theorem dL_law_158 : decode cL_law 158 = .ok (.bipush 12, 2) := by decide +kernel
theorem dL_law_160 : decode cL_law 160 = .ok (.invokevirtual 13, 3) := by decide +kernel
theorem dL_law_163 : decode cL_law 163 = .ok (.istore 11, 2) := by decide +kernel
theorem dL_law_165 : decode cL_law 165 = .ok (.iload_n 2, 1) := by decide +kernel
theorem dL_law_166 : decode cL_law 166 = .ok (.ifCond .eq 39, 3) := by decide +kernel
theorem dL_law_169 : decode cL_law 169 = .ok (.iload 11, 2) := by decide +kernel
theorem dL_law_171 : decode cL_law 171 = .ok (.iload 10, 2) := by decide +kernel
theorem dL_law_173 : decode cL_law 173 = .ok (.if_icmp .ne 19, 3) := by decide +kernel
theorem dL_law_176 : decode cL_law 176 = .ok (.iload 10, 2) := by decide +kernel
theorem dL_law_178 : decode cL_law 178 = .ok (.iconst 4, 1) := by decide +kernel
theorem dL_law_179 : decode cL_law 179 = .ok (.if_icmp .eq 22, 3) := by decide +kernel
theorem dL_law_182 : decode cL_law 182 = .ok (.aload_n 1, 1) := by decide +kernel
theorem dL_law_183 : decode cL_law 183 = .ok (.invokestatic 65, 3) := by decide +kernel
theorem dL_law_186 : decode cL_law 186 = .ok (.lload 8, 2) := by decide +kernel
theorem dL_law_188 : decode cL_law 188 = .ok (.lcmp, 1) := by decide +kernel
theorem dL_law_189 : decode cL_law 189 = .ok (.ifCond .eq 12, 3) := by decide +kernel
theorem dL_law_192 : decode cL_law 192 = .ok (.iload 11, 2) := by decide +kernel
theorem dL_law_194 : decode cL_law 194 = .ok (.iload 10, 2) := by decide +kernel
theorem dL_law_196 : decode cL_law 196 = .ok (.iconst 1, 1) := by decide +kernel
theorem dL_law_197 : decode cL_law 197 = .ok (.iadd, 1) := by decide +kernel
theorem dL_law_198 : decode cL_law 198 = .ok (.if_icmp .ne 7, 3) := by decide +kernel
theorem dL_law_201 : decode cL_law 201 = .ok (.iconst 1, 1) := by decide +kernel
theorem dL_law_202 : decode cL_law 202 = .ok (.goto 4, 3) := by decide +kernel
theorem dL_law_205 : decode cL_law 205 = .ok (.iconst 0, 1) := by decide +kernel
theorem dL_law_206 : decode cL_law 206 = .ok (.istore_n 2, 1) := by decide +kernel
theorem dL_law_207 : decode cL_law 207 = .ok (.iload_n 2, 1) := by decide +kernel
theorem dL_law_208 : decode cL_law 208 = .ok (.ifCond .eq 49, 3) := by decide +kernel
theorem dL_law_211 : decode cL_law 211 = .ok (.iload 11, 2) := by decide +kernel
theorem dL_law_213 : decode cL_law 213 = .ok (.iload 10, 2) := by decide +kernel
theorem dL_law_215 : decode cL_law 215 = .ok (.iconst 1, 1) := by decide +kernel
theorem dL_law_216 : decode cL_law 216 = .ok (.iadd, 1) := by decide +kernel
theorem dL_law_217 : decode cL_law 217 = .ok (.if_icmp .ne 40, 3) := by decide +kernel
theorem dL_law_220 : decode cL_law 220 = .ok (.iload 7, 2) := by decide +kernel
theorem dL_law_222 : decode cL_law 222 = .ok (.bipush 8, 2) := by decide +kernel
theorem dL_law_224 : decode cL_law 224 = .ok (.ishr, 1) := by decide +kernel
theorem dL_law_225 : decode cL_law 225 = .ok (.iconst 3, 1) := by decide +kernel
theorem dL_law_226 : decode cL_law 226 = .ok (.invokestatic 39, 3) := by decide +kernel
theorem dL_law_229 : decode cL_law 229 = .ok (.ifCond .ne 28, 3) := by decide +kernel
theorem dL_law_232 : decode cL_law 232 = .ok (.aload_n 1, 1) := by decide +kernel
theorem dL_law_233 : decode cL_law 233 = .ok (.invokevirtual 126, 3) := by decide +kernel
theorem dL_law_236 : decode cL_law 236 = .ok (.iload 10, 2) := by decide +kernel
theorem dL_law_238 : decode cL_law 238 = .ok (.if_icmp .ne 17, 3) := by decide +kernel
theorem dL_law_241 : decode cL_law 241 = .ok (.aload_n 1, 1) := by decide +kernel
theorem dL_law_242 : decode cL_law 242 = .ok (.invokestatic 65, 3) := by decide +kernel
theorem dL_law_245 : decode cL_law 245 = .ok (.lload 8, 2) := by decide +kernel
theorem dL_law_247 : decode cL_law 247 = .ok (.lcmp, 1) := by decide +kernel
theorem dL_law_248 : decode cL_law 248 = .ok (.ifCond .ne 7, 3) := by decide +kernel
theorem dL_law_251 : decode cL_law 251 = .ok (.iconst 1, 1) := by decide +kernel
theorem dL_law_252 : decode cL_law 252 = .ok (.goto 4, 3) := by decide +kernel
theorem dL_law_255 : decode cL_law 255 = .ok (.iconst 0, 1) := by decide +kernel
theorem dL_law_256 : decode cL_law 256 = .ok (.istore_n 2, 1) := by decide +kernel
theorem dL_law_257 : decode cL_law 257 = .ok (.iload_n 2, 1) := by decide +kernel
theorem dL_law_258 : decode cL_law 258 = .ok (.ifCond .eq 68, 3) := by decide +kernel
theorem dL_law_261 : decode cL_law 261 = .ok (.iload 5, 2) := by decide +kernel
theorem dL_law_263 : decode cL_law 263 = .ok (.bipush 15, 2) := by decide +kernel
theorem dL_law_265 : decode cL_law 265 = .ok (.irem, 1) := by decide +kernel
theorem dL_law_266 : decode cL_law 266 = .ok (.bipush 14, 2) := by decide +kernel
theorem dL_law_268 : decode cL_law 268 = .ok (.if_icmp .ne 58, 3) := by decide +kernel
theorem dL_law_271 : decode cL_law 271 = .ok (.aload_n 1, 1) := by decide +kernel
theorem dL_law_272 : decode cL_law 272 = .ok (.invokevirtual 129, 3) := by decide +kernel
theorem dL_law_275 : decode cL_law 275 = .ok (.istore 12, 2) := by decide +kernel
theorem dL_law_277 : decode cL_law 277 = .ok (.iload 12, 2) := by decide +kernel
theorem dL_law_279 : decode cL_law 279 = .ok (.aload_n 1, 1) := by decide +kernel
theorem dL_law_280 : decode cL_law 280 = .ok (.iconst 1, 1) := by decide +kernel
theorem dL_law_281 : decode cL_law 281 = .ok (.invokevirtual 13, 3) := by decide +kernel
theorem dL_law_284 : decode cL_law 284 = .ok (.if_icmp .ne 35, 3) := by decide +kernel
theorem dL_law_287 : decode cL_law 287 = .ok (.aload_n 1, 1) := by decide +kernel
theorem dL_law_288 : decode cL_law 288 = .ok (.invokestatic 65, 3) := by decide +kernel
theorem dL_law_291 : decode cL_law 291 = .ok (.lload_n 3, 1) := by decide +kernel
theorem dL_law_292 : decode cL_law 292 = .ok (.lcmp, 1) := by decide +kernel
theorem dL_law_293 : decode cL_law 293 = .ok (.ifCond .ne 26, 3) := by decide +kernel
theorem dL_law_296 : decode cL_law 296 = .ok (.aload_n 1, 1) := by decide +kernel
theorem dL_law_297 : decode cL_law 297 = .ok (.invokevirtual 126, 3) := by decide +kernel
theorem dL_law_300 : decode cL_law 300 = .ok (.ifCond .lt 19, 3) := by decide +kernel
theorem dL_law_303 : decode cL_law 303 = .ok (.aload_n 1, 1) := by decide +kernel
theorem dL_law_304 : decode cL_law 304 = .ok (.invokevirtual 132, 3) := by decide +kernel
theorem dL_law_307 : decode cL_law 307 = .ok (.aload_n 1, 1) := by decide +kernel
theorem dL_law_308 : decode cL_law 308 = .ok (.iconst 1, 1) := by decide +kernel
theorem dL_law_309 : decode cL_law 309 = .ok (.invokevirtual 13, 3) := by decide +kernel
theorem dL_law_312 : decode cL_law 312 = .ok (.if_icmp .ne 7, 3) := by decide +kernel
theorem dL_law_315 : decode cL_law 315 = .ok (.iconst 1, 1) := by decide +kernel
theorem dL_law_316 : decode cL_law 316 = .ok (.goto 4, 3) := by decide +kernel
theorem dL_law_319 : decode cL_law 319 = .ok (.iconst 0, 1) := by decide +kernel
theorem dL_law_320 : decode cL_law 320 = .ok (.istore_n 2, 1) := by decide +kernel
theorem dL_law_321 : decode cL_law 321 = .ok (.aload_n 1, 1) := by decide +kernel
theorem dL_law_322 : decode cL_law 322 = .ok (.invokestatic 65, 3) := by decide +kernel
theorem dL_law_325 : decode cL_law 325 = .ok (.lstore_n 3, 1) := by decide +kernel
theorem dL_law_326 : decode cL_law 326 = .ok (.iload_n 2, 1) := by decide +kernel
theorem dL_law_327 : decode cL_law 327 = .ok (.ifCond .eq 48, 3) := by decide +kernel
theorem dL_law_330 : decode cL_law 330 = .ok (.iload 5, 2) := by decide +kernel
theorem dL_law_332 : decode cL_law 332 = .ok (.bipush 11, 2) := by decide +kernel
theorem dL_law_334 : decode cL_law 334 = .ok (.irem, 1) := by decide +kernel
theorem dL_law_335 : decode cL_law 335 = .ok (.bipush 10, 2) := by decide +kernel
theorem dL_law_337 : decode cL_law 337 = .ok (.if_icmp .ne 38, 3) := by decide +kernel
theorem dL_law_340 : decode cL_law 340 = .ok (.aload_n 1, 1) := by decide +kernel
theorem dL_law_341 : decode cL_law 341 = .ok (.bipush 12, 2) := by decide +kernel
theorem dL_law_343 : decode cL_law 343 = .ok (.invokevirtual 13, 3) := by decide +kernel
theorem dL_law_346 : decode cL_law 346 = .ok (.istore 12, 2) := by decide +kernel
theorem dL_law_348 : decode cL_law 348 = .ok (.aload_n 1, 1) := by decide +kernel
theorem dL_law_349 : decode cL_law 349 = .ok (.invokevirtual 126, 3) := by decide +kernel
theorem dL_law_352 : decode cL_law 352 = .ok (.iload 12, 2) := by decide +kernel
theorem dL_law_354 : decode cL_law 354 = .ok (.ifCond .ne 8, 3) := by decide +kernel
theorem dL_law_357 : decode cL_law 357 = .ok (.bipush (-2), 2) := by decide +kernel
theorem dL_law_359 : decode cL_law 359 = .ok (.goto 7, 3) := by decide +kernel
theorem dL_law_362 : decode cL_law 362 = .ok (.iload 12, 2) := by decide +kernel
theorem dL_law_364 : decode cL_law 364 = .ok (.iconst 1, 1) := by decide +kernel
theorem dL_law_365 : decode cL_law 365 = .ok (.isub, 1) := by decide +kernel
theorem dL_law_366 : decode cL_law 366 = .ok (.if_icmp .ne 7, 3) := by decide +kernel
theorem dL_law_369 : decode cL_law 369 = .ok (.iconst 1, 1) := by decide +kernel
theorem dL_law_370 : decode cL_law 370 = .ok (.goto 4, 3) := by decide +kernel
theorem dL_law_373 : decode cL_law 373 = .ok (.iconst 0, 1) := by decide +kernel
theorem dL_law_374 : decode cL_law 374 = .ok (.istore_n 2, 1) := by decide +kernel
theorem dL_law_375 : decode cL_law 375 = .ok (.iinc 5 1, 3) := by decide +kernel
theorem dL_law_378 : decode cL_law 378 = .ok (.goto (-316), 3) := by decide +kernel
theorem dL_law_381 : decode cL_law 381 = .ok (.iload_n 2, 1) := by decide +kernel
theorem dL_law_382 : decode cL_law 382 = .ok (.ifCond .eq 14, 3) := by decide +kernel
theorem dL_law_385 : decode cL_law 385 = .ok (.aload_n 1, 1) := by decide +kernel
theorem dL_law_386 : decode cL_law 386 = .ok (.invokestatic 119, 3) := by decide +kernel
theorem dL_law_389 : decode cL_law 389 = .ok (.ifCond .eq 7, 3) := by decide +kernel
theorem dL_law_392 : decode cL_law 392 = .ok (.iconst 1, 1) := by decide +kernel
theorem dL_law_393 : decode cL_law 393 = .ok (.goto 4, 3) := by decide +kernel
theorem dL_law_396 : decode cL_law 396 = .ok (.iconst 0, 1) := by decide +kernel
theorem dL_law_397 : decode cL_law 397 = .ok (.ireturn, 1) := by decide +kernel
