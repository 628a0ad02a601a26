theorem dX1_init_0 : decode cX1_init 0 = .ok (.aload_n 0, 1) := by decide +kernel
theorem dX1_init_1 : decode cX1_init 1 = .ok (.invokespecial 3, 3) := by decide +kernel
theorem dX1_init_4 : decode cX1_init 4 = .ok (.aload_n 0, 1) := by decide +kernel
theorem dX1_init_5 : decode cX1_init 5 = .ok (.bipush 8, 2) := by decide +kernel
theorem dX1_init_7 : decode cX1_init 7 = .ok (.newarray .int, 2) := by decide +kernel
theorem dX1_init_9 : decode cX1_init 9 = .ok (.putfield 9, 3) := by decide +kernel
theorem dX1_init_12 : decode cX1_init 12 = .ok (.aload_n 0, 1) := by decide +kernel
theorem dX1_init_13 : decode cX1_init 13 = .ok (.bipush 8, 2) := by decide +kernel
theorem dX1_init_15 : decode cX1_init 15 = .ok (.newarray .int, 2) := by decide +kernel
theorem dX1_init_17 : decode cX1_init 17 = .ok (.putfield 15, 3) := by decide +kernel
theorem dX1_init_20 : decode cX1_init 20 = .ok (.aload_n 0, 1) := by decide +kernel
theorem dX1_init_21 : decode cX1_init 21 = .ok (.bipush 8, 2) := by decide +kernel
theorem dX1_init_23 : decode cX1_init 23 = .ok (.newarray .int, 2) := by decide +kernel
theorem dX1_init_25 : decode cX1_init 25 = .ok (.putfield 18, 3) := by decide +kernel
theorem dX1_init_28 : decode cX1_init 28 = .ok (.aload_n 0, 1) := by decide +kernel
theorem dX1_init_29 : decode cX1_init 29 = .ok (.bipush 8, 2) := by decide +kernel
theorem dX1_init_31 : decode cX1_init 31 = .ok (.newarray .int, 2) := by decide +kernel
theorem dX1_init_33 : decode cX1_init 33 = .ok (.putfield 21, 3) := by decide +kernel
theorem dX1_init_36 : decode cX1_init 36 = .ok (.aload_n 0, 1) := by decide +kernel
theorem dX1_init_37 : decode cX1_init 37 = .ok (.bipush 14, 2) := by decide +kernel
theorem dX1_init_39 : decode cX1_init 39 = .ok (.newarray .int, 2) := by decide +kernel
theorem dX1_init_41 : decode cX1_init 41 = .ok (.putfield 24, 3) := by decide +kernel
theorem dX1_init_44 : decode cX1_init 44 = .ok (.aload_n 0, 1) := by decide +kernel
theorem dX1_init_45 : decode cX1_init 45 = .ok (.bipush 14, 2) := by decide +kernel
theorem dX1_init_47 : decode cX1_init 47 = .ok (.newarray .int, 2) := by decide +kernel
theorem dX1_init_49 : decode cX1_init 49 = .ok (.putfield 27, 3) := by decide +kernel
theorem dX1_init_52 : decode cX1_init 52 = .ok (.aload_n 0, 1) := by decide +kernel
theorem dX1_init_53 : decode cX1_init 53 = .ok (.bipush 14, 2) := by decide +kernel
theorem dX1_init_55 : decode cX1_init 55 = .ok (.newarray .int, 2) := by decide +kernel
theorem dX1_init_57 : decode cX1_init 57 = .ok (.putfield 30, 3) := by decide +kernel
theorem dX1_init_60 : decode cX1_init 60 = .ok (.aload_n 0, 1) := by decide +kernel
theorem dX1_init_61 : decode cX1_init 61 = .ok (.bipush 14, 2) := by decide +kernel
theorem dX1_init_63 : decode cX1_init 63 = .ok (.newarray .int, 2) := by decide +kernel
theorem dX1_init_65 : decode cX1_init 65 = .ok (.putfield 33, 3) := by decide +kernel
theorem dX1_init_68 : decode cX1_init 68 = .ok (.aload_n 0, 1) := by decide +kernel
theorem dX1_init_69 : decode cX1_init 69 = .ok (.bipush 10, 2) := by decide +kernel
theorem dX1_init_71 : decode cX1_init 71 = .ok (.putfield 36, 3) := by decide +kernel
theorem dX1_init_74 : decode cX1_init 74 = .ok (.iconst 0, 1) := by decide +kernel
theorem dX1_init_75 : decode cX1_init 75 = .ok (.istore_n 1, 1) := by decide +kernel
theorem dX1_init_76 : decode cX1_init 76 = .ok (.iload_n 1, 1) := by decide +kernel
theorem dX1_init_77 : decode cX1_init 77 = .ok (.bipush 8, 2) := by decide +kernel
theorem dX1_init_79 : decode cX1_init 79 = .ok (.if_icmp .ge 24, 3) := by decide +kernel
theorem dX1_init_82 : decode cX1_init 82 = .ok (.aload_n 0, 1) := by decide +kernel
theorem dX1_init_83 : decode cX1_init 83 = .ok (.getfield 9, 3) := by decide +kernel
theorem dX1_init_86 : decode cX1_init 86 = .ok (.iload_n 1, 1) := by decide +kernel
theorem dX1_init_87 : decode cX1_init 87 = .ok (.bipush 10, 2) := by decide +kernel
theorem dX1_init_89 : decode cX1_init 89 = .ok (.iastore, 1) := by decide +kernel
theorem dX1_init_90 : decode cX1_init 90 = .ok (.aload_n 0, 1) := by decide +kernel
theorem dX1_init_91 : decode cX1_init 91 = .ok (.getfield 15, 3) := by decide +kernel
theorem dX1_init_94 : decode cX1_init 94 = .ok (.iload_n 1, 1) := by decide +kernel
theorem dX1_init_95 : decode cX1_init 95 = .ok (.iconst 1, 1) := by decide +kernel
theorem dX1_init_96 : decode cX1_init 96 = .ok (.iastore, 1) := by decide +kernel
theorem dX1_init_97 : decode cX1_init 97 = .ok (.iinc 1 1, 3) := by decide +kernel
theorem dX1_init_100 : decode cX1_init 100 = .ok (.goto (-24), 3) := by decide +kernel
theorem dX1_init_103 : decode cX1_init 103 = .ok (.return_, 1) := by decide +kernel
theorem dX1_copyFrom_0 : decode cX1_copyFrom 0 = .ok (.iconst 0, 1) := by decide +kernel
theorem dX1_copyFrom_1 : decode cX1_copyFrom 1 = .ok (.istore_n 2, 1) := by decide +kernel
theorem dX1_copyFrom_2 : decode cX1_copyFrom 2 = .ok (.iload_n 2, 1) := by decide +kernel
theorem dX1_copyFrom_3 : decode cX1_copyFrom 3 = .ok (.bipush 8, 2) := by decide +kernel
theorem dX1_copyFrom_5 : decode cX1_copyFrom 5 = .ok (.if_icmp .ge 57, 3) := by decide +kernel
theorem dX1_copyFrom_8 : decode cX1_copyFrom 8 = .ok (.aload_n 0, 1) := by decide +kernel
theorem dX1_copyFrom_9 : decode cX1_copyFrom 9 = .ok (.getfield 9, 3) := by decide +kernel
theorem dX1_copyFrom_12 : decode cX1_copyFrom 12 = .ok (.iload_n 2, 1) := by decide +kernel
theorem dX1_copyFrom_13 : decode cX1_copyFrom 13 = .ok (.aload_n 1, 1) := by decide +kernel
theorem dX1_copyFrom_14 : decode cX1_copyFrom 14 = .ok (.getfield 9, 3) := by decide +kernel
theorem dX1_copyFrom_17 : decode cX1_copyFrom 17 = .ok (.iload_n 2, 1) := by decide +kernel
theorem dX1_copyFrom_18 : decode cX1_copyFrom 18 = .ok (.iaload, 1) := by decide +kernel
theorem dX1_copyFrom_19 : decode cX1_copyFrom 19 = .ok (.iastore, 1) := by decide +kernel
theorem dX1_copyFrom_20 : decode cX1_copyFrom 20 = .ok (.aload_n 0, 1) := by decide +kernel
theorem dX1_copyFrom_21 : decode cX1_copyFrom 21 = .ok (.getfield 15, 3) := by decide +kernel
theorem dX1_copyFrom_24 : decode cX1_copyFrom 24 = .ok (.iload_n 2, 1) := by decide +kernel
theorem dX1_copyFrom_25 : decode cX1_copyFrom 25 = .ok (.aload_n 1, 1) := by decide +kernel
theorem dX1_copyFrom_26 : decode cX1_copyFrom 26 = .ok (.getfield 15, 3) := by decide +kernel
theorem dX1_copyFrom_29 : decode cX1_copyFrom 29 = .ok (.iload_n 2, 1) := by decide +kernel
theorem dX1_copyFrom_30 : decode cX1_copyFrom 30 = .ok (.iaload, 1) := by decide +kernel
theorem dX1_copyFrom_31 : decode cX1_copyFrom 31 = .ok (.iastore, 1) := by decide +kernel
theorem dX1_copyFrom_32 : decode cX1_copyFrom 32 = .ok (.aload_n 0, 1) := by decide +kernel
theorem dX1_copyFrom_33 : decode cX1_copyFrom 33 = .ok (.getfield 18, 3) := by decide +kernel
theorem dX1_copyFrom_36 : decode cX1_copyFrom 36 = .ok (.iload_n 2, 1) := by decide +kernel
theorem dX1_copyFrom_37 : decode cX1_copyFrom 37 = .ok (.aload_n 1, 1) := by decide +kernel
theorem dX1_copyFrom_38 : decode cX1_copyFrom 38 = .ok (.getfield 18, 3) := by decide +kernel
theorem dX1_copyFrom_41 : decode cX1_copyFrom 41 = .ok (.iload_n 2, 1) := by decide +kernel
theorem dX1_copyFrom_42 : decode cX1_copyFrom 42 = .ok (.iaload, 1) := by decide +kernel
theorem dX1_copyFrom_43 : decode cX1_copyFrom 43 = .ok (.iastore, 1) := by decide +kernel
theorem dX1_copyFrom_44 : decode cX1_copyFrom 44 = .ok (.aload_n 0, 1) := by decide +kernel
theorem dX1_copyFrom_45 : decode cX1_copyFrom 45 = .ok (.getfield 21, 3) := by decide +kernel
theorem dX1_copyFrom_48 : decode cX1_copyFrom 48 = .ok (.iload_n 2, 1) := by decide +kernel
theorem dX1_copyFrom_49 : decode cX1_copyFrom 49 = .ok (.aload_n 1, 1) := by decide +kernel
theorem dX1_copyFrom_50 : decode cX1_copyFrom 50 = .ok (.getfield 21, 3) := by decide +kernel
theorem dX1_copyFrom_53 : decode cX1_copyFrom 53 = .ok (.iload_n 2, 1) := by decide +kernel
theorem dX1_copyFrom_54 : decode cX1_copyFrom 54 = .ok (.iaload, 1) := by decide +kernel
theorem dX1_copyFrom_55 : decode cX1_copyFrom 55 = .ok (.iastore, 1) := by decide +kernel
theorem dX1_copyFrom_56 : decode cX1_copyFrom 56 = .ok (.iinc 2 1, 3) := by decide +kernel
theorem dX1_copyFrom_59 : decode cX1_copyFrom 59 = .ok (.goto (-57), 3) := by decide +kernel
theorem dX1_copyFrom_62 : decode cX1_copyFrom 62 = .ok (.iconst 0, 1) := by decide +kernel
theorem dX1_copyFrom_63 : decode cX1_copyFrom 63 = .ok (.istore_n 2, 1) := by decide +kernel
theorem dX1_copyFrom_64 : decode cX1_copyFrom 64 = .ok (.iload_n 2, 1) := by decide +kernel
theorem dX1_copyFrom_65 : decode cX1_copyFrom 65 = .ok (.bipush 14, 2) := by decide +kernel
theorem dX1_copyFrom_67 : decode cX1_copyFrom 67 = .ok (.if_icmp .ge 57, 3) := by decide +kernel
theorem dX1_copyFrom_70 : decode cX1_copyFrom 70 = .ok (.aload_n 0, 1) := by decide +kernel
theorem dX1_copyFrom_71 : decode cX1_copyFrom 71 = .ok (.getfield 24, 3) := by decide +kernel
theorem dX1_copyFrom_74 : decode cX1_copyFrom 74 = .ok (.iload_n 2, 1) := by decide +kernel
theorem dX1_copyFrom_75 : decode cX1_copyFrom 75 = .ok (.aload_n 1, 1) := by decide +kernel
theorem dX1_copyFrom_76 : decode cX1_copyFrom 76 = .ok (.getfield 24, 3) := by decide +kernel
theorem dX1_copyFrom_79 : decode cX1_copyFrom 79 = .ok (.iload_n 2, 1) := by decide +kernel
theorem dX1_copyFrom_80 : decode cX1_copyFrom 80 = .ok (.iaload, 1) := by decide +kernel
theorem dX1_copyFrom_81 : decode cX1_copyFrom 81 = .ok (.iastore, 1) := by decide +kernel
theorem dX1_copyFrom_82 : decode cX1_copyFrom 82 = .ok (.aload_n 0, 1) := by decide +kernel
theorem dX1_copyFrom_83 : decode cX1_copyFrom 83 = .ok (.getfield 27, 3) := by decide +kernel
theorem dX1_copyFrom_86 : decode cX1_copyFrom 86 = .ok (.iload_n 2, 1) := by decide +kernel
theorem dX1_copyFrom_87 : decode cX1_copyFrom 87 = .ok (.aload_n 1, 1) := by decide +kernel
theorem dX1_copyFrom_88 : decode cX1_copyFrom 88 = .ok (.getfield 27, 3) := by decide +kernel
theorem dX1_copyFrom_91 : decode cX1_copyFrom 91 = .ok (.iload_n 2, 1) := by decide +kernel
theorem dX1_copyFrom_92 : decode cX1_copyFrom 92 = .ok (.iaload, 1) := by decide +kernel
theorem dX1_copyFrom_93 : decode cX1_copyFrom 93 = .ok (.iastore, 1) := by decide +kernel
theorem dX1_copyFrom_94 : decode cX1_copyFrom 94 = .ok (.aload_n 0, 1) := by decide +kernel
theorem dX1_copyFrom_95 : decode cX1_copyFrom 95 = .ok (.getfield 30, 3) := by decide +kernel
theorem dX1_copyFrom_98 : decode cX1_copyFrom 98 = .ok (.iload_n 2, 1) := by decide +kernel
theorem dX1_copyFrom_99 : decode cX1_copyFrom 99 = .ok (.aload_n 1, 1) := by decide +kernel
theorem dX1_copyFrom_100 : decode cX1_copyFrom 100 = .ok (.getfield 30, 3) := by decide +kernel
theorem dX1_copyFrom_103 : decode cX1_copyFrom 103 = .ok (.iload_n 2, 1) := by decide +kernel
theorem dX1_copyFrom_104 : decode cX1_copyFrom 104 = .ok (.iaload, 1) := by decide +kernel
theorem dX1_copyFrom_105 : decode cX1_copyFrom 105 = .ok (.iastore, 1) := by decide +kernel
theorem dX1_copyFrom_106 : decode cX1_copyFrom 106 = .ok (.aload_n 0, 1) := by decide +kernel
theorem dX1_copyFrom_107 : decode cX1_copyFrom 107 = .ok (.getfield 33, 3) := by decide +kernel
theorem dX1_copyFrom_110 : decode cX1_copyFrom 110 = .ok (.iload_n 2, 1) := by decide +kernel
theorem dX1_copyFrom_111 : decode cX1_copyFrom 111 = .ok (.aload_n 1, 1) := by decide +kernel
theorem dX1_copyFrom_112 : decode cX1_copyFrom 112 = .ok (.getfield 33, 3) := by decide +kernel
theorem dX1_copyFrom_115 : decode cX1_copyFrom 115 = .ok (.iload_n 2, 1) := by decide +kernel
theorem dX1_copyFrom_116 : decode cX1_copyFrom 116 = .ok (.iaload, 1) := by decide +kernel
theorem dX1_copyFrom_117 : decode cX1_copyFrom 117 = .ok (.iastore, 1) := by decide +kernel
theorem dX1_copyFrom_118 : decode cX1_copyFrom 118 = .ok (.iinc 2 1, 3) := by decide +kernel
theorem dX1_copyFrom_121 : decode cX1_copyFrom 121 = .ok (.goto (-57), 3) := by decide +kernel
theorem dX1_copyFrom_124 : decode cX1_copyFrom 124 = .ok (.aload_n 0, 1) := by decide +kernel
theorem dX1_copyFrom_125 : decode cX1_copyFrom 125 = .ok (.aload_n 1, 1) := by decide +kernel
theorem dX1_copyFrom_126 : decode cX1_copyFrom 126 = .ok (.getfield 40, 3) := by decide +kernel
theorem dX1_copyFrom_129 : decode cX1_copyFrom 129 = .ok (.putfield 40, 3) := by decide +kernel
theorem dX1_copyFrom_132 : decode cX1_copyFrom 132 = .ok (.aload_n 0, 1) := by decide +kernel
theorem dX1_copyFrom_133 : decode cX1_copyFrom 133 = .ok (.aload_n 1, 1) := by decide +kernel
theorem dX1_copyFrom_134 : decode cX1_copyFrom 134 = .ok (.getfield 43, 3) := by decide +kernel
theorem dX1_copyFrom_137 : decode cX1_copyFrom 137 = .ok (.putfield 43, 3) := by decide +kernel
theorem dX1_copyFrom_140 : decode cX1_copyFrom 140 = .ok (.aload_n 0, 1) := by decide +kernel
theorem dX1_copyFrom_141 : decode cX1_copyFrom 141 = .ok (.aload_n 1, 1) := by decide +kernel
theorem dX1_copyFrom_142 : decode cX1_copyFrom 142 = .ok (.getfield 36, 3) := by decide +kernel
theorem dX1_copyFrom_145 : decode cX1_copyFrom 145 = .ok (.putfield 36, 3) := by decide +kernel
theorem dX1_copyFrom_148 : decode cX1_copyFrom 148 = .ok (.aload_n 0, 1) := by decide +kernel
theorem dX1_copyFrom_149 : decode cX1_copyFrom 149 = .ok (.aload_n 1, 1) := by decide +kernel
theorem dX1_copyFrom_150 : decode cX1_copyFrom 150 = .ok (.getfield 46, 3) := by decide +kernel
theorem dX1_copyFrom_153 : decode cX1_copyFrom 153 = .ok (.putfield 46, 3) := by decide +kernel
theorem dX1_copyFrom_156 : decode cX1_copyFrom 156 = .ok (.aload_n 0, 1) := by decide +kernel
theorem dX1_copyFrom_157 : decode cX1_copyFrom 157 = .ok (.aload_n 1, 1) := by decide +kernel
theorem dX1_copyFrom_158 : decode cX1_copyFrom 158 = .ok (.getfield 49, 3) := by decide +kernel
theorem dX1_copyFrom_161 : decode cX1_copyFrom 161 = .ok (.putfield 49, 3) := by decide +kernel
theorem dX1_copyFrom_164 : decode cX1_copyFrom 164 = .ok (.aload_n 0, 1) := by decide +kernel
theorem dX1_copyFrom_165 : decode cX1_copyFrom 165 = .ok (.aload_n 1, 1) := by decide +kernel
theorem dX1_copyFrom_166 : decode cX1_copyFrom 166 = .ok (.getfield 52, 3) := by decide +kernel
theorem dX1_copyFrom_169 : decode cX1_copyFrom 169 = .ok (.putfield 52, 3) := by decide +kernel
theorem dX1_copyFrom_172 : decode cX1_copyFrom 172 = .ok (.return_, 1) := by decide +kernel
theorem dX1_isNested_0 : decode cX1_isNested 0 = .ok (.aload_n 0, 1) := by decide +kernel
theorem dX1_isNested_1 : decode cX1_isNested 1 = .ok (.getfield 43, 3) := by decide +kernel
theorem dX1_isNested_4 : decode cX1_isNested 4 = .ok (.aload_n 0, 1) := by decide +kernel
theorem dX1_isNested_5 : decode cX1_isNested 5 = .ok (.getfield 18, 3) := by decide +kernel
theorem dX1_isNested_8 : decode cX1_isNested 8 = .ok (.iload_n 1, 1) := by decide +kernel
theorem dX1_isNested_9 : decode cX1_isNested 9 = .ok (.iaload, 1) := by decide +kernel
theorem dX1_isNested_10 : decode cX1_isNested 10 = .ok (.if_icmp .ge 7, 3) := by decide +kernel
theorem dX1_isNested_13 : decode cX1_isNested 13 = .ok (.iconst 1, 1) := by decide +kernel
theorem dX1_isNested_14 : decode cX1_isNested 14 = .ok (.goto 4, 3) := by decide +kernel
theorem dX1_isNested_17 : decode cX1_isNested 17 = .ok (.iconst 0, 1) := by decide +kernel
theorem dX1_isNested_18 : decode cX1_isNested 18 = .ok (.ireturn, 1) := by decide +kernel
theorem dX1_countNested_0 : decode cX1_countNested 0 = .ok (.iconst 0, 1) := by decide +kernel
theorem dX1_countNested_1 : decode cX1_countNested 1 = .ok (.istore_n 1, 1) := by decide +kernel
theorem dX1_countNested_2 : decode cX1_countNested 2 = .ok (.iconst 0, 1) := by decide +kernel
theorem dX1_countNested_3 : decode cX1_countNested 3 = .ok (.istore_n 2, 1) := by decide +kernel
theorem dX1_countNested_4 : decode cX1_countNested 4 = .ok (.iload_n 2, 1) := by decide +kernel
theorem dX1_countNested_5 : decode cX1_countNested 5 = .ok (.bipush 8, 2) := by decide +kernel
theorem dX1_countNested_7 : decode cX1_countNested 7 = .ok (.if_icmp .ge 25, 3) := by decide +kernel
theorem dX1_countNested_10 : decode cX1_countNested 10 = .ok (.iload_n 1, 1) := by decide +kernel
theorem dX1_countNested_11 : decode cX1_countNested 11 = .ok (.aload_n 0, 1) := by decide +kernel
theorem dX1_countNested_12 : decode cX1_countNested 12 = .ok (.iload_n 2, 1) := by decide +kernel
theorem dX1_countNested_13 : decode cX1_countNested 13 = .ok (.invokevirtual 55, 3) := by decide +kernel
theorem dX1_countNested_16 : decode cX1_countNested 16 = .ok (.ifCond .eq 7, 3) := by decide +kernel
theorem dX1_countNested_19 : decode cX1_countNested 19 = .ok (.iconst 1, 1) := by decide +kernel
theorem dX1_countNested_20 : decode cX1_countNested 20 = .ok (.goto 4, 3) := by decide +kernel
theorem dX1_countNested_23 : decode cX1_countNested 23 = .ok (.iconst 0, 1) := by decide +kernel
theorem dX1_countNested_24 : decode cX1_countNested 24 = .ok (.iadd, 1) := by decide +kernel
theorem dX1_countNested_25 : decode cX1_countNested 25 = .ok (.istore_n 1, 1) := by decide +kernel
theorem dX1_countNested_26 : decode cX1_countNested 26 = .ok (.iinc 2 1, 3) := by decide +kernel
theorem dX1_countNested_29 : decode cX1_countNested 29 = .ok (.goto (-25), 3) := by decide +kernel
theorem dX1_countNested_32 : decode cX1_countNested 32 = .ok (.iload_n 1, 1) := by decide +kernel
theorem dX1_countNested_33 : decode cX1_countNested 33 = .ok (.ireturn, 1) := by decide +kernel
theorem dX1_heightAfter_0 : decode cX1_heightAfter 0 = .ok (.bipush 99, 2) := by decide +kernel
theorem dX1_heightAfter_2 : decode cX1_heightAfter 2 = .ok (.aload_n 0, 1) := by decide +kernel
theorem dX1_heightAfter_3 : decode cX1_heightAfter 3 = .ok (.getfield 9, 3) := by decide +kernel
theorem dX1_heightAfter_6 : decode cX1_heightAfter 6 = .ok (.iload_n 1, 1) := by decide +kernel
theorem dX1_heightAfter_7 : decode cX1_heightAfter 7 = .ok (.iaload, 1) := by decide +kernel
theorem dX1_heightAfter_8 : decode cX1_heightAfter 8 = .ok (.aload_n 0, 1) := by decide +kernel
theorem dX1_heightAfter_9 : decode cX1_heightAfter 9 = .ok (.getfield 15, 3) := by decide +kernel
theorem dX1_heightAfter_12 : decode cX1_heightAfter 12 = .ok (.iload_n 1, 1) := by decide +kernel
theorem dX1_heightAfter_13 : decode cX1_heightAfter 13 = .ok (.iaload, 1) := by decide +kernel
theorem dX1_heightAfter_14 : decode cX1_heightAfter 14 = .ok (.iload_n 2, 1) := by decide +kernel
theorem dX1_heightAfter_15 : decode cX1_heightAfter 15 = .ok (.imul, 1) := by decide +kernel
theorem dX1_heightAfter_16 : decode cX1_heightAfter 16 = .ok (.iadd, 1) := by decide +kernel
theorem dX1_heightAfter_17 : decode cX1_heightAfter 17 = .ok (.invokestatic 59, 3) := by decide +kernel
theorem dX1_heightAfter_20 : decode cX1_heightAfter 20 = .ok (.ireturn, 1) := by decide +kernel
theorem dX1_heightsAfter_0 : decode cX1_heightsAfter 0 = .ok (.iconst 0, 1) := by decide +kernel
theorem dX1_heightsAfter_1 : decode cX1_heightsAfter 1 = .ok (.istore_n 2, 1) := by decide +kernel
theorem dX1_heightsAfter_2 : decode cX1_heightsAfter 2 = .ok (.iconst 0, 1) := by decide +kernel
theorem dX1_heightsAfter_3 : decode cX1_heightsAfter 3 = .ok (.istore_n 3, 1) := by decide +kernel
theorem dX1_heightsAfter_4 : decode cX1_heightsAfter 4 = .ok (.iload_n 3, 1) := by decide +kernel
theorem dX1_heightsAfter_5 : decode cX1_heightsAfter 5 = .ok (.bipush 8, 2) := by decide +kernel
theorem dX1_heightsAfter_7 : decode cX1_heightsAfter 7 = .ok (.if_icmp .ge 18, 3) := by decide +kernel
theorem dX1_heightsAfter_10 : decode cX1_heightsAfter 10 = .ok (.iload_n 2, 1) := by decide +kernel
theorem dX1_heightsAfter_11 : decode cX1_heightsAfter 11 = .ok (.aload_n 0, 1) := by decide +kernel
theorem dX1_heightsAfter_12 : decode cX1_heightsAfter 12 = .ok (.iload_n 3, 1) := by decide +kernel
theorem dX1_heightsAfter_13 : decode cX1_heightsAfter 13 = .ok (.iload_n 1, 1) := by decide +kernel
theorem dX1_heightsAfter_14 : decode cX1_heightsAfter 14 = .ok (.invokevirtual 65, 3) := by decide +kernel
theorem dX1_heightsAfter_17 : decode cX1_heightsAfter 17 = .ok (.iadd, 1) := by decide +kernel
theorem dX1_heightsAfter_18 : decode cX1_heightsAfter 18 = .ok (.istore_n 2, 1) := by decide +kernel
theorem dX1_heightsAfter_19 : decode cX1_heightsAfter 19 = .ok (.iinc 3 1, 3) := by decide +kernel
theorem dX1_heightsAfter_22 : decode cX1_heightsAfter 22 = .ok (.goto (-18), 3) := by decide +kernel
theorem dX1_heightsAfter_25 : decode cX1_heightsAfter 25 = .ok (.iload_n 2, 1) := by decide +kernel
theorem dX1_heightsAfter_26 : decode cX1_heightsAfter 26 = .ok (.ireturn, 1) := by decide +kernel
theorem dX1_passDay_0 : decode cX1_passDay 0 = .ok (.iconst 0, 1) := by decide +kernel
theorem dX1_passDay_1 : decode cX1_passDay 1 = .ok (.istore_n 1, 1) := by decide +kernel
theorem dX1_passDay_2 : decode cX1_passDay 2 = .ok (.iload_n 1, 1) := by decide +kernel
theorem dX1_passDay_3 : decode cX1_passDay 3 = .ok (.bipush 8, 2) := by decide +kernel
theorem dX1_passDay_5 : decode cX1_passDay 5 = .ok (.if_icmp .ge 21, 3) := by decide +kernel
theorem dX1_passDay_8 : decode cX1_passDay 8 = .ok (.aload_n 0, 1) := by decide +kernel
theorem dX1_passDay_9 : decode cX1_passDay 9 = .ok (.getfield 9, 3) := by decide +kernel
theorem dX1_passDay_12 : decode cX1_passDay 12 = .ok (.iload_n 1, 1) := by decide +kernel
theorem dX1_passDay_13 : decode cX1_passDay 13 = .ok (.aload_n 0, 1) := by decide +kernel
theorem dX1_passDay_14 : decode cX1_passDay 14 = .ok (.iload_n 1, 1) := by decide +kernel
theorem dX1_passDay_15 : decode cX1_passDay 15 = .ok (.iconst 1, 1) := by decide +kernel
theorem dX1_passDay_16 : decode cX1_passDay 16 = .ok (.invokevirtual 65, 3) := by decide +kernel
theorem dX1_passDay_19 : decode cX1_passDay 19 = .ok (.iastore, 1) := by decide +kernel
theorem dX1_passDay_20 : decode cX1_passDay 20 = .ok (.iinc 1 1, 3) := by decide +kernel
theorem dX1_passDay_23 : decode cX1_passDay 23 = .ok (.goto (-21), 3) := by decide +kernel
theorem dX1_passDay_26 : decode cX1_passDay 26 = .ok (.aload_n 0, 1) := by decide +kernel
theorem dX1_passDay_27 : decode cX1_passDay 27 = .ok (.dup, 1) := by decide +kernel
theorem dX1_passDay_28 : decode cX1_passDay 28 = .ok (.getfield 43, 3) := by decide +kernel
theorem dX1_passDay_31 : decode cX1_passDay 31 = .ok (.iconst 1, 1) := by decide +kernel
theorem dX1_passDay_32 : decode cX1_passDay 32 = .ok (.iadd, 1) := by decide +kernel
theorem dX1_passDay_33 : decode cX1_passDay 33 = .ok (.putfield 43, 3) := by decide +kernel
theorem dX1_passDay_36 : decode cX1_passDay 36 = .ok (.return_, 1) := by decide +kernel
theorem dX1_cutOff_0 : decode cX1_cutOff 0 = .ok (.aload_n 0, 1) := by decide +kernel
theorem dX1_cutOff_1 : decode cX1_cutOff 1 = .ok (.getfield 9, 3) := by decide +kernel
theorem dX1_cutOff_4 : decode cX1_cutOff 4 = .ok (.iload_n 1, 1) := by decide +kernel
theorem dX1_cutOff_5 : decode cX1_cutOff 5 = .ok (.dup2, 1) := by decide +kernel
theorem dX1_cutOff_6 : decode cX1_cutOff 6 = .ok (.iaload, 1) := by decide +kernel
theorem dX1_cutOff_7 : decode cX1_cutOff 7 = .ok (.iload_n 2, 1) := by decide +kernel
theorem dX1_cutOff_8 : decode cX1_cutOff 8 = .ok (.isub, 1) := by decide +kernel
theorem dX1_cutOff_9 : decode cX1_cutOff 9 = .ok (.iastore, 1) := by decide +kernel
theorem dX1_cutOff_10 : decode cX1_cutOff 10 = .ok (.aload_n 0, 1) := by decide +kernel
theorem dX1_cutOff_11 : decode cX1_cutOff 11 = .ok (.getfield 21, 3) := by decide +kernel
theorem dX1_cutOff_14 : decode cX1_cutOff 14 = .ok (.iload_n 1, 1) := by decide +kernel
theorem dX1_cutOff_15 : decode cX1_cutOff 15 = .ok (.dup2, 1) := by decide +kernel
theorem dX1_cutOff_16 : decode cX1_cutOff 16 = .ok (.iaload, 1) := by decide +kernel
theorem dX1_cutOff_17 : decode cX1_cutOff 17 = .ok (.iload_n 2, 1) := by decide +kernel
theorem dX1_cutOff_18 : decode cX1_cutOff 18 = .ok (.iadd, 1) := by decide +kernel
theorem dX1_cutOff_19 : decode cX1_cutOff 19 = .ok (.iastore, 1) := by decide +kernel
theorem dX1_cutOff_20 : decode cX1_cutOff 20 = .ok (.aload_n 0, 1) := by decide +kernel
theorem dX1_cutOff_21 : decode cX1_cutOff 21 = .ok (.dup, 1) := by decide +kernel
theorem dX1_cutOff_22 : decode cX1_cutOff 22 = .ok (.getfield 52, 3) := by decide +kernel
theorem dX1_cutOff_25 : decode cX1_cutOff 25 = .ok (.iconst 1, 1) := by decide +kernel
theorem dX1_cutOff_26 : decode cX1_cutOff 26 = .ok (.iadd, 1) := by decide +kernel
theorem dX1_cutOff_27 : decode cX1_cutOff 27 = .ok (.putfield 52, 3) := by decide +kernel
theorem dX1_cutOff_30 : decode cX1_cutOff 30 = .ok (.return_, 1) := by decide +kernel
theorem dX1_addTreaty_0 : decode cX1_addTreaty 0 = .ok (.aload_n 0, 1) := by decide +kernel
theorem dX1_addTreaty_1 : decode cX1_addTreaty 1 = .ok (.getfield 24, 3) := by decide +kernel
theorem dX1_addTreaty_4 : decode cX1_addTreaty 4 = .ok (.aload_n 0, 1) := by decide +kernel
theorem dX1_addTreaty_5 : decode cX1_addTreaty 5 = .ok (.getfield 40, 3) := by decide +kernel
theorem dX1_addTreaty_8 : decode cX1_addTreaty 8 = .ok (.iload_n 1, 1) := by decide +kernel
theorem dX1_addTreaty_9 : decode cX1_addTreaty 9 = .ok (.iastore, 1) := by decide +kernel
theorem dX1_addTreaty_10 : decode cX1_addTreaty 10 = .ok (.aload_n 0, 1) := by decide +kernel
theorem dX1_addTreaty_11 : decode cX1_addTreaty 11 = .ok (.getfield 27, 3) := by decide +kernel
theorem dX1_addTreaty_14 : decode cX1_addTreaty 14 = .ok (.aload_n 0, 1) := by decide +kernel
theorem dX1_addTreaty_15 : decode cX1_addTreaty 15 = .ok (.getfield 40, 3) := by decide +kernel
theorem dX1_addTreaty_18 : decode cX1_addTreaty 18 = .ok (.iload_n 2, 1) := by decide +kernel
theorem dX1_addTreaty_19 : decode cX1_addTreaty 19 = .ok (.iastore, 1) := by decide +kernel
theorem dX1_addTreaty_20 : decode cX1_addTreaty 20 = .ok (.aload_n 0, 1) := by decide +kernel
theorem dX1_addTreaty_21 : decode cX1_addTreaty 21 = .ok (.getfield 30, 3) := by decide +kernel
theorem dX1_addTreaty_24 : decode cX1_addTreaty 24 = .ok (.aload_n 0, 1) := by decide +kernel
theorem dX1_addTreaty_25 : decode cX1_addTreaty 25 = .ok (.getfield 40, 3) := by decide +kernel
theorem dX1_addTreaty_28 : decode cX1_addTreaty 28 = .ok (.iload_n 3, 1) := by decide +kernel
theorem dX1_addTreaty_29 : decode cX1_addTreaty 29 = .ok (.iastore, 1) := by decide +kernel
theorem dX1_addTreaty_30 : decode cX1_addTreaty 30 = .ok (.aload_n 0, 1) := by decide +kernel
theorem dX1_addTreaty_31 : decode cX1_addTreaty 31 = .ok (.getfield 33, 3) := by decide +kernel
theorem dX1_addTreaty_34 : decode cX1_addTreaty 34 = .ok (.aload_n 0, 1) := by decide +kernel
theorem dX1_addTreaty_35 : decode cX1_addTreaty 35 = .ok (.getfield 40, 3) := by decide +kernel
theorem dX1_addTreaty_38 : decode cX1_addTreaty 38 = .ok (.iconst 0, 1) := by decide +kernel
theorem dX1_addTreaty_39 : decode cX1_addTreaty 39 = .ok (.iastore, 1) := by decide +kernel
theorem dX1_addTreaty_40 : decode cX1_addTreaty 40 = .ok (.aload_n 0, 1) := by decide +kernel
theorem dX1_addTreaty_41 : decode cX1_addTreaty 41 = .ok (.dup, 1) := by decide +kernel
theorem dX1_addTreaty_42 : decode cX1_addTreaty 42 = .ok (.getfield 40, 3) := by decide +kernel
theorem dX1_addTreaty_45 : decode cX1_addTreaty 45 = .ok (.iconst 1, 1) := by decide +kernel
theorem dX1_addTreaty_46 : decode cX1_addTreaty 46 = .ok (.iadd, 1) := by decide +kernel
theorem dX1_addTreaty_47 : decode cX1_addTreaty 47 = .ok (.putfield 40, 3) := by decide +kernel
theorem dX1_addTreaty_50 : decode cX1_addTreaty 50 = .ok (.aload_n 0, 1) := by decide +kernel
theorem dX1_addTreaty_51 : decode cX1_addTreaty 51 = .ok (.dup, 1) := by decide +kernel
theorem dX1_addTreaty_52 : decode cX1_addTreaty 52 = .ok (.getfield 46, 3) := by decide +kernel
theorem dX1_addTreaty_55 : decode cX1_addTreaty 55 = .ok (.iconst 1, 1) := by decide +kernel
theorem dX1_addTreaty_56 : decode cX1_addTreaty 56 = .ok (.iadd, 1) := by decide +kernel
theorem dX1_addTreaty_57 : decode cX1_addTreaty 57 = .ok (.putfield 46, 3) := by decide +kernel
theorem dX1_addTreaty_60 : decode cX1_addTreaty 60 = .ok (.return_, 1) := by decide +kernel
theorem dX1_removeTreaty_0 : decode cX1_removeTreaty 0 = .ok (.iload_n 1, 1) := by decide +kernel
theorem dX1_removeTreaty_1 : decode cX1_removeTreaty 1 = .ok (.iconst 1, 1) := by decide +kernel
theorem dX1_removeTreaty_2 : decode cX1_removeTreaty 2 = .ok (.iadd, 1) := by decide +kernel
theorem dX1_removeTreaty_3 : decode cX1_removeTreaty 3 = .ok (.istore_n 2, 1) := by decide +kernel
theorem dX1_removeTreaty_4 : decode cX1_removeTreaty 4 = .ok (.iload_n 2, 1) := by decide +kernel
theorem dX1_removeTreaty_5 : decode cX1_removeTreaty 5 = .ok (.aload_n 0, 1) := by decide +kernel
theorem dX1_removeTreaty_6 : decode cX1_removeTreaty 6 = .ok (.getfield 40, 3) := by decide +kernel
theorem dX1_removeTreaty_9 : decode cX1_removeTreaty 9 = .ok (.if_icmp .ge 65, 3) := by decide +kernel
theorem dX1_removeTreaty_12 : decode cX1_removeTreaty 12 = .ok (.aload_n 0, 1) := by decide +kernel
theorem dX1_removeTreaty_13 : decode cX1_removeTreaty 13 = .ok (.getfield 24, 3) := by decide +kernel
theorem dX1_removeTreaty_16 : decode cX1_removeTreaty 16 = .ok (.iload_n 2, 1) := by decide +kernel
theorem dX1_removeTreaty_17 : decode cX1_removeTreaty 17 = .ok (.iconst 1, 1) := by decide +kernel
theorem dX1_removeTreaty_18 : decode cX1_removeTreaty 18 = .ok (.isub, 1) := by decide +kernel
theorem dX1_removeTreaty_19 : decode cX1_removeTreaty 19 = .ok (.aload_n 0, 1) := by decide +kernel
theorem dX1_removeTreaty_20 : decode cX1_removeTreaty 20 = .ok (.getfield 24, 3) := by decide +kernel
theorem dX1_removeTreaty_23 : decode cX1_removeTreaty 23 = .ok (.iload_n 2, 1) := by decide +kernel
theorem dX1_removeTreaty_24 : decode cX1_removeTreaty 24 = .ok (.iaload, 1) := by decide +kernel
theorem dX1_removeTreaty_25 : decode cX1_removeTreaty 25 = .ok (.iastore, 1) := by decide +kernel
theorem dX1_removeTreaty_26 : decode cX1_removeTreaty 26 = .ok (.aload_n 0, 1) := by decide +kernel
theorem dX1_removeTreaty_27 : decode cX1_removeTreaty 27 = .ok (.getfield 27, 3) := by decide +kernel
theorem dX1_removeTreaty_30 : decode cX1_removeTreaty 30 = .ok (.iload_n 2, 1) := by decide +kernel
theorem dX1_removeTreaty_31 : decode cX1_removeTreaty 31 = .ok (.iconst 1, 1) := by decide +kernel
theorem dX1_removeTreaty_32 : decode cX1_removeTreaty 32 = .ok (.isub, 1) := by decide +kernel
theorem dX1_removeTreaty_33 : decode cX1_removeTreaty 33 = .ok (.aload_n 0, 1) := by decide +kernel
theorem dX1_removeTreaty_34 : decode cX1_removeTreaty 34 = .ok (.getfield 27, 3) := by decide +kernel
theorem dX1_removeTreaty_37 : decode cX1_removeTreaty 37 = .ok (.iload_n 2, 1) := by decide +kernel
theorem dX1_removeTreaty_38 : decode cX1_removeTreaty 38 = .ok (.iaload, 1) := by decide +kernel
theorem dX1_removeTreaty_39 : decode cX1_removeTreaty 39 = .ok (.iastore, 1) := by decide +kernel
theorem dX1_removeTreaty_40 : decode cX1_removeTreaty 40 = .ok (.aload_n 0, 1) := by decide +kernel
theorem dX1_removeTreaty_41 : decode cX1_removeTreaty 41 = .ok (.getfield 30, 3) := by decide +kernel
theorem dX1_removeTreaty_44 : decode cX1_removeTreaty 44 = .ok (.iload_n 2, 1) := by decide +kernel
theorem dX1_removeTreaty_45 : decode cX1_removeTreaty 45 = .ok (.iconst 1, 1) := by decide +kernel
theorem dX1_removeTreaty_46 : decode cX1_removeTreaty 46 = .ok (.isub, 1) := by decide +kernel
theorem dX1_removeTreaty_47 : decode cX1_removeTreaty 47 = .ok (.aload_n 0, 1) := by decide +kernel
theorem dX1_removeTreaty_48 : decode cX1_removeTreaty 48 = .ok (.getfield 30, 3) := by decide +kernel
theorem dX1_removeTreaty_51 : decode cX1_removeTreaty 51 = .ok (.iload_n 2, 1) := by decide +kernel
theorem dX1_removeTreaty_52 : decode cX1_removeTreaty 52 = .ok (.iaload, 1) := by decide +kernel
theorem dX1_removeTreaty_53 : decode cX1_removeTreaty 53 = .ok (.iastore, 1) := by decide +kernel
theorem dX1_removeTreaty_54 : decode cX1_removeTreaty 54 = .ok (.aload_n 0, 1) := by decide +kernel
theorem dX1_removeTreaty_55 : decode cX1_removeTreaty 55 = .ok (.getfield 33, 3) := by decide +kernel
theorem dX1_removeTreaty_58 : decode cX1_removeTreaty 58 = .ok (.iload_n 2, 1) := by decide +kernel
theorem dX1_removeTreaty_59 : decode cX1_removeTreaty 59 = .ok (.iconst 1, 1) := by decide +kernel
theorem dX1_removeTreaty_60 : decode cX1_removeTreaty 60 = .ok (.isub, 1) := by decide +kernel
theorem dX1_removeTreaty_61 : decode cX1_removeTreaty 61 = .ok (.aload_n 0, 1) := by decide +kernel
theorem dX1_removeTreaty_62 : decode cX1_removeTreaty 62 = .ok (.getfield 33, 3) := by decide +kernel
theorem dX1_removeTreaty_65 : decode cX1_removeTreaty 65 = .ok (.iload_n 2, 1) := by decide +kernel
theorem dX1_removeTreaty_66 : decode cX1_removeTreaty 66 = .ok (.iaload, 1) := by decide +kernel
theorem dX1_removeTreaty_67 : decode cX1_removeTreaty 67 = .ok (.iastore, 1) := by decide +kernel
theorem dX1_removeTreaty_68 : decode cX1_removeTreaty 68 = .ok (.iinc 2 1, 3) := by decide +kernel
theorem dX1_removeTreaty_71 : decode cX1_removeTreaty 71 = .ok (.goto (-67), 3) := by decide +kernel
theorem dX1_removeTreaty_74 : decode cX1_removeTreaty 74 = .ok (.aload_n 0, 1) := by decide +kernel
theorem dX1_removeTreaty_75 : decode cX1_removeTreaty 75 = .ok (.dup, 1) := by decide +kernel
theorem dX1_removeTreaty_76 : decode cX1_removeTreaty 76 = .ok (.getfield 40, 3) := by decide +kernel
theorem dX1_removeTreaty_79 : decode cX1_removeTreaty 79 = .ok (.iconst 1, 1) := by decide +kernel
theorem dX1_removeTreaty_80 : decode cX1_removeTreaty 80 = .ok (.isub, 1) := by decide +kernel
theorem dX1_removeTreaty_81 : decode cX1_removeTreaty 81 = .ok (.putfield 40, 3) := by decide +kernel
theorem dX1_removeTreaty_84 : decode cX1_removeTreaty 84 = .ok (.return_, 1) := by decide +kernel
theorem dX1_isAbout_0 : decode cX1_isAbout 0 = .ok (.iload_n 2, 1) := by decide +kernel
theorem dX1_isAbout_1 : decode cX1_isAbout 1 = .ok (.iconst (-1), 1) := by decide +kernel
theorem dX1_isAbout_2 : decode cX1_isAbout 2 = .ok (.if_icmp .eq 23, 3) := by decide +kernel
theorem dX1_isAbout_5 : decode cX1_isAbout 5 = .ok (.aload_n 0, 1) := by decide +kernel
theorem dX1_isAbout_6 : decode cX1_isAbout 6 = .ok (.getfield 24, 3) := by decide +kernel
theorem dX1_isAbout_9 : decode cX1_isAbout 9 = .ok (.iload_n 1, 1) := by decide +kernel
theorem dX1_isAbout_10 : decode cX1_isAbout 10 = .ok (.iaload, 1) := by decide +kernel
theorem dX1_isAbout_11 : decode cX1_isAbout 11 = .ok (.iload_n 2, 1) := by decide +kernel
theorem dX1_isAbout_12 : decode cX1_isAbout 12 = .ok (.if_icmp .eq 13, 3) := by decide +kernel
theorem dX1_isAbout_15 : decode cX1_isAbout 15 = .ok (.aload_n 0, 1) := by decide +kernel
theorem dX1_isAbout_16 : decode cX1_isAbout 16 = .ok (.getfield 27, 3) := by decide +kernel
theorem dX1_isAbout_19 : decode cX1_isAbout 19 = .ok (.iload_n 1, 1) := by decide +kernel
theorem dX1_isAbout_20 : decode cX1_isAbout 20 = .ok (.iaload, 1) := by decide +kernel
theorem dX1_isAbout_21 : decode cX1_isAbout 21 = .ok (.iload_n 2, 1) := by decide +kernel
theorem dX1_isAbout_22 : decode cX1_isAbout 22 = .ok (.if_icmp .ne 7, 3) := by decide +kernel
theorem dX1_isAbout_25 : decode cX1_isAbout 25 = .ok (.iconst 1, 1) := by decide +kernel
theorem dX1_isAbout_26 : decode cX1_isAbout 26 = .ok (.goto 4, 3) := by decide +kernel
theorem dX1_isAbout_29 : decode cX1_isAbout 29 = .ok (.iconst 0, 1) := by decide +kernel
theorem dX1_isAbout_30 : decode cX1_isAbout 30 = .ok (.ireturn, 1) := by decide +kernel
theorem dX1_isInForce_0 : decode cX1_isInForce 0 = .ok (.aload_n 0, 1) := by decide +kernel
theorem dX1_isInForce_1 : decode cX1_isInForce 1 = .ok (.getfield 33, 3) := by decide +kernel
theorem dX1_isInForce_4 : decode cX1_isInForce 4 = .ok (.iload_n 1, 1) := by decide +kernel
theorem dX1_isInForce_5 : decode cX1_isInForce 5 = .ok (.iaload, 1) := by decide +kernel
theorem dX1_isInForce_6 : decode cX1_isInForce 6 = .ok (.aload_n 0, 1) := by decide +kernel
theorem dX1_isInForce_7 : decode cX1_isInForce 7 = .ok (.getfield 43, 3) := by decide +kernel
theorem dX1_isInForce_10 : decode cX1_isInForce 10 = .ok (.if_icmp .gt 7, 3) := by decide +kernel
theorem dX1_isInForce_13 : decode cX1_isInForce 13 = .ok (.iconst 1, 1) := by decide +kernel
theorem dX1_isInForce_14 : decode cX1_isInForce 14 = .ok (.goto 4, 3) := by decide +kernel
theorem dX1_isInForce_17 : decode cX1_isInForce 17 = .ok (.iconst 0, 1) := by decide +kernel
theorem dX1_isInForce_18 : decode cX1_isInForce 18 = .ok (.ireturn, 1) := by decide +kernel
theorem dX1_countInForce_0 : decode cX1_countInForce 0 = .ok (.iconst 0, 1) := by decide +kernel
theorem dX1_countInForce_1 : decode cX1_countInForce 1 = .ok (.istore_n 2, 1) := by decide +kernel
theorem dX1_countInForce_2 : decode cX1_countInForce 2 = .ok (.iconst 0, 1) := by decide +kernel
theorem dX1_countInForce_3 : decode cX1_countInForce 3 = .ok (.istore_n 3, 1) := by decide +kernel
theorem dX1_countInForce_4 : decode cX1_countInForce 4 = .ok (.iload_n 3, 1) := by decide +kernel
theorem dX1_countInForce_5 : decode cX1_countInForce 5 = .ok (.aload_n 0, 1) := by decide +kernel
theorem dX1_countInForce_6 : decode cX1_countInForce 6 = .ok (.getfield 40, 3) := by decide +kernel
theorem dX1_countInForce_9 : decode cX1_countInForce 9 = .ok (.if_icmp .ge 34, 3) := by decide +kernel
theorem dX1_countInForce_12 : decode cX1_countInForce 12 = .ok (.iload_n 2, 1) := by decide +kernel
theorem dX1_countInForce_13 : decode cX1_countInForce 13 = .ok (.aload_n 0, 1) := by decide +kernel
theorem dX1_countInForce_14 : decode cX1_countInForce 14 = .ok (.iload_n 3, 1) := by decide +kernel
theorem dX1_countInForce_15 : decode cX1_countInForce 15 = .ok (.iload_n 1, 1) := by decide +kernel
theorem dX1_countInForce_16 : decode cX1_countInForce 16 = .ok (.invokevirtual 68, 3) := by decide +kernel
theorem dX1_countInForce_19 : decode cX1_countInForce 19 = .ok (.ifCond .eq 15, 3) := by decide +kernel
theorem dX1_countInForce_22 : decode cX1_countInForce 22 = .ok (.aload_n 0, 1) := by decide +kernel
theorem dX1_countInForce_23 : decode cX1_countInForce 23 = .ok (.iload_n 3, 1) := by decide +kernel
theorem dX1_countInForce_24 : decode cX1_countInForce 24 = .ok (.invokevirtual 72, 3) := by decide +kernel
theorem dX1_countInForce_27 : decode cX1_countInForce 27 = .ok (.ifCond .eq 7, 3) := by decide +kernel
theorem dX1_countInForce_30 : decode cX1_countInForce 30 = .ok (.iconst 1, 1) := by decide +kernel
theorem dX1_countInForce_31 : decode cX1_countInForce 31 = .ok (.goto 4, 3) := by decide +kernel
theorem dX1_countInForce_34 : decode cX1_countInForce 34 = .ok (.iconst 0, 1) := by decide +kernel
theorem dX1_countInForce_35 : decode cX1_countInForce 35 = .ok (.iadd, 1) := by decide +kernel
theorem dX1_countInForce_36 : decode cX1_countInForce 36 = .ok (.istore_n 2, 1) := by decide +kernel
theorem dX1_countInForce_37 : decode cX1_countInForce 37 = .ok (.iinc 3 1, 3) := by decide +kernel
theorem dX1_countInForce_40 : decode cX1_countInForce 40 = .ok (.goto (-36), 3) := by decide +kernel
theorem dX1_countInForce_43 : decode cX1_countInForce 43 = .ok (.iload_n 2, 1) := by decide +kernel
theorem dX1_countInForce_44 : decode cX1_countInForce 44 = .ok (.ireturn, 1) := by decide +kernel
theorem dX1_slackAfter_0 : decode cX1_slackAfter 0 = .ok (.aload_n 0, 1) := by decide +kernel
theorem dX1_slackAfter_1 : decode cX1_slackAfter 1 = .ok (.aload_n 0, 1) := by decide +kernel
theorem dX1_slackAfter_2 : decode cX1_slackAfter 2 = .ok (.getfield 27, 3) := by decide +kernel
theorem dX1_slackAfter_5 : decode cX1_slackAfter 5 = .ok (.iload_n 1, 1) := by decide +kernel
theorem dX1_slackAfter_6 : decode cX1_slackAfter 6 = .ok (.iaload, 1) := by decide +kernel
theorem dX1_slackAfter_7 : decode cX1_slackAfter 7 = .ok (.iload_n 2, 1) := by decide +kernel
theorem dX1_slackAfter_8 : decode cX1_slackAfter 8 = .ok (.invokevirtual 65, 3) := by decide +kernel
theorem dX1_slackAfter_11 : decode cX1_slackAfter 11 = .ok (.aload_n 0, 1) := by decide +kernel
theorem dX1_slackAfter_12 : decode cX1_slackAfter 12 = .ok (.getfield 30, 3) := by decide +kernel
theorem dX1_slackAfter_15 : decode cX1_slackAfter 15 = .ok (.iload_n 1, 1) := by decide +kernel
theorem dX1_slackAfter_16 : decode cX1_slackAfter 16 = .ok (.iaload, 1) := by decide +kernel
theorem dX1_slackAfter_17 : decode cX1_slackAfter 17 = .ok (.iadd, 1) := by decide +kernel
theorem dX1_slackAfter_18 : decode cX1_slackAfter 18 = .ok (.istore_n 3, 1) := by decide +kernel
theorem dX1_slackAfter_19 : decode cX1_slackAfter 19 = .ok (.iload_n 3, 1) := by decide +kernel
theorem dX1_slackAfter_20 : decode cX1_slackAfter 20 = .ok (.aload_n 0, 1) := by decide +kernel
theorem dX1_slackAfter_21 : decode cX1_slackAfter 21 = .ok (.aload_n 0, 1) := by decide +kernel
theorem dX1_slackAfter_22 : decode cX1_slackAfter 22 = .ok (.getfield 24, 3) := by decide +kernel
theorem dX1_slackAfter_25 : decode cX1_slackAfter 25 = .ok (.iload_n 1, 1) := by decide +kernel
theorem dX1_slackAfter_26 : decode cX1_slackAfter 26 = .ok (.iaload, 1) := by decide +kernel
theorem dX1_slackAfter_27 : decode cX1_slackAfter 27 = .ok (.iload_n 2, 1) := by decide +kernel
theorem dX1_slackAfter_28 : decode cX1_slackAfter 28 = .ok (.invokevirtual 65, 3) := by decide +kernel
theorem dX1_slackAfter_31 : decode cX1_slackAfter 31 = .ok (.isub, 1) := by decide +kernel
theorem dX1_slackAfter_32 : decode cX1_slackAfter 32 = .ok (.ireturn, 1) := by decide +kernel
theorem dX1_isBrokenAfter_0 : decode cX1_isBrokenAfter 0 = .ok (.aload_n 0, 1) := by decide +kernel
theorem dX1_isBrokenAfter_1 : decode cX1_isBrokenAfter 1 = .ok (.getfield 33, 3) := by decide +kernel
theorem dX1_isBrokenAfter_4 : decode cX1_isBrokenAfter 4 = .ok (.iload_n 1, 1) := by decide +kernel
theorem dX1_isBrokenAfter_5 : decode cX1_isBrokenAfter 5 = .ok (.iaload, 1) := by decide +kernel
theorem dX1_isBrokenAfter_6 : decode cX1_isBrokenAfter 6 = .ok (.aload_n 0, 1) := by decide +kernel
theorem dX1_isBrokenAfter_7 : decode cX1_isBrokenAfter 7 = .ok (.getfield 43, 3) := by decide +kernel
theorem dX1_isBrokenAfter_10 : decode cX1_isBrokenAfter 10 = .ok (.iload_n 2, 1) := by decide +kernel
theorem dX1_isBrokenAfter_11 : decode cX1_isBrokenAfter 11 = .ok (.iadd, 1) := by decide +kernel
theorem dX1_isBrokenAfter_12 : decode cX1_isBrokenAfter 12 = .ok (.if_icmp .gt 16, 3) := by decide +kernel
theorem dX1_isBrokenAfter_15 : decode cX1_isBrokenAfter 15 = .ok (.aload_n 0, 1) := by decide +kernel
theorem dX1_isBrokenAfter_16 : decode cX1_isBrokenAfter 16 = .ok (.iload_n 1, 1) := by decide +kernel
theorem dX1_isBrokenAfter_17 : decode cX1_isBrokenAfter 17 = .ok (.iload_n 2, 1) := by decide +kernel
theorem dX1_isBrokenAfter_18 : decode cX1_isBrokenAfter 18 = .ok (.invokevirtual 75, 3) := by decide +kernel
theorem dX1_isBrokenAfter_21 : decode cX1_isBrokenAfter 21 = .ok (.ifCond .ge 7, 3) := by decide +kernel
theorem dX1_isBrokenAfter_24 : decode cX1_isBrokenAfter 24 = .ok (.iconst 1, 1) := by decide +kernel
theorem dX1_isBrokenAfter_25 : decode cX1_isBrokenAfter 25 = .ok (.goto 4, 3) := by decide +kernel
theorem dX1_isBrokenAfter_28 : decode cX1_isBrokenAfter 28 = .ok (.iconst 0, 1) := by decide +kernel
theorem dX1_isBrokenAfter_29 : decode cX1_isBrokenAfter 29 = .ok (.ireturn, 1) := by decide +kernel
theorem dX1_isBroken_0 : decode cX1_isBroken 0 = .ok (.aload_n 0, 1) := by decide +kernel
theorem dX1_isBroken_1 : decode cX1_isBroken 1 = .ok (.iload_n 1, 1) := by decide +kernel
theorem dX1_isBroken_2 : decode cX1_isBroken 2 = .ok (.iconst 0, 1) := by decide +kernel
theorem dX1_isBroken_3 : decode cX1_isBroken 3 = .ok (.invokevirtual 78, 3) := by decide +kernel
theorem dX1_isBroken_6 : decode cX1_isBroken 6 = .ok (.ireturn, 1) := by decide +kernel
theorem dX1_countBroken_0 : decode cX1_countBroken 0 = .ok (.iconst 0, 1) := by decide +kernel
theorem dX1_countBroken_1 : decode cX1_countBroken 1 = .ok (.istore_n 3, 1) := by decide +kernel
theorem dX1_countBroken_2 : decode cX1_countBroken 2 = .ok (.iconst 0, 1) := by decide +kernel
theorem dX1_countBroken_3 : decode cX1_countBroken 3 = .ok (.istore 4, 2) := by decide +kernel
theorem dX1_countBroken_5 : decode cX1_countBroken 5 = .ok (.iload 4, 2) := by decide +kernel
theorem dX1_countBroken_7 : decode cX1_countBroken 7 = .ok (.aload_n 0, 1) := by decide +kernel
theorem dX1_countBroken_8 : decode cX1_countBroken 8 = .ok (.getfield 40, 3) := by decide +kernel
theorem dX1_countBroken_11 : decode cX1_countBroken 11 = .ok (.if_icmp .ge 37, 3) := by decide +kernel
theorem dX1_countBroken_14 : decode cX1_countBroken 14 = .ok (.iload_n 3, 1) := by decide +kernel
theorem dX1_countBroken_15 : decode cX1_countBroken 15 = .ok (.aload_n 0, 1) := by decide +kernel
theorem dX1_countBroken_16 : decode cX1_countBroken 16 = .ok (.iload 4, 2) := by decide +kernel
theorem dX1_countBroken_18 : decode cX1_countBroken 18 = .ok (.iload_n 1, 1) := by decide +kernel
theorem dX1_countBroken_19 : decode cX1_countBroken 19 = .ok (.invokevirtual 68, 3) := by decide +kernel
theorem dX1_countBroken_22 : decode cX1_countBroken 22 = .ok (.ifCond .eq 17, 3) := by decide +kernel
theorem dX1_countBroken_25 : decode cX1_countBroken 25 = .ok (.aload_n 0, 1) := by decide +kernel
theorem dX1_countBroken_26 : decode cX1_countBroken 26 = .ok (.iload 4, 2) := by decide +kernel
theorem dX1_countBroken_28 : decode cX1_countBroken 28 = .ok (.iload_n 2, 1) := by decide +kernel
theorem dX1_countBroken_29 : decode cX1_countBroken 29 = .ok (.invokevirtual 78, 3) := by decide +kernel
theorem dX1_countBroken_32 : decode cX1_countBroken 32 = .ok (.ifCond .eq 7, 3) := by decide +kernel
theorem dX1_countBroken_35 : decode cX1_countBroken 35 = .ok (.iconst 1, 1) := by decide +kernel
theorem dX1_countBroken_36 : decode cX1_countBroken 36 = .ok (.goto 4, 3) := by decide +kernel
theorem dX1_countBroken_39 : decode cX1_countBroken 39 = .ok (.iconst 0, 1) := by decide +kernel
theorem dX1_countBroken_40 : decode cX1_countBroken 40 = .ok (.iadd, 1) := by decide +kernel
theorem dX1_countBroken_41 : decode cX1_countBroken 41 = .ok (.istore_n 3, 1) := by decide +kernel
theorem dX1_countBroken_42 : decode cX1_countBroken 42 = .ok (.iinc 4 1, 3) := by decide +kernel
theorem dX1_countBroken_45 : decode cX1_countBroken 45 = .ok (.goto (-40), 3) := by decide +kernel
theorem dX1_countBroken_48 : decode cX1_countBroken 48 = .ok (.iload_n 3, 1) := by decide +kernel
theorem dX1_countBroken_49 : decode cX1_countBroken 49 = .ok (.ireturn, 1) := by decide +kernel
