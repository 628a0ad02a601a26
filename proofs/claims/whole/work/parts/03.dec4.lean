theorem dX4_init_0 : decode cX4_init 0 = .ok (.aload_n 0, 1) := by decide +kernel
theorem dX4_init_1 : decode cX4_init 1 = .ok (.invokespecial 1, 3) := by decide +kernel
theorem dX4_init_4 : decode cX4_init 4 = .ok (.aload_n 0, 1) := by decide +kernel
theorem dX4_init_5 : decode cX4_init 5 = .ok (.bipush 95, 2) := by decide +kernel
theorem dX4_init_7 : decode cX4_init 7 = .ok (.newarray .int, 2) := by decide +kernel
theorem dX4_init_9 : decode cX4_init 9 = .ok (.putfield 7, 3) := by decide +kernel
theorem dX4_init_12 : decode cX4_init 12 = .ok (.aload_n 0, 1) := by decide +kernel
theorem dX4_init_13 : decode cX4_init 13 = .ok (.bipush 95, 2) := by decide +kernel
theorem dX4_init_15 : decode cX4_init 15 = .ok (.newarray .int, 2) := by decide +kernel
theorem dX4_init_17 : decode cX4_init 17 = .ok (.putfield 13, 3) := by decide +kernel
theorem dX4_init_20 : decode cX4_init 20 = .ok (.aload_n 0, 1) := by decide +kernel
theorem dX4_init_21 : decode cX4_init 21 = .ok (.sipush 380, 3) := by decide +kernel
theorem dX4_init_24 : decode cX4_init 24 = .ok (.newarray .int, 2) := by decide +kernel
theorem dX4_init_26 : decode cX4_init 26 = .ok (.putfield 16, 3) := by decide +kernel
theorem dX4_init_29 : decode cX4_init 29 = .ok (.aload_n 0, 1) := by decide +kernel
theorem dX4_init_30 : decode cX4_init 30 = .ok (.bipush 95, 2) := by decide +kernel
theorem dX4_init_32 : decode cX4_init 32 = .ok (.newarray .int, 2) := by decide +kernel
theorem dX4_init_34 : decode cX4_init 34 = .ok (.putfield 19, 3) := by decide +kernel
theorem dX4_init_37 : decode cX4_init 37 = .ok (.aload_n 0, 1) := by decide +kernel
theorem dX4_init_38 : decode cX4_init 38 = .ok (.bipush 60, 2) := by decide +kernel
theorem dX4_init_40 : decode cX4_init 40 = .ok (.newarray .int, 2) := by decide +kernel
theorem dX4_init_42 : decode cX4_init 42 = .ok (.putfield 22, 3) := by decide +kernel
theorem dX4_init_45 : decode cX4_init 45 = .ok (.aload_n 0, 1) := by decide +kernel
theorem dX4_init_46 : decode cX4_init 46 = .ok (.bipush 8, 2) := by decide +kernel
theorem dX4_init_48 : decode cX4_init 48 = .ok (.newarray .int, 2) := by decide +kernel
theorem dX4_init_50 : decode cX4_init 50 = .ok (.putfield 25, 3) := by decide +kernel
theorem dX4_init_53 : decode cX4_init 53 = .ok (.aload_n 0, 1) := by decide +kernel
theorem dX4_init_54 : decode cX4_init 54 = .ok (.bipush 8, 2) := by decide +kernel
theorem dX4_init_56 : decode cX4_init 56 = .ok (.newarray .int, 2) := by decide +kernel
theorem dX4_init_58 : decode cX4_init 58 = .ok (.putfield 28, 3) := by decide +kernel
theorem dX4_init_61 : decode cX4_init 61 = .ok (.aload_n 0, 1) := by decide +kernel
theorem dX4_init_62 : decode cX4_init 62 = .ok (.iconst 3, 1) := by decide +kernel
theorem dX4_init_63 : decode cX4_init 63 = .ok (.newarray .int, 2) := by decide +kernel
theorem dX4_init_65 : decode cX4_init 65 = .ok (.putfield 31, 3) := by decide +kernel
theorem dX4_init_68 : decode cX4_init 68 = .ok (.aload_n 0, 1) := by decide +kernel
theorem dX4_init_69 : decode cX4_init 69 = .ok (.getfield 7, 3) := by decide +kernel
theorem dX4_init_72 : decode cX4_init 72 = .ok (.iconst 1, 1) := by decide +kernel
theorem dX4_init_73 : decode cX4_init 73 = .ok (.bipush 10, 2) := by decide +kernel
theorem dX4_init_75 : decode cX4_init 75 = .ok (.iastore, 1) := by decide +kernel
theorem dX4_init_76 : decode cX4_init 76 = .ok (.iconst 0, 1) := by decide +kernel
theorem dX4_init_77 : decode cX4_init 77 = .ok (.istore_n 1, 1) := by decide +kernel
theorem dX4_init_78 : decode cX4_init 78 = .ok (.iload_n 1, 1) := by decide +kernel
theorem dX4_init_79 : decode cX4_init 79 = .ok (.bipush 8, 2) := by decide +kernel
theorem dX4_init_81 : decode cX4_init 81 = .ok (.if_icmp .ge 24, 3) := by decide +kernel
theorem dX4_init_84 : decode cX4_init 84 = .ok (.aload_n 0, 1) := by decide +kernel
theorem dX4_init_85 : decode cX4_init 85 = .ok (.iload_n 1, 1) := by decide +kernel
theorem dX4_init_86 : decode cX4_init 86 = .ok (.iconst 0, 1) := by decide +kernel
theorem dX4_init_87 : decode cX4_init 87 = .ok (.bipush 10, 2) := by decide +kernel
theorem dX4_init_89 : decode cX4_init 89 = .ok (.invokevirtual 34, 3) := by decide +kernel
theorem dX4_init_92 : decode cX4_init 92 = .ok (.aload_n 0, 1) := by decide +kernel
theorem dX4_init_93 : decode cX4_init 93 = .ok (.iload_n 1, 1) := by decide +kernel
theorem dX4_init_94 : decode cX4_init 94 = .ok (.iconst 1, 1) := by decide +kernel
theorem dX4_init_95 : decode cX4_init 95 = .ok (.iconst 1, 1) := by decide +kernel
theorem dX4_init_96 : decode cX4_init 96 = .ok (.invokevirtual 34, 3) := by decide +kernel
theorem dX4_init_99 : decode cX4_init 99 = .ok (.iinc 1 1, 3) := by decide +kernel
theorem dX4_init_102 : decode cX4_init 102 = .ok (.goto (-24), 3) := by decide +kernel
theorem dX4_init_105 : decode cX4_init 105 = .ok (.return_, 1) := by decide +kernel
theorem dX4_in_0 : decode cX4_in 0 = .ok (.iload_n 0, 1) := by decide +kernel
theorem dX4_in_1 : decode cX4_in 1 = .ok (.iload_n 1, 1) := by decide +kernel
theorem dX4_in_2 : decode cX4_in 2 = .ok (.if_icmp .lt 12, 3) := by decide +kernel
theorem dX4_in_5 : decode cX4_in 5 = .ok (.iload_n 0, 1) := by decide +kernel
theorem dX4_in_6 : decode cX4_in 6 = .ok (.iload_n 2, 1) := by decide +kernel
theorem dX4_in_7 : decode cX4_in 7 = .ok (.if_icmp .gt 7, 3) := by decide +kernel
theorem dX4_in_10 : decode cX4_in 10 = .ok (.iconst 1, 1) := by decide +kernel
theorem dX4_in_11 : decode cX4_in 11 = .ok (.goto 4, 3) := by decide +kernel
theorem dX4_in_14 : decode cX4_in 14 = .ok (.iconst 0, 1) := by decide +kernel
theorem dX4_in_15 : decode cX4_in 15 = .ok (.ireturn, 1) := by decide +kernel
theorem dX4_copies_0 : decode cX4_copies 0 = .ok (.iconst 0, 1) := by decide +kernel
theorem dX4_copies_1 : decode cX4_copies 1 = .ok (.istore 4, 2) := by decide +kernel
theorem dX4_copies_3 : decode cX4_copies 3 = .ok (.iload 4, 2) := by decide +kernel
theorem dX4_copies_5 : decode cX4_copies 5 = .ok (.bipush 95, 2) := by decide +kernel
theorem dX4_copies_7 : decode cX4_copies 7 = .ok (.if_icmp .ge 21, 3) := by decide +kernel
theorem dX4_copies_10 : decode cX4_copies 10 = .ok (.aload_n 2, 1) := by decide +kernel
theorem dX4_copies_11 : decode cX4_copies 11 = .ok (.iload_n 3, 1) := by decide +kernel
theorem dX4_copies_12 : decode cX4_copies 12 = .ok (.iload 4, 2) := by decide +kernel
theorem dX4_copies_14 : decode cX4_copies 14 = .ok (.iadd, 1) := by decide +kernel
theorem dX4_copies_15 : decode cX4_copies 15 = .ok (.aload_n 0, 1) := by decide +kernel
theorem dX4_copies_16 : decode cX4_copies 16 = .ok (.iload_n 1, 1) := by decide +kernel
theorem dX4_copies_17 : decode cX4_copies 17 = .ok (.iload 4, 2) := by decide +kernel
theorem dX4_copies_19 : decode cX4_copies 19 = .ok (.iadd, 1) := by decide +kernel
theorem dX4_copies_20 : decode cX4_copies 20 = .ok (.iaload, 1) := by decide +kernel
theorem dX4_copies_21 : decode cX4_copies 21 = .ok (.iastore, 1) := by decide +kernel
theorem dX4_copies_22 : decode cX4_copies 22 = .ok (.iinc 4 1, 3) := by decide +kernel
theorem dX4_copies_25 : decode cX4_copies 25 = .ok (.goto (-22), 3) := by decide +kernel
theorem dX4_copies_28 : decode cX4_copies 28 = .ok (.return_, 1) := by decide +kernel
theorem dX4_records_0 : decode cX4_records 0 = .ok (.aload_n 0, 1) := by decide +kernel
theorem dX4_records_1 : decode cX4_records 1 = .ok (.getfield 38, 3) := by decide +kernel
theorem dX4_records_4 : decode cX4_records 4 = .ok (.iconst 4, 1) := by decide +kernel
theorem dX4_records_5 : decode cX4_records 5 = .ok (.if_icmp .ne 43, 3) := by decide +kernel
theorem dX4_records_8 : decode cX4_records 8 = .ok (.iconst 0, 1) := by decide +kernel
theorem dX4_records_9 : decode cX4_records 9 = .ok (.istore_n 1, 1) := by decide +kernel
theorem dX4_records_10 : decode cX4_records 10 = .ok (.iload_n 1, 1) := by decide +kernel
theorem dX4_records_11 : decode cX4_records 11 = .ok (.sipush 285, 3) := by decide +kernel
theorem dX4_records_14 : decode cX4_records 14 = .ok (.if_icmp .ge 24, 3) := by decide +kernel
theorem dX4_records_17 : decode cX4_records 17 = .ok (.aload_n 0, 1) := by decide +kernel
theorem dX4_records_18 : decode cX4_records 18 = .ok (.getfield 16, 3) := by decide +kernel
theorem dX4_records_21 : decode cX4_records 21 = .ok (.iload_n 1, 1) := by decide +kernel
theorem dX4_records_22 : decode cX4_records 22 = .ok (.aload_n 0, 1) := by decide +kernel
theorem dX4_records_23 : decode cX4_records 23 = .ok (.getfield 16, 3) := by decide +kernel
theorem dX4_records_26 : decode cX4_records 26 = .ok (.iload_n 1, 1) := by decide +kernel
theorem dX4_records_27 : decode cX4_records 27 = .ok (.bipush 95, 2) := by decide +kernel
theorem dX4_records_29 : decode cX4_records 29 = .ok (.iadd, 1) := by decide +kernel
theorem dX4_records_30 : decode cX4_records 30 = .ok (.iaload, 1) := by decide +kernel
theorem dX4_records_31 : decode cX4_records 31 = .ok (.iastore, 1) := by decide +kernel
theorem dX4_records_32 : decode cX4_records 32 = .ok (.iinc 1 1, 3) := by decide +kernel
theorem dX4_records_35 : decode cX4_records 35 = .ok (.goto (-25), 3) := by decide +kernel
theorem dX4_records_38 : decode cX4_records 38 = .ok (.aload_n 0, 1) := by decide +kernel
theorem dX4_records_39 : decode cX4_records 39 = .ok (.dup, 1) := by decide +kernel
theorem dX4_records_40 : decode cX4_records 40 = .ok (.getfield 38, 3) := by decide +kernel
theorem dX4_records_43 : decode cX4_records 43 = .ok (.iconst 1, 1) := by decide +kernel
theorem dX4_records_44 : decode cX4_records 44 = .ok (.isub, 1) := by decide +kernel
theorem dX4_records_45 : decode cX4_records 45 = .ok (.putfield 38, 3) := by decide +kernel
theorem dX4_records_48 : decode cX4_records 48 = .ok (.aload_n 0, 1) := by decide +kernel
theorem dX4_records_49 : decode cX4_records 49 = .ok (.getfield 7, 3) := by decide +kernel
theorem dX4_records_52 : decode cX4_records 52 = .ok (.iconst 0, 1) := by decide +kernel
theorem dX4_records_53 : decode cX4_records 53 = .ok (.aload_n 0, 1) := by decide +kernel
theorem dX4_records_54 : decode cX4_records 54 = .ok (.getfield 16, 3) := by decide +kernel
theorem dX4_records_57 : decode cX4_records 57 = .ok (.bipush 95, 2) := by decide +kernel
theorem dX4_records_59 : decode cX4_records 59 = .ok (.aload_n 0, 1) := by decide +kernel
theorem dX4_records_60 : decode cX4_records 60 = .ok (.getfield 38, 3) := by decide +kernel
theorem dX4_records_63 : decode cX4_records 63 = .ok (.imul, 1) := by decide +kernel
theorem dX4_records_64 : decode cX4_records 64 = .ok (.invokestatic 42, 3) := by decide +kernel
theorem dX4_records_67 : decode cX4_records 67 = .ok (.aload_n 0, 1) := by decide +kernel
theorem dX4_records_68 : decode cX4_records 68 = .ok (.dup, 1) := by decide +kernel
theorem dX4_records_69 : decode cX4_records 69 = .ok (.getfield 38, 3) := by decide +kernel
theorem dX4_records_72 : decode cX4_records 72 = .ok (.iconst 1, 1) := by decide +kernel
theorem dX4_records_73 : decode cX4_records 73 = .ok (.iadd, 1) := by decide +kernel
theorem dX4_records_74 : decode cX4_records 74 = .ok (.putfield 38, 3) := by decide +kernel
theorem dX4_records_77 : decode cX4_records 77 = .ok (.return_, 1) := by decide +kernel
theorem dX4_isHedge_0 : decode cX4_isHedge 0 = .ok (.iload_n 0, 1) := by decide +kernel
theorem dX4_isHedge_1 : decode cX4_isHedge 1 = .ok (.iconst 0, 1) := by decide +kernel
theorem dX4_isHedge_2 : decode cX4_isHedge 2 = .ok (.bipush 7, 2) := by decide +kernel
theorem dX4_isHedge_4 : decode cX4_isHedge 4 = .ok (.invokestatic 46, 3) := by decide +kernel
theorem dX4_isHedge_7 : decode cX4_isHedge 7 = .ok (.ireturn, 1) := by decide +kernel
theorem dX4_isTreaty_0 : decode cX4_isTreaty 0 = .ok (.iload_n 1, 1) := by decide +kernel
theorem dX4_isTreaty_1 : decode cX4_isTreaty 1 = .ok (.iconst 0, 1) := by decide +kernel
theorem dX4_isTreaty_2 : decode cX4_isTreaty 2 = .ok (.aload_n 0, 1) := by decide +kernel
theorem dX4_isTreaty_3 : decode cX4_isTreaty 3 = .ok (.getfield 7, 3) := by decide +kernel
theorem dX4_isTreaty_6 : decode cX4_isTreaty 6 = .ok (.iconst 2, 1) := by decide +kernel
theorem dX4_isTreaty_7 : decode cX4_isTreaty 7 = .ok (.iaload, 1) := by decide +kernel
theorem dX4_isTreaty_8 : decode cX4_isTreaty 8 = .ok (.iconst 1, 1) := by decide +kernel
theorem dX4_isTreaty_9 : decode cX4_isTreaty 9 = .ok (.isub, 1) := by decide +kernel
theorem dX4_isTreaty_10 : decode cX4_isTreaty 10 = .ok (.invokestatic 46, 3) := by decide +kernel
theorem dX4_isTreaty_13 : decode cX4_isTreaty 13 = .ok (.ireturn, 1) := by decide +kernel
theorem dX4_of_0 : decode cX4_of 0 = .ok (.aload_n 0, 1) := by decide +kernel
theorem dX4_of_1 : decode cX4_of 1 = .ok (.getfield 7, 3) := by decide +kernel
theorem dX4_of_4 : decode cX4_of 4 = .ok (.bipush 7, 2) := by decide +kernel
theorem dX4_of_6 : decode cX4_of 6 = .ok (.iconst 4, 1) := by decide +kernel
theorem dX4_of_7 : decode cX4_of 7 = .ok (.iload_n 1, 1) := by decide +kernel
theorem dX4_of_8 : decode cX4_of 8 = .ok (.imul, 1) := by decide +kernel
theorem dX4_of_9 : decode cX4_of 9 = .ok (.iadd, 1) := by decide +kernel
theorem dX4_of_10 : decode cX4_of 10 = .ok (.iload_n 2, 1) := by decide +kernel
theorem dX4_of_11 : decode cX4_of 11 = .ok (.iadd, 1) := by decide +kernel
theorem dX4_of_12 : decode cX4_of 12 = .ok (.iaload, 1) := by decide +kernel
theorem dX4_of_13 : decode cX4_of 13 = .ok (.ireturn, 1) := by decide +kernel
theorem dX4_lays_0 : decode cX4_lays 0 = .ok (.aload_n 0, 1) := by decide +kernel
theorem dX4_lays_1 : decode cX4_lays 1 = .ok (.getfield 7, 3) := by decide +kernel
theorem dX4_lays_4 : decode cX4_lays 4 = .ok (.bipush 7, 2) := by decide +kernel
theorem dX4_lays_6 : decode cX4_lays 6 = .ok (.iconst 4, 1) := by decide +kernel
theorem dX4_lays_7 : decode cX4_lays 7 = .ok (.iload_n 1, 1) := by decide +kernel
theorem dX4_lays_8 : decode cX4_lays 8 = .ok (.imul, 1) := by decide +kernel
theorem dX4_lays_9 : decode cX4_lays 9 = .ok (.iadd, 1) := by decide +kernel
theorem dX4_lays_10 : decode cX4_lays 10 = .ok (.iload_n 2, 1) := by decide +kernel
theorem dX4_lays_11 : decode cX4_lays 11 = .ok (.iadd, 1) := by decide +kernel
theorem dX4_lays_12 : decode cX4_lays 12 = .ok (.iload_n 3, 1) := by decide +kernel
theorem dX4_lays_13 : decode cX4_lays 13 = .ok (.iastore, 1) := by decide +kernel
theorem dX4_lays_14 : decode cX4_lays 14 = .ok (.return_, 1) := by decide +kernel
theorem dX4_ofTreaty_0 : decode cX4_ofTreaty 0 = .ok (.aload_n 0, 1) := by decide +kernel
theorem dX4_ofTreaty_1 : decode cX4_ofTreaty 1 = .ok (.getfield 7, 3) := by decide +kernel
theorem dX4_ofTreaty_4 : decode cX4_ofTreaty 4 = .ok (.bipush 39, 2) := by decide +kernel
theorem dX4_ofTreaty_6 : decode cX4_ofTreaty 6 = .ok (.iconst 4, 1) := by decide +kernel
theorem dX4_ofTreaty_7 : decode cX4_ofTreaty 7 = .ok (.iload_n 1, 1) := by decide +kernel
theorem dX4_ofTreaty_8 : decode cX4_ofTreaty 8 = .ok (.imul, 1) := by decide +kernel
theorem dX4_ofTreaty_9 : decode cX4_ofTreaty 9 = .ok (.iadd, 1) := by decide +kernel
theorem dX4_ofTreaty_10 : decode cX4_ofTreaty 10 = .ok (.iload_n 2, 1) := by decide +kernel
theorem dX4_ofTreaty_11 : decode cX4_ofTreaty 11 = .ok (.iadd, 1) := by decide +kernel
theorem dX4_ofTreaty_12 : decode cX4_ofTreaty 12 = .ok (.iaload, 1) := by decide +kernel
theorem dX4_ofTreaty_13 : decode cX4_ofTreaty 13 = .ok (.ireturn, 1) := by decide +kernel
theorem dX4_laysTreaty_0 : decode cX4_laysTreaty 0 = .ok (.aload_n 0, 1) := by decide +kernel
theorem dX4_laysTreaty_1 : decode cX4_laysTreaty 1 = .ok (.getfield 7, 3) := by decide +kernel
theorem dX4_laysTreaty_4 : decode cX4_laysTreaty 4 = .ok (.bipush 39, 2) := by decide +kernel
theorem dX4_laysTreaty_6 : decode cX4_laysTreaty 6 = .ok (.iconst 4, 1) := by decide +kernel
theorem dX4_laysTreaty_7 : decode cX4_laysTreaty 7 = .ok (.iload_n 1, 1) := by decide +kernel
theorem dX4_laysTreaty_8 : decode cX4_laysTreaty 8 = .ok (.imul, 1) := by decide +kernel
theorem dX4_laysTreaty_9 : decode cX4_laysTreaty 9 = .ok (.iadd, 1) := by decide +kernel
theorem dX4_laysTreaty_10 : decode cX4_laysTreaty 10 = .ok (.iload_n 2, 1) := by decide +kernel
theorem dX4_laysTreaty_11 : decode cX4_laysTreaty 11 = .ok (.iadd, 1) := by decide +kernel
theorem dX4_laysTreaty_12 : decode cX4_laysTreaty 12 = .ok (.iload_n 3, 1) := by decide +kernel
theorem dX4_laysTreaty_13 : decode cX4_laysTreaty 13 = .ok (.iastore, 1) := by decide +kernel
theorem dX4_laysTreaty_14 : decode cX4_laysTreaty 14 = .ok (.return_, 1) := by decide +kernel
theorem dX4_isNested_0 : decode cX4_isNested 0 = .ok (.aload_n 0, 1) := by decide +kernel
theorem dX4_isNested_1 : decode cX4_isNested 1 = .ok (.getfield 7, 3) := by decide +kernel
theorem dX4_isNested_4 : decode cX4_isNested 4 = .ok (.iconst 0, 1) := by decide +kernel
theorem dX4_isNested_5 : decode cX4_isNested 5 = .ok (.iaload, 1) := by decide +kernel
theorem dX4_isNested_6 : decode cX4_isNested 6 = .ok (.aload_n 0, 1) := by decide +kernel
theorem dX4_isNested_7 : decode cX4_isNested 7 = .ok (.iload_n 1, 1) := by decide +kernel
theorem dX4_isNested_8 : decode cX4_isNested 8 = .ok (.iconst 2, 1) := by decide +kernel
theorem dX4_isNested_9 : decode cX4_isNested 9 = .ok (.invokevirtual 50, 3) := by decide +kernel
theorem dX4_isNested_12 : decode cX4_isNested 12 = .ok (.if_icmp .ge 7, 3) := by decide +kernel
theorem dX4_isNested_15 : decode cX4_isNested 15 = .ok (.iconst 1, 1) := by decide +kernel
theorem dX4_isNested_16 : decode cX4_isNested 16 = .ok (.goto 4, 3) := by decide +kernel
theorem dX4_isNested_19 : decode cX4_isNested 19 = .ok (.iconst 0, 1) := by decide +kernel
theorem dX4_isNested_20 : decode cX4_isNested 20 = .ok (.ireturn, 1) := by decide +kernel
theorem dX4_isForce_0 : decode cX4_isForce 0 = .ok (.aload_n 0, 1) := by decide +kernel
theorem dX4_isForce_1 : decode cX4_isForce 1 = .ok (.getfield 7, 3) := by decide +kernel
theorem dX4_isForce_4 : decode cX4_isForce 4 = .ok (.iconst 0, 1) := by decide +kernel
theorem dX4_isForce_5 : decode cX4_isForce 5 = .ok (.iaload, 1) := by decide +kernel
theorem dX4_isForce_6 : decode cX4_isForce 6 = .ok (.aload_n 0, 1) := by decide +kernel
theorem dX4_isForce_7 : decode cX4_isForce 7 = .ok (.iload_n 1, 1) := by decide +kernel
theorem dX4_isForce_8 : decode cX4_isForce 8 = .ok (.iconst 3, 1) := by decide +kernel
theorem dX4_isForce_9 : decode cX4_isForce 9 = .ok (.invokevirtual 54, 3) := by decide +kernel
theorem dX4_isForce_12 : decode cX4_isForce 12 = .ok (.if_icmp .lt 7, 3) := by decide +kernel
theorem dX4_isForce_15 : decode cX4_isForce 15 = .ok (.iconst 1, 1) := by decide +kernel
theorem dX4_isForce_16 : decode cX4_isForce 16 = .ok (.goto 4, 3) := by decide +kernel
theorem dX4_isForce_19 : decode cX4_isForce 19 = .ok (.iconst 0, 1) := by decide +kernel
theorem dX4_isForce_20 : decode cX4_isForce 20 = .ok (.ireturn, 1) := by decide +kernel
theorem dX4_slackOf_0 : decode cX4_slackOf 0 = .ok (.aload_n 0, 1) := by decide +kernel
theorem dX4_slackOf_1 : decode cX4_slackOf 1 = .ok (.iload_n 1, 1) := by decide +kernel
theorem dX4_slackOf_2 : decode cX4_slackOf 2 = .ok (.iconst 2, 1) := by decide +kernel
theorem dX4_slackOf_3 : decode cX4_slackOf 3 = .ok (.invokevirtual 54, 3) := by decide +kernel
theorem dX4_slackOf_6 : decode cX4_slackOf 6 = .ok (.aload_n 0, 1) := by decide +kernel
theorem dX4_slackOf_7 : decode cX4_slackOf 7 = .ok (.aload_n 0, 1) := by decide +kernel
theorem dX4_slackOf_8 : decode cX4_slackOf 8 = .ok (.iload_n 1, 1) := by decide +kernel
theorem dX4_slackOf_9 : decode cX4_slackOf 9 = .ok (.iconst 1, 1) := by decide +kernel
theorem dX4_slackOf_10 : decode cX4_slackOf 10 = .ok (.invokevirtual 54, 3) := by decide +kernel
theorem dX4_slackOf_13 : decode cX4_slackOf 13 = .ok (.iconst 0, 1) := by decide +kernel
theorem dX4_slackOf_14 : decode cX4_slackOf 14 = .ok (.invokevirtual 50, 3) := by decide +kernel
theorem dX4_slackOf_17 : decode cX4_slackOf 17 = .ok (.iadd, 1) := by decide +kernel
theorem dX4_slackOf_18 : decode cX4_slackOf 18 = .ok (.aload_n 0, 1) := by decide +kernel
theorem dX4_slackOf_19 : decode cX4_slackOf 19 = .ok (.aload_n 0, 1) := by decide +kernel
theorem dX4_slackOf_20 : decode cX4_slackOf 20 = .ok (.iload_n 1, 1) := by decide +kernel
theorem dX4_slackOf_21 : decode cX4_slackOf 21 = .ok (.iconst 0, 1) := by decide +kernel
theorem dX4_slackOf_22 : decode cX4_slackOf 22 = .ok (.invokevirtual 54, 3) := by decide +kernel
theorem dX4_slackOf_25 : decode cX4_slackOf 25 = .ok (.iconst 0, 1) := by decide +kernel
theorem dX4_slackOf_26 : decode cX4_slackOf 26 = .ok (.invokevirtual 50, 3) := by decide +kernel
theorem dX4_slackOf_29 : decode cX4_slackOf 29 = .ok (.isub, 1) := by decide +kernel
theorem dX4_slackOf_30 : decode cX4_slackOf 30 = .ok (.ireturn, 1) := by decide +kernel
theorem dX4_isBroken_0 : decode cX4_isBroken 0 = .ok (.aload_n 0, 1) := by decide +kernel
theorem dX4_isBroken_1 : decode cX4_isBroken 1 = .ok (.iload_n 1, 1) := by decide +kernel
theorem dX4_isBroken_2 : decode cX4_isBroken 2 = .ok (.invokevirtual 57, 3) := by decide +kernel
theorem dX4_isBroken_5 : decode cX4_isBroken 5 = .ok (.ifCond .eq 15, 3) := by decide +kernel
theorem dX4_isBroken_8 : decode cX4_isBroken 8 = .ok (.aload_n 0, 1) := by decide +kernel
theorem dX4_isBroken_9 : decode cX4_isBroken 9 = .ok (.iload_n 1, 1) := by decide +kernel
theorem dX4_isBroken_10 : decode cX4_isBroken 10 = .ok (.invokevirtual 61, 3) := by decide +kernel
theorem dX4_isBroken_13 : decode cX4_isBroken 13 = .ok (.ifCond .ge 7, 3) := by decide +kernel
theorem dX4_isBroken_16 : decode cX4_isBroken 16 = .ok (.iconst 1, 1) := by decide +kernel
theorem dX4_isBroken_17 : decode cX4_isBroken 17 = .ok (.goto 4, 3) := by decide +kernel
theorem dX4_isBroken_20 : decode cX4_isBroken 20 = .ok (.iconst 0, 1) := by decide +kernel
theorem dX4_isBroken_21 : decode cX4_isBroken 21 = .ok (.ireturn, 1) := by decide +kernel
theorem dX4_brokenOnes_0 : decode cX4_brokenOnes 0 = .ok (.iconst 0, 1) := by decide +kernel
theorem dX4_brokenOnes_1 : decode cX4_brokenOnes 1 = .ok (.istore_n 1, 1) := by decide +kernel
theorem dX4_brokenOnes_2 : decode cX4_brokenOnes 2 = .ok (.iconst 0, 1) := by decide +kernel
theorem dX4_brokenOnes_3 : decode cX4_brokenOnes 3 = .ok (.istore_n 2, 1) := by decide +kernel
theorem dX4_brokenOnes_4 : decode cX4_brokenOnes 4 = .ok (.iload_n 2, 1) := by decide +kernel
theorem dX4_brokenOnes_5 : decode cX4_brokenOnes 5 = .ok (.aload_n 0, 1) := by decide +kernel
theorem dX4_brokenOnes_6 : decode cX4_brokenOnes 6 = .ok (.getfield 7, 3) := by decide +kernel
theorem dX4_brokenOnes_9 : decode cX4_brokenOnes 9 = .ok (.iconst 2, 1) := by decide +kernel
theorem dX4_brokenOnes_10 : decode cX4_brokenOnes 10 = .ok (.iaload, 1) := by decide +kernel
theorem dX4_brokenOnes_11 : decode cX4_brokenOnes 11 = .ok (.if_icmp .ge 25, 3) := by decide +kernel
theorem dX4_brokenOnes_14 : decode cX4_brokenOnes 14 = .ok (.iload_n 1, 1) := by decide +kernel
theorem dX4_brokenOnes_15 : decode cX4_brokenOnes 15 = .ok (.aload_n 0, 1) := by decide +kernel
theorem dX4_brokenOnes_16 : decode cX4_brokenOnes 16 = .ok (.iload_n 2, 1) := by decide +kernel
theorem dX4_brokenOnes_17 : decode cX4_brokenOnes 17 = .ok (.invokevirtual 65, 3) := by decide +kernel
theorem dX4_brokenOnes_20 : decode cX4_brokenOnes 20 = .ok (.ifCond .eq 7, 3) := by decide +kernel
theorem dX4_brokenOnes_23 : decode cX4_brokenOnes 23 = .ok (.iconst 1, 1) := by decide +kernel
theorem dX4_brokenOnes_24 : decode cX4_brokenOnes 24 = .ok (.goto 4, 3) := by decide +kernel
theorem dX4_brokenOnes_27 : decode cX4_brokenOnes 27 = .ok (.iconst 0, 1) := by decide +kernel
theorem dX4_brokenOnes_28 : decode cX4_brokenOnes 28 = .ok (.iadd, 1) := by decide +kernel
theorem dX4_brokenOnes_29 : decode cX4_brokenOnes 29 = .ok (.istore_n 1, 1) := by decide +kernel
theorem dX4_brokenOnes_30 : decode cX4_brokenOnes 30 = .ok (.iinc 2 1, 3) := by decide +kernel
theorem dX4_brokenOnes_33 : decode cX4_brokenOnes 33 = .ok (.goto (-29), 3) := by decide +kernel
theorem dX4_brokenOnes_36 : decode cX4_brokenOnes 36 = .ok (.iload_n 1, 1) := by decide +kernel
theorem dX4_brokenOnes_37 : decode cX4_brokenOnes 37 = .ok (.ireturn, 1) := by decide +kernel
theorem dX4_inForce_0 : decode cX4_inForce 0 = .ok (.iconst 0, 1) := by decide +kernel
theorem dX4_inForce_1 : decode cX4_inForce 1 = .ok (.istore_n 1, 1) := by decide +kernel
theorem dX4_inForce_2 : decode cX4_inForce 2 = .ok (.iconst 0, 1) := by decide +kernel
theorem dX4_inForce_3 : decode cX4_inForce 3 = .ok (.istore_n 2, 1) := by decide +kernel
theorem dX4_inForce_4 : decode cX4_inForce 4 = .ok (.iload_n 2, 1) := by decide +kernel
theorem dX4_inForce_5 : decode cX4_inForce 5 = .ok (.aload_n 0, 1) := by decide +kernel
theorem dX4_inForce_6 : decode cX4_inForce 6 = .ok (.getfield 7, 3) := by decide +kernel
theorem dX4_inForce_9 : decode cX4_inForce 9 = .ok (.iconst 2, 1) := by decide +kernel
theorem dX4_inForce_10 : decode cX4_inForce 10 = .ok (.iaload, 1) := by decide +kernel
theorem dX4_inForce_11 : decode cX4_inForce 11 = .ok (.if_icmp .ge 25, 3) := by decide +kernel
theorem dX4_inForce_14 : decode cX4_inForce 14 = .ok (.iload_n 1, 1) := by decide +kernel
theorem dX4_inForce_15 : decode cX4_inForce 15 = .ok (.aload_n 0, 1) := by decide +kernel
theorem dX4_inForce_16 : decode cX4_inForce 16 = .ok (.iload_n 2, 1) := by decide +kernel
theorem dX4_inForce_17 : decode cX4_inForce 17 = .ok (.invokevirtual 57, 3) := by decide +kernel
theorem dX4_inForce_20 : decode cX4_inForce 20 = .ok (.ifCond .eq 7, 3) := by decide +kernel
theorem dX4_inForce_23 : decode cX4_inForce 23 = .ok (.iconst 1, 1) := by decide +kernel
theorem dX4_inForce_24 : decode cX4_inForce 24 = .ok (.goto 4, 3) := by decide +kernel
theorem dX4_inForce_27 : decode cX4_inForce 27 = .ok (.iconst 0, 1) := by decide +kernel
theorem dX4_inForce_28 : decode cX4_inForce 28 = .ok (.iadd, 1) := by decide +kernel
theorem dX4_inForce_29 : decode cX4_inForce 29 = .ok (.istore_n 1, 1) := by decide +kernel
theorem dX4_inForce_30 : decode cX4_inForce 30 = .ok (.iinc 2 1, 3) := by decide +kernel
theorem dX4_inForce_33 : decode cX4_inForce 33 = .ok (.goto (-29), 3) := by decide +kernel
theorem dX4_inForce_36 : decode cX4_inForce 36 = .ok (.iload_n 1, 1) := by decide +kernel
theorem dX4_inForce_37 : decode cX4_inForce 37 = .ok (.ireturn, 1) := by decide +kernel
theorem dX4_lowers_0 : decode cX4_lowers 0 = .ok (.aload_n 0, 1) := by decide +kernel
theorem dX4_lowers_1 : decode cX4_lowers 1 = .ok (.getfield 25, 3) := by decide +kernel
theorem dX4_lowers_4 : decode cX4_lowers 4 = .ok (.iload_n 1, 1) := by decide +kernel
theorem dX4_lowers_5 : decode cX4_lowers 5 = .ok (.iaload, 1) := by decide +kernel
theorem dX4_lowers_6 : decode cX4_lowers 6 = .ok (.aload_n 0, 1) := by decide +kernel
theorem dX4_lowers_7 : decode cX4_lowers 7 = .ok (.getfield 25, 3) := by decide +kernel
theorem dX4_lowers_10 : decode cX4_lowers 10 = .ok (.iload_n 2, 1) := by decide +kernel
theorem dX4_lowers_11 : decode cX4_lowers 11 = .ok (.iaload, 1) := by decide +kernel
theorem dX4_lowers_12 : decode cX4_lowers 12 = .ok (.iload_n 3, 1) := by decide +kernel
theorem dX4_lowers_13 : decode cX4_lowers 13 = .ok (.iadd, 1) := by decide +kernel
theorem dX4_lowers_14 : decode cX4_lowers 14 = .ok (.if_icmp .le 7, 3) := by decide +kernel
theorem dX4_lowers_17 : decode cX4_lowers 17 = .ok (.iconst 1, 1) := by decide +kernel
theorem dX4_lowers_18 : decode cX4_lowers 18 = .ok (.goto 4, 3) := by decide +kernel
theorem dX4_lowers_21 : decode cX4_lowers 21 = .ok (.iconst 0, 1) := by decide +kernel
theorem dX4_lowers_22 : decode cX4_lowers 22 = .ok (.istore 4, 2) := by decide +kernel
theorem dX4_lowers_24 : decode cX4_lowers 24 = .ok (.aload_n 0, 1) := by decide +kernel
theorem dX4_lowers_25 : decode cX4_lowers 25 = .ok (.getfield 25, 3) := by decide +kernel
theorem dX4_lowers_28 : decode cX4_lowers 28 = .ok (.iload_n 1, 1) := by decide +kernel
theorem dX4_lowers_29 : decode cX4_lowers 29 = .ok (.iload 4, 2) := by decide +kernel
theorem dX4_lowers_31 : decode cX4_lowers 31 = .ok (.ifCond .eq 14, 3) := by decide +kernel
theorem dX4_lowers_34 : decode cX4_lowers 34 = .ok (.aload_n 0, 1) := by decide +kernel
theorem dX4_lowers_35 : decode cX4_lowers 35 = .ok (.getfield 25, 3) := by decide +kernel
theorem dX4_lowers_38 : decode cX4_lowers 38 = .ok (.iload_n 2, 1) := by decide +kernel
theorem dX4_lowers_39 : decode cX4_lowers 39 = .ok (.iaload, 1) := by decide +kernel
theorem dX4_lowers_40 : decode cX4_lowers 40 = .ok (.iload_n 3, 1) := by decide +kernel
theorem dX4_lowers_41 : decode cX4_lowers 41 = .ok (.iadd, 1) := by decide +kernel
theorem dX4_lowers_42 : decode cX4_lowers 42 = .ok (.goto 9, 3) := by decide +kernel
theorem dX4_lowers_45 : decode cX4_lowers 45 = .ok (.aload_n 0, 1) := by decide +kernel
theorem dX4_lowers_46 : decode cX4_lowers 46 = .ok (.getfield 25, 3) := by decide +kernel
theorem dX4_lowers_49 : decode cX4_lowers 49 = .ok (.iload_n 1, 1) := by decide +kernel
theorem dX4_lowers_50 : decode cX4_lowers 50 = .ok (.iaload, 1) := by decide +kernel
theorem dX4_lowers_51 : decode cX4_lowers 51 = .ok (.iastore, 1) := by decide +kernel
theorem dX4_lowers_52 : decode cX4_lowers 52 = .ok (.iload 4, 2) := by decide +kernel
theorem dX4_lowers_54 : decode cX4_lowers 54 = .ok (.ireturn, 1) := by decide +kernel
theorem dX4_areTall_0 : decode cX4_areTall 0 = .ok (.iconst 1, 1) := by decide +kernel
theorem dX4_areTall_1 : decode cX4_areTall 1 = .ok (.istore_n 1, 1) := by decide +kernel
theorem dX4_areTall_2 : decode cX4_areTall 2 = .ok (.iconst 0, 1) := by decide +kernel
theorem dX4_areTall_3 : decode cX4_areTall 3 = .ok (.istore_n 2, 1) := by decide +kernel
theorem dX4_areTall_4 : decode cX4_areTall 4 = .ok (.iload_n 2, 1) := by decide +kernel
theorem dX4_areTall_5 : decode cX4_areTall 5 = .ok (.bipush 8, 2) := by decide +kernel
theorem dX4_areTall_7 : decode cX4_areTall 7 = .ok (.if_icmp .ge 28, 3) := by decide +kernel
theorem dX4_areTall_10 : decode cX4_areTall 10 = .ok (.iload_n 1, 1) := by decide +kernel
theorem dX4_areTall_11 : decode cX4_areTall 11 = .ok (.ifCond .eq 16, 3) := by decide +kernel
theorem dX4_areTall_14 : decode cX4_areTall 14 = .ok (.aload_n 0, 1) := by decide +kernel
theorem dX4_areTall_15 : decode cX4_areTall 15 = .ok (.getfield 25, 3) := by decide +kernel
theorem dX4_areTall_18 : decode cX4_areTall 18 = .ok (.iload_n 2, 1) := by decide +kernel
theorem dX4_areTall_19 : decode cX4_areTall 19 = .ok (.iaload, 1) := by decide +kernel
theorem dX4_areTall_20 : decode cX4_areTall 20 = .ok (.ifCond .lt 7, 3) := by decide +kernel
theorem dX4_areTall_23 : decode cX4_areTall 23 = .ok (.iconst 1, 1) := by decide +kernel
theorem dX4_areTall_24 : decode cX4_areTall 24 = .ok (.goto 4, 3) := by decide +kernel
theorem dX4_areTall_27 : decode cX4_areTall 27 = .ok (.iconst 0, 1) := by decide +kernel
theorem dX4_areTall_28 : decode cX4_areTall 28 = .ok (.istore_n 1, 1) := by decide +kernel
theorem dX4_areTall_29 : decode cX4_areTall 29 = .ok (.iinc 2 1, 3) := by decide +kernel
theorem dX4_areTall_32 : decode cX4_areTall 32 = .ok (.goto (-28), 3) := by decide +kernel
theorem dX4_areTall_35 : decode cX4_areTall 35 = .ok (.iload_n 1, 1) := by decide +kernel
theorem dX4_areTall_36 : decode cX4_areTall 36 = .ok (.ireturn, 1) := by decide +kernel
theorem dX4_settles_0 : decode cX4_settles 0 = .ok (.iconst 1, 1) := by decide +kernel
theorem dX4_settles_1 : decode cX4_settles 1 = .ok (.istore_n 2, 1) := by decide +kernel
theorem dX4_settles_2 : decode cX4_settles 2 = .ok (.iload_n 2, 1) := by decide +kernel
theorem dX4_settles_3 : decode cX4_settles 3 = .ok (.ifCond .eq 92, 3) := by decide +kernel
theorem dX4_settles_6 : decode cX4_settles 6 = .ok (.aload_n 0, 1) := by decide +kernel
theorem dX4_settles_7 : decode cX4_settles 7 = .ok (.invokevirtual 68, 3) := by decide +kernel
theorem dX4_settles_10 : decode cX4_settles 10 = .ok (.ifCond .eq 85, 3) := by decide +kernel
theorem dX4_settles_13 : decode cX4_settles 13 = .ok (.iconst 0, 1) := by decide +kernel
theorem dX4_settles_14 : decode cX4_settles 14 = .ok (.istore_n 2, 1) := by decide +kernel
theorem dX4_settles_15 : decode cX4_settles 15 = .ok (.iconst 0, 1) := by decide +kernel
theorem dX4_settles_16 : decode cX4_settles 16 = .ok (.istore_n 3, 1) := by decide +kernel
theorem dX4_settles_17 : decode cX4_settles 17 = .ok (.iload_n 3, 1) := by decide +kernel
theorem dX4_settles_18 : decode cX4_settles 18 = .ok (.aload_n 0, 1) := by decide +kernel
theorem dX4_settles_19 : decode cX4_settles 19 = .ok (.getfield 7, 3) := by decide +kernel
theorem dX4_settles_22 : decode cX4_settles 22 = .ok (.iconst 2, 1) := by decide +kernel
theorem dX4_settles_23 : decode cX4_settles 23 = .ok (.iaload, 1) := by decide +kernel
theorem dX4_settles_24 : decode cX4_settles 24 = .ok (.if_icmp .ge 68, 3) := by decide +kernel
theorem dX4_settles_27 : decode cX4_settles 27 = .ok (.iload_n 1, 1) := by decide +kernel
theorem dX4_settles_28 : decode cX4_settles 28 = .ok (.ifCond .ne 11, 3) := by decide +kernel
theorem dX4_settles_31 : decode cX4_settles 31 = .ok (.aload_n 0, 1) := by decide +kernel
theorem dX4_settles_32 : decode cX4_settles 32 = .ok (.iload_n 3, 1) := by decide +kernel
theorem dX4_settles_33 : decode cX4_settles 33 = .ok (.invokevirtual 57, 3) := by decide +kernel
theorem dX4_settles_36 : decode cX4_settles 36 = .ok (.ifCond .eq 32, 3) := by decide +kernel
theorem dX4_settles_39 : decode cX4_settles 39 = .ok (.aload_n 0, 1) := by decide +kernel
theorem dX4_settles_40 : decode cX4_settles 40 = .ok (.aload_n 0, 1) := by decide +kernel
theorem dX4_settles_41 : decode cX4_settles 41 = .ok (.iload_n 3, 1) := by decide +kernel
theorem dX4_settles_42 : decode cX4_settles 42 = .ok (.iconst 0, 1) := by decide +kernel
theorem dX4_settles_43 : decode cX4_settles 43 = .ok (.invokevirtual 54, 3) := by decide +kernel
theorem dX4_settles_46 : decode cX4_settles 46 = .ok (.aload_n 0, 1) := by decide +kernel
theorem dX4_settles_47 : decode cX4_settles 47 = .ok (.iload_n 3, 1) := by decide +kernel
theorem dX4_settles_48 : decode cX4_settles 48 = .ok (.iconst 1, 1) := by decide +kernel
theorem dX4_settles_49 : decode cX4_settles 49 = .ok (.invokevirtual 54, 3) := by decide +kernel
theorem dX4_settles_52 : decode cX4_settles 52 = .ok (.aload_n 0, 1) := by decide +kernel
theorem dX4_settles_53 : decode cX4_settles 53 = .ok (.iload_n 3, 1) := by decide +kernel
theorem dX4_settles_54 : decode cX4_settles 54 = .ok (.iconst 2, 1) := by decide +kernel
theorem dX4_settles_55 : decode cX4_settles 55 = .ok (.invokevirtual 54, 3) := by decide +kernel
theorem dX4_settles_58 : decode cX4_settles 58 = .ok (.invokevirtual 72, 3) := by decide +kernel
theorem dX4_settles_61 : decode cX4_settles 61 = .ok (.ifCond .eq 7, 3) := by decide +kernel
theorem dX4_settles_64 : decode cX4_settles 64 = .ok (.iconst 1, 1) := by decide +kernel
theorem dX4_settles_65 : decode cX4_settles 65 = .ok (.goto 4, 3) := by decide +kernel
theorem dX4_settles_68 : decode cX4_settles 68 = .ok (.iconst 0, 1) := by decide +kernel
theorem dX4_settles_69 : decode cX4_settles 69 = .ok (.istore 4, 2) := by decide +kernel
theorem dX4_settles_71 : decode cX4_settles 71 = .ok (.iload_n 2, 1) := by decide +kernel
theorem dX4_settles_72 : decode cX4_settles 72 = .ok (.ifCond .ne 8, 3) := by decide +kernel
theorem dX4_settles_75 : decode cX4_settles 75 = .ok (.iload 4, 2) := by decide +kernel
theorem dX4_settles_77 : decode cX4_settles 77 = .ok (.ifCond .eq 7, 3) := by decide +kernel
theorem dX4_settles_80 : decode cX4_settles 80 = .ok (.iconst 1, 1) := by decide +kernel
theorem dX4_settles_81 : decode cX4_settles 81 = .ok (.goto 4, 3) := by decide +kernel
theorem dX4_settles_84 : decode cX4_settles 84 = .ok (.iconst 0, 1) := by decide +kernel
theorem dX4_settles_85 : decode cX4_settles 85 = .ok (.istore_n 2, 1) := by decide +kernel
theorem dX4_settles_86 : decode cX4_settles 86 = .ok (.iinc 3 1, 3) := by decide +kernel
theorem dX4_settles_89 : decode cX4_settles 89 = .ok (.goto (-72), 3) := by decide +kernel
theorem dX4_settles_92 : decode cX4_settles 92 = .ok (.goto (-90), 3) := by decide +kernel
theorem dX4_settles_95 : decode cX4_settles 95 = .ok (.aload_n 0, 1) := by decide +kernel
theorem dX4_settles_96 : decode cX4_settles 96 = .ok (.invokevirtual 68, 3) := by decide +kernel
theorem dX4_settles_99 : decode cX4_settles 99 = .ok (.ireturn, 1) := by decide +kernel
theorem dX4_isPossible_0 : decode cX4_isPossible 0 = .ok (.iconst 0, 1) := by decide +kernel
theorem dX4_isPossible_1 : decode cX4_isPossible 1 = .ok (.istore 4, 2) := by decide +kernel
theorem dX4_isPossible_3 : decode cX4_isPossible 3 = .ok (.iload 4, 2) := by decide +kernel
theorem dX4_isPossible_5 : decode cX4_isPossible 5 = .ok (.bipush 8, 2) := by decide +kernel
theorem dX4_isPossible_7 : decode cX4_isPossible 7 = .ok (.if_icmp .ge 18, 3) := by decide +kernel
theorem dX4_isPossible_10 : decode cX4_isPossible 10 = .ok (.aload_n 0, 1) := by decide +kernel
theorem dX4_isPossible_11 : decode cX4_isPossible 11 = .ok (.getfield 25, 3) := by decide +kernel
theorem dX4_isPossible_14 : decode cX4_isPossible 14 = .ok (.iload 4, 2) := by decide +kernel
theorem dX4_isPossible_16 : decode cX4_isPossible 16 = .ok (.bipush 99, 2) := by decide +kernel
theorem dX4_isPossible_18 : decode cX4_isPossible 18 = .ok (.iastore, 1) := by decide +kernel
theorem dX4_isPossible_19 : decode cX4_isPossible 19 = .ok (.iinc 4 1, 3) := by decide +kernel
theorem dX4_isPossible_22 : decode cX4_isPossible 22 = .ok (.goto (-19), 3) := by decide +kernel
theorem dX4_isPossible_25 : decode cX4_isPossible 25 = .ok (.aload_n 0, 1) := by decide +kernel
theorem dX4_isPossible_26 : decode cX4_isPossible 26 = .ok (.iconst 1, 1) := by decide +kernel
theorem dX4_isPossible_27 : decode cX4_isPossible 27 = .ok (.invokevirtual 75, 3) := by decide +kernel
theorem dX4_isPossible_30 : decode cX4_isPossible 30 = .ok (.istore 4, 2) := by decide +kernel
theorem dX4_isPossible_32 : decode cX4_isPossible 32 = .ok (.iload 4, 2) := by decide +kernel
theorem dX4_isPossible_34 : decode cX4_isPossible 34 = .ok (.ifCond .eq 23, 3) := by decide +kernel
theorem dX4_isPossible_37 : decode cX4_isPossible 37 = .ok (.aload_n 0, 1) := by decide +kernel
theorem dX4_isPossible_38 : decode cX4_isPossible 38 = .ok (.iload_n 1, 1) := by decide +kernel
theorem dX4_isPossible_39 : decode cX4_isPossible 39 = .ok (.iload_n 2, 1) := by decide +kernel
theorem dX4_isPossible_40 : decode cX4_isPossible 40 = .ok (.iload_n 3, 1) := by decide +kernel
theorem dX4_isPossible_41 : decode cX4_isPossible 41 = .ok (.invokevirtual 72, 3) := by decide +kernel
theorem dX4_isPossible_44 : decode cX4_isPossible 44 = .ok (.ifCond .eq 13, 3) := by decide +kernel
theorem dX4_isPossible_47 : decode cX4_isPossible 47 = .ok (.aload_n 0, 1) := by decide +kernel
theorem dX4_isPossible_48 : decode cX4_isPossible 48 = .ok (.iconst 1, 1) := by decide +kernel
theorem dX4_isPossible_49 : decode cX4_isPossible 49 = .ok (.invokevirtual 75, 3) := by decide +kernel
theorem dX4_isPossible_52 : decode cX4_isPossible 52 = .ok (.istore 4, 2) := by decide +kernel
theorem dX4_isPossible_54 : decode cX4_isPossible 54 = .ok (.goto (-22), 3) := by decide +kernel
theorem dX4_isPossible_57 : decode cX4_isPossible 57 = .ok (.iload 4, 2) := by decide +kernel
theorem dX4_isPossible_59 : decode cX4_isPossible 59 = .ok (.ireturn, 1) := by decide +kernel
theorem dX4_hasLeast_0 : decode cX4_hasLeast 0 = .ok (.iconst 0, 1) := by decide +kernel
theorem dX4_hasLeast_1 : decode cX4_hasLeast 1 = .ok (.istore_n 1, 1) := by decide +kernel
theorem dX4_hasLeast_2 : decode cX4_hasLeast 2 = .ok (.iload_n 1, 1) := by decide +kernel
theorem dX4_hasLeast_3 : decode cX4_hasLeast 3 = .ok (.bipush 8, 2) := by decide +kernel
theorem dX4_hasLeast_5 : decode cX4_hasLeast 5 = .ok (.if_icmp .ge 21, 3) := by decide +kernel
theorem dX4_hasLeast_8 : decode cX4_hasLeast 8 = .ok (.aload_n 0, 1) := by decide +kernel
theorem dX4_hasLeast_9 : decode cX4_hasLeast 9 = .ok (.getfield 25, 3) := by decide +kernel
theorem dX4_hasLeast_12 : decode cX4_hasLeast 12 = .ok (.iload_n 1, 1) := by decide +kernel
theorem dX4_hasLeast_13 : decode cX4_hasLeast 13 = .ok (.aload_n 0, 1) := by decide +kernel
theorem dX4_hasLeast_14 : decode cX4_hasLeast 14 = .ok (.iload_n 1, 1) := by decide +kernel
theorem dX4_hasLeast_15 : decode cX4_hasLeast 15 = .ok (.iconst 0, 1) := by decide +kernel
theorem dX4_hasLeast_16 : decode cX4_hasLeast 16 = .ok (.invokevirtual 50, 3) := by decide +kernel
theorem dX4_hasLeast_19 : decode cX4_hasLeast 19 = .ok (.iastore, 1) := by decide +kernel
theorem dX4_hasLeast_20 : decode cX4_hasLeast 20 = .ok (.iinc 1 1, 3) := by decide +kernel
theorem dX4_hasLeast_23 : decode cX4_hasLeast 23 = .ok (.goto (-21), 3) := by decide +kernel
theorem dX4_hasLeast_26 : decode cX4_hasLeast 26 = .ok (.aload_n 0, 1) := by decide +kernel
theorem dX4_hasLeast_27 : decode cX4_hasLeast 27 = .ok (.iconst 0, 1) := by decide +kernel
theorem dX4_hasLeast_28 : decode cX4_hasLeast 28 = .ok (.invokevirtual 75, 3) := by decide +kernel
theorem dX4_hasLeast_31 : decode cX4_hasLeast 31 = .ok (.ireturn, 1) := by decide +kernel
theorem dX4_boundBut_0 : decode cX4_boundBut 0 = .ok (.iconst 0, 1) := by decide +kernel
theorem dX4_boundBut_1 : decode cX4_boundBut 1 = .ok (.istore 4, 2) := by decide +kernel
theorem dX4_boundBut_3 : decode cX4_boundBut 3 = .ok (.iload 4, 2) := by decide +kernel
theorem dX4_boundBut_5 : decode cX4_boundBut 5 = .ok (.bipush 8, 2) := by decide +kernel
theorem dX4_boundBut_7 : decode cX4_boundBut 7 = .ok (.if_icmp .ge 28, 3) := by decide +kernel
theorem dX4_boundBut_10 : decode cX4_boundBut 10 = .ok (.aload_n 0, 1) := by decide +kernel
theorem dX4_boundBut_11 : decode cX4_boundBut 11 = .ok (.getfield 28, 3) := by decide +kernel
theorem dX4_boundBut_14 : decode cX4_boundBut 14 = .ok (.iload 4, 2) := by decide +kernel
theorem dX4_boundBut_16 : decode cX4_boundBut 16 = .ok (.iload 4, 2) := by decide +kernel
theorem dX4_boundBut_18 : decode cX4_boundBut 18 = .ok (.iload_n 1, 1) := by decide +kernel
theorem dX4_boundBut_19 : decode cX4_boundBut 19 = .ok (.if_icmp .ne 7, 3) := by decide +kernel
theorem dX4_boundBut_22 : decode cX4_boundBut 22 = .ok (.iconst 0, 1) := by decide +kernel
theorem dX4_boundBut_23 : decode cX4_boundBut 23 = .ok (.goto 5, 3) := by decide +kernel
theorem dX4_boundBut_26 : decode cX4_boundBut 26 = .ok (.ldc 79, 2) := by decide +kernel
theorem dX4_boundBut_28 : decode cX4_boundBut 28 = .ok (.iastore, 1) := by decide +kernel
theorem dX4_boundBut_29 : decode cX4_boundBut 29 = .ok (.iinc 4 1, 3) := by decide +kernel
theorem dX4_boundBut_32 : decode cX4_boundBut 32 = .ok (.goto (-29), 3) := by decide +kernel
theorem dX4_boundBut_35 : decode cX4_boundBut 35 = .ok (.iconst 1, 1) := by decide +kernel
theorem dX4_boundBut_36 : decode cX4_boundBut 36 = .ok (.istore 4, 2) := by decide +kernel
theorem dX4_boundBut_38 : decode cX4_boundBut 38 = .ok (.iload 4, 2) := by decide +kernel
theorem dX4_boundBut_40 : decode cX4_boundBut 40 = .ok (.ifCond .eq 150, 3) := by decide +kernel
theorem dX4_boundBut_43 : decode cX4_boundBut 43 = .ok (.iconst 0, 1) := by decide +kernel
theorem dX4_boundBut_44 : decode cX4_boundBut 44 = .ok (.istore 4, 2) := by decide +kernel
theorem dX4_boundBut_46 : decode cX4_boundBut 46 = .ok (.iconst 0, 1) := by decide +kernel
theorem dX4_boundBut_47 : decode cX4_boundBut 47 = .ok (.istore 5, 2) := by decide +kernel
theorem dX4_boundBut_49 : decode cX4_boundBut 49 = .ok (.iload 5, 2) := by decide +kernel
theorem dX4_boundBut_51 : decode cX4_boundBut 51 = .ok (.aload_n 0, 1) := by decide +kernel
theorem dX4_boundBut_52 : decode cX4_boundBut 52 = .ok (.getfield 7, 3) := by decide +kernel
theorem dX4_boundBut_55 : decode cX4_boundBut 55 = .ok (.iconst 2, 1) := by decide +kernel
theorem dX4_boundBut_56 : decode cX4_boundBut 56 = .ok (.iaload, 1) := by decide +kernel
theorem dX4_boundBut_57 : decode cX4_boundBut 57 = .ok (.if_icmp .ge 130, 3) := by decide +kernel
theorem dX4_boundBut_60 : decode cX4_boundBut 60 = .ok (.aload_n 0, 1) := by decide +kernel
theorem dX4_boundBut_61 : decode cX4_boundBut 61 = .ok (.getfield 28, 3) := by decide +kernel
theorem dX4_boundBut_64 : decode cX4_boundBut 64 = .ok (.aload_n 0, 1) := by decide +kernel
theorem dX4_boundBut_65 : decode cX4_boundBut 65 = .ok (.iload 5, 2) := by decide +kernel
theorem dX4_boundBut_67 : decode cX4_boundBut 67 = .ok (.iconst 0, 1) := by decide +kernel
theorem dX4_boundBut_68 : decode cX4_boundBut 68 = .ok (.invokevirtual 54, 3) := by decide +kernel
theorem dX4_boundBut_71 : decode cX4_boundBut 71 = .ok (.iaload, 1) := by decide +kernel
theorem dX4_boundBut_72 : decode cX4_boundBut 72 = .ok (.istore 6, 2) := by decide +kernel
theorem dX4_boundBut_74 : decode cX4_boundBut 74 = .ok (.aload_n 0, 1) := by decide +kernel
theorem dX4_boundBut_75 : decode cX4_boundBut 75 = .ok (.iload 5, 2) := by decide +kernel
theorem dX4_boundBut_77 : decode cX4_boundBut 77 = .ok (.iconst 1, 1) := by decide +kernel
theorem dX4_boundBut_78 : decode cX4_boundBut 78 = .ok (.invokevirtual 54, 3) := by decide +kernel
theorem dX4_boundBut_81 : decode cX4_boundBut 81 = .ok (.istore 7, 2) := by decide +kernel
theorem dX4_boundBut_83 : decode cX4_boundBut 83 = .ok (.iload 5, 2) := by decide +kernel
theorem dX4_boundBut_85 : decode cX4_boundBut 85 = .ok (.iload_n 3, 1) := by decide +kernel
theorem dX4_boundBut_86 : decode cX4_boundBut 86 = .ok (.if_icmp .eq 43, 3) := by decide +kernel
theorem dX4_boundBut_89 : decode cX4_boundBut 89 = .ok (.aload_n 0, 1) := by decide +kernel
theorem dX4_boundBut_90 : decode cX4_boundBut 90 = .ok (.iload 5, 2) := by decide +kernel
theorem dX4_boundBut_92 : decode cX4_boundBut 92 = .ok (.invokevirtual 57, 3) := by decide +kernel
theorem dX4_boundBut_95 : decode cX4_boundBut 95 = .ok (.ifCond .eq 34, 3) := by decide +kernel
theorem dX4_boundBut_98 : decode cX4_boundBut 98 = .ok (.iload 6, 2) := by decide +kernel
theorem dX4_boundBut_100 : decode cX4_boundBut 100 = .ok (.ldc 79, 2) := by decide +kernel
theorem dX4_boundBut_102 : decode cX4_boundBut 102 = .ok (.if_icmp .ge 27, 3) := by decide +kernel
theorem dX4_boundBut_105 : decode cX4_boundBut 105 = .ok (.iload 6, 2) := by decide +kernel
theorem dX4_boundBut_107 : decode cX4_boundBut 107 = .ok (.aload_n 0, 1) := by decide +kernel
theorem dX4_boundBut_108 : decode cX4_boundBut 108 = .ok (.iload 5, 2) := by decide +kernel
theorem dX4_boundBut_110 : decode cX4_boundBut 110 = .ok (.iconst 2, 1) := by decide +kernel
theorem dX4_boundBut_111 : decode cX4_boundBut 111 = .ok (.invokevirtual 54, 3) := by decide +kernel
theorem dX4_boundBut_114 : decode cX4_boundBut 114 = .ok (.iadd, 1) := by decide +kernel
theorem dX4_boundBut_115 : decode cX4_boundBut 115 = .ok (.aload_n 0, 1) := by decide +kernel
theorem dX4_boundBut_116 : decode cX4_boundBut 116 = .ok (.getfield 28, 3) := by decide +kernel
theorem dX4_boundBut_119 : decode cX4_boundBut 119 = .ok (.iload 7, 2) := by decide +kernel
theorem dX4_boundBut_121 : decode cX4_boundBut 121 = .ok (.iaload, 1) := by decide +kernel
theorem dX4_boundBut_122 : decode cX4_boundBut 122 = .ok (.if_icmp .ge 7, 3) := by decide +kernel
theorem dX4_boundBut_125 : decode cX4_boundBut 125 = .ok (.iconst 1, 1) := by decide +kernel
theorem dX4_boundBut_126 : decode cX4_boundBut 126 = .ok (.goto 4, 3) := by decide +kernel
theorem dX4_boundBut_129 : decode cX4_boundBut 129 = .ok (.iconst 0, 1) := by decide +kernel
theorem dX4_boundBut_130 : decode cX4_boundBut 130 = .ok (.istore 8, 2) := by decide +kernel
theorem dX4_boundBut_132 : decode cX4_boundBut 132 = .ok (.aload_n 0, 1) := by decide +kernel
theorem dX4_boundBut_133 : decode cX4_boundBut 133 = .ok (.getfield 28, 3) := by decide +kernel
theorem dX4_boundBut_136 : decode cX4_boundBut 136 = .ok (.iload 7, 2) := by decide +kernel
theorem dX4_boundBut_138 : decode cX4_boundBut 138 = .ok (.iload 8, 2) := by decide +kernel
theorem dX4_boundBut_140 : decode cX4_boundBut 140 = .ok (.ifCond .eq 16, 3) := by decide +kernel
theorem dX4_boundBut_143 : decode cX4_boundBut 143 = .ok (.iload 6, 2) := by decide +kernel
theorem dX4_boundBut_145 : decode cX4_boundBut 145 = .ok (.aload_n 0, 1) := by decide +kernel
theorem dX4_boundBut_146 : decode cX4_boundBut 146 = .ok (.iload 5, 2) := by decide +kernel
theorem dX4_boundBut_148 : decode cX4_boundBut 148 = .ok (.iconst 2, 1) := by decide +kernel
theorem dX4_boundBut_149 : decode cX4_boundBut 149 = .ok (.invokevirtual 54, 3) := by decide +kernel
theorem dX4_boundBut_152 : decode cX4_boundBut 152 = .ok (.iadd, 1) := by decide +kernel
theorem dX4_boundBut_153 : decode cX4_boundBut 153 = .ok (.goto 10, 3) := by decide +kernel
theorem dX4_boundBut_156 : decode cX4_boundBut 156 = .ok (.aload_n 0, 1) := by decide +kernel
theorem dX4_boundBut_157 : decode cX4_boundBut 157 = .ok (.getfield 28, 3) := by decide +kernel
theorem dX4_boundBut_160 : decode cX4_boundBut 160 = .ok (.iload 7, 2) := by decide +kernel
theorem dX4_boundBut_162 : decode cX4_boundBut 162 = .ok (.iaload, 1) := by decide +kernel
theorem dX4_boundBut_163 : decode cX4_boundBut 163 = .ok (.iastore, 1) := by decide +kernel
theorem dX4_boundBut_164 : decode cX4_boundBut 164 = .ok (.iload 4, 2) := by decide +kernel
theorem dX4_boundBut_166 : decode cX4_boundBut 166 = .ok (.ifCond .ne 8, 3) := by decide +kernel
theorem dX4_boundBut_169 : decode cX4_boundBut 169 = .ok (.iload 8, 2) := by decide +kernel
theorem dX4_boundBut_171 : decode cX4_boundBut 171 = .ok (.ifCond .eq 7, 3) := by decide +kernel
theorem dX4_boundBut_174 : decode cX4_boundBut 174 = .ok (.iconst 1, 1) := by decide +kernel
theorem dX4_boundBut_175 : decode cX4_boundBut 175 = .ok (.goto 4, 3) := by decide +kernel
theorem dX4_boundBut_178 : decode cX4_boundBut 178 = .ok (.iconst 0, 1) := by decide +kernel
theorem dX4_boundBut_179 : decode cX4_boundBut 179 = .ok (.istore 4, 2) := by decide +kernel
theorem dX4_boundBut_181 : decode cX4_boundBut 181 = .ok (.iinc 5 1, 3) := by decide +kernel
theorem dX4_boundBut_184 : decode cX4_boundBut 184 = .ok (.goto (-135), 3) := by decide +kernel
theorem dX4_boundBut_187 : decode cX4_boundBut 187 = .ok (.goto (-149), 3) := by decide +kernel
theorem dX4_boundBut_190 : decode cX4_boundBut 190 = .ok (.aload_n 0, 1) := by decide +kernel
theorem dX4_boundBut_191 : decode cX4_boundBut 191 = .ok (.getfield 28, 3) := by decide +kernel
theorem dX4_boundBut_194 : decode cX4_boundBut 194 = .ok (.iload_n 2, 1) := by decide +kernel
theorem dX4_boundBut_195 : decode cX4_boundBut 195 = .ok (.iaload, 1) := by decide +kernel
theorem dX4_boundBut_196 : decode cX4_boundBut 196 = .ok (.ireturn, 1) := by decide +kernel
theorem dX4_reasonToSign_0 : decode cX4_reasonToSign 0 = .ok (.aload_n 0, 1) := by decide +kernel
theorem dX4_reasonToSign_1 : decode cX4_reasonToSign 1 = .ok (.iload_n 1, 1) := by decide +kernel
theorem dX4_reasonToSign_2 : decode cX4_reasonToSign 2 = .ok (.iload_n 2, 1) := by decide +kernel
theorem dX4_reasonToSign_3 : decode cX4_reasonToSign 3 = .ok (.iload_n 3, 1) := by decide +kernel
theorem dX4_reasonToSign_4 : decode cX4_reasonToSign 4 = .ok (.invokevirtual 80, 3) := by decide +kernel
theorem dX4_reasonToSign_7 : decode cX4_reasonToSign 7 = .ok (.ifCond .ne 7, 3) := by decide +kernel
theorem dX4_reasonToSign_10 : decode cX4_reasonToSign 10 = .ok (.iconst 1, 1) := by decide +kernel
theorem dX4_reasonToSign_11 : decode cX4_reasonToSign 11 = .ok (.goto 20, 3) := by decide +kernel
theorem dX4_reasonToSign_14 : decode cX4_reasonToSign 14 = .ok (.aload_n 0, 1) := by decide +kernel
theorem dX4_reasonToSign_15 : decode cX4_reasonToSign 15 = .ok (.iload_n 1, 1) := by decide +kernel
theorem dX4_reasonToSign_16 : decode cX4_reasonToSign 16 = .ok (.iload_n 2, 1) := by decide +kernel
theorem dX4_reasonToSign_17 : decode cX4_reasonToSign 17 = .ok (.bipush (-4), 2) := by decide +kernel
theorem dX4_reasonToSign_19 : decode cX4_reasonToSign 19 = .ok (.invokevirtual 83, 3) := by decide +kernel
theorem dX4_reasonToSign_22 : decode cX4_reasonToSign 22 = .ok (.iload_n 3, 1) := by decide +kernel
theorem dX4_reasonToSign_23 : decode cX4_reasonToSign 23 = .ok (.if_icmp .gt 7, 3) := by decide +kernel
theorem dX4_reasonToSign_26 : decode cX4_reasonToSign 26 = .ok (.iconst 2, 1) := by decide +kernel
theorem dX4_reasonToSign_27 : decode cX4_reasonToSign 27 = .ok (.goto 4, 3) := by decide +kernel
theorem dX4_reasonToSign_30 : decode cX4_reasonToSign 30 = .ok (.iconst 0, 1) := by decide +kernel
theorem dX4_reasonToSign_31 : decode cX4_reasonToSign 31 = .ok (.ireturn, 1) := by decide +kernel
theorem dX4_refuses_0 : decode cX4_refuses 0 = .ok (.aload_n 0, 1) := by decide +kernel
theorem dX4_refuses_1 : decode cX4_refuses 1 = .ok (.getfield 7, 3) := by decide +kernel
theorem dX4_refuses_4 : decode cX4_refuses 4 = .ok (.iconst 4, 1) := by decide +kernel
theorem dX4_refuses_5 : decode cX4_refuses 5 = .ok (.dup2, 1) := by decide +kernel
theorem dX4_refuses_6 : decode cX4_refuses 6 = .ok (.iaload, 1) := by decide +kernel
theorem dX4_refuses_7 : decode cX4_refuses 7 = .ok (.iconst 1, 1) := by decide +kernel
theorem dX4_refuses_8 : decode cX4_refuses 8 = .ok (.iadd, 1) := by decide +kernel
theorem dX4_refuses_9 : decode cX4_refuses 9 = .ok (.iastore, 1) := by decide +kernel
theorem dX4_refuses_10 : decode cX4_refuses 10 = .ok (.iload_n 1, 1) := by decide +kernel
theorem dX4_refuses_11 : decode cX4_refuses 11 = .ok (.ireturn, 1) := by decide +kernel
theorem dX4_isPair_0 : decode cX4_isPair 0 = .ok (.iload_n 0, 1) := by decide +kernel
theorem dX4_isPair_1 : decode cX4_isPair 1 = .ok (.invokestatic 87, 3) := by decide +kernel
theorem dX4_isPair_4 : decode cX4_isPair 4 = .ok (.ifCond .eq 19, 3) := by decide +kernel
theorem dX4_isPair_7 : decode cX4_isPair 7 = .ok (.iload_n 1, 1) := by decide +kernel
theorem dX4_isPair_8 : decode cX4_isPair 8 = .ok (.invokestatic 87, 3) := by decide +kernel
theorem dX4_isPair_11 : decode cX4_isPair 11 = .ok (.ifCond .eq 12, 3) := by decide +kernel
theorem dX4_isPair_14 : decode cX4_isPair 14 = .ok (.iload_n 0, 1) := by decide +kernel
theorem dX4_isPair_15 : decode cX4_isPair 15 = .ok (.iload_n 1, 1) := by decide +kernel
theorem dX4_isPair_16 : decode cX4_isPair 16 = .ok (.if_icmp .eq 7, 3) := by decide +kernel
theorem dX4_isPair_19 : decode cX4_isPair 19 = .ok (.iconst 1, 1) := by decide +kernel
theorem dX4_isPair_20 : decode cX4_isPair 20 = .ok (.goto 4, 3) := by decide +kernel
theorem dX4_isPair_23 : decode cX4_isPair 23 = .ok (.iconst 0, 1) := by decide +kernel
theorem dX4_isPair_24 : decode cX4_isPair 24 = .ok (.ireturn, 1) := by decide +kernel
theorem dX4_errorOfSign_0 : decode cX4_errorOfSign 0 = .ok (.iload_n 1, 1) := by decide +kernel
theorem dX4_errorOfSign_1 : decode cX4_errorOfSign 1 = .ok (.iload_n 2, 1) := by decide +kernel
theorem dX4_errorOfSign_2 : decode cX4_errorOfSign 2 = .ok (.invokestatic 90, 3) := by decide +kernel
theorem dX4_errorOfSign_5 : decode cX4_errorOfSign 5 = .ok (.ifCond .eq 14, 3) := by decide +kernel
theorem dX4_errorOfSign_8 : decode cX4_errorOfSign 8 = .ok (.iload_n 3, 1) := by decide +kernel
theorem dX4_errorOfSign_9 : decode cX4_errorOfSign 9 = .ok (.bipush (-30), 2) := by decide +kernel
theorem dX4_errorOfSign_11 : decode cX4_errorOfSign 11 = .ok (.bipush 60, 2) := by decide +kernel
theorem dX4_errorOfSign_13 : decode cX4_errorOfSign 13 = .ok (.invokestatic 46, 3) := by decide +kernel
theorem dX4_errorOfSign_16 : decode cX4_errorOfSign 16 = .ok (.ifCond .ne 5, 3) := by decide +kernel
theorem dX4_errorOfSign_19 : decode cX4_errorOfSign 19 = .ok (.iconst (-1), 1) := by decide +kernel
theorem dX4_errorOfSign_20 : decode cX4_errorOfSign 20 = .ok (.ireturn, 1) := by decide +kernel
theorem dX4_errorOfSign_21 : decode cX4_errorOfSign 21 = .ok (.aload_n 0, 1) := by decide +kernel
theorem dX4_errorOfSign_22 : decode cX4_errorOfSign 22 = .ok (.getfield 7, 3) := by decide +kernel
theorem dX4_errorOfSign_25 : decode cX4_errorOfSign 25 = .ok (.iconst 2, 1) := by decide +kernel
theorem dX4_errorOfSign_26 : decode cX4_errorOfSign 26 = .ok (.iaload, 1) := by decide +kernel
theorem dX4_errorOfSign_27 : decode cX4_errorOfSign 27 = .ok (.bipush 14, 2) := by decide +kernel
theorem dX4_errorOfSign_29 : decode cX4_errorOfSign 29 = .ok (.if_icmp .ne 8, 3) := by decide +kernel
theorem dX4_errorOfSign_32 : decode cX4_errorOfSign 32 = .ok (.bipush (-3), 2) := by decide +kernel
theorem dX4_errorOfSign_34 : decode cX4_errorOfSign 34 = .ok (.goto 4, 3) := by decide +kernel
theorem dX4_errorOfSign_37 : decode cX4_errorOfSign 37 = .ok (.iconst 0, 1) := by decide +kernel
theorem dX4_errorOfSign_38 : decode cX4_errorOfSign 38 = .ok (.ireturn, 1) := by decide +kernel
theorem dX4_goSign_0 : decode cX4_goSign 0 = .ok (.aload_n 0, 1) := by decide +kernel
theorem dX4_goSign_1 : decode cX4_goSign 1 = .ok (.iload_n 1, 1) := by decide +kernel
theorem dX4_goSign_2 : decode cX4_goSign 2 = .ok (.iload_n 2, 1) := by decide +kernel
theorem dX4_goSign_3 : decode cX4_goSign 3 = .ok (.iload_n 3, 1) := by decide +kernel
theorem dX4_goSign_4 : decode cX4_goSign 4 = .ok (.invokevirtual 94, 3) := by decide +kernel
theorem dX4_goSign_7 : decode cX4_goSign 7 = .ok (.istore 4, 2) := by decide +kernel
theorem dX4_goSign_9 : decode cX4_goSign 9 = .ok (.iload 4, 2) := by decide +kernel
theorem dX4_goSign_11 : decode cX4_goSign 11 = .ok (.ifCond .le 10, 3) := by decide +kernel
theorem dX4_goSign_14 : decode cX4_goSign 14 = .ok (.aload_n 0, 1) := by decide +kernel
theorem dX4_goSign_15 : decode cX4_goSign 15 = .ok (.iload 4, 2) := by decide +kernel
theorem dX4_goSign_17 : decode cX4_goSign 17 = .ok (.invokevirtual 97, 3) := by decide +kernel
theorem dX4_goSign_20 : decode cX4_goSign 20 = .ok (.ireturn, 1) := by decide +kernel
theorem dX4_goSign_21 : decode cX4_goSign 21 = .ok (.aload_n 0, 1) := by decide +kernel
theorem dX4_goSign_22 : decode cX4_goSign 22 = .ok (.getfield 7, 3) := by decide +kernel
theorem dX4_goSign_25 : decode cX4_goSign 25 = .ok (.iconst 2, 1) := by decide +kernel
theorem dX4_goSign_26 : decode cX4_goSign 26 = .ok (.iaload, 1) := by decide +kernel
theorem dX4_goSign_27 : decode cX4_goSign 27 = .ok (.istore 5, 2) := by decide +kernel
theorem dX4_goSign_29 : decode cX4_goSign 29 = .ok (.aload_n 0, 1) := by decide +kernel
theorem dX4_goSign_30 : decode cX4_goSign 30 = .ok (.iload 5, 2) := by decide +kernel
theorem dX4_goSign_32 : decode cX4_goSign 32 = .ok (.iconst 0, 1) := by decide +kernel
theorem dX4_goSign_33 : decode cX4_goSign 33 = .ok (.iload_n 1, 1) := by decide +kernel
theorem dX4_goSign_34 : decode cX4_goSign 34 = .ok (.invokevirtual 100, 3) := by decide +kernel
theorem dX4_goSign_37 : decode cX4_goSign 37 = .ok (.aload_n 0, 1) := by decide +kernel
theorem dX4_goSign_38 : decode cX4_goSign 38 = .ok (.iload 5, 2) := by decide +kernel
theorem dX4_goSign_40 : decode cX4_goSign 40 = .ok (.iconst 1, 1) := by decide +kernel
theorem dX4_goSign_41 : decode cX4_goSign 41 = .ok (.iload_n 2, 1) := by decide +kernel
theorem dX4_goSign_42 : decode cX4_goSign 42 = .ok (.invokevirtual 100, 3) := by decide +kernel
theorem dX4_goSign_45 : decode cX4_goSign 45 = .ok (.aload_n 0, 1) := by decide +kernel
theorem dX4_goSign_46 : decode cX4_goSign 46 = .ok (.iload 5, 2) := by decide +kernel
theorem dX4_goSign_48 : decode cX4_goSign 48 = .ok (.iconst 2, 1) := by decide +kernel
theorem dX4_goSign_49 : decode cX4_goSign 49 = .ok (.iload_n 3, 1) := by decide +kernel
theorem dX4_goSign_50 : decode cX4_goSign 50 = .ok (.invokevirtual 100, 3) := by decide +kernel
theorem dX4_goSign_53 : decode cX4_goSign 53 = .ok (.aload_n 0, 1) := by decide +kernel
theorem dX4_goSign_54 : decode cX4_goSign 54 = .ok (.iload 5, 2) := by decide +kernel
theorem dX4_goSign_56 : decode cX4_goSign 56 = .ok (.iconst 3, 1) := by decide +kernel
theorem dX4_goSign_57 : decode cX4_goSign 57 = .ok (.iconst 0, 1) := by decide +kernel
theorem dX4_goSign_58 : decode cX4_goSign 58 = .ok (.invokevirtual 100, 3) := by decide +kernel
theorem dX4_goSign_61 : decode cX4_goSign 61 = .ok (.aload_n 0, 1) := by decide +kernel
theorem dX4_goSign_62 : decode cX4_goSign 62 = .ok (.getfield 7, 3) := by decide +kernel
theorem dX4_goSign_65 : decode cX4_goSign 65 = .ok (.iconst 2, 1) := by decide +kernel
theorem dX4_goSign_66 : decode cX4_goSign 66 = .ok (.dup2, 1) := by decide +kernel
theorem dX4_goSign_67 : decode cX4_goSign 67 = .ok (.iaload, 1) := by decide +kernel
theorem dX4_goSign_68 : decode cX4_goSign 68 = .ok (.iconst 1, 1) := by decide +kernel
theorem dX4_goSign_69 : decode cX4_goSign 69 = .ok (.iadd, 1) := by decide +kernel
theorem dX4_goSign_70 : decode cX4_goSign 70 = .ok (.iastore, 1) := by decide +kernel
theorem dX4_goSign_71 : decode cX4_goSign 71 = .ok (.aload_n 0, 1) := by decide +kernel
theorem dX4_goSign_72 : decode cX4_goSign 72 = .ok (.getfield 7, 3) := by decide +kernel
theorem dX4_goSign_75 : decode cX4_goSign 75 = .ok (.iconst 3, 1) := by decide +kernel
theorem dX4_goSign_76 : decode cX4_goSign 76 = .ok (.dup2, 1) := by decide +kernel
theorem dX4_goSign_77 : decode cX4_goSign 77 = .ok (.iaload, 1) := by decide +kernel
theorem dX4_goSign_78 : decode cX4_goSign 78 = .ok (.iconst 1, 1) := by decide +kernel
theorem dX4_goSign_79 : decode cX4_goSign 79 = .ok (.iadd, 1) := by decide +kernel
theorem dX4_goSign_80 : decode cX4_goSign 80 = .ok (.iastore, 1) := by decide +kernel
theorem dX4_goSign_81 : decode cX4_goSign 81 = .ok (.bipush 10, 2) := by decide +kernel
theorem dX4_goSign_83 : decode cX4_goSign 83 = .ok (.iload 5, 2) := by decide +kernel
theorem dX4_goSign_85 : decode cX4_goSign 85 = .ok (.iadd, 1) := by decide +kernel
theorem dX4_goSign_86 : decode cX4_goSign 86 = .ok (.ireturn, 1) := by decide +kernel
theorem dX4_clips_0 : decode cX4_clips 0 = .ok (.aload_n 0, 1) := by decide +kernel
theorem dX4_clips_1 : decode cX4_clips 1 = .ok (.iload_n 1, 1) := by decide +kernel
theorem dX4_clips_2 : decode cX4_clips 2 = .ok (.iconst 0, 1) := by decide +kernel
theorem dX4_clips_3 : decode cX4_clips 3 = .ok (.aload_n 0, 1) := by decide +kernel
theorem dX4_clips_4 : decode cX4_clips 4 = .ok (.iload_n 1, 1) := by decide +kernel
theorem dX4_clips_5 : decode cX4_clips 5 = .ok (.iconst 0, 1) := by decide +kernel
theorem dX4_clips_6 : decode cX4_clips 6 = .ok (.invokevirtual 50, 3) := by decide +kernel
theorem dX4_clips_9 : decode cX4_clips 9 = .ok (.iload_n 2, 1) := by decide +kernel
theorem dX4_clips_10 : decode cX4_clips 10 = .ok (.isub, 1) := by decide +kernel
theorem dX4_clips_11 : decode cX4_clips 11 = .ok (.invokevirtual 34, 3) := by decide +kernel
theorem dX4_clips_14 : decode cX4_clips 14 = .ok (.aload_n 0, 1) := by decide +kernel
theorem dX4_clips_15 : decode cX4_clips 15 = .ok (.iload_n 1, 1) := by decide +kernel
theorem dX4_clips_16 : decode cX4_clips 16 = .ok (.iconst 3, 1) := by decide +kernel
theorem dX4_clips_17 : decode cX4_clips 17 = .ok (.aload_n 0, 1) := by decide +kernel
theorem dX4_clips_18 : decode cX4_clips 18 = .ok (.iload_n 1, 1) := by decide +kernel
theorem dX4_clips_19 : decode cX4_clips 19 = .ok (.iconst 3, 1) := by decide +kernel
theorem dX4_clips_20 : decode cX4_clips 20 = .ok (.invokevirtual 50, 3) := by decide +kernel
theorem dX4_clips_23 : decode cX4_clips 23 = .ok (.iload_n 2, 1) := by decide +kernel
theorem dX4_clips_24 : decode cX4_clips 24 = .ok (.iadd, 1) := by decide +kernel
theorem dX4_clips_25 : decode cX4_clips 25 = .ok (.invokevirtual 34, 3) := by decide +kernel
theorem dX4_clips_28 : decode cX4_clips 28 = .ok (.aload_n 0, 1) := by decide +kernel
theorem dX4_clips_29 : decode cX4_clips 29 = .ok (.getfield 7, 3) := by decide +kernel
theorem dX4_clips_32 : decode cX4_clips 32 = .ok (.iconst 5, 1) := by decide +kernel
theorem dX4_clips_33 : decode cX4_clips 33 = .ok (.dup2, 1) := by decide +kernel
theorem dX4_clips_34 : decode cX4_clips 34 = .ok (.iaload, 1) := by decide +kernel
theorem dX4_clips_35 : decode cX4_clips 35 = .ok (.iconst 1, 1) := by decide +kernel
theorem dX4_clips_36 : decode cX4_clips 36 = .ok (.iadd, 1) := by decide +kernel
theorem dX4_clips_37 : decode cX4_clips 37 = .ok (.iastore, 1) := by decide +kernel
theorem dX4_clips_38 : decode cX4_clips 38 = .ok (.aload_n 0, 1) := by decide +kernel
theorem dX4_clips_39 : decode cX4_clips 39 = .ok (.getfield 7, 3) := by decide +kernel
theorem dX4_clips_42 : decode cX4_clips 42 = .ok (.bipush 6, 2) := by decide +kernel
theorem dX4_clips_44 : decode cX4_clips 44 = .ok (.dup2, 1) := by decide +kernel
theorem dX4_clips_45 : decode cX4_clips 45 = .ok (.iaload, 1) := by decide +kernel
theorem dX4_clips_46 : decode cX4_clips 46 = .ok (.iload_n 2, 1) := by decide +kernel
theorem dX4_clips_47 : decode cX4_clips 47 = .ok (.iadd, 1) := by decide +kernel
theorem dX4_clips_48 : decode cX4_clips 48 = .ok (.iastore, 1) := by decide +kernel
theorem dX4_clips_49 : decode cX4_clips 49 = .ok (.return_, 1) := by decide +kernel
theorem dX4_goPlan_0 : decode cX4_goPlan 0 = .ok (.aload_n 0, 1) := by decide +kernel
theorem dX4_goPlan_1 : decode cX4_goPlan 1 = .ok (.invokevirtual 103, 3) := by decide +kernel
theorem dX4_goPlan_4 : decode cX4_goPlan 4 = .ok (.ifCond .ne 9, 3) := by decide +kernel
theorem dX4_goPlan_7 : decode cX4_goPlan 7 = .ok (.aload_n 0, 1) := by decide +kernel
theorem dX4_goPlan_8 : decode cX4_goPlan 8 = .ok (.iconst 4, 1) := by decide +kernel
theorem dX4_goPlan_9 : decode cX4_goPlan 9 = .ok (.invokevirtual 97, 3) := by decide +kernel
theorem dX4_goPlan_12 : decode cX4_goPlan 12 = .ok (.ireturn, 1) := by decide +kernel
theorem dX4_goPlan_13 : decode cX4_goPlan 13 = .ok (.iconst 0, 1) := by decide +kernel
theorem dX4_goPlan_14 : decode cX4_goPlan 14 = .ok (.istore_n 1, 1) := by decide +kernel
theorem dX4_goPlan_15 : decode cX4_goPlan 15 = .ok (.iconst 0, 1) := by decide +kernel
theorem dX4_goPlan_16 : decode cX4_goPlan 16 = .ok (.istore_n 2, 1) := by decide +kernel
theorem dX4_goPlan_17 : decode cX4_goPlan 17 = .ok (.iload_n 2, 1) := by decide +kernel
theorem dX4_goPlan_18 : decode cX4_goPlan 18 = .ok (.bipush 8, 2) := by decide +kernel
theorem dX4_goPlan_20 : decode cX4_goPlan 20 = .ok (.if_icmp .ge 42, 3) := by decide +kernel
theorem dX4_goPlan_23 : decode cX4_goPlan 23 = .ok (.iload_n 1, 1) := by decide +kernel
theorem dX4_goPlan_24 : decode cX4_goPlan 24 = .ok (.ifCond .ne 26, 3) := by decide +kernel
theorem dX4_goPlan_27 : decode cX4_goPlan 27 = .ok (.aload_n 0, 1) := by decide +kernel
theorem dX4_goPlan_28 : decode cX4_goPlan 28 = .ok (.getfield 25, 3) := by decide +kernel
theorem dX4_goPlan_31 : decode cX4_goPlan 31 = .ok (.iload_n 2, 1) := by decide +kernel
theorem dX4_goPlan_32 : decode cX4_goPlan 32 = .ok (.iaload, 1) := by decide +kernel
theorem dX4_goPlan_33 : decode cX4_goPlan 33 = .ok (.aload_n 0, 1) := by decide +kernel
theorem dX4_goPlan_34 : decode cX4_goPlan 34 = .ok (.iload_n 2, 1) := by decide +kernel
theorem dX4_goPlan_35 : decode cX4_goPlan 35 = .ok (.iconst 0, 1) := by decide +kernel
theorem dX4_goPlan_36 : decode cX4_goPlan 36 = .ok (.invokevirtual 50, 3) := by decide +kernel
theorem dX4_goPlan_39 : decode cX4_goPlan 39 = .ok (.if_icmp .ge 15, 3) := by decide +kernel
theorem dX4_goPlan_42 : decode cX4_goPlan 42 = .ok (.aload_n 0, 1) := by decide +kernel
theorem dX4_goPlan_43 : decode cX4_goPlan 43 = .ok (.iload_n 2, 1) := by decide +kernel
theorem dX4_goPlan_44 : decode cX4_goPlan 44 = .ok (.invokevirtual 106, 3) := by decide +kernel
theorem dX4_goPlan_47 : decode cX4_goPlan 47 = .ok (.ifCond .eq 7, 3) := by decide +kernel
theorem dX4_goPlan_50 : decode cX4_goPlan 50 = .ok (.iconst 1, 1) := by decide +kernel
theorem dX4_goPlan_51 : decode cX4_goPlan 51 = .ok (.goto 4, 3) := by decide +kernel
theorem dX4_goPlan_54 : decode cX4_goPlan 54 = .ok (.iconst 0, 1) := by decide +kernel
theorem dX4_goPlan_55 : decode cX4_goPlan 55 = .ok (.istore_n 1, 1) := by decide +kernel
theorem dX4_goPlan_56 : decode cX4_goPlan 56 = .ok (.iinc 2 1, 3) := by decide +kernel
theorem dX4_goPlan_59 : decode cX4_goPlan 59 = .ok (.goto (-42), 3) := by decide +kernel
theorem dX4_goPlan_62 : decode cX4_goPlan 62 = .ok (.iload_n 1, 1) := by decide +kernel
theorem dX4_goPlan_63 : decode cX4_goPlan 63 = .ok (.ifCond .eq 9, 3) := by decide +kernel
theorem dX4_goPlan_66 : decode cX4_goPlan 66 = .ok (.aload_n 0, 1) := by decide +kernel
theorem dX4_goPlan_67 : decode cX4_goPlan 67 = .ok (.iconst 3, 1) := by decide +kernel
theorem dX4_goPlan_68 : decode cX4_goPlan 68 = .ok (.invokevirtual 97, 3) := by decide +kernel
theorem dX4_goPlan_71 : decode cX4_goPlan 71 = .ok (.ireturn, 1) := by decide +kernel
theorem dX4_goPlan_72 : decode cX4_goPlan 72 = .ok (.aload_n 0, 1) := by decide +kernel
theorem dX4_goPlan_73 : decode cX4_goPlan 73 = .ok (.getfield 7, 3) := by decide +kernel
theorem dX4_goPlan_76 : decode cX4_goPlan 76 = .ok (.bipush 6, 2) := by decide +kernel
theorem dX4_goPlan_78 : decode cX4_goPlan 78 = .ok (.iaload, 1) := by decide +kernel
theorem dX4_goPlan_79 : decode cX4_goPlan 79 = .ok (.istore_n 2, 1) := by decide +kernel
theorem dX4_goPlan_80 : decode cX4_goPlan 80 = .ok (.iconst 0, 1) := by decide +kernel
theorem dX4_goPlan_81 : decode cX4_goPlan 81 = .ok (.istore_n 3, 1) := by decide +kernel
theorem dX4_goPlan_82 : decode cX4_goPlan 82 = .ok (.iload_n 3, 1) := by decide +kernel
theorem dX4_goPlan_83 : decode cX4_goPlan 83 = .ok (.bipush 8, 2) := by decide +kernel
theorem dX4_goPlan_85 : decode cX4_goPlan 85 = .ok (.if_icmp .ge 42, 3) := by decide +kernel
theorem dX4_goPlan_88 : decode cX4_goPlan 88 = .ok (.aload_n 0, 1) := by decide +kernel
theorem dX4_goPlan_89 : decode cX4_goPlan 89 = .ok (.getfield 25, 3) := by decide +kernel
theorem dX4_goPlan_92 : decode cX4_goPlan 92 = .ok (.iload_n 3, 1) := by decide +kernel
theorem dX4_goPlan_93 : decode cX4_goPlan 93 = .ok (.iaload, 1) := by decide +kernel
theorem dX4_goPlan_94 : decode cX4_goPlan 94 = .ok (.aload_n 0, 1) := by decide +kernel
theorem dX4_goPlan_95 : decode cX4_goPlan 95 = .ok (.iload_n 3, 1) := by decide +kernel
theorem dX4_goPlan_96 : decode cX4_goPlan 96 = .ok (.iconst 0, 1) := by decide +kernel
theorem dX4_goPlan_97 : decode cX4_goPlan 97 = .ok (.invokevirtual 50, 3) := by decide +kernel
theorem dX4_goPlan_100 : decode cX4_goPlan 100 = .ok (.if_icmp .ge 21, 3) := by decide +kernel
theorem dX4_goPlan_103 : decode cX4_goPlan 103 = .ok (.aload_n 0, 1) := by decide +kernel
theorem dX4_goPlan_104 : decode cX4_goPlan 104 = .ok (.iload_n 3, 1) := by decide +kernel
theorem dX4_goPlan_105 : decode cX4_goPlan 105 = .ok (.aload_n 0, 1) := by decide +kernel
theorem dX4_goPlan_106 : decode cX4_goPlan 106 = .ok (.iload_n 3, 1) := by decide +kernel
theorem dX4_goPlan_107 : decode cX4_goPlan 107 = .ok (.iconst 0, 1) := by decide +kernel
theorem dX4_goPlan_108 : decode cX4_goPlan 108 = .ok (.invokevirtual 50, 3) := by decide +kernel
theorem dX4_goPlan_111 : decode cX4_goPlan 111 = .ok (.aload_n 0, 1) := by decide +kernel
theorem dX4_goPlan_112 : decode cX4_goPlan 112 = .ok (.getfield 25, 3) := by decide +kernel
theorem dX4_goPlan_115 : decode cX4_goPlan 115 = .ok (.iload_n 3, 1) := by decide +kernel
theorem dX4_goPlan_116 : decode cX4_goPlan 116 = .ok (.iaload, 1) := by decide +kernel
theorem dX4_goPlan_117 : decode cX4_goPlan 117 = .ok (.isub, 1) := by decide +kernel
theorem dX4_goPlan_118 : decode cX4_goPlan 118 = .ok (.invokevirtual 109, 3) := by decide +kernel
theorem dX4_goPlan_121 : decode cX4_goPlan 121 = .ok (.iinc 3 1, 3) := by decide +kernel
theorem dX4_goPlan_124 : decode cX4_goPlan 124 = .ok (.goto (-42), 3) := by decide +kernel
theorem dX4_goPlan_127 : decode cX4_goPlan 127 = .ok (.bipush 10, 2) := by decide +kernel
theorem dX4_goPlan_129 : decode cX4_goPlan 129 = .ok (.aload_n 0, 1) := by decide +kernel
theorem dX4_goPlan_130 : decode cX4_goPlan 130 = .ok (.getfield 7, 3) := by decide +kernel
theorem dX4_goPlan_133 : decode cX4_goPlan 133 = .ok (.bipush 6, 2) := by decide +kernel
theorem dX4_goPlan_135 : decode cX4_goPlan 135 = .ok (.iaload, 1) := by decide +kernel
theorem dX4_goPlan_136 : decode cX4_goPlan 136 = .ok (.iadd, 1) := by decide +kernel
theorem dX4_goPlan_137 : decode cX4_goPlan 137 = .ok (.iload_n 2, 1) := by decide +kernel
theorem dX4_goPlan_138 : decode cX4_goPlan 138 = .ok (.isub, 1) := by decide +kernel
theorem dX4_goPlan_139 : decode cX4_goPlan 139 = .ok (.ireturn, 1) := by decide +kernel
theorem dX4_goDay_0 : decode cX4_goDay 0 = .ok (.aload_n 0, 1) := by decide +kernel
theorem dX4_goDay_1 : decode cX4_goDay 1 = .ok (.getfield 7, 3) := by decide +kernel
theorem dX4_goDay_4 : decode cX4_goDay 4 = .ok (.iconst 0, 1) := by decide +kernel
theorem dX4_goDay_5 : decode cX4_goDay 5 = .ok (.dup2, 1) := by decide +kernel
theorem dX4_goDay_6 : decode cX4_goDay 6 = .ok (.iaload, 1) := by decide +kernel
theorem dX4_goDay_7 : decode cX4_goDay 7 = .ok (.iconst 1, 1) := by decide +kernel
theorem dX4_goDay_8 : decode cX4_goDay 8 = .ok (.iadd, 1) := by decide +kernel
theorem dX4_goDay_9 : decode cX4_goDay 9 = .ok (.iastore, 1) := by decide +kernel
theorem dX4_goDay_10 : decode cX4_goDay 10 = .ok (.iconst 0, 1) := by decide +kernel
theorem dX4_goDay_11 : decode cX4_goDay 11 = .ok (.istore_n 1, 1) := by decide +kernel
theorem dX4_goDay_12 : decode cX4_goDay 12 = .ok (.iload_n 1, 1) := by decide +kernel
theorem dX4_goDay_13 : decode cX4_goDay 13 = .ok (.bipush 8, 2) := by decide +kernel
theorem dX4_goDay_15 : decode cX4_goDay 15 = .ok (.if_icmp .ge 41, 3) := by decide +kernel
theorem dX4_goDay_18 : decode cX4_goDay 18 = .ok (.aload_n 0, 1) := by decide +kernel
theorem dX4_goDay_19 : decode cX4_goDay 19 = .ok (.iload_n 1, 1) := by decide +kernel
theorem dX4_goDay_20 : decode cX4_goDay 20 = .ok (.iconst 0, 1) := by decide +kernel
theorem dX4_goDay_21 : decode cX4_goDay 21 = .ok (.invokevirtual 50, 3) := by decide +kernel
theorem dX4_goDay_24 : decode cX4_goDay 24 = .ok (.aload_n 0, 1) := by decide +kernel
theorem dX4_goDay_25 : decode cX4_goDay 25 = .ok (.iload_n 1, 1) := by decide +kernel
theorem dX4_goDay_26 : decode cX4_goDay 26 = .ok (.iconst 1, 1) := by decide +kernel
theorem dX4_goDay_27 : decode cX4_goDay 27 = .ok (.invokevirtual 50, 3) := by decide +kernel
theorem dX4_goDay_30 : decode cX4_goDay 30 = .ok (.iadd, 1) := by decide +kernel
theorem dX4_goDay_31 : decode cX4_goDay 31 = .ok (.istore_n 2, 1) := by decide +kernel
theorem dX4_goDay_32 : decode cX4_goDay 32 = .ok (.aload_n 0, 1) := by decide +kernel
theorem dX4_goDay_33 : decode cX4_goDay 33 = .ok (.iload_n 1, 1) := by decide +kernel
theorem dX4_goDay_34 : decode cX4_goDay 34 = .ok (.iconst 0, 1) := by decide +kernel
theorem dX4_goDay_35 : decode cX4_goDay 35 = .ok (.iload_n 2, 1) := by decide +kernel
theorem dX4_goDay_36 : decode cX4_goDay 36 = .ok (.bipush 99, 2) := by decide +kernel
theorem dX4_goDay_38 : decode cX4_goDay 38 = .ok (.if_icmp .le 8, 3) := by decide +kernel
theorem dX4_goDay_41 : decode cX4_goDay 41 = .ok (.bipush 99, 2) := by decide +kernel
theorem dX4_goDay_43 : decode cX4_goDay 43 = .ok (.goto 4, 3) := by decide +kernel
theorem dX4_goDay_46 : decode cX4_goDay 46 = .ok (.iload_n 2, 1) := by decide +kernel
theorem dX4_goDay_47 : decode cX4_goDay 47 = .ok (.invokevirtual 34, 3) := by decide +kernel
theorem dX4_goDay_50 : decode cX4_goDay 50 = .ok (.iinc 1 1, 3) := by decide +kernel
theorem dX4_goDay_53 : decode cX4_goDay 53 = .ok (.goto (-41), 3) := by decide +kernel
theorem dX4_goDay_56 : decode cX4_goDay 56 = .ok (.return_, 1) := by decide +kernel
theorem dX4_height_0 : decode cX4_height 0 = .ok (.iload_n 1, 1) := by decide +kernel
theorem dX4_height_1 : decode cX4_height 1 = .ok (.invokestatic 87, 3) := by decide +kernel
theorem dX4_height_4 : decode cX4_height 4 = .ok (.ifCond .eq 13, 3) := by decide +kernel
theorem dX4_height_7 : decode cX4_height 7 = .ok (.iload_n 2, 1) := by decide +kernel
theorem dX4_height_8 : decode cX4_height 8 = .ok (.iconst 0, 1) := by decide +kernel
theorem dX4_height_9 : decode cX4_height 9 = .ok (.bipush 99, 2) := by decide +kernel
theorem dX4_height_11 : decode cX4_height 11 = .ok (.invokestatic 46, 3) := by decide +kernel
theorem dX4_height_14 : decode cX4_height 14 = .ok (.ifCond .ne 5, 3) := by decide +kernel
theorem dX4_height_17 : decode cX4_height 17 = .ok (.iconst (-1), 1) := by decide +kernel
theorem dX4_height_18 : decode cX4_height 18 = .ok (.ireturn, 1) := by decide +kernel
theorem dX4_height_19 : decode cX4_height 19 = .ok (.aload_n 0, 1) := by decide +kernel
theorem dX4_height_20 : decode cX4_height 20 = .ok (.invokevirtual 113, 3) := by decide +kernel
theorem dX4_height_23 : decode cX4_height 23 = .ok (.aload_n 0, 1) := by decide +kernel
theorem dX4_height_24 : decode cX4_height 24 = .ok (.iload_n 1, 1) := by decide +kernel
theorem dX4_height_25 : decode cX4_height 25 = .ok (.iconst 0, 1) := by decide +kernel
theorem dX4_height_26 : decode cX4_height 26 = .ok (.invokevirtual 50, 3) := by decide +kernel
theorem dX4_height_29 : decode cX4_height 29 = .ok (.istore_n 3, 1) := by decide +kernel
theorem dX4_height_30 : decode cX4_height 30 = .ok (.aload_n 0, 1) := by decide +kernel
theorem dX4_height_31 : decode cX4_height 31 = .ok (.iload_n 1, 1) := by decide +kernel
theorem dX4_height_32 : decode cX4_height 32 = .ok (.iconst 0, 1) := by decide +kernel
theorem dX4_height_33 : decode cX4_height 33 = .ok (.iload_n 2, 1) := by decide +kernel
theorem dX4_height_34 : decode cX4_height 34 = .ok (.invokevirtual 34, 3) := by decide +kernel
theorem dX4_height_37 : decode cX4_height 37 = .ok (.iload_n 3, 1) := by decide +kernel
theorem dX4_height_38 : decode cX4_height 38 = .ok (.ireturn, 1) := by decide +kernel
theorem dX4_growth_0 : decode cX4_growth 0 = .ok (.iload_n 1, 1) := by decide +kernel
theorem dX4_growth_1 : decode cX4_growth 1 = .ok (.invokestatic 87, 3) := by decide +kernel
theorem dX4_growth_4 : decode cX4_growth 4 = .ok (.ifCond .eq 12, 3) := by decide +kernel
theorem dX4_growth_7 : decode cX4_growth 7 = .ok (.iload_n 2, 1) := by decide +kernel
theorem dX4_growth_8 : decode cX4_growth 8 = .ok (.iconst 0, 1) := by decide +kernel
theorem dX4_growth_9 : decode cX4_growth 9 = .ok (.iconst 5, 1) := by decide +kernel
theorem dX4_growth_10 : decode cX4_growth 10 = .ok (.invokestatic 46, 3) := by decide +kernel
theorem dX4_growth_13 : decode cX4_growth 13 = .ok (.ifCond .ne 5, 3) := by decide +kernel
theorem dX4_growth_16 : decode cX4_growth 16 = .ok (.iconst (-1), 1) := by decide +kernel
theorem dX4_growth_17 : decode cX4_growth 17 = .ok (.ireturn, 1) := by decide +kernel
theorem dX4_growth_18 : decode cX4_growth 18 = .ok (.aload_n 0, 1) := by decide +kernel
theorem dX4_growth_19 : decode cX4_growth 19 = .ok (.invokevirtual 113, 3) := by decide +kernel
theorem dX4_growth_22 : decode cX4_growth 22 = .ok (.aload_n 0, 1) := by decide +kernel
theorem dX4_growth_23 : decode cX4_growth 23 = .ok (.iload_n 1, 1) := by decide +kernel
theorem dX4_growth_24 : decode cX4_growth 24 = .ok (.iconst 1, 1) := by decide +kernel
theorem dX4_growth_25 : decode cX4_growth 25 = .ok (.invokevirtual 50, 3) := by decide +kernel
theorem dX4_growth_28 : decode cX4_growth 28 = .ok (.istore_n 3, 1) := by decide +kernel
theorem dX4_growth_29 : decode cX4_growth 29 = .ok (.aload_n 0, 1) := by decide +kernel
theorem dX4_growth_30 : decode cX4_growth 30 = .ok (.iload_n 1, 1) := by decide +kernel
theorem dX4_growth_31 : decode cX4_growth 31 = .ok (.iconst 1, 1) := by decide +kernel
theorem dX4_growth_32 : decode cX4_growth 32 = .ok (.iload_n 2, 1) := by decide +kernel
theorem dX4_growth_33 : decode cX4_growth 33 = .ok (.invokevirtual 34, 3) := by decide +kernel
theorem dX4_growth_36 : decode cX4_growth 36 = .ok (.iload_n 3, 1) := by decide +kernel
theorem dX4_growth_37 : decode cX4_growth 37 = .ok (.ireturn, 1) := by decide +kernel
theorem dX4_nest_0 : decode cX4_nest 0 = .ok (.iload_n 1, 1) := by decide +kernel
theorem dX4_nest_1 : decode cX4_nest 1 = .ok (.invokestatic 87, 3) := by decide +kernel
theorem dX4_nest_4 : decode cX4_nest 4 = .ok (.ifCond .eq 13, 3) := by decide +kernel
theorem dX4_nest_7 : decode cX4_nest 7 = .ok (.iload_n 2, 1) := by decide +kernel
theorem dX4_nest_8 : decode cX4_nest 8 = .ok (.iconst 0, 1) := by decide +kernel
theorem dX4_nest_9 : decode cX4_nest 9 = .ok (.bipush 30, 2) := by decide +kernel
theorem dX4_nest_11 : decode cX4_nest 11 = .ok (.invokestatic 46, 3) := by decide +kernel
theorem dX4_nest_14 : decode cX4_nest 14 = .ok (.ifCond .ne 5, 3) := by decide +kernel
theorem dX4_nest_17 : decode cX4_nest 17 = .ok (.iconst (-1), 1) := by decide +kernel
theorem dX4_nest_18 : decode cX4_nest 18 = .ok (.ireturn, 1) := by decide +kernel
theorem dX4_nest_19 : decode cX4_nest 19 = .ok (.aload_n 0, 1) := by decide +kernel
theorem dX4_nest_20 : decode cX4_nest 20 = .ok (.invokevirtual 113, 3) := by decide +kernel
theorem dX4_nest_23 : decode cX4_nest 23 = .ok (.aload_n 0, 1) := by decide +kernel
theorem dX4_nest_24 : decode cX4_nest 24 = .ok (.iload_n 1, 1) := by decide +kernel
theorem dX4_nest_25 : decode cX4_nest 25 = .ok (.iconst 2, 1) := by decide +kernel
theorem dX4_nest_26 : decode cX4_nest 26 = .ok (.invokevirtual 50, 3) := by decide +kernel
theorem dX4_nest_29 : decode cX4_nest 29 = .ok (.istore_n 3, 1) := by decide +kernel
theorem dX4_nest_30 : decode cX4_nest 30 = .ok (.aload_n 0, 1) := by decide +kernel
theorem dX4_nest_31 : decode cX4_nest 31 = .ok (.iload_n 1, 1) := by decide +kernel
theorem dX4_nest_32 : decode cX4_nest 32 = .ok (.iconst 2, 1) := by decide +kernel
theorem dX4_nest_33 : decode cX4_nest 33 = .ok (.aload_n 0, 1) := by decide +kernel
theorem dX4_nest_34 : decode cX4_nest 34 = .ok (.getfield 7, 3) := by decide +kernel
theorem dX4_nest_37 : decode cX4_nest 37 = .ok (.iconst 0, 1) := by decide +kernel
theorem dX4_nest_38 : decode cX4_nest 38 = .ok (.iaload, 1) := by decide +kernel
theorem dX4_nest_39 : decode cX4_nest 39 = .ok (.iload_n 2, 1) := by decide +kernel
theorem dX4_nest_40 : decode cX4_nest 40 = .ok (.iadd, 1) := by decide +kernel
theorem dX4_nest_41 : decode cX4_nest 41 = .ok (.invokevirtual 34, 3) := by decide +kernel
theorem dX4_nest_44 : decode cX4_nest 44 = .ok (.iload_n 3, 1) := by decide +kernel
theorem dX4_nest_45 : decode cX4_nest 45 = .ok (.ireturn, 1) := by decide +kernel
theorem dX4_clip_0 : decode cX4_clip 0 = .ok (.iload_n 1, 1) := by decide +kernel
theorem dX4_clip_1 : decode cX4_clip 1 = .ok (.invokestatic 87, 3) := by decide +kernel
theorem dX4_clip_4 : decode cX4_clip 4 = .ok (.ifCond .eq 13, 3) := by decide +kernel
theorem dX4_clip_7 : decode cX4_clip 7 = .ok (.iload_n 2, 1) := by decide +kernel
theorem dX4_clip_8 : decode cX4_clip 8 = .ok (.iconst 1, 1) := by decide +kernel
theorem dX4_clip_9 : decode cX4_clip 9 = .ok (.bipush 99, 2) := by decide +kernel
theorem dX4_clip_11 : decode cX4_clip 11 = .ok (.invokestatic 46, 3) := by decide +kernel
theorem dX4_clip_14 : decode cX4_clip 14 = .ok (.ifCond .ne 5, 3) := by decide +kernel
theorem dX4_clip_17 : decode cX4_clip 17 = .ok (.iconst (-1), 1) := by decide +kernel
theorem dX4_clip_18 : decode cX4_clip 18 = .ok (.ireturn, 1) := by decide +kernel
theorem dX4_clip_19 : decode cX4_clip 19 = .ok (.aload_n 0, 1) := by decide +kernel
theorem dX4_clip_20 : decode cX4_clip 20 = .ok (.invokevirtual 113, 3) := by decide +kernel
theorem dX4_clip_23 : decode cX4_clip 23 = .ok (.aload_n 0, 1) := by decide +kernel
theorem dX4_clip_24 : decode cX4_clip 24 = .ok (.iload_n 1, 1) := by decide +kernel
theorem dX4_clip_25 : decode cX4_clip 25 = .ok (.invokevirtual 106, 3) := by decide +kernel
theorem dX4_clip_28 : decode cX4_clip 28 = .ok (.ifCond .ne 13, 3) := by decide +kernel
theorem dX4_clip_31 : decode cX4_clip 31 = .ok (.iload_n 2, 1) := by decide +kernel
theorem dX4_clip_32 : decode cX4_clip 32 = .ok (.aload_n 0, 1) := by decide +kernel
theorem dX4_clip_33 : decode cX4_clip 33 = .ok (.iload_n 1, 1) := by decide +kernel
theorem dX4_clip_34 : decode cX4_clip 34 = .ok (.iconst 0, 1) := by decide +kernel
theorem dX4_clip_35 : decode cX4_clip 35 = .ok (.invokevirtual 50, 3) := by decide +kernel
theorem dX4_clip_38 : decode cX4_clip 38 = .ok (.if_icmp .le 21, 3) := by decide +kernel
theorem dX4_clip_41 : decode cX4_clip 41 = .ok (.aload_n 0, 1) := by decide +kernel
theorem dX4_clip_42 : decode cX4_clip 42 = .ok (.aload_n 0, 1) := by decide +kernel
theorem dX4_clip_43 : decode cX4_clip 43 = .ok (.iload_n 1, 1) := by decide +kernel
theorem dX4_clip_44 : decode cX4_clip 44 = .ok (.invokevirtual 106, 3) := by decide +kernel
theorem dX4_clip_47 : decode cX4_clip 47 = .ok (.ifCond .eq 7, 3) := by decide +kernel
theorem dX4_clip_50 : decode cX4_clip 50 = .ok (.iconst 3, 1) := by decide +kernel
theorem dX4_clip_51 : decode cX4_clip 51 = .ok (.goto 4, 3) := by decide +kernel
theorem dX4_clip_54 : decode cX4_clip 54 = .ok (.iconst 4, 1) := by decide +kernel
theorem dX4_clip_55 : decode cX4_clip 55 = .ok (.invokevirtual 97, 3) := by decide +kernel
theorem dX4_clip_58 : decode cX4_clip 58 = .ok (.ireturn, 1) := by decide +kernel
theorem dX4_clip_59 : decode cX4_clip 59 = .ok (.aload_n 0, 1) := by decide +kernel
theorem dX4_clip_60 : decode cX4_clip 60 = .ok (.iload_n 1, 1) := by decide +kernel
theorem dX4_clip_61 : decode cX4_clip 61 = .ok (.iload_n 2, 1) := by decide +kernel
theorem dX4_clip_62 : decode cX4_clip 62 = .ok (.invokevirtual 109, 3) := by decide +kernel
theorem dX4_clip_65 : decode cX4_clip 65 = .ok (.bipush 10, 2) := by decide +kernel
theorem dX4_clip_67 : decode cX4_clip 67 = .ok (.aload_n 0, 1) := by decide +kernel
theorem dX4_clip_68 : decode cX4_clip 68 = .ok (.iload_n 1, 1) := by decide +kernel
theorem dX4_clip_69 : decode cX4_clip 69 = .ok (.iconst 0, 1) := by decide +kernel
theorem dX4_clip_70 : decode cX4_clip 70 = .ok (.invokevirtual 50, 3) := by decide +kernel
theorem dX4_clip_73 : decode cX4_clip 73 = .ok (.iadd, 1) := by decide +kernel
theorem dX4_clip_74 : decode cX4_clip 74 = .ok (.ireturn, 1) := by decide +kernel
theorem dX4_plan_0 : decode cX4_plan 0 = .ok (.aload_n 0, 1) := by decide +kernel
theorem dX4_plan_1 : decode cX4_plan 1 = .ok (.invokevirtual 113, 3) := by decide +kernel
theorem dX4_plan_4 : decode cX4_plan 4 = .ok (.aload_n 0, 1) := by decide +kernel
theorem dX4_plan_5 : decode cX4_plan 5 = .ok (.invokevirtual 116, 3) := by decide +kernel
theorem dX4_plan_8 : decode cX4_plan 8 = .ok (.ireturn, 1) := by decide +kernel
theorem dX4_day_0 : decode cX4_day 0 = .ok (.aload_n 0, 1) := by decide +kernel
theorem dX4_day_1 : decode cX4_day 1 = .ok (.invokevirtual 113, 3) := by decide +kernel
theorem dX4_day_4 : decode cX4_day 4 = .ok (.aload_n 0, 1) := by decide +kernel
theorem dX4_day_5 : decode cX4_day 5 = .ok (.invokevirtual 120, 3) := by decide +kernel
theorem dX4_day_8 : decode cX4_day 8 = .ok (.aload_n 0, 1) := by decide +kernel
theorem dX4_day_9 : decode cX4_day 9 = .ok (.invokevirtual 123, 3) := by decide +kernel
theorem dX4_day_12 : decode cX4_day 12 = .ok (.ireturn, 1) := by decide +kernel
theorem dX4_sign_0 : decode cX4_sign 0 = .ok (.aload_n 0, 1) := by decide +kernel
theorem dX4_sign_1 : decode cX4_sign 1 = .ok (.iload_n 1, 1) := by decide +kernel
theorem dX4_sign_2 : decode cX4_sign 2 = .ok (.iload_n 2, 1) := by decide +kernel
theorem dX4_sign_3 : decode cX4_sign 3 = .ok (.iload_n 3, 1) := by decide +kernel
theorem dX4_sign_4 : decode cX4_sign 4 = .ok (.invokevirtual 126, 3) := by decide +kernel
theorem dX4_sign_7 : decode cX4_sign 7 = .ok (.istore 4, 2) := by decide +kernel
theorem dX4_sign_9 : decode cX4_sign 9 = .ok (.iload 4, 2) := by decide +kernel
theorem dX4_sign_11 : decode cX4_sign 11 = .ok (.ifCond .ge 6, 3) := by decide +kernel
theorem dX4_sign_14 : decode cX4_sign 14 = .ok (.iload 4, 2) := by decide +kernel
theorem dX4_sign_16 : decode cX4_sign 16 = .ok (.ireturn, 1) := by decide +kernel
theorem dX4_sign_17 : decode cX4_sign 17 = .ok (.aload_n 0, 1) := by decide +kernel
theorem dX4_sign_18 : decode cX4_sign 18 = .ok (.invokevirtual 113, 3) := by decide +kernel
theorem dX4_sign_21 : decode cX4_sign 21 = .ok (.aload_n 0, 1) := by decide +kernel
theorem dX4_sign_22 : decode cX4_sign 22 = .ok (.iload_n 1, 1) := by decide +kernel
theorem dX4_sign_23 : decode cX4_sign 23 = .ok (.iload_n 2, 1) := by decide +kernel
theorem dX4_sign_24 : decode cX4_sign 24 = .ok (.iload_n 3, 1) := by decide +kernel
theorem dX4_sign_25 : decode cX4_sign 25 = .ok (.invokevirtual 129, 3) := by decide +kernel
theorem dX4_sign_28 : decode cX4_sign 28 = .ok (.ireturn, 1) := by decide +kernel
theorem dX4_cancel_0 : decode cX4_cancel 0 = .ok (.aload_n 0, 1) := by decide +kernel
theorem dX4_cancel_1 : decode cX4_cancel 1 = .ok (.iload_n 1, 1) := by decide +kernel
theorem dX4_cancel_2 : decode cX4_cancel 2 = .ok (.invokevirtual 132, 3) := by decide +kernel
theorem dX4_cancel_5 : decode cX4_cancel 5 = .ok (.ifCond .ne 5, 3) := by decide +kernel
theorem dX4_cancel_8 : decode cX4_cancel 8 = .ok (.iconst (-1), 1) := by decide +kernel
theorem dX4_cancel_9 : decode cX4_cancel 9 = .ok (.ireturn, 1) := by decide +kernel
theorem dX4_cancel_10 : decode cX4_cancel 10 = .ok (.aload_n 0, 1) := by decide +kernel
theorem dX4_cancel_11 : decode cX4_cancel 11 = .ok (.invokevirtual 113, 3) := by decide +kernel
theorem dX4_cancel_14 : decode cX4_cancel 14 = .ok (.aload_n 0, 1) := by decide +kernel
theorem dX4_cancel_15 : decode cX4_cancel 15 = .ok (.getfield 7, 3) := by decide +kernel
theorem dX4_cancel_18 : decode cX4_cancel 18 = .ok (.iconst 2, 1) := by decide +kernel
theorem dX4_cancel_19 : decode cX4_cancel 19 = .ok (.dup2, 1) := by decide +kernel
theorem dX4_cancel_20 : decode cX4_cancel 20 = .ok (.iaload, 1) := by decide +kernel
theorem dX4_cancel_21 : decode cX4_cancel 21 = .ok (.iconst 1, 1) := by decide +kernel
theorem dX4_cancel_22 : decode cX4_cancel 22 = .ok (.isub, 1) := by decide +kernel
theorem dX4_cancel_23 : decode cX4_cancel 23 = .ok (.iastore, 1) := by decide +kernel
theorem dX4_cancel_24 : decode cX4_cancel 24 = .ok (.bipush 39, 2) := by decide +kernel
theorem dX4_cancel_26 : decode cX4_cancel 26 = .ok (.iconst 4, 1) := by decide +kernel
theorem dX4_cancel_27 : decode cX4_cancel 27 = .ok (.iload_n 1, 1) := by decide +kernel
theorem dX4_cancel_28 : decode cX4_cancel 28 = .ok (.imul, 1) := by decide +kernel
theorem dX4_cancel_29 : decode cX4_cancel 29 = .ok (.iadd, 1) := by decide +kernel
theorem dX4_cancel_30 : decode cX4_cancel 30 = .ok (.istore_n 2, 1) := by decide +kernel
theorem dX4_cancel_31 : decode cX4_cancel 31 = .ok (.iload_n 2, 1) := by decide +kernel
theorem dX4_cancel_32 : decode cX4_cancel 32 = .ok (.bipush 95, 2) := by decide +kernel
theorem dX4_cancel_34 : decode cX4_cancel 34 = .ok (.if_icmp .ge 35, 3) := by decide +kernel
theorem dX4_cancel_37 : decode cX4_cancel 37 = .ok (.aload_n 0, 1) := by decide +kernel
theorem dX4_cancel_38 : decode cX4_cancel 38 = .ok (.getfield 7, 3) := by decide +kernel
theorem dX4_cancel_41 : decode cX4_cancel 41 = .ok (.iload_n 2, 1) := by decide +kernel
theorem dX4_cancel_42 : decode cX4_cancel 42 = .ok (.iload_n 2, 1) := by decide +kernel
theorem dX4_cancel_43 : decode cX4_cancel 43 = .ok (.iconst 4, 1) := by decide +kernel
theorem dX4_cancel_44 : decode cX4_cancel 44 = .ok (.iadd, 1) := by decide +kernel
theorem dX4_cancel_45 : decode cX4_cancel 45 = .ok (.bipush 95, 2) := by decide +kernel
theorem dX4_cancel_47 : decode cX4_cancel 47 = .ok (.if_icmp .ge 14, 3) := by decide +kernel
theorem dX4_cancel_50 : decode cX4_cancel 50 = .ok (.aload_n 0, 1) := by decide +kernel
theorem dX4_cancel_51 : decode cX4_cancel 51 = .ok (.getfield 7, 3) := by decide +kernel
theorem dX4_cancel_54 : decode cX4_cancel 54 = .ok (.iload_n 2, 1) := by decide +kernel
theorem dX4_cancel_55 : decode cX4_cancel 55 = .ok (.iconst 4, 1) := by decide +kernel
theorem dX4_cancel_56 : decode cX4_cancel 56 = .ok (.iadd, 1) := by decide +kernel
theorem dX4_cancel_57 : decode cX4_cancel 57 = .ok (.iaload, 1) := by decide +kernel
theorem dX4_cancel_58 : decode cX4_cancel 58 = .ok (.goto 4, 3) := by decide +kernel
theorem dX4_cancel_61 : decode cX4_cancel 61 = .ok (.iconst 0, 1) := by decide +kernel
theorem dX4_cancel_62 : decode cX4_cancel 62 = .ok (.iastore, 1) := by decide +kernel
theorem dX4_cancel_63 : decode cX4_cancel 63 = .ok (.iinc 2 1, 3) := by decide +kernel
theorem dX4_cancel_66 : decode cX4_cancel 66 = .ok (.goto (-35), 3) := by decide +kernel
theorem dX4_cancel_69 : decode cX4_cancel 69 = .ok (.aload_n 0, 1) := by decide +kernel
theorem dX4_cancel_70 : decode cX4_cancel 70 = .ok (.getfield 7, 3) := by decide +kernel
theorem dX4_cancel_73 : decode cX4_cancel 73 = .ok (.iconst 2, 1) := by decide +kernel
theorem dX4_cancel_74 : decode cX4_cancel 74 = .ok (.iaload, 1) := by decide +kernel
theorem dX4_cancel_75 : decode cX4_cancel 75 = .ok (.ireturn, 1) := by decide +kernel
theorem dX4_freeze_0 : decode cX4_freeze 0 = .ok (.aload_n 0, 1) := by decide +kernel
theorem dX4_freeze_1 : decode cX4_freeze 1 = .ok (.iload_n 1, 1) := by decide +kernel
theorem dX4_freeze_2 : decode cX4_freeze 2 = .ok (.invokevirtual 132, 3) := by decide +kernel
theorem dX4_freeze_5 : decode cX4_freeze 5 = .ok (.ifCond .eq 13, 3) := by decide +kernel
theorem dX4_freeze_8 : decode cX4_freeze 8 = .ok (.iload_n 2, 1) := by decide +kernel
theorem dX4_freeze_9 : decode cX4_freeze 9 = .ok (.iconst 1, 1) := by decide +kernel
theorem dX4_freeze_10 : decode cX4_freeze 10 = .ok (.bipush 30, 2) := by decide +kernel
theorem dX4_freeze_12 : decode cX4_freeze 12 = .ok (.invokestatic 46, 3) := by decide +kernel
theorem dX4_freeze_15 : decode cX4_freeze 15 = .ok (.ifCond .ne 5, 3) := by decide +kernel
theorem dX4_freeze_18 : decode cX4_freeze 18 = .ok (.iconst (-1), 1) := by decide +kernel
theorem dX4_freeze_19 : decode cX4_freeze 19 = .ok (.ireturn, 1) := by decide +kernel
theorem dX4_freeze_20 : decode cX4_freeze 20 = .ok (.aload_n 0, 1) := by decide +kernel
theorem dX4_freeze_21 : decode cX4_freeze 21 = .ok (.invokevirtual 113, 3) := by decide +kernel
theorem dX4_freeze_24 : decode cX4_freeze 24 = .ok (.aload_n 0, 1) := by decide +kernel
theorem dX4_freeze_25 : decode cX4_freeze 25 = .ok (.getfield 7, 3) := by decide +kernel
theorem dX4_freeze_28 : decode cX4_freeze 28 = .ok (.iconst 1, 1) := by decide +kernel
theorem dX4_freeze_29 : decode cX4_freeze 29 = .ok (.dup2, 1) := by decide +kernel
theorem dX4_freeze_30 : decode cX4_freeze 30 = .ok (.iaload, 1) := by decide +kernel
theorem dX4_freeze_31 : decode cX4_freeze 31 = .ok (.aload_n 0, 1) := by decide +kernel
theorem dX4_freeze_32 : decode cX4_freeze 32 = .ok (.iload_n 1, 1) := by decide +kernel
theorem dX4_freeze_33 : decode cX4_freeze 33 = .ok (.invokevirtual 65, 3) := by decide +kernel
theorem dX4_freeze_36 : decode cX4_freeze 36 = .ok (.ifCond .eq 7, 3) := by decide +kernel
theorem dX4_freeze_39 : decode cX4_freeze 39 = .ok (.iconst 1, 1) := by decide +kernel
theorem dX4_freeze_40 : decode cX4_freeze 40 = .ok (.goto 4, 3) := by decide +kernel
theorem dX4_freeze_43 : decode cX4_freeze 43 = .ok (.iconst 0, 1) := by decide +kernel
theorem dX4_freeze_44 : decode cX4_freeze 44 = .ok (.iadd, 1) := by decide +kernel
theorem dX4_freeze_45 : decode cX4_freeze 45 = .ok (.iastore, 1) := by decide +kernel
theorem dX4_freeze_46 : decode cX4_freeze 46 = .ok (.aload_n 0, 1) := by decide +kernel
theorem dX4_freeze_47 : decode cX4_freeze 47 = .ok (.iload_n 1, 1) := by decide +kernel
theorem dX4_freeze_48 : decode cX4_freeze 48 = .ok (.iconst 3, 1) := by decide +kernel
theorem dX4_freeze_49 : decode cX4_freeze 49 = .ok (.aload_n 0, 1) := by decide +kernel
theorem dX4_freeze_50 : decode cX4_freeze 50 = .ok (.getfield 7, 3) := by decide +kernel
theorem dX4_freeze_53 : decode cX4_freeze 53 = .ok (.iconst 0, 1) := by decide +kernel
theorem dX4_freeze_54 : decode cX4_freeze 54 = .ok (.iaload, 1) := by decide +kernel
theorem dX4_freeze_55 : decode cX4_freeze 55 = .ok (.iload_n 2, 1) := by decide +kernel
theorem dX4_freeze_56 : decode cX4_freeze 56 = .ok (.iadd, 1) := by decide +kernel
theorem dX4_freeze_57 : decode cX4_freeze 57 = .ok (.invokevirtual 100, 3) := by decide +kernel
theorem dX4_freeze_60 : decode cX4_freeze 60 = .ok (.aload_n 0, 1) := by decide +kernel
theorem dX4_freeze_61 : decode cX4_freeze 61 = .ok (.getfield 7, 3) := by decide +kernel
theorem dX4_freeze_64 : decode cX4_freeze 64 = .ok (.iconst 1, 1) := by decide +kernel
theorem dX4_freeze_65 : decode cX4_freeze 65 = .ok (.iaload, 1) := by decide +kernel
theorem dX4_freeze_66 : decode cX4_freeze 66 = .ok (.ireturn, 1) := by decide +kernel
theorem dX4_thaw_0 : decode cX4_thaw 0 = .ok (.aload_n 0, 1) := by decide +kernel
theorem dX4_thaw_1 : decode cX4_thaw 1 = .ok (.iload_n 1, 1) := by decide +kernel
theorem dX4_thaw_2 : decode cX4_thaw 2 = .ok (.invokevirtual 132, 3) := by decide +kernel
theorem dX4_thaw_5 : decode cX4_thaw 5 = .ok (.ifCond .ne 5, 3) := by decide +kernel
theorem dX4_thaw_8 : decode cX4_thaw 8 = .ok (.iconst (-1), 1) := by decide +kernel
theorem dX4_thaw_9 : decode cX4_thaw 9 = .ok (.ireturn, 1) := by decide +kernel
theorem dX4_thaw_10 : decode cX4_thaw 10 = .ok (.aload_n 0, 1) := by decide +kernel
theorem dX4_thaw_11 : decode cX4_thaw 11 = .ok (.invokevirtual 113, 3) := by decide +kernel
theorem dX4_thaw_14 : decode cX4_thaw 14 = .ok (.aload_n 0, 1) := by decide +kernel
theorem dX4_thaw_15 : decode cX4_thaw 15 = .ok (.iload_n 1, 1) := by decide +kernel
theorem dX4_thaw_16 : decode cX4_thaw 16 = .ok (.iconst 3, 1) := by decide +kernel
theorem dX4_thaw_17 : decode cX4_thaw 17 = .ok (.invokevirtual 54, 3) := by decide +kernel
theorem dX4_thaw_20 : decode cX4_thaw 20 = .ok (.aload_n 0, 1) := by decide +kernel
theorem dX4_thaw_21 : decode cX4_thaw 21 = .ok (.getfield 7, 3) := by decide +kernel
theorem dX4_thaw_24 : decode cX4_thaw 24 = .ok (.iconst 0, 1) := by decide +kernel
theorem dX4_thaw_25 : decode cX4_thaw 25 = .ok (.iaload, 1) := by decide +kernel
theorem dX4_thaw_26 : decode cX4_thaw 26 = .ok (.isub, 1) := by decide +kernel
theorem dX4_thaw_27 : decode cX4_thaw 27 = .ok (.istore_n 2, 1) := by decide +kernel
theorem dX4_thaw_28 : decode cX4_thaw 28 = .ok (.iload_n 2, 1) := by decide +kernel
theorem dX4_thaw_29 : decode cX4_thaw 29 = .ok (.ifCond .le 13, 3) := by decide +kernel
theorem dX4_thaw_32 : decode cX4_thaw 32 = .ok (.iload_n 2, 1) := by decide +kernel
theorem dX4_thaw_33 : decode cX4_thaw 33 = .ok (.aload_n 0, 1) := by decide +kernel
theorem dX4_thaw_34 : decode cX4_thaw 34 = .ok (.getfield 7, 3) := by decide +kernel
theorem dX4_thaw_37 : decode cX4_thaw 37 = .ok (.iconst 1, 1) := by decide +kernel
theorem dX4_thaw_38 : decode cX4_thaw 38 = .ok (.iaload, 1) := by decide +kernel
theorem dX4_thaw_39 : decode cX4_thaw 39 = .ok (.if_icmp .le 18, 3) := by decide +kernel
theorem dX4_thaw_42 : decode cX4_thaw 42 = .ok (.aload_n 0, 1) := by decide +kernel
theorem dX4_thaw_43 : decode cX4_thaw 43 = .ok (.iload_n 2, 1) := by decide +kernel
theorem dX4_thaw_44 : decode cX4_thaw 44 = .ok (.ifCond .gt 7, 3) := by decide +kernel
theorem dX4_thaw_47 : decode cX4_thaw 47 = .ok (.iconst 5, 1) := by decide +kernel
theorem dX4_thaw_48 : decode cX4_thaw 48 = .ok (.goto 5, 3) := by decide +kernel
theorem dX4_thaw_51 : decode cX4_thaw 51 = .ok (.bipush 6, 2) := by decide +kernel
theorem dX4_thaw_53 : decode cX4_thaw 53 = .ok (.invokevirtual 97, 3) := by decide +kernel
theorem dX4_thaw_56 : decode cX4_thaw 56 = .ok (.ireturn, 1) := by decide +kernel
theorem dX4_thaw_57 : decode cX4_thaw 57 = .ok (.aload_n 0, 1) := by decide +kernel
theorem dX4_thaw_58 : decode cX4_thaw 58 = .ok (.iload_n 1, 1) := by decide +kernel
theorem dX4_thaw_59 : decode cX4_thaw 59 = .ok (.iconst 3, 1) := by decide +kernel
theorem dX4_thaw_60 : decode cX4_thaw 60 = .ok (.aload_n 0, 1) := by decide +kernel
theorem dX4_thaw_61 : decode cX4_thaw 61 = .ok (.getfield 7, 3) := by decide +kernel
theorem dX4_thaw_64 : decode cX4_thaw 64 = .ok (.iconst 0, 1) := by decide +kernel
theorem dX4_thaw_65 : decode cX4_thaw 65 = .ok (.iaload, 1) := by decide +kernel
theorem dX4_thaw_66 : decode cX4_thaw 66 = .ok (.invokevirtual 100, 3) := by decide +kernel
theorem dX4_thaw_69 : decode cX4_thaw 69 = .ok (.aload_n 0, 1) := by decide +kernel
theorem dX4_thaw_70 : decode cX4_thaw 70 = .ok (.getfield 7, 3) := by decide +kernel
theorem dX4_thaw_73 : decode cX4_thaw 73 = .ok (.iconst 1, 1) := by decide +kernel
theorem dX4_thaw_74 : decode cX4_thaw 74 = .ok (.dup2, 1) := by decide +kernel
theorem dX4_thaw_75 : decode cX4_thaw 75 = .ok (.iaload, 1) := by decide +kernel
theorem dX4_thaw_76 : decode cX4_thaw 76 = .ok (.iload_n 2, 1) := by decide +kernel
theorem dX4_thaw_77 : decode cX4_thaw 77 = .ok (.isub, 1) := by decide +kernel
theorem dX4_thaw_78 : decode cX4_thaw 78 = .ok (.iastore, 1) := by decide +kernel
theorem dX4_thaw_79 : decode cX4_thaw 79 = .ok (.bipush 10, 2) := by decide +kernel
theorem dX4_thaw_81 : decode cX4_thaw 81 = .ok (.aload_n 0, 1) := by decide +kernel
theorem dX4_thaw_82 : decode cX4_thaw 82 = .ok (.getfield 7, 3) := by decide +kernel
theorem dX4_thaw_85 : decode cX4_thaw 85 = .ok (.iconst 1, 1) := by decide +kernel
theorem dX4_thaw_86 : decode cX4_thaw 86 = .ok (.iaload, 1) := by decide +kernel
theorem dX4_thaw_87 : decode cX4_thaw 87 = .ok (.iadd, 1) := by decide +kernel
theorem dX4_thaw_88 : decode cX4_thaw 88 = .ok (.ireturn, 1) := by decide +kernel
theorem dX4_append_0 : decode cX4_append 0 = .ok (.iload_n 1, 1) := by decide +kernel
theorem dX4_append_1 : decode cX4_append 1 = .ok (.bipush 33, 2) := by decide +kernel
theorem dX4_append_3 : decode cX4_append 3 = .ok (.bipush 126, 2) := by decide +kernel
theorem dX4_append_5 : decode cX4_append 5 = .ok (.invokestatic 46, 3) := by decide +kernel
theorem dX4_append_8 : decode cX4_append 8 = .ok (.ifCond .ne 5, 3) := by decide +kernel
theorem dX4_append_11 : decode cX4_append 11 = .ok (.iconst (-1), 1) := by decide +kernel
theorem dX4_append_12 : decode cX4_append 12 = .ok (.ireturn, 1) := by decide +kernel
theorem dX4_append_13 : decode cX4_append 13 = .ok (.aload_n 0, 1) := by decide +kernel
theorem dX4_append_14 : decode cX4_append 14 = .ok (.getfield 135, 3) := by decide +kernel
theorem dX4_append_17 : decode cX4_append 17 = .ok (.bipush 60, 2) := by decide +kernel
theorem dX4_append_19 : decode cX4_append 19 = .ok (.if_icmp .ne 6, 3) := by decide +kernel
theorem dX4_append_22 : decode cX4_append 22 = .ok (.bipush (-3), 2) := by decide +kernel
theorem dX4_append_24 : decode cX4_append 24 = .ok (.ireturn, 1) := by decide +kernel
theorem dX4_append_25 : decode cX4_append 25 = .ok (.aload_n 0, 1) := by decide +kernel
theorem dX4_append_26 : decode cX4_append 26 = .ok (.getfield 22, 3) := by decide +kernel
theorem dX4_append_29 : decode cX4_append 29 = .ok (.aload_n 0, 1) := by decide +kernel
theorem dX4_append_30 : decode cX4_append 30 = .ok (.getfield 135, 3) := by decide +kernel
theorem dX4_append_33 : decode cX4_append 33 = .ok (.iload_n 1, 1) := by decide +kernel
theorem dX4_append_34 : decode cX4_append 34 = .ok (.iastore, 1) := by decide +kernel
theorem dX4_append_35 : decode cX4_append 35 = .ok (.aload_n 0, 1) := by decide +kernel
theorem dX4_append_36 : decode cX4_append 36 = .ok (.dup, 1) := by decide +kernel
theorem dX4_append_37 : decode cX4_append 37 = .ok (.getfield 135, 3) := by decide +kernel
theorem dX4_append_40 : decode cX4_append 40 = .ok (.iconst 1, 1) := by decide +kernel
theorem dX4_append_41 : decode cX4_append 41 = .ok (.iadd, 1) := by decide +kernel
theorem dX4_append_42 : decode cX4_append 42 = .ok (.putfield 135, 3) := by decide +kernel
theorem dX4_append_45 : decode cX4_append 45 = .ok (.aload_n 0, 1) := by decide +kernel
theorem dX4_append_46 : decode cX4_append 46 = .ok (.getfield 135, 3) := by decide +kernel
theorem dX4_append_49 : decode cX4_append 49 = .ok (.ireturn, 1) := by decide +kernel
theorem dX4_clear_0 : decode cX4_clear 0 = .ok (.aload_n 0, 1) := by decide +kernel
theorem dX4_clear_1 : decode cX4_clear 1 = .ok (.getfield 135, 3) := by decide +kernel
theorem dX4_clear_4 : decode cX4_clear 4 = .ok (.istore_n 1, 1) := by decide +kernel
theorem dX4_clear_5 : decode cX4_clear 5 = .ok (.aload_n 0, 1) := by decide +kernel
theorem dX4_clear_6 : decode cX4_clear 6 = .ok (.iconst 0, 1) := by decide +kernel
theorem dX4_clear_7 : decode cX4_clear 7 = .ok (.putfield 135, 3) := by decide +kernel
theorem dX4_clear_10 : decode cX4_clear 10 = .ok (.iload_n 1, 1) := by decide +kernel
theorem dX4_clear_11 : decode cX4_clear 11 = .ok (.ireturn, 1) := by decide +kernel
theorem dX4_here_0 : decode cX4_here 0 = .ok (.aload_n 0, 1) := by decide +kernel
theorem dX4_here_1 : decode cX4_here 1 = .ok (.getfield 138, 3) := by decide +kernel
theorem dX4_here_4 : decode cX4_here 4 = .ok (.aload_n 0, 1) := by decide +kernel
theorem dX4_here_5 : decode cX4_here 5 = .ok (.getfield 135, 3) := by decide +kernel
theorem dX4_here_8 : decode cX4_here 8 = .ok (.if_icmp .ge 15, 3) := by decide +kernel
theorem dX4_here_11 : decode cX4_here 11 = .ok (.aload_n 0, 1) := by decide +kernel
theorem dX4_here_12 : decode cX4_here 12 = .ok (.getfield 22, 3) := by decide +kernel
theorem dX4_here_15 : decode cX4_here 15 = .ok (.aload_n 0, 1) := by decide +kernel
theorem dX4_here_16 : decode cX4_here 16 = .ok (.getfield 138, 3) := by decide +kernel
theorem dX4_here_19 : decode cX4_here 19 = .ok (.iaload, 1) := by decide +kernel
theorem dX4_here_20 : decode cX4_here 20 = .ok (.goto 4, 3) := by decide +kernel
theorem dX4_here_23 : decode cX4_here 23 = .ok (.iconst 0, 1) := by decide +kernel
theorem dX4_here_24 : decode cX4_here 24 = .ok (.ireturn, 1) := by decide +kernel
theorem dX4_takes_0 : decode cX4_takes 0 = .ok (.aload_n 0, 1) := by decide +kernel
theorem dX4_takes_1 : decode cX4_takes 1 = .ok (.aload_n 0, 1) := by decide +kernel
theorem dX4_takes_2 : decode cX4_takes 2 = .ok (.getfield 141, 3) := by decide +kernel
theorem dX4_takes_5 : decode cX4_takes 5 = .ok (.ifCond .eq 11, 3) := by decide +kernel
theorem dX4_takes_8 : decode cX4_takes 8 = .ok (.iload_n 1, 1) := by decide +kernel
theorem dX4_takes_9 : decode cX4_takes 9 = .ok (.ifCond .eq 7, 3) := by decide +kernel
theorem dX4_takes_12 : decode cX4_takes 12 = .ok (.iconst 1, 1) := by decide +kernel
theorem dX4_takes_13 : decode cX4_takes 13 = .ok (.goto 4, 3) := by decide +kernel
theorem dX4_takes_16 : decode cX4_takes 16 = .ok (.iconst 0, 1) := by decide +kernel
theorem dX4_takes_17 : decode cX4_takes 17 = .ok (.putfield 141, 3) := by decide +kernel
theorem dX4_takes_20 : decode cX4_takes 20 = .ok (.aload_n 0, 1) := by decide +kernel
theorem dX4_takes_21 : decode cX4_takes 21 = .ok (.dup, 1) := by decide +kernel
theorem dX4_takes_22 : decode cX4_takes 22 = .ok (.getfield 138, 3) := by decide +kernel
theorem dX4_takes_25 : decode cX4_takes 25 = .ok (.aload_n 0, 1) := by decide +kernel
theorem dX4_takes_26 : decode cX4_takes 26 = .ok (.getfield 141, 3) := by decide +kernel
theorem dX4_takes_29 : decode cX4_takes 29 = .ok (.ifCond .eq 7, 3) := by decide +kernel
theorem dX4_takes_32 : decode cX4_takes 32 = .ok (.iconst 1, 1) := by decide +kernel
theorem dX4_takes_33 : decode cX4_takes 33 = .ok (.goto 4, 3) := by decide +kernel
theorem dX4_takes_36 : decode cX4_takes 36 = .ok (.iconst 0, 1) := by decide +kernel
theorem dX4_takes_37 : decode cX4_takes 37 = .ok (.iadd, 1) := by decide +kernel
theorem dX4_takes_38 : decode cX4_takes 38 = .ok (.putfield 138, 3) := by decide +kernel
theorem dX4_takes_41 : decode cX4_takes 41 = .ok (.return_, 1) := by decide +kernel
theorem dX4_takesDigit_0 : decode cX4_takesDigit 0 = .ok (.aload_n 0, 1) := by decide +kernel
theorem dX4_takesDigit_1 : decode cX4_takesDigit 1 = .ok (.invokevirtual 145, 3) := by decide +kernel
theorem dX4_takesDigit_4 : decode cX4_takesDigit 4 = .ok (.bipush 48, 2) := by decide +kernel
theorem dX4_takesDigit_6 : decode cX4_takesDigit 6 = .ok (.isub, 1) := by decide +kernel
theorem dX4_takesDigit_7 : decode cX4_takesDigit 7 = .ok (.istore_n 3, 1) := by decide +kernel
theorem dX4_takesDigit_8 : decode cX4_takesDigit 8 = .ok (.aload_n 0, 1) := by decide +kernel
theorem dX4_takesDigit_9 : decode cX4_takesDigit 9 = .ok (.iload_n 3, 1) := by decide +kernel
theorem dX4_takesDigit_10 : decode cX4_takesDigit 10 = .ok (.iload_n 1, 1) := by decide +kernel
theorem dX4_takesDigit_11 : decode cX4_takesDigit 11 = .ok (.iload_n 2, 1) := by decide +kernel
theorem dX4_takesDigit_12 : decode cX4_takesDigit 12 = .ok (.invokestatic 46, 3) := by decide +kernel
theorem dX4_takesDigit_15 : decode cX4_takesDigit 15 = .ok (.invokevirtual 148, 3) := by decide +kernel
theorem dX4_takesDigit_18 : decode cX4_takesDigit 18 = .ok (.iload_n 3, 1) := by decide +kernel
theorem dX4_takesDigit_19 : decode cX4_takesDigit 19 = .ok (.ireturn, 1) := by decide +kernel
theorem dX4_takesNumber_0 : decode cX4_takesNumber 0 = .ok (.aload_n 0, 1) := by decide +kernel
theorem dX4_takesNumber_1 : decode cX4_takesNumber 1 = .ok (.iconst 1, 1) := by decide +kernel
theorem dX4_takesNumber_2 : decode cX4_takesNumber 2 = .ok (.bipush 9, 2) := by decide +kernel
theorem dX4_takesNumber_4 : decode cX4_takesNumber 4 = .ok (.invokevirtual 152, 3) := by decide +kernel
theorem dX4_takesNumber_7 : decode cX4_takesNumber 7 = .ok (.istore_n 2, 1) := by decide +kernel
theorem dX4_takesNumber_8 : decode cX4_takesNumber 8 = .ok (.bipush 10, 2) := by decide +kernel
theorem dX4_takesNumber_10 : decode cX4_takesNumber 10 = .ok (.iload_n 2, 1) := by decide +kernel
theorem dX4_takesNumber_11 : decode cX4_takesNumber 11 = .ok (.imul, 1) := by decide +kernel
theorem dX4_takesNumber_12 : decode cX4_takesNumber 12 = .ok (.aload_n 0, 1) := by decide +kernel
theorem dX4_takesNumber_13 : decode cX4_takesNumber 13 = .ok (.invokevirtual 145, 3) := by decide +kernel
theorem dX4_takesNumber_16 : decode cX4_takesNumber 16 = .ok (.iadd, 1) := by decide +kernel
theorem dX4_takesNumber_17 : decode cX4_takesNumber 17 = .ok (.bipush 48, 2) := by decide +kernel
theorem dX4_takesNumber_19 : decode cX4_takesNumber 19 = .ok (.isub, 1) := by decide +kernel
theorem dX4_takesNumber_20 : decode cX4_takesNumber 20 = .ok (.istore_n 3, 1) := by decide +kernel
theorem dX4_takesNumber_21 : decode cX4_takesNumber 21 = .ok (.aload_n 0, 1) := by decide +kernel
theorem dX4_takesNumber_22 : decode cX4_takesNumber 22 = .ok (.getfield 141, 3) := by decide +kernel
theorem dX4_takesNumber_25 : decode cX4_takesNumber 25 = .ok (.ifCond .eq 26, 3) := by decide +kernel
theorem dX4_takesNumber_28 : decode cX4_takesNumber 28 = .ok (.aload_n 0, 1) := by decide +kernel
theorem dX4_takesNumber_29 : decode cX4_takesNumber 29 = .ok (.invokevirtual 145, 3) := by decide +kernel
theorem dX4_takesNumber_32 : decode cX4_takesNumber 32 = .ok (.bipush 48, 2) := by decide +kernel
theorem dX4_takesNumber_34 : decode cX4_takesNumber 34 = .ok (.bipush 57, 2) := by decide +kernel
theorem dX4_takesNumber_36 : decode cX4_takesNumber 36 = .ok (.invokestatic 46, 3) := by decide +kernel
theorem dX4_takesNumber_39 : decode cX4_takesNumber 39 = .ok (.ifCond .eq 12, 3) := by decide +kernel
theorem dX4_takesNumber_42 : decode cX4_takesNumber 42 = .ok (.iload_n 3, 1) := by decide +kernel
theorem dX4_takesNumber_43 : decode cX4_takesNumber 43 = .ok (.iload_n 1, 1) := by decide +kernel
theorem dX4_takesNumber_44 : decode cX4_takesNumber 44 = .ok (.if_icmp .gt 7, 3) := by decide +kernel
theorem dX4_takesNumber_47 : decode cX4_takesNumber 47 = .ok (.iconst 1, 1) := by decide +kernel
theorem dX4_takesNumber_48 : decode cX4_takesNumber 48 = .ok (.goto 4, 3) := by decide +kernel
theorem dX4_takesNumber_51 : decode cX4_takesNumber 51 = .ok (.iconst 0, 1) := by decide +kernel
theorem dX4_takesNumber_52 : decode cX4_takesNumber 52 = .ok (.istore 4, 2) := by decide +kernel
theorem dX4_takesNumber_54 : decode cX4_takesNumber 54 = .ok (.aload_n 0, 1) := by decide +kernel
theorem dX4_takesNumber_55 : decode cX4_takesNumber 55 = .ok (.dup, 1) := by decide +kernel
theorem dX4_takesNumber_56 : decode cX4_takesNumber 56 = .ok (.getfield 138, 3) := by decide +kernel
theorem dX4_takesNumber_59 : decode cX4_takesNumber 59 = .ok (.iload 4, 2) := by decide +kernel
theorem dX4_takesNumber_61 : decode cX4_takesNumber 61 = .ok (.ifCond .eq 7, 3) := by decide +kernel
theorem dX4_takesNumber_64 : decode cX4_takesNumber 64 = .ok (.iconst 1, 1) := by decide +kernel
theorem dX4_takesNumber_65 : decode cX4_takesNumber 65 = .ok (.goto 4, 3) := by decide +kernel
theorem dX4_takesNumber_68 : decode cX4_takesNumber 68 = .ok (.iconst 0, 1) := by decide +kernel
theorem dX4_takesNumber_69 : decode cX4_takesNumber 69 = .ok (.iadd, 1) := by decide +kernel
theorem dX4_takesNumber_70 : decode cX4_takesNumber 70 = .ok (.putfield 138, 3) := by decide +kernel
theorem dX4_takesNumber_73 : decode cX4_takesNumber 73 = .ok (.iload 4, 2) := by decide +kernel
theorem dX4_takesNumber_75 : decode cX4_takesNumber 75 = .ok (.ifCond .eq 7, 3) := by decide +kernel
theorem dX4_takesNumber_78 : decode cX4_takesNumber 78 = .ok (.iload_n 3, 1) := by decide +kernel
theorem dX4_takesNumber_79 : decode cX4_takesNumber 79 = .ok (.goto 4, 3) := by decide +kernel
theorem dX4_takesNumber_82 : decode cX4_takesNumber 82 = .ok (.iload_n 2, 1) := by decide +kernel
theorem dX4_takesNumber_83 : decode cX4_takesNumber 83 = .ok (.ireturn, 1) := by decide +kernel
theorem dX4_takesPart_0 : decode cX4_takesPart 0 = .ok (.aload_n 0, 1) := by decide +kernel
theorem dX4_takesPart_1 : decode cX4_takesPart 1 = .ok (.aload_n 0, 1) := by decide +kernel
theorem dX4_takesPart_2 : decode cX4_takesPart 2 = .ok (.iconst 0, 1) := by decide +kernel
theorem dX4_takesPart_3 : decode cX4_takesPart 3 = .ok (.bipush 7, 2) := by decide +kernel
theorem dX4_takesPart_5 : decode cX4_takesPart 5 = .ok (.invokevirtual 152, 3) := by decide +kernel
theorem dX4_takesPart_8 : decode cX4_takesPart 8 = .ok (.putfield 155, 3) := by decide +kernel
theorem dX4_takesPart_11 : decode cX4_takesPart 11 = .ok (.aload_n 0, 1) := by decide +kernel
theorem dX4_takesPart_12 : decode cX4_takesPart 12 = .ok (.aload_n 0, 1) := by decide +kernel
theorem dX4_takesPart_13 : decode cX4_takesPart 13 = .ok (.invokevirtual 145, 3) := by decide +kernel
theorem dX4_takesPart_16 : decode cX4_takesPart 16 = .ok (.bipush 60, 2) := by decide +kernel
theorem dX4_takesPart_18 : decode cX4_takesPart 18 = .ok (.if_icmp .ne 7, 3) := by decide +kernel
theorem dX4_takesPart_21 : decode cX4_takesPart 21 = .ok (.iconst 1, 1) := by decide +kernel
theorem dX4_takesPart_22 : decode cX4_takesPart 22 = .ok (.goto 4, 3) := by decide +kernel
theorem dX4_takesPart_25 : decode cX4_takesPart 25 = .ok (.iconst 0, 1) := by decide +kernel
theorem dX4_takesPart_26 : decode cX4_takesPart 26 = .ok (.invokevirtual 148, 3) := by decide +kernel
theorem dX4_takesPart_29 : decode cX4_takesPart 29 = .ok (.aload_n 0, 1) := by decide +kernel
theorem dX4_takesPart_30 : decode cX4_takesPart 30 = .ok (.aload_n 0, 1) := by decide +kernel
theorem dX4_takesPart_31 : decode cX4_takesPart 31 = .ok (.iconst 0, 1) := by decide +kernel
theorem dX4_takesPart_32 : decode cX4_takesPart 32 = .ok (.bipush 7, 2) := by decide +kernel
theorem dX4_takesPart_34 : decode cX4_takesPart 34 = .ok (.invokevirtual 152, 3) := by decide +kernel
theorem dX4_takesPart_37 : decode cX4_takesPart 37 = .ok (.putfield 158, 3) := by decide +kernel
theorem dX4_takesPart_40 : decode cX4_takesPart 40 = .ok (.aload_n 0, 1) := by decide +kernel
theorem dX4_takesPart_41 : decode cX4_takesPart 41 = .ok (.iconst 0, 1) := by decide +kernel
theorem dX4_takesPart_42 : decode cX4_takesPart 42 = .ok (.putfield 161, 3) := by decide +kernel
theorem dX4_takesPart_45 : decode cX4_takesPart 45 = .ok (.aload_n 0, 1) := by decide +kernel
theorem dX4_takesPart_46 : decode cX4_takesPart 46 = .ok (.invokevirtual 145, 3) := by decide +kernel
theorem dX4_takesPart_49 : decode cX4_takesPart 49 = .ok (.bipush 43, 2) := by decide +kernel
theorem dX4_takesPart_51 : decode cX4_takesPart 51 = .ok (.if_icmp .ne 7, 3) := by decide +kernel
theorem dX4_takesPart_54 : decode cX4_takesPart 54 = .ok (.iconst 1, 1) := by decide +kernel
theorem dX4_takesPart_55 : decode cX4_takesPart 55 = .ok (.goto 4, 3) := by decide +kernel
theorem dX4_takesPart_58 : decode cX4_takesPart 58 = .ok (.iconst 0, 1) := by decide +kernel
theorem dX4_takesPart_59 : decode cX4_takesPart 59 = .ok (.istore_n 1, 1) := by decide +kernel
theorem dX4_takesPart_60 : decode cX4_takesPart 60 = .ok (.aload_n 0, 1) := by decide +kernel
theorem dX4_takesPart_61 : decode cX4_takesPart 61 = .ok (.getfield 141, 3) := by decide +kernel
theorem dX4_takesPart_64 : decode cX4_takesPart 64 = .ok (.ifCond .eq 50, 3) := by decide +kernel
theorem dX4_takesPart_67 : decode cX4_takesPart 67 = .ok (.iload_n 1, 1) := by decide +kernel
theorem dX4_takesPart_68 : decode cX4_takesPart 68 = .ok (.ifCond .ne 12, 3) := by decide +kernel
theorem dX4_takesPart_71 : decode cX4_takesPart 71 = .ok (.aload_n 0, 1) := by decide +kernel
theorem dX4_takesPart_72 : decode cX4_takesPart 72 = .ok (.invokevirtual 145, 3) := by decide +kernel
theorem dX4_takesPart_75 : decode cX4_takesPart 75 = .ok (.bipush 45, 2) := by decide +kernel
theorem dX4_takesPart_77 : decode cX4_takesPart 77 = .ok (.if_icmp .ne 37, 3) := by decide +kernel
theorem dX4_takesPart_80 : decode cX4_takesPart 80 = .ok (.aload_n 0, 1) := by decide +kernel
theorem dX4_takesPart_81 : decode cX4_takesPart 81 = .ok (.dup, 1) := by decide +kernel
theorem dX4_takesPart_82 : decode cX4_takesPart 82 = .ok (.getfield 138, 3) := by decide +kernel
theorem dX4_takesPart_85 : decode cX4_takesPart 85 = .ok (.iconst 1, 1) := by decide +kernel
theorem dX4_takesPart_86 : decode cX4_takesPart 86 = .ok (.iadd, 1) := by decide +kernel
theorem dX4_takesPart_87 : decode cX4_takesPart 87 = .ok (.putfield 138, 3) := by decide +kernel
theorem dX4_takesPart_90 : decode cX4_takesPart 90 = .ok (.aload_n 0, 1) := by decide +kernel
theorem dX4_takesPart_91 : decode cX4_takesPart 91 = .ok (.iload_n 1, 1) := by decide +kernel
theorem dX4_takesPart_92 : decode cX4_takesPart 92 = .ok (.ifCond .eq 12, 3) := by decide +kernel
theorem dX4_takesPart_95 : decode cX4_takesPart 95 = .ok (.aload_n 0, 1) := by decide +kernel
theorem dX4_takesPart_96 : decode cX4_takesPart 96 = .ok (.bipush 60, 2) := by decide +kernel
theorem dX4_takesPart_98 : decode cX4_takesPart 98 = .ok (.invokevirtual 164, 3) := by decide +kernel
theorem dX4_takesPart_101 : decode cX4_takesPart 101 = .ok (.goto 10, 3) := by decide +kernel
theorem dX4_takesPart_104 : decode cX4_takesPart 104 = .ok (.aload_n 0, 1) := by decide +kernel
theorem dX4_takesPart_105 : decode cX4_takesPart 105 = .ok (.bipush 30, 2) := by decide +kernel
theorem dX4_takesPart_107 : decode cX4_takesPart 107 = .ok (.invokevirtual 164, 3) := by decide +kernel
theorem dX4_takesPart_110 : decode cX4_takesPart 110 = .ok (.ineg, 1) := by decide +kernel
theorem dX4_takesPart_111 : decode cX4_takesPart 111 = .ok (.putfield 161, 3) := by decide +kernel
theorem dX4_takesPart_114 : decode cX4_takesPart 114 = .ok (.return_, 1) := by decide +kernel
theorem dX4_isText_0 : decode cX4_isText 0 = .ok (.aload_n 0, 1) := by decide +kernel
theorem dX4_isText_1 : decode cX4_isText 1 = .ok (.iconst 0, 1) := by decide +kernel
theorem dX4_isText_2 : decode cX4_isText 2 = .ok (.putfield 138, 3) := by decide +kernel
theorem dX4_isText_5 : decode cX4_isText 5 = .ok (.aload_n 0, 1) := by decide +kernel
theorem dX4_isText_6 : decode cX4_isText 6 = .ok (.iconst 1, 1) := by decide +kernel
theorem dX4_isText_7 : decode cX4_isText 7 = .ok (.putfield 141, 3) := by decide +kernel
theorem dX4_isText_10 : decode cX4_isText 10 = .ok (.aload_n 0, 1) := by decide +kernel
theorem dX4_isText_11 : decode cX4_isText 11 = .ok (.invokevirtual 167, 3) := by decide +kernel
theorem dX4_isText_14 : decode cX4_isText 14 = .ok (.aload_n 0, 1) := by decide +kernel
theorem dX4_isText_15 : decode cX4_isText 15 = .ok (.getfield 141, 3) := by decide +kernel
theorem dX4_isText_18 : decode cX4_isText 18 = .ok (.ifCond .eq 46, 3) := by decide +kernel
theorem dX4_isText_21 : decode cX4_isText 21 = .ok (.aload_n 0, 1) := by decide +kernel
theorem dX4_isText_22 : decode cX4_isText 22 = .ok (.getfield 138, 3) := by decide +kernel
theorem dX4_isText_25 : decode cX4_isText 25 = .ok (.aload_n 0, 1) := by decide +kernel
theorem dX4_isText_26 : decode cX4_isText 26 = .ok (.getfield 135, 3) := by decide +kernel
theorem dX4_isText_29 : decode cX4_isText 29 = .ok (.if_icmp .ge 35, 3) := by decide +kernel
theorem dX4_isText_32 : decode cX4_isText 32 = .ok (.aload_n 0, 1) := by decide +kernel
theorem dX4_isText_33 : decode cX4_isText 33 = .ok (.aload_n 0, 1) := by decide +kernel
theorem dX4_isText_34 : decode cX4_isText 34 = .ok (.invokevirtual 145, 3) := by decide +kernel
theorem dX4_isText_37 : decode cX4_isText 37 = .ok (.bipush 59, 2) := by decide +kernel
theorem dX4_isText_39 : decode cX4_isText 39 = .ok (.if_icmp .ne 7, 3) := by decide +kernel
theorem dX4_isText_42 : decode cX4_isText 42 = .ok (.iconst 1, 1) := by decide +kernel
theorem dX4_isText_43 : decode cX4_isText 43 = .ok (.goto 4, 3) := by decide +kernel
theorem dX4_isText_46 : decode cX4_isText 46 = .ok (.iconst 0, 1) := by decide +kernel
theorem dX4_isText_47 : decode cX4_isText 47 = .ok (.invokevirtual 148, 3) := by decide +kernel
theorem dX4_isText_50 : decode cX4_isText 50 = .ok (.aload_n 0, 1) := by decide +kernel
theorem dX4_isText_51 : decode cX4_isText 51 = .ok (.getfield 141, 3) := by decide +kernel
theorem dX4_isText_54 : decode cX4_isText 54 = .ok (.ifCond .eq (-40), 3) := by decide +kernel
theorem dX4_isText_57 : decode cX4_isText 57 = .ok (.aload_n 0, 1) := by decide +kernel
theorem dX4_isText_58 : decode cX4_isText 58 = .ok (.invokevirtual 167, 3) := by decide +kernel
theorem dX4_isText_61 : decode cX4_isText 61 = .ok (.goto (-47), 3) := by decide +kernel
theorem dX4_isText_64 : decode cX4_isText 64 = .ok (.aload_n 0, 1) := by decide +kernel
theorem dX4_isText_65 : decode cX4_isText 65 = .ok (.getfield 141, 3) := by decide +kernel
theorem dX4_isText_68 : decode cX4_isText 68 = .ok (.ireturn, 1) := by decide +kernel
theorem dX4_fault_0 : decode cX4_fault 0 = .ok (.aload_n 0, 1) := by decide +kernel
theorem dX4_fault_1 : decode cX4_fault 1 = .ok (.invokevirtual 170, 3) := by decide +kernel
theorem dX4_fault_4 : decode cX4_fault 4 = .ok (.ifCond .eq 8, 3) := by decide +kernel
theorem dX4_fault_7 : decode cX4_fault 7 = .ok (.bipush (-4), 2) := by decide +kernel
theorem dX4_fault_9 : decode cX4_fault 9 = .ok (.goto 7, 3) := by decide +kernel
theorem dX4_fault_12 : decode cX4_fault 12 = .ok (.aload_n 0, 1) := by decide +kernel
theorem dX4_fault_13 : decode cX4_fault 13 = .ok (.getfield 138, 3) := by decide +kernel
theorem dX4_fault_16 : decode cX4_fault 16 = .ok (.ireturn, 1) := by decide +kernel
theorem dX4_signAll_0 : decode cX4_signAll 0 = .ok (.aload_n 0, 1) := by decide +kernel
theorem dX4_signAll_1 : decode cX4_signAll 1 = .ok (.invokevirtual 170, 3) := by decide +kernel
theorem dX4_signAll_4 : decode cX4_signAll 4 = .ok (.ifCond .ne 6, 3) := by decide +kernel
theorem dX4_signAll_7 : decode cX4_signAll 7 = .ok (.bipush (-2), 2) := by decide +kernel
theorem dX4_signAll_9 : decode cX4_signAll 9 = .ok (.ireturn, 1) := by decide +kernel
theorem dX4_signAll_10 : decode cX4_signAll 10 = .ok (.aload_n 0, 1) := by decide +kernel
theorem dX4_signAll_11 : decode cX4_signAll 11 = .ok (.invokevirtual 113, 3) := by decide +kernel
theorem dX4_signAll_14 : decode cX4_signAll 14 = .ok (.aload_n 0, 1) := by decide +kernel
theorem dX4_signAll_15 : decode cX4_signAll 15 = .ok (.iconst 0, 1) := by decide +kernel
theorem dX4_signAll_16 : decode cX4_signAll 16 = .ok (.putfield 138, 3) := by decide +kernel
theorem dX4_signAll_19 : decode cX4_signAll 19 = .ok (.aload_n 0, 1) := by decide +kernel
theorem dX4_signAll_20 : decode cX4_signAll 20 = .ok (.iconst 0, 1) := by decide +kernel
theorem dX4_signAll_21 : decode cX4_signAll 21 = .ok (.putfield 173, 3) := by decide +kernel
theorem dX4_signAll_24 : decode cX4_signAll 24 = .ok (.iconst 0, 1) := by decide +kernel
theorem dX4_signAll_25 : decode cX4_signAll 25 = .ok (.istore_n 1, 1) := by decide +kernel
theorem dX4_signAll_26 : decode cX4_signAll 26 = .ok (.aload_n 0, 1) := by decide +kernel
theorem dX4_signAll_27 : decode cX4_signAll 27 = .ok (.getfield 173, 3) := by decide +kernel
theorem dX4_signAll_30 : decode cX4_signAll 30 = .ok (.ifCond .ne 116, 3) := by decide +kernel
theorem dX4_signAll_33 : decode cX4_signAll 33 = .ok (.aload_n 0, 1) := by decide +kernel
theorem dX4_signAll_34 : decode cX4_signAll 34 = .ok (.getfield 138, 3) := by decide +kernel
theorem dX4_signAll_37 : decode cX4_signAll 37 = .ok (.aload_n 0, 1) := by decide +kernel
theorem dX4_signAll_38 : decode cX4_signAll 38 = .ok (.getfield 135, 3) := by decide +kernel
theorem dX4_signAll_41 : decode cX4_signAll 41 = .ok (.if_icmp .ge 105, 3) := by decide +kernel
theorem dX4_signAll_44 : decode cX4_signAll 44 = .ok (.aload_n 0, 1) := by decide +kernel
theorem dX4_signAll_45 : decode cX4_signAll 45 = .ok (.getfield 138, 3) := by decide +kernel
theorem dX4_signAll_48 : decode cX4_signAll 48 = .ok (.istore_n 2, 1) := by decide +kernel
theorem dX4_signAll_49 : decode cX4_signAll 49 = .ok (.aload_n 0, 1) := by decide +kernel
theorem dX4_signAll_50 : decode cX4_signAll 50 = .ok (.invokevirtual 167, 3) := by decide +kernel
theorem dX4_signAll_53 : decode cX4_signAll 53 = .ok (.aload_n 0, 1) := by decide +kernel
theorem dX4_signAll_54 : decode cX4_signAll 54 = .ok (.dup, 1) := by decide +kernel
theorem dX4_signAll_55 : decode cX4_signAll 55 = .ok (.getfield 138, 3) := by decide +kernel
theorem dX4_signAll_58 : decode cX4_signAll 58 = .ok (.iconst 1, 1) := by decide +kernel
theorem dX4_signAll_59 : decode cX4_signAll 59 = .ok (.iadd, 1) := by decide +kernel
theorem dX4_signAll_60 : decode cX4_signAll 60 = .ok (.putfield 138, 3) := by decide +kernel
theorem dX4_signAll_63 : decode cX4_signAll 63 = .ok (.aload_n 0, 1) := by decide +kernel
theorem dX4_signAll_64 : decode cX4_signAll 64 = .ok (.aload_n 0, 1) := by decide +kernel
theorem dX4_signAll_65 : decode cX4_signAll 65 = .ok (.getfield 155, 3) := by decide +kernel
theorem dX4_signAll_68 : decode cX4_signAll 68 = .ok (.aload_n 0, 1) := by decide +kernel
theorem dX4_signAll_69 : decode cX4_signAll 69 = .ok (.getfield 158, 3) := by decide +kernel
theorem dX4_signAll_72 : decode cX4_signAll 72 = .ok (.aload_n 0, 1) := by decide +kernel
theorem dX4_signAll_73 : decode cX4_signAll 73 = .ok (.getfield 161, 3) := by decide +kernel
theorem dX4_signAll_76 : decode cX4_signAll 76 = .ok (.invokevirtual 126, 3) := by decide +kernel
theorem dX4_signAll_79 : decode cX4_signAll 79 = .ok (.istore_n 3, 1) := by decide +kernel
theorem dX4_signAll_80 : decode cX4_signAll 80 = .ok (.iload_n 3, 1) := by decide +kernel
theorem dX4_signAll_81 : decode cX4_signAll 81 = .ok (.ifCond .ge 7, 3) := by decide +kernel
theorem dX4_signAll_84 : decode cX4_signAll 84 = .ok (.iload_n 3, 1) := by decide +kernel
theorem dX4_signAll_85 : decode cX4_signAll 85 = .ok (.goto 19, 3) := by decide +kernel
theorem dX4_signAll_88 : decode cX4_signAll 88 = .ok (.aload_n 0, 1) := by decide +kernel
theorem dX4_signAll_89 : decode cX4_signAll 89 = .ok (.aload_n 0, 1) := by decide +kernel
theorem dX4_signAll_90 : decode cX4_signAll 90 = .ok (.getfield 155, 3) := by decide +kernel
theorem dX4_signAll_93 : decode cX4_signAll 93 = .ok (.aload_n 0, 1) := by decide +kernel
theorem dX4_signAll_94 : decode cX4_signAll 94 = .ok (.getfield 158, 3) := by decide +kernel
theorem dX4_signAll_97 : decode cX4_signAll 97 = .ok (.aload_n 0, 1) := by decide +kernel
theorem dX4_signAll_98 : decode cX4_signAll 98 = .ok (.getfield 161, 3) := by decide +kernel
theorem dX4_signAll_101 : decode cX4_signAll 101 = .ok (.invokevirtual 129, 3) := by decide +kernel
theorem dX4_signAll_104 : decode cX4_signAll 104 = .ok (.istore_n 3, 1) := by decide +kernel
theorem dX4_signAll_105 : decode cX4_signAll 105 = .ok (.iload_n 3, 1) := by decide +kernel
theorem dX4_signAll_106 : decode cX4_signAll 106 = .ok (.bipush 10, 2) := by decide +kernel
theorem dX4_signAll_108 : decode cX4_signAll 108 = .ok (.if_icmp .ge 32, 3) := by decide +kernel
theorem dX4_signAll_111 : decode cX4_signAll 111 = .ok (.aload_n 0, 1) := by decide +kernel
theorem dX4_signAll_112 : decode cX4_signAll 112 = .ok (.iconst 1, 1) := by decide +kernel
theorem dX4_signAll_113 : decode cX4_signAll 113 = .ok (.putfield 173, 3) := by decide +kernel
theorem dX4_signAll_116 : decode cX4_signAll 116 = .ok (.aload_n 0, 1) := by decide +kernel
theorem dX4_signAll_117 : decode cX4_signAll 117 = .ok (.getfield 31, 3) := by decide +kernel
theorem dX4_signAll_120 : decode cX4_signAll 120 = .ok (.iconst 0, 1) := by decide +kernel
theorem dX4_signAll_121 : decode cX4_signAll 121 = .ok (.iload_n 3, 1) := by decide +kernel
theorem dX4_signAll_122 : decode cX4_signAll 122 = .ok (.iastore, 1) := by decide +kernel
theorem dX4_signAll_123 : decode cX4_signAll 123 = .ok (.aload_n 0, 1) := by decide +kernel
theorem dX4_signAll_124 : decode cX4_signAll 124 = .ok (.getfield 31, 3) := by decide +kernel
theorem dX4_signAll_127 : decode cX4_signAll 127 = .ok (.iconst 1, 1) := by decide +kernel
theorem dX4_signAll_128 : decode cX4_signAll 128 = .ok (.iload_n 1, 1) := by decide +kernel
theorem dX4_signAll_129 : decode cX4_signAll 129 = .ok (.iastore, 1) := by decide +kernel
theorem dX4_signAll_130 : decode cX4_signAll 130 = .ok (.aload_n 0, 1) := by decide +kernel
theorem dX4_signAll_131 : decode cX4_signAll 131 = .ok (.getfield 31, 3) := by decide +kernel
theorem dX4_signAll_134 : decode cX4_signAll 134 = .ok (.iconst 2, 1) := by decide +kernel
theorem dX4_signAll_135 : decode cX4_signAll 135 = .ok (.iload_n 2, 1) := by decide +kernel
theorem dX4_signAll_136 : decode cX4_signAll 136 = .ok (.iastore, 1) := by decide +kernel
theorem dX4_signAll_137 : decode cX4_signAll 137 = .ok (.goto 6, 3) := by decide +kernel
theorem dX4_signAll_140 : decode cX4_signAll 140 = .ok (.iinc 1 1, 3) := by decide +kernel
theorem dX4_signAll_143 : decode cX4_signAll 143 = .ok (.goto (-117), 3) := by decide +kernel
theorem dX4_signAll_146 : decode cX4_signAll 146 = .ok (.aload_n 0, 1) := by decide +kernel
theorem dX4_signAll_147 : decode cX4_signAll 147 = .ok (.iconst 0, 1) := by decide +kernel
theorem dX4_signAll_148 : decode cX4_signAll 148 = .ok (.putfield 135, 3) := by decide +kernel
theorem dX4_signAll_151 : decode cX4_signAll 151 = .ok (.iload_n 1, 1) := by decide +kernel
theorem dX4_signAll_152 : decode cX4_signAll 152 = .ok (.ireturn, 1) := by decide +kernel
theorem dX4_why_0 : decode cX4_why 0 = .ok (.iload_n 1, 1) := by decide +kernel
theorem dX4_why_1 : decode cX4_why 1 = .ok (.iconst 0, 1) := by decide +kernel
theorem dX4_why_2 : decode cX4_why 2 = .ok (.iconst 2, 1) := by decide +kernel
theorem dX4_why_3 : decode cX4_why 3 = .ok (.invokestatic 46, 3) := by decide +kernel
theorem dX4_why_6 : decode cX4_why 6 = .ok (.ifCond .ne 5, 3) := by decide +kernel
theorem dX4_why_9 : decode cX4_why 9 = .ok (.iconst (-1), 1) := by decide +kernel
theorem dX4_why_10 : decode cX4_why 10 = .ok (.ireturn, 1) := by decide +kernel
theorem dX4_why_11 : decode cX4_why 11 = .ok (.aload_n 0, 1) := by decide +kernel
theorem dX4_why_12 : decode cX4_why 12 = .ok (.getfield 173, 3) := by decide +kernel
theorem dX4_why_15 : decode cX4_why 15 = .ok (.ifCond .eq 12, 3) := by decide +kernel
theorem dX4_why_18 : decode cX4_why 18 = .ok (.aload_n 0, 1) := by decide +kernel
theorem dX4_why_19 : decode cX4_why 19 = .ok (.getfield 31, 3) := by decide +kernel
theorem dX4_why_22 : decode cX4_why 22 = .ok (.iload_n 1, 1) := by decide +kernel
theorem dX4_why_23 : decode cX4_why 23 = .ok (.iaload, 1) := by decide +kernel
theorem dX4_why_24 : decode cX4_why 24 = .ok (.goto 5, 3) := by decide +kernel
theorem dX4_why_27 : decode cX4_why 27 = .ok (.bipush (-4), 2) := by decide +kernel
theorem dX4_why_29 : decode cX4_why 29 = .ok (.ireturn, 1) := by decide +kernel
theorem dX4_isAbout_0 : decode cX4_isAbout 0 = .ok (.aload_n 0, 1) := by decide +kernel
theorem dX4_isAbout_1 : decode cX4_isAbout 1 = .ok (.iload_n 1, 1) := by decide +kernel
theorem dX4_isAbout_2 : decode cX4_isAbout 2 = .ok (.iconst 0, 1) := by decide +kernel
theorem dX4_isAbout_3 : decode cX4_isAbout 3 = .ok (.invokevirtual 54, 3) := by decide +kernel
theorem dX4_isAbout_6 : decode cX4_isAbout 6 = .ok (.iload_n 2, 1) := by decide +kernel
theorem dX4_isAbout_7 : decode cX4_isAbout 7 = .ok (.if_icmp .eq 13, 3) := by decide +kernel
theorem dX4_isAbout_10 : decode cX4_isAbout 10 = .ok (.aload_n 0, 1) := by decide +kernel
theorem dX4_isAbout_11 : decode cX4_isAbout 11 = .ok (.iload_n 1, 1) := by decide +kernel
theorem dX4_isAbout_12 : decode cX4_isAbout 12 = .ok (.iconst 1, 1) := by decide +kernel
theorem dX4_isAbout_13 : decode cX4_isAbout 13 = .ok (.invokevirtual 54, 3) := by decide +kernel
theorem dX4_isAbout_16 : decode cX4_isAbout 16 = .ok (.iload_n 2, 1) := by decide +kernel
theorem dX4_isAbout_17 : decode cX4_isAbout 17 = .ok (.if_icmp .ne 7, 3) := by decide +kernel
theorem dX4_isAbout_20 : decode cX4_isAbout 20 = .ok (.iconst 1, 1) := by decide +kernel
theorem dX4_isAbout_21 : decode cX4_isAbout 21 = .ok (.goto 4, 3) := by decide +kernel
theorem dX4_isAbout_24 : decode cX4_isAbout 24 = .ok (.iconst 0, 1) := by decide +kernel
theorem dX4_isAbout_25 : decode cX4_isAbout 25 = .ok (.ireturn, 1) := by decide +kernel
theorem dX4_brokenAbout_0 : decode cX4_brokenAbout 0 = .ok (.iconst 0, 1) := by decide +kernel
theorem dX4_brokenAbout_1 : decode cX4_brokenAbout 1 = .ok (.istore_n 2, 1) := by decide +kernel
theorem dX4_brokenAbout_2 : decode cX4_brokenAbout 2 = .ok (.iconst 0, 1) := by decide +kernel
theorem dX4_brokenAbout_3 : decode cX4_brokenAbout 3 = .ok (.istore_n 3, 1) := by decide +kernel
theorem dX4_brokenAbout_4 : decode cX4_brokenAbout 4 = .ok (.iload_n 3, 1) := by decide +kernel
theorem dX4_brokenAbout_5 : decode cX4_brokenAbout 5 = .ok (.aload_n 0, 1) := by decide +kernel
theorem dX4_brokenAbout_6 : decode cX4_brokenAbout 6 = .ok (.getfield 7, 3) := by decide +kernel
theorem dX4_brokenAbout_9 : decode cX4_brokenAbout 9 = .ok (.iconst 2, 1) := by decide +kernel
theorem dX4_brokenAbout_10 : decode cX4_brokenAbout 10 = .ok (.iaload, 1) := by decide +kernel
theorem dX4_brokenAbout_11 : decode cX4_brokenAbout 11 = .ok (.if_icmp .ge 34, 3) := by decide +kernel
theorem dX4_brokenAbout_14 : decode cX4_brokenAbout 14 = .ok (.iload_n 2, 1) := by decide +kernel
theorem dX4_brokenAbout_15 : decode cX4_brokenAbout 15 = .ok (.aload_n 0, 1) := by decide +kernel
theorem dX4_brokenAbout_16 : decode cX4_brokenAbout 16 = .ok (.iload_n 3, 1) := by decide +kernel
theorem dX4_brokenAbout_17 : decode cX4_brokenAbout 17 = .ok (.iload_n 1, 1) := by decide +kernel
theorem dX4_brokenAbout_18 : decode cX4_brokenAbout 18 = .ok (.invokevirtual 176, 3) := by decide +kernel
theorem dX4_brokenAbout_21 : decode cX4_brokenAbout 21 = .ok (.ifCond .eq 15, 3) := by decide +kernel
theorem dX4_brokenAbout_24 : decode cX4_brokenAbout 24 = .ok (.aload_n 0, 1) := by decide +kernel
theorem dX4_brokenAbout_25 : decode cX4_brokenAbout 25 = .ok (.iload_n 3, 1) := by decide +kernel
theorem dX4_brokenAbout_26 : decode cX4_brokenAbout 26 = .ok (.invokevirtual 65, 3) := by decide +kernel
theorem dX4_brokenAbout_29 : decode cX4_brokenAbout 29 = .ok (.ifCond .eq 7, 3) := by decide +kernel
theorem dX4_brokenAbout_32 : decode cX4_brokenAbout 32 = .ok (.iconst 1, 1) := by decide +kernel
theorem dX4_brokenAbout_33 : decode cX4_brokenAbout 33 = .ok (.goto 4, 3) := by decide +kernel
theorem dX4_brokenAbout_36 : decode cX4_brokenAbout 36 = .ok (.iconst 0, 1) := by decide +kernel
theorem dX4_brokenAbout_37 : decode cX4_brokenAbout 37 = .ok (.iadd, 1) := by decide +kernel
theorem dX4_brokenAbout_38 : decode cX4_brokenAbout 38 = .ok (.istore_n 2, 1) := by decide +kernel
theorem dX4_brokenAbout_39 : decode cX4_brokenAbout 39 = .ok (.iinc 3 1, 3) := by decide +kernel
theorem dX4_brokenAbout_42 : decode cX4_brokenAbout 42 = .ok (.goto (-38), 3) := by decide +kernel
theorem dX4_brokenAbout_45 : decode cX4_brokenAbout 45 = .ok (.iload_n 2, 1) := by decide +kernel
theorem dX4_brokenAbout_46 : decode cX4_brokenAbout 46 = .ok (.ireturn, 1) := by decide +kernel
theorem dX4_forceAbout_0 : decode cX4_forceAbout 0 = .ok (.iconst 0, 1) := by decide +kernel
theorem dX4_forceAbout_1 : decode cX4_forceAbout 1 = .ok (.istore_n 2, 1) := by decide +kernel
theorem dX4_forceAbout_2 : decode cX4_forceAbout 2 = .ok (.iconst 0, 1) := by decide +kernel
theorem dX4_forceAbout_3 : decode cX4_forceAbout 3 = .ok (.istore_n 3, 1) := by decide +kernel
theorem dX4_forceAbout_4 : decode cX4_forceAbout 4 = .ok (.iload_n 3, 1) := by decide +kernel
theorem dX4_forceAbout_5 : decode cX4_forceAbout 5 = .ok (.aload_n 0, 1) := by decide +kernel
theorem dX4_forceAbout_6 : decode cX4_forceAbout 6 = .ok (.getfield 7, 3) := by decide +kernel
theorem dX4_forceAbout_9 : decode cX4_forceAbout 9 = .ok (.iconst 2, 1) := by decide +kernel
theorem dX4_forceAbout_10 : decode cX4_forceAbout 10 = .ok (.iaload, 1) := by decide +kernel
theorem dX4_forceAbout_11 : decode cX4_forceAbout 11 = .ok (.if_icmp .ge 34, 3) := by decide +kernel
theorem dX4_forceAbout_14 : decode cX4_forceAbout 14 = .ok (.iload_n 2, 1) := by decide +kernel
theorem dX4_forceAbout_15 : decode cX4_forceAbout 15 = .ok (.aload_n 0, 1) := by decide +kernel
theorem dX4_forceAbout_16 : decode cX4_forceAbout 16 = .ok (.iload_n 3, 1) := by decide +kernel
theorem dX4_forceAbout_17 : decode cX4_forceAbout 17 = .ok (.iload_n 1, 1) := by decide +kernel
theorem dX4_forceAbout_18 : decode cX4_forceAbout 18 = .ok (.invokevirtual 176, 3) := by decide +kernel
theorem dX4_forceAbout_21 : decode cX4_forceAbout 21 = .ok (.ifCond .eq 15, 3) := by decide +kernel
theorem dX4_forceAbout_24 : decode cX4_forceAbout 24 = .ok (.aload_n 0, 1) := by decide +kernel
theorem dX4_forceAbout_25 : decode cX4_forceAbout 25 = .ok (.iload_n 3, 1) := by decide +kernel
theorem dX4_forceAbout_26 : decode cX4_forceAbout 26 = .ok (.invokevirtual 57, 3) := by decide +kernel
theorem dX4_forceAbout_29 : decode cX4_forceAbout 29 = .ok (.ifCond .eq 7, 3) := by decide +kernel
theorem dX4_forceAbout_32 : decode cX4_forceAbout 32 = .ok (.iconst 1, 1) := by decide +kernel
theorem dX4_forceAbout_33 : decode cX4_forceAbout 33 = .ok (.goto 4, 3) := by decide +kernel
theorem dX4_forceAbout_36 : decode cX4_forceAbout 36 = .ok (.iconst 0, 1) := by decide +kernel
theorem dX4_forceAbout_37 : decode cX4_forceAbout 37 = .ok (.iadd, 1) := by decide +kernel
theorem dX4_forceAbout_38 : decode cX4_forceAbout 38 = .ok (.istore_n 2, 1) := by decide +kernel
theorem dX4_forceAbout_39 : decode cX4_forceAbout 39 = .ok (.iinc 3 1, 3) := by decide +kernel
theorem dX4_forceAbout_42 : decode cX4_forceAbout 42 = .ok (.goto (-38), 3) := by decide +kernel
theorem dX4_forceAbout_45 : decode cX4_forceAbout 45 = .ok (.iload_n 2, 1) := by decide +kernel
theorem dX4_forceAbout_46 : decode cX4_forceAbout 46 = .ok (.ireturn, 1) := by decide +kernel
theorem dX4_hedge_0 : decode cX4_hedge 0 = .ok (.iload_n 1, 1) := by decide +kernel
theorem dX4_hedge_1 : decode cX4_hedge 1 = .ok (.invokestatic 87, 3) := by decide +kernel
theorem dX4_hedge_4 : decode cX4_hedge 4 = .ok (.ifCond .ne 5, 3) := by decide +kernel
theorem dX4_hedge_7 : decode cX4_hedge 7 = .ok (.iconst (-1), 1) := by decide +kernel
theorem dX4_hedge_8 : decode cX4_hedge 8 = .ok (.ireturn, 1) := by decide +kernel
theorem dX4_hedge_9 : decode cX4_hedge 9 = .ok (.iload_n 2, 1) := by decide +kernel
theorem dX4_hedge_10 : decode cX4_hedge 10 = .ok (.tableswitch 112 0 7 #[46, 46, 53, 67, 74, 93, 99, 105], 46) := by decide +kernel
theorem dX4_hedge_56 : decode cX4_hedge 56 = .ok (.aload_n 0, 1) := by decide +kernel
theorem dX4_hedge_57 : decode cX4_hedge 57 = .ok (.iload_n 1, 1) := by decide +kernel
theorem dX4_hedge_58 : decode cX4_hedge 58 = .ok (.iload_n 2, 1) := by decide +kernel
theorem dX4_hedge_59 : decode cX4_hedge 59 = .ok (.invokevirtual 50, 3) := by decide +kernel
theorem dX4_hedge_62 : decode cX4_hedge 62 = .ok (.ireturn, 1) := by decide +kernel
theorem dX4_hedge_63 : decode cX4_hedge 63 = .ok (.aload_n 0, 1) := by decide +kernel
theorem dX4_hedge_64 : decode cX4_hedge 64 = .ok (.iload_n 1, 1) := by decide +kernel
theorem dX4_hedge_65 : decode cX4_hedge 65 = .ok (.invokevirtual 106, 3) := by decide +kernel
theorem dX4_hedge_68 : decode cX4_hedge 68 = .ok (.ifCond .eq 7, 3) := by decide +kernel
theorem dX4_hedge_71 : decode cX4_hedge 71 = .ok (.iconst 1, 1) := by decide +kernel
theorem dX4_hedge_72 : decode cX4_hedge 72 = .ok (.goto 4, 3) := by decide +kernel
theorem dX4_hedge_75 : decode cX4_hedge 75 = .ok (.iconst 0, 1) := by decide +kernel
theorem dX4_hedge_76 : decode cX4_hedge 76 = .ok (.ireturn, 1) := by decide +kernel
theorem dX4_hedge_77 : decode cX4_hedge 77 = .ok (.aload_n 0, 1) := by decide +kernel
theorem dX4_hedge_78 : decode cX4_hedge 78 = .ok (.iload_n 1, 1) := by decide +kernel
theorem dX4_hedge_79 : decode cX4_hedge 79 = .ok (.iconst 2, 1) := by decide +kernel
theorem dX4_hedge_80 : decode cX4_hedge 80 = .ok (.invokevirtual 50, 3) := by decide +kernel
theorem dX4_hedge_83 : decode cX4_hedge 83 = .ok (.ireturn, 1) := by decide +kernel
theorem dX4_hedge_84 : decode cX4_hedge 84 = .ok (.aload_n 0, 1) := by decide +kernel
theorem dX4_hedge_85 : decode cX4_hedge 85 = .ok (.invokevirtual 103, 3) := by decide +kernel
theorem dX4_hedge_88 : decode cX4_hedge 88 = .ok (.ifCond .eq 12, 3) := by decide +kernel
theorem dX4_hedge_91 : decode cX4_hedge 91 = .ok (.aload_n 0, 1) := by decide +kernel
theorem dX4_hedge_92 : decode cX4_hedge 92 = .ok (.getfield 25, 3) := by decide +kernel
theorem dX4_hedge_95 : decode cX4_hedge 95 = .ok (.iload_n 1, 1) := by decide +kernel
theorem dX4_hedge_96 : decode cX4_hedge 96 = .ok (.iaload, 1) := by decide +kernel
theorem dX4_hedge_97 : decode cX4_hedge 97 = .ok (.goto 5, 3) := by decide +kernel
theorem dX4_hedge_100 : decode cX4_hedge 100 = .ok (.bipush (-4), 2) := by decide +kernel
theorem dX4_hedge_102 : decode cX4_hedge 102 = .ok (.ireturn, 1) := by decide +kernel
theorem dX4_hedge_103 : decode cX4_hedge 103 = .ok (.aload_n 0, 1) := by decide +kernel
theorem dX4_hedge_104 : decode cX4_hedge 104 = .ok (.iload_n 1, 1) := by decide +kernel
theorem dX4_hedge_105 : decode cX4_hedge 105 = .ok (.invokevirtual 179, 3) := by decide +kernel
theorem dX4_hedge_108 : decode cX4_hedge 108 = .ok (.ireturn, 1) := by decide +kernel
theorem dX4_hedge_109 : decode cX4_hedge 109 = .ok (.aload_n 0, 1) := by decide +kernel
theorem dX4_hedge_110 : decode cX4_hedge 110 = .ok (.iload_n 1, 1) := by decide +kernel
theorem dX4_hedge_111 : decode cX4_hedge 111 = .ok (.invokevirtual 182, 3) := by decide +kernel
theorem dX4_hedge_114 : decode cX4_hedge 114 = .ok (.ireturn, 1) := by decide +kernel
theorem dX4_hedge_115 : decode cX4_hedge 115 = .ok (.aload_n 0, 1) := by decide +kernel
theorem dX4_hedge_116 : decode cX4_hedge 116 = .ok (.iload_n 1, 1) := by decide +kernel
theorem dX4_hedge_117 : decode cX4_hedge 117 = .ok (.iconst 3, 1) := by decide +kernel
theorem dX4_hedge_118 : decode cX4_hedge 118 = .ok (.invokevirtual 50, 3) := by decide +kernel
theorem dX4_hedge_121 : decode cX4_hedge 121 = .ok (.ireturn, 1) := by decide +kernel
theorem dX4_hedge_122 : decode cX4_hedge 122 = .ok (.iconst (-1), 1) := by decide +kernel
theorem dX4_hedge_123 : decode cX4_hedge 123 = .ok (.ireturn, 1) := by decide +kernel
theorem dX4_saysNothing_0 : decode cX4_saysNothing 0 = .ok (.aload_n 0, 1) := by decide +kernel
theorem dX4_saysNothing_1 : decode cX4_saysNothing 1 = .ok (.aload_n 0, 1) := by decide +kernel
theorem dX4_saysNothing_2 : decode cX4_saysNothing 2 = .ok (.iload_n 1, 1) := by decide +kernel
theorem dX4_saysNothing_3 : decode cX4_saysNothing 3 = .ok (.iconst 0, 1) := by decide +kernel
theorem dX4_saysNothing_4 : decode cX4_saysNothing 4 = .ok (.invokevirtual 54, 3) := by decide +kernel
theorem dX4_saysNothing_7 : decode cX4_saysNothing 7 = .ok (.aload_n 0, 1) := by decide +kernel
theorem dX4_saysNothing_8 : decode cX4_saysNothing 8 = .ok (.iload_n 1, 1) := by decide +kernel
theorem dX4_saysNothing_9 : decode cX4_saysNothing 9 = .ok (.iconst 1, 1) := by decide +kernel
theorem dX4_saysNothing_10 : decode cX4_saysNothing 10 = .ok (.invokevirtual 54, 3) := by decide +kernel
theorem dX4_saysNothing_13 : decode cX4_saysNothing 13 = .ok (.iload_n 1, 1) := by decide +kernel
theorem dX4_saysNothing_14 : decode cX4_saysNothing 14 = .ok (.invokevirtual 83, 3) := by decide +kernel
theorem dX4_saysNothing_17 : decode cX4_saysNothing 17 = .ok (.aload_n 0, 1) := by decide +kernel
theorem dX4_saysNothing_18 : decode cX4_saysNothing 18 = .ok (.iload_n 1, 1) := by decide +kernel
theorem dX4_saysNothing_19 : decode cX4_saysNothing 19 = .ok (.iconst 2, 1) := by decide +kernel
theorem dX4_saysNothing_20 : decode cX4_saysNothing 20 = .ok (.invokevirtual 54, 3) := by decide +kernel
theorem dX4_saysNothing_23 : decode cX4_saysNothing 23 = .ok (.if_icmp .gt 7, 3) := by decide +kernel
theorem dX4_saysNothing_26 : decode cX4_saysNothing 26 = .ok (.iconst 1, 1) := by decide +kernel
theorem dX4_saysNothing_27 : decode cX4_saysNothing 27 = .ok (.goto 4, 3) := by decide +kernel
theorem dX4_saysNothing_30 : decode cX4_saysNothing 30 = .ok (.iconst 0, 1) := by decide +kernel
theorem dX4_saysNothing_31 : decode cX4_saysNothing 31 = .ok (.ireturn, 1) := by decide +kernel
theorem dX4_treaty_0 : decode cX4_treaty 0 = .ok (.aload_n 0, 1) := by decide +kernel
theorem dX4_treaty_1 : decode cX4_treaty 1 = .ok (.iload_n 1, 1) := by decide +kernel
theorem dX4_treaty_2 : decode cX4_treaty 2 = .ok (.invokevirtual 132, 3) := by decide +kernel
theorem dX4_treaty_5 : decode cX4_treaty 5 = .ok (.ifCond .ne 5, 3) := by decide +kernel
theorem dX4_treaty_8 : decode cX4_treaty 8 = .ok (.iconst (-1), 1) := by decide +kernel
theorem dX4_treaty_9 : decode cX4_treaty 9 = .ok (.ireturn, 1) := by decide +kernel
theorem dX4_treaty_10 : decode cX4_treaty 10 = .ok (.iload_n 2, 1) := by decide +kernel
theorem dX4_treaty_11 : decode cX4_treaty 11 = .ok (.tableswitch 121 0 7 #[45, 45, 52, 62, 76, 90, 100, 107], 45) := by decide +kernel
theorem dX4_treaty_56 : decode cX4_treaty 56 = .ok (.aload_n 0, 1) := by decide +kernel
theorem dX4_treaty_57 : decode cX4_treaty 57 = .ok (.iload_n 1, 1) := by decide +kernel
theorem dX4_treaty_58 : decode cX4_treaty 58 = .ok (.iload_n 2, 1) := by decide +kernel
theorem dX4_treaty_59 : decode cX4_treaty 59 = .ok (.invokevirtual 54, 3) := by decide +kernel
theorem dX4_treaty_62 : decode cX4_treaty 62 = .ok (.ireturn, 1) := by decide +kernel
theorem dX4_treaty_63 : decode cX4_treaty 63 = .ok (.aload_n 0, 1) := by decide +kernel
theorem dX4_treaty_64 : decode cX4_treaty 64 = .ok (.iload_n 1, 1) := by decide +kernel
theorem dX4_treaty_65 : decode cX4_treaty 65 = .ok (.iconst 2, 1) := by decide +kernel
theorem dX4_treaty_66 : decode cX4_treaty 66 = .ok (.invokevirtual 54, 3) := by decide +kernel
theorem dX4_treaty_69 : decode cX4_treaty 69 = .ok (.bipush 100, 2) := by decide +kernel
theorem dX4_treaty_71 : decode cX4_treaty 71 = .ok (.iadd, 1) := by decide +kernel
theorem dX4_treaty_72 : decode cX4_treaty 72 = .ok (.ireturn, 1) := by decide +kernel
theorem dX4_treaty_73 : decode cX4_treaty 73 = .ok (.aload_n 0, 1) := by decide +kernel
theorem dX4_treaty_74 : decode cX4_treaty 74 = .ok (.iload_n 1, 1) := by decide +kernel
theorem dX4_treaty_75 : decode cX4_treaty 75 = .ok (.invokevirtual 57, 3) := by decide +kernel
theorem dX4_treaty_78 : decode cX4_treaty 78 = .ok (.ifCond .eq 7, 3) := by decide +kernel
theorem dX4_treaty_81 : decode cX4_treaty 81 = .ok (.iconst 1, 1) := by decide +kernel
theorem dX4_treaty_82 : decode cX4_treaty 82 = .ok (.goto 4, 3) := by decide +kernel
theorem dX4_treaty_85 : decode cX4_treaty 85 = .ok (.iconst 0, 1) := by decide +kernel
theorem dX4_treaty_86 : decode cX4_treaty 86 = .ok (.ireturn, 1) := by decide +kernel
theorem dX4_treaty_87 : decode cX4_treaty 87 = .ok (.aload_n 0, 1) := by decide +kernel
theorem dX4_treaty_88 : decode cX4_treaty 88 = .ok (.iload_n 1, 1) := by decide +kernel
theorem dX4_treaty_89 : decode cX4_treaty 89 = .ok (.invokevirtual 65, 3) := by decide +kernel
theorem dX4_treaty_92 : decode cX4_treaty 92 = .ok (.ifCond .eq 7, 3) := by decide +kernel
theorem dX4_treaty_95 : decode cX4_treaty 95 = .ok (.iconst 1, 1) := by decide +kernel
theorem dX4_treaty_96 : decode cX4_treaty 96 = .ok (.goto 4, 3) := by decide +kernel
theorem dX4_treaty_99 : decode cX4_treaty 99 = .ok (.iconst 0, 1) := by decide +kernel
theorem dX4_treaty_100 : decode cX4_treaty 100 = .ok (.ireturn, 1) := by decide +kernel
theorem dX4_treaty_101 : decode cX4_treaty 101 = .ok (.sipush 1000, 3) := by decide +kernel
theorem dX4_treaty_104 : decode cX4_treaty 104 = .ok (.aload_n 0, 1) := by decide +kernel
theorem dX4_treaty_105 : decode cX4_treaty 105 = .ok (.iload_n 1, 1) := by decide +kernel
theorem dX4_treaty_106 : decode cX4_treaty 106 = .ok (.invokevirtual 61, 3) := by decide +kernel
theorem dX4_treaty_109 : decode cX4_treaty 109 = .ok (.iadd, 1) := by decide +kernel
theorem dX4_treaty_110 : decode cX4_treaty 110 = .ok (.ireturn, 1) := by decide +kernel
theorem dX4_treaty_111 : decode cX4_treaty 111 = .ok (.aload_n 0, 1) := by decide +kernel
theorem dX4_treaty_112 : decode cX4_treaty 112 = .ok (.iload_n 1, 1) := by decide +kernel
theorem dX4_treaty_113 : decode cX4_treaty 113 = .ok (.iconst 3, 1) := by decide +kernel
theorem dX4_treaty_114 : decode cX4_treaty 114 = .ok (.invokevirtual 54, 3) := by decide +kernel
theorem dX4_treaty_117 : decode cX4_treaty 117 = .ok (.ireturn, 1) := by decide +kernel
theorem dX4_treaty_118 : decode cX4_treaty 118 = .ok (.aload_n 0, 1) := by decide +kernel
theorem dX4_treaty_119 : decode cX4_treaty 119 = .ok (.iload_n 1, 1) := by decide +kernel
theorem dX4_treaty_120 : decode cX4_treaty 120 = .ok (.invokevirtual 185, 3) := by decide +kernel
theorem dX4_treaty_123 : decode cX4_treaty 123 = .ok (.ifCond .eq 7, 3) := by decide +kernel
theorem dX4_treaty_126 : decode cX4_treaty 126 = .ok (.iconst 1, 1) := by decide +kernel
theorem dX4_treaty_127 : decode cX4_treaty 127 = .ok (.goto 4, 3) := by decide +kernel
theorem dX4_treaty_130 : decode cX4_treaty 130 = .ok (.iconst 0, 1) := by decide +kernel
theorem dX4_treaty_131 : decode cX4_treaty 131 = .ok (.ireturn, 1) := by decide +kernel
theorem dX4_treaty_132 : decode cX4_treaty 132 = .ok (.iconst (-1), 1) := by decide +kernel
theorem dX4_treaty_133 : decode cX4_treaty 133 = .ok (.ireturn, 1) := by decide +kernel
theorem dX4_boundOf_0 : decode cX4_boundOf 0 = .ok (.aload_n 0, 1) := by decide +kernel
theorem dX4_boundOf_1 : decode cX4_boundOf 1 = .ok (.iload_n 1, 1) := by decide +kernel
theorem dX4_boundOf_2 : decode cX4_boundOf 2 = .ok (.iload_n 2, 1) := by decide +kernel
theorem dX4_boundOf_3 : decode cX4_boundOf 3 = .ok (.bipush (-4), 2) := by decide +kernel
theorem dX4_boundOf_5 : decode cX4_boundOf 5 = .ok (.invokevirtual 83, 3) := by decide +kernel
theorem dX4_boundOf_8 : decode cX4_boundOf 8 = .ok (.istore_n 3, 1) := by decide +kernel
theorem dX4_boundOf_9 : decode cX4_boundOf 9 = .ok (.iload_n 3, 1) := by decide +kernel
theorem dX4_boundOf_10 : decode cX4_boundOf 10 = .ok (.ldc 79, 2) := by decide +kernel
theorem dX4_boundOf_12 : decode cX4_boundOf 12 = .ok (.if_icmp .ne 8, 3) := by decide +kernel
theorem dX4_boundOf_15 : decode cX4_boundOf 15 = .ok (.bipush (-4), 2) := by decide +kernel
theorem dX4_boundOf_17 : decode cX4_boundOf 17 = .ok (.goto 8, 3) := by decide +kernel
theorem dX4_boundOf_20 : decode cX4_boundOf 20 = .ok (.sipush 1000, 3) := by decide +kernel
theorem dX4_boundOf_23 : decode cX4_boundOf 23 = .ok (.iload_n 3, 1) := by decide +kernel
theorem dX4_boundOf_24 : decode cX4_boundOf 24 = .ok (.iadd, 1) := by decide +kernel
theorem dX4_boundOf_25 : decode cX4_boundOf 25 = .ok (.ireturn, 1) := by decide +kernel
theorem dX4_bound_0 : decode cX4_bound 0 = .ok (.iload_n 1, 1) := by decide +kernel
theorem dX4_bound_1 : decode cX4_bound 1 = .ok (.invokestatic 87, 3) := by decide +kernel
theorem dX4_bound_4 : decode cX4_bound 4 = .ok (.ifCond .eq 28, 3) := by decide +kernel
theorem dX4_bound_7 : decode cX4_bound 7 = .ok (.iload_n 2, 1) := by decide +kernel
theorem dX4_bound_8 : decode cX4_bound 8 = .ok (.invokestatic 87, 3) := by decide +kernel
theorem dX4_bound_11 : decode cX4_bound 11 = .ok (.ifCond .eq 21, 3) := by decide +kernel
theorem dX4_bound_14 : decode cX4_bound 14 = .ok (.iload_n 3, 1) := by decide +kernel
theorem dX4_bound_15 : decode cX4_bound 15 = .ok (.iconst 0, 1) := by decide +kernel
theorem dX4_bound_16 : decode cX4_bound 16 = .ok (.iconst 1, 1) := by decide +kernel
theorem dX4_bound_17 : decode cX4_bound 17 = .ok (.invokestatic 46, 3) := by decide +kernel
theorem dX4_bound_20 : decode cX4_bound 20 = .ok (.ifCond .eq 12, 3) := by decide +kernel
theorem dX4_bound_23 : decode cX4_bound 23 = .ok (.aload_n 0, 1) := by decide +kernel
theorem dX4_bound_24 : decode cX4_bound 24 = .ok (.iload_n 1, 1) := by decide +kernel
theorem dX4_bound_25 : decode cX4_bound 25 = .ok (.iload_n 2, 1) := by decide +kernel
theorem dX4_bound_26 : decode cX4_bound 26 = .ok (.invokevirtual 188, 3) := by decide +kernel
theorem dX4_bound_29 : decode cX4_bound 29 = .ok (.goto 4, 3) := by decide +kernel
theorem dX4_bound_32 : decode cX4_bound 32 = .ok (.iconst (-1), 1) := by decide +kernel
theorem dX4_bound_33 : decode cX4_bound 33 = .ok (.ireturn, 1) := by decide +kernel
theorem dX4_whyNot_0 : decode cX4_whyNot 0 = .ok (.iload_n 1, 1) := by decide +kernel
theorem dX4_whyNot_1 : decode cX4_whyNot 1 = .ok (.iload_n 2, 1) := by decide +kernel
theorem dX4_whyNot_2 : decode cX4_whyNot 2 = .ok (.invokestatic 90, 3) := by decide +kernel
theorem dX4_whyNot_5 : decode cX4_whyNot 5 = .ok (.ifCond .eq 24, 3) := by decide +kernel
theorem dX4_whyNot_8 : decode cX4_whyNot 8 = .ok (.iload_n 3, 1) := by decide +kernel
theorem dX4_whyNot_9 : decode cX4_whyNot 9 = .ok (.bipush (-30), 2) := by decide +kernel
theorem dX4_whyNot_11 : decode cX4_whyNot 11 = .ok (.bipush 60, 2) := by decide +kernel
theorem dX4_whyNot_13 : decode cX4_whyNot 13 = .ok (.invokestatic 46, 3) := by decide +kernel
theorem dX4_whyNot_16 : decode cX4_whyNot 16 = .ok (.ifCond .eq 13, 3) := by decide +kernel
theorem dX4_whyNot_19 : decode cX4_whyNot 19 = .ok (.aload_n 0, 1) := by decide +kernel
theorem dX4_whyNot_20 : decode cX4_whyNot 20 = .ok (.iload_n 1, 1) := by decide +kernel
theorem dX4_whyNot_21 : decode cX4_whyNot 21 = .ok (.iload_n 2, 1) := by decide +kernel
theorem dX4_whyNot_22 : decode cX4_whyNot 22 = .ok (.iload_n 3, 1) := by decide +kernel
theorem dX4_whyNot_23 : decode cX4_whyNot 23 = .ok (.invokevirtual 94, 3) := by decide +kernel
theorem dX4_whyNot_26 : decode cX4_whyNot 26 = .ok (.goto 4, 3) := by decide +kernel
theorem dX4_whyNot_29 : decode cX4_whyNot 29 = .ok (.iconst (-1), 1) := by decide +kernel
theorem dX4_whyNot_30 : decode cX4_whyNot 30 = .ok (.ireturn, 1) := by decide +kernel
theorem dX4_clippingNow_0 : decode cX4_clippingNow 0 = .ok (.aload_n 0, 1) := by decide +kernel
theorem dX4_clippingNow_1 : decode cX4_clippingNow 1 = .ok (.invokevirtual 103, 3) := by decide +kernel
theorem dX4_clippingNow_4 : decode cX4_clippingNow 4 = .ok (.ifCond .ne 6, 3) := by decide +kernel
theorem dX4_clippingNow_7 : decode cX4_clippingNow 7 = .ok (.bipush (-4), 2) := by decide +kernel
theorem dX4_clippingNow_9 : decode cX4_clippingNow 9 = .ok (.ireturn, 1) := by decide +kernel
theorem dX4_clippingNow_10 : decode cX4_clippingNow 10 = .ok (.iconst 0, 1) := by decide +kernel
theorem dX4_clippingNow_11 : decode cX4_clippingNow 11 = .ok (.istore_n 1, 1) := by decide +kernel
theorem dX4_clippingNow_12 : decode cX4_clippingNow 12 = .ok (.iconst 0, 1) := by decide +kernel
theorem dX4_clippingNow_13 : decode cX4_clippingNow 13 = .ok (.istore_n 2, 1) := by decide +kernel
theorem dX4_clippingNow_14 : decode cX4_clippingNow 14 = .ok (.iload_n 2, 1) := by decide +kernel
theorem dX4_clippingNow_15 : decode cX4_clippingNow 15 = .ok (.bipush 8, 2) := by decide +kernel
theorem dX4_clippingNow_17 : decode cX4_clippingNow 17 = .ok (.if_icmp .ge 25, 3) := by decide +kernel
theorem dX4_clippingNow_20 : decode cX4_clippingNow 20 = .ok (.iload_n 1, 1) := by decide +kernel
theorem dX4_clippingNow_21 : decode cX4_clippingNow 21 = .ok (.aload_n 0, 1) := by decide +kernel
theorem dX4_clippingNow_22 : decode cX4_clippingNow 22 = .ok (.iload_n 2, 1) := by decide +kernel
theorem dX4_clippingNow_23 : decode cX4_clippingNow 23 = .ok (.iconst 0, 1) := by decide +kernel
theorem dX4_clippingNow_24 : decode cX4_clippingNow 24 = .ok (.invokevirtual 50, 3) := by decide +kernel
theorem dX4_clippingNow_27 : decode cX4_clippingNow 27 = .ok (.aload_n 0, 1) := by decide +kernel
theorem dX4_clippingNow_28 : decode cX4_clippingNow 28 = .ok (.getfield 25, 3) := by decide +kernel
theorem dX4_clippingNow_31 : decode cX4_clippingNow 31 = .ok (.iload_n 2, 1) := by decide +kernel
theorem dX4_clippingNow_32 : decode cX4_clippingNow 32 = .ok (.iaload, 1) := by decide +kernel
theorem dX4_clippingNow_33 : decode cX4_clippingNow 33 = .ok (.isub, 1) := by decide +kernel
theorem dX4_clippingNow_34 : decode cX4_clippingNow 34 = .ok (.iadd, 1) := by decide +kernel
theorem dX4_clippingNow_35 : decode cX4_clippingNow 35 = .ok (.istore_n 1, 1) := by decide +kernel
theorem dX4_clippingNow_36 : decode cX4_clippingNow 36 = .ok (.iinc 2 1, 3) := by decide +kernel
theorem dX4_clippingNow_39 : decode cX4_clippingNow 39 = .ok (.goto (-25), 3) := by decide +kernel
theorem dX4_clippingNow_42 : decode cX4_clippingNow 42 = .ok (.iload_n 1, 1) := by decide +kernel
theorem dX4_clippingNow_43 : decode cX4_clippingNow 43 = .ok (.ireturn, 1) := by decide +kernel
theorem dX4_clipping_0 : decode cX4_clipping 0 = .ok (.iload_n 1, 1) := by decide +kernel
theorem dX4_clipping_1 : decode cX4_clipping 1 = .ok (.iconst 0, 1) := by decide +kernel
theorem dX4_clipping_2 : decode cX4_clipping 2 = .ok (.iconst 1, 1) := by decide +kernel
theorem dX4_clipping_3 : decode cX4_clipping 3 = .ok (.invokestatic 46, 3) := by decide +kernel
theorem dX4_clipping_6 : decode cX4_clipping 6 = .ok (.ifCond .eq 10, 3) := by decide +kernel
theorem dX4_clipping_9 : decode cX4_clipping 9 = .ok (.aload_n 0, 1) := by decide +kernel
theorem dX4_clipping_10 : decode cX4_clipping 10 = .ok (.invokevirtual 191, 3) := by decide +kernel
theorem dX4_clipping_13 : decode cX4_clipping 13 = .ok (.goto 4, 3) := by decide +kernel
theorem dX4_clipping_16 : decode cX4_clipping 16 = .ok (.iconst (-1), 1) := by decide +kernel
theorem dX4_clipping_17 : decode cX4_clipping 17 = .ok (.ireturn, 1) := by decide +kernel
theorem dX4_allHeights_0 : decode cX4_allHeights 0 = .ok (.iconst 0, 1) := by decide +kernel
theorem dX4_allHeights_1 : decode cX4_allHeights 1 = .ok (.istore_n 1, 1) := by decide +kernel
theorem dX4_allHeights_2 : decode cX4_allHeights 2 = .ok (.iconst 0, 1) := by decide +kernel
theorem dX4_allHeights_3 : decode cX4_allHeights 3 = .ok (.istore_n 2, 1) := by decide +kernel
theorem dX4_allHeights_4 : decode cX4_allHeights 4 = .ok (.iload_n 2, 1) := by decide +kernel
theorem dX4_allHeights_5 : decode cX4_allHeights 5 = .ok (.bipush 8, 2) := by decide +kernel
theorem dX4_allHeights_7 : decode cX4_allHeights 7 = .ok (.if_icmp .ge 18, 3) := by decide +kernel
theorem dX4_allHeights_10 : decode cX4_allHeights 10 = .ok (.iload_n 1, 1) := by decide +kernel
theorem dX4_allHeights_11 : decode cX4_allHeights 11 = .ok (.aload_n 0, 1) := by decide +kernel
theorem dX4_allHeights_12 : decode cX4_allHeights 12 = .ok (.iload_n 2, 1) := by decide +kernel
theorem dX4_allHeights_13 : decode cX4_allHeights 13 = .ok (.iconst 0, 1) := by decide +kernel
theorem dX4_allHeights_14 : decode cX4_allHeights 14 = .ok (.invokevirtual 50, 3) := by decide +kernel
theorem dX4_allHeights_17 : decode cX4_allHeights 17 = .ok (.iadd, 1) := by decide +kernel
theorem dX4_allHeights_18 : decode cX4_allHeights 18 = .ok (.istore_n 1, 1) := by decide +kernel
theorem dX4_allHeights_19 : decode cX4_allHeights 19 = .ok (.iinc 2 1, 3) := by decide +kernel
theorem dX4_allHeights_22 : decode cX4_allHeights 22 = .ok (.goto (-18), 3) := by decide +kernel
theorem dX4_allHeights_25 : decode cX4_allHeights 25 = .ok (.iload_n 1, 1) := by decide +kernel
theorem dX4_allHeights_26 : decode cX4_allHeights 26 = .ok (.ireturn, 1) := by decide +kernel
theorem dX4_nested_0 : decode cX4_nested 0 = .ok (.iconst 0, 1) := by decide +kernel
theorem dX4_nested_1 : decode cX4_nested 1 = .ok (.istore_n 1, 1) := by decide +kernel
theorem dX4_nested_2 : decode cX4_nested 2 = .ok (.iconst 0, 1) := by decide +kernel
theorem dX4_nested_3 : decode cX4_nested 3 = .ok (.istore_n 2, 1) := by decide +kernel
theorem dX4_nested_4 : decode cX4_nested 4 = .ok (.iload_n 2, 1) := by decide +kernel
theorem dX4_nested_5 : decode cX4_nested 5 = .ok (.bipush 8, 2) := by decide +kernel
theorem dX4_nested_7 : decode cX4_nested 7 = .ok (.if_icmp .ge 25, 3) := by decide +kernel
theorem dX4_nested_10 : decode cX4_nested 10 = .ok (.iload_n 1, 1) := by decide +kernel
theorem dX4_nested_11 : decode cX4_nested 11 = .ok (.aload_n 0, 1) := by decide +kernel
theorem dX4_nested_12 : decode cX4_nested 12 = .ok (.iload_n 2, 1) := by decide +kernel
theorem dX4_nested_13 : decode cX4_nested 13 = .ok (.invokevirtual 106, 3) := by decide +kernel
theorem dX4_nested_16 : decode cX4_nested 16 = .ok (.ifCond .eq 7, 3) := by decide +kernel
theorem dX4_nested_19 : decode cX4_nested 19 = .ok (.iconst 1, 1) := by decide +kernel
theorem dX4_nested_20 : decode cX4_nested 20 = .ok (.goto 4, 3) := by decide +kernel
theorem dX4_nested_23 : decode cX4_nested 23 = .ok (.iconst 0, 1) := by decide +kernel
theorem dX4_nested_24 : decode cX4_nested 24 = .ok (.iadd, 1) := by decide +kernel
theorem dX4_nested_25 : decode cX4_nested 25 = .ok (.istore_n 1, 1) := by decide +kernel
theorem dX4_nested_26 : decode cX4_nested 26 = .ok (.iinc 2 1, 3) := by decide +kernel
theorem dX4_nested_29 : decode cX4_nested 29 = .ok (.goto (-25), 3) := by decide +kernel
theorem dX4_nested_32 : decode cX4_nested 32 = .ok (.iload_n 1, 1) := by decide +kernel
theorem dX4_nested_33 : decode cX4_nested 33 = .ok (.ireturn, 1) := by decide +kernel
theorem dX4_count_0 : decode cX4_count 0 = .ok (.iload_n 1, 1) := by decide +kernel
theorem dX4_count_1 : decode cX4_count 1 = .ok (.tableswitch 130 0 12 #[67, 74, 81, 86, 91, 96, 101, 108, 108, 108, 108, 120, 125], 67) := by decide +kernel
theorem dX4_count_68 : decode cX4_count 68 = .ok (.aload_n 0, 1) := by decide +kernel
theorem dX4_count_69 : decode cX4_count 69 = .ok (.getfield 7, 3) := by decide +kernel
theorem dX4_count_72 : decode cX4_count 72 = .ok (.iconst 0, 1) := by decide +kernel
theorem dX4_count_73 : decode cX4_count 73 = .ok (.iaload, 1) := by decide +kernel
theorem dX4_count_74 : decode cX4_count 74 = .ok (.ireturn, 1) := by decide +kernel
theorem dX4_count_75 : decode cX4_count 75 = .ok (.aload_n 0, 1) := by decide +kernel
theorem dX4_count_76 : decode cX4_count 76 = .ok (.getfield 7, 3) := by decide +kernel
theorem dX4_count_79 : decode cX4_count 79 = .ok (.iconst 2, 1) := by decide +kernel
theorem dX4_count_80 : decode cX4_count 80 = .ok (.iaload, 1) := by decide +kernel
theorem dX4_count_81 : decode cX4_count 81 = .ok (.ireturn, 1) := by decide +kernel
theorem dX4_count_82 : decode cX4_count 82 = .ok (.aload_n 0, 1) := by decide +kernel
theorem dX4_count_83 : decode cX4_count 83 = .ok (.invokevirtual 194, 3) := by decide +kernel
theorem dX4_count_86 : decode cX4_count 86 = .ok (.ireturn, 1) := by decide +kernel
theorem dX4_count_87 : decode cX4_count 87 = .ok (.aload_n 0, 1) := by decide +kernel
theorem dX4_count_88 : decode cX4_count 88 = .ok (.invokevirtual 123, 3) := by decide +kernel
theorem dX4_count_91 : decode cX4_count 91 = .ok (.ireturn, 1) := by decide +kernel
theorem dX4_count_92 : decode cX4_count 92 = .ok (.aload_n 0, 1) := by decide +kernel
theorem dX4_count_93 : decode cX4_count 93 = .ok (.invokevirtual 197, 3) := by decide +kernel
theorem dX4_count_96 : decode cX4_count 96 = .ok (.ireturn, 1) := by decide +kernel
theorem dX4_count_97 : decode cX4_count 97 = .ok (.aload_n 0, 1) := by decide +kernel
theorem dX4_count_98 : decode cX4_count 98 = .ok (.invokevirtual 200, 3) := by decide +kernel
theorem dX4_count_101 : decode cX4_count 101 = .ok (.ireturn, 1) := by decide +kernel
theorem dX4_count_102 : decode cX4_count 102 = .ok (.aload_n 0, 1) := by decide +kernel
theorem dX4_count_103 : decode cX4_count 103 = .ok (.getfield 7, 3) := by decide +kernel
theorem dX4_count_106 : decode cX4_count 106 = .ok (.iconst 1, 1) := by decide +kernel
theorem dX4_count_107 : decode cX4_count 107 = .ok (.iaload, 1) := by decide +kernel
theorem dX4_count_108 : decode cX4_count 108 = .ok (.ireturn, 1) := by decide +kernel
theorem dX4_count_109 : decode cX4_count 109 = .ok (.aload_n 0, 1) := by decide +kernel
theorem dX4_count_110 : decode cX4_count 110 = .ok (.getfield 7, 3) := by decide +kernel
theorem dX4_count_113 : decode cX4_count 113 = .ok (.iconst 3, 1) := by decide +kernel
theorem dX4_count_114 : decode cX4_count 114 = .ok (.iload_n 1, 1) := by decide +kernel
theorem dX4_count_115 : decode cX4_count 115 = .ok (.iadd, 1) := by decide +kernel
theorem dX4_count_116 : decode cX4_count 116 = .ok (.bipush 7, 2) := by decide +kernel
theorem dX4_count_118 : decode cX4_count 118 = .ok (.isub, 1) := by decide +kernel
theorem dX4_count_119 : decode cX4_count 119 = .ok (.iaload, 1) := by decide +kernel
theorem dX4_count_120 : decode cX4_count 120 = .ok (.ireturn, 1) := by decide +kernel
theorem dX4_count_121 : decode cX4_count 121 = .ok (.aload_n 0, 1) := by decide +kernel
theorem dX4_count_122 : decode cX4_count 122 = .ok (.getfield 135, 3) := by decide +kernel
theorem dX4_count_125 : decode cX4_count 125 = .ok (.ireturn, 1) := by decide +kernel
theorem dX4_count_126 : decode cX4_count 126 = .ok (.aload_n 0, 1) := by decide +kernel
theorem dX4_count_127 : decode cX4_count 127 = .ok (.getfield 38, 3) := by decide +kernel
theorem dX4_count_130 : decode cX4_count 130 = .ok (.ireturn, 1) := by decide +kernel
theorem dX4_count_131 : decode cX4_count 131 = .ok (.iconst (-1), 1) := by decide +kernel
theorem dX4_count_132 : decode cX4_count 132 = .ok (.ireturn, 1) := by decide +kernel
theorem dX4_peace_0 : decode cX4_peace 0 = .ok (.aload_n 0, 1) := by decide +kernel
theorem dX4_peace_1 : decode cX4_peace 1 = .ok (.invokevirtual 194, 3) := by decide +kernel
theorem dX4_peace_4 : decode cX4_peace 4 = .ok (.ifCond .ne 7, 3) := by decide +kernel
theorem dX4_peace_7 : decode cX4_peace 7 = .ok (.dconst 1, 1) := by decide +kernel
theorem dX4_peace_8 : decode cX4_peace 8 = .ok (.goto 19, 3) := by decide +kernel
theorem dX4_peace_11 : decode cX4_peace 11 = .ok (.aload_n 0, 1) := by decide +kernel
theorem dX4_peace_12 : decode cX4_peace 12 = .ok (.invokevirtual 194, 3) := by decide +kernel
theorem dX4_peace_15 : decode cX4_peace 15 = .ok (.aload_n 0, 1) := by decide +kernel
theorem dX4_peace_16 : decode cX4_peace 16 = .ok (.invokevirtual 123, 3) := by decide +kernel
theorem dX4_peace_19 : decode cX4_peace 19 = .ok (.isub, 1) := by decide +kernel
theorem dX4_peace_20 : decode cX4_peace 20 = .ok (.i2d, 1) := by decide +kernel
theorem dX4_peace_21 : decode cX4_peace 21 = .ok (.aload_n 0, 1) := by decide +kernel
theorem dX4_peace_22 : decode cX4_peace 22 = .ok (.invokevirtual 194, 3) := by decide +kernel
theorem dX4_peace_25 : decode cX4_peace 25 = .ok (.i2d, 1) := by decide +kernel
theorem dX4_peace_26 : decode cX4_peace 26 = .ok (.ddiv, 1) := by decide +kernel
theorem dX4_peace_27 : decode cX4_peace 27 = .ok (.dreturn, 1) := by decide +kernel
theorem dX4_ifDays_0 : decode cX4_ifDays 0 = .ok (.iload_n 1, 1) := by decide +kernel
theorem dX4_ifDays_1 : decode cX4_ifDays 1 = .ok (.iconst 1, 1) := by decide +kernel
theorem dX4_ifDays_2 : decode cX4_ifDays 2 = .ok (.bipush 30, 2) := by decide +kernel
theorem dX4_ifDays_4 : decode cX4_ifDays 4 = .ok (.invokestatic 46, 3) := by decide +kernel
theorem dX4_ifDays_7 : decode cX4_ifDays 7 = .ok (.ifCond .eq 12, 3) := by decide +kernel
theorem dX4_ifDays_10 : decode cX4_ifDays 10 = .ok (.iload_n 2, 1) := by decide +kernel
theorem dX4_ifDays_11 : decode cX4_ifDays 11 = .ok (.iconst 0, 1) := by decide +kernel
theorem dX4_ifDays_12 : decode cX4_ifDays 12 = .ok (.iconst 1, 1) := by decide +kernel
theorem dX4_ifDays_13 : decode cX4_ifDays 13 = .ok (.invokestatic 46, 3) := by decide +kernel
theorem dX4_ifDays_16 : decode cX4_ifDays 16 = .ok (.ifCond .ne 5, 3) := by decide +kernel
theorem dX4_ifDays_19 : decode cX4_ifDays 19 = .ok (.iconst (-1), 1) := by decide +kernel
theorem dX4_ifDays_20 : decode cX4_ifDays 20 = .ok (.ireturn, 1) := by decide +kernel
theorem dX4_ifDays_21 : decode cX4_ifDays 21 = .ok (.aload_n 0, 1) := by decide +kernel
theorem dX4_ifDays_22 : decode cX4_ifDays 22 = .ok (.getfield 7, 3) := by decide +kernel
theorem dX4_ifDays_25 : decode cX4_ifDays 25 = .ok (.iconst 0, 1) := by decide +kernel
theorem dX4_ifDays_26 : decode cX4_ifDays 26 = .ok (.aload_n 0, 1) := by decide +kernel
theorem dX4_ifDays_27 : decode cX4_ifDays 27 = .ok (.getfield 13, 3) := by decide +kernel
theorem dX4_ifDays_30 : decode cX4_ifDays 30 = .ok (.iconst 0, 1) := by decide +kernel
theorem dX4_ifDays_31 : decode cX4_ifDays 31 = .ok (.invokestatic 42, 3) := by decide +kernel
theorem dX4_ifDays_34 : decode cX4_ifDays 34 = .ok (.iconst 0, 1) := by decide +kernel
theorem dX4_ifDays_35 : decode cX4_ifDays 35 = .ok (.istore_n 3, 1) := by decide +kernel
theorem dX4_ifDays_36 : decode cX4_ifDays 36 = .ok (.iload_n 3, 1) := by decide +kernel
theorem dX4_ifDays_37 : decode cX4_ifDays 37 = .ok (.iload_n 1, 1) := by decide +kernel
theorem dX4_ifDays_38 : decode cX4_ifDays 38 = .ok (.if_icmp .ge 13, 3) := by decide +kernel
theorem dX4_ifDays_41 : decode cX4_ifDays 41 = .ok (.aload_n 0, 1) := by decide +kernel
theorem dX4_ifDays_42 : decode cX4_ifDays 42 = .ok (.invokevirtual 120, 3) := by decide +kernel
theorem dX4_ifDays_45 : decode cX4_ifDays 45 = .ok (.iinc 3 1, 3) := by decide +kernel
theorem dX4_ifDays_48 : decode cX4_ifDays 48 = .ok (.goto (-12), 3) := by decide +kernel
theorem dX4_ifDays_51 : decode cX4_ifDays 51 = .ok (.iload_n 2, 1) := by decide +kernel
theorem dX4_ifDays_52 : decode cX4_ifDays 52 = .ok (.ifCond .ne 10, 3) := by decide +kernel
theorem dX4_ifDays_55 : decode cX4_ifDays 55 = .ok (.aload_n 0, 1) := by decide +kernel
theorem dX4_ifDays_56 : decode cX4_ifDays 56 = .ok (.invokevirtual 123, 3) := by decide +kernel
theorem dX4_ifDays_59 : decode cX4_ifDays 59 = .ok (.goto 7, 3) := by decide +kernel
theorem dX4_ifDays_62 : decode cX4_ifDays 62 = .ok (.aload_n 0, 1) := by decide +kernel
theorem dX4_ifDays_63 : decode cX4_ifDays 63 = .ok (.invokevirtual 197, 3) := by decide +kernel
theorem dX4_ifDays_66 : decode cX4_ifDays 66 = .ok (.istore_n 3, 1) := by decide +kernel
theorem dX4_ifDays_67 : decode cX4_ifDays 67 = .ok (.aload_n 0, 1) := by decide +kernel
theorem dX4_ifDays_68 : decode cX4_ifDays 68 = .ok (.getfield 13, 3) := by decide +kernel
theorem dX4_ifDays_71 : decode cX4_ifDays 71 = .ok (.iconst 0, 1) := by decide +kernel
theorem dX4_ifDays_72 : decode cX4_ifDays 72 = .ok (.aload_n 0, 1) := by decide +kernel
theorem dX4_ifDays_73 : decode cX4_ifDays 73 = .ok (.getfield 7, 3) := by decide +kernel
theorem dX4_ifDays_76 : decode cX4_ifDays 76 = .ok (.iconst 0, 1) := by decide +kernel
theorem dX4_ifDays_77 : decode cX4_ifDays 77 = .ok (.invokestatic 42, 3) := by decide +kernel
theorem dX4_ifDays_80 : decode cX4_ifDays 80 = .ok (.iload_n 3, 1) := by decide +kernel
theorem dX4_ifDays_81 : decode cX4_ifDays 81 = .ok (.ireturn, 1) := by decide +kernel
theorem dX4_breaksIn_0 : decode cX4_breaksIn 0 = .ok (.aload_n 0, 1) := by decide +kernel
theorem dX4_breaksIn_1 : decode cX4_breaksIn 1 = .ok (.getfield 7, 3) := by decide +kernel
theorem dX4_breaksIn_4 : decode cX4_breaksIn 4 = .ok (.iconst 0, 1) := by decide +kernel
theorem dX4_breaksIn_5 : decode cX4_breaksIn 5 = .ok (.aload_n 0, 1) := by decide +kernel
theorem dX4_breaksIn_6 : decode cX4_breaksIn 6 = .ok (.getfield 13, 3) := by decide +kernel
theorem dX4_breaksIn_9 : decode cX4_breaksIn 9 = .ok (.iconst 0, 1) := by decide +kernel
theorem dX4_breaksIn_10 : decode cX4_breaksIn 10 = .ok (.invokestatic 42, 3) := by decide +kernel
theorem dX4_breaksIn_13 : decode cX4_breaksIn 13 = .ok (.iconst 0, 1) := by decide +kernel
theorem dX4_breaksIn_14 : decode cX4_breaksIn 14 = .ok (.istore_n 1, 1) := by decide +kernel
theorem dX4_breaksIn_15 : decode cX4_breaksIn 15 = .ok (.iload_n 1, 1) := by decide +kernel
theorem dX4_breaksIn_16 : decode cX4_breaksIn 16 = .ok (.bipush 60, 2) := by decide +kernel
theorem dX4_breaksIn_18 : decode cX4_breaksIn 18 = .ok (.if_icmp .ge 20, 3) := by decide +kernel
theorem dX4_breaksIn_21 : decode cX4_breaksIn 21 = .ok (.aload_n 0, 1) := by decide +kernel
theorem dX4_breaksIn_22 : decode cX4_breaksIn 22 = .ok (.invokevirtual 123, 3) := by decide +kernel
theorem dX4_breaksIn_25 : decode cX4_breaksIn 25 = .ok (.ifCond .ne 13, 3) := by decide +kernel
theorem dX4_breaksIn_28 : decode cX4_breaksIn 28 = .ok (.aload_n 0, 1) := by decide +kernel
theorem dX4_breaksIn_29 : decode cX4_breaksIn 29 = .ok (.invokevirtual 120, 3) := by decide +kernel
theorem dX4_breaksIn_32 : decode cX4_breaksIn 32 = .ok (.iinc 1 1, 3) := by decide +kernel
theorem dX4_breaksIn_35 : decode cX4_breaksIn 35 = .ok (.goto (-20), 3) := by decide +kernel
theorem dX4_breaksIn_38 : decode cX4_breaksIn 38 = .ok (.aload_n 0, 1) := by decide +kernel
theorem dX4_breaksIn_39 : decode cX4_breaksIn 39 = .ok (.invokevirtual 123, 3) := by decide +kernel
theorem dX4_breaksIn_42 : decode cX4_breaksIn 42 = .ok (.ifCond .ne 8, 3) := by decide +kernel
theorem dX4_breaksIn_45 : decode cX4_breaksIn 45 = .ok (.bipush (-4), 2) := by decide +kernel
theorem dX4_breaksIn_47 : decode cX4_breaksIn 47 = .ok (.goto 4, 3) := by decide +kernel
theorem dX4_breaksIn_50 : decode cX4_breaksIn 50 = .ok (.iload_n 1, 1) := by decide +kernel
theorem dX4_breaksIn_51 : decode cX4_breaksIn 51 = .ok (.istore_n 2, 1) := by decide +kernel
theorem dX4_breaksIn_52 : decode cX4_breaksIn 52 = .ok (.aload_n 0, 1) := by decide +kernel
theorem dX4_breaksIn_53 : decode cX4_breaksIn 53 = .ok (.getfield 13, 3) := by decide +kernel
theorem dX4_breaksIn_56 : decode cX4_breaksIn 56 = .ok (.iconst 0, 1) := by decide +kernel
theorem dX4_breaksIn_57 : decode cX4_breaksIn 57 = .ok (.aload_n 0, 1) := by decide +kernel
theorem dX4_breaksIn_58 : decode cX4_breaksIn 58 = .ok (.getfield 7, 3) := by decide +kernel
theorem dX4_breaksIn_61 : decode cX4_breaksIn 61 = .ok (.iconst 0, 1) := by decide +kernel
theorem dX4_breaksIn_62 : decode cX4_breaksIn 62 = .ok (.invokestatic 42, 3) := by decide +kernel
theorem dX4_breaksIn_65 : decode cX4_breaksIn 65 = .ok (.iload_n 2, 1) := by decide +kernel
theorem dX4_breaksIn_66 : decode cX4_breaksIn 66 = .ok (.ireturn, 1) := by decide +kernel
theorem dX4_tightest_0 : decode cX4_tightest 0 = .ok (.iload_n 1, 1) := by decide +kernel
theorem dX4_tightest_1 : decode cX4_tightest 1 = .ok (.iload_n 2, 1) := by decide +kernel
theorem dX4_tightest_2 : decode cX4_tightest 2 = .ok (.invokestatic 90, 3) := by decide +kernel
theorem dX4_tightest_5 : decode cX4_tightest 5 = .ok (.ifCond .ne 5, 3) := by decide +kernel
theorem dX4_tightest_8 : decode cX4_tightest 8 = .ok (.iconst (-1), 1) := by decide +kernel
theorem dX4_tightest_9 : decode cX4_tightest 9 = .ok (.ireturn, 1) := by decide +kernel
theorem dX4_tightest_10 : decode cX4_tightest 10 = .ok (.bipush (-4), 2) := by decide +kernel
theorem dX4_tightest_12 : decode cX4_tightest 12 = .ok (.istore_n 3, 1) := by decide +kernel
theorem dX4_tightest_13 : decode cX4_tightest 13 = .ok (.bipush 60, 2) := by decide +kernel
theorem dX4_tightest_15 : decode cX4_tightest 15 = .ok (.istore 4, 2) := by decide +kernel
theorem dX4_tightest_17 : decode cX4_tightest 17 = .ok (.iload 4, 2) := by decide +kernel
theorem dX4_tightest_19 : decode cX4_tightest 19 = .ok (.bipush (-30), 2) := by decide +kernel
theorem dX4_tightest_21 : decode cX4_tightest 21 = .ok (.if_icmp .lt 30, 3) := by decide +kernel
theorem dX4_tightest_24 : decode cX4_tightest 24 = .ok (.aload_n 0, 1) := by decide +kernel
theorem dX4_tightest_25 : decode cX4_tightest 25 = .ok (.iload_n 1, 1) := by decide +kernel
theorem dX4_tightest_26 : decode cX4_tightest 26 = .ok (.iload_n 2, 1) := by decide +kernel
theorem dX4_tightest_27 : decode cX4_tightest 27 = .ok (.iload 4, 2) := by decide +kernel
theorem dX4_tightest_29 : decode cX4_tightest 29 = .ok (.invokevirtual 80, 3) := by decide +kernel
theorem dX4_tightest_32 : decode cX4_tightest 32 = .ok (.ifCond .eq 11, 3) := by decide +kernel
theorem dX4_tightest_35 : decode cX4_tightest 35 = .ok (.iload 4, 2) := by decide +kernel
theorem dX4_tightest_37 : decode cX4_tightest 37 = .ok (.bipush 100, 2) := by decide +kernel
theorem dX4_tightest_39 : decode cX4_tightest 39 = .ok (.iadd, 1) := by decide +kernel
theorem dX4_tightest_40 : decode cX4_tightest 40 = .ok (.goto 4, 3) := by decide +kernel
theorem dX4_tightest_43 : decode cX4_tightest 43 = .ok (.iload_n 3, 1) := by decide +kernel
theorem dX4_tightest_44 : decode cX4_tightest 44 = .ok (.istore_n 3, 1) := by decide +kernel
theorem dX4_tightest_45 : decode cX4_tightest 45 = .ok (.iinc 4 (-1), 3) := by decide +kernel
theorem dX4_tightest_48 : decode cX4_tightest 48 = .ok (.goto (-31), 3) := by decide +kernel
theorem dX4_tightest_51 : decode cX4_tightest 51 = .ok (.iload_n 3, 1) := by decide +kernel
theorem dX4_tightest_52 : decode cX4_tightest 52 = .ok (.ireturn, 1) := by decide +kernel
theorem dX4_undo_0 : decode cX4_undo 0 = .ok (.aload_n 0, 1) := by decide +kernel
theorem dX4_undo_1 : decode cX4_undo 1 = .ok (.getfield 38, 3) := by decide +kernel
theorem dX4_undo_4 : decode cX4_undo 4 = .ok (.ifCond .ne 6, 3) := by decide +kernel
theorem dX4_undo_7 : decode cX4_undo 7 = .ok (.bipush (-2), 2) := by decide +kernel
theorem dX4_undo_9 : decode cX4_undo 9 = .ok (.ireturn, 1) := by decide +kernel
theorem dX4_undo_10 : decode cX4_undo 10 = .ok (.aload_n 0, 1) := by decide +kernel
theorem dX4_undo_11 : decode cX4_undo 11 = .ok (.dup, 1) := by decide +kernel
theorem dX4_undo_12 : decode cX4_undo 12 = .ok (.getfield 38, 3) := by decide +kernel
theorem dX4_undo_15 : decode cX4_undo 15 = .ok (.iconst 1, 1) := by decide +kernel
theorem dX4_undo_16 : decode cX4_undo 16 = .ok (.isub, 1) := by decide +kernel
theorem dX4_undo_17 : decode cX4_undo 17 = .ok (.putfield 38, 3) := by decide +kernel
theorem dX4_undo_20 : decode cX4_undo 20 = .ok (.aload_n 0, 1) := by decide +kernel
theorem dX4_undo_21 : decode cX4_undo 21 = .ok (.getfield 16, 3) := by decide +kernel
theorem dX4_undo_24 : decode cX4_undo 24 = .ok (.bipush 95, 2) := by decide +kernel
theorem dX4_undo_26 : decode cX4_undo 26 = .ok (.aload_n 0, 1) := by decide +kernel
theorem dX4_undo_27 : decode cX4_undo 27 = .ok (.getfield 38, 3) := by decide +kernel
theorem dX4_undo_30 : decode cX4_undo 30 = .ok (.imul, 1) := by decide +kernel
theorem dX4_undo_31 : decode cX4_undo 31 = .ok (.aload_n 0, 1) := by decide +kernel
theorem dX4_undo_32 : decode cX4_undo 32 = .ok (.getfield 7, 3) := by decide +kernel
theorem dX4_undo_35 : decode cX4_undo 35 = .ok (.iconst 0, 1) := by decide +kernel
theorem dX4_undo_36 : decode cX4_undo 36 = .ok (.invokestatic 42, 3) := by decide +kernel
theorem dX4_undo_39 : decode cX4_undo 39 = .ok (.aload_n 0, 1) := by decide +kernel
theorem dX4_undo_40 : decode cX4_undo 40 = .ok (.getfield 38, 3) := by decide +kernel
theorem dX4_undo_43 : decode cX4_undo 43 = .ok (.ireturn, 1) := by decide +kernel
theorem dX4_save_0 : decode cX4_save 0 = .ok (.aload_n 0, 1) := by decide +kernel
theorem dX4_save_1 : decode cX4_save 1 = .ok (.getfield 7, 3) := by decide +kernel
theorem dX4_save_4 : decode cX4_save 4 = .ok (.iconst 0, 1) := by decide +kernel
theorem dX4_save_5 : decode cX4_save 5 = .ok (.aload_n 0, 1) := by decide +kernel
theorem dX4_save_6 : decode cX4_save 6 = .ok (.getfield 19, 3) := by decide +kernel
theorem dX4_save_9 : decode cX4_save 9 = .ok (.iconst 0, 1) := by decide +kernel
theorem dX4_save_10 : decode cX4_save 10 = .ok (.invokestatic 42, 3) := by decide +kernel
theorem dX4_save_13 : decode cX4_save 13 = .ok (.aload_n 0, 1) := by decide +kernel
theorem dX4_save_14 : decode cX4_save 14 = .ok (.iconst 1, 1) := by decide +kernel
theorem dX4_save_15 : decode cX4_save 15 = .ok (.putfield 203, 3) := by decide +kernel
theorem dX4_save_18 : decode cX4_save 18 = .ok (.aload_n 0, 1) := by decide +kernel
theorem dX4_save_19 : decode cX4_save 19 = .ok (.getfield 7, 3) := by decide +kernel
theorem dX4_save_22 : decode cX4_save 22 = .ok (.iconst 2, 1) := by decide +kernel
theorem dX4_save_23 : decode cX4_save 23 = .ok (.iaload, 1) := by decide +kernel
theorem dX4_save_24 : decode cX4_save 24 = .ok (.ireturn, 1) := by decide +kernel
theorem dX4_restore_0 : decode cX4_restore 0 = .ok (.aload_n 0, 1) := by decide +kernel
theorem dX4_restore_1 : decode cX4_restore 1 = .ok (.getfield 203, 3) := by decide +kernel
theorem dX4_restore_4 : decode cX4_restore 4 = .ok (.ifCond .ne 6, 3) := by decide +kernel
theorem dX4_restore_7 : decode cX4_restore 7 = .ok (.bipush (-2), 2) := by decide +kernel
theorem dX4_restore_9 : decode cX4_restore 9 = .ok (.ireturn, 1) := by decide +kernel
theorem dX4_restore_10 : decode cX4_restore 10 = .ok (.aload_n 0, 1) := by decide +kernel
theorem dX4_restore_11 : decode cX4_restore 11 = .ok (.invokevirtual 113, 3) := by decide +kernel
theorem dX4_restore_14 : decode cX4_restore 14 = .ok (.aload_n 0, 1) := by decide +kernel
theorem dX4_restore_15 : decode cX4_restore 15 = .ok (.getfield 19, 3) := by decide +kernel
theorem dX4_restore_18 : decode cX4_restore 18 = .ok (.iconst 0, 1) := by decide +kernel
theorem dX4_restore_19 : decode cX4_restore 19 = .ok (.aload_n 0, 1) := by decide +kernel
theorem dX4_restore_20 : decode cX4_restore 20 = .ok (.getfield 7, 3) := by decide +kernel
theorem dX4_restore_23 : decode cX4_restore 23 = .ok (.iconst 0, 1) := by decide +kernel
theorem dX4_restore_24 : decode cX4_restore 24 = .ok (.invokestatic 42, 3) := by decide +kernel
theorem dX4_restore_27 : decode cX4_restore 27 = .ok (.aload_n 0, 1) := by decide +kernel
theorem dX4_restore_28 : decode cX4_restore 28 = .ok (.getfield 7, 3) := by decide +kernel
theorem dX4_restore_31 : decode cX4_restore 31 = .ok (.iconst 2, 1) := by decide +kernel
theorem dX4_restore_32 : decode cX4_restore 32 = .ok (.iaload, 1) := by decide +kernel
theorem dX4_restore_33 : decode cX4_restore 33 = .ok (.ireturn, 1) := by decide +kernel
