theorem dX2_init_0 : decode cX2_init 0 = .ok (.aload_n 0, 1) := by decide +kernel
theorem dX2_init_1 : decode cX2_init 1 = .ok (.invokespecial 3, 3) := by decide +kernel
theorem dX2_init_4 : decode cX2_init 4 = .ok (.aload_n 0, 1) := by decide +kernel
theorem dX2_init_5 : decode cX2_init 5 = .ok (.bipush 8, 2) := by decide +kernel
theorem dX2_init_7 : decode cX2_init 7 = .ok (.newarray .int, 2) := by decide +kernel
theorem dX2_init_9 : decode cX2_init 9 = .ok (.putfield 9, 3) := by decide +kernel
theorem dX2_init_12 : decode cX2_init 12 = .ok (.aload_n 0, 1) := by decide +kernel
theorem dX2_init_13 : decode cX2_init 13 = .ok (.bipush 8, 2) := by decide +kernel
theorem dX2_init_15 : decode cX2_init 15 = .ok (.newarray .int, 2) := by decide +kernel
theorem dX2_init_17 : decode cX2_init 17 = .ok (.putfield 15, 3) := by decide +kernel
theorem dX2_init_20 : decode cX2_init 20 = .ok (.aload_n 0, 1) := by decide +kernel
theorem dX2_init_21 : decode cX2_init 21 = .ok (.bipush 8, 2) := by decide +kernel
theorem dX2_init_23 : decode cX2_init 23 = .ok (.bipush 8, 2) := by decide +kernel
theorem dX2_init_25 : decode cX2_init 25 = .ok (.multianewarray 18 2, 4) := by decide +kernel
theorem dX2_init_29 : decode cX2_init 29 = .ok (.putfield 20, 3) := by decide +kernel
theorem dX2_init_32 : decode cX2_init 32 = .ok (.return_, 1) := by decide +kernel
theorem dX2_boundByTreaties_0 : decode cX2_boundByTreaties 0 = .ok (.iconst 0, 1) := by decide +kernel
theorem dX2_boundByTreaties_1 : decode cX2_boundByTreaties 1 = .ok (.istore 5, 2) := by decide +kernel
theorem dX2_boundByTreaties_3 : decode cX2_boundByTreaties 3 = .ok (.iload 5, 2) := by decide +kernel
theorem dX2_boundByTreaties_5 : decode cX2_boundByTreaties 5 = .ok (.bipush 8, 2) := by decide +kernel
theorem dX2_boundByTreaties_7 : decode cX2_boundByTreaties 7 = .ok (.if_icmp .ge 28, 3) := by decide +kernel
theorem dX2_boundByTreaties_10 : decode cX2_boundByTreaties 10 = .ok (.aload_n 0, 1) := by decide +kernel
theorem dX2_boundByTreaties_11 : decode cX2_boundByTreaties 11 = .ok (.getfield 15, 3) := by decide +kernel
theorem dX2_boundByTreaties_14 : decode cX2_boundByTreaties 14 = .ok (.iload 5, 2) := by decide +kernel
theorem dX2_boundByTreaties_16 : decode cX2_boundByTreaties 16 = .ok (.iload 5, 2) := by decide +kernel
theorem dX2_boundByTreaties_18 : decode cX2_boundByTreaties 18 = .ok (.iload_n 2, 1) := by decide +kernel
theorem dX2_boundByTreaties_19 : decode cX2_boundByTreaties 19 = .ok (.if_icmp .ne 7, 3) := by decide +kernel
theorem dX2_boundByTreaties_22 : decode cX2_boundByTreaties 22 = .ok (.iconst 0, 1) := by decide +kernel
theorem dX2_boundByTreaties_23 : decode cX2_boundByTreaties 23 = .ok (.goto 5, 3) := by decide +kernel
theorem dX2_boundByTreaties_26 : decode cX2_boundByTreaties 26 = .ok (.ldc 23, 2) := by decide +kernel
theorem dX2_boundByTreaties_28 : decode cX2_boundByTreaties 28 = .ok (.iastore, 1) := by decide +kernel
theorem dX2_boundByTreaties_29 : decode cX2_boundByTreaties 29 = .ok (.iinc 5 1, 3) := by decide +kernel
theorem dX2_boundByTreaties_32 : decode cX2_boundByTreaties 32 = .ok (.goto (-29), 3) := by decide +kernel
theorem dX2_boundByTreaties_35 : decode cX2_boundByTreaties 35 = .ok (.iconst 1, 1) := by decide +kernel
theorem dX2_boundByTreaties_36 : decode cX2_boundByTreaties 36 = .ok (.istore 5, 2) := by decide +kernel
theorem dX2_boundByTreaties_38 : decode cX2_boundByTreaties 38 = .ok (.iconst 0, 1) := by decide +kernel
theorem dX2_boundByTreaties_39 : decode cX2_boundByTreaties 39 = .ok (.istore 6, 2) := by decide +kernel
theorem dX2_boundByTreaties_41 : decode cX2_boundByTreaties 41 = .ok (.iload 6, 2) := by decide +kernel
theorem dX2_boundByTreaties_43 : decode cX2_boundByTreaties 43 = .ok (.bipush 8, 2) := by decide +kernel
theorem dX2_boundByTreaties_45 : decode cX2_boundByTreaties 45 = .ok (.if_icmp .ge 23, 3) := by decide +kernel
theorem dX2_boundByTreaties_48 : decode cX2_boundByTreaties 48 = .ok (.iload 5, 2) := by decide +kernel
theorem dX2_boundByTreaties_50 : decode cX2_boundByTreaties 50 = .ok (.ifCond .eq 18, 3) := by decide +kernel
theorem dX2_boundByTreaties_53 : decode cX2_boundByTreaties 53 = .ok (.aload_n 0, 1) := by decide +kernel
theorem dX2_boundByTreaties_54 : decode cX2_boundByTreaties 54 = .ok (.aload_n 1, 1) := by decide +kernel
theorem dX2_boundByTreaties_55 : decode cX2_boundByTreaties 55 = .ok (.iload 4, 2) := by decide +kernel
theorem dX2_boundByTreaties_57 : decode cX2_boundByTreaties 57 = .ok (.invokevirtual 24, 3) := by decide +kernel
theorem dX2_boundByTreaties_60 : decode cX2_boundByTreaties 60 = .ok (.istore 5, 2) := by decide +kernel
theorem dX2_boundByTreaties_62 : decode cX2_boundByTreaties 62 = .ok (.iinc 6 1, 3) := by decide +kernel
theorem dX2_boundByTreaties_65 : decode cX2_boundByTreaties 65 = .ok (.goto (-24), 3) := by decide +kernel
theorem dX2_boundByTreaties_68 : decode cX2_boundByTreaties 68 = .ok (.aload_n 0, 1) := by decide +kernel
theorem dX2_boundByTreaties_69 : decode cX2_boundByTreaties 69 = .ok (.getfield 15, 3) := by decide +kernel
theorem dX2_boundByTreaties_72 : decode cX2_boundByTreaties 72 = .ok (.iload_n 3, 1) := by decide +kernel
theorem dX2_boundByTreaties_73 : decode cX2_boundByTreaties 73 = .ok (.iaload, 1) := by decide +kernel
theorem dX2_boundByTreaties_74 : decode cX2_boundByTreaties 74 = .ok (.ireturn, 1) := by decide +kernel
theorem dX2_shortenSums_0 : decode cX2_shortenSums 0 = .ok (.iconst 0, 1) := by decide +kernel
theorem dX2_shortenSums_1 : decode cX2_shortenSums 1 = .ok (.istore_n 3, 1) := by decide +kernel
theorem dX2_shortenSums_2 : decode cX2_shortenSums 2 = .ok (.iconst 0, 1) := by decide +kernel
theorem dX2_shortenSums_3 : decode cX2_shortenSums 3 = .ok (.istore 4, 2) := by decide +kernel
theorem dX2_shortenSums_5 : decode cX2_shortenSums 5 = .ok (.iload 4, 2) := by decide +kernel
theorem dX2_shortenSums_7 : decode cX2_shortenSums 7 = .ok (.aload_n 1, 1) := by decide +kernel
theorem dX2_shortenSums_8 : decode cX2_shortenSums 8 = .ok (.getfield 28, 3) := by decide +kernel
theorem dX2_shortenSums_11 : decode cX2_shortenSums 11 = .ok (.if_icmp .ge 92, 3) := by decide +kernel
theorem dX2_shortenSums_14 : decode cX2_shortenSums 14 = .ok (.aload_n 0, 1) := by decide +kernel
theorem dX2_shortenSums_15 : decode cX2_shortenSums 15 = .ok (.getfield 15, 3) := by decide +kernel
theorem dX2_shortenSums_18 : decode cX2_shortenSums 18 = .ok (.aload_n 1, 1) := by decide +kernel
theorem dX2_shortenSums_19 : decode cX2_shortenSums 19 = .ok (.getfield 34, 3) := by decide +kernel
theorem dX2_shortenSums_22 : decode cX2_shortenSums 22 = .ok (.iload 4, 2) := by decide +kernel
theorem dX2_shortenSums_24 : decode cX2_shortenSums 24 = .ok (.iaload, 1) := by decide +kernel
theorem dX2_shortenSums_25 : decode cX2_shortenSums 25 = .ok (.iaload, 1) := by decide +kernel
theorem dX2_shortenSums_26 : decode cX2_shortenSums 26 = .ok (.istore 5, 2) := by decide +kernel
theorem dX2_shortenSums_28 : decode cX2_shortenSums 28 = .ok (.iload 4, 2) := by decide +kernel
theorem dX2_shortenSums_30 : decode cX2_shortenSums 30 = .ok (.iload_n 2, 1) := by decide +kernel
theorem dX2_shortenSums_31 : decode cX2_shortenSums 31 = .ok (.if_icmp .eq 66, 3) := by decide +kernel
theorem dX2_shortenSums_34 : decode cX2_shortenSums 34 = .ok (.aload_n 1, 1) := by decide +kernel
theorem dX2_shortenSums_35 : decode cX2_shortenSums 35 = .ok (.iload 4, 2) := by decide +kernel
theorem dX2_shortenSums_37 : decode cX2_shortenSums 37 = .ok (.invokevirtual 37, 3) := by decide +kernel
theorem dX2_shortenSums_40 : decode cX2_shortenSums 40 = .ok (.ifCond .eq 57, 3) := by decide +kernel
theorem dX2_shortenSums_43 : decode cX2_shortenSums 43 = .ok (.iload 5, 2) := by decide +kernel
theorem dX2_shortenSums_45 : decode cX2_shortenSums 45 = .ok (.ldc 23, 2) := by decide +kernel
theorem dX2_shortenSums_47 : decode cX2_shortenSums 47 = .ok (.if_icmp .ne 6, 3) := by decide +kernel
theorem dX2_shortenSums_50 : decode cX2_shortenSums 50 = .ok (.goto 47, 3) := by decide +kernel
theorem dX2_shortenSums_53 : decode cX2_shortenSums 53 = .ok (.aload_n 1, 1) := by decide +kernel
theorem dX2_shortenSums_54 : decode cX2_shortenSums 54 = .ok (.getfield 41, 3) := by decide +kernel
theorem dX2_shortenSums_57 : decode cX2_shortenSums 57 = .ok (.iload 4, 2) := by decide +kernel
theorem dX2_shortenSums_59 : decode cX2_shortenSums 59 = .ok (.iaload, 1) := by decide +kernel
theorem dX2_shortenSums_60 : decode cX2_shortenSums 60 = .ok (.istore 6, 2) := by decide +kernel
theorem dX2_shortenSums_62 : decode cX2_shortenSums 62 = .ok (.iload 5, 2) := by decide +kernel
theorem dX2_shortenSums_64 : decode cX2_shortenSums 64 = .ok (.aload_n 1, 1) := by decide +kernel
theorem dX2_shortenSums_65 : decode cX2_shortenSums 65 = .ok (.getfield 44, 3) := by decide +kernel
theorem dX2_shortenSums_68 : decode cX2_shortenSums 68 = .ok (.iload 4, 2) := by decide +kernel
theorem dX2_shortenSums_70 : decode cX2_shortenSums 70 = .ok (.iaload, 1) := by decide +kernel
theorem dX2_shortenSums_71 : decode cX2_shortenSums 71 = .ok (.iadd, 1) := by decide +kernel
theorem dX2_shortenSums_72 : decode cX2_shortenSums 72 = .ok (.istore 7, 2) := by decide +kernel
theorem dX2_shortenSums_74 : decode cX2_shortenSums 74 = .ok (.iload 7, 2) := by decide +kernel
theorem dX2_shortenSums_76 : decode cX2_shortenSums 76 = .ok (.aload_n 0, 1) := by decide +kernel
theorem dX2_shortenSums_77 : decode cX2_shortenSums 77 = .ok (.getfield 15, 3) := by decide +kernel
theorem dX2_shortenSums_80 : decode cX2_shortenSums 80 = .ok (.iload 6, 2) := by decide +kernel
theorem dX2_shortenSums_82 : decode cX2_shortenSums 82 = .ok (.iaload, 1) := by decide +kernel
theorem dX2_shortenSums_83 : decode cX2_shortenSums 83 = .ok (.if_icmp .ge 14, 3) := by decide +kernel
theorem dX2_shortenSums_86 : decode cX2_shortenSums 86 = .ok (.aload_n 0, 1) := by decide +kernel
theorem dX2_shortenSums_87 : decode cX2_shortenSums 87 = .ok (.getfield 15, 3) := by decide +kernel
theorem dX2_shortenSums_90 : decode cX2_shortenSums 90 = .ok (.iload 6, 2) := by decide +kernel
theorem dX2_shortenSums_92 : decode cX2_shortenSums 92 = .ok (.iload 7, 2) := by decide +kernel
theorem dX2_shortenSums_94 : decode cX2_shortenSums 94 = .ok (.iastore, 1) := by decide +kernel
theorem dX2_shortenSums_95 : decode cX2_shortenSums 95 = .ok (.iconst 1, 1) := by decide +kernel
theorem dX2_shortenSums_96 : decode cX2_shortenSums 96 = .ok (.istore_n 3, 1) := by decide +kernel
theorem dX2_shortenSums_97 : decode cX2_shortenSums 97 = .ok (.iinc 4 1, 3) := by decide +kernel
theorem dX2_shortenSums_100 : decode cX2_shortenSums 100 = .ok (.goto (-95), 3) := by decide +kernel
theorem dX2_shortenSums_103 : decode cX2_shortenSums 103 = .ok (.iload_n 3, 1) := by decide +kernel
theorem dX2_shortenSums_104 : decode cX2_shortenSums 104 = .ok (.ireturn, 1) := by decide +kernel
theorem dX2_boundByPairs_0 : decode cX2_boundByPairs 0 = .ok (.aload_n 0, 1) := by decide +kernel
theorem dX2_boundByPairs_1 : decode cX2_boundByPairs 1 = .ok (.aload_n 1, 1) := by decide +kernel
theorem dX2_boundByPairs_2 : decode cX2_boundByPairs 2 = .ok (.invokevirtual 47, 3) := by decide +kernel
theorem dX2_boundByPairs_5 : decode cX2_boundByPairs 5 = .ok (.aload_n 0, 1) := by decide +kernel
theorem dX2_boundByPairs_6 : decode cX2_boundByPairs 6 = .ok (.getfield 20, 3) := by decide +kernel
theorem dX2_boundByPairs_9 : decode cX2_boundByPairs 9 = .ok (.iload_n 2, 1) := by decide +kernel
theorem dX2_boundByPairs_10 : decode cX2_boundByPairs 10 = .ok (.aaload, 1) := by decide +kernel
theorem dX2_boundByPairs_11 : decode cX2_boundByPairs 11 = .ok (.iload_n 3, 1) := by decide +kernel
theorem dX2_boundByPairs_12 : decode cX2_boundByPairs 12 = .ok (.iaload, 1) := by decide +kernel
theorem dX2_boundByPairs_13 : decode cX2_boundByPairs 13 = .ok (.ireturn, 1) := by decide +kernel
theorem dX2_findPairs_0 : decode cX2_findPairs 0 = .ok (.aload_n 0, 1) := by decide +kernel
theorem dX2_findPairs_1 : decode cX2_findPairs 1 = .ok (.aload_n 1, 1) := by decide +kernel
theorem dX2_findPairs_2 : decode cX2_findPairs 2 = .ok (.invokevirtual 51, 3) := by decide +kernel
theorem dX2_findPairs_5 : decode cX2_findPairs 5 = .ok (.iconst 0, 1) := by decide +kernel
theorem dX2_findPairs_6 : decode cX2_findPairs 6 = .ok (.istore_n 2, 1) := by decide +kernel
theorem dX2_findPairs_7 : decode cX2_findPairs 7 = .ok (.iload_n 2, 1) := by decide +kernel
theorem dX2_findPairs_8 : decode cX2_findPairs 8 = .ok (.bipush 8, 2) := by decide +kernel
theorem dX2_findPairs_10 : decode cX2_findPairs 10 = .ok (.if_icmp .ge 47, 3) := by decide +kernel
theorem dX2_findPairs_13 : decode cX2_findPairs 13 = .ok (.iconst 0, 1) := by decide +kernel
theorem dX2_findPairs_14 : decode cX2_findPairs 14 = .ok (.istore_n 3, 1) := by decide +kernel
theorem dX2_findPairs_15 : decode cX2_findPairs 15 = .ok (.iload_n 3, 1) := by decide +kernel
theorem dX2_findPairs_16 : decode cX2_findPairs 16 = .ok (.bipush 8, 2) := by decide +kernel
theorem dX2_findPairs_18 : decode cX2_findPairs 18 = .ok (.if_icmp .ge 33, 3) := by decide +kernel
theorem dX2_findPairs_21 : decode cX2_findPairs 21 = .ok (.iconst 0, 1) := by decide +kernel
theorem dX2_findPairs_22 : decode cX2_findPairs 22 = .ok (.istore 4, 2) := by decide +kernel
theorem dX2_findPairs_24 : decode cX2_findPairs 24 = .ok (.iload 4, 2) := by decide +kernel
theorem dX2_findPairs_26 : decode cX2_findPairs 26 = .ok (.bipush 8, 2) := by decide +kernel
theorem dX2_findPairs_28 : decode cX2_findPairs 28 = .ok (.if_icmp .ge 17, 3) := by decide +kernel
theorem dX2_findPairs_31 : decode cX2_findPairs 31 = .ok (.aload_n 0, 1) := by decide +kernel
theorem dX2_findPairs_32 : decode cX2_findPairs 32 = .ok (.iload_n 3, 1) := by decide +kernel
theorem dX2_findPairs_33 : decode cX2_findPairs 33 = .ok (.iload_n 2, 1) := by decide +kernel
theorem dX2_findPairs_34 : decode cX2_findPairs 34 = .ok (.iload 4, 2) := by decide +kernel
theorem dX2_findPairs_36 : decode cX2_findPairs 36 = .ok (.invokevirtual 54, 3) := by decide +kernel
theorem dX2_findPairs_39 : decode cX2_findPairs 39 = .ok (.iinc 4 1, 3) := by decide +kernel
theorem dX2_findPairs_42 : decode cX2_findPairs 42 = .ok (.goto (-18), 3) := by decide +kernel
theorem dX2_findPairs_45 : decode cX2_findPairs 45 = .ok (.iinc 3 1, 3) := by decide +kernel
theorem dX2_findPairs_48 : decode cX2_findPairs 48 = .ok (.goto (-33), 3) := by decide +kernel
theorem dX2_findPairs_51 : decode cX2_findPairs 51 = .ok (.iinc 2 1, 3) := by decide +kernel
theorem dX2_findPairs_54 : decode cX2_findPairs 54 = .ok (.goto (-47), 3) := by decide +kernel
theorem dX2_findPairs_57 : decode cX2_findPairs 57 = .ok (.return_, 1) := by decide +kernel
theorem dX2_startPairs_0 : decode cX2_startPairs 0 = .ok (.iconst 0, 1) := by decide +kernel
theorem dX2_startPairs_1 : decode cX2_startPairs 1 = .ok (.istore_n 2, 1) := by decide +kernel
theorem dX2_startPairs_2 : decode cX2_startPairs 2 = .ok (.iload_n 2, 1) := by decide +kernel
theorem dX2_startPairs_3 : decode cX2_startPairs 3 = .ok (.bipush 8, 2) := by decide +kernel
theorem dX2_startPairs_5 : decode cX2_startPairs 5 = .ok (.if_icmp .ge 42, 3) := by decide +kernel
theorem dX2_startPairs_8 : decode cX2_startPairs 8 = .ok (.iconst 0, 1) := by decide +kernel
theorem dX2_startPairs_9 : decode cX2_startPairs 9 = .ok (.istore_n 3, 1) := by decide +kernel
theorem dX2_startPairs_10 : decode cX2_startPairs 10 = .ok (.iload_n 3, 1) := by decide +kernel
theorem dX2_startPairs_11 : decode cX2_startPairs 11 = .ok (.bipush 8, 2) := by decide +kernel
theorem dX2_startPairs_13 : decode cX2_startPairs 13 = .ok (.if_icmp .ge 28, 3) := by decide +kernel
theorem dX2_startPairs_16 : decode cX2_startPairs 16 = .ok (.aload_n 0, 1) := by decide +kernel
theorem dX2_startPairs_17 : decode cX2_startPairs 17 = .ok (.getfield 20, 3) := by decide +kernel
theorem dX2_startPairs_20 : decode cX2_startPairs 20 = .ok (.iload_n 2, 1) := by decide +kernel
theorem dX2_startPairs_21 : decode cX2_startPairs 21 = .ok (.aaload, 1) := by decide +kernel
theorem dX2_startPairs_22 : decode cX2_startPairs 22 = .ok (.iload_n 3, 1) := by decide +kernel
theorem dX2_startPairs_23 : decode cX2_startPairs 23 = .ok (.iload_n 2, 1) := by decide +kernel
theorem dX2_startPairs_24 : decode cX2_startPairs 24 = .ok (.iload_n 3, 1) := by decide +kernel
theorem dX2_startPairs_25 : decode cX2_startPairs 25 = .ok (.if_icmp .ne 7, 3) := by decide +kernel
theorem dX2_startPairs_28 : decode cX2_startPairs 28 = .ok (.iconst 0, 1) := by decide +kernel
theorem dX2_startPairs_29 : decode cX2_startPairs 29 = .ok (.goto 5, 3) := by decide +kernel
theorem dX2_startPairs_32 : decode cX2_startPairs 32 = .ok (.ldc 23, 2) := by decide +kernel
theorem dX2_startPairs_34 : decode cX2_startPairs 34 = .ok (.iastore, 1) := by decide +kernel
theorem dX2_startPairs_35 : decode cX2_startPairs 35 = .ok (.iinc 3 1, 3) := by decide +kernel
theorem dX2_startPairs_38 : decode cX2_startPairs 38 = .ok (.goto (-28), 3) := by decide +kernel
theorem dX2_startPairs_41 : decode cX2_startPairs 41 = .ok (.iinc 2 1, 3) := by decide +kernel
theorem dX2_startPairs_44 : decode cX2_startPairs 44 = .ok (.goto (-42), 3) := by decide +kernel
theorem dX2_startPairs_47 : decode cX2_startPairs 47 = .ok (.iconst 0, 1) := by decide +kernel
theorem dX2_startPairs_48 : decode cX2_startPairs 48 = .ok (.istore_n 2, 1) := by decide +kernel
theorem dX2_startPairs_49 : decode cX2_startPairs 49 = .ok (.iload_n 2, 1) := by decide +kernel
theorem dX2_startPairs_50 : decode cX2_startPairs 50 = .ok (.aload_n 1, 1) := by decide +kernel
theorem dX2_startPairs_51 : decode cX2_startPairs 51 = .ok (.getfield 28, 3) := by decide +kernel
theorem dX2_startPairs_54 : decode cX2_startPairs 54 = .ok (.if_icmp .ge 59, 3) := by decide +kernel
theorem dX2_startPairs_57 : decode cX2_startPairs 57 = .ok (.aload_n 1, 1) := by decide +kernel
theorem dX2_startPairs_58 : decode cX2_startPairs 58 = .ok (.iload_n 2, 1) := by decide +kernel
theorem dX2_startPairs_59 : decode cX2_startPairs 59 = .ok (.invokevirtual 37, 3) := by decide +kernel
theorem dX2_startPairs_62 : decode cX2_startPairs 62 = .ok (.ifCond .eq 45, 3) := by decide +kernel
theorem dX2_startPairs_65 : decode cX2_startPairs 65 = .ok (.aload_n 1, 1) := by decide +kernel
theorem dX2_startPairs_66 : decode cX2_startPairs 66 = .ok (.getfield 34, 3) := by decide +kernel
theorem dX2_startPairs_69 : decode cX2_startPairs 69 = .ok (.iload_n 2, 1) := by decide +kernel
theorem dX2_startPairs_70 : decode cX2_startPairs 70 = .ok (.iaload, 1) := by decide +kernel
theorem dX2_startPairs_71 : decode cX2_startPairs 71 = .ok (.istore_n 3, 1) := by decide +kernel
theorem dX2_startPairs_72 : decode cX2_startPairs 72 = .ok (.aload_n 1, 1) := by decide +kernel
theorem dX2_startPairs_73 : decode cX2_startPairs 73 = .ok (.getfield 41, 3) := by decide +kernel
theorem dX2_startPairs_76 : decode cX2_startPairs 76 = .ok (.iload_n 2, 1) := by decide +kernel
theorem dX2_startPairs_77 : decode cX2_startPairs 77 = .ok (.iaload, 1) := by decide +kernel
theorem dX2_startPairs_78 : decode cX2_startPairs 78 = .ok (.istore 4, 2) := by decide +kernel
theorem dX2_startPairs_80 : decode cX2_startPairs 80 = .ok (.aload_n 0, 1) := by decide +kernel
theorem dX2_startPairs_81 : decode cX2_startPairs 81 = .ok (.getfield 20, 3) := by decide +kernel
theorem dX2_startPairs_84 : decode cX2_startPairs 84 = .ok (.iload_n 3, 1) := by decide +kernel
theorem dX2_startPairs_85 : decode cX2_startPairs 85 = .ok (.aaload, 1) := by decide +kernel
theorem dX2_startPairs_86 : decode cX2_startPairs 86 = .ok (.iload 4, 2) := by decide +kernel
theorem dX2_startPairs_88 : decode cX2_startPairs 88 = .ok (.aload_n 0, 1) := by decide +kernel
theorem dX2_startPairs_89 : decode cX2_startPairs 89 = .ok (.getfield 20, 3) := by decide +kernel
theorem dX2_startPairs_92 : decode cX2_startPairs 92 = .ok (.iload_n 3, 1) := by decide +kernel
theorem dX2_startPairs_93 : decode cX2_startPairs 93 = .ok (.aaload, 1) := by decide +kernel
theorem dX2_startPairs_94 : decode cX2_startPairs 94 = .ok (.iload 4, 2) := by decide +kernel
theorem dX2_startPairs_96 : decode cX2_startPairs 96 = .ok (.iaload, 1) := by decide +kernel
theorem dX2_startPairs_97 : decode cX2_startPairs 97 = .ok (.aload_n 1, 1) := by decide +kernel
theorem dX2_startPairs_98 : decode cX2_startPairs 98 = .ok (.getfield 44, 3) := by decide +kernel
theorem dX2_startPairs_101 : decode cX2_startPairs 101 = .ok (.iload_n 2, 1) := by decide +kernel
theorem dX2_startPairs_102 : decode cX2_startPairs 102 = .ok (.iaload, 1) := by decide +kernel
theorem dX2_startPairs_103 : decode cX2_startPairs 103 = .ok (.invokestatic 58, 3) := by decide +kernel
theorem dX2_startPairs_106 : decode cX2_startPairs 106 = .ok (.iastore, 1) := by decide +kernel
theorem dX2_startPairs_107 : decode cX2_startPairs 107 = .ok (.iinc 2 1, 3) := by decide +kernel
theorem dX2_startPairs_110 : decode cX2_startPairs 110 = .ok (.goto (-61), 3) := by decide +kernel
theorem dX2_startPairs_113 : decode cX2_startPairs 113 = .ok (.return_, 1) := by decide +kernel
theorem dX2_joinPair_0 : decode cX2_joinPair 0 = .ok (.aload_n 0, 1) := by decide +kernel
theorem dX2_joinPair_1 : decode cX2_joinPair 1 = .ok (.getfield 20, 3) := by decide +kernel
theorem dX2_joinPair_4 : decode cX2_joinPair 4 = .ok (.iload_n 1, 1) := by decide +kernel
theorem dX2_joinPair_5 : decode cX2_joinPair 5 = .ok (.aaload, 1) := by decide +kernel
theorem dX2_joinPair_6 : decode cX2_joinPair 6 = .ok (.iload_n 2, 1) := by decide +kernel
theorem dX2_joinPair_7 : decode cX2_joinPair 7 = .ok (.iaload, 1) := by decide +kernel
theorem dX2_joinPair_8 : decode cX2_joinPair 8 = .ok (.istore 4, 2) := by decide +kernel
theorem dX2_joinPair_10 : decode cX2_joinPair 10 = .ok (.aload_n 0, 1) := by decide +kernel
theorem dX2_joinPair_11 : decode cX2_joinPair 11 = .ok (.getfield 20, 3) := by decide +kernel
theorem dX2_joinPair_14 : decode cX2_joinPair 14 = .ok (.iload_n 2, 1) := by decide +kernel
theorem dX2_joinPair_15 : decode cX2_joinPair 15 = .ok (.aaload, 1) := by decide +kernel
theorem dX2_joinPair_16 : decode cX2_joinPair 16 = .ok (.iload_n 3, 1) := by decide +kernel
theorem dX2_joinPair_17 : decode cX2_joinPair 17 = .ok (.iaload, 1) := by decide +kernel
theorem dX2_joinPair_18 : decode cX2_joinPair 18 = .ok (.istore 5, 2) := by decide +kernel
theorem dX2_joinPair_20 : decode cX2_joinPair 20 = .ok (.iload 4, 2) := by decide +kernel
theorem dX2_joinPair_22 : decode cX2_joinPair 22 = .ok (.ldc 23, 2) := by decide +kernel
theorem dX2_joinPair_24 : decode cX2_joinPair 24 = .ok (.if_icmp .eq 39, 3) := by decide +kernel
theorem dX2_joinPair_27 : decode cX2_joinPair 27 = .ok (.iload 5, 2) := by decide +kernel
theorem dX2_joinPair_29 : decode cX2_joinPair 29 = .ok (.ldc 23, 2) := by decide +kernel
theorem dX2_joinPair_31 : decode cX2_joinPair 31 = .ok (.if_icmp .eq 32, 3) := by decide +kernel
theorem dX2_joinPair_34 : decode cX2_joinPair 34 = .ok (.iload 4, 2) := by decide +kernel
theorem dX2_joinPair_36 : decode cX2_joinPair 36 = .ok (.iload 5, 2) := by decide +kernel
theorem dX2_joinPair_38 : decode cX2_joinPair 38 = .ok (.iadd, 1) := by decide +kernel
theorem dX2_joinPair_39 : decode cX2_joinPair 39 = .ok (.aload_n 0, 1) := by decide +kernel
theorem dX2_joinPair_40 : decode cX2_joinPair 40 = .ok (.getfield 20, 3) := by decide +kernel
theorem dX2_joinPair_43 : decode cX2_joinPair 43 = .ok (.iload_n 1, 1) := by decide +kernel
theorem dX2_joinPair_44 : decode cX2_joinPair 44 = .ok (.aaload, 1) := by decide +kernel
theorem dX2_joinPair_45 : decode cX2_joinPair 45 = .ok (.iload_n 3, 1) := by decide +kernel
theorem dX2_joinPair_46 : decode cX2_joinPair 46 = .ok (.iaload, 1) := by decide +kernel
theorem dX2_joinPair_47 : decode cX2_joinPair 47 = .ok (.if_icmp .ge 16, 3) := by decide +kernel
theorem dX2_joinPair_50 : decode cX2_joinPair 50 = .ok (.aload_n 0, 1) := by decide +kernel
theorem dX2_joinPair_51 : decode cX2_joinPair 51 = .ok (.getfield 20, 3) := by decide +kernel
theorem dX2_joinPair_54 : decode cX2_joinPair 54 = .ok (.iload_n 1, 1) := by decide +kernel
theorem dX2_joinPair_55 : decode cX2_joinPair 55 = .ok (.aaload, 1) := by decide +kernel
theorem dX2_joinPair_56 : decode cX2_joinPair 56 = .ok (.iload_n 3, 1) := by decide +kernel
theorem dX2_joinPair_57 : decode cX2_joinPair 57 = .ok (.iload 4, 2) := by decide +kernel
theorem dX2_joinPair_59 : decode cX2_joinPair 59 = .ok (.iload 5, 2) := by decide +kernel
theorem dX2_joinPair_61 : decode cX2_joinPair 61 = .ok (.iadd, 1) := by decide +kernel
theorem dX2_joinPair_62 : decode cX2_joinPair 62 = .ok (.iastore, 1) := by decide +kernel
theorem dX2_joinPair_63 : decode cX2_joinPair 63 = .ok (.return_, 1) := by decide +kernel
theorem dX2_findLeastClipping_0 : decode cX2_findLeastClipping 0 = .ok (.iconst 0, 1) := by decide +kernel
theorem dX2_findLeastClipping_1 : decode cX2_findLeastClipping 1 = .ok (.istore_n 2, 1) := by decide +kernel
theorem dX2_findLeastClipping_2 : decode cX2_findLeastClipping 2 = .ok (.iload_n 2, 1) := by decide +kernel
theorem dX2_findLeastClipping_3 : decode cX2_findLeastClipping 3 = .ok (.bipush 8, 2) := by decide +kernel
theorem dX2_findLeastClipping_5 : decode cX2_findLeastClipping 5 = .ok (.if_icmp .ge 21, 3) := by decide +kernel
theorem dX2_findLeastClipping_8 : decode cX2_findLeastClipping 8 = .ok (.aload_n 0, 1) := by decide +kernel
theorem dX2_findLeastClipping_9 : decode cX2_findLeastClipping 9 = .ok (.getfield 9, 3) := by decide +kernel
theorem dX2_findLeastClipping_12 : decode cX2_findLeastClipping 12 = .ok (.iload_n 2, 1) := by decide +kernel
theorem dX2_findLeastClipping_13 : decode cX2_findLeastClipping 13 = .ok (.aload_n 1, 1) := by decide +kernel
theorem dX2_findLeastClipping_14 : decode cX2_findLeastClipping 14 = .ok (.getfield 64, 3) := by decide +kernel
theorem dX2_findLeastClipping_17 : decode cX2_findLeastClipping 17 = .ok (.iload_n 2, 1) := by decide +kernel
theorem dX2_findLeastClipping_18 : decode cX2_findLeastClipping 18 = .ok (.iaload, 1) := by decide +kernel
theorem dX2_findLeastClipping_19 : decode cX2_findLeastClipping 19 = .ok (.iastore, 1) := by decide +kernel
theorem dX2_findLeastClipping_20 : decode cX2_findLeastClipping 20 = .ok (.iinc 2 1, 3) := by decide +kernel
theorem dX2_findLeastClipping_23 : decode cX2_findLeastClipping 23 = .ok (.goto (-21), 3) := by decide +kernel
theorem dX2_findLeastClipping_26 : decode cX2_findLeastClipping 26 = .ok (.iconst 1, 1) := by decide +kernel
theorem dX2_findLeastClipping_27 : decode cX2_findLeastClipping 27 = .ok (.istore_n 2, 1) := by decide +kernel
theorem dX2_findLeastClipping_28 : decode cX2_findLeastClipping 28 = .ok (.iconst 0, 1) := by decide +kernel
theorem dX2_findLeastClipping_29 : decode cX2_findLeastClipping 29 = .ok (.istore_n 3, 1) := by decide +kernel
theorem dX2_findLeastClipping_30 : decode cX2_findLeastClipping 30 = .ok (.iload_n 3, 1) := by decide +kernel
theorem dX2_findLeastClipping_31 : decode cX2_findLeastClipping 31 = .ok (.bipush 8, 2) := by decide +kernel
theorem dX2_findLeastClipping_33 : decode cX2_findLeastClipping 33 = .ok (.if_icmp .ge 20, 3) := by decide +kernel
theorem dX2_findLeastClipping_36 : decode cX2_findLeastClipping 36 = .ok (.iload_n 2, 1) := by decide +kernel
theorem dX2_findLeastClipping_37 : decode cX2_findLeastClipping 37 = .ok (.ifCond .eq 16, 3) := by decide +kernel
theorem dX2_findLeastClipping_40 : decode cX2_findLeastClipping 40 = .ok (.aload_n 0, 1) := by decide +kernel
theorem dX2_findLeastClipping_41 : decode cX2_findLeastClipping 41 = .ok (.aload_n 1, 1) := by decide +kernel
theorem dX2_findLeastClipping_42 : decode cX2_findLeastClipping 42 = .ok (.iconst 0, 1) := by decide +kernel
theorem dX2_findLeastClipping_43 : decode cX2_findLeastClipping 43 = .ok (.invokevirtual 67, 3) := by decide +kernel
theorem dX2_findLeastClipping_46 : decode cX2_findLeastClipping 46 = .ok (.istore_n 2, 1) := by decide +kernel
theorem dX2_findLeastClipping_47 : decode cX2_findLeastClipping 47 = .ok (.iinc 3 1, 3) := by decide +kernel
theorem dX2_findLeastClipping_50 : decode cX2_findLeastClipping 50 = .ok (.goto (-20), 3) := by decide +kernel
theorem dX2_findLeastClipping_53 : decode cX2_findLeastClipping 53 = .ok (.iload_n 2, 1) := by decide +kernel
theorem dX2_findLeastClipping_54 : decode cX2_findLeastClipping 54 = .ok (.ifCond .ne 14, 3) := by decide +kernel
theorem dX2_findLeastClipping_57 : decode cX2_findLeastClipping 57 = .ok (.aload_n 0, 1) := by decide +kernel
theorem dX2_findLeastClipping_58 : decode cX2_findLeastClipping 58 = .ok (.invokevirtual 71, 3) := by decide +kernel
theorem dX2_findLeastClipping_61 : decode cX2_findLeastClipping 61 = .ok (.ifCond .eq 7, 3) := by decide +kernel
theorem dX2_findLeastClipping_64 : decode cX2_findLeastClipping 64 = .ok (.iconst 1, 1) := by decide +kernel
theorem dX2_findLeastClipping_65 : decode cX2_findLeastClipping 65 = .ok (.goto 4, 3) := by decide +kernel
theorem dX2_findLeastClipping_68 : decode cX2_findLeastClipping 68 = .ok (.iconst 0, 1) := by decide +kernel
theorem dX2_findLeastClipping_69 : decode cX2_findLeastClipping 69 = .ok (.ireturn, 1) := by decide +kernel
theorem dX2_findLeastClippingByBounds_0 : decode cX2_findLeastClippingByBounds 0 = .ok (.aload_n 0, 1) := by decide +kernel
theorem dX2_findLeastClippingByBounds_1 : decode cX2_findLeastClippingByBounds 1 = .ok (.aload_n 1, 1) := by decide +kernel
theorem dX2_findLeastClippingByBounds_2 : decode cX2_findLeastClippingByBounds 2 = .ok (.invokevirtual 47, 3) := by decide +kernel
theorem dX2_findLeastClippingByBounds_5 : decode cX2_findLeastClippingByBounds 5 = .ok (.iconst 0, 1) := by decide +kernel
theorem dX2_findLeastClippingByBounds_6 : decode cX2_findLeastClippingByBounds 6 = .ok (.istore_n 2, 1) := by decide +kernel
theorem dX2_findLeastClippingByBounds_7 : decode cX2_findLeastClippingByBounds 7 = .ok (.iload_n 2, 1) := by decide +kernel
theorem dX2_findLeastClippingByBounds_8 : decode cX2_findLeastClippingByBounds 8 = .ok (.bipush 8, 2) := by decide +kernel
theorem dX2_findLeastClippingByBounds_10 : decode cX2_findLeastClippingByBounds 10 = .ok (.if_icmp .ge 75, 3) := by decide +kernel
theorem dX2_findLeastClippingByBounds_13 : decode cX2_findLeastClippingByBounds 13 = .ok (.aload_n 1, 1) := by decide +kernel
theorem dX2_findLeastClippingByBounds_14 : decode cX2_findLeastClippingByBounds 14 = .ok (.getfield 64, 3) := by decide +kernel
theorem dX2_findLeastClippingByBounds_17 : decode cX2_findLeastClippingByBounds 17 = .ok (.iload_n 2, 1) := by decide +kernel
theorem dX2_findLeastClippingByBounds_18 : decode cX2_findLeastClippingByBounds 18 = .ok (.iaload, 1) := by decide +kernel
theorem dX2_findLeastClippingByBounds_19 : decode cX2_findLeastClippingByBounds 19 = .ok (.istore_n 3, 1) := by decide +kernel
theorem dX2_findLeastClippingByBounds_20 : decode cX2_findLeastClippingByBounds 20 = .ok (.iconst 0, 1) := by decide +kernel
theorem dX2_findLeastClippingByBounds_21 : decode cX2_findLeastClippingByBounds 21 = .ok (.istore 4, 2) := by decide +kernel
theorem dX2_findLeastClippingByBounds_23 : decode cX2_findLeastClippingByBounds 23 = .ok (.iload 4, 2) := by decide +kernel
theorem dX2_findLeastClippingByBounds_25 : decode cX2_findLeastClippingByBounds 25 = .ok (.bipush 8, 2) := by decide +kernel
theorem dX2_findLeastClippingByBounds_27 : decode cX2_findLeastClippingByBounds 27 = .ok (.if_icmp .ge 45, 3) := by decide +kernel
theorem dX2_findLeastClippingByBounds_30 : decode cX2_findLeastClippingByBounds 30 = .ok (.aload_n 0, 1) := by decide +kernel
theorem dX2_findLeastClippingByBounds_31 : decode cX2_findLeastClippingByBounds 31 = .ok (.getfield 20, 3) := by decide +kernel
theorem dX2_findLeastClippingByBounds_34 : decode cX2_findLeastClippingByBounds 34 = .ok (.iload_n 2, 1) := by decide +kernel
theorem dX2_findLeastClippingByBounds_35 : decode cX2_findLeastClippingByBounds 35 = .ok (.aaload, 1) := by decide +kernel
theorem dX2_findLeastClippingByBounds_36 : decode cX2_findLeastClippingByBounds 36 = .ok (.iload 4, 2) := by decide +kernel
theorem dX2_findLeastClippingByBounds_38 : decode cX2_findLeastClippingByBounds 38 = .ok (.iaload, 1) := by decide +kernel
theorem dX2_findLeastClippingByBounds_39 : decode cX2_findLeastClippingByBounds 39 = .ok (.ldc 23, 2) := by decide +kernel
theorem dX2_findLeastClippingByBounds_41 : decode cX2_findLeastClippingByBounds 41 = .ok (.if_icmp .eq 25, 3) := by decide +kernel
theorem dX2_findLeastClippingByBounds_44 : decode cX2_findLeastClippingByBounds 44 = .ok (.iload_n 3, 1) := by decide +kernel
theorem dX2_findLeastClippingByBounds_45 : decode cX2_findLeastClippingByBounds 45 = .ok (.aload_n 1, 1) := by decide +kernel
theorem dX2_findLeastClippingByBounds_46 : decode cX2_findLeastClippingByBounds 46 = .ok (.getfield 64, 3) := by decide +kernel
theorem dX2_findLeastClippingByBounds_49 : decode cX2_findLeastClippingByBounds 49 = .ok (.iload 4, 2) := by decide +kernel
theorem dX2_findLeastClippingByBounds_51 : decode cX2_findLeastClippingByBounds 51 = .ok (.iaload, 1) := by decide +kernel
theorem dX2_findLeastClippingByBounds_52 : decode cX2_findLeastClippingByBounds 52 = .ok (.aload_n 0, 1) := by decide +kernel
theorem dX2_findLeastClippingByBounds_53 : decode cX2_findLeastClippingByBounds 53 = .ok (.getfield 20, 3) := by decide +kernel
theorem dX2_findLeastClippingByBounds_56 : decode cX2_findLeastClippingByBounds 56 = .ok (.iload_n 2, 1) := by decide +kernel
theorem dX2_findLeastClippingByBounds_57 : decode cX2_findLeastClippingByBounds 57 = .ok (.aaload, 1) := by decide +kernel
theorem dX2_findLeastClippingByBounds_58 : decode cX2_findLeastClippingByBounds 58 = .ok (.iload 4, 2) := by decide +kernel
theorem dX2_findLeastClippingByBounds_60 : decode cX2_findLeastClippingByBounds 60 = .ok (.iaload, 1) := by decide +kernel
theorem dX2_findLeastClippingByBounds_61 : decode cX2_findLeastClippingByBounds 61 = .ok (.iadd, 1) := by decide +kernel
theorem dX2_findLeastClippingByBounds_62 : decode cX2_findLeastClippingByBounds 62 = .ok (.invokestatic 58, 3) := by decide +kernel
theorem dX2_findLeastClippingByBounds_65 : decode cX2_findLeastClippingByBounds 65 = .ok (.istore_n 3, 1) := by decide +kernel
theorem dX2_findLeastClippingByBounds_66 : decode cX2_findLeastClippingByBounds 66 = .ok (.iinc 4 1, 3) := by decide +kernel
theorem dX2_findLeastClippingByBounds_69 : decode cX2_findLeastClippingByBounds 69 = .ok (.goto (-46), 3) := by decide +kernel
theorem dX2_findLeastClippingByBounds_72 : decode cX2_findLeastClippingByBounds 72 = .ok (.aload_n 0, 1) := by decide +kernel
theorem dX2_findLeastClippingByBounds_73 : decode cX2_findLeastClippingByBounds 73 = .ok (.getfield 9, 3) := by decide +kernel
theorem dX2_findLeastClippingByBounds_76 : decode cX2_findLeastClippingByBounds 76 = .ok (.iload_n 2, 1) := by decide +kernel
theorem dX2_findLeastClippingByBounds_77 : decode cX2_findLeastClippingByBounds 77 = .ok (.iload_n 3, 1) := by decide +kernel
theorem dX2_findLeastClippingByBounds_78 : decode cX2_findLeastClippingByBounds 78 = .ok (.iastore, 1) := by decide +kernel
theorem dX2_findLeastClippingByBounds_79 : decode cX2_findLeastClippingByBounds 79 = .ok (.iinc 2 1, 3) := by decide +kernel
theorem dX2_findLeastClippingByBounds_82 : decode cX2_findLeastClippingByBounds 82 = .ok (.goto (-75), 3) := by decide +kernel
theorem dX2_findLeastClippingByBounds_85 : decode cX2_findLeastClippingByBounds 85 = .ok (.aload_n 0, 1) := by decide +kernel
theorem dX2_findLeastClippingByBounds_86 : decode cX2_findLeastClippingByBounds 86 = .ok (.invokevirtual 71, 3) := by decide +kernel
theorem dX2_findLeastClippingByBounds_89 : decode cX2_findLeastClippingByBounds 89 = .ok (.ireturn, 1) := by decide +kernel
theorem dX2_isPossibleWith_0 : decode cX2_isPossibleWith 0 = .ok (.iconst 0, 1) := by decide +kernel
theorem dX2_isPossibleWith_1 : decode cX2_isPossibleWith 1 = .ok (.istore 5, 2) := by decide +kernel
theorem dX2_isPossibleWith_3 : decode cX2_isPossibleWith 3 = .ok (.iload 5, 2) := by decide +kernel
theorem dX2_isPossibleWith_5 : decode cX2_isPossibleWith 5 = .ok (.bipush 8, 2) := by decide +kernel
theorem dX2_isPossibleWith_7 : decode cX2_isPossibleWith 7 = .ok (.if_icmp .ge 18, 3) := by decide +kernel
theorem dX2_isPossibleWith_10 : decode cX2_isPossibleWith 10 = .ok (.aload_n 0, 1) := by decide +kernel
theorem dX2_isPossibleWith_11 : decode cX2_isPossibleWith 11 = .ok (.getfield 9, 3) := by decide +kernel
theorem dX2_isPossibleWith_14 : decode cX2_isPossibleWith 14 = .ok (.iload 5, 2) := by decide +kernel
theorem dX2_isPossibleWith_16 : decode cX2_isPossibleWith 16 = .ok (.bipush 99, 2) := by decide +kernel
theorem dX2_isPossibleWith_18 : decode cX2_isPossibleWith 18 = .ok (.iastore, 1) := by decide +kernel
theorem dX2_isPossibleWith_19 : decode cX2_isPossibleWith 19 = .ok (.iinc 5 1, 3) := by decide +kernel
theorem dX2_isPossibleWith_22 : decode cX2_isPossibleWith 22 = .ok (.goto (-19), 3) := by decide +kernel
theorem dX2_isPossibleWith_25 : decode cX2_isPossibleWith 25 = .ok (.iconst 1, 1) := by decide +kernel
theorem dX2_isPossibleWith_26 : decode cX2_isPossibleWith 26 = .ok (.istore 5, 2) := by decide +kernel
theorem dX2_isPossibleWith_28 : decode cX2_isPossibleWith 28 = .ok (.iconst 0, 1) := by decide +kernel
theorem dX2_isPossibleWith_29 : decode cX2_isPossibleWith 29 = .ok (.istore 6, 2) := by decide +kernel
theorem dX2_isPossibleWith_31 : decode cX2_isPossibleWith 31 = .ok (.iload 6, 2) := by decide +kernel
theorem dX2_isPossibleWith_33 : decode cX2_isPossibleWith 33 = .ok (.bipush 8, 2) := by decide +kernel
theorem dX2_isPossibleWith_35 : decode cX2_isPossibleWith 35 = .ok (.if_icmp .ge 36, 3) := by decide +kernel
theorem dX2_isPossibleWith_38 : decode cX2_isPossibleWith 38 = .ok (.iload 5, 2) := by decide +kernel
theorem dX2_isPossibleWith_40 : decode cX2_isPossibleWith 40 = .ok (.ifCond .eq 31, 3) := by decide +kernel
theorem dX2_isPossibleWith_43 : decode cX2_isPossibleWith 43 = .ok (.aload_n 0, 1) := by decide +kernel
theorem dX2_isPossibleWith_44 : decode cX2_isPossibleWith 44 = .ok (.iload_n 2, 1) := by decide +kernel
theorem dX2_isPossibleWith_45 : decode cX2_isPossibleWith 45 = .ok (.iload_n 3, 1) := by decide +kernel
theorem dX2_isPossibleWith_46 : decode cX2_isPossibleWith 46 = .ok (.iload 4, 2) := by decide +kernel
theorem dX2_isPossibleWith_48 : decode cX2_isPossibleWith 48 = .ok (.invokevirtual 75, 3) := by decide +kernel
theorem dX2_isPossibleWith_51 : decode cX2_isPossibleWith 51 = .ok (.istore 5, 2) := by decide +kernel
theorem dX2_isPossibleWith_53 : decode cX2_isPossibleWith 53 = .ok (.aload_n 0, 1) := by decide +kernel
theorem dX2_isPossibleWith_54 : decode cX2_isPossibleWith 54 = .ok (.aload_n 1, 1) := by decide +kernel
theorem dX2_isPossibleWith_55 : decode cX2_isPossibleWith 55 = .ok (.iconst 1, 1) := by decide +kernel
theorem dX2_isPossibleWith_56 : decode cX2_isPossibleWith 56 = .ok (.invokevirtual 67, 3) := by decide +kernel
theorem dX2_isPossibleWith_59 : decode cX2_isPossibleWith 59 = .ok (.ifCond .eq 6, 3) := by decide +kernel
theorem dX2_isPossibleWith_62 : decode cX2_isPossibleWith 62 = .ok (.iconst 1, 1) := by decide +kernel
theorem dX2_isPossibleWith_63 : decode cX2_isPossibleWith 63 = .ok (.istore 5, 2) := by decide +kernel
theorem dX2_isPossibleWith_65 : decode cX2_isPossibleWith 65 = .ok (.iinc 6 1, 3) := by decide +kernel
theorem dX2_isPossibleWith_68 : decode cX2_isPossibleWith 68 = .ok (.goto (-37), 3) := by decide +kernel
theorem dX2_isPossibleWith_71 : decode cX2_isPossibleWith 71 = .ok (.iload 5, 2) := by decide +kernel
theorem dX2_isPossibleWith_73 : decode cX2_isPossibleWith 73 = .ok (.ifCond .ne 14, 3) := by decide +kernel
theorem dX2_isPossibleWith_76 : decode cX2_isPossibleWith 76 = .ok (.aload_n 0, 1) := by decide +kernel
theorem dX2_isPossibleWith_77 : decode cX2_isPossibleWith 77 = .ok (.invokevirtual 71, 3) := by decide +kernel
theorem dX2_isPossibleWith_80 : decode cX2_isPossibleWith 80 = .ok (.ifCond .eq 7, 3) := by decide +kernel
theorem dX2_isPossibleWith_83 : decode cX2_isPossibleWith 83 = .ok (.iconst 1, 1) := by decide +kernel
theorem dX2_isPossibleWith_84 : decode cX2_isPossibleWith 84 = .ok (.goto 4, 3) := by decide +kernel
theorem dX2_isPossibleWith_87 : decode cX2_isPossibleWith 87 = .ok (.iconst 0, 1) := by decide +kernel
theorem dX2_isPossibleWith_88 : decode cX2_isPossibleWith 88 = .ok (.ireturn, 1) := by decide +kernel
theorem dX2_pressByTreaties_0 : decode cX2_pressByTreaties 0 = .ok (.iconst 0, 1) := by decide +kernel
theorem dX2_pressByTreaties_1 : decode cX2_pressByTreaties 1 = .ok (.istore_n 3, 1) := by decide +kernel
theorem dX2_pressByTreaties_2 : decode cX2_pressByTreaties 2 = .ok (.iconst 0, 1) := by decide +kernel
theorem dX2_pressByTreaties_3 : decode cX2_pressByTreaties 3 = .ok (.istore 4, 2) := by decide +kernel
theorem dX2_pressByTreaties_5 : decode cX2_pressByTreaties 5 = .ok (.iload 4, 2) := by decide +kernel
theorem dX2_pressByTreaties_7 : decode cX2_pressByTreaties 7 = .ok (.aload_n 1, 1) := by decide +kernel
theorem dX2_pressByTreaties_8 : decode cX2_pressByTreaties 8 = .ok (.getfield 28, 3) := by decide +kernel
theorem dX2_pressByTreaties_11 : decode cX2_pressByTreaties 11 = .ok (.if_icmp .ge 55, 3) := by decide +kernel
theorem dX2_pressByTreaties_14 : decode cX2_pressByTreaties 14 = .ok (.iload_n 2, 1) := by decide +kernel
theorem dX2_pressByTreaties_15 : decode cX2_pressByTreaties 15 = .ok (.ifCond .ne 15, 3) := by decide +kernel
theorem dX2_pressByTreaties_18 : decode cX2_pressByTreaties 18 = .ok (.aload_n 1, 1) := by decide +kernel
theorem dX2_pressByTreaties_19 : decode cX2_pressByTreaties 19 = .ok (.iload 4, 2) := by decide +kernel
theorem dX2_pressByTreaties_21 : decode cX2_pressByTreaties 21 = .ok (.invokevirtual 37, 3) := by decide +kernel
theorem dX2_pressByTreaties_24 : decode cX2_pressByTreaties 24 = .ok (.ifCond .ne 6, 3) := by decide +kernel
theorem dX2_pressByTreaties_27 : decode cX2_pressByTreaties 27 = .ok (.goto 33, 3) := by decide +kernel
theorem dX2_pressByTreaties_30 : decode cX2_pressByTreaties 30 = .ok (.aload_n 0, 1) := by decide +kernel
theorem dX2_pressByTreaties_31 : decode cX2_pressByTreaties 31 = .ok (.aload_n 1, 1) := by decide +kernel
theorem dX2_pressByTreaties_32 : decode cX2_pressByTreaties 32 = .ok (.getfield 34, 3) := by decide +kernel
theorem dX2_pressByTreaties_35 : decode cX2_pressByTreaties 35 = .ok (.iload 4, 2) := by decide +kernel
theorem dX2_pressByTreaties_37 : decode cX2_pressByTreaties 37 = .ok (.iaload, 1) := by decide +kernel
theorem dX2_pressByTreaties_38 : decode cX2_pressByTreaties 38 = .ok (.aload_n 1, 1) := by decide +kernel
theorem dX2_pressByTreaties_39 : decode cX2_pressByTreaties 39 = .ok (.getfield 41, 3) := by decide +kernel
theorem dX2_pressByTreaties_42 : decode cX2_pressByTreaties 42 = .ok (.iload 4, 2) := by decide +kernel
theorem dX2_pressByTreaties_44 : decode cX2_pressByTreaties 44 = .ok (.iaload, 1) := by decide +kernel
theorem dX2_pressByTreaties_45 : decode cX2_pressByTreaties 45 = .ok (.aload_n 1, 1) := by decide +kernel
theorem dX2_pressByTreaties_46 : decode cX2_pressByTreaties 46 = .ok (.getfield 44, 3) := by decide +kernel
theorem dX2_pressByTreaties_49 : decode cX2_pressByTreaties 49 = .ok (.iload 4, 2) := by decide +kernel
theorem dX2_pressByTreaties_51 : decode cX2_pressByTreaties 51 = .ok (.iaload, 1) := by decide +kernel
theorem dX2_pressByTreaties_52 : decode cX2_pressByTreaties 52 = .ok (.invokevirtual 75, 3) := by decide +kernel
theorem dX2_pressByTreaties_55 : decode cX2_pressByTreaties 55 = .ok (.ifCond .eq 5, 3) := by decide +kernel
theorem dX2_pressByTreaties_58 : decode cX2_pressByTreaties 58 = .ok (.iconst 1, 1) := by decide +kernel
theorem dX2_pressByTreaties_59 : decode cX2_pressByTreaties 59 = .ok (.istore_n 3, 1) := by decide +kernel
theorem dX2_pressByTreaties_60 : decode cX2_pressByTreaties 60 = .ok (.iinc 4 1, 3) := by decide +kernel
theorem dX2_pressByTreaties_63 : decode cX2_pressByTreaties 63 = .ok (.goto (-58), 3) := by decide +kernel
theorem dX2_pressByTreaties_66 : decode cX2_pressByTreaties 66 = .ok (.iload_n 3, 1) := by decide +kernel
theorem dX2_pressByTreaties_67 : decode cX2_pressByTreaties 67 = .ok (.ireturn, 1) := by decide +kernel
theorem dX2_press_0 : decode cX2_press 0 = .ok (.aload_n 0, 1) := by decide +kernel
theorem dX2_press_1 : decode cX2_press 1 = .ok (.getfield 9, 3) := by decide +kernel
theorem dX2_press_4 : decode cX2_press 4 = .ok (.iload_n 2, 1) := by decide +kernel
theorem dX2_press_5 : decode cX2_press 5 = .ok (.iaload, 1) := by decide +kernel
theorem dX2_press_6 : decode cX2_press 6 = .ok (.iload_n 3, 1) := by decide +kernel
theorem dX2_press_7 : decode cX2_press 7 = .ok (.iadd, 1) := by decide +kernel
theorem dX2_press_8 : decode cX2_press 8 = .ok (.istore 4, 2) := by decide +kernel
theorem dX2_press_10 : decode cX2_press 10 = .ok (.aload_n 0, 1) := by decide +kernel
theorem dX2_press_11 : decode cX2_press 11 = .ok (.getfield 9, 3) := by decide +kernel
theorem dX2_press_14 : decode cX2_press 14 = .ok (.iload_n 1, 1) := by decide +kernel
theorem dX2_press_15 : decode cX2_press 15 = .ok (.iaload, 1) := by decide +kernel
theorem dX2_press_16 : decode cX2_press 16 = .ok (.iload 4, 2) := by decide +kernel
theorem dX2_press_18 : decode cX2_press 18 = .ok (.if_icmp .gt 5, 3) := by decide +kernel
theorem dX2_press_21 : decode cX2_press 21 = .ok (.iconst 0, 1) := by decide +kernel
theorem dX2_press_22 : decode cX2_press 22 = .ok (.ireturn, 1) := by decide +kernel
theorem dX2_press_23 : decode cX2_press 23 = .ok (.aload_n 0, 1) := by decide +kernel
theorem dX2_press_24 : decode cX2_press 24 = .ok (.getfield 9, 3) := by decide +kernel
theorem dX2_press_27 : decode cX2_press 27 = .ok (.iload_n 1, 1) := by decide +kernel
theorem dX2_press_28 : decode cX2_press 28 = .ok (.iload 4, 2) := by decide +kernel
theorem dX2_press_30 : decode cX2_press 30 = .ok (.iastore, 1) := by decide +kernel
theorem dX2_press_31 : decode cX2_press 31 = .ok (.iconst 1, 1) := by decide +kernel
theorem dX2_press_32 : decode cX2_press 32 = .ok (.ireturn, 1) := by decide +kernel
theorem dX2_areLevelsAboveGround_0 : decode cX2_areLevelsAboveGround 0 = .ok (.iconst 0, 1) := by decide +kernel
theorem dX2_areLevelsAboveGround_1 : decode cX2_areLevelsAboveGround 1 = .ok (.istore_n 1, 1) := by decide +kernel
theorem dX2_areLevelsAboveGround_2 : decode cX2_areLevelsAboveGround 2 = .ok (.iload_n 1, 1) := by decide +kernel
theorem dX2_areLevelsAboveGround_3 : decode cX2_areLevelsAboveGround 3 = .ok (.bipush 8, 2) := by decide +kernel
theorem dX2_areLevelsAboveGround_5 : decode cX2_areLevelsAboveGround 5 = .ok (.if_icmp .ge 20, 3) := by decide +kernel
theorem dX2_areLevelsAboveGround_8 : decode cX2_areLevelsAboveGround 8 = .ok (.aload_n 0, 1) := by decide +kernel
theorem dX2_areLevelsAboveGround_9 : decode cX2_areLevelsAboveGround 9 = .ok (.getfield 9, 3) := by decide +kernel
theorem dX2_areLevelsAboveGround_12 : decode cX2_areLevelsAboveGround 12 = .ok (.iload_n 1, 1) := by decide +kernel
theorem dX2_areLevelsAboveGround_13 : decode cX2_areLevelsAboveGround 13 = .ok (.iaload, 1) := by decide +kernel
theorem dX2_areLevelsAboveGround_14 : decode cX2_areLevelsAboveGround 14 = .ok (.ifCond .ge 5, 3) := by decide +kernel
theorem dX2_areLevelsAboveGround_17 : decode cX2_areLevelsAboveGround 17 = .ok (.iconst 0, 1) := by decide +kernel
theorem dX2_areLevelsAboveGround_18 : decode cX2_areLevelsAboveGround 18 = .ok (.ireturn, 1) := by decide +kernel
theorem dX2_areLevelsAboveGround_19 : decode cX2_areLevelsAboveGround 19 = .ok (.iinc 1 1, 3) := by decide +kernel
theorem dX2_areLevelsAboveGround_22 : decode cX2_areLevelsAboveGround 22 = .ok (.goto (-20), 3) := by decide +kernel
theorem dX2_areLevelsAboveGround_25 : decode cX2_areLevelsAboveGround 25 = .ok (.iconst 1, 1) := by decide +kernel
theorem dX2_areLevelsAboveGround_26 : decode cX2_areLevelsAboveGround 26 = .ok (.ireturn, 1) := by decide +kernel
