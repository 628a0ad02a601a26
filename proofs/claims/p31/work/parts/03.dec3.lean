theorem dX3_init_0 : decode cX3_init 0 = .ok (.aload_n 0, 1) := by decide +kernel
theorem dX3_init_1 : decode cX3_init 1 = .ok (.invokespecial 1, 3) := by decide +kernel
theorem dX3_init_4 : decode cX3_init 4 = .ok (.aload_n 0, 1) := by decide +kernel
theorem dX3_init_5 : decode cX3_init 5 = .ok (.new 7, 3) := by decide +kernel
theorem dX3_init_8 : decode cX3_init 8 = .ok (.dup, 1) := by decide +kernel
theorem dX3_init_9 : decode cX3_init 9 = .ok (.invokespecial 9, 3) := by decide +kernel
theorem dX3_init_12 : decode cX3_init 12 = .ok (.putfield 10, 3) := by decide +kernel
theorem dX3_init_15 : decode cX3_init 15 = .ok (.aload_n 0, 1) := by decide +kernel
theorem dX3_init_16 : decode cX3_init 16 = .ok (.new 7, 3) := by decide +kernel
theorem dX3_init_19 : decode cX3_init 19 = .ok (.dup, 1) := by decide +kernel
theorem dX3_init_20 : decode cX3_init 20 = .ok (.invokespecial 9, 3) := by decide +kernel
theorem dX3_init_23 : decode cX3_init 23 = .ok (.putfield 16, 3) := by decide +kernel
theorem dX3_init_26 : decode cX3_init 26 = .ok (.aload_n 0, 1) := by decide +kernel
theorem dX3_init_27 : decode cX3_init 27 = .ok (.iconst 4, 1) := by decide +kernel
theorem dX3_init_28 : decode cX3_init 28 = .ok (.anewarray 7, 3) := by decide +kernel
theorem dX3_init_31 : decode cX3_init 31 = .ok (.putfield 19, 3) := by decide +kernel
theorem dX3_init_34 : decode cX3_init 34 = .ok (.iconst 0, 1) := by decide +kernel
theorem dX3_init_35 : decode cX3_init 35 = .ok (.istore_n 1, 1) := by decide +kernel
theorem dX3_init_36 : decode cX3_init 36 = .ok (.iload_n 1, 1) := by decide +kernel
theorem dX3_init_37 : decode cX3_init 37 = .ok (.iconst 4, 1) := by decide +kernel
theorem dX3_init_38 : decode cX3_init 38 = .ok (.if_icmp .ge 22, 3) := by decide +kernel
theorem dX3_init_41 : decode cX3_init 41 = .ok (.aload_n 0, 1) := by decide +kernel
theorem dX3_init_42 : decode cX3_init 42 = .ok (.getfield 19, 3) := by decide +kernel
theorem dX3_init_45 : decode cX3_init 45 = .ok (.iload_n 1, 1) := by decide +kernel
theorem dX3_init_46 : decode cX3_init 46 = .ok (.new 7, 3) := by decide +kernel
theorem dX3_init_49 : decode cX3_init 49 = .ok (.dup, 1) := by decide +kernel
theorem dX3_init_50 : decode cX3_init 50 = .ok (.invokespecial 9, 3) := by decide +kernel
theorem dX3_init_53 : decode cX3_init 53 = .ok (.aastore, 1) := by decide +kernel
theorem dX3_init_54 : decode cX3_init 54 = .ok (.iinc 1 1, 3) := by decide +kernel
theorem dX3_init_57 : decode cX3_init 57 = .ok (.goto (-21), 3) := by decide +kernel
theorem dX3_init_60 : decode cX3_init 60 = .ok (.aload_n 0, 1) := by decide +kernel
theorem dX3_init_61 : decode cX3_init 61 = .ok (.new 23, 3) := by decide +kernel
theorem dX3_init_64 : decode cX3_init 64 = .ok (.dup, 1) := by decide +kernel
theorem dX3_init_65 : decode cX3_init 65 = .ok (.invokespecial 25, 3) := by decide +kernel
theorem dX3_init_68 : decode cX3_init 68 = .ok (.putfield 26, 3) := by decide +kernel
theorem dX3_init_71 : decode cX3_init 71 = .ok (.aload_n 0, 1) := by decide +kernel
theorem dX3_init_72 : decode cX3_init 72 = .ok (.new 30, 3) := by decide +kernel
theorem dX3_init_75 : decode cX3_init 75 = .ok (.dup, 1) := by decide +kernel
theorem dX3_init_76 : decode cX3_init 76 = .ok (.invokespecial 32, 3) := by decide +kernel
theorem dX3_init_79 : decode cX3_init 79 = .ok (.putfield 33, 3) := by decide +kernel
theorem dX3_init_82 : decode cX3_init 82 = .ok (.return_, 1) := by decide +kernel
theorem dX3_height_0 : decode cX3_height 0 = .ok (.iload_n 1, 1) := by decide +kernel
theorem dX3_height_1 : decode cX3_height 1 = .ok (.invokestatic 37, 3) := by decide +kernel
theorem dX3_height_4 : decode cX3_height 4 = .ok (.ifCond .eq 13, 3) := by decide +kernel
theorem dX3_height_7 : decode cX3_height 7 = .ok (.iload_n 2, 1) := by decide +kernel
theorem dX3_height_8 : decode cX3_height 8 = .ok (.ifCond .lt 9, 3) := by decide +kernel
theorem dX3_height_11 : decode cX3_height 11 = .ok (.iload_n 2, 1) := by decide +kernel
theorem dX3_height_12 : decode cX3_height 12 = .ok (.bipush 99, 2) := by decide +kernel
theorem dX3_height_14 : decode cX3_height 14 = .ok (.if_icmp .le 5, 3) := by decide +kernel
theorem dX3_height_17 : decode cX3_height 17 = .ok (.iconst (-1), 1) := by decide +kernel
theorem dX3_height_18 : decode cX3_height 18 = .ok (.ireturn, 1) := by decide +kernel
theorem dX3_height_19 : decode cX3_height 19 = .ok (.aload_n 0, 1) := by decide +kernel
theorem dX3_height_20 : decode cX3_height 20 = .ok (.invokevirtual 41, 3) := by decide +kernel
theorem dX3_height_23 : decode cX3_height 23 = .ok (.aload_n 0, 1) := by decide +kernel
theorem dX3_height_24 : decode cX3_height 24 = .ok (.getfield 10, 3) := by decide +kernel
theorem dX3_height_27 : decode cX3_height 27 = .ok (.getfield 44, 3) := by decide +kernel
theorem dX3_height_30 : decode cX3_height 30 = .ok (.iload_n 1, 1) := by decide +kernel
theorem dX3_height_31 : decode cX3_height 31 = .ok (.iaload, 1) := by decide +kernel
theorem dX3_height_32 : decode cX3_height 32 = .ok (.istore_n 3, 1) := by decide +kernel
theorem dX3_height_33 : decode cX3_height 33 = .ok (.aload_n 0, 1) := by decide +kernel
theorem dX3_height_34 : decode cX3_height 34 = .ok (.getfield 10, 3) := by decide +kernel
theorem dX3_height_37 : decode cX3_height 37 = .ok (.getfield 44, 3) := by decide +kernel
theorem dX3_height_40 : decode cX3_height 40 = .ok (.iload_n 1, 1) := by decide +kernel
theorem dX3_height_41 : decode cX3_height 41 = .ok (.iload_n 2, 1) := by decide +kernel
theorem dX3_height_42 : decode cX3_height 42 = .ok (.iastore, 1) := by decide +kernel
theorem dX3_height_43 : decode cX3_height 43 = .ok (.iload_n 3, 1) := by decide +kernel
theorem dX3_height_44 : decode cX3_height 44 = .ok (.ireturn, 1) := by decide +kernel
theorem dX3_growth_0 : decode cX3_growth 0 = .ok (.iload_n 1, 1) := by decide +kernel
theorem dX3_growth_1 : decode cX3_growth 1 = .ok (.invokestatic 37, 3) := by decide +kernel
theorem dX3_growth_4 : decode cX3_growth 4 = .ok (.ifCond .eq 12, 3) := by decide +kernel
theorem dX3_growth_7 : decode cX3_growth 7 = .ok (.iload_n 2, 1) := by decide +kernel
theorem dX3_growth_8 : decode cX3_growth 8 = .ok (.ifCond .lt 8, 3) := by decide +kernel
theorem dX3_growth_11 : decode cX3_growth 11 = .ok (.iload_n 2, 1) := by decide +kernel
theorem dX3_growth_12 : decode cX3_growth 12 = .ok (.iconst 5, 1) := by decide +kernel
theorem dX3_growth_13 : decode cX3_growth 13 = .ok (.if_icmp .le 5, 3) := by decide +kernel
theorem dX3_growth_16 : decode cX3_growth 16 = .ok (.iconst (-1), 1) := by decide +kernel
theorem dX3_growth_17 : decode cX3_growth 17 = .ok (.ireturn, 1) := by decide +kernel
theorem dX3_growth_18 : decode cX3_growth 18 = .ok (.aload_n 0, 1) := by decide +kernel
theorem dX3_growth_19 : decode cX3_growth 19 = .ok (.invokevirtual 41, 3) := by decide +kernel
theorem dX3_growth_22 : decode cX3_growth 22 = .ok (.aload_n 0, 1) := by decide +kernel
theorem dX3_growth_23 : decode cX3_growth 23 = .ok (.getfield 10, 3) := by decide +kernel
theorem dX3_growth_26 : decode cX3_growth 26 = .ok (.getfield 48, 3) := by decide +kernel
theorem dX3_growth_29 : decode cX3_growth 29 = .ok (.iload_n 1, 1) := by decide +kernel
theorem dX3_growth_30 : decode cX3_growth 30 = .ok (.iaload, 1) := by decide +kernel
theorem dX3_growth_31 : decode cX3_growth 31 = .ok (.istore_n 3, 1) := by decide +kernel
theorem dX3_growth_32 : decode cX3_growth 32 = .ok (.aload_n 0, 1) := by decide +kernel
theorem dX3_growth_33 : decode cX3_growth 33 = .ok (.getfield 10, 3) := by decide +kernel
theorem dX3_growth_36 : decode cX3_growth 36 = .ok (.getfield 48, 3) := by decide +kernel
theorem dX3_growth_39 : decode cX3_growth 39 = .ok (.iload_n 1, 1) := by decide +kernel
theorem dX3_growth_40 : decode cX3_growth 40 = .ok (.iload_n 2, 1) := by decide +kernel
theorem dX3_growth_41 : decode cX3_growth 41 = .ok (.iastore, 1) := by decide +kernel
theorem dX3_growth_42 : decode cX3_growth 42 = .ok (.iload_n 3, 1) := by decide +kernel
theorem dX3_growth_43 : decode cX3_growth 43 = .ok (.ireturn, 1) := by decide +kernel
theorem dX3_nest_0 : decode cX3_nest 0 = .ok (.iload_n 1, 1) := by decide +kernel
theorem dX3_nest_1 : decode cX3_nest 1 = .ok (.invokestatic 37, 3) := by decide +kernel
theorem dX3_nest_4 : decode cX3_nest 4 = .ok (.ifCond .eq 13, 3) := by decide +kernel
theorem dX3_nest_7 : decode cX3_nest 7 = .ok (.iload_n 2, 1) := by decide +kernel
theorem dX3_nest_8 : decode cX3_nest 8 = .ok (.ifCond .lt 9, 3) := by decide +kernel
theorem dX3_nest_11 : decode cX3_nest 11 = .ok (.iload_n 2, 1) := by decide +kernel
theorem dX3_nest_12 : decode cX3_nest 12 = .ok (.bipush 30, 2) := by decide +kernel
theorem dX3_nest_14 : decode cX3_nest 14 = .ok (.if_icmp .le 5, 3) := by decide +kernel
theorem dX3_nest_17 : decode cX3_nest 17 = .ok (.iconst (-1), 1) := by decide +kernel
theorem dX3_nest_18 : decode cX3_nest 18 = .ok (.ireturn, 1) := by decide +kernel
theorem dX3_nest_19 : decode cX3_nest 19 = .ok (.aload_n 0, 1) := by decide +kernel
theorem dX3_nest_20 : decode cX3_nest 20 = .ok (.invokevirtual 41, 3) := by decide +kernel
theorem dX3_nest_23 : decode cX3_nest 23 = .ok (.aload_n 0, 1) := by decide +kernel
theorem dX3_nest_24 : decode cX3_nest 24 = .ok (.getfield 10, 3) := by decide +kernel
theorem dX3_nest_27 : decode cX3_nest 27 = .ok (.getfield 51, 3) := by decide +kernel
theorem dX3_nest_30 : decode cX3_nest 30 = .ok (.iload_n 1, 1) := by decide +kernel
theorem dX3_nest_31 : decode cX3_nest 31 = .ok (.iaload, 1) := by decide +kernel
theorem dX3_nest_32 : decode cX3_nest 32 = .ok (.istore_n 3, 1) := by decide +kernel
theorem dX3_nest_33 : decode cX3_nest 33 = .ok (.aload_n 0, 1) := by decide +kernel
theorem dX3_nest_34 : decode cX3_nest 34 = .ok (.getfield 10, 3) := by decide +kernel
theorem dX3_nest_37 : decode cX3_nest 37 = .ok (.getfield 51, 3) := by decide +kernel
theorem dX3_nest_40 : decode cX3_nest 40 = .ok (.iload_n 1, 1) := by decide +kernel
theorem dX3_nest_41 : decode cX3_nest 41 = .ok (.aload_n 0, 1) := by decide +kernel
theorem dX3_nest_42 : decode cX3_nest 42 = .ok (.getfield 10, 3) := by decide +kernel
theorem dX3_nest_45 : decode cX3_nest 45 = .ok (.getfield 54, 3) := by decide +kernel
theorem dX3_nest_48 : decode cX3_nest 48 = .ok (.iload_n 2, 1) := by decide +kernel
theorem dX3_nest_49 : decode cX3_nest 49 = .ok (.iadd, 1) := by decide +kernel
theorem dX3_nest_50 : decode cX3_nest 50 = .ok (.iastore, 1) := by decide +kernel
theorem dX3_nest_51 : decode cX3_nest 51 = .ok (.iload_n 3, 1) := by decide +kernel
theorem dX3_nest_52 : decode cX3_nest 52 = .ok (.ireturn, 1) := by decide +kernel
theorem dX3_clip_0 : decode cX3_clip 0 = .ok (.iload_n 1, 1) := by decide +kernel
theorem dX3_clip_1 : decode cX3_clip 1 = .ok (.invokestatic 37, 3) := by decide +kernel
theorem dX3_clip_4 : decode cX3_clip 4 = .ok (.ifCond .eq 14, 3) := by decide +kernel
theorem dX3_clip_7 : decode cX3_clip 7 = .ok (.iload_n 2, 1) := by decide +kernel
theorem dX3_clip_8 : decode cX3_clip 8 = .ok (.iconst 1, 1) := by decide +kernel
theorem dX3_clip_9 : decode cX3_clip 9 = .ok (.if_icmp .lt 9, 3) := by decide +kernel
theorem dX3_clip_12 : decode cX3_clip 12 = .ok (.iload_n 2, 1) := by decide +kernel
theorem dX3_clip_13 : decode cX3_clip 13 = .ok (.bipush 99, 2) := by decide +kernel
theorem dX3_clip_15 : decode cX3_clip 15 = .ok (.if_icmp .le 5, 3) := by decide +kernel
theorem dX3_clip_18 : decode cX3_clip 18 = .ok (.iconst (-1), 1) := by decide +kernel
theorem dX3_clip_19 : decode cX3_clip 19 = .ok (.ireturn, 1) := by decide +kernel
theorem dX3_clip_20 : decode cX3_clip 20 = .ok (.aload_n 0, 1) := by decide +kernel
theorem dX3_clip_21 : decode cX3_clip 21 = .ok (.invokevirtual 41, 3) := by decide +kernel
theorem dX3_clip_24 : decode cX3_clip 24 = .ok (.aload_n 0, 1) := by decide +kernel
theorem dX3_clip_25 : decode cX3_clip 25 = .ok (.getfield 10, 3) := by decide +kernel
theorem dX3_clip_28 : decode cX3_clip 28 = .ok (.iload_n 1, 1) := by decide +kernel
theorem dX3_clip_29 : decode cX3_clip 29 = .ok (.invokevirtual 58, 3) := by decide +kernel
theorem dX3_clip_32 : decode cX3_clip 32 = .ok (.ifCond .eq 9, 3) := by decide +kernel
theorem dX3_clip_35 : decode cX3_clip 35 = .ok (.aload_n 0, 1) := by decide +kernel
theorem dX3_clip_36 : decode cX3_clip 36 = .ok (.iconst 3, 1) := by decide +kernel
theorem dX3_clip_37 : decode cX3_clip 37 = .ok (.invokevirtual 61, 3) := by decide +kernel
theorem dX3_clip_40 : decode cX3_clip 40 = .ok (.ireturn, 1) := by decide +kernel
theorem dX3_clip_41 : decode cX3_clip 41 = .ok (.iload_n 2, 1) := by decide +kernel
theorem dX3_clip_42 : decode cX3_clip 42 = .ok (.aload_n 0, 1) := by decide +kernel
theorem dX3_clip_43 : decode cX3_clip 43 = .ok (.getfield 10, 3) := by decide +kernel
theorem dX3_clip_46 : decode cX3_clip 46 = .ok (.getfield 44, 3) := by decide +kernel
theorem dX3_clip_49 : decode cX3_clip 49 = .ok (.iload_n 1, 1) := by decide +kernel
theorem dX3_clip_50 : decode cX3_clip 50 = .ok (.iaload, 1) := by decide +kernel
theorem dX3_clip_51 : decode cX3_clip 51 = .ok (.if_icmp .le 9, 3) := by decide +kernel
theorem dX3_clip_54 : decode cX3_clip 54 = .ok (.aload_n 0, 1) := by decide +kernel
theorem dX3_clip_55 : decode cX3_clip 55 = .ok (.iconst 4, 1) := by decide +kernel
theorem dX3_clip_56 : decode cX3_clip 56 = .ok (.invokevirtual 61, 3) := by decide +kernel
theorem dX3_clip_59 : decode cX3_clip 59 = .ok (.ireturn, 1) := by decide +kernel
theorem dX3_clip_60 : decode cX3_clip 60 = .ok (.aload_n 0, 1) := by decide +kernel
theorem dX3_clip_61 : decode cX3_clip 61 = .ok (.getfield 10, 3) := by decide +kernel
theorem dX3_clip_64 : decode cX3_clip 64 = .ok (.iload_n 1, 1) := by decide +kernel
theorem dX3_clip_65 : decode cX3_clip 65 = .ok (.iload_n 2, 1) := by decide +kernel
theorem dX3_clip_66 : decode cX3_clip 66 = .ok (.invokevirtual 65, 3) := by decide +kernel
theorem dX3_clip_69 : decode cX3_clip 69 = .ok (.bipush 10, 2) := by decide +kernel
theorem dX3_clip_71 : decode cX3_clip 71 = .ok (.aload_n 0, 1) := by decide +kernel
theorem dX3_clip_72 : decode cX3_clip 72 = .ok (.getfield 10, 3) := by decide +kernel
theorem dX3_clip_75 : decode cX3_clip 75 = .ok (.getfield 44, 3) := by decide +kernel
theorem dX3_clip_78 : decode cX3_clip 78 = .ok (.iload_n 1, 1) := by decide +kernel
theorem dX3_clip_79 : decode cX3_clip 79 = .ok (.iaload, 1) := by decide +kernel
theorem dX3_clip_80 : decode cX3_clip 80 = .ok (.iadd, 1) := by decide +kernel
theorem dX3_clip_81 : decode cX3_clip 81 = .ok (.ireturn, 1) := by decide +kernel
theorem dX3_plan_0 : decode cX3_plan 0 = .ok (.aload_n 0, 1) := by decide +kernel
theorem dX3_plan_1 : decode cX3_plan 1 = .ok (.invokevirtual 41, 3) := by decide +kernel
theorem dX3_plan_4 : decode cX3_plan 4 = .ok (.aload_n 0, 1) := by decide +kernel
theorem dX3_plan_5 : decode cX3_plan 5 = .ok (.getfield 26, 3) := by decide +kernel
theorem dX3_plan_8 : decode cX3_plan 8 = .ok (.aload_n 0, 1) := by decide +kernel
theorem dX3_plan_9 : decode cX3_plan 9 = .ok (.getfield 10, 3) := by decide +kernel
theorem dX3_plan_12 : decode cX3_plan 12 = .ok (.invokevirtual 69, 3) := by decide +kernel
theorem dX3_plan_15 : decode cX3_plan 15 = .ok (.ifCond .ne 9, 3) := by decide +kernel
theorem dX3_plan_18 : decode cX3_plan 18 = .ok (.aload_n 0, 1) := by decide +kernel
theorem dX3_plan_19 : decode cX3_plan 19 = .ok (.iconst 4, 1) := by decide +kernel
theorem dX3_plan_20 : decode cX3_plan 20 = .ok (.invokevirtual 61, 3) := by decide +kernel
theorem dX3_plan_23 : decode cX3_plan 23 = .ok (.ireturn, 1) := by decide +kernel
theorem dX3_plan_24 : decode cX3_plan 24 = .ok (.aload_n 0, 1) := by decide +kernel
theorem dX3_plan_25 : decode cX3_plan 25 = .ok (.invokevirtual 73, 3) := by decide +kernel
theorem dX3_plan_28 : decode cX3_plan 28 = .ok (.ifCond .eq 9, 3) := by decide +kernel
theorem dX3_plan_31 : decode cX3_plan 31 = .ok (.aload_n 0, 1) := by decide +kernel
theorem dX3_plan_32 : decode cX3_plan 32 = .ok (.iconst 3, 1) := by decide +kernel
theorem dX3_plan_33 : decode cX3_plan 33 = .ok (.invokevirtual 61, 3) := by decide +kernel
theorem dX3_plan_36 : decode cX3_plan 36 = .ok (.ireturn, 1) := by decide +kernel
theorem dX3_plan_37 : decode cX3_plan 37 = .ok (.iconst 0, 1) := by decide +kernel
theorem dX3_plan_38 : decode cX3_plan 38 = .ok (.istore_n 1, 1) := by decide +kernel
theorem dX3_plan_39 : decode cX3_plan 39 = .ok (.iconst 0, 1) := by decide +kernel
theorem dX3_plan_40 : decode cX3_plan 40 = .ok (.istore_n 2, 1) := by decide +kernel
theorem dX3_plan_41 : decode cX3_plan 41 = .ok (.iload_n 2, 1) := by decide +kernel
theorem dX3_plan_42 : decode cX3_plan 42 = .ok (.bipush 8, 2) := by decide +kernel
theorem dX3_plan_44 : decode cX3_plan 44 = .ok (.if_icmp .ge 46, 3) := by decide +kernel
theorem dX3_plan_47 : decode cX3_plan 47 = .ok (.aload_n 0, 1) := by decide +kernel
theorem dX3_plan_48 : decode cX3_plan 48 = .ok (.getfield 10, 3) := by decide +kernel
theorem dX3_plan_51 : decode cX3_plan 51 = .ok (.getfield 44, 3) := by decide +kernel
theorem dX3_plan_54 : decode cX3_plan 54 = .ok (.iload_n 2, 1) := by decide +kernel
theorem dX3_plan_55 : decode cX3_plan 55 = .ok (.iaload, 1) := by decide +kernel
theorem dX3_plan_56 : decode cX3_plan 56 = .ok (.aload_n 0, 1) := by decide +kernel
theorem dX3_plan_57 : decode cX3_plan 57 = .ok (.getfield 26, 3) := by decide +kernel
theorem dX3_plan_60 : decode cX3_plan 60 = .ok (.getfield 77, 3) := by decide +kernel
theorem dX3_plan_63 : decode cX3_plan 63 = .ok (.iload_n 2, 1) := by decide +kernel
theorem dX3_plan_64 : decode cX3_plan 64 = .ok (.iaload, 1) := by decide +kernel
theorem dX3_plan_65 : decode cX3_plan 65 = .ok (.isub, 1) := by decide +kernel
theorem dX3_plan_66 : decode cX3_plan 66 = .ok (.istore_n 3, 1) := by decide +kernel
theorem dX3_plan_67 : decode cX3_plan 67 = .ok (.iload_n 3, 1) := by decide +kernel
theorem dX3_plan_68 : decode cX3_plan 68 = .ok (.ifCond .le 16, 3) := by decide +kernel
theorem dX3_plan_71 : decode cX3_plan 71 = .ok (.aload_n 0, 1) := by decide +kernel
theorem dX3_plan_72 : decode cX3_plan 72 = .ok (.getfield 10, 3) := by decide +kernel
theorem dX3_plan_75 : decode cX3_plan 75 = .ok (.iload_n 2, 1) := by decide +kernel
theorem dX3_plan_76 : decode cX3_plan 76 = .ok (.iload_n 3, 1) := by decide +kernel
theorem dX3_plan_77 : decode cX3_plan 77 = .ok (.invokevirtual 65, 3) := by decide +kernel
theorem dX3_plan_80 : decode cX3_plan 80 = .ok (.iload_n 1, 1) := by decide +kernel
theorem dX3_plan_81 : decode cX3_plan 81 = .ok (.iload_n 3, 1) := by decide +kernel
theorem dX3_plan_82 : decode cX3_plan 82 = .ok (.iadd, 1) := by decide +kernel
theorem dX3_plan_83 : decode cX3_plan 83 = .ok (.istore_n 1, 1) := by decide +kernel
theorem dX3_plan_84 : decode cX3_plan 84 = .ok (.iinc 2 1, 3) := by decide +kernel
theorem dX3_plan_87 : decode cX3_plan 87 = .ok (.goto (-46), 3) := by decide +kernel
theorem dX3_plan_90 : decode cX3_plan 90 = .ok (.bipush 10, 2) := by decide +kernel
theorem dX3_plan_92 : decode cX3_plan 92 = .ok (.iload_n 1, 1) := by decide +kernel
theorem dX3_plan_93 : decode cX3_plan 93 = .ok (.iadd, 1) := by decide +kernel
theorem dX3_plan_94 : decode cX3_plan 94 = .ok (.ireturn, 1) := by decide +kernel
theorem dX3_day_0 : decode cX3_day 0 = .ok (.aload_n 0, 1) := by decide +kernel
theorem dX3_day_1 : decode cX3_day 1 = .ok (.invokevirtual 41, 3) := by decide +kernel
theorem dX3_day_4 : decode cX3_day 4 = .ok (.aload_n 0, 1) := by decide +kernel
theorem dX3_day_5 : decode cX3_day 5 = .ok (.getfield 10, 3) := by decide +kernel
theorem dX3_day_8 : decode cX3_day 8 = .ok (.invokevirtual 80, 3) := by decide +kernel
theorem dX3_day_11 : decode cX3_day 11 = .ok (.aload_n 0, 1) := by decide +kernel
theorem dX3_day_12 : decode cX3_day 12 = .ok (.getfield 10, 3) := by decide +kernel
theorem dX3_day_15 : decode cX3_day 15 = .ok (.iconst (-1), 1) := by decide +kernel
theorem dX3_day_16 : decode cX3_day 16 = .ok (.iconst 0, 1) := by decide +kernel
theorem dX3_day_17 : decode cX3_day 17 = .ok (.invokevirtual 83, 3) := by decide +kernel
theorem dX3_day_20 : decode cX3_day 20 = .ok (.ireturn, 1) := by decide +kernel
theorem dX3_sign_0 : decode cX3_sign 0 = .ok (.aload_n 0, 1) := by decide +kernel
theorem dX3_sign_1 : decode cX3_sign 1 = .ok (.iload_n 1, 1) := by decide +kernel
theorem dX3_sign_2 : decode cX3_sign 2 = .ok (.iload_n 2, 1) := by decide +kernel
theorem dX3_sign_3 : decode cX3_sign 3 = .ok (.iload_n 3, 1) := by decide +kernel
theorem dX3_sign_4 : decode cX3_sign 4 = .ok (.invokevirtual 87, 3) := by decide +kernel
theorem dX3_sign_7 : decode cX3_sign 7 = .ok (.istore 4, 2) := by decide +kernel
theorem dX3_sign_9 : decode cX3_sign 9 = .ok (.iload 4, 2) := by decide +kernel
theorem dX3_sign_11 : decode cX3_sign 11 = .ok (.ifCond .eq 6, 3) := by decide +kernel
theorem dX3_sign_14 : decode cX3_sign 14 = .ok (.iload 4, 2) := by decide +kernel
theorem dX3_sign_16 : decode cX3_sign 16 = .ok (.ireturn, 1) := by decide +kernel
theorem dX3_sign_17 : decode cX3_sign 17 = .ok (.aload_n 0, 1) := by decide +kernel
theorem dX3_sign_18 : decode cX3_sign 18 = .ok (.invokevirtual 41, 3) := by decide +kernel
theorem dX3_sign_21 : decode cX3_sign 21 = .ok (.aload_n 0, 1) := by decide +kernel
theorem dX3_sign_22 : decode cX3_sign 22 = .ok (.iload_n 1, 1) := by decide +kernel
theorem dX3_sign_23 : decode cX3_sign 23 = .ok (.iload_n 2, 1) := by decide +kernel
theorem dX3_sign_24 : decode cX3_sign 24 = .ok (.iload_n 3, 1) := by decide +kernel
theorem dX3_sign_25 : decode cX3_sign 25 = .ok (.invokevirtual 91, 3) := by decide +kernel
theorem dX3_sign_28 : decode cX3_sign 28 = .ok (.ireturn, 1) := by decide +kernel
theorem dX3_cancel_0 : decode cX3_cancel 0 = .ok (.aload_n 0, 1) := by decide +kernel
theorem dX3_cancel_1 : decode cX3_cancel 1 = .ok (.iload_n 1, 1) := by decide +kernel
theorem dX3_cancel_2 : decode cX3_cancel 2 = .ok (.invokevirtual 94, 3) := by decide +kernel
theorem dX3_cancel_5 : decode cX3_cancel 5 = .ok (.ifCond .ne 5, 3) := by decide +kernel
theorem dX3_cancel_8 : decode cX3_cancel 8 = .ok (.iconst (-1), 1) := by decide +kernel
theorem dX3_cancel_9 : decode cX3_cancel 9 = .ok (.ireturn, 1) := by decide +kernel
theorem dX3_cancel_10 : decode cX3_cancel 10 = .ok (.aload_n 0, 1) := by decide +kernel
theorem dX3_cancel_11 : decode cX3_cancel 11 = .ok (.invokevirtual 41, 3) := by decide +kernel
theorem dX3_cancel_14 : decode cX3_cancel 14 = .ok (.aload_n 0, 1) := by decide +kernel
theorem dX3_cancel_15 : decode cX3_cancel 15 = .ok (.getfield 10, 3) := by decide +kernel
theorem dX3_cancel_18 : decode cX3_cancel 18 = .ok (.iload_n 1, 1) := by decide +kernel
theorem dX3_cancel_19 : decode cX3_cancel 19 = .ok (.invokevirtual 97, 3) := by decide +kernel
theorem dX3_cancel_22 : decode cX3_cancel 22 = .ok (.aload_n 0, 1) := by decide +kernel
theorem dX3_cancel_23 : decode cX3_cancel 23 = .ok (.getfield 10, 3) := by decide +kernel
theorem dX3_cancel_26 : decode cX3_cancel 26 = .ok (.getfield 101, 3) := by decide +kernel
theorem dX3_cancel_29 : decode cX3_cancel 29 = .ok (.ireturn, 1) := by decide +kernel
theorem dX3_freeze_0 : decode cX3_freeze 0 = .ok (.aload_n 0, 1) := by decide +kernel
theorem dX3_freeze_1 : decode cX3_freeze 1 = .ok (.iload_n 1, 1) := by decide +kernel
theorem dX3_freeze_2 : decode cX3_freeze 2 = .ok (.invokevirtual 94, 3) := by decide +kernel
theorem dX3_freeze_5 : decode cX3_freeze 5 = .ok (.ifCond .eq 14, 3) := by decide +kernel
theorem dX3_freeze_8 : decode cX3_freeze 8 = .ok (.iload_n 2, 1) := by decide +kernel
theorem dX3_freeze_9 : decode cX3_freeze 9 = .ok (.iconst 1, 1) := by decide +kernel
theorem dX3_freeze_10 : decode cX3_freeze 10 = .ok (.if_icmp .lt 9, 3) := by decide +kernel
theorem dX3_freeze_13 : decode cX3_freeze 13 = .ok (.iload_n 2, 1) := by decide +kernel
theorem dX3_freeze_14 : decode cX3_freeze 14 = .ok (.bipush 30, 2) := by decide +kernel
theorem dX3_freeze_16 : decode cX3_freeze 16 = .ok (.if_icmp .le 5, 3) := by decide +kernel
theorem dX3_freeze_19 : decode cX3_freeze 19 = .ok (.iconst (-1), 1) := by decide +kernel
theorem dX3_freeze_20 : decode cX3_freeze 20 = .ok (.ireturn, 1) := by decide +kernel
theorem dX3_freeze_21 : decode cX3_freeze 21 = .ok (.aload_n 0, 1) := by decide +kernel
theorem dX3_freeze_22 : decode cX3_freeze 22 = .ok (.invokevirtual 41, 3) := by decide +kernel
theorem dX3_freeze_25 : decode cX3_freeze 25 = .ok (.aload_n 0, 1) := by decide +kernel
theorem dX3_freeze_26 : decode cX3_freeze 26 = .ok (.getfield 10, 3) := by decide +kernel
theorem dX3_freeze_29 : decode cX3_freeze 29 = .ok (.iload_n 1, 1) := by decide +kernel
theorem dX3_freeze_30 : decode cX3_freeze 30 = .ok (.invokevirtual 104, 3) := by decide +kernel
theorem dX3_freeze_33 : decode cX3_freeze 33 = .ok (.ifCond .eq 16, 3) := by decide +kernel
theorem dX3_freeze_36 : decode cX3_freeze 36 = .ok (.aload_n 0, 1) := by decide +kernel
theorem dX3_freeze_37 : decode cX3_freeze 37 = .ok (.getfield 10, 3) := by decide +kernel
theorem dX3_freeze_40 : decode cX3_freeze 40 = .ok (.dup, 1) := by decide +kernel
theorem dX3_freeze_41 : decode cX3_freeze 41 = .ok (.getfield 107, 3) := by decide +kernel
theorem dX3_freeze_44 : decode cX3_freeze 44 = .ok (.iconst 1, 1) := by decide +kernel
theorem dX3_freeze_45 : decode cX3_freeze 45 = .ok (.iadd, 1) := by decide +kernel
theorem dX3_freeze_46 : decode cX3_freeze 46 = .ok (.putfield 107, 3) := by decide +kernel
theorem dX3_freeze_49 : decode cX3_freeze 49 = .ok (.aload_n 0, 1) := by decide +kernel
theorem dX3_freeze_50 : decode cX3_freeze 50 = .ok (.getfield 10, 3) := by decide +kernel
theorem dX3_freeze_53 : decode cX3_freeze 53 = .ok (.getfield 110, 3) := by decide +kernel
theorem dX3_freeze_56 : decode cX3_freeze 56 = .ok (.iload_n 1, 1) := by decide +kernel
theorem dX3_freeze_57 : decode cX3_freeze 57 = .ok (.aload_n 0, 1) := by decide +kernel
theorem dX3_freeze_58 : decode cX3_freeze 58 = .ok (.getfield 10, 3) := by decide +kernel
theorem dX3_freeze_61 : decode cX3_freeze 61 = .ok (.getfield 54, 3) := by decide +kernel
theorem dX3_freeze_64 : decode cX3_freeze 64 = .ok (.iload_n 2, 1) := by decide +kernel
theorem dX3_freeze_65 : decode cX3_freeze 65 = .ok (.iadd, 1) := by decide +kernel
theorem dX3_freeze_66 : decode cX3_freeze 66 = .ok (.iastore, 1) := by decide +kernel
theorem dX3_freeze_67 : decode cX3_freeze 67 = .ok (.aload_n 0, 1) := by decide +kernel
theorem dX3_freeze_68 : decode cX3_freeze 68 = .ok (.getfield 10, 3) := by decide +kernel
theorem dX3_freeze_71 : decode cX3_freeze 71 = .ok (.getfield 107, 3) := by decide +kernel
theorem dX3_freeze_74 : decode cX3_freeze 74 = .ok (.ireturn, 1) := by decide +kernel
theorem dX3_thaw_0 : decode cX3_thaw 0 = .ok (.aload_n 0, 1) := by decide +kernel
theorem dX3_thaw_1 : decode cX3_thaw 1 = .ok (.iload_n 1, 1) := by decide +kernel
theorem dX3_thaw_2 : decode cX3_thaw 2 = .ok (.invokevirtual 94, 3) := by decide +kernel
theorem dX3_thaw_5 : decode cX3_thaw 5 = .ok (.ifCond .ne 5, 3) := by decide +kernel
theorem dX3_thaw_8 : decode cX3_thaw 8 = .ok (.iconst (-1), 1) := by decide +kernel
theorem dX3_thaw_9 : decode cX3_thaw 9 = .ok (.ireturn, 1) := by decide +kernel
theorem dX3_thaw_10 : decode cX3_thaw 10 = .ok (.aload_n 0, 1) := by decide +kernel
theorem dX3_thaw_11 : decode cX3_thaw 11 = .ok (.invokevirtual 41, 3) := by decide +kernel
theorem dX3_thaw_14 : decode cX3_thaw 14 = .ok (.aload_n 0, 1) := by decide +kernel
theorem dX3_thaw_15 : decode cX3_thaw 15 = .ok (.getfield 10, 3) := by decide +kernel
theorem dX3_thaw_18 : decode cX3_thaw 18 = .ok (.iload_n 1, 1) := by decide +kernel
theorem dX3_thaw_19 : decode cX3_thaw 19 = .ok (.invokevirtual 113, 3) := by decide +kernel
theorem dX3_thaw_22 : decode cX3_thaw 22 = .ok (.ifCond .eq 9, 3) := by decide +kernel
theorem dX3_thaw_25 : decode cX3_thaw 25 = .ok (.aload_n 0, 1) := by decide +kernel
theorem dX3_thaw_26 : decode cX3_thaw 26 = .ok (.iconst 5, 1) := by decide +kernel
theorem dX3_thaw_27 : decode cX3_thaw 27 = .ok (.invokevirtual 61, 3) := by decide +kernel
theorem dX3_thaw_30 : decode cX3_thaw 30 = .ok (.ireturn, 1) := by decide +kernel
theorem dX3_thaw_31 : decode cX3_thaw 31 = .ok (.aload_n 0, 1) := by decide +kernel
theorem dX3_thaw_32 : decode cX3_thaw 32 = .ok (.getfield 10, 3) := by decide +kernel
theorem dX3_thaw_35 : decode cX3_thaw 35 = .ok (.getfield 110, 3) := by decide +kernel
theorem dX3_thaw_38 : decode cX3_thaw 38 = .ok (.iload_n 1, 1) := by decide +kernel
theorem dX3_thaw_39 : decode cX3_thaw 39 = .ok (.iaload, 1) := by decide +kernel
theorem dX3_thaw_40 : decode cX3_thaw 40 = .ok (.aload_n 0, 1) := by decide +kernel
theorem dX3_thaw_41 : decode cX3_thaw 41 = .ok (.getfield 10, 3) := by decide +kernel
theorem dX3_thaw_44 : decode cX3_thaw 44 = .ok (.getfield 54, 3) := by decide +kernel
theorem dX3_thaw_47 : decode cX3_thaw 47 = .ok (.isub, 1) := by decide +kernel
theorem dX3_thaw_48 : decode cX3_thaw 48 = .ok (.istore_n 2, 1) := by decide +kernel
theorem dX3_thaw_49 : decode cX3_thaw 49 = .ok (.iload_n 2, 1) := by decide +kernel
theorem dX3_thaw_50 : decode cX3_thaw 50 = .ok (.aload_n 0, 1) := by decide +kernel
theorem dX3_thaw_51 : decode cX3_thaw 51 = .ok (.getfield 10, 3) := by decide +kernel
theorem dX3_thaw_54 : decode cX3_thaw 54 = .ok (.getfield 107, 3) := by decide +kernel
theorem dX3_thaw_57 : decode cX3_thaw 57 = .ok (.if_icmp .le 10, 3) := by decide +kernel
theorem dX3_thaw_60 : decode cX3_thaw 60 = .ok (.aload_n 0, 1) := by decide +kernel
theorem dX3_thaw_61 : decode cX3_thaw 61 = .ok (.bipush 6, 2) := by decide +kernel
theorem dX3_thaw_63 : decode cX3_thaw 63 = .ok (.invokevirtual 61, 3) := by decide +kernel
theorem dX3_thaw_66 : decode cX3_thaw 66 = .ok (.ireturn, 1) := by decide +kernel
theorem dX3_thaw_67 : decode cX3_thaw 67 = .ok (.aload_n 0, 1) := by decide +kernel
theorem dX3_thaw_68 : decode cX3_thaw 68 = .ok (.getfield 10, 3) := by decide +kernel
theorem dX3_thaw_71 : decode cX3_thaw 71 = .ok (.dup, 1) := by decide +kernel
theorem dX3_thaw_72 : decode cX3_thaw 72 = .ok (.getfield 107, 3) := by decide +kernel
theorem dX3_thaw_75 : decode cX3_thaw 75 = .ok (.iload_n 2, 1) := by decide +kernel
theorem dX3_thaw_76 : decode cX3_thaw 76 = .ok (.isub, 1) := by decide +kernel
theorem dX3_thaw_77 : decode cX3_thaw 77 = .ok (.putfield 107, 3) := by decide +kernel
theorem dX3_thaw_80 : decode cX3_thaw 80 = .ok (.aload_n 0, 1) := by decide +kernel
theorem dX3_thaw_81 : decode cX3_thaw 81 = .ok (.getfield 10, 3) := by decide +kernel
theorem dX3_thaw_84 : decode cX3_thaw 84 = .ok (.getfield 110, 3) := by decide +kernel
theorem dX3_thaw_87 : decode cX3_thaw 87 = .ok (.iload_n 1, 1) := by decide +kernel
theorem dX3_thaw_88 : decode cX3_thaw 88 = .ok (.aload_n 0, 1) := by decide +kernel
theorem dX3_thaw_89 : decode cX3_thaw 89 = .ok (.getfield 10, 3) := by decide +kernel
theorem dX3_thaw_92 : decode cX3_thaw 92 = .ok (.getfield 54, 3) := by decide +kernel
theorem dX3_thaw_95 : decode cX3_thaw 95 = .ok (.iastore, 1) := by decide +kernel
theorem dX3_thaw_96 : decode cX3_thaw 96 = .ok (.bipush 10, 2) := by decide +kernel
theorem dX3_thaw_98 : decode cX3_thaw 98 = .ok (.aload_n 0, 1) := by decide +kernel
theorem dX3_thaw_99 : decode cX3_thaw 99 = .ok (.getfield 10, 3) := by decide +kernel
theorem dX3_thaw_102 : decode cX3_thaw 102 = .ok (.getfield 107, 3) := by decide +kernel
theorem dX3_thaw_105 : decode cX3_thaw 105 = .ok (.iadd, 1) := by decide +kernel
theorem dX3_thaw_106 : decode cX3_thaw 106 = .ok (.ireturn, 1) := by decide +kernel
theorem dX3_append_0 : decode cX3_append 0 = .ok (.iload_n 1, 1) := by decide +kernel
theorem dX3_append_1 : decode cX3_append 1 = .ok (.bipush 33, 2) := by decide +kernel
theorem dX3_append_3 : decode cX3_append 3 = .ok (.if_icmp .lt 9, 3) := by decide +kernel
theorem dX3_append_6 : decode cX3_append 6 = .ok (.iload_n 1, 1) := by decide +kernel
theorem dX3_append_7 : decode cX3_append 7 = .ok (.bipush 126, 2) := by decide +kernel
theorem dX3_append_9 : decode cX3_append 9 = .ok (.if_icmp .le 5, 3) := by decide +kernel
theorem dX3_append_12 : decode cX3_append 12 = .ok (.iconst (-1), 1) := by decide +kernel
theorem dX3_append_13 : decode cX3_append 13 = .ok (.ireturn, 1) := by decide +kernel
theorem dX3_append_14 : decode cX3_append 14 = .ok (.aload_n 0, 1) := by decide +kernel
theorem dX3_append_15 : decode cX3_append 15 = .ok (.getfield 33, 3) := by decide +kernel
theorem dX3_append_18 : decode cX3_append 18 = .ok (.getfield 116, 3) := by decide +kernel
theorem dX3_append_21 : decode cX3_append 21 = .ok (.bipush 60, 2) := by decide +kernel
theorem dX3_append_23 : decode cX3_append 23 = .ok (.if_icmp .lt 6, 3) := by decide +kernel
theorem dX3_append_26 : decode cX3_append 26 = .ok (.bipush (-3), 2) := by decide +kernel
theorem dX3_append_28 : decode cX3_append 28 = .ok (.ireturn, 1) := by decide +kernel
theorem dX3_append_29 : decode cX3_append 29 = .ok (.aload_n 0, 1) := by decide +kernel
theorem dX3_append_30 : decode cX3_append 30 = .ok (.getfield 33, 3) := by decide +kernel
theorem dX3_append_33 : decode cX3_append 33 = .ok (.getfield 119, 3) := by decide +kernel
theorem dX3_append_36 : decode cX3_append 36 = .ok (.aload_n 0, 1) := by decide +kernel
theorem dX3_append_37 : decode cX3_append 37 = .ok (.getfield 33, 3) := by decide +kernel
theorem dX3_append_40 : decode cX3_append 40 = .ok (.getfield 116, 3) := by decide +kernel
theorem dX3_append_43 : decode cX3_append 43 = .ok (.iload_n 1, 1) := by decide +kernel
theorem dX3_append_44 : decode cX3_append 44 = .ok (.iastore, 1) := by decide +kernel
theorem dX3_append_45 : decode cX3_append 45 = .ok (.aload_n 0, 1) := by decide +kernel
theorem dX3_append_46 : decode cX3_append 46 = .ok (.getfield 33, 3) := by decide +kernel
theorem dX3_append_49 : decode cX3_append 49 = .ok (.dup, 1) := by decide +kernel
theorem dX3_append_50 : decode cX3_append 50 = .ok (.getfield 116, 3) := by decide +kernel
theorem dX3_append_53 : decode cX3_append 53 = .ok (.iconst 1, 1) := by decide +kernel
theorem dX3_append_54 : decode cX3_append 54 = .ok (.iadd, 1) := by decide +kernel
theorem dX3_append_55 : decode cX3_append 55 = .ok (.putfield 116, 3) := by decide +kernel
theorem dX3_append_58 : decode cX3_append 58 = .ok (.aload_n 0, 1) := by decide +kernel
theorem dX3_append_59 : decode cX3_append 59 = .ok (.getfield 33, 3) := by decide +kernel
theorem dX3_append_62 : decode cX3_append 62 = .ok (.getfield 116, 3) := by decide +kernel
theorem dX3_append_65 : decode cX3_append 65 = .ok (.ireturn, 1) := by decide +kernel
theorem dX3_clear_0 : decode cX3_clear 0 = .ok (.aload_n 0, 1) := by decide +kernel
theorem dX3_clear_1 : decode cX3_clear 1 = .ok (.getfield 33, 3) := by decide +kernel
theorem dX3_clear_4 : decode cX3_clear 4 = .ok (.getfield 116, 3) := by decide +kernel
theorem dX3_clear_7 : decode cX3_clear 7 = .ok (.istore_n 1, 1) := by decide +kernel
theorem dX3_clear_8 : decode cX3_clear 8 = .ok (.aload_n 0, 1) := by decide +kernel
theorem dX3_clear_9 : decode cX3_clear 9 = .ok (.getfield 33, 3) := by decide +kernel
theorem dX3_clear_12 : decode cX3_clear 12 = .ok (.iconst 0, 1) := by decide +kernel
theorem dX3_clear_13 : decode cX3_clear 13 = .ok (.putfield 116, 3) := by decide +kernel
theorem dX3_clear_16 : decode cX3_clear 16 = .ok (.iload_n 1, 1) := by decide +kernel
theorem dX3_clear_17 : decode cX3_clear 17 = .ok (.ireturn, 1) := by decide +kernel
theorem dX3_fault_0 : decode cX3_fault 0 = .ok (.aload_n 0, 1) := by decide +kernel
theorem dX3_fault_1 : decode cX3_fault 1 = .ok (.getfield 33, 3) := by decide +kernel
theorem dX3_fault_4 : decode cX3_fault 4 = .ok (.invokevirtual 122, 3) := by decide +kernel
theorem dX3_fault_7 : decode cX3_fault 7 = .ok (.ireturn, 1) := by decide +kernel
theorem dX3_signAll_0 : decode cX3_signAll 0 = .ok (.aload_n 0, 1) := by decide +kernel
theorem dX3_signAll_1 : decode cX3_signAll 1 = .ok (.getfield 33, 3) := by decide +kernel
theorem dX3_signAll_4 : decode cX3_signAll 4 = .ok (.invokevirtual 122, 3) := by decide +kernel
theorem dX3_signAll_7 : decode cX3_signAll 7 = .ok (.bipush (-4), 2) := by decide +kernel
theorem dX3_signAll_9 : decode cX3_signAll 9 = .ok (.if_icmp .eq 6, 3) := by decide +kernel
theorem dX3_signAll_12 : decode cX3_signAll 12 = .ok (.bipush (-2), 2) := by decide +kernel
theorem dX3_signAll_14 : decode cX3_signAll 14 = .ok (.ireturn, 1) := by decide +kernel
theorem dX3_signAll_15 : decode cX3_signAll 15 = .ok (.aload_n 0, 1) := by decide +kernel
theorem dX3_signAll_16 : decode cX3_signAll 16 = .ok (.invokevirtual 41, 3) := by decide +kernel
theorem dX3_signAll_19 : decode cX3_signAll 19 = .ok (.aload_n 0, 1) := by decide +kernel
theorem dX3_signAll_20 : decode cX3_signAll 20 = .ok (.iconst 0, 1) := by decide +kernel
theorem dX3_signAll_21 : decode cX3_signAll 21 = .ok (.putfield 126, 3) := by decide +kernel
theorem dX3_signAll_24 : decode cX3_signAll 24 = .ok (.iconst 0, 1) := by decide +kernel
theorem dX3_signAll_25 : decode cX3_signAll 25 = .ok (.istore_n 1, 1) := by decide +kernel
theorem dX3_signAll_26 : decode cX3_signAll 26 = .ok (.iconst 0, 1) := by decide +kernel
theorem dX3_signAll_27 : decode cX3_signAll 27 = .ok (.istore_n 2, 1) := by decide +kernel
theorem dX3_signAll_28 : decode cX3_signAll 28 = .ok (.iload_n 2, 1) := by decide +kernel
theorem dX3_signAll_29 : decode cX3_signAll 29 = .ok (.aload_n 0, 1) := by decide +kernel
theorem dX3_signAll_30 : decode cX3_signAll 30 = .ok (.getfield 33, 3) := by decide +kernel
theorem dX3_signAll_33 : decode cX3_signAll 33 = .ok (.getfield 129, 3) := by decide +kernel
theorem dX3_signAll_36 : decode cX3_signAll 36 = .ok (.if_icmp .ge 57, 3) := by decide +kernel
theorem dX3_signAll_39 : decode cX3_signAll 39 = .ok (.aload_n 0, 1) := by decide +kernel
theorem dX3_signAll_40 : decode cX3_signAll 40 = .ok (.getfield 126, 3) := by decide +kernel
theorem dX3_signAll_43 : decode cX3_signAll 43 = .ok (.ifCond .ne 50, 3) := by decide +kernel
theorem dX3_signAll_46 : decode cX3_signAll 46 = .ok (.aload_n 0, 1) := by decide +kernel
theorem dX3_signAll_47 : decode cX3_signAll 47 = .ok (.iload_n 2, 1) := by decide +kernel
theorem dX3_signAll_48 : decode cX3_signAll 48 = .ok (.invokevirtual 132, 3) := by decide +kernel
theorem dX3_signAll_51 : decode cX3_signAll 51 = .ok (.istore_n 3, 1) := by decide +kernel
theorem dX3_signAll_52 : decode cX3_signAll 52 = .ok (.iload_n 3, 1) := by decide +kernel
theorem dX3_signAll_53 : decode cX3_signAll 53 = .ok (.bipush 10, 2) := by decide +kernel
theorem dX3_signAll_55 : decode cX3_signAll 55 = .ok (.if_icmp .lt 9, 3) := by decide +kernel
theorem dX3_signAll_58 : decode cX3_signAll 58 = .ok (.iinc 1 1, 3) := by decide +kernel
theorem dX3_signAll_61 : decode cX3_signAll 61 = .ok (.goto 26, 3) := by decide +kernel
theorem dX3_signAll_64 : decode cX3_signAll 64 = .ok (.aload_n 0, 1) := by decide +kernel
theorem dX3_signAll_65 : decode cX3_signAll 65 = .ok (.iload_n 3, 1) := by decide +kernel
theorem dX3_signAll_66 : decode cX3_signAll 66 = .ok (.putfield 126, 3) := by decide +kernel
theorem dX3_signAll_69 : decode cX3_signAll 69 = .ok (.aload_n 0, 1) := by decide +kernel
theorem dX3_signAll_70 : decode cX3_signAll 70 = .ok (.iload_n 2, 1) := by decide +kernel
theorem dX3_signAll_71 : decode cX3_signAll 71 = .ok (.putfield 135, 3) := by decide +kernel
theorem dX3_signAll_74 : decode cX3_signAll 74 = .ok (.aload_n 0, 1) := by decide +kernel
theorem dX3_signAll_75 : decode cX3_signAll 75 = .ok (.aload_n 0, 1) := by decide +kernel
theorem dX3_signAll_76 : decode cX3_signAll 76 = .ok (.getfield 33, 3) := by decide +kernel
theorem dX3_signAll_79 : decode cX3_signAll 79 = .ok (.getfield 138, 3) := by decide +kernel
theorem dX3_signAll_82 : decode cX3_signAll 82 = .ok (.iload_n 2, 1) := by decide +kernel
theorem dX3_signAll_83 : decode cX3_signAll 83 = .ok (.iaload, 1) := by decide +kernel
theorem dX3_signAll_84 : decode cX3_signAll 84 = .ok (.putfield 141, 3) := by decide +kernel
theorem dX3_signAll_87 : decode cX3_signAll 87 = .ok (.iinc 2 1, 3) := by decide +kernel
theorem dX3_signAll_90 : decode cX3_signAll 90 = .ok (.goto (-62), 3) := by decide +kernel
theorem dX3_signAll_93 : decode cX3_signAll 93 = .ok (.aload_n 0, 1) := by decide +kernel
theorem dX3_signAll_94 : decode cX3_signAll 94 = .ok (.getfield 33, 3) := by decide +kernel
theorem dX3_signAll_97 : decode cX3_signAll 97 = .ok (.iconst 0, 1) := by decide +kernel
theorem dX3_signAll_98 : decode cX3_signAll 98 = .ok (.putfield 116, 3) := by decide +kernel
theorem dX3_signAll_101 : decode cX3_signAll 101 = .ok (.iload_n 1, 1) := by decide +kernel
theorem dX3_signAll_102 : decode cX3_signAll 102 = .ok (.ireturn, 1) := by decide +kernel
theorem dX3_why_0 : decode cX3_why 0 = .ok (.iload_n 1, 1) := by decide +kernel
theorem dX3_why_1 : decode cX3_why 1 = .ok (.ifCond .lt 8, 3) := by decide +kernel
theorem dX3_why_4 : decode cX3_why 4 = .ok (.iload_n 1, 1) := by decide +kernel
theorem dX3_why_5 : decode cX3_why 5 = .ok (.iconst 2, 1) := by decide +kernel
theorem dX3_why_6 : decode cX3_why 6 = .ok (.if_icmp .le 5, 3) := by decide +kernel
theorem dX3_why_9 : decode cX3_why 9 = .ok (.iconst (-1), 1) := by decide +kernel
theorem dX3_why_10 : decode cX3_why 10 = .ok (.ireturn, 1) := by decide +kernel
theorem dX3_why_11 : decode cX3_why 11 = .ok (.aload_n 0, 1) := by decide +kernel
theorem dX3_why_12 : decode cX3_why 12 = .ok (.getfield 126, 3) := by decide +kernel
theorem dX3_why_15 : decode cX3_why 15 = .ok (.ifCond .ne 6, 3) := by decide +kernel
theorem dX3_why_18 : decode cX3_why 18 = .ok (.bipush (-4), 2) := by decide +kernel
theorem dX3_why_20 : decode cX3_why 20 = .ok (.ireturn, 1) := by decide +kernel
theorem dX3_why_21 : decode cX3_why 21 = .ok (.iload_n 1, 1) := by decide +kernel
theorem dX3_why_22 : decode cX3_why 22 = .ok (.lookupswitch 36 #[(0, 26), (1, 31)], 26) := by decide +kernel
theorem dX3_why_48 : decode cX3_why 48 = .ok (.aload_n 0, 1) := by decide +kernel
theorem dX3_why_49 : decode cX3_why 49 = .ok (.getfield 126, 3) := by decide +kernel
theorem dX3_why_52 : decode cX3_why 52 = .ok (.ireturn, 1) := by decide +kernel
theorem dX3_why_53 : decode cX3_why 53 = .ok (.aload_n 0, 1) := by decide +kernel
theorem dX3_why_54 : decode cX3_why 54 = .ok (.getfield 135, 3) := by decide +kernel
theorem dX3_why_57 : decode cX3_why 57 = .ok (.ireturn, 1) := by decide +kernel
theorem dX3_why_58 : decode cX3_why 58 = .ok (.aload_n 0, 1) := by decide +kernel
theorem dX3_why_59 : decode cX3_why 59 = .ok (.getfield 141, 3) := by decide +kernel
theorem dX3_why_62 : decode cX3_why 62 = .ok (.ireturn, 1) := by decide +kernel
theorem dX3_hedge_0 : decode cX3_hedge 0 = .ok (.iload_n 1, 1) := by decide +kernel
theorem dX3_hedge_1 : decode cX3_hedge 1 = .ok (.invokestatic 37, 3) := by decide +kernel
theorem dX3_hedge_4 : decode cX3_hedge 4 = .ok (.ifCond .ne 5, 3) := by decide +kernel
theorem dX3_hedge_7 : decode cX3_hedge 7 = .ok (.iconst (-1), 1) := by decide +kernel
theorem dX3_hedge_8 : decode cX3_hedge 8 = .ok (.ireturn, 1) := by decide +kernel
theorem dX3_hedge_9 : decode cX3_hedge 9 = .ok (.iload_n 2, 1) := by decide +kernel
theorem dX3_hedge_10 : decode cX3_hedge 10 = .ok (.tableswitch 151 0 7 #[46, 56, 66, 83, 93, 122, 132, 141], 46) := by decide +kernel
theorem dX3_hedge_56 : decode cX3_hedge 56 = .ok (.aload_n 0, 1) := by decide +kernel
theorem dX3_hedge_57 : decode cX3_hedge 57 = .ok (.getfield 10, 3) := by decide +kernel
theorem dX3_hedge_60 : decode cX3_hedge 60 = .ok (.getfield 44, 3) := by decide +kernel
theorem dX3_hedge_63 : decode cX3_hedge 63 = .ok (.iload_n 1, 1) := by decide +kernel
theorem dX3_hedge_64 : decode cX3_hedge 64 = .ok (.iaload, 1) := by decide +kernel
theorem dX3_hedge_65 : decode cX3_hedge 65 = .ok (.ireturn, 1) := by decide +kernel
theorem dX3_hedge_66 : decode cX3_hedge 66 = .ok (.aload_n 0, 1) := by decide +kernel
theorem dX3_hedge_67 : decode cX3_hedge 67 = .ok (.getfield 10, 3) := by decide +kernel
theorem dX3_hedge_70 : decode cX3_hedge 70 = .ok (.getfield 48, 3) := by decide +kernel
theorem dX3_hedge_73 : decode cX3_hedge 73 = .ok (.iload_n 1, 1) := by decide +kernel
theorem dX3_hedge_74 : decode cX3_hedge 74 = .ok (.iaload, 1) := by decide +kernel
theorem dX3_hedge_75 : decode cX3_hedge 75 = .ok (.ireturn, 1) := by decide +kernel
theorem dX3_hedge_76 : decode cX3_hedge 76 = .ok (.aload_n 0, 1) := by decide +kernel
theorem dX3_hedge_77 : decode cX3_hedge 77 = .ok (.getfield 10, 3) := by decide +kernel
theorem dX3_hedge_80 : decode cX3_hedge 80 = .ok (.iload_n 1, 1) := by decide +kernel
theorem dX3_hedge_81 : decode cX3_hedge 81 = .ok (.invokevirtual 58, 3) := by decide +kernel
theorem dX3_hedge_84 : decode cX3_hedge 84 = .ok (.ifCond .eq 7, 3) := by decide +kernel
theorem dX3_hedge_87 : decode cX3_hedge 87 = .ok (.iconst 1, 1) := by decide +kernel
theorem dX3_hedge_88 : decode cX3_hedge 88 = .ok (.goto 4, 3) := by decide +kernel
theorem dX3_hedge_91 : decode cX3_hedge 91 = .ok (.iconst 0, 1) := by decide +kernel
theorem dX3_hedge_92 : decode cX3_hedge 92 = .ok (.ireturn, 1) := by decide +kernel
theorem dX3_hedge_93 : decode cX3_hedge 93 = .ok (.aload_n 0, 1) := by decide +kernel
theorem dX3_hedge_94 : decode cX3_hedge 94 = .ok (.getfield 10, 3) := by decide +kernel
theorem dX3_hedge_97 : decode cX3_hedge 97 = .ok (.getfield 51, 3) := by decide +kernel
theorem dX3_hedge_100 : decode cX3_hedge 100 = .ok (.iload_n 1, 1) := by decide +kernel
theorem dX3_hedge_101 : decode cX3_hedge 101 = .ok (.iaload, 1) := by decide +kernel
theorem dX3_hedge_102 : decode cX3_hedge 102 = .ok (.ireturn, 1) := by decide +kernel
theorem dX3_hedge_103 : decode cX3_hedge 103 = .ok (.aload_n 0, 1) := by decide +kernel
theorem dX3_hedge_104 : decode cX3_hedge 104 = .ok (.getfield 26, 3) := by decide +kernel
theorem dX3_hedge_107 : decode cX3_hedge 107 = .ok (.aload_n 0, 1) := by decide +kernel
theorem dX3_hedge_108 : decode cX3_hedge 108 = .ok (.getfield 10, 3) := by decide +kernel
theorem dX3_hedge_111 : decode cX3_hedge 111 = .ok (.invokevirtual 69, 3) := by decide +kernel
theorem dX3_hedge_114 : decode cX3_hedge 114 = .ok (.ifCond .eq 15, 3) := by decide +kernel
theorem dX3_hedge_117 : decode cX3_hedge 117 = .ok (.aload_n 0, 1) := by decide +kernel
theorem dX3_hedge_118 : decode cX3_hedge 118 = .ok (.getfield 26, 3) := by decide +kernel
theorem dX3_hedge_121 : decode cX3_hedge 121 = .ok (.getfield 77, 3) := by decide +kernel
theorem dX3_hedge_124 : decode cX3_hedge 124 = .ok (.iload_n 1, 1) := by decide +kernel
theorem dX3_hedge_125 : decode cX3_hedge 125 = .ok (.iaload, 1) := by decide +kernel
theorem dX3_hedge_126 : decode cX3_hedge 126 = .ok (.goto 5, 3) := by decide +kernel
theorem dX3_hedge_129 : decode cX3_hedge 129 = .ok (.bipush (-4), 2) := by decide +kernel
theorem dX3_hedge_131 : decode cX3_hedge 131 = .ok (.ireturn, 1) := by decide +kernel
theorem dX3_hedge_132 : decode cX3_hedge 132 = .ok (.aload_n 0, 1) := by decide +kernel
theorem dX3_hedge_133 : decode cX3_hedge 133 = .ok (.getfield 10, 3) := by decide +kernel
theorem dX3_hedge_136 : decode cX3_hedge 136 = .ok (.iload_n 1, 1) := by decide +kernel
theorem dX3_hedge_137 : decode cX3_hedge 137 = .ok (.iconst 0, 1) := by decide +kernel
theorem dX3_hedge_138 : decode cX3_hedge 138 = .ok (.invokevirtual 83, 3) := by decide +kernel
theorem dX3_hedge_141 : decode cX3_hedge 141 = .ok (.ireturn, 1) := by decide +kernel
theorem dX3_hedge_142 : decode cX3_hedge 142 = .ok (.aload_n 0, 1) := by decide +kernel
theorem dX3_hedge_143 : decode cX3_hedge 143 = .ok (.getfield 10, 3) := by decide +kernel
theorem dX3_hedge_146 : decode cX3_hedge 146 = .ok (.iload_n 1, 1) := by decide +kernel
theorem dX3_hedge_147 : decode cX3_hedge 147 = .ok (.invokevirtual 144, 3) := by decide +kernel
theorem dX3_hedge_150 : decode cX3_hedge 150 = .ok (.ireturn, 1) := by decide +kernel
theorem dX3_hedge_151 : decode cX3_hedge 151 = .ok (.aload_n 0, 1) := by decide +kernel
theorem dX3_hedge_152 : decode cX3_hedge 152 = .ok (.getfield 10, 3) := by decide +kernel
theorem dX3_hedge_155 : decode cX3_hedge 155 = .ok (.getfield 147, 3) := by decide +kernel
theorem dX3_hedge_158 : decode cX3_hedge 158 = .ok (.iload_n 1, 1) := by decide +kernel
theorem dX3_hedge_159 : decode cX3_hedge 159 = .ok (.iaload, 1) := by decide +kernel
theorem dX3_hedge_160 : decode cX3_hedge 160 = .ok (.ireturn, 1) := by decide +kernel
theorem dX3_hedge_161 : decode cX3_hedge 161 = .ok (.iconst (-1), 1) := by decide +kernel
theorem dX3_hedge_162 : decode cX3_hedge 162 = .ok (.ireturn, 1) := by decide +kernel
theorem dX3_treaty_0 : decode cX3_treaty 0 = .ok (.aload_n 0, 1) := by decide +kernel
theorem dX3_treaty_1 : decode cX3_treaty 1 = .ok (.iload_n 1, 1) := by decide +kernel
theorem dX3_treaty_2 : decode cX3_treaty 2 = .ok (.invokevirtual 94, 3) := by decide +kernel
theorem dX3_treaty_5 : decode cX3_treaty 5 = .ok (.ifCond .ne 5, 3) := by decide +kernel
theorem dX3_treaty_8 : decode cX3_treaty 8 = .ok (.iconst (-1), 1) := by decide +kernel
theorem dX3_treaty_9 : decode cX3_treaty 9 = .ok (.ireturn, 1) := by decide +kernel
theorem dX3_treaty_10 : decode cX3_treaty 10 = .ok (.iload_n 2, 1) := by decide +kernel
theorem dX3_treaty_11 : decode cX3_treaty 11 = .ok (.tableswitch 150 0 7 #[45, 55, 65, 78, 95, 112, 126, 136], 45) := by decide +kernel
theorem dX3_treaty_56 : decode cX3_treaty 56 = .ok (.aload_n 0, 1) := by decide +kernel
theorem dX3_treaty_57 : decode cX3_treaty 57 = .ok (.getfield 10, 3) := by decide +kernel
theorem dX3_treaty_60 : decode cX3_treaty 60 = .ok (.getfield 150, 3) := by decide +kernel
theorem dX3_treaty_63 : decode cX3_treaty 63 = .ok (.iload_n 1, 1) := by decide +kernel
theorem dX3_treaty_64 : decode cX3_treaty 64 = .ok (.iaload, 1) := by decide +kernel
theorem dX3_treaty_65 : decode cX3_treaty 65 = .ok (.ireturn, 1) := by decide +kernel
theorem dX3_treaty_66 : decode cX3_treaty 66 = .ok (.aload_n 0, 1) := by decide +kernel
theorem dX3_treaty_67 : decode cX3_treaty 67 = .ok (.getfield 10, 3) := by decide +kernel
theorem dX3_treaty_70 : decode cX3_treaty 70 = .ok (.getfield 153, 3) := by decide +kernel
theorem dX3_treaty_73 : decode cX3_treaty 73 = .ok (.iload_n 1, 1) := by decide +kernel
theorem dX3_treaty_74 : decode cX3_treaty 74 = .ok (.iaload, 1) := by decide +kernel
theorem dX3_treaty_75 : decode cX3_treaty 75 = .ok (.ireturn, 1) := by decide +kernel
theorem dX3_treaty_76 : decode cX3_treaty 76 = .ok (.aload_n 0, 1) := by decide +kernel
theorem dX3_treaty_77 : decode cX3_treaty 77 = .ok (.getfield 10, 3) := by decide +kernel
theorem dX3_treaty_80 : decode cX3_treaty 80 = .ok (.getfield 156, 3) := by decide +kernel
theorem dX3_treaty_83 : decode cX3_treaty 83 = .ok (.iload_n 1, 1) := by decide +kernel
theorem dX3_treaty_84 : decode cX3_treaty 84 = .ok (.iaload, 1) := by decide +kernel
theorem dX3_treaty_85 : decode cX3_treaty 85 = .ok (.bipush 100, 2) := by decide +kernel
theorem dX3_treaty_87 : decode cX3_treaty 87 = .ok (.iadd, 1) := by decide +kernel
theorem dX3_treaty_88 : decode cX3_treaty 88 = .ok (.ireturn, 1) := by decide +kernel
theorem dX3_treaty_89 : decode cX3_treaty 89 = .ok (.aload_n 0, 1) := by decide +kernel
theorem dX3_treaty_90 : decode cX3_treaty 90 = .ok (.getfield 10, 3) := by decide +kernel
theorem dX3_treaty_93 : decode cX3_treaty 93 = .ok (.iload_n 1, 1) := by decide +kernel
theorem dX3_treaty_94 : decode cX3_treaty 94 = .ok (.invokevirtual 113, 3) := by decide +kernel
theorem dX3_treaty_97 : decode cX3_treaty 97 = .ok (.ifCond .eq 7, 3) := by decide +kernel
theorem dX3_treaty_100 : decode cX3_treaty 100 = .ok (.iconst 1, 1) := by decide +kernel
theorem dX3_treaty_101 : decode cX3_treaty 101 = .ok (.goto 4, 3) := by decide +kernel
theorem dX3_treaty_104 : decode cX3_treaty 104 = .ok (.iconst 0, 1) := by decide +kernel
theorem dX3_treaty_105 : decode cX3_treaty 105 = .ok (.ireturn, 1) := by decide +kernel
theorem dX3_treaty_106 : decode cX3_treaty 106 = .ok (.aload_n 0, 1) := by decide +kernel
theorem dX3_treaty_107 : decode cX3_treaty 107 = .ok (.getfield 10, 3) := by decide +kernel
theorem dX3_treaty_110 : decode cX3_treaty 110 = .ok (.iload_n 1, 1) := by decide +kernel
theorem dX3_treaty_111 : decode cX3_treaty 111 = .ok (.invokevirtual 104, 3) := by decide +kernel
theorem dX3_treaty_114 : decode cX3_treaty 114 = .ok (.ifCond .eq 7, 3) := by decide +kernel
theorem dX3_treaty_117 : decode cX3_treaty 117 = .ok (.iconst 1, 1) := by decide +kernel
theorem dX3_treaty_118 : decode cX3_treaty 118 = .ok (.goto 4, 3) := by decide +kernel
theorem dX3_treaty_121 : decode cX3_treaty 121 = .ok (.iconst 0, 1) := by decide +kernel
theorem dX3_treaty_122 : decode cX3_treaty 122 = .ok (.ireturn, 1) := by decide +kernel
theorem dX3_treaty_123 : decode cX3_treaty 123 = .ok (.aload_n 0, 1) := by decide +kernel
theorem dX3_treaty_124 : decode cX3_treaty 124 = .ok (.getfield 10, 3) := by decide +kernel
theorem dX3_treaty_127 : decode cX3_treaty 127 = .ok (.iload_n 1, 1) := by decide +kernel
theorem dX3_treaty_128 : decode cX3_treaty 128 = .ok (.iconst 0, 1) := by decide +kernel
theorem dX3_treaty_129 : decode cX3_treaty 129 = .ok (.invokevirtual 159, 3) := by decide +kernel
theorem dX3_treaty_132 : decode cX3_treaty 132 = .ok (.sipush 1000, 3) := by decide +kernel
theorem dX3_treaty_135 : decode cX3_treaty 135 = .ok (.iadd, 1) := by decide +kernel
theorem dX3_treaty_136 : decode cX3_treaty 136 = .ok (.ireturn, 1) := by decide +kernel
theorem dX3_treaty_137 : decode cX3_treaty 137 = .ok (.aload_n 0, 1) := by decide +kernel
theorem dX3_treaty_138 : decode cX3_treaty 138 = .ok (.getfield 10, 3) := by decide +kernel
theorem dX3_treaty_141 : decode cX3_treaty 141 = .ok (.getfield 110, 3) := by decide +kernel
theorem dX3_treaty_144 : decode cX3_treaty 144 = .ok (.iload_n 1, 1) := by decide +kernel
theorem dX3_treaty_145 : decode cX3_treaty 145 = .ok (.iaload, 1) := by decide +kernel
theorem dX3_treaty_146 : decode cX3_treaty 146 = .ok (.ireturn, 1) := by decide +kernel
theorem dX3_treaty_147 : decode cX3_treaty 147 = .ok (.aload_n 0, 1) := by decide +kernel
theorem dX3_treaty_148 : decode cX3_treaty 148 = .ok (.iload_n 1, 1) := by decide +kernel
theorem dX3_treaty_149 : decode cX3_treaty 149 = .ok (.invokevirtual 162, 3) := by decide +kernel
theorem dX3_treaty_152 : decode cX3_treaty 152 = .ok (.ifCond .eq 7, 3) := by decide +kernel
theorem dX3_treaty_155 : decode cX3_treaty 155 = .ok (.iconst 1, 1) := by decide +kernel
theorem dX3_treaty_156 : decode cX3_treaty 156 = .ok (.goto 4, 3) := by decide +kernel
theorem dX3_treaty_159 : decode cX3_treaty 159 = .ok (.iconst 0, 1) := by decide +kernel
theorem dX3_treaty_160 : decode cX3_treaty 160 = .ok (.ireturn, 1) := by decide +kernel
theorem dX3_treaty_161 : decode cX3_treaty 161 = .ok (.iconst (-1), 1) := by decide +kernel
theorem dX3_treaty_162 : decode cX3_treaty 162 = .ok (.ireturn, 1) := by decide +kernel
theorem dX3_bound_0 : decode cX3_bound 0 = .ok (.iload_n 1, 1) := by decide +kernel
theorem dX3_bound_1 : decode cX3_bound 1 = .ok (.invokestatic 37, 3) := by decide +kernel
theorem dX3_bound_4 : decode cX3_bound 4 = .ok (.ifCond .eq 19, 3) := by decide +kernel
theorem dX3_bound_7 : decode cX3_bound 7 = .ok (.iload_n 2, 1) := by decide +kernel
theorem dX3_bound_8 : decode cX3_bound 8 = .ok (.invokestatic 37, 3) := by decide +kernel
theorem dX3_bound_11 : decode cX3_bound 11 = .ok (.ifCond .eq 12, 3) := by decide +kernel
theorem dX3_bound_14 : decode cX3_bound 14 = .ok (.iload_n 3, 1) := by decide +kernel
theorem dX3_bound_15 : decode cX3_bound 15 = .ok (.ifCond .lt 8, 3) := by decide +kernel
theorem dX3_bound_18 : decode cX3_bound 18 = .ok (.iload_n 3, 1) := by decide +kernel
theorem dX3_bound_19 : decode cX3_bound 19 = .ok (.iconst 1, 1) := by decide +kernel
theorem dX3_bound_20 : decode cX3_bound 20 = .ok (.if_icmp .le 5, 3) := by decide +kernel
theorem dX3_bound_23 : decode cX3_bound 23 = .ok (.iconst (-1), 1) := by decide +kernel
theorem dX3_bound_24 : decode cX3_bound 24 = .ok (.ireturn, 1) := by decide +kernel
theorem dX3_bound_25 : decode cX3_bound 25 = .ok (.iload_n 3, 1) := by decide +kernel
theorem dX3_bound_26 : decode cX3_bound 26 = .ok (.ifCond .ne 20, 3) := by decide +kernel
theorem dX3_bound_29 : decode cX3_bound 29 = .ok (.aload_n 0, 1) := by decide +kernel
theorem dX3_bound_30 : decode cX3_bound 30 = .ok (.getfield 26, 3) := by decide +kernel
theorem dX3_bound_33 : decode cX3_bound 33 = .ok (.aload_n 0, 1) := by decide +kernel
theorem dX3_bound_34 : decode cX3_bound 34 = .ok (.getfield 10, 3) := by decide +kernel
theorem dX3_bound_37 : decode cX3_bound 37 = .ok (.iload_n 1, 1) := by decide +kernel
theorem dX3_bound_38 : decode cX3_bound 38 = .ok (.iload_n 2, 1) := by decide +kernel
theorem dX3_bound_39 : decode cX3_bound 39 = .ok (.iconst (-1), 1) := by decide +kernel
theorem dX3_bound_40 : decode cX3_bound 40 = .ok (.invokevirtual 165, 3) := by decide +kernel
theorem dX3_bound_43 : decode cX3_bound 43 = .ok (.goto 16, 3) := by decide +kernel
theorem dX3_bound_46 : decode cX3_bound 46 = .ok (.aload_n 0, 1) := by decide +kernel
theorem dX3_bound_47 : decode cX3_bound 47 = .ok (.getfield 26, 3) := by decide +kernel
theorem dX3_bound_50 : decode cX3_bound 50 = .ok (.aload_n 0, 1) := by decide +kernel
theorem dX3_bound_51 : decode cX3_bound 51 = .ok (.getfield 10, 3) := by decide +kernel
theorem dX3_bound_54 : decode cX3_bound 54 = .ok (.iload_n 1, 1) := by decide +kernel
theorem dX3_bound_55 : decode cX3_bound 55 = .ok (.iload_n 2, 1) := by decide +kernel
theorem dX3_bound_56 : decode cX3_bound 56 = .ok (.invokevirtual 169, 3) := by decide +kernel
theorem dX3_bound_59 : decode cX3_bound 59 = .ok (.istore 4, 2) := by decide +kernel
theorem dX3_bound_61 : decode cX3_bound 61 = .ok (.iload 4, 2) := by decide +kernel
theorem dX3_bound_63 : decode cX3_bound 63 = .ok (.ldc 173, 2) := by decide +kernel
theorem dX3_bound_65 : decode cX3_bound 65 = .ok (.if_icmp .ne 8, 3) := by decide +kernel
theorem dX3_bound_68 : decode cX3_bound 68 = .ok (.bipush (-4), 2) := by decide +kernel
theorem dX3_bound_70 : decode cX3_bound 70 = .ok (.goto 9, 3) := by decide +kernel
theorem dX3_bound_73 : decode cX3_bound 73 = .ok (.iload 4, 2) := by decide +kernel
theorem dX3_bound_75 : decode cX3_bound 75 = .ok (.sipush 1000, 3) := by decide +kernel
theorem dX3_bound_78 : decode cX3_bound 78 = .ok (.iadd, 1) := by decide +kernel
theorem dX3_bound_79 : decode cX3_bound 79 = .ok (.ireturn, 1) := by decide +kernel
theorem dX3_whyNot_0 : decode cX3_whyNot 0 = .ok (.iload_n 1, 1) := by decide +kernel
theorem dX3_whyNot_1 : decode cX3_whyNot 1 = .ok (.iload_n 2, 1) := by decide +kernel
theorem dX3_whyNot_2 : decode cX3_whyNot 2 = .ok (.iload_n 3, 1) := by decide +kernel
theorem dX3_whyNot_3 : decode cX3_whyNot 3 = .ok (.invokestatic 174, 3) := by decide +kernel
theorem dX3_whyNot_6 : decode cX3_whyNot 6 = .ok (.ifCond .eq 13, 3) := by decide +kernel
theorem dX3_whyNot_9 : decode cX3_whyNot 9 = .ok (.aload_n 0, 1) := by decide +kernel
theorem dX3_whyNot_10 : decode cX3_whyNot 10 = .ok (.iload_n 1, 1) := by decide +kernel
theorem dX3_whyNot_11 : decode cX3_whyNot 11 = .ok (.iload_n 2, 1) := by decide +kernel
theorem dX3_whyNot_12 : decode cX3_whyNot 12 = .ok (.iload_n 3, 1) := by decide +kernel
theorem dX3_whyNot_13 : decode cX3_whyNot 13 = .ok (.invokevirtual 178, 3) := by decide +kernel
theorem dX3_whyNot_16 : decode cX3_whyNot 16 = .ok (.goto 4, 3) := by decide +kernel
theorem dX3_whyNot_19 : decode cX3_whyNot 19 = .ok (.iconst (-1), 1) := by decide +kernel
theorem dX3_whyNot_20 : decode cX3_whyNot 20 = .ok (.ireturn, 1) := by decide +kernel
theorem dX3_clipping_0 : decode cX3_clipping 0 = .ok (.iload_n 1, 1) := by decide +kernel
theorem dX3_clipping_1 : decode cX3_clipping 1 = .ok (.ifCond .lt 8, 3) := by decide +kernel
theorem dX3_clipping_4 : decode cX3_clipping 4 = .ok (.iload_n 1, 1) := by decide +kernel
theorem dX3_clipping_5 : decode cX3_clipping 5 = .ok (.iconst 1, 1) := by decide +kernel
theorem dX3_clipping_6 : decode cX3_clipping 6 = .ok (.if_icmp .le 5, 3) := by decide +kernel
theorem dX3_clipping_9 : decode cX3_clipping 9 = .ok (.iconst (-1), 1) := by decide +kernel
theorem dX3_clipping_10 : decode cX3_clipping 10 = .ok (.ireturn, 1) := by decide +kernel
theorem dX3_clipping_11 : decode cX3_clipping 11 = .ok (.iload_n 1, 1) := by decide +kernel
theorem dX3_clipping_12 : decode cX3_clipping 12 = .ok (.ifCond .ne 17, 3) := by decide +kernel
theorem dX3_clipping_15 : decode cX3_clipping 15 = .ok (.aload_n 0, 1) := by decide +kernel
theorem dX3_clipping_16 : decode cX3_clipping 16 = .ok (.getfield 26, 3) := by decide +kernel
theorem dX3_clipping_19 : decode cX3_clipping 19 = .ok (.aload_n 0, 1) := by decide +kernel
theorem dX3_clipping_20 : decode cX3_clipping 20 = .ok (.getfield 10, 3) := by decide +kernel
theorem dX3_clipping_23 : decode cX3_clipping 23 = .ok (.invokevirtual 69, 3) := by decide +kernel
theorem dX3_clipping_26 : decode cX3_clipping 26 = .ok (.goto 14, 3) := by decide +kernel
theorem dX3_clipping_29 : decode cX3_clipping 29 = .ok (.aload_n 0, 1) := by decide +kernel
theorem dX3_clipping_30 : decode cX3_clipping 30 = .ok (.getfield 26, 3) := by decide +kernel
theorem dX3_clipping_33 : decode cX3_clipping 33 = .ok (.aload_n 0, 1) := by decide +kernel
theorem dX3_clipping_34 : decode cX3_clipping 34 = .ok (.getfield 10, 3) := by decide +kernel
theorem dX3_clipping_37 : decode cX3_clipping 37 = .ok (.invokevirtual 181, 3) := by decide +kernel
theorem dX3_clipping_40 : decode cX3_clipping 40 = .ok (.istore_n 2, 1) := by decide +kernel
theorem dX3_clipping_41 : decode cX3_clipping 41 = .ok (.iload_n 2, 1) := by decide +kernel
theorem dX3_clipping_42 : decode cX3_clipping 42 = .ok (.ifCond .eq 27, 3) := by decide +kernel
theorem dX3_clipping_45 : decode cX3_clipping 45 = .ok (.aload_n 0, 1) := by decide +kernel
theorem dX3_clipping_46 : decode cX3_clipping 46 = .ok (.getfield 10, 3) := by decide +kernel
theorem dX3_clipping_49 : decode cX3_clipping 49 = .ok (.getfield 44, 3) := by decide +kernel
theorem dX3_clipping_52 : decode cX3_clipping 52 = .ok (.invokestatic 184, 3) := by decide +kernel
theorem dX3_clipping_55 : decode cX3_clipping 55 = .ok (.aload_n 0, 1) := by decide +kernel
theorem dX3_clipping_56 : decode cX3_clipping 56 = .ok (.getfield 26, 3) := by decide +kernel
theorem dX3_clipping_59 : decode cX3_clipping 59 = .ok (.getfield 77, 3) := by decide +kernel
theorem dX3_clipping_62 : decode cX3_clipping 62 = .ok (.invokestatic 184, 3) := by decide +kernel
theorem dX3_clipping_65 : decode cX3_clipping 65 = .ok (.isub, 1) := by decide +kernel
theorem dX3_clipping_66 : decode cX3_clipping 66 = .ok (.goto 5, 3) := by decide +kernel
theorem dX3_clipping_69 : decode cX3_clipping 69 = .ok (.bipush (-4), 2) := by decide +kernel
theorem dX3_clipping_71 : decode cX3_clipping 71 = .ok (.ireturn, 1) := by decide +kernel
theorem dX3_count_0 : decode cX3_count 0 = .ok (.iload_n 1, 1) := by decide +kernel
theorem dX3_count_1 : decode cX3_count 1 = .ok (.tableswitch 177 0 12 #[67, 75, 83, 92, 102, 113, 121, 129, 137, 145, 153, 164, 172], 67) := by decide +kernel
theorem dX3_count_68 : decode cX3_count 68 = .ok (.aload_n 0, 1) := by decide +kernel
theorem dX3_count_69 : decode cX3_count 69 = .ok (.getfield 10, 3) := by decide +kernel
theorem dX3_count_72 : decode cX3_count 72 = .ok (.getfield 54, 3) := by decide +kernel
theorem dX3_count_75 : decode cX3_count 75 = .ok (.ireturn, 1) := by decide +kernel
theorem dX3_count_76 : decode cX3_count 76 = .ok (.aload_n 0, 1) := by decide +kernel
theorem dX3_count_77 : decode cX3_count 77 = .ok (.getfield 10, 3) := by decide +kernel
theorem dX3_count_80 : decode cX3_count 80 = .ok (.getfield 101, 3) := by decide +kernel
theorem dX3_count_83 : decode cX3_count 83 = .ok (.ireturn, 1) := by decide +kernel
theorem dX3_count_84 : decode cX3_count 84 = .ok (.aload_n 0, 1) := by decide +kernel
theorem dX3_count_85 : decode cX3_count 85 = .ok (.getfield 10, 3) := by decide +kernel
theorem dX3_count_88 : decode cX3_count 88 = .ok (.iconst (-1), 1) := by decide +kernel
theorem dX3_count_89 : decode cX3_count 89 = .ok (.invokevirtual 144, 3) := by decide +kernel
theorem dX3_count_92 : decode cX3_count 92 = .ok (.ireturn, 1) := by decide +kernel
theorem dX3_count_93 : decode cX3_count 93 = .ok (.aload_n 0, 1) := by decide +kernel
theorem dX3_count_94 : decode cX3_count 94 = .ok (.getfield 10, 3) := by decide +kernel
theorem dX3_count_97 : decode cX3_count 97 = .ok (.iconst (-1), 1) := by decide +kernel
theorem dX3_count_98 : decode cX3_count 98 = .ok (.iconst 0, 1) := by decide +kernel
theorem dX3_count_99 : decode cX3_count 99 = .ok (.invokevirtual 83, 3) := by decide +kernel
theorem dX3_count_102 : decode cX3_count 102 = .ok (.ireturn, 1) := by decide +kernel
theorem dX3_count_103 : decode cX3_count 103 = .ok (.aload_n 0, 1) := by decide +kernel
theorem dX3_count_104 : decode cX3_count 104 = .ok (.getfield 10, 3) := by decide +kernel
theorem dX3_count_107 : decode cX3_count 107 = .ok (.getfield 44, 3) := by decide +kernel
theorem dX3_count_110 : decode cX3_count 110 = .ok (.invokestatic 184, 3) := by decide +kernel
theorem dX3_count_113 : decode cX3_count 113 = .ok (.ireturn, 1) := by decide +kernel
theorem dX3_count_114 : decode cX3_count 114 = .ok (.aload_n 0, 1) := by decide +kernel
theorem dX3_count_115 : decode cX3_count 115 = .ok (.getfield 10, 3) := by decide +kernel
theorem dX3_count_118 : decode cX3_count 118 = .ok (.invokevirtual 188, 3) := by decide +kernel
theorem dX3_count_121 : decode cX3_count 121 = .ok (.ireturn, 1) := by decide +kernel
theorem dX3_count_122 : decode cX3_count 122 = .ok (.aload_n 0, 1) := by decide +kernel
theorem dX3_count_123 : decode cX3_count 123 = .ok (.getfield 10, 3) := by decide +kernel
theorem dX3_count_126 : decode cX3_count 126 = .ok (.getfield 107, 3) := by decide +kernel
theorem dX3_count_129 : decode cX3_count 129 = .ok (.ireturn, 1) := by decide +kernel
theorem dX3_count_130 : decode cX3_count 130 = .ok (.aload_n 0, 1) := by decide +kernel
theorem dX3_count_131 : decode cX3_count 131 = .ok (.getfield 10, 3) := by decide +kernel
theorem dX3_count_134 : decode cX3_count 134 = .ok (.getfield 191, 3) := by decide +kernel
theorem dX3_count_137 : decode cX3_count 137 = .ok (.ireturn, 1) := by decide +kernel
theorem dX3_count_138 : decode cX3_count 138 = .ok (.aload_n 0, 1) := by decide +kernel
theorem dX3_count_139 : decode cX3_count 139 = .ok (.getfield 10, 3) := by decide +kernel
theorem dX3_count_142 : decode cX3_count 142 = .ok (.getfield 194, 3) := by decide +kernel
theorem dX3_count_145 : decode cX3_count 145 = .ok (.ireturn, 1) := by decide +kernel
theorem dX3_count_146 : decode cX3_count 146 = .ok (.aload_n 0, 1) := by decide +kernel
theorem dX3_count_147 : decode cX3_count 147 = .ok (.getfield 10, 3) := by decide +kernel
theorem dX3_count_150 : decode cX3_count 150 = .ok (.getfield 197, 3) := by decide +kernel
theorem dX3_count_153 : decode cX3_count 153 = .ok (.ireturn, 1) := by decide +kernel
theorem dX3_count_154 : decode cX3_count 154 = .ok (.aload_n 0, 1) := by decide +kernel
theorem dX3_count_155 : decode cX3_count 155 = .ok (.getfield 10, 3) := by decide +kernel
theorem dX3_count_158 : decode cX3_count 158 = .ok (.getfield 147, 3) := by decide +kernel
theorem dX3_count_161 : decode cX3_count 161 = .ok (.invokestatic 184, 3) := by decide +kernel
theorem dX3_count_164 : decode cX3_count 164 = .ok (.ireturn, 1) := by decide +kernel
theorem dX3_count_165 : decode cX3_count 165 = .ok (.aload_n 0, 1) := by decide +kernel
theorem dX3_count_166 : decode cX3_count 166 = .ok (.getfield 33, 3) := by decide +kernel
theorem dX3_count_169 : decode cX3_count 169 = .ok (.getfield 116, 3) := by decide +kernel
theorem dX3_count_172 : decode cX3_count 172 = .ok (.ireturn, 1) := by decide +kernel
theorem dX3_count_173 : decode cX3_count 173 = .ok (.aload_n 0, 1) := by decide +kernel
theorem dX3_count_174 : decode cX3_count 174 = .ok (.getfield 200, 3) := by decide +kernel
theorem dX3_count_177 : decode cX3_count 177 = .ok (.ireturn, 1) := by decide +kernel
theorem dX3_count_178 : decode cX3_count 178 = .ok (.iconst (-1), 1) := by decide +kernel
theorem dX3_count_179 : decode cX3_count 179 = .ok (.ireturn, 1) := by decide +kernel
theorem dX3_peace_0 : decode cX3_peace 0 = .ok (.aload_n 0, 1) := by decide +kernel
theorem dX3_peace_1 : decode cX3_peace 1 = .ok (.getfield 10, 3) := by decide +kernel
theorem dX3_peace_4 : decode cX3_peace 4 = .ok (.iconst (-1), 1) := by decide +kernel
theorem dX3_peace_5 : decode cX3_peace 5 = .ok (.invokevirtual 144, 3) := by decide +kernel
theorem dX3_peace_8 : decode cX3_peace 8 = .ok (.istore_n 1, 1) := by decide +kernel
theorem dX3_peace_9 : decode cX3_peace 9 = .ok (.iload_n 1, 1) := by decide +kernel
theorem dX3_peace_10 : decode cX3_peace 10 = .ok (.ifCond .gt 5, 3) := by decide +kernel
theorem dX3_peace_13 : decode cX3_peace 13 = .ok (.dconst 1, 1) := by decide +kernel
theorem dX3_peace_14 : decode cX3_peace 14 = .ok (.dreturn, 1) := by decide +kernel
theorem dX3_peace_15 : decode cX3_peace 15 = .ok (.iload_n 1, 1) := by decide +kernel
theorem dX3_peace_16 : decode cX3_peace 16 = .ok (.aload_n 0, 1) := by decide +kernel
theorem dX3_peace_17 : decode cX3_peace 17 = .ok (.getfield 10, 3) := by decide +kernel
theorem dX3_peace_20 : decode cX3_peace 20 = .ok (.iconst (-1), 1) := by decide +kernel
theorem dX3_peace_21 : decode cX3_peace 21 = .ok (.iconst 0, 1) := by decide +kernel
theorem dX3_peace_22 : decode cX3_peace 22 = .ok (.invokevirtual 83, 3) := by decide +kernel
theorem dX3_peace_25 : decode cX3_peace 25 = .ok (.isub, 1) := by decide +kernel
theorem dX3_peace_26 : decode cX3_peace 26 = .ok (.i2d, 1) := by decide +kernel
theorem dX3_peace_27 : decode cX3_peace 27 = .ok (.iload_n 1, 1) := by decide +kernel
theorem dX3_peace_28 : decode cX3_peace 28 = .ok (.i2d, 1) := by decide +kernel
theorem dX3_peace_29 : decode cX3_peace 29 = .ok (.ddiv, 1) := by decide +kernel
theorem dX3_peace_30 : decode cX3_peace 30 = .ok (.dreturn, 1) := by decide +kernel
theorem dX3_ifDays_0 : decode cX3_ifDays 0 = .ok (.iload_n 1, 1) := by decide +kernel
theorem dX3_ifDays_1 : decode cX3_ifDays 1 = .ok (.iconst 1, 1) := by decide +kernel
theorem dX3_ifDays_2 : decode cX3_ifDays 2 = .ok (.if_icmp .lt 9, 3) := by decide +kernel
theorem dX3_ifDays_5 : decode cX3_ifDays 5 = .ok (.iload_n 1, 1) := by decide +kernel
theorem dX3_ifDays_6 : decode cX3_ifDays 6 = .ok (.bipush 30, 2) := by decide +kernel
theorem dX3_ifDays_8 : decode cX3_ifDays 8 = .ok (.if_icmp .le 5, 3) := by decide +kernel
theorem dX3_ifDays_11 : decode cX3_ifDays 11 = .ok (.iconst (-1), 1) := by decide +kernel
theorem dX3_ifDays_12 : decode cX3_ifDays 12 = .ok (.ireturn, 1) := by decide +kernel
theorem dX3_ifDays_13 : decode cX3_ifDays 13 = .ok (.iload_n 2, 1) := by decide +kernel
theorem dX3_ifDays_14 : decode cX3_ifDays 14 = .ok (.lookupswitch 45 #[(0, 26), (1, 36)], 26) := by decide +kernel
theorem dX3_ifDays_40 : decode cX3_ifDays 40 = .ok (.aload_n 0, 1) := by decide +kernel
theorem dX3_ifDays_41 : decode cX3_ifDays 41 = .ok (.getfield 10, 3) := by decide +kernel
theorem dX3_ifDays_44 : decode cX3_ifDays 44 = .ok (.iconst (-1), 1) := by decide +kernel
theorem dX3_ifDays_45 : decode cX3_ifDays 45 = .ok (.iload_n 1, 1) := by decide +kernel
theorem dX3_ifDays_46 : decode cX3_ifDays 46 = .ok (.invokevirtual 83, 3) := by decide +kernel
theorem dX3_ifDays_49 : decode cX3_ifDays 49 = .ok (.ireturn, 1) := by decide +kernel
theorem dX3_ifDays_50 : decode cX3_ifDays 50 = .ok (.aload_n 0, 1) := by decide +kernel
theorem dX3_ifDays_51 : decode cX3_ifDays 51 = .ok (.getfield 10, 3) := by decide +kernel
theorem dX3_ifDays_54 : decode cX3_ifDays 54 = .ok (.iload_n 1, 1) := by decide +kernel
theorem dX3_ifDays_55 : decode cX3_ifDays 55 = .ok (.invokevirtual 203, 3) := by decide +kernel
theorem dX3_ifDays_58 : decode cX3_ifDays 58 = .ok (.ireturn, 1) := by decide +kernel
theorem dX3_ifDays_59 : decode cX3_ifDays 59 = .ok (.iconst (-1), 1) := by decide +kernel
theorem dX3_ifDays_60 : decode cX3_ifDays 60 = .ok (.ireturn, 1) := by decide +kernel
theorem dX3_breaksIn_0 : decode cX3_breaksIn 0 = .ok (.iconst 0, 1) := by decide +kernel
theorem dX3_breaksIn_1 : decode cX3_breaksIn 1 = .ok (.istore_n 1, 1) := by decide +kernel
theorem dX3_breaksIn_2 : decode cX3_breaksIn 2 = .ok (.iload_n 1, 1) := by decide +kernel
theorem dX3_breaksIn_3 : decode cX3_breaksIn 3 = .ok (.bipush 60, 2) := by decide +kernel
theorem dX3_breaksIn_5 : decode cX3_breaksIn 5 = .ok (.if_icmp .gt 23, 3) := by decide +kernel
theorem dX3_breaksIn_8 : decode cX3_breaksIn 8 = .ok (.aload_n 0, 1) := by decide +kernel
theorem dX3_breaksIn_9 : decode cX3_breaksIn 9 = .ok (.getfield 10, 3) := by decide +kernel
theorem dX3_breaksIn_12 : decode cX3_breaksIn 12 = .ok (.iconst (-1), 1) := by decide +kernel
theorem dX3_breaksIn_13 : decode cX3_breaksIn 13 = .ok (.iload_n 1, 1) := by decide +kernel
theorem dX3_breaksIn_14 : decode cX3_breaksIn 14 = .ok (.invokevirtual 83, 3) := by decide +kernel
theorem dX3_breaksIn_17 : decode cX3_breaksIn 17 = .ok (.ifCond .le 5, 3) := by decide +kernel
theorem dX3_breaksIn_20 : decode cX3_breaksIn 20 = .ok (.iload_n 1, 1) := by decide +kernel
theorem dX3_breaksIn_21 : decode cX3_breaksIn 21 = .ok (.ireturn, 1) := by decide +kernel
theorem dX3_breaksIn_22 : decode cX3_breaksIn 22 = .ok (.iinc 1 1, 3) := by decide +kernel
theorem dX3_breaksIn_25 : decode cX3_breaksIn 25 = .ok (.goto (-23), 3) := by decide +kernel
theorem dX3_breaksIn_28 : decode cX3_breaksIn 28 = .ok (.bipush (-4), 2) := by decide +kernel
theorem dX3_breaksIn_30 : decode cX3_breaksIn 30 = .ok (.ireturn, 1) := by decide +kernel
theorem dX3_tightest_0 : decode cX3_tightest 0 = .ok (.iload_n 1, 1) := by decide +kernel
theorem dX3_tightest_1 : decode cX3_tightest 1 = .ok (.iload_n 2, 1) := by decide +kernel
theorem dX3_tightest_2 : decode cX3_tightest 2 = .ok (.bipush 60, 2) := by decide +kernel
theorem dX3_tightest_4 : decode cX3_tightest 4 = .ok (.invokestatic 174, 3) := by decide +kernel
theorem dX3_tightest_7 : decode cX3_tightest 7 = .ok (.ifCond .ne 5, 3) := by decide +kernel
theorem dX3_tightest_10 : decode cX3_tightest 10 = .ok (.iconst (-1), 1) := by decide +kernel
theorem dX3_tightest_11 : decode cX3_tightest 11 = .ok (.ireturn, 1) := by decide +kernel
theorem dX3_tightest_12 : decode cX3_tightest 12 = .ok (.aload_n 0, 1) := by decide +kernel
theorem dX3_tightest_13 : decode cX3_tightest 13 = .ok (.getfield 26, 3) := by decide +kernel
theorem dX3_tightest_16 : decode cX3_tightest 16 = .ok (.aload_n 0, 1) := by decide +kernel
theorem dX3_tightest_17 : decode cX3_tightest 17 = .ok (.getfield 10, 3) := by decide +kernel
theorem dX3_tightest_20 : decode cX3_tightest 20 = .ok (.iload_n 1, 1) := by decide +kernel
theorem dX3_tightest_21 : decode cX3_tightest 21 = .ok (.iload_n 2, 1) := by decide +kernel
theorem dX3_tightest_22 : decode cX3_tightest 22 = .ok (.bipush 60, 2) := by decide +kernel
theorem dX3_tightest_24 : decode cX3_tightest 24 = .ok (.invokevirtual 206, 3) := by decide +kernel
theorem dX3_tightest_27 : decode cX3_tightest 27 = .ok (.ifCond .ne 6, 3) := by decide +kernel
theorem dX3_tightest_30 : decode cX3_tightest 30 = .ok (.bipush (-4), 2) := by decide +kernel
theorem dX3_tightest_32 : decode cX3_tightest 32 = .ok (.ireturn, 1) := by decide +kernel
theorem dX3_tightest_33 : decode cX3_tightest 33 = .ok (.bipush 60, 2) := by decide +kernel
theorem dX3_tightest_35 : decode cX3_tightest 35 = .ok (.istore_n 3, 1) := by decide +kernel
theorem dX3_tightest_36 : decode cX3_tightest 36 = .ok (.bipush 64, 2) := by decide +kernel
theorem dX3_tightest_38 : decode cX3_tightest 38 = .ok (.istore 4, 2) := by decide +kernel
theorem dX3_tightest_40 : decode cX3_tightest 40 = .ok (.iload 4, 2) := by decide +kernel
theorem dX3_tightest_42 : decode cX3_tightest 42 = .ok (.ifCond .le 46, 3) := by decide +kernel
theorem dX3_tightest_45 : decode cX3_tightest 45 = .ok (.iload_n 3, 1) := by decide +kernel
theorem dX3_tightest_46 : decode cX3_tightest 46 = .ok (.iload 4, 2) := by decide +kernel
theorem dX3_tightest_48 : decode cX3_tightest 48 = .ok (.isub, 1) := by decide +kernel
theorem dX3_tightest_49 : decode cX3_tightest 49 = .ok (.istore 5, 2) := by decide +kernel
theorem dX3_tightest_51 : decode cX3_tightest 51 = .ok (.iload 5, 2) := by decide +kernel
theorem dX3_tightest_53 : decode cX3_tightest 53 = .ok (.bipush (-30), 2) := by decide +kernel
theorem dX3_tightest_55 : decode cX3_tightest 55 = .ok (.if_icmp .lt 24, 3) := by decide +kernel
theorem dX3_tightest_58 : decode cX3_tightest 58 = .ok (.aload_n 0, 1) := by decide +kernel
theorem dX3_tightest_59 : decode cX3_tightest 59 = .ok (.getfield 26, 3) := by decide +kernel
theorem dX3_tightest_62 : decode cX3_tightest 62 = .ok (.aload_n 0, 1) := by decide +kernel
theorem dX3_tightest_63 : decode cX3_tightest 63 = .ok (.getfield 10, 3) := by decide +kernel
theorem dX3_tightest_66 : decode cX3_tightest 66 = .ok (.iload_n 1, 1) := by decide +kernel
theorem dX3_tightest_67 : decode cX3_tightest 67 = .ok (.iload_n 2, 1) := by decide +kernel
theorem dX3_tightest_68 : decode cX3_tightest 68 = .ok (.iload 5, 2) := by decide +kernel
theorem dX3_tightest_70 : decode cX3_tightest 70 = .ok (.invokevirtual 206, 3) := by decide +kernel
theorem dX3_tightest_73 : decode cX3_tightest 73 = .ok (.ifCond .eq 6, 3) := by decide +kernel
theorem dX3_tightest_76 : decode cX3_tightest 76 = .ok (.iload 5, 2) := by decide +kernel
theorem dX3_tightest_78 : decode cX3_tightest 78 = .ok (.istore_n 3, 1) := by decide +kernel
theorem dX3_tightest_79 : decode cX3_tightest 79 = .ok (.iload 4, 2) := by decide +kernel
theorem dX3_tightest_81 : decode cX3_tightest 81 = .ok (.iconst 2, 1) := by decide +kernel
theorem dX3_tightest_82 : decode cX3_tightest 82 = .ok (.idiv, 1) := by decide +kernel
theorem dX3_tightest_83 : decode cX3_tightest 83 = .ok (.istore 4, 2) := by decide +kernel
theorem dX3_tightest_85 : decode cX3_tightest 85 = .ok (.goto (-45), 3) := by decide +kernel
theorem dX3_tightest_88 : decode cX3_tightest 88 = .ok (.iload_n 3, 1) := by decide +kernel
theorem dX3_tightest_89 : decode cX3_tightest 89 = .ok (.bipush 100, 2) := by decide +kernel
theorem dX3_tightest_91 : decode cX3_tightest 91 = .ok (.iadd, 1) := by decide +kernel
theorem dX3_tightest_92 : decode cX3_tightest 92 = .ok (.ireturn, 1) := by decide +kernel
theorem dX3_undo_0 : decode cX3_undo 0 = .ok (.aload_n 0, 1) := by decide +kernel
theorem dX3_undo_1 : decode cX3_undo 1 = .ok (.getfield 200, 3) := by decide +kernel
theorem dX3_undo_4 : decode cX3_undo 4 = .ok (.ifCond .gt 6, 3) := by decide +kernel
theorem dX3_undo_7 : decode cX3_undo 7 = .ok (.bipush (-2), 2) := by decide +kernel
theorem dX3_undo_9 : decode cX3_undo 9 = .ok (.ireturn, 1) := by decide +kernel
theorem dX3_undo_10 : decode cX3_undo 10 = .ok (.aload_n 0, 1) := by decide +kernel
theorem dX3_undo_11 : decode cX3_undo 11 = .ok (.dup, 1) := by decide +kernel
theorem dX3_undo_12 : decode cX3_undo 12 = .ok (.getfield 200, 3) := by decide +kernel
theorem dX3_undo_15 : decode cX3_undo 15 = .ok (.iconst 1, 1) := by decide +kernel
theorem dX3_undo_16 : decode cX3_undo 16 = .ok (.isub, 1) := by decide +kernel
theorem dX3_undo_17 : decode cX3_undo 17 = .ok (.putfield 200, 3) := by decide +kernel
theorem dX3_undo_20 : decode cX3_undo 20 = .ok (.aload_n 0, 1) := by decide +kernel
theorem dX3_undo_21 : decode cX3_undo 21 = .ok (.getfield 10, 3) := by decide +kernel
theorem dX3_undo_24 : decode cX3_undo 24 = .ok (.aload_n 0, 1) := by decide +kernel
theorem dX3_undo_25 : decode cX3_undo 25 = .ok (.getfield 19, 3) := by decide +kernel
theorem dX3_undo_28 : decode cX3_undo 28 = .ok (.aload_n 0, 1) := by decide +kernel
theorem dX3_undo_29 : decode cX3_undo 29 = .ok (.getfield 200, 3) := by decide +kernel
theorem dX3_undo_32 : decode cX3_undo 32 = .ok (.aaload, 1) := by decide +kernel
theorem dX3_undo_33 : decode cX3_undo 33 = .ok (.invokevirtual 210, 3) := by decide +kernel
theorem dX3_undo_36 : decode cX3_undo 36 = .ok (.aload_n 0, 1) := by decide +kernel
theorem dX3_undo_37 : decode cX3_undo 37 = .ok (.getfield 200, 3) := by decide +kernel
theorem dX3_undo_40 : decode cX3_undo 40 = .ok (.ireturn, 1) := by decide +kernel
theorem dX3_save_0 : decode cX3_save 0 = .ok (.aload_n 0, 1) := by decide +kernel
theorem dX3_save_1 : decode cX3_save 1 = .ok (.getfield 16, 3) := by decide +kernel
theorem dX3_save_4 : decode cX3_save 4 = .ok (.aload_n 0, 1) := by decide +kernel
theorem dX3_save_5 : decode cX3_save 5 = .ok (.getfield 10, 3) := by decide +kernel
theorem dX3_save_8 : decode cX3_save 8 = .ok (.invokevirtual 210, 3) := by decide +kernel
theorem dX3_save_11 : decode cX3_save 11 = .ok (.aload_n 0, 1) := by decide +kernel
theorem dX3_save_12 : decode cX3_save 12 = .ok (.iconst 1, 1) := by decide +kernel
theorem dX3_save_13 : decode cX3_save 13 = .ok (.putfield 214, 3) := by decide +kernel
theorem dX3_save_16 : decode cX3_save 16 = .ok (.aload_n 0, 1) := by decide +kernel
theorem dX3_save_17 : decode cX3_save 17 = .ok (.getfield 10, 3) := by decide +kernel
theorem dX3_save_20 : decode cX3_save 20 = .ok (.getfield 101, 3) := by decide +kernel
theorem dX3_save_23 : decode cX3_save 23 = .ok (.ireturn, 1) := by decide +kernel
theorem dX3_restore_0 : decode cX3_restore 0 = .ok (.aload_n 0, 1) := by decide +kernel
theorem dX3_restore_1 : decode cX3_restore 1 = .ok (.getfield 214, 3) := by decide +kernel
theorem dX3_restore_4 : decode cX3_restore 4 = .ok (.ifCond .ne 6, 3) := by decide +kernel
theorem dX3_restore_7 : decode cX3_restore 7 = .ok (.bipush (-2), 2) := by decide +kernel
theorem dX3_restore_9 : decode cX3_restore 9 = .ok (.ireturn, 1) := by decide +kernel
theorem dX3_restore_10 : decode cX3_restore 10 = .ok (.aload_n 0, 1) := by decide +kernel
theorem dX3_restore_11 : decode cX3_restore 11 = .ok (.invokevirtual 41, 3) := by decide +kernel
theorem dX3_restore_14 : decode cX3_restore 14 = .ok (.aload_n 0, 1) := by decide +kernel
theorem dX3_restore_15 : decode cX3_restore 15 = .ok (.getfield 10, 3) := by decide +kernel
theorem dX3_restore_18 : decode cX3_restore 18 = .ok (.aload_n 0, 1) := by decide +kernel
theorem dX3_restore_19 : decode cX3_restore 19 = .ok (.getfield 16, 3) := by decide +kernel
theorem dX3_restore_22 : decode cX3_restore 22 = .ok (.invokevirtual 210, 3) := by decide +kernel
theorem dX3_restore_25 : decode cX3_restore 25 = .ok (.aload_n 0, 1) := by decide +kernel
theorem dX3_restore_26 : decode cX3_restore 26 = .ok (.getfield 10, 3) := by decide +kernel
theorem dX3_restore_29 : decode cX3_restore 29 = .ok (.getfield 101, 3) := by decide +kernel
theorem dX3_restore_32 : decode cX3_restore 32 = .ok (.ireturn, 1) := by decide +kernel
theorem dX3_isHedge_0 : decode cX3_isHedge 0 = .ok (.iload_n 0, 1) := by decide +kernel
theorem dX3_isHedge_1 : decode cX3_isHedge 1 = .ok (.ifCond .lt 13, 3) := by decide +kernel
theorem dX3_isHedge_4 : decode cX3_isHedge 4 = .ok (.iload_n 0, 1) := by decide +kernel
theorem dX3_isHedge_5 : decode cX3_isHedge 5 = .ok (.bipush 8, 2) := by decide +kernel
theorem dX3_isHedge_7 : decode cX3_isHedge 7 = .ok (.if_icmp .ge 7, 3) := by decide +kernel
theorem dX3_isHedge_10 : decode cX3_isHedge 10 = .ok (.iconst 1, 1) := by decide +kernel
theorem dX3_isHedge_11 : decode cX3_isHedge 11 = .ok (.goto 4, 3) := by decide +kernel
theorem dX3_isHedge_14 : decode cX3_isHedge 14 = .ok (.iconst 0, 1) := by decide +kernel
theorem dX3_isHedge_15 : decode cX3_isHedge 15 = .ok (.ireturn, 1) := by decide +kernel
theorem dX3_isTreaty_0 : decode cX3_isTreaty 0 = .ok (.iload_n 1, 1) := by decide +kernel
theorem dX3_isTreaty_1 : decode cX3_isTreaty 1 = .ok (.ifCond .lt 18, 3) := by decide +kernel
theorem dX3_isTreaty_4 : decode cX3_isTreaty 4 = .ok (.iload_n 1, 1) := by decide +kernel
theorem dX3_isTreaty_5 : decode cX3_isTreaty 5 = .ok (.aload_n 0, 1) := by decide +kernel
theorem dX3_isTreaty_6 : decode cX3_isTreaty 6 = .ok (.getfield 10, 3) := by decide +kernel
theorem dX3_isTreaty_9 : decode cX3_isTreaty 9 = .ok (.getfield 101, 3) := by decide +kernel
theorem dX3_isTreaty_12 : decode cX3_isTreaty 12 = .ok (.if_icmp .ge 7, 3) := by decide +kernel
theorem dX3_isTreaty_15 : decode cX3_isTreaty 15 = .ok (.iconst 1, 1) := by decide +kernel
theorem dX3_isTreaty_16 : decode cX3_isTreaty 16 = .ok (.goto 4, 3) := by decide +kernel
theorem dX3_isTreaty_19 : decode cX3_isTreaty 19 = .ok (.iconst 0, 1) := by decide +kernel
theorem dX3_isTreaty_20 : decode cX3_isTreaty 20 = .ok (.ireturn, 1) := by decide +kernel
theorem dX3_isAgreement_0 : decode cX3_isAgreement 0 = .ok (.iload_n 0, 1) := by decide +kernel
theorem dX3_isAgreement_1 : decode cX3_isAgreement 1 = .ok (.invokestatic 37, 3) := by decide +kernel
theorem dX3_isAgreement_4 : decode cX3_isAgreement 4 = .ok (.ifCond .eq 31, 3) := by decide +kernel
theorem dX3_isAgreement_7 : decode cX3_isAgreement 7 = .ok (.iload_n 1, 1) := by decide +kernel
theorem dX3_isAgreement_8 : decode cX3_isAgreement 8 = .ok (.invokestatic 37, 3) := by decide +kernel
theorem dX3_isAgreement_11 : decode cX3_isAgreement 11 = .ok (.ifCond .eq 24, 3) := by decide +kernel
theorem dX3_isAgreement_14 : decode cX3_isAgreement 14 = .ok (.iload_n 0, 1) := by decide +kernel
theorem dX3_isAgreement_15 : decode cX3_isAgreement 15 = .ok (.iload_n 1, 1) := by decide +kernel
theorem dX3_isAgreement_16 : decode cX3_isAgreement 16 = .ok (.if_icmp .eq 19, 3) := by decide +kernel
theorem dX3_isAgreement_19 : decode cX3_isAgreement 19 = .ok (.iload_n 2, 1) := by decide +kernel
theorem dX3_isAgreement_20 : decode cX3_isAgreement 20 = .ok (.bipush (-30), 2) := by decide +kernel
theorem dX3_isAgreement_22 : decode cX3_isAgreement 22 = .ok (.if_icmp .lt 13, 3) := by decide +kernel
theorem dX3_isAgreement_25 : decode cX3_isAgreement 25 = .ok (.iload_n 2, 1) := by decide +kernel
theorem dX3_isAgreement_26 : decode cX3_isAgreement 26 = .ok (.bipush 60, 2) := by decide +kernel
theorem dX3_isAgreement_28 : decode cX3_isAgreement 28 = .ok (.if_icmp .gt 7, 3) := by decide +kernel
theorem dX3_isAgreement_31 : decode cX3_isAgreement 31 = .ok (.iconst 1, 1) := by decide +kernel
theorem dX3_isAgreement_32 : decode cX3_isAgreement 32 = .ok (.goto 4, 3) := by decide +kernel
theorem dX3_isAgreement_35 : decode cX3_isAgreement 35 = .ok (.iconst 0, 1) := by decide +kernel
theorem dX3_isAgreement_36 : decode cX3_isAgreement 36 = .ok (.ireturn, 1) := by decide +kernel
theorem dX3_sum_0 : decode cX3_sum 0 = .ok (.iconst 0, 1) := by decide +kernel
theorem dX3_sum_1 : decode cX3_sum 1 = .ok (.istore_n 1, 1) := by decide +kernel
theorem dX3_sum_2 : decode cX3_sum 2 = .ok (.aload_n 0, 1) := by decide +kernel
theorem dX3_sum_3 : decode cX3_sum 3 = .ok (.astore_n 2, 1) := by decide +kernel
theorem dX3_sum_4 : decode cX3_sum 4 = .ok (.aload_n 2, 1) := by decide +kernel
theorem dX3_sum_5 : decode cX3_sum 5 = .ok (.arraylength, 1) := by decide +kernel
theorem dX3_sum_6 : decode cX3_sum 6 = .ok (.istore_n 3, 1) := by decide +kernel
theorem dX3_sum_7 : decode cX3_sum 7 = .ok (.iconst 0, 1) := by decide +kernel
theorem dX3_sum_8 : decode cX3_sum 8 = .ok (.istore 4, 2) := by decide +kernel
theorem dX3_sum_10 : decode cX3_sum 10 = .ok (.iload 4, 2) := by decide +kernel
theorem dX3_sum_12 : decode cX3_sum 12 = .ok (.iload_n 3, 1) := by decide +kernel
theorem dX3_sum_13 : decode cX3_sum 13 = .ok (.if_icmp .ge 20, 3) := by decide +kernel
theorem dX3_sum_16 : decode cX3_sum 16 = .ok (.aload_n 2, 1) := by decide +kernel
theorem dX3_sum_17 : decode cX3_sum 17 = .ok (.iload 4, 2) := by decide +kernel
theorem dX3_sum_19 : decode cX3_sum 19 = .ok (.iaload, 1) := by decide +kernel
theorem dX3_sum_20 : decode cX3_sum 20 = .ok (.istore 5, 2) := by decide +kernel
theorem dX3_sum_22 : decode cX3_sum 22 = .ok (.iload_n 1, 1) := by decide +kernel
theorem dX3_sum_23 : decode cX3_sum 23 = .ok (.iload 5, 2) := by decide +kernel
theorem dX3_sum_25 : decode cX3_sum 25 = .ok (.iadd, 1) := by decide +kernel
theorem dX3_sum_26 : decode cX3_sum 26 = .ok (.istore_n 1, 1) := by decide +kernel
theorem dX3_sum_27 : decode cX3_sum 27 = .ok (.iinc 4 1, 3) := by decide +kernel
theorem dX3_sum_30 : decode cX3_sum 30 = .ok (.goto (-20), 3) := by decide +kernel
theorem dX3_sum_33 : decode cX3_sum 33 = .ok (.iload_n 1, 1) := by decide +kernel
theorem dX3_sum_34 : decode cX3_sum 34 = .ok (.ireturn, 1) := by decide +kernel
theorem dX3_remember_0 : decode cX3_remember 0 = .ok (.aload_n 0, 1) := by decide +kernel
theorem dX3_remember_1 : decode cX3_remember 1 = .ok (.getfield 200, 3) := by decide +kernel
theorem dX3_remember_4 : decode cX3_remember 4 = .ok (.iconst 4, 1) := by decide +kernel
theorem dX3_remember_5 : decode cX3_remember 5 = .ok (.if_icmp .lt 7, 3) := by decide +kernel
theorem dX3_remember_8 : decode cX3_remember 8 = .ok (.aload_n 0, 1) := by decide +kernel
theorem dX3_remember_9 : decode cX3_remember 9 = .ok (.invokevirtual 218, 3) := by decide +kernel
theorem dX3_remember_12 : decode cX3_remember 12 = .ok (.aload_n 0, 1) := by decide +kernel
theorem dX3_remember_13 : decode cX3_remember 13 = .ok (.getfield 19, 3) := by decide +kernel
theorem dX3_remember_16 : decode cX3_remember 16 = .ok (.aload_n 0, 1) := by decide +kernel
theorem dX3_remember_17 : decode cX3_remember 17 = .ok (.getfield 200, 3) := by decide +kernel
theorem dX3_remember_20 : decode cX3_remember 20 = .ok (.aaload, 1) := by decide +kernel
theorem dX3_remember_21 : decode cX3_remember 21 = .ok (.aload_n 0, 1) := by decide +kernel
theorem dX3_remember_22 : decode cX3_remember 22 = .ok (.getfield 10, 3) := by decide +kernel
theorem dX3_remember_25 : decode cX3_remember 25 = .ok (.invokevirtual 210, 3) := by decide +kernel
theorem dX3_remember_28 : decode cX3_remember 28 = .ok (.aload_n 0, 1) := by decide +kernel
theorem dX3_remember_29 : decode cX3_remember 29 = .ok (.dup, 1) := by decide +kernel
theorem dX3_remember_30 : decode cX3_remember 30 = .ok (.getfield 200, 3) := by decide +kernel
theorem dX3_remember_33 : decode cX3_remember 33 = .ok (.iconst 1, 1) := by decide +kernel
theorem dX3_remember_34 : decode cX3_remember 34 = .ok (.iadd, 1) := by decide +kernel
theorem dX3_remember_35 : decode cX3_remember 35 = .ok (.putfield 200, 3) := by decide +kernel
theorem dX3_remember_38 : decode cX3_remember 38 = .ok (.return_, 1) := by decide +kernel
theorem dX3_dropOldestState_0 : decode cX3_dropOldestState 0 = .ok (.aload_n 0, 1) := by decide +kernel
theorem dX3_dropOldestState_1 : decode cX3_dropOldestState 1 = .ok (.getfield 19, 3) := by decide +kernel
theorem dX3_dropOldestState_4 : decode cX3_dropOldestState 4 = .ok (.iconst 0, 1) := by decide +kernel
theorem dX3_dropOldestState_5 : decode cX3_dropOldestState 5 = .ok (.aaload, 1) := by decide +kernel
theorem dX3_dropOldestState_6 : decode cX3_dropOldestState 6 = .ok (.astore_n 1, 1) := by decide +kernel
theorem dX3_dropOldestState_7 : decode cX3_dropOldestState 7 = .ok (.iconst 1, 1) := by decide +kernel
theorem dX3_dropOldestState_8 : decode cX3_dropOldestState 8 = .ok (.istore_n 2, 1) := by decide +kernel
theorem dX3_dropOldestState_9 : decode cX3_dropOldestState 9 = .ok (.iload_n 2, 1) := by decide +kernel
theorem dX3_dropOldestState_10 : decode cX3_dropOldestState 10 = .ok (.iconst 4, 1) := by decide +kernel
theorem dX3_dropOldestState_11 : decode cX3_dropOldestState 11 = .ok (.if_icmp .ge 23, 3) := by decide +kernel
theorem dX3_dropOldestState_14 : decode cX3_dropOldestState 14 = .ok (.aload_n 0, 1) := by decide +kernel
theorem dX3_dropOldestState_15 : decode cX3_dropOldestState 15 = .ok (.getfield 19, 3) := by decide +kernel
theorem dX3_dropOldestState_18 : decode cX3_dropOldestState 18 = .ok (.iload_n 2, 1) := by decide +kernel
theorem dX3_dropOldestState_19 : decode cX3_dropOldestState 19 = .ok (.iconst 1, 1) := by decide +kernel
theorem dX3_dropOldestState_20 : decode cX3_dropOldestState 20 = .ok (.isub, 1) := by decide +kernel
theorem dX3_dropOldestState_21 : decode cX3_dropOldestState 21 = .ok (.aload_n 0, 1) := by decide +kernel
theorem dX3_dropOldestState_22 : decode cX3_dropOldestState 22 = .ok (.getfield 19, 3) := by decide +kernel
theorem dX3_dropOldestState_25 : decode cX3_dropOldestState 25 = .ok (.iload_n 2, 1) := by decide +kernel
theorem dX3_dropOldestState_26 : decode cX3_dropOldestState 26 = .ok (.aaload, 1) := by decide +kernel
theorem dX3_dropOldestState_27 : decode cX3_dropOldestState 27 = .ok (.aastore, 1) := by decide +kernel
theorem dX3_dropOldestState_28 : decode cX3_dropOldestState 28 = .ok (.iinc 2 1, 3) := by decide +kernel
theorem dX3_dropOldestState_31 : decode cX3_dropOldestState 31 = .ok (.goto (-22), 3) := by decide +kernel
theorem dX3_dropOldestState_34 : decode cX3_dropOldestState 34 = .ok (.aload_n 0, 1) := by decide +kernel
theorem dX3_dropOldestState_35 : decode cX3_dropOldestState 35 = .ok (.getfield 19, 3) := by decide +kernel
theorem dX3_dropOldestState_38 : decode cX3_dropOldestState 38 = .ok (.iconst 3, 1) := by decide +kernel
theorem dX3_dropOldestState_39 : decode cX3_dropOldestState 39 = .ok (.aload_n 1, 1) := by decide +kernel
theorem dX3_dropOldestState_40 : decode cX3_dropOldestState 40 = .ok (.aastore, 1) := by decide +kernel
theorem dX3_dropOldestState_41 : decode cX3_dropOldestState 41 = .ok (.aload_n 0, 1) := by decide +kernel
theorem dX3_dropOldestState_42 : decode cX3_dropOldestState 42 = .ok (.iconst 3, 1) := by decide +kernel
theorem dX3_dropOldestState_43 : decode cX3_dropOldestState 43 = .ok (.putfield 200, 3) := by decide +kernel
theorem dX3_dropOldestState_46 : decode cX3_dropOldestState 46 = .ok (.return_, 1) := by decide +kernel
theorem dX3_refuse_0 : decode cX3_refuse 0 = .ok (.aload_n 0, 1) := by decide +kernel
theorem dX3_refuse_1 : decode cX3_refuse 1 = .ok (.getfield 10, 3) := by decide +kernel
theorem dX3_refuse_4 : decode cX3_refuse 4 = .ok (.dup, 1) := by decide +kernel
theorem dX3_refuse_5 : decode cX3_refuse 5 = .ok (.getfield 194, 3) := by decide +kernel
theorem dX3_refuse_8 : decode cX3_refuse 8 = .ok (.iconst 1, 1) := by decide +kernel
theorem dX3_refuse_9 : decode cX3_refuse 9 = .ok (.iadd, 1) := by decide +kernel
theorem dX3_refuse_10 : decode cX3_refuse 10 = .ok (.putfield 194, 3) := by decide +kernel
theorem dX3_refuse_13 : decode cX3_refuse 13 = .ok (.iload_n 1, 1) := by decide +kernel
theorem dX3_refuse_14 : decode cX3_refuse 14 = .ok (.ireturn, 1) := by decide +kernel
theorem dX3_isNestInTheWay_0 : decode cX3_isNestInTheWay 0 = .ok (.iconst 0, 1) := by decide +kernel
theorem dX3_isNestInTheWay_1 : decode cX3_isNestInTheWay 1 = .ok (.istore_n 1, 1) := by decide +kernel
theorem dX3_isNestInTheWay_2 : decode cX3_isNestInTheWay 2 = .ok (.iload_n 1, 1) := by decide +kernel
theorem dX3_isNestInTheWay_3 : decode cX3_isNestInTheWay 3 = .ok (.bipush 8, 2) := by decide +kernel
theorem dX3_isNestInTheWay_5 : decode cX3_isNestInTheWay 5 = .ok (.if_icmp .ge 43, 3) := by decide +kernel
theorem dX3_isNestInTheWay_8 : decode cX3_isNestInTheWay 8 = .ok (.aload_n 0, 1) := by decide +kernel
theorem dX3_isNestInTheWay_9 : decode cX3_isNestInTheWay 9 = .ok (.getfield 10, 3) := by decide +kernel
theorem dX3_isNestInTheWay_12 : decode cX3_isNestInTheWay 12 = .ok (.iload_n 1, 1) := by decide +kernel
theorem dX3_isNestInTheWay_13 : decode cX3_isNestInTheWay 13 = .ok (.invokevirtual 58, 3) := by decide +kernel
theorem dX3_isNestInTheWay_16 : decode cX3_isNestInTheWay 16 = .ok (.ifCond .eq 26, 3) := by decide +kernel
theorem dX3_isNestInTheWay_19 : decode cX3_isNestInTheWay 19 = .ok (.aload_n 0, 1) := by decide +kernel
theorem dX3_isNestInTheWay_20 : decode cX3_isNestInTheWay 20 = .ok (.getfield 26, 3) := by decide +kernel
theorem dX3_isNestInTheWay_23 : decode cX3_isNestInTheWay 23 = .ok (.getfield 77, 3) := by decide +kernel
theorem dX3_isNestInTheWay_26 : decode cX3_isNestInTheWay 26 = .ok (.iload_n 1, 1) := by decide +kernel
theorem dX3_isNestInTheWay_27 : decode cX3_isNestInTheWay 27 = .ok (.iaload, 1) := by decide +kernel
theorem dX3_isNestInTheWay_28 : decode cX3_isNestInTheWay 28 = .ok (.aload_n 0, 1) := by decide +kernel
theorem dX3_isNestInTheWay_29 : decode cX3_isNestInTheWay 29 = .ok (.getfield 10, 3) := by decide +kernel
theorem dX3_isNestInTheWay_32 : decode cX3_isNestInTheWay 32 = .ok (.getfield 44, 3) := by decide +kernel
theorem dX3_isNestInTheWay_35 : decode cX3_isNestInTheWay 35 = .ok (.iload_n 1, 1) := by decide +kernel
theorem dX3_isNestInTheWay_36 : decode cX3_isNestInTheWay 36 = .ok (.iaload, 1) := by decide +kernel
theorem dX3_isNestInTheWay_37 : decode cX3_isNestInTheWay 37 = .ok (.if_icmp .ge 5, 3) := by decide +kernel
theorem dX3_isNestInTheWay_40 : decode cX3_isNestInTheWay 40 = .ok (.iconst 1, 1) := by decide +kernel
theorem dX3_isNestInTheWay_41 : decode cX3_isNestInTheWay 41 = .ok (.ireturn, 1) := by decide +kernel
theorem dX3_isNestInTheWay_42 : decode cX3_isNestInTheWay 42 = .ok (.iinc 1 1, 3) := by decide +kernel
theorem dX3_isNestInTheWay_45 : decode cX3_isNestInTheWay 45 = .ok (.goto (-43), 3) := by decide +kernel
theorem dX3_isNestInTheWay_48 : decode cX3_isNestInTheWay 48 = .ok (.iconst 0, 1) := by decide +kernel
theorem dX3_isNestInTheWay_49 : decode cX3_isNestInTheWay 49 = .ok (.ireturn, 1) := by decide +kernel
theorem dX3_errorOfSigning_0 : decode cX3_errorOfSigning 0 = .ok (.iload_n 1, 1) := by decide +kernel
theorem dX3_errorOfSigning_1 : decode cX3_errorOfSigning 1 = .ok (.iload_n 2, 1) := by decide +kernel
theorem dX3_errorOfSigning_2 : decode cX3_errorOfSigning 2 = .ok (.iload_n 3, 1) := by decide +kernel
theorem dX3_errorOfSigning_3 : decode cX3_errorOfSigning 3 = .ok (.invokestatic 174, 3) := by decide +kernel
theorem dX3_errorOfSigning_6 : decode cX3_errorOfSigning 6 = .ok (.ifCond .ne 5, 3) := by decide +kernel
theorem dX3_errorOfSigning_9 : decode cX3_errorOfSigning 9 = .ok (.iconst (-1), 1) := by decide +kernel
theorem dX3_errorOfSigning_10 : decode cX3_errorOfSigning 10 = .ok (.ireturn, 1) := by decide +kernel
theorem dX3_errorOfSigning_11 : decode cX3_errorOfSigning 11 = .ok (.aload_n 0, 1) := by decide +kernel
theorem dX3_errorOfSigning_12 : decode cX3_errorOfSigning 12 = .ok (.getfield 10, 3) := by decide +kernel
theorem dX3_errorOfSigning_15 : decode cX3_errorOfSigning 15 = .ok (.getfield 101, 3) := by decide +kernel
theorem dX3_errorOfSigning_18 : decode cX3_errorOfSigning 18 = .ok (.bipush 14, 2) := by decide +kernel
theorem dX3_errorOfSigning_20 : decode cX3_errorOfSigning 20 = .ok (.if_icmp .lt 8, 3) := by decide +kernel
theorem dX3_errorOfSigning_23 : decode cX3_errorOfSigning 23 = .ok (.bipush (-3), 2) := by decide +kernel
theorem dX3_errorOfSigning_25 : decode cX3_errorOfSigning 25 = .ok (.goto 4, 3) := by decide +kernel
theorem dX3_errorOfSigning_28 : decode cX3_errorOfSigning 28 = .ok (.iconst 0, 1) := by decide +kernel
theorem dX3_errorOfSigning_29 : decode cX3_errorOfSigning 29 = .ok (.ireturn, 1) := by decide +kernel
theorem dX3_reasonAgainst_0 : decode cX3_reasonAgainst 0 = .ok (.aload_n 0, 1) := by decide +kernel
theorem dX3_reasonAgainst_1 : decode cX3_reasonAgainst 1 = .ok (.getfield 26, 3) := by decide +kernel
theorem dX3_reasonAgainst_4 : decode cX3_reasonAgainst 4 = .ok (.aload_n 0, 1) := by decide +kernel
theorem dX3_reasonAgainst_5 : decode cX3_reasonAgainst 5 = .ok (.getfield 10, 3) := by decide +kernel
theorem dX3_reasonAgainst_8 : decode cX3_reasonAgainst 8 = .ok (.iload_n 1, 1) := by decide +kernel
theorem dX3_reasonAgainst_9 : decode cX3_reasonAgainst 9 = .ok (.iload_n 2, 1) := by decide +kernel
theorem dX3_reasonAgainst_10 : decode cX3_reasonAgainst 10 = .ok (.iload_n 3, 1) := by decide +kernel
theorem dX3_reasonAgainst_11 : decode cX3_reasonAgainst 11 = .ok (.invokevirtual 206, 3) := by decide +kernel
theorem dX3_reasonAgainst_14 : decode cX3_reasonAgainst 14 = .ok (.ifCond .ne 5, 3) := by decide +kernel
theorem dX3_reasonAgainst_17 : decode cX3_reasonAgainst 17 = .ok (.iconst 1, 1) := by decide +kernel
theorem dX3_reasonAgainst_18 : decode cX3_reasonAgainst 18 = .ok (.ireturn, 1) := by decide +kernel
theorem dX3_reasonAgainst_19 : decode cX3_reasonAgainst 19 = .ok (.aload_n 0, 1) := by decide +kernel
theorem dX3_reasonAgainst_20 : decode cX3_reasonAgainst 20 = .ok (.getfield 26, 3) := by decide +kernel
theorem dX3_reasonAgainst_23 : decode cX3_reasonAgainst 23 = .ok (.aload_n 0, 1) := by decide +kernel
theorem dX3_reasonAgainst_24 : decode cX3_reasonAgainst 24 = .ok (.getfield 10, 3) := by decide +kernel
theorem dX3_reasonAgainst_27 : decode cX3_reasonAgainst 27 = .ok (.iload_n 1, 1) := by decide +kernel
theorem dX3_reasonAgainst_28 : decode cX3_reasonAgainst 28 = .ok (.iload_n 2, 1) := by decide +kernel
theorem dX3_reasonAgainst_29 : decode cX3_reasonAgainst 29 = .ok (.iconst (-1), 1) := by decide +kernel
theorem dX3_reasonAgainst_30 : decode cX3_reasonAgainst 30 = .ok (.invokevirtual 165, 3) := by decide +kernel
theorem dX3_reasonAgainst_33 : decode cX3_reasonAgainst 33 = .ok (.iload_n 3, 1) := by decide +kernel
theorem dX3_reasonAgainst_34 : decode cX3_reasonAgainst 34 = .ok (.if_icmp .gt 7, 3) := by decide +kernel
theorem dX3_reasonAgainst_37 : decode cX3_reasonAgainst 37 = .ok (.iconst 1, 1) := by decide +kernel
theorem dX3_reasonAgainst_38 : decode cX3_reasonAgainst 38 = .ok (.goto 4, 3) := by decide +kernel
theorem dX3_reasonAgainst_41 : decode cX3_reasonAgainst 41 = .ok (.iconst 0, 1) := by decide +kernel
theorem dX3_reasonAgainst_42 : decode cX3_reasonAgainst 42 = .ok (.istore 4, 2) := by decide +kernel
theorem dX3_reasonAgainst_44 : decode cX3_reasonAgainst 44 = .ok (.iload 4, 2) := by decide +kernel
theorem dX3_reasonAgainst_46 : decode cX3_reasonAgainst 46 = .ok (.ifCond .eq 7, 3) := by decide +kernel
theorem dX3_reasonAgainst_49 : decode cX3_reasonAgainst 49 = .ok (.iconst 2, 1) := by decide +kernel
theorem dX3_reasonAgainst_50 : decode cX3_reasonAgainst 50 = .ok (.goto 4, 3) := by decide +kernel
theorem dX3_reasonAgainst_53 : decode cX3_reasonAgainst 53 = .ok (.iconst 0, 1) := by decide +kernel
theorem dX3_reasonAgainst_54 : decode cX3_reasonAgainst 54 = .ok (.ireturn, 1) := by decide +kernel
theorem dX3_signOne_0 : decode cX3_signOne 0 = .ok (.aload_n 0, 1) := by decide +kernel
theorem dX3_signOne_1 : decode cX3_signOne 1 = .ok (.iload_n 1, 1) := by decide +kernel
theorem dX3_signOne_2 : decode cX3_signOne 2 = .ok (.iload_n 2, 1) := by decide +kernel
theorem dX3_signOne_3 : decode cX3_signOne 3 = .ok (.iload_n 3, 1) := by decide +kernel
theorem dX3_signOne_4 : decode cX3_signOne 4 = .ok (.invokevirtual 178, 3) := by decide +kernel
theorem dX3_signOne_7 : decode cX3_signOne 7 = .ok (.istore 4, 2) := by decide +kernel
theorem dX3_signOne_9 : decode cX3_signOne 9 = .ok (.iload 4, 2) := by decide +kernel
theorem dX3_signOne_11 : decode cX3_signOne 11 = .ok (.ifCond .eq 10, 3) := by decide +kernel
theorem dX3_signOne_14 : decode cX3_signOne 14 = .ok (.aload_n 0, 1) := by decide +kernel
theorem dX3_signOne_15 : decode cX3_signOne 15 = .ok (.iload 4, 2) := by decide +kernel
theorem dX3_signOne_17 : decode cX3_signOne 17 = .ok (.invokevirtual 61, 3) := by decide +kernel
theorem dX3_signOne_20 : decode cX3_signOne 20 = .ok (.ireturn, 1) := by decide +kernel
theorem dX3_signOne_21 : decode cX3_signOne 21 = .ok (.aload_n 0, 1) := by decide +kernel
theorem dX3_signOne_22 : decode cX3_signOne 22 = .ok (.getfield 10, 3) := by decide +kernel
theorem dX3_signOne_25 : decode cX3_signOne 25 = .ok (.iload_n 1, 1) := by decide +kernel
theorem dX3_signOne_26 : decode cX3_signOne 26 = .ok (.iload_n 2, 1) := by decide +kernel
theorem dX3_signOne_27 : decode cX3_signOne 27 = .ok (.iload_n 3, 1) := by decide +kernel
theorem dX3_signOne_28 : decode cX3_signOne 28 = .ok (.invokevirtual 221, 3) := by decide +kernel
theorem dX3_signOne_31 : decode cX3_signOne 31 = .ok (.bipush 10, 2) := by decide +kernel
theorem dX3_signOne_33 : decode cX3_signOne 33 = .ok (.aload_n 0, 1) := by decide +kernel
theorem dX3_signOne_34 : decode cX3_signOne 34 = .ok (.getfield 10, 3) := by decide +kernel
theorem dX3_signOne_37 : decode cX3_signOne 37 = .ok (.getfield 101, 3) := by decide +kernel
theorem dX3_signOne_40 : decode cX3_signOne 40 = .ok (.iadd, 1) := by decide +kernel
theorem dX3_signOne_41 : decode cX3_signOne 41 = .ok (.iconst 1, 1) := by decide +kernel
theorem dX3_signOne_42 : decode cX3_signOne 42 = .ok (.isub, 1) := by decide +kernel
theorem dX3_signOne_43 : decode cX3_signOne 43 = .ok (.ireturn, 1) := by decide +kernel
theorem dX3_signPart_0 : decode cX3_signPart 0 = .ok (.aload_n 0, 1) := by decide +kernel
theorem dX3_signPart_1 : decode cX3_signPart 1 = .ok (.getfield 33, 3) := by decide +kernel
theorem dX3_signPart_4 : decode cX3_signPart 4 = .ok (.getfield 225, 3) := by decide +kernel
theorem dX3_signPart_7 : decode cX3_signPart 7 = .ok (.iload_n 1, 1) := by decide +kernel
theorem dX3_signPart_8 : decode cX3_signPart 8 = .ok (.iaload, 1) := by decide +kernel
theorem dX3_signPart_9 : decode cX3_signPart 9 = .ok (.istore_n 2, 1) := by decide +kernel
theorem dX3_signPart_10 : decode cX3_signPart 10 = .ok (.aload_n 0, 1) := by decide +kernel
theorem dX3_signPart_11 : decode cX3_signPart 11 = .ok (.getfield 33, 3) := by decide +kernel
theorem dX3_signPart_14 : decode cX3_signPart 14 = .ok (.getfield 226, 3) := by decide +kernel
theorem dX3_signPart_17 : decode cX3_signPart 17 = .ok (.iload_n 1, 1) := by decide +kernel
theorem dX3_signPart_18 : decode cX3_signPart 18 = .ok (.iaload, 1) := by decide +kernel
theorem dX3_signPart_19 : decode cX3_signPart 19 = .ok (.istore_n 3, 1) := by decide +kernel
theorem dX3_signPart_20 : decode cX3_signPart 20 = .ok (.aload_n 0, 1) := by decide +kernel
theorem dX3_signPart_21 : decode cX3_signPart 21 = .ok (.getfield 33, 3) := by decide +kernel
theorem dX3_signPart_24 : decode cX3_signPart 24 = .ok (.getfield 227, 3) := by decide +kernel
theorem dX3_signPart_27 : decode cX3_signPart 27 = .ok (.iload_n 1, 1) := by decide +kernel
theorem dX3_signPart_28 : decode cX3_signPart 28 = .ok (.iaload, 1) := by decide +kernel
theorem dX3_signPart_29 : decode cX3_signPart 29 = .ok (.istore 4, 2) := by decide +kernel
theorem dX3_signPart_31 : decode cX3_signPart 31 = .ok (.aload_n 0, 1) := by decide +kernel
theorem dX3_signPart_32 : decode cX3_signPart 32 = .ok (.iload_n 2, 1) := by decide +kernel
theorem dX3_signPart_33 : decode cX3_signPart 33 = .ok (.iload_n 3, 1) := by decide +kernel
theorem dX3_signPart_34 : decode cX3_signPart 34 = .ok (.iload 4, 2) := by decide +kernel
theorem dX3_signPart_36 : decode cX3_signPart 36 = .ok (.invokevirtual 87, 3) := by decide +kernel
theorem dX3_signPart_39 : decode cX3_signPart 39 = .ok (.istore 5, 2) := by decide +kernel
theorem dX3_signPart_41 : decode cX3_signPart 41 = .ok (.iload 5, 2) := by decide +kernel
theorem dX3_signPart_43 : decode cX3_signPart 43 = .ok (.ifCond .eq 8, 3) := by decide +kernel
theorem dX3_signPart_46 : decode cX3_signPart 46 = .ok (.iload 5, 2) := by decide +kernel
theorem dX3_signPart_48 : decode cX3_signPart 48 = .ok (.goto 11, 3) := by decide +kernel
theorem dX3_signPart_51 : decode cX3_signPart 51 = .ok (.aload_n 0, 1) := by decide +kernel
theorem dX3_signPart_52 : decode cX3_signPart 52 = .ok (.iload_n 2, 1) := by decide +kernel
theorem dX3_signPart_53 : decode cX3_signPart 53 = .ok (.iload_n 3, 1) := by decide +kernel
theorem dX3_signPart_54 : decode cX3_signPart 54 = .ok (.iload 4, 2) := by decide +kernel
theorem dX3_signPart_56 : decode cX3_signPart 56 = .ok (.invokevirtual 91, 3) := by decide +kernel
theorem dX3_signPart_59 : decode cX3_signPart 59 = .ok (.ireturn, 1) := by decide +kernel
theorem dX3_isNothingNewBesideOthers_0 : decode cX3_isNothingNewBesideOthers 0 = .ok (.aload_n 0, 1) := by decide +kernel
theorem dX3_isNothingNewBesideOthers_1 : decode cX3_isNothingNewBesideOthers 1 = .ok (.getfield 10, 3) := by decide +kernel
theorem dX3_isNothingNewBesideOthers_4 : decode cX3_isNothingNewBesideOthers 4 = .ok (.getfield 150, 3) := by decide +kernel
theorem dX3_isNothingNewBesideOthers_7 : decode cX3_isNothingNewBesideOthers 7 = .ok (.iload_n 1, 1) := by decide +kernel
theorem dX3_isNothingNewBesideOthers_8 : decode cX3_isNothingNewBesideOthers 8 = .ok (.iaload, 1) := by decide +kernel
theorem dX3_isNothingNewBesideOthers_9 : decode cX3_isNothingNewBesideOthers 9 = .ok (.istore_n 2, 1) := by decide +kernel
theorem dX3_isNothingNewBesideOthers_10 : decode cX3_isNothingNewBesideOthers 10 = .ok (.aload_n 0, 1) := by decide +kernel
theorem dX3_isNothingNewBesideOthers_11 : decode cX3_isNothingNewBesideOthers 11 = .ok (.getfield 10, 3) := by decide +kernel
theorem dX3_isNothingNewBesideOthers_14 : decode cX3_isNothingNewBesideOthers 14 = .ok (.getfield 153, 3) := by decide +kernel
theorem dX3_isNothingNewBesideOthers_17 : decode cX3_isNothingNewBesideOthers 17 = .ok (.iload_n 1, 1) := by decide +kernel
theorem dX3_isNothingNewBesideOthers_18 : decode cX3_isNothingNewBesideOthers 18 = .ok (.iaload, 1) := by decide +kernel
theorem dX3_isNothingNewBesideOthers_19 : decode cX3_isNothingNewBesideOthers 19 = .ok (.istore_n 3, 1) := by decide +kernel
theorem dX3_isNothingNewBesideOthers_20 : decode cX3_isNothingNewBesideOthers 20 = .ok (.aload_n 0, 1) := by decide +kernel
theorem dX3_isNothingNewBesideOthers_21 : decode cX3_isNothingNewBesideOthers 21 = .ok (.getfield 26, 3) := by decide +kernel
theorem dX3_isNothingNewBesideOthers_24 : decode cX3_isNothingNewBesideOthers 24 = .ok (.aload_n 0, 1) := by decide +kernel
theorem dX3_isNothingNewBesideOthers_25 : decode cX3_isNothingNewBesideOthers 25 = .ok (.getfield 10, 3) := by decide +kernel
theorem dX3_isNothingNewBesideOthers_28 : decode cX3_isNothingNewBesideOthers 28 = .ok (.iload_n 2, 1) := by decide +kernel
theorem dX3_isNothingNewBesideOthers_29 : decode cX3_isNothingNewBesideOthers 29 = .ok (.iload_n 3, 1) := by decide +kernel
theorem dX3_isNothingNewBesideOthers_30 : decode cX3_isNothingNewBesideOthers 30 = .ok (.iload_n 1, 1) := by decide +kernel
theorem dX3_isNothingNewBesideOthers_31 : decode cX3_isNothingNewBesideOthers 31 = .ok (.invokevirtual 165, 3) := by decide +kernel
theorem dX3_isNothingNewBesideOthers_34 : decode cX3_isNothingNewBesideOthers 34 = .ok (.aload_n 0, 1) := by decide +kernel
theorem dX3_isNothingNewBesideOthers_35 : decode cX3_isNothingNewBesideOthers 35 = .ok (.getfield 10, 3) := by decide +kernel
theorem dX3_isNothingNewBesideOthers_38 : decode cX3_isNothingNewBesideOthers 38 = .ok (.getfield 156, 3) := by decide +kernel
theorem dX3_isNothingNewBesideOthers_41 : decode cX3_isNothingNewBesideOthers 41 = .ok (.iload_n 1, 1) := by decide +kernel
theorem dX3_isNothingNewBesideOthers_42 : decode cX3_isNothingNewBesideOthers 42 = .ok (.iaload, 1) := by decide +kernel
theorem dX3_isNothingNewBesideOthers_43 : decode cX3_isNothingNewBesideOthers 43 = .ok (.if_icmp .gt 7, 3) := by decide +kernel
theorem dX3_isNothingNewBesideOthers_46 : decode cX3_isNothingNewBesideOthers 46 = .ok (.iconst 1, 1) := by decide +kernel
theorem dX3_isNothingNewBesideOthers_47 : decode cX3_isNothingNewBesideOthers 47 = .ok (.goto 4, 3) := by decide +kernel
theorem dX3_isNothingNewBesideOthers_50 : decode cX3_isNothingNewBesideOthers 50 = .ok (.iconst 0, 1) := by decide +kernel
theorem dX3_isNothingNewBesideOthers_51 : decode cX3_isNothingNewBesideOthers 51 = .ok (.ireturn, 1) := by decide +kernel
