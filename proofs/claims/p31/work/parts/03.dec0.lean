theorem dX0_init_0 : decode cX0_init 0 = .ok (.aload_n 0, 1) := by decide +kernel
theorem dX0_init_1 : decode cX0_init 1 = .ok (.invokespecial 3, 3) := by decide +kernel
theorem dX0_init_4 : decode cX0_init 4 = .ok (.aload_n 0, 1) := by decide +kernel
theorem dX0_init_5 : decode cX0_init 5 = .ok (.bipush 60, 2) := by decide +kernel
theorem dX0_init_7 : decode cX0_init 7 = .ok (.newarray .int, 2) := by decide +kernel
theorem dX0_init_9 : decode cX0_init 9 = .ok (.putfield 9, 3) := by decide +kernel
theorem dX0_init_12 : decode cX0_init 12 = .ok (.aload_n 0, 1) := by decide +kernel
theorem dX0_init_13 : decode cX0_init 13 = .ok (.bipush 15, 2) := by decide +kernel
theorem dX0_init_15 : decode cX0_init 15 = .ok (.newarray .int, 2) := by decide +kernel
theorem dX0_init_17 : decode cX0_init 17 = .ok (.putfield 15, 3) := by decide +kernel
theorem dX0_init_20 : decode cX0_init 20 = .ok (.aload_n 0, 1) := by decide +kernel
theorem dX0_init_21 : decode cX0_init 21 = .ok (.bipush 15, 2) := by decide +kernel
theorem dX0_init_23 : decode cX0_init 23 = .ok (.newarray .int, 2) := by decide +kernel
theorem dX0_init_25 : decode cX0_init 25 = .ok (.putfield 18, 3) := by decide +kernel
theorem dX0_init_28 : decode cX0_init 28 = .ok (.aload_n 0, 1) := by decide +kernel
theorem dX0_init_29 : decode cX0_init 29 = .ok (.bipush 15, 2) := by decide +kernel
theorem dX0_init_31 : decode cX0_init 31 = .ok (.newarray .int, 2) := by decide +kernel
theorem dX0_init_33 : decode cX0_init 33 = .ok (.putfield 21, 3) := by decide +kernel
theorem dX0_init_36 : decode cX0_init 36 = .ok (.aload_n 0, 1) := by decide +kernel
theorem dX0_init_37 : decode cX0_init 37 = .ok (.bipush 15, 2) := by decide +kernel
theorem dX0_init_39 : decode cX0_init 39 = .ok (.newarray .int, 2) := by decide +kernel
theorem dX0_init_41 : decode cX0_init 41 = .ok (.putfield 24, 3) := by decide +kernel
theorem dX0_init_44 : decode cX0_init 44 = .ok (.return_, 1) := by decide +kernel
theorem dX0_read_0 : decode cX0_read 0 = .ok (.aload_n 0, 1) := by decide +kernel
theorem dX0_read_1 : decode cX0_read 1 = .ok (.iconst 0, 1) := by decide +kernel
theorem dX0_read_2 : decode cX0_read 2 = .ok (.putfield 27, 3) := by decide +kernel
theorem dX0_read_5 : decode cX0_read 5 = .ok (.iconst 1, 1) := by decide +kernel
theorem dX0_read_6 : decode cX0_read 6 = .ok (.istore_n 1, 1) := by decide +kernel
theorem dX0_read_7 : decode cX0_read 7 = .ok (.iconst 0, 1) := by decide +kernel
theorem dX0_read_8 : decode cX0_read 8 = .ok (.istore_n 2, 1) := by decide +kernel
theorem dX0_read_9 : decode cX0_read 9 = .ok (.iload_n 2, 1) := by decide +kernel
theorem dX0_read_10 : decode cX0_read 10 = .ok (.aload_n 0, 1) := by decide +kernel
theorem dX0_read_11 : decode cX0_read 11 = .ok (.getfield 31, 3) := by decide +kernel
theorem dX0_read_14 : decode cX0_read 14 = .ok (.if_icmp .ge 22, 3) := by decide +kernel
theorem dX0_read_17 : decode cX0_read 17 = .ok (.aload_n 0, 1) := by decide +kernel
theorem dX0_read_18 : decode cX0_read 18 = .ok (.iload_n 2, 1) := by decide +kernel
theorem dX0_read_19 : decode cX0_read 19 = .ok (.iload_n 1, 1) := by decide +kernel
theorem dX0_read_20 : decode cX0_read 20 = .ok (.invokevirtual 34, 3) := by decide +kernel
theorem dX0_read_23 : decode cX0_read 23 = .ok (.istore_n 1, 1) := by decide +kernel
theorem dX0_read_24 : decode cX0_read 24 = .ok (.iload_n 1, 1) := by decide +kernel
theorem dX0_read_25 : decode cX0_read 25 = .ok (.ifCond .ne 5, 3) := by decide +kernel
theorem dX0_read_28 : decode cX0_read 28 = .ok (.iload_n 2, 1) := by decide +kernel
theorem dX0_read_29 : decode cX0_read 29 = .ok (.ireturn, 1) := by decide +kernel
theorem dX0_read_30 : decode cX0_read 30 = .ok (.iinc 2 1, 3) := by decide +kernel
theorem dX0_read_33 : decode cX0_read 33 = .ok (.goto (-24), 3) := by decide +kernel
theorem dX0_read_36 : decode cX0_read 36 = .ok (.iload_n 1, 1) := by decide +kernel
theorem dX0_read_37 : decode cX0_read 37 = .ok (.iconst 4, 1) := by decide +kernel
theorem dX0_read_38 : decode cX0_read 38 = .ok (.if_icmp .eq 9, 3) := by decide +kernel
theorem dX0_read_41 : decode cX0_read 41 = .ok (.iload_n 1, 1) := by decide +kernel
theorem dX0_read_42 : decode cX0_read 42 = .ok (.bipush 6, 2) := by decide +kernel
theorem dX0_read_44 : decode cX0_read 44 = .ok (.if_icmp .ne 8, 3) := by decide +kernel
theorem dX0_read_47 : decode cX0_read 47 = .ok (.bipush (-4), 2) := by decide +kernel
theorem dX0_read_49 : decode cX0_read 49 = .ok (.goto 7, 3) := by decide +kernel
theorem dX0_read_52 : decode cX0_read 52 = .ok (.aload_n 0, 1) := by decide +kernel
theorem dX0_read_53 : decode cX0_read 53 = .ok (.getfield 31, 3) := by decide +kernel
theorem dX0_read_56 : decode cX0_read 56 = .ok (.ireturn, 1) := by decide +kernel
theorem dX0_placeBehind_0 : decode cX0_placeBehind 0 = .ok (.aload_n 0, 1) := by decide +kernel
theorem dX0_placeBehind_1 : decode cX0_placeBehind 1 = .ok (.getfield 9, 3) := by decide +kernel
theorem dX0_placeBehind_4 : decode cX0_placeBehind 4 = .ok (.iload_n 1, 1) := by decide +kernel
theorem dX0_placeBehind_5 : decode cX0_placeBehind 5 = .ok (.iaload, 1) := by decide +kernel
theorem dX0_placeBehind_6 : decode cX0_placeBehind 6 = .ok (.istore_n 3, 1) := by decide +kernel
theorem dX0_placeBehind_7 : decode cX0_placeBehind 7 = .ok (.iload_n 2, 1) := by decide +kernel
theorem dX0_placeBehind_8 : decode cX0_placeBehind 8 = .ok (.tableswitch 102 1 6 #[40, 46, 58, 64, 70, 86], 40) := by decide +kernel
theorem dX0_placeBehind_48 : decode cX0_placeBehind 48 = .ok (.aload_n 0, 1) := by decide +kernel
theorem dX0_placeBehind_49 : decode cX0_placeBehind 49 = .ok (.iload_n 1, 1) := by decide +kernel
theorem dX0_placeBehind_50 : decode cX0_placeBehind 50 = .ok (.invokevirtual 38, 3) := by decide +kernel
theorem dX0_placeBehind_53 : decode cX0_placeBehind 53 = .ok (.ireturn, 1) := by decide +kernel
theorem dX0_placeBehind_54 : decode cX0_placeBehind 54 = .ok (.iload_n 3, 1) := by decide +kernel
theorem dX0_placeBehind_55 : decode cX0_placeBehind 55 = .ok (.bipush 60, 2) := by decide +kernel
theorem dX0_placeBehind_57 : decode cX0_placeBehind 57 = .ok (.if_icmp .ne 7, 3) := by decide +kernel
theorem dX0_placeBehind_60 : decode cX0_placeBehind 60 = .ok (.iconst 3, 1) := by decide +kernel
theorem dX0_placeBehind_61 : decode cX0_placeBehind 61 = .ok (.goto 4, 3) := by decide +kernel
theorem dX0_placeBehind_64 : decode cX0_placeBehind 64 = .ok (.iconst 0, 1) := by decide +kernel
theorem dX0_placeBehind_65 : decode cX0_placeBehind 65 = .ok (.ireturn, 1) := by decide +kernel
theorem dX0_placeBehind_66 : decode cX0_placeBehind 66 = .ok (.aload_n 0, 1) := by decide +kernel
theorem dX0_placeBehind_67 : decode cX0_placeBehind 67 = .ok (.iload_n 3, 1) := by decide +kernel
theorem dX0_placeBehind_68 : decode cX0_placeBehind 68 = .ok (.invokevirtual 42, 3) := by decide +kernel
theorem dX0_placeBehind_71 : decode cX0_placeBehind 71 = .ok (.ireturn, 1) := by decide +kernel
theorem dX0_placeBehind_72 : decode cX0_placeBehind 72 = .ok (.aload_n 0, 1) := by decide +kernel
theorem dX0_placeBehind_73 : decode cX0_placeBehind 73 = .ok (.iload_n 3, 1) := by decide +kernel
theorem dX0_placeBehind_74 : decode cX0_placeBehind 74 = .ok (.invokevirtual 45, 3) := by decide +kernel
theorem dX0_placeBehind_77 : decode cX0_placeBehind 77 = .ok (.ireturn, 1) := by decide +kernel
theorem dX0_placeBehind_78 : decode cX0_placeBehind 78 = .ok (.iload_n 3, 1) := by decide +kernel
theorem dX0_placeBehind_79 : decode cX0_placeBehind 79 = .ok (.bipush 48, 2) := by decide +kernel
theorem dX0_placeBehind_81 : decode cX0_placeBehind 81 = .ok (.if_icmp .ne 7, 3) := by decide +kernel
theorem dX0_placeBehind_84 : decode cX0_placeBehind 84 = .ok (.iconst 0, 1) := by decide +kernel
theorem dX0_placeBehind_85 : decode cX0_placeBehind 85 = .ok (.goto 8, 3) := by decide +kernel
theorem dX0_placeBehind_88 : decode cX0_placeBehind 88 = .ok (.aload_n 0, 1) := by decide +kernel
theorem dX0_placeBehind_89 : decode cX0_placeBehind 89 = .ok (.iload_n 3, 1) := by decide +kernel
theorem dX0_placeBehind_90 : decode cX0_placeBehind 90 = .ok (.invokevirtual 48, 3) := by decide +kernel
theorem dX0_placeBehind_93 : decode cX0_placeBehind 93 = .ok (.ireturn, 1) := by decide +kernel
theorem dX0_placeBehind_94 : decode cX0_placeBehind 94 = .ok (.iload_n 3, 1) := by decide +kernel
theorem dX0_placeBehind_95 : decode cX0_placeBehind 95 = .ok (.bipush 59, 2) := by decide +kernel
theorem dX0_placeBehind_97 : decode cX0_placeBehind 97 = .ok (.if_icmp .ne 7, 3) := by decide +kernel
theorem dX0_placeBehind_100 : decode cX0_placeBehind 100 = .ok (.iconst 1, 1) := by decide +kernel
theorem dX0_placeBehind_101 : decode cX0_placeBehind 101 = .ok (.goto 8, 3) := by decide +kernel
theorem dX0_placeBehind_104 : decode cX0_placeBehind 104 = .ok (.aload_n 0, 1) := by decide +kernel
theorem dX0_placeBehind_105 : decode cX0_placeBehind 105 = .ok (.iload_n 3, 1) := by decide +kernel
theorem dX0_placeBehind_106 : decode cX0_placeBehind 106 = .ok (.invokevirtual 48, 3) := by decide +kernel
theorem dX0_placeBehind_109 : decode cX0_placeBehind 109 = .ok (.ireturn, 1) := by decide +kernel
theorem dX0_placeBehind_110 : decode cX0_placeBehind 110 = .ok (.iconst 0, 1) := by decide +kernel
theorem dX0_placeBehind_111 : decode cX0_placeBehind 111 = .ok (.ireturn, 1) := by decide +kernel
theorem dX0_isDigit_0 : decode cX0_isDigit 0 = .ok (.iload_n 0, 1) := by decide +kernel
theorem dX0_isDigit_1 : decode cX0_isDigit 1 = .ok (.bipush 48, 2) := by decide +kernel
theorem dX0_isDigit_3 : decode cX0_isDigit 3 = .ok (.if_icmp .lt 15, 3) := by decide +kernel
theorem dX0_isDigit_6 : decode cX0_isDigit 6 = .ok (.iload_n 0, 1) := by decide +kernel
theorem dX0_isDigit_7 : decode cX0_isDigit 7 = .ok (.bipush 48, 2) := by decide +kernel
theorem dX0_isDigit_9 : decode cX0_isDigit 9 = .ok (.isub, 1) := by decide +kernel
theorem dX0_isDigit_10 : decode cX0_isDigit 10 = .ok (.iload_n 1, 1) := by decide +kernel
theorem dX0_isDigit_11 : decode cX0_isDigit 11 = .ok (.if_icmp .gt 7, 3) := by decide +kernel
theorem dX0_isDigit_14 : decode cX0_isDigit 14 = .ok (.iconst 1, 1) := by decide +kernel
theorem dX0_isDigit_15 : decode cX0_isDigit 15 = .ok (.goto 4, 3) := by decide +kernel
theorem dX0_isDigit_18 : decode cX0_isDigit 18 = .ok (.iconst 0, 1) := by decide +kernel
theorem dX0_isDigit_19 : decode cX0_isDigit 19 = .ok (.ireturn, 1) := by decide +kernel
theorem dX0_startPart_0 : decode cX0_startPart 0 = .ok (.aload_n 0, 1) := by decide +kernel
theorem dX0_startPart_1 : decode cX0_startPart 1 = .ok (.getfield 9, 3) := by decide +kernel
theorem dX0_startPart_4 : decode cX0_startPart 4 = .ok (.iload_n 1, 1) := by decide +kernel
theorem dX0_startPart_5 : decode cX0_startPart 5 = .ok (.iaload, 1) := by decide +kernel
theorem dX0_startPart_6 : decode cX0_startPart 6 = .ok (.istore_n 2, 1) := by decide +kernel
theorem dX0_startPart_7 : decode cX0_startPart 7 = .ok (.iload_n 2, 1) := by decide +kernel
theorem dX0_startPart_8 : decode cX0_startPart 8 = .ok (.bipush 7, 2) := by decide +kernel
theorem dX0_startPart_10 : decode cX0_startPart 10 = .ok (.invokestatic 51, 3) := by decide +kernel
theorem dX0_startPart_13 : decode cX0_startPart 13 = .ok (.ifCond .eq 12, 3) := by decide +kernel
theorem dX0_startPart_16 : decode cX0_startPart 16 = .ok (.aload_n 0, 1) := by decide +kernel
theorem dX0_startPart_17 : decode cX0_startPart 17 = .ok (.getfield 27, 3) := by decide +kernel
theorem dX0_startPart_20 : decode cX0_startPart 20 = .ok (.bipush 15, 2) := by decide +kernel
theorem dX0_startPart_22 : decode cX0_startPart 22 = .ok (.if_icmp .lt 5, 3) := by decide +kernel
theorem dX0_startPart_25 : decode cX0_startPart 25 = .ok (.iconst 0, 1) := by decide +kernel
theorem dX0_startPart_26 : decode cX0_startPart 26 = .ok (.ireturn, 1) := by decide +kernel
theorem dX0_startPart_27 : decode cX0_startPart 27 = .ok (.aload_n 0, 1) := by decide +kernel
theorem dX0_startPart_28 : decode cX0_startPart 28 = .ok (.getfield 15, 3) := by decide +kernel
theorem dX0_startPart_31 : decode cX0_startPart 31 = .ok (.aload_n 0, 1) := by decide +kernel
theorem dX0_startPart_32 : decode cX0_startPart 32 = .ok (.getfield 27, 3) := by decide +kernel
theorem dX0_startPart_35 : decode cX0_startPart 35 = .ok (.iload_n 1, 1) := by decide +kernel
theorem dX0_startPart_36 : decode cX0_startPart 36 = .ok (.iastore, 1) := by decide +kernel
theorem dX0_startPart_37 : decode cX0_startPart 37 = .ok (.aload_n 0, 1) := by decide +kernel
theorem dX0_startPart_38 : decode cX0_startPart 38 = .ok (.getfield 18, 3) := by decide +kernel
theorem dX0_startPart_41 : decode cX0_startPart 41 = .ok (.aload_n 0, 1) := by decide +kernel
theorem dX0_startPart_42 : decode cX0_startPart 42 = .ok (.getfield 27, 3) := by decide +kernel
theorem dX0_startPart_45 : decode cX0_startPart 45 = .ok (.iload_n 2, 1) := by decide +kernel
theorem dX0_startPart_46 : decode cX0_startPart 46 = .ok (.bipush 48, 2) := by decide +kernel
theorem dX0_startPart_48 : decode cX0_startPart 48 = .ok (.isub, 1) := by decide +kernel
theorem dX0_startPart_49 : decode cX0_startPart 49 = .ok (.iastore, 1) := by decide +kernel
theorem dX0_startPart_50 : decode cX0_startPart 50 = .ok (.aload_n 0, 1) := by decide +kernel
theorem dX0_startPart_51 : decode cX0_startPart 51 = .ok (.getfield 24, 3) := by decide +kernel
theorem dX0_startPart_54 : decode cX0_startPart 54 = .ok (.aload_n 0, 1) := by decide +kernel
theorem dX0_startPart_55 : decode cX0_startPart 55 = .ok (.getfield 27, 3) := by decide +kernel
theorem dX0_startPart_58 : decode cX0_startPart 58 = .ok (.iconst 0, 1) := by decide +kernel
theorem dX0_startPart_59 : decode cX0_startPart 59 = .ok (.iastore, 1) := by decide +kernel
theorem dX0_startPart_60 : decode cX0_startPart 60 = .ok (.aload_n 0, 1) := by decide +kernel
theorem dX0_startPart_61 : decode cX0_startPart 61 = .ok (.dup, 1) := by decide +kernel
theorem dX0_startPart_62 : decode cX0_startPart 62 = .ok (.getfield 27, 3) := by decide +kernel
theorem dX0_startPart_65 : decode cX0_startPart 65 = .ok (.iconst 1, 1) := by decide +kernel
theorem dX0_startPart_66 : decode cX0_startPart 66 = .ok (.iadd, 1) := by decide +kernel
theorem dX0_startPart_67 : decode cX0_startPart 67 = .ok (.putfield 27, 3) := by decide +kernel
theorem dX0_startPart_70 : decode cX0_startPart 70 = .ok (.iconst 2, 1) := by decide +kernel
theorem dX0_startPart_71 : decode cX0_startPart 71 = .ok (.ireturn, 1) := by decide +kernel
theorem dX0_takeOther_0 : decode cX0_takeOther 0 = .ok (.iload_n 1, 1) := by decide +kernel
theorem dX0_takeOther_1 : decode cX0_takeOther 1 = .ok (.bipush 7, 2) := by decide +kernel
theorem dX0_takeOther_3 : decode cX0_takeOther 3 = .ok (.invokestatic 51, 3) := by decide +kernel
theorem dX0_takeOther_6 : decode cX0_takeOther 6 = .ok (.ifCond .ne 5, 3) := by decide +kernel
theorem dX0_takeOther_9 : decode cX0_takeOther 9 = .ok (.iconst 0, 1) := by decide +kernel
theorem dX0_takeOther_10 : decode cX0_takeOther 10 = .ok (.ireturn, 1) := by decide +kernel
theorem dX0_takeOther_11 : decode cX0_takeOther 11 = .ok (.aload_n 0, 1) := by decide +kernel
theorem dX0_takeOther_12 : decode cX0_takeOther 12 = .ok (.getfield 21, 3) := by decide +kernel
theorem dX0_takeOther_15 : decode cX0_takeOther 15 = .ok (.aload_n 0, 1) := by decide +kernel
theorem dX0_takeOther_16 : decode cX0_takeOther 16 = .ok (.getfield 27, 3) := by decide +kernel
theorem dX0_takeOther_19 : decode cX0_takeOther 19 = .ok (.iconst 1, 1) := by decide +kernel
theorem dX0_takeOther_20 : decode cX0_takeOther 20 = .ok (.isub, 1) := by decide +kernel
theorem dX0_takeOther_21 : decode cX0_takeOther 21 = .ok (.iload_n 1, 1) := by decide +kernel
theorem dX0_takeOther_22 : decode cX0_takeOther 22 = .ok (.bipush 48, 2) := by decide +kernel
theorem dX0_takeOther_24 : decode cX0_takeOther 24 = .ok (.isub, 1) := by decide +kernel
theorem dX0_takeOther_25 : decode cX0_takeOther 25 = .ok (.iastore, 1) := by decide +kernel
theorem dX0_takeOther_26 : decode cX0_takeOther 26 = .ok (.iconst 4, 1) := by decide +kernel
theorem dX0_takeOther_27 : decode cX0_takeOther 27 = .ok (.ireturn, 1) := by decide +kernel
theorem dX0_takeSign_0 : decode cX0_takeSign 0 = .ok (.iload_n 1, 1) := by decide +kernel
theorem dX0_takeSign_1 : decode cX0_takeSign 1 = .ok (.lookupswitch 53 #[(43, 37), (45, 45), (59, 35)], 35) := by decide +kernel
theorem dX0_takeSign_36 : decode cX0_takeSign 36 = .ok (.iconst 1, 1) := by decide +kernel
theorem dX0_takeSign_37 : decode cX0_takeSign 37 = .ok (.ireturn, 1) := by decide +kernel
theorem dX0_takeSign_38 : decode cX0_takeSign 38 = .ok (.aload_n 0, 1) := by decide +kernel
theorem dX0_takeSign_39 : decode cX0_takeSign 39 = .ok (.iconst 1, 1) := by decide +kernel
theorem dX0_takeSign_40 : decode cX0_takeSign 40 = .ok (.bipush 60, 2) := by decide +kernel
theorem dX0_takeSign_42 : decode cX0_takeSign 42 = .ok (.invokevirtual 55, 3) := by decide +kernel
theorem dX0_takeSign_45 : decode cX0_takeSign 45 = .ok (.ireturn, 1) := by decide +kernel
theorem dX0_takeSign_46 : decode cX0_takeSign 46 = .ok (.aload_n 0, 1) := by decide +kernel
theorem dX0_takeSign_47 : decode cX0_takeSign 47 = .ok (.iconst (-1), 1) := by decide +kernel
theorem dX0_takeSign_48 : decode cX0_takeSign 48 = .ok (.bipush 30, 2) := by decide +kernel
theorem dX0_takeSign_50 : decode cX0_takeSign 50 = .ok (.invokevirtual 55, 3) := by decide +kernel
theorem dX0_takeSign_53 : decode cX0_takeSign 53 = .ok (.ireturn, 1) := by decide +kernel
theorem dX0_takeSign_54 : decode cX0_takeSign 54 = .ok (.iconst 0, 1) := by decide +kernel
theorem dX0_takeSign_55 : decode cX0_takeSign 55 = .ok (.ireturn, 1) := by decide +kernel
theorem dX0_startNumber_0 : decode cX0_startNumber 0 = .ok (.aload_n 0, 1) := by decide +kernel
theorem dX0_startNumber_1 : decode cX0_startNumber 1 = .ok (.iload_n 1, 1) := by decide +kernel
theorem dX0_startNumber_2 : decode cX0_startNumber 2 = .ok (.putfield 58, 3) := by decide +kernel
theorem dX0_startNumber_5 : decode cX0_startNumber 5 = .ok (.aload_n 0, 1) := by decide +kernel
theorem dX0_startNumber_6 : decode cX0_startNumber 6 = .ok (.iconst 0, 1) := by decide +kernel
theorem dX0_startNumber_7 : decode cX0_startNumber 7 = .ok (.putfield 61, 3) := by decide +kernel
theorem dX0_startNumber_10 : decode cX0_startNumber 10 = .ok (.aload_n 0, 1) := by decide +kernel
theorem dX0_startNumber_11 : decode cX0_startNumber 11 = .ok (.iload_n 2, 1) := by decide +kernel
theorem dX0_startNumber_12 : decode cX0_startNumber 12 = .ok (.putfield 64, 3) := by decide +kernel
theorem dX0_startNumber_15 : decode cX0_startNumber 15 = .ok (.iconst 5, 1) := by decide +kernel
theorem dX0_startNumber_16 : decode cX0_startNumber 16 = .ok (.ireturn, 1) := by decide +kernel
theorem dX0_takeDigit_0 : decode cX0_takeDigit 0 = .ok (.iload_n 1, 1) := by decide +kernel
theorem dX0_takeDigit_1 : decode cX0_takeDigit 1 = .ok (.bipush 9, 2) := by decide +kernel
theorem dX0_takeDigit_3 : decode cX0_takeDigit 3 = .ok (.invokestatic 51, 3) := by decide +kernel
theorem dX0_takeDigit_6 : decode cX0_takeDigit 6 = .ok (.ifCond .ne 5, 3) := by decide +kernel
theorem dX0_takeDigit_9 : decode cX0_takeDigit 9 = .ok (.iconst 0, 1) := by decide +kernel
theorem dX0_takeDigit_10 : decode cX0_takeDigit 10 = .ok (.ireturn, 1) := by decide +kernel
theorem dX0_takeDigit_11 : decode cX0_takeDigit 11 = .ok (.aload_n 0, 1) := by decide +kernel
theorem dX0_takeDigit_12 : decode cX0_takeDigit 12 = .ok (.aload_n 0, 1) := by decide +kernel
theorem dX0_takeDigit_13 : decode cX0_takeDigit 13 = .ok (.getfield 61, 3) := by decide +kernel
theorem dX0_takeDigit_16 : decode cX0_takeDigit 16 = .ok (.bipush 10, 2) := by decide +kernel
theorem dX0_takeDigit_18 : decode cX0_takeDigit 18 = .ok (.imul, 1) := by decide +kernel
theorem dX0_takeDigit_19 : decode cX0_takeDigit 19 = .ok (.iload_n 1, 1) := by decide +kernel
theorem dX0_takeDigit_20 : decode cX0_takeDigit 20 = .ok (.iadd, 1) := by decide +kernel
theorem dX0_takeDigit_21 : decode cX0_takeDigit 21 = .ok (.bipush 48, 2) := by decide +kernel
theorem dX0_takeDigit_23 : decode cX0_takeDigit 23 = .ok (.isub, 1) := by decide +kernel
theorem dX0_takeDigit_24 : decode cX0_takeDigit 24 = .ok (.putfield 61, 3) := by decide +kernel
theorem dX0_takeDigit_27 : decode cX0_takeDigit 27 = .ok (.aload_n 0, 1) := by decide +kernel
theorem dX0_takeDigit_28 : decode cX0_takeDigit 28 = .ok (.getfield 61, 3) := by decide +kernel
theorem dX0_takeDigit_31 : decode cX0_takeDigit 31 = .ok (.aload_n 0, 1) := by decide +kernel
theorem dX0_takeDigit_32 : decode cX0_takeDigit 32 = .ok (.getfield 64, 3) := by decide +kernel
theorem dX0_takeDigit_35 : decode cX0_takeDigit 35 = .ok (.if_icmp .le 5, 3) := by decide +kernel
theorem dX0_takeDigit_38 : decode cX0_takeDigit 38 = .ok (.iconst 0, 1) := by decide +kernel
theorem dX0_takeDigit_39 : decode cX0_takeDigit 39 = .ok (.ireturn, 1) := by decide +kernel
theorem dX0_takeDigit_40 : decode cX0_takeDigit 40 = .ok (.aload_n 0, 1) := by decide +kernel
theorem dX0_takeDigit_41 : decode cX0_takeDigit 41 = .ok (.getfield 24, 3) := by decide +kernel
theorem dX0_takeDigit_44 : decode cX0_takeDigit 44 = .ok (.aload_n 0, 1) := by decide +kernel
theorem dX0_takeDigit_45 : decode cX0_takeDigit 45 = .ok (.getfield 27, 3) := by decide +kernel
theorem dX0_takeDigit_48 : decode cX0_takeDigit 48 = .ok (.iconst 1, 1) := by decide +kernel
theorem dX0_takeDigit_49 : decode cX0_takeDigit 49 = .ok (.isub, 1) := by decide +kernel
theorem dX0_takeDigit_50 : decode cX0_takeDigit 50 = .ok (.aload_n 0, 1) := by decide +kernel
theorem dX0_takeDigit_51 : decode cX0_takeDigit 51 = .ok (.getfield 58, 3) := by decide +kernel
theorem dX0_takeDigit_54 : decode cX0_takeDigit 54 = .ok (.aload_n 0, 1) := by decide +kernel
theorem dX0_takeDigit_55 : decode cX0_takeDigit 55 = .ok (.getfield 61, 3) := by decide +kernel
theorem dX0_takeDigit_58 : decode cX0_takeDigit 58 = .ok (.imul, 1) := by decide +kernel
theorem dX0_takeDigit_59 : decode cX0_takeDigit 59 = .ok (.iastore, 1) := by decide +kernel
theorem dX0_takeDigit_60 : decode cX0_takeDigit 60 = .ok (.bipush 6, 2) := by decide +kernel
theorem dX0_takeDigit_62 : decode cX0_takeDigit 62 = .ok (.ireturn, 1) := by decide +kernel
