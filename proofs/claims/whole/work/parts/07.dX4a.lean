theorem dX4_init_0 : decode cX4_init 0 = .ok (.aload_n 0, 1) := by decide +kernel
theorem dX4_init_1 : decode cX4_init 1 = .ok (.invokespecial 3, 3) := by decide +kernel
theorem dX4_init_4 : decode cX4_init 4 = .ok (.aload_n 0, 1) := by decide +kernel
theorem dX4_init_5 : decode cX4_init 5 = .ok (.new 9, 3) := by decide +kernel
theorem dX4_init_8 : decode cX4_init 8 = .ok (.dup, 1) := by decide +kernel
theorem dX4_init_9 : decode cX4_init 9 = .ok (.invokespecial 11, 3) := by decide +kernel
theorem dX4_init_12 : decode cX4_init 12 = .ok (.putfield 12, 3) := by decide +kernel
theorem dX4_init_15 : decode cX4_init 15 = .ok (.aload_n 0, 1) := by decide +kernel
theorem dX4_init_16 : decode cX4_init 16 = .ok (.bipush 20, 2) := by decide +kernel
theorem dX4_init_18 : decode cX4_init 18 = .ok (.newarray .int, 2) := by decide +kernel
theorem dX4_init_20 : decode cX4_init 20 = .ok (.putfield 18, 3) := by decide +kernel
theorem dX4_init_23 : decode cX4_init 23 = .ok (.aload_n 0, 1) := by decide +kernel
theorem dX4_init_24 : decode cX4_init 24 = .ok (.bipush 20, 2) := by decide +kernel
theorem dX4_init_26 : decode cX4_init 26 = .ok (.newarray .int, 2) := by decide +kernel
theorem dX4_init_28 : decode cX4_init 28 = .ok (.putfield 22, 3) := by decide +kernel
theorem dX4_init_31 : decode cX4_init 31 = .ok (.return_, 1) := by decide +kernel
theorem dX4_isWhat_0 : decode cX4_isWhat 0 = .ok (.iload_n 0, 1) := by decide +kernel
theorem dX4_isWhat_1 : decode cX4_isWhat 1 = .ok (.ifCond .lt 8, 3) := by decide +kernel
theorem dX4_isWhat_4 : decode cX4_isWhat 4 = .ok (.iload_n 0, 1) := by decide +kernel
theorem dX4_isWhat_5 : decode cX4_isWhat 5 = .ok (.iconst 3, 1) := by decide +kernel
theorem dX4_isWhat_6 : decode cX4_isWhat 6 = .ok (.if_icmp .le 27, 3) := by decide +kernel
theorem dX4_isWhat_9 : decode cX4_isWhat 9 = .ok (.iload_n 0, 1) := by decide +kernel
theorem dX4_isWhat_10 : decode cX4_isWhat 10 = .ok (.bipush 10, 2) := by decide +kernel
theorem dX4_isWhat_12 : decode cX4_isWhat 12 = .ok (.if_icmp .lt 9, 3) := by decide +kernel
theorem dX4_isWhat_15 : decode cX4_isWhat 15 = .ok (.iload_n 0, 1) := by decide +kernel
theorem dX4_isWhat_16 : decode cX4_isWhat 16 = .ok (.bipush 15, 2) := by decide +kernel
theorem dX4_isWhat_18 : decode cX4_isWhat 18 = .ok (.if_icmp .lt 15, 3) := by decide +kernel
theorem dX4_isWhat_21 : decode cX4_isWhat 21 = .ok (.iload_n 0, 1) := by decide +kernel
theorem dX4_isWhat_22 : decode cX4_isWhat 22 = .ok (.bipush 20, 2) := by decide +kernel
theorem dX4_isWhat_24 : decode cX4_isWhat 24 = .ok (.if_icmp .lt 13, 3) := by decide +kernel
theorem dX4_isWhat_27 : decode cX4_isWhat 27 = .ok (.iload_n 0, 1) := by decide +kernel
theorem dX4_isWhat_28 : decode cX4_isWhat 28 = .ok (.bipush 25, 2) := by decide +kernel
theorem dX4_isWhat_30 : decode cX4_isWhat 30 = .ok (.if_icmp .ge 7, 3) := by decide +kernel
theorem dX4_isWhat_33 : decode cX4_isWhat 33 = .ok (.iconst 1, 1) := by decide +kernel
theorem dX4_isWhat_34 : decode cX4_isWhat 34 = .ok (.goto 4, 3) := by decide +kernel
theorem dX4_isWhat_37 : decode cX4_isWhat 37 = .ok (.iconst 0, 1) := by decide +kernel
theorem dX4_isWhat_38 : decode cX4_isWhat 38 = .ok (.ireturn, 1) := by decide +kernel
theorem dX4_load_0 : decode cX4_load 0 = .ok (.aload_n 0, 1) := by decide +kernel
theorem dX4_load_1 : decode cX4_load 1 = .ok (.getfield 12, 3) := by decide +kernel
theorem dX4_load_4 : decode cX4_load 4 = .ok (.aload_n 1, 1) := by decide +kernel
theorem dX4_load_5 : decode cX4_load 5 = .ok (.invokevirtual 25, 3) := by decide +kernel
theorem dX4_load_8 : decode cX4_load 8 = .ok (.aload_n 0, 1) := by decide +kernel
theorem dX4_load_9 : decode cX4_load 9 = .ok (.iconst 0, 1) := by decide +kernel
theorem dX4_load_10 : decode cX4_load 10 = .ok (.iload 5, 2) := by decide +kernel
theorem dX4_load_12 : decode cX4_load 12 = .ok (.bipush 20, 2) := by decide +kernel
theorem dX4_load_14 : decode cX4_load 14 = .ok (.invokestatic 29, 3) := by decide +kernel
theorem dX4_load_17 : decode cX4_load 17 = .ok (.invokestatic 35, 3) := by decide +kernel
theorem dX4_load_20 : decode cX4_load 20 = .ok (.putfield 38, 3) := by decide +kernel
theorem dX4_load_23 : decode cX4_load 23 = .ok (.iconst 0, 1) := by decide +kernel
theorem dX4_load_24 : decode cX4_load 24 = .ok (.istore 6, 2) := by decide +kernel
theorem dX4_load_26 : decode cX4_load 26 = .ok (.iload 6, 2) := by decide +kernel
theorem dX4_load_28 : decode cX4_load 28 = .ok (.aload_n 0, 1) := by decide +kernel
theorem dX4_load_29 : decode cX4_load 29 = .ok (.getfield 38, 3) := by decide +kernel
theorem dX4_load_32 : decode cX4_load 32 = .ok (.if_icmp .ge 77, 3) := by decide +kernel
theorem dX4_load_35 : decode cX4_load 35 = .ok (.aload_n 0, 1) := by decide +kernel
theorem dX4_load_36 : decode cX4_load 36 = .ok (.getfield 18, 3) := by decide +kernel
theorem dX4_load_39 : decode cX4_load 39 = .ok (.iload 6, 2) := by decide +kernel
theorem dX4_load_41 : decode cX4_load 41 = .ok (.aload_n 2, 1) := by decide +kernel
theorem dX4_load_42 : decode cX4_load 42 = .ok (.iload_n 3, 1) := by decide +kernel
theorem dX4_load_43 : decode cX4_load 43 = .ok (.iload 4, 2) := by decide +kernel
theorem dX4_load_45 : decode cX4_load 45 = .ok (.iconst 2, 1) := by decide +kernel
theorem dX4_load_46 : decode cX4_load 46 = .ok (.iload 6, 2) := by decide +kernel
theorem dX4_load_48 : decode cX4_load 48 = .ok (.imul, 1) := by decide +kernel
theorem dX4_load_49 : decode cX4_load 49 = .ok (.iadd, 1) := by decide +kernel
theorem dX4_load_50 : decode cX4_load 50 = .ok (.invokevirtual 42, 3) := by decide +kernel
theorem dX4_load_53 : decode cX4_load 53 = .ok (.iastore, 1) := by decide +kernel
theorem dX4_load_54 : decode cX4_load 54 = .ok (.aload_n 0, 1) := by decide +kernel
theorem dX4_load_55 : decode cX4_load 55 = .ok (.getfield 22, 3) := by decide +kernel
theorem dX4_load_58 : decode cX4_load 58 = .ok (.iload 6, 2) := by decide +kernel
theorem dX4_load_60 : decode cX4_load 60 = .ok (.aload_n 2, 1) := by decide +kernel
theorem dX4_load_61 : decode cX4_load 61 = .ok (.iload_n 3, 1) := by decide +kernel
theorem dX4_load_62 : decode cX4_load 62 = .ok (.iload 4, 2) := by decide +kernel
theorem dX4_load_64 : decode cX4_load 64 = .ok (.iconst 2, 1) := by decide +kernel
theorem dX4_load_65 : decode cX4_load 65 = .ok (.iload 6, 2) := by decide +kernel
theorem dX4_load_67 : decode cX4_load 67 = .ok (.imul, 1) := by decide +kernel
theorem dX4_load_68 : decode cX4_load 68 = .ok (.iadd, 1) := by decide +kernel
theorem dX4_load_69 : decode cX4_load 69 = .ok (.iconst 1, 1) := by decide +kernel
theorem dX4_load_70 : decode cX4_load 70 = .ok (.iadd, 1) := by decide +kernel
theorem dX4_load_71 : decode cX4_load 71 = .ok (.invokevirtual 42, 3) := by decide +kernel
theorem dX4_load_74 : decode cX4_load 74 = .ok (.iastore, 1) := by decide +kernel
theorem dX4_load_75 : decode cX4_load 75 = .ok (.aload_n 0, 1) := by decide +kernel
theorem dX4_load_76 : decode cX4_load 76 = .ok (.aload_n 0, 1) := by decide +kernel
theorem dX4_load_77 : decode cX4_load 77 = .ok (.getfield 18, 3) := by decide +kernel
theorem dX4_load_80 : decode cX4_load 80 = .ok (.iload 6, 2) := by decide +kernel
theorem dX4_load_82 : decode cX4_load 82 = .ok (.iaload, 1) := by decide +kernel
theorem dX4_load_83 : decode cX4_load 83 = .ok (.aload_n 0, 1) := by decide +kernel
theorem dX4_load_84 : decode cX4_load 84 = .ok (.getfield 22, 3) := by decide +kernel
theorem dX4_load_87 : decode cX4_load 87 = .ok (.iload 6, 2) := by decide +kernel
theorem dX4_load_89 : decode cX4_load 89 = .ok (.iaload, 1) := by decide +kernel
theorem dX4_load_90 : decode cX4_load 90 = .ok (.invokevirtual 47, 3) := by decide +kernel
theorem dX4_load_93 : decode cX4_load 93 = .ok (.istore 7, 2) := by decide +kernel
theorem dX4_load_95 : decode cX4_load 95 = .ok (.iload 7, 2) := by decide +kernel
theorem dX4_load_97 : decode cX4_load 97 = .ok (.ifCond .eq 6, 3) := by decide +kernel
theorem dX4_load_100 : decode cX4_load 100 = .ok (.iload 7, 2) := by decide +kernel
theorem dX4_load_102 : decode cX4_load 102 = .ok (.ireturn, 1) := by decide +kernel
theorem dX4_load_103 : decode cX4_load 103 = .ok (.iinc 6 1, 3) := by decide +kernel
theorem dX4_load_106 : decode cX4_load 106 = .ok (.goto (-80), 3) := by decide +kernel
theorem dX4_load_109 : decode cX4_load 109 = .ok (.iconst 0, 1) := by decide +kernel
theorem dX4_load_110 : decode cX4_load 110 = .ok (.ireturn, 1) := by decide +kernel
theorem dX4_refusalOf_0 : decode cX4_refusalOf 0 = .ok (.iload_n 2, 1) := by decide +kernel
theorem dX4_refusalOf_1 : decode cX4_refusalOf 1 = .ok (.bipush 8, 2) := by decide +kernel
theorem dX4_refusalOf_3 : decode cX4_refusalOf 3 = .ok (.if_icmp .ne 20, 3) := by decide +kernel
theorem dX4_refusalOf_6 : decode cX4_refusalOf 6 = .ok (.iload_n 1, 1) := by decide +kernel
theorem dX4_refusalOf_7 : decode cX4_refusalOf 7 = .ok (.ifCond .lt 9, 3) := by decide +kernel
theorem dX4_refusalOf_10 : decode cX4_refusalOf 10 = .ok (.iload_n 1, 1) := by decide +kernel
theorem dX4_refusalOf_11 : decode cX4_refusalOf 11 = .ok (.bipush 9, 2) := by decide +kernel
theorem dX4_refusalOf_13 : decode cX4_refusalOf 13 = .ok (.if_icmp .le 8, 3) := by decide +kernel
theorem dX4_refusalOf_16 : decode cX4_refusalOf 16 = .ok (.bipush (-2), 2) := by decide +kernel
theorem dX4_refusalOf_18 : decode cX4_refusalOf 18 = .ok (.goto 4, 3) := by decide +kernel
theorem dX4_refusalOf_21 : decode cX4_refusalOf 21 = .ok (.iconst 0, 1) := by decide +kernel
theorem dX4_refusalOf_22 : decode cX4_refusalOf 22 = .ok (.ireturn, 1) := by decide +kernel
theorem dX4_refusalOf_23 : decode cX4_refusalOf 23 = .ok (.iload_n 2, 1) := by decide +kernel
theorem dX4_refusalOf_24 : decode cX4_refusalOf 24 = .ok (.bipush 9, 2) := by decide +kernel
theorem dX4_refusalOf_26 : decode cX4_refusalOf 26 = .ok (.if_icmp .eq 17, 3) := by decide +kernel
theorem dX4_refusalOf_29 : decode cX4_refusalOf 29 = .ok (.aload_n 0, 1) := by decide +kernel
theorem dX4_refusalOf_30 : decode cX4_refusalOf 30 = .ok (.getfield 12, 3) := by decide +kernel
theorem dX4_refusalOf_33 : decode cX4_refusalOf 33 = .ok (.iload_n 2, 1) := by decide +kernel
theorem dX4_refusalOf_34 : decode cX4_refusalOf 34 = .ok (.invokevirtual 50, 3) := by decide +kernel
theorem dX4_refusalOf_37 : decode cX4_refusalOf 37 = .ok (.ifCond .ne 6, 3) := by decide +kernel
theorem dX4_refusalOf_40 : decode cX4_refusalOf 40 = .ok (.bipush (-2), 2) := by decide +kernel
theorem dX4_refusalOf_42 : decode cX4_refusalOf 42 = .ok (.ireturn, 1) := by decide +kernel
theorem dX4_refusalOf_43 : decode cX4_refusalOf 43 = .ok (.aload_n 0, 1) := by decide +kernel
theorem dX4_refusalOf_44 : decode cX4_refusalOf 44 = .ok (.getfield 12, 3) := by decide +kernel
theorem dX4_refusalOf_47 : decode cX4_refusalOf 47 = .ok (.iload_n 1, 1) := by decide +kernel
theorem dX4_refusalOf_48 : decode cX4_refusalOf 48 = .ok (.invokevirtual 54, 3) := by decide +kernel
theorem dX4_refusalOf_51 : decode cX4_refusalOf 51 = .ok (.ifCond .eq 7, 3) := by decide +kernel
theorem dX4_refusalOf_54 : decode cX4_refusalOf 54 = .ok (.iconst 0, 1) := by decide +kernel
theorem dX4_refusalOf_55 : decode cX4_refusalOf 55 = .ok (.goto 4, 3) := by decide +kernel
theorem dX4_refusalOf_58 : decode cX4_refusalOf 58 = .ok (.iconst (-1), 1) := by decide +kernel
theorem dX4_refusalOf_59 : decode cX4_refusalOf 59 = .ok (.ireturn, 1) := by decide +kernel
theorem dX4_play_0 : decode cX4_play 0 = .ok (.aload_n 0, 1) := by decide +kernel
theorem dX4_play_1 : decode cX4_play 1 = .ok (.bipush (-9), 2) := by decide +kernel
theorem dX4_play_3 : decode cX4_play 3 = .ok (.putfield 57, 3) := by decide +kernel
theorem dX4_play_6 : decode cX4_play 6 = .ok (.aload_n 0, 1) := by decide +kernel
theorem dX4_play_7 : decode cX4_play 7 = .ok (.iconst 0, 1) := by decide +kernel
theorem dX4_play_8 : decode cX4_play 8 = .ok (.putfield 60, 3) := by decide +kernel
theorem dX4_play_11 : decode cX4_play 11 = .ok (.iconst 0, 1) := by decide +kernel
theorem dX4_play_12 : decode cX4_play 12 = .ok (.istore_n 1, 1) := by decide +kernel
theorem dX4_play_13 : decode cX4_play 13 = .ok (.iload_n 1, 1) := by decide +kernel
theorem dX4_play_14 : decode cX4_play 14 = .ok (.aload_n 0, 1) := by decide +kernel
theorem dX4_play_15 : decode cX4_play 15 = .ok (.getfield 38, 3) := by decide +kernel
theorem dX4_play_18 : decode cX4_play 18 = .ok (.if_icmp .ge 42, 3) := by decide +kernel
theorem dX4_play_21 : decode cX4_play 21 = .ok (.aload_n 0, 1) := by decide +kernel
theorem dX4_play_22 : decode cX4_play 22 = .ok (.getfield 57, 3) := by decide +kernel
theorem dX4_play_25 : decode cX4_play 25 = .ok (.bipush (-9), 2) := by decide +kernel
theorem dX4_play_27 : decode cX4_play 27 = .ok (.if_icmp .ne 33, 3) := by decide +kernel
theorem dX4_play_30 : decode cX4_play 30 = .ok (.aload_n 0, 1) := by decide +kernel
theorem dX4_play_31 : decode cX4_play 31 = .ok (.aload_n 0, 1) := by decide +kernel
theorem dX4_play_32 : decode cX4_play 32 = .ok (.getfield 18, 3) := by decide +kernel
theorem dX4_play_35 : decode cX4_play 35 = .ok (.iload_n 1, 1) := by decide +kernel
theorem dX4_play_36 : decode cX4_play 36 = .ok (.iaload, 1) := by decide +kernel
theorem dX4_play_37 : decode cX4_play 37 = .ok (.aload_n 0, 1) := by decide +kernel
theorem dX4_play_38 : decode cX4_play 38 = .ok (.getfield 22, 3) := by decide +kernel
theorem dX4_play_41 : decode cX4_play 41 = .ok (.iload_n 1, 1) := by decide +kernel
theorem dX4_play_42 : decode cX4_play 42 = .ok (.iaload, 1) := by decide +kernel
theorem dX4_play_43 : decode cX4_play 43 = .ok (.invokevirtual 63, 3) := by decide +kernel
theorem dX4_play_46 : decode cX4_play 46 = .ok (.ifCond .ne 8, 3) := by decide +kernel
theorem dX4_play_49 : decode cX4_play 49 = .ok (.aload_n 0, 1) := by decide +kernel
theorem dX4_play_50 : decode cX4_play 50 = .ok (.iload_n 1, 1) := by decide +kernel
theorem dX4_play_51 : decode cX4_play 51 = .ok (.putfield 57, 3) := by decide +kernel
theorem dX4_play_54 : decode cX4_play 54 = .ok (.iinc 1 1, 3) := by decide +kernel
theorem dX4_play_57 : decode cX4_play 57 = .ok (.goto (-44), 3) := by decide +kernel
theorem dX4_play_60 : decode cX4_play 60 = .ok (.return_, 1) := by decide +kernel
theorem dX4_canDo_0 : decode cX4_canDo 0 = .ok (.iload_n 2, 1) := by decide +kernel
theorem dX4_canDo_1 : decode cX4_canDo 1 = .ok (.bipush 9, 2) := by decide +kernel
theorem dX4_canDo_3 : decode cX4_canDo 3 = .ok (.if_icmp .ne 12, 3) := by decide +kernel
theorem dX4_canDo_6 : decode cX4_canDo 6 = .ok (.aload_n 0, 1) := by decide +kernel
theorem dX4_canDo_7 : decode cX4_canDo 7 = .ok (.getfield 12, 3) := by decide +kernel
theorem dX4_canDo_10 : decode cX4_canDo 10 = .ok (.iload_n 1, 1) := by decide +kernel
theorem dX4_canDo_11 : decode cX4_canDo 11 = .ok (.invokevirtual 67, 3) := by decide +kernel
theorem dX4_canDo_14 : decode cX4_canDo 14 = .ok (.ireturn, 1) := by decide +kernel
theorem dX4_canDo_15 : decode cX4_canDo 15 = .ok (.iload_n 2, 1) := by decide +kernel
theorem dX4_canDo_16 : decode cX4_canDo 16 = .ok (.bipush 8, 2) := by decide +kernel
theorem dX4_canDo_18 : decode cX4_canDo 18 = .ok (.if_icmp .eq 13, 3) := by decide +kernel
theorem dX4_canDo_21 : decode cX4_canDo 21 = .ok (.aload_n 0, 1) := by decide +kernel
theorem dX4_canDo_22 : decode cX4_canDo 22 = .ok (.getfield 12, 3) := by decide +kernel
theorem dX4_canDo_25 : decode cX4_canDo 25 = .ok (.iload_n 1, 1) := by decide +kernel
theorem dX4_canDo_26 : decode cX4_canDo 26 = .ok (.iload_n 2, 1) := by decide +kernel
theorem dX4_canDo_27 : decode cX4_canDo 27 = .ok (.invokevirtual 70, 3) := by decide +kernel
theorem dX4_canDo_30 : decode cX4_canDo 30 = .ok (.ireturn, 1) := by decide +kernel
theorem dX4_canDo_31 : decode cX4_canDo 31 = .ok (.aload_n 0, 1) := by decide +kernel
theorem dX4_canDo_32 : decode cX4_canDo 32 = .ok (.dup, 1) := by decide +kernel
theorem dX4_canDo_33 : decode cX4_canDo 33 = .ok (.getfield 60, 3) := by decide +kernel
theorem dX4_canDo_36 : decode cX4_canDo 36 = .ok (.aload_n 0, 1) := by decide +kernel
theorem dX4_canDo_37 : decode cX4_canDo 37 = .ok (.getfield 12, 3) := by decide +kernel
theorem dX4_canDo_40 : decode cX4_canDo 40 = .ok (.iload_n 1, 1) := by decide +kernel
theorem dX4_canDo_41 : decode cX4_canDo 41 = .ok (.invokevirtual 73, 3) := by decide +kernel
theorem dX4_canDo_44 : decode cX4_canDo 44 = .ok (.iadd, 1) := by decide +kernel
theorem dX4_canDo_45 : decode cX4_canDo 45 = .ok (.putfield 60, 3) := by decide +kernel
theorem dX4_canDo_48 : decode cX4_canDo 48 = .ok (.iconst 1, 1) := by decide +kernel
theorem dX4_canDo_49 : decode cX4_canDo 49 = .ok (.ireturn, 1) := by decide +kernel
theorem dX4_answerTo_0 : decode cX4_answerTo 0 = .ok (.iload_n 1, 1) := by decide +kernel
theorem dX4_answerTo_1 : decode cX4_answerTo 1 = .ok (.iconst 1, 1) := by decide +kernel
theorem dX4_answerTo_2 : decode cX4_answerTo 2 = .ok (.if_icmp .ne 8, 3) := by decide +kernel
theorem dX4_answerTo_5 : decode cX4_answerTo 5 = .ok (.aload_n 0, 1) := by decide +kernel
theorem dX4_answerTo_6 : decode cX4_answerTo 6 = .ok (.getfield 57, 3) := by decide +kernel
theorem dX4_answerTo_9 : decode cX4_answerTo 9 = .ok (.ireturn, 1) := by decide +kernel
theorem dX4_answerTo_10 : decode cX4_answerTo 10 = .ok (.aload_n 0, 1) := by decide +kernel
theorem dX4_answerTo_11 : decode cX4_answerTo 11 = .ok (.getfield 57, 3) := by decide +kernel
theorem dX4_answerTo_14 : decode cX4_answerTo 14 = .ok (.bipush (-9), 2) := by decide +kernel
theorem dX4_answerTo_16 : decode cX4_answerTo 16 = .ok (.if_icmp .eq 11, 3) := by decide +kernel
theorem dX4_answerTo_19 : decode cX4_answerTo 19 = .ok (.bipush (-100), 2) := by decide +kernel
theorem dX4_answerTo_21 : decode cX4_answerTo 21 = .ok (.aload_n 0, 1) := by decide +kernel
theorem dX4_answerTo_22 : decode cX4_answerTo 22 = .ok (.getfield 57, 3) := by decide +kernel
theorem dX4_answerTo_25 : decode cX4_answerTo 25 = .ok (.isub, 1) := by decide +kernel
theorem dX4_answerTo_26 : decode cX4_answerTo 26 = .ok (.ireturn, 1) := by decide +kernel
theorem dX4_answerTo_27 : decode cX4_answerTo 27 = .ok (.iload_n 1, 1) := by decide +kernel
theorem dX4_answerTo_28 : decode cX4_answerTo 28 = .ok (.ifCond .ne 11, 3) := by decide +kernel
theorem dX4_answerTo_31 : decode cX4_answerTo 31 = .ok (.aload_n 0, 1) := by decide +kernel
theorem dX4_answerTo_32 : decode cX4_answerTo 32 = .ok (.getfield 12, 3) := by decide +kernel
theorem dX4_answerTo_35 : decode cX4_answerTo 35 = .ok (.invokevirtual 77, 3) := by decide +kernel
theorem dX4_answerTo_38 : decode cX4_answerTo 38 = .ok (.ireturn, 1) := by decide +kernel
theorem dX4_answerTo_39 : decode cX4_answerTo 39 = .ok (.iload_n 1, 1) := by decide +kernel
theorem dX4_answerTo_40 : decode cX4_answerTo 40 = .ok (.iconst 2, 1) := by decide +kernel
theorem dX4_answerTo_41 : decode cX4_answerTo 41 = .ok (.if_icmp .ne 8, 3) := by decide +kernel
theorem dX4_answerTo_44 : decode cX4_answerTo 44 = .ok (.aload_n 0, 1) := by decide +kernel
theorem dX4_answerTo_45 : decode cX4_answerTo 45 = .ok (.getfield 60, 3) := by decide +kernel
theorem dX4_answerTo_48 : decode cX4_answerTo 48 = .ok (.ireturn, 1) := by decide +kernel
theorem dX4_answerTo_49 : decode cX4_answerTo 49 = .ok (.iload_n 1, 1) := by decide +kernel
theorem dX4_answerTo_50 : decode cX4_answerTo 50 = .ok (.iconst 3, 1) := by decide +kernel
theorem dX4_answerTo_51 : decode cX4_answerTo 51 = .ok (.if_icmp .ne 11, 3) := by decide +kernel
theorem dX4_answerTo_54 : decode cX4_answerTo 54 = .ok (.aload_n 0, 1) := by decide +kernel
theorem dX4_answerTo_55 : decode cX4_answerTo 55 = .ok (.getfield 12, 3) := by decide +kernel
theorem dX4_answerTo_58 : decode cX4_answerTo 58 = .ok (.invokevirtual 81, 3) := by decide +kernel
theorem dX4_answerTo_61 : decode cX4_answerTo 61 = .ok (.ireturn, 1) := by decide +kernel
theorem dX4_answerTo_62 : decode cX4_answerTo 62 = .ok (.iload_n 1, 1) := by decide +kernel
theorem dX4_answerTo_63 : decode cX4_answerTo 63 = .ok (.bipush 10, 2) := by decide +kernel
theorem dX4_answerTo_65 : decode cX4_answerTo 65 = .ok (.irem, 1) := by decide +kernel
theorem dX4_answerTo_66 : decode cX4_answerTo 66 = .ok (.istore_n 2, 1) := by decide +kernel
theorem dX4_answerTo_67 : decode cX4_answerTo 67 = .ok (.aload_n 0, 1) := by decide +kernel
theorem dX4_answerTo_68 : decode cX4_answerTo 68 = .ok (.getfield 12, 3) := by decide +kernel
theorem dX4_answerTo_71 : decode cX4_answerTo 71 = .ok (.iload_n 2, 1) := by decide +kernel
theorem dX4_answerTo_72 : decode cX4_answerTo 72 = .ok (.invokevirtual 54, 3) := by decide +kernel
theorem dX4_answerTo_75 : decode cX4_answerTo 75 = .ok (.ifCond .ne 6, 3) := by decide +kernel
theorem dX4_answerTo_78 : decode cX4_answerTo 78 = .ok (.bipush (-9), 2) := by decide +kernel
theorem dX4_answerTo_80 : decode cX4_answerTo 80 = .ok (.ireturn, 1) := by decide +kernel
theorem dX4_answerTo_81 : decode cX4_answerTo 81 = .ok (.iload_n 1, 1) := by decide +kernel
theorem dX4_answerTo_82 : decode cX4_answerTo 82 = .ok (.bipush 20, 2) := by decide +kernel
theorem dX4_answerTo_84 : decode cX4_answerTo 84 = .ok (.if_icmp .ge 15, 3) := by decide +kernel
theorem dX4_answerTo_87 : decode cX4_answerTo 87 = .ok (.aload_n 0, 1) := by decide +kernel
theorem dX4_answerTo_88 : decode cX4_answerTo 88 = .ok (.getfield 12, 3) := by decide +kernel
theorem dX4_answerTo_91 : decode cX4_answerTo 91 = .ok (.getfield 84, 3) := by decide +kernel
theorem dX4_answerTo_94 : decode cX4_answerTo 94 = .ok (.iload_n 2, 1) := by decide +kernel
theorem dX4_answerTo_95 : decode cX4_answerTo 95 = .ok (.iaload, 1) := by decide +kernel
theorem dX4_answerTo_96 : decode cX4_answerTo 96 = .ok (.goto 12, 3) := by decide +kernel
theorem dX4_answerTo_99 : decode cX4_answerTo 99 = .ok (.aload_n 0, 1) := by decide +kernel
theorem dX4_answerTo_100 : decode cX4_answerTo 100 = .ok (.getfield 12, 3) := by decide +kernel
theorem dX4_answerTo_103 : decode cX4_answerTo 103 = .ok (.getfield 87, 3) := by decide +kernel
theorem dX4_answerTo_106 : decode cX4_answerTo 106 = .ok (.iload_n 2, 1) := by decide +kernel
theorem dX4_answerTo_107 : decode cX4_answerTo 107 = .ok (.iaload, 1) := by decide +kernel
theorem dX4_answerTo_108 : decode cX4_answerTo 108 = .ok (.ireturn, 1) := by decide +kernel
