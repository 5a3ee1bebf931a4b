theorem dX6_init_0 : decode cX6_init 0 = .ok (.aload_n 0, 1) := by decide +kernel
theorem dX6_init_1 : decode cX6_init 1 = .ok (.invokespecial 3, 3) := by decide +kernel
theorem dX6_init_4 : decode cX6_init 4 = .ok (.aload_n 0, 1) := by decide +kernel
theorem dX6_init_5 : decode cX6_init 5 = .ok (.bipush 60, 2) := by decide +kernel
theorem dX6_init_7 : decode cX6_init 7 = .ok (.newarray .int, 2) := by decide +kernel
theorem dX6_init_9 : decode cX6_init 9 = .ok (.putfield 11, 3) := by decide +kernel
theorem dX6_init_12 : decode cX6_init 12 = .ok (.return_, 1) := by decide +kernel
theorem dX6_load_0 : decode cX6_load 0 = .ok (.aload_n 0, 1) := by decide +kernel
theorem dX6_load_1 : decode cX6_load 1 = .ok (.iconst 0, 1) := by decide +kernel
theorem dX6_load_2 : decode cX6_load 2 = .ok (.iload 4, 2) := by decide +kernel
theorem dX6_load_4 : decode cX6_load 4 = .ok (.bipush 60, 2) := by decide +kernel
theorem dX6_load_6 : decode cX6_load 6 = .ok (.invokestatic 17, 3) := by decide +kernel
theorem dX6_load_9 : decode cX6_load 9 = .ok (.invokestatic 23, 3) := by decide +kernel
theorem dX6_load_12 : decode cX6_load 12 = .ok (.putfield 26, 3) := by decide +kernel
theorem dX6_load_15 : decode cX6_load 15 = .ok (.iconst 0, 1) := by decide +kernel
theorem dX6_load_16 : decode cX6_load 16 = .ok (.istore 5, 2) := by decide +kernel
theorem dX6_load_18 : decode cX6_load 18 = .ok (.iload 5, 2) := by decide +kernel
theorem dX6_load_20 : decode cX6_load 20 = .ok (.aload_n 0, 1) := by decide +kernel
theorem dX6_load_21 : decode cX6_load 21 = .ok (.getfield 26, 3) := by decide +kernel
theorem dX6_load_24 : decode cX6_load 24 = .ok (.if_icmp .ge 25, 3) := by decide +kernel
theorem dX6_load_27 : decode cX6_load 27 = .ok (.aload_n 0, 1) := by decide +kernel
theorem dX6_load_28 : decode cX6_load 28 = .ok (.getfield 11, 3) := by decide +kernel
theorem dX6_load_31 : decode cX6_load 31 = .ok (.iload 5, 2) := by decide +kernel
theorem dX6_load_33 : decode cX6_load 33 = .ok (.aload_n 1, 1) := by decide +kernel
theorem dX6_load_34 : decode cX6_load 34 = .ok (.iload_n 2, 1) := by decide +kernel
theorem dX6_load_35 : decode cX6_load 35 = .ok (.iload_n 3, 1) := by decide +kernel
theorem dX6_load_36 : decode cX6_load 36 = .ok (.iload 5, 2) := by decide +kernel
theorem dX6_load_38 : decode cX6_load 38 = .ok (.iadd, 1) := by decide +kernel
theorem dX6_load_39 : decode cX6_load 39 = .ok (.invokevirtual 30, 3) := by decide +kernel
theorem dX6_load_42 : decode cX6_load 42 = .ok (.iastore, 1) := by decide +kernel
theorem dX6_load_43 : decode cX6_load 43 = .ok (.iinc 5 1, 3) := by decide +kernel
theorem dX6_load_46 : decode cX6_load 46 = .ok (.goto (-28), 3) := by decide +kernel
theorem dX6_load_49 : decode cX6_load 49 = .ok (.return_, 1) := by decide +kernel
theorem dX6_codeAt_0 : decode cX6_codeAt 0 = .ok (.iload_n 1, 1) := by decide +kernel
theorem dX6_codeAt_1 : decode cX6_codeAt 1 = .ok (.ifCond .lt 20, 3) := by decide +kernel
theorem dX6_codeAt_4 : decode cX6_codeAt 4 = .ok (.iload_n 1, 1) := by decide +kernel
theorem dX6_codeAt_5 : decode cX6_codeAt 5 = .ok (.aload_n 0, 1) := by decide +kernel
theorem dX6_codeAt_6 : decode cX6_codeAt 6 = .ok (.getfield 26, 3) := by decide +kernel
theorem dX6_codeAt_9 : decode cX6_codeAt 9 = .ok (.if_icmp .ge 12, 3) := by decide +kernel
theorem dX6_codeAt_12 : decode cX6_codeAt 12 = .ok (.aload_n 0, 1) := by decide +kernel
theorem dX6_codeAt_13 : decode cX6_codeAt 13 = .ok (.getfield 11, 3) := by decide +kernel
theorem dX6_codeAt_16 : decode cX6_codeAt 16 = .ok (.iload_n 1, 1) := by decide +kernel
theorem dX6_codeAt_17 : decode cX6_codeAt 17 = .ok (.iaload, 1) := by decide +kernel
theorem dX6_codeAt_18 : decode cX6_codeAt 18 = .ok (.goto 4, 3) := by decide +kernel
theorem dX6_codeAt_21 : decode cX6_codeAt 21 = .ok (.iconst (-1), 1) := by decide +kernel
theorem dX6_codeAt_22 : decode cX6_codeAt 22 = .ok (.ireturn, 1) := by decide +kernel
theorem dX6_isDigit_0 : decode cX6_isDigit 0 = .ok (.aload_n 0, 1) := by decide +kernel
theorem dX6_isDigit_1 : decode cX6_isDigit 1 = .ok (.iload_n 1, 1) := by decide +kernel
theorem dX6_isDigit_2 : decode cX6_isDigit 2 = .ok (.invokevirtual 33, 3) := by decide +kernel
theorem dX6_isDigit_5 : decode cX6_isDigit 5 = .ok (.iload_n 2, 1) := by decide +kernel
theorem dX6_isDigit_6 : decode cX6_isDigit 6 = .ok (.if_icmp .lt 16, 3) := by decide +kernel
theorem dX6_isDigit_9 : decode cX6_isDigit 9 = .ok (.aload_n 0, 1) := by decide +kernel
theorem dX6_isDigit_10 : decode cX6_isDigit 10 = .ok (.iload_n 1, 1) := by decide +kernel
theorem dX6_isDigit_11 : decode cX6_isDigit 11 = .ok (.invokevirtual 33, 3) := by decide +kernel
theorem dX6_isDigit_14 : decode cX6_isDigit 14 = .ok (.iload_n 3, 1) := by decide +kernel
theorem dX6_isDigit_15 : decode cX6_isDigit 15 = .ok (.if_icmp .gt 7, 3) := by decide +kernel
theorem dX6_isDigit_18 : decode cX6_isDigit 18 = .ok (.iconst 1, 1) := by decide +kernel
theorem dX6_isDigit_19 : decode cX6_isDigit 19 = .ok (.goto 4, 3) := by decide +kernel
theorem dX6_isDigit_22 : decode cX6_isDigit 22 = .ok (.iconst 0, 1) := by decide +kernel
theorem dX6_isDigit_23 : decode cX6_isDigit 23 = .ok (.ireturn, 1) := by decide +kernel
theorem dX6_digitAt_0 : decode cX6_digitAt 0 = .ok (.aload_n 0, 1) := by decide +kernel
theorem dX6_digitAt_1 : decode cX6_digitAt 1 = .ok (.iload_n 1, 1) := by decide +kernel
theorem dX6_digitAt_2 : decode cX6_digitAt 2 = .ok (.invokevirtual 33, 3) := by decide +kernel
theorem dX6_digitAt_5 : decode cX6_digitAt 5 = .ok (.bipush 48, 2) := by decide +kernel
theorem dX6_digitAt_7 : decode cX6_digitAt 7 = .ok (.isub, 1) := by decide +kernel
theorem dX6_digitAt_8 : decode cX6_digitAt 8 = .ok (.ireturn, 1) := by decide +kernel
theorem dX6_kindAt_0 : decode cX6_kindAt 0 = .ok (.aload_n 0, 1) := by decide +kernel
theorem dX6_kindAt_1 : decode cX6_kindAt 1 = .ok (.iload_n 1, 1) := by decide +kernel
theorem dX6_kindAt_2 : decode cX6_kindAt 2 = .ok (.invokevirtual 33, 3) := by decide +kernel
theorem dX6_kindAt_5 : decode cX6_kindAt 5 = .ok (.lookupswitch 41 #[(103, 39), (108, 37), (114, 35)], 35) := by decide +kernel
theorem dX6_kindAt_40 : decode cX6_kindAt 40 = .ok (.iconst 0, 1) := by decide +kernel
theorem dX6_kindAt_41 : decode cX6_kindAt 41 = .ok (.ireturn, 1) := by decide +kernel
theorem dX6_kindAt_42 : decode cX6_kindAt 42 = .ok (.iconst 1, 1) := by decide +kernel
theorem dX6_kindAt_43 : decode cX6_kindAt 43 = .ok (.ireturn, 1) := by decide +kernel
theorem dX6_kindAt_44 : decode cX6_kindAt 44 = .ok (.iconst 2, 1) := by decide +kernel
theorem dX6_kindAt_45 : decode cX6_kindAt 45 = .ok (.ireturn, 1) := by decide +kernel
theorem dX6_kindAt_46 : decode cX6_kindAt 46 = .ok (.bipush (-9), 2) := by decide +kernel
theorem dX6_kindAt_48 : decode cX6_kindAt 48 = .ok (.ireturn, 1) := by decide +kernel
theorem dX6_firstFault_0 : decode cX6_firstFault 0 = .ok (.aload_n 0, 1) := by decide +kernel
theorem dX6_firstFault_1 : decode cX6_firstFault 1 = .ok (.iconst 0, 1) := by decide +kernel
theorem dX6_firstFault_2 : decode cX6_firstFault 2 = .ok (.putfield 37, 3) := by decide +kernel
theorem dX6_firstFault_5 : decode cX6_firstFault 5 = .ok (.aload_n 0, 1) := by decide +kernel
theorem dX6_firstFault_6 : decode cX6_firstFault 6 = .ok (.iconst 0, 1) := by decide +kernel
theorem dX6_firstFault_7 : decode cX6_firstFault 7 = .ok (.putfield 40, 3) := by decide +kernel
theorem dX6_firstFault_10 : decode cX6_firstFault 10 = .ok (.aload_n 0, 1) := by decide +kernel
theorem dX6_firstFault_11 : decode cX6_firstFault 11 = .ok (.iconst 0, 1) := by decide +kernel
theorem dX6_firstFault_12 : decode cX6_firstFault 12 = .ok (.invokevirtual 33, 3) := by decide +kernel
theorem dX6_firstFault_15 : decode cX6_firstFault 15 = .ok (.bipush 100, 2) := by decide +kernel
theorem dX6_firstFault_17 : decode cX6_firstFault 17 = .ok (.if_icmp .eq 5, 3) := by decide +kernel
theorem dX6_firstFault_20 : decode cX6_firstFault 20 = .ok (.iconst 0, 1) := by decide +kernel
theorem dX6_firstFault_21 : decode cX6_firstFault 21 = .ok (.ireturn, 1) := by decide +kernel
theorem dX6_firstFault_22 : decode cX6_firstFault 22 = .ok (.iconst 1, 1) := by decide +kernel
theorem dX6_firstFault_23 : decode cX6_firstFault 23 = .ok (.istore_n 1, 1) := by decide +kernel
theorem dX6_firstFault_24 : decode cX6_firstFault 24 = .ok (.iconst 0, 1) := by decide +kernel
theorem dX6_firstFault_25 : decode cX6_firstFault 25 = .ok (.istore_n 2, 1) := by decide +kernel
theorem dX6_firstFault_26 : decode cX6_firstFault 26 = .ok (.iload_n 2, 1) := by decide +kernel
theorem dX6_firstFault_27 : decode cX6_firstFault 27 = .ok (.iconst 5, 1) := by decide +kernel
theorem dX6_firstFault_28 : decode cX6_firstFault 28 = .ok (.if_icmp .ge 50, 3) := by decide +kernel
theorem dX6_firstFault_31 : decode cX6_firstFault 31 = .ok (.iload_n 2, 1) := by decide +kernel
theorem dX6_firstFault_32 : decode cX6_firstFault 32 = .ok (.ifCond .eq 13, 3) := by decide +kernel
theorem dX6_firstFault_35 : decode cX6_firstFault 35 = .ok (.aload_n 0, 1) := by decide +kernel
theorem dX6_firstFault_36 : decode cX6_firstFault 36 = .ok (.iload_n 1, 1) := by decide +kernel
theorem dX6_firstFault_37 : decode cX6_firstFault 37 = .ok (.invokevirtual 33, 3) := by decide +kernel
theorem dX6_firstFault_40 : decode cX6_firstFault 40 = .ok (.bipush 59, 2) := by decide +kernel
theorem dX6_firstFault_42 : decode cX6_firstFault 42 = .ok (.if_icmp .ne 36, 3) := by decide +kernel
theorem dX6_firstFault_45 : decode cX6_firstFault 45 = .ok (.aload_n 0, 1) := by decide +kernel
theorem dX6_firstFault_46 : decode cX6_firstFault 46 = .ok (.iload_n 1, 1) := by decide +kernel
theorem dX6_firstFault_47 : decode cX6_firstFault 47 = .ok (.invokevirtual 43, 3) := by decide +kernel
theorem dX6_firstFault_50 : decode cX6_firstFault 50 = .ok (.istore_n 3, 1) := by decide +kernel
theorem dX6_firstFault_51 : decode cX6_firstFault 51 = .ok (.iload_n 3, 1) := by decide +kernel
theorem dX6_firstFault_52 : decode cX6_firstFault 52 = .ok (.iload_n 1, 1) := by decide +kernel
theorem dX6_firstFault_53 : decode cX6_firstFault 53 = .ok (.iconst 5, 1) := by decide +kernel
theorem dX6_firstFault_54 : decode cX6_firstFault 54 = .ok (.iadd, 1) := by decide +kernel
theorem dX6_firstFault_55 : decode cX6_firstFault 55 = .ok (.if_icmp .eq 5, 3) := by decide +kernel
theorem dX6_firstFault_58 : decode cX6_firstFault 58 = .ok (.iload_n 3, 1) := by decide +kernel
theorem dX6_firstFault_59 : decode cX6_firstFault 59 = .ok (.ireturn, 1) := by decide +kernel
theorem dX6_firstFault_60 : decode cX6_firstFault 60 = .ok (.iload_n 3, 1) := by decide +kernel
theorem dX6_firstFault_61 : decode cX6_firstFault 61 = .ok (.istore_n 1, 1) := by decide +kernel
theorem dX6_firstFault_62 : decode cX6_firstFault 62 = .ok (.aload_n 0, 1) := by decide +kernel
theorem dX6_firstFault_63 : decode cX6_firstFault 63 = .ok (.dup, 1) := by decide +kernel
theorem dX6_firstFault_64 : decode cX6_firstFault 64 = .ok (.getfield 37, 3) := by decide +kernel
theorem dX6_firstFault_67 : decode cX6_firstFault 67 = .ok (.iconst 1, 1) := by decide +kernel
theorem dX6_firstFault_68 : decode cX6_firstFault 68 = .ok (.iadd, 1) := by decide +kernel
theorem dX6_firstFault_69 : decode cX6_firstFault 69 = .ok (.putfield 37, 3) := by decide +kernel
theorem dX6_firstFault_72 : decode cX6_firstFault 72 = .ok (.iinc 2 1, 3) := by decide +kernel
theorem dX6_firstFault_75 : decode cX6_firstFault 75 = .ok (.goto (-49), 3) := by decide +kernel
theorem dX6_firstFault_78 : decode cX6_firstFault 78 = .ok (.iconst 0, 1) := by decide +kernel
theorem dX6_firstFault_79 : decode cX6_firstFault 79 = .ok (.istore_n 2, 1) := by decide +kernel
theorem dX6_firstFault_80 : decode cX6_firstFault 80 = .ok (.iload_n 2, 1) := by decide +kernel
theorem dX6_firstFault_81 : decode cX6_firstFault 81 = .ok (.iconst 5, 1) := by decide +kernel
theorem dX6_firstFault_82 : decode cX6_firstFault 82 = .ok (.if_icmp .ge 50, 3) := by decide +kernel
theorem dX6_firstFault_85 : decode cX6_firstFault 85 = .ok (.iload_n 2, 1) := by decide +kernel
theorem dX6_firstFault_86 : decode cX6_firstFault 86 = .ok (.ifCond .eq 13, 3) := by decide +kernel
theorem dX6_firstFault_89 : decode cX6_firstFault 89 = .ok (.aload_n 0, 1) := by decide +kernel
theorem dX6_firstFault_90 : decode cX6_firstFault 90 = .ok (.iload_n 1, 1) := by decide +kernel
theorem dX6_firstFault_91 : decode cX6_firstFault 91 = .ok (.invokevirtual 33, 3) := by decide +kernel
theorem dX6_firstFault_94 : decode cX6_firstFault 94 = .ok (.bipush 44, 2) := by decide +kernel
theorem dX6_firstFault_96 : decode cX6_firstFault 96 = .ok (.if_icmp .ne 36, 3) := by decide +kernel
theorem dX6_firstFault_99 : decode cX6_firstFault 99 = .ok (.aload_n 0, 1) := by decide +kernel
theorem dX6_firstFault_100 : decode cX6_firstFault 100 = .ok (.iload_n 1, 1) := by decide +kernel
theorem dX6_firstFault_101 : decode cX6_firstFault 101 = .ok (.invokevirtual 46, 3) := by decide +kernel
theorem dX6_firstFault_104 : decode cX6_firstFault 104 = .ok (.istore_n 3, 1) := by decide +kernel
theorem dX6_firstFault_105 : decode cX6_firstFault 105 = .ok (.iload_n 3, 1) := by decide +kernel
theorem dX6_firstFault_106 : decode cX6_firstFault 106 = .ok (.iload_n 1, 1) := by decide +kernel
theorem dX6_firstFault_107 : decode cX6_firstFault 107 = .ok (.iconst 4, 1) := by decide +kernel
theorem dX6_firstFault_108 : decode cX6_firstFault 108 = .ok (.iadd, 1) := by decide +kernel
theorem dX6_firstFault_109 : decode cX6_firstFault 109 = .ok (.if_icmp .eq 5, 3) := by decide +kernel
theorem dX6_firstFault_112 : decode cX6_firstFault 112 = .ok (.iload_n 3, 1) := by decide +kernel
theorem dX6_firstFault_113 : decode cX6_firstFault 113 = .ok (.ireturn, 1) := by decide +kernel
theorem dX6_firstFault_114 : decode cX6_firstFault 114 = .ok (.iload_n 3, 1) := by decide +kernel
theorem dX6_firstFault_115 : decode cX6_firstFault 115 = .ok (.istore_n 1, 1) := by decide +kernel
theorem dX6_firstFault_116 : decode cX6_firstFault 116 = .ok (.aload_n 0, 1) := by decide +kernel
theorem dX6_firstFault_117 : decode cX6_firstFault 117 = .ok (.dup, 1) := by decide +kernel
theorem dX6_firstFault_118 : decode cX6_firstFault 118 = .ok (.getfield 40, 3) := by decide +kernel
theorem dX6_firstFault_121 : decode cX6_firstFault 121 = .ok (.iconst 1, 1) := by decide +kernel
theorem dX6_firstFault_122 : decode cX6_firstFault 122 = .ok (.iadd, 1) := by decide +kernel
theorem dX6_firstFault_123 : decode cX6_firstFault 123 = .ok (.putfield 40, 3) := by decide +kernel
theorem dX6_firstFault_126 : decode cX6_firstFault 126 = .ok (.iinc 2 1, 3) := by decide +kernel
theorem dX6_firstFault_129 : decode cX6_firstFault 129 = .ok (.goto (-49), 3) := by decide +kernel
theorem dX6_firstFault_132 : decode cX6_firstFault 132 = .ok (.iload_n 1, 1) := by decide +kernel
theorem dX6_firstFault_133 : decode cX6_firstFault 133 = .ok (.aload_n 0, 1) := by decide +kernel
theorem dX6_firstFault_134 : decode cX6_firstFault 134 = .ok (.getfield 26, 3) := by decide +kernel
theorem dX6_firstFault_137 : decode cX6_firstFault 137 = .ok (.if_icmp .ge 7, 3) := by decide +kernel
theorem dX6_firstFault_140 : decode cX6_firstFault 140 = .ok (.iload_n 1, 1) := by decide +kernel
theorem dX6_firstFault_141 : decode cX6_firstFault 141 = .ok (.goto 5, 3) := by decide +kernel
theorem dX6_firstFault_144 : decode cX6_firstFault 144 = .ok (.bipush (-9), 2) := by decide +kernel
theorem dX6_firstFault_146 : decode cX6_firstFault 146 = .ok (.ireturn, 1) := by decide +kernel
theorem dX6_stopInBarrow_0 : decode cX6_stopInBarrow 0 = .ok (.aload_n 0, 1) := by decide +kernel
theorem dX6_stopInBarrow_1 : decode cX6_stopInBarrow 1 = .ok (.iload_n 1, 1) := by decide +kernel
theorem dX6_stopInBarrow_2 : decode cX6_stopInBarrow 2 = .ok (.invokevirtual 33, 3) := by decide +kernel
theorem dX6_stopInBarrow_5 : decode cX6_stopInBarrow 5 = .ok (.bipush 59, 2) := by decide +kernel
theorem dX6_stopInBarrow_7 : decode cX6_stopInBarrow 7 = .ok (.if_icmp .eq 5, 3) := by decide +kernel
theorem dX6_stopInBarrow_10 : decode cX6_stopInBarrow 10 = .ok (.iload_n 1, 1) := by decide +kernel
theorem dX6_stopInBarrow_11 : decode cX6_stopInBarrow 11 = .ok (.ireturn, 1) := by decide +kernel
theorem dX6_stopInBarrow_12 : decode cX6_stopInBarrow 12 = .ok (.aload_n 0, 1) := by decide +kernel
theorem dX6_stopInBarrow_13 : decode cX6_stopInBarrow 13 = .ok (.iload_n 1, 1) := by decide +kernel
theorem dX6_stopInBarrow_14 : decode cX6_stopInBarrow 14 = .ok (.iconst 1, 1) := by decide +kernel
theorem dX6_stopInBarrow_15 : decode cX6_stopInBarrow 15 = .ok (.iadd, 1) := by decide +kernel
theorem dX6_stopInBarrow_16 : decode cX6_stopInBarrow 16 = .ok (.invokevirtual 49, 3) := by decide +kernel
theorem dX6_stopInBarrow_19 : decode cX6_stopInBarrow 19 = .ok (.bipush (-9), 2) := by decide +kernel
theorem dX6_stopInBarrow_21 : decode cX6_stopInBarrow 21 = .ok (.if_icmp .ne 7, 3) := by decide +kernel
theorem dX6_stopInBarrow_24 : decode cX6_stopInBarrow 24 = .ok (.iload_n 1, 1) := by decide +kernel
theorem dX6_stopInBarrow_25 : decode cX6_stopInBarrow 25 = .ok (.iconst 1, 1) := by decide +kernel
theorem dX6_stopInBarrow_26 : decode cX6_stopInBarrow 26 = .ok (.iadd, 1) := by decide +kernel
theorem dX6_stopInBarrow_27 : decode cX6_stopInBarrow 27 = .ok (.ireturn, 1) := by decide +kernel
theorem dX6_stopInBarrow_28 : decode cX6_stopInBarrow 28 = .ok (.aload_n 0, 1) := by decide +kernel
theorem dX6_stopInBarrow_29 : decode cX6_stopInBarrow 29 = .ok (.iload_n 1, 1) := by decide +kernel
theorem dX6_stopInBarrow_30 : decode cX6_stopInBarrow 30 = .ok (.iconst 2, 1) := by decide +kernel
theorem dX6_stopInBarrow_31 : decode cX6_stopInBarrow 31 = .ok (.iadd, 1) := by decide +kernel
theorem dX6_stopInBarrow_32 : decode cX6_stopInBarrow 32 = .ok (.bipush 49, 2) := by decide +kernel
theorem dX6_stopInBarrow_34 : decode cX6_stopInBarrow 34 = .ok (.bipush 52, 2) := by decide +kernel
theorem dX6_stopInBarrow_36 : decode cX6_stopInBarrow 36 = .ok (.invokevirtual 52, 3) := by decide +kernel
theorem dX6_stopInBarrow_39 : decode cX6_stopInBarrow 39 = .ok (.ifCond .ne 7, 3) := by decide +kernel
theorem dX6_stopInBarrow_42 : decode cX6_stopInBarrow 42 = .ok (.iload_n 1, 1) := by decide +kernel
theorem dX6_stopInBarrow_43 : decode cX6_stopInBarrow 43 = .ok (.iconst 2, 1) := by decide +kernel
theorem dX6_stopInBarrow_44 : decode cX6_stopInBarrow 44 = .ok (.iadd, 1) := by decide +kernel
theorem dX6_stopInBarrow_45 : decode cX6_stopInBarrow 45 = .ok (.ireturn, 1) := by decide +kernel
theorem dX6_stopInBarrow_46 : decode cX6_stopInBarrow 46 = .ok (.aload_n 0, 1) := by decide +kernel
theorem dX6_stopInBarrow_47 : decode cX6_stopInBarrow 47 = .ok (.iload_n 1, 1) := by decide +kernel
theorem dX6_stopInBarrow_48 : decode cX6_stopInBarrow 48 = .ok (.iconst 3, 1) := by decide +kernel
theorem dX6_stopInBarrow_49 : decode cX6_stopInBarrow 49 = .ok (.iadd, 1) := by decide +kernel
theorem dX6_stopInBarrow_50 : decode cX6_stopInBarrow 50 = .ok (.bipush 48, 2) := by decide +kernel
theorem dX6_stopInBarrow_52 : decode cX6_stopInBarrow 52 = .ok (.bipush 57, 2) := by decide +kernel
theorem dX6_stopInBarrow_54 : decode cX6_stopInBarrow 54 = .ok (.invokevirtual 52, 3) := by decide +kernel
theorem dX6_stopInBarrow_57 : decode cX6_stopInBarrow 57 = .ok (.ifCond .ne 7, 3) := by decide +kernel
theorem dX6_stopInBarrow_60 : decode cX6_stopInBarrow 60 = .ok (.iload_n 1, 1) := by decide +kernel
theorem dX6_stopInBarrow_61 : decode cX6_stopInBarrow 61 = .ok (.iconst 3, 1) := by decide +kernel
theorem dX6_stopInBarrow_62 : decode cX6_stopInBarrow 62 = .ok (.iadd, 1) := by decide +kernel
theorem dX6_stopInBarrow_63 : decode cX6_stopInBarrow 63 = .ok (.ireturn, 1) := by decide +kernel
theorem dX6_stopInBarrow_64 : decode cX6_stopInBarrow 64 = .ok (.aload_n 0, 1) := by decide +kernel
theorem dX6_stopInBarrow_65 : decode cX6_stopInBarrow 65 = .ok (.iload_n 1, 1) := by decide +kernel
theorem dX6_stopInBarrow_66 : decode cX6_stopInBarrow 66 = .ok (.iconst 4, 1) := by decide +kernel
theorem dX6_stopInBarrow_67 : decode cX6_stopInBarrow 67 = .ok (.iadd, 1) := by decide +kernel
theorem dX6_stopInBarrow_68 : decode cX6_stopInBarrow 68 = .ok (.bipush 48, 2) := by decide +kernel
theorem dX6_stopInBarrow_70 : decode cX6_stopInBarrow 70 = .ok (.bipush 57, 2) := by decide +kernel
theorem dX6_stopInBarrow_72 : decode cX6_stopInBarrow 72 = .ok (.invokevirtual 52, 3) := by decide +kernel
theorem dX6_stopInBarrow_75 : decode cX6_stopInBarrow 75 = .ok (.ifCond .ne 7, 3) := by decide +kernel
theorem dX6_stopInBarrow_78 : decode cX6_stopInBarrow 78 = .ok (.iload_n 1, 1) := by decide +kernel
theorem dX6_stopInBarrow_79 : decode cX6_stopInBarrow 79 = .ok (.iconst 4, 1) := by decide +kernel
theorem dX6_stopInBarrow_80 : decode cX6_stopInBarrow 80 = .ok (.iadd, 1) := by decide +kernel
theorem dX6_stopInBarrow_81 : decode cX6_stopInBarrow 81 = .ok (.ireturn, 1) := by decide +kernel
theorem dX6_stopInBarrow_82 : decode cX6_stopInBarrow 82 = .ok (.iload_n 1, 1) := by decide +kernel
theorem dX6_stopInBarrow_83 : decode cX6_stopInBarrow 83 = .ok (.iconst 5, 1) := by decide +kernel
theorem dX6_stopInBarrow_84 : decode cX6_stopInBarrow 84 = .ok (.iadd, 1) := by decide +kernel
theorem dX6_stopInBarrow_85 : decode cX6_stopInBarrow 85 = .ok (.ireturn, 1) := by decide +kernel
theorem dX6_stopInWalker_0 : decode cX6_stopInWalker 0 = .ok (.aload_n 0, 1) := by decide +kernel
theorem dX6_stopInWalker_1 : decode cX6_stopInWalker 1 = .ok (.iload_n 1, 1) := by decide +kernel
theorem dX6_stopInWalker_2 : decode cX6_stopInWalker 2 = .ok (.invokevirtual 33, 3) := by decide +kernel
theorem dX6_stopInWalker_5 : decode cX6_stopInWalker 5 = .ok (.bipush 44, 2) := by decide +kernel
theorem dX6_stopInWalker_7 : decode cX6_stopInWalker 7 = .ok (.if_icmp .eq 5, 3) := by decide +kernel
theorem dX6_stopInWalker_10 : decode cX6_stopInWalker 10 = .ok (.iload_n 1, 1) := by decide +kernel
theorem dX6_stopInWalker_11 : decode cX6_stopInWalker 11 = .ok (.ireturn, 1) := by decide +kernel
theorem dX6_stopInWalker_12 : decode cX6_stopInWalker 12 = .ok (.aload_n 0, 1) := by decide +kernel
theorem dX6_stopInWalker_13 : decode cX6_stopInWalker 13 = .ok (.iload_n 1, 1) := by decide +kernel
theorem dX6_stopInWalker_14 : decode cX6_stopInWalker 14 = .ok (.iconst 1, 1) := by decide +kernel
theorem dX6_stopInWalker_15 : decode cX6_stopInWalker 15 = .ok (.iadd, 1) := by decide +kernel
theorem dX6_stopInWalker_16 : decode cX6_stopInWalker 16 = .ok (.bipush 48, 2) := by decide +kernel
theorem dX6_stopInWalker_18 : decode cX6_stopInWalker 18 = .ok (.bipush 57, 2) := by decide +kernel
theorem dX6_stopInWalker_20 : decode cX6_stopInWalker 20 = .ok (.invokevirtual 52, 3) := by decide +kernel
theorem dX6_stopInWalker_23 : decode cX6_stopInWalker 23 = .ok (.ifCond .ne 7, 3) := by decide +kernel
theorem dX6_stopInWalker_26 : decode cX6_stopInWalker 26 = .ok (.iload_n 1, 1) := by decide +kernel
theorem dX6_stopInWalker_27 : decode cX6_stopInWalker 27 = .ok (.iconst 1, 1) := by decide +kernel
theorem dX6_stopInWalker_28 : decode cX6_stopInWalker 28 = .ok (.iadd, 1) := by decide +kernel
theorem dX6_stopInWalker_29 : decode cX6_stopInWalker 29 = .ok (.ireturn, 1) := by decide +kernel
theorem dX6_stopInWalker_30 : decode cX6_stopInWalker 30 = .ok (.aload_n 0, 1) := by decide +kernel
theorem dX6_stopInWalker_31 : decode cX6_stopInWalker 31 = .ok (.iload_n 1, 1) := by decide +kernel
theorem dX6_stopInWalker_32 : decode cX6_stopInWalker 32 = .ok (.iconst 2, 1) := by decide +kernel
theorem dX6_stopInWalker_33 : decode cX6_stopInWalker 33 = .ok (.iadd, 1) := by decide +kernel
theorem dX6_stopInWalker_34 : decode cX6_stopInWalker 34 = .ok (.bipush 48, 2) := by decide +kernel
theorem dX6_stopInWalker_36 : decode cX6_stopInWalker 36 = .ok (.bipush 57, 2) := by decide +kernel
theorem dX6_stopInWalker_38 : decode cX6_stopInWalker 38 = .ok (.invokevirtual 52, 3) := by decide +kernel
theorem dX6_stopInWalker_41 : decode cX6_stopInWalker 41 = .ok (.ifCond .ne 7, 3) := by decide +kernel
theorem dX6_stopInWalker_44 : decode cX6_stopInWalker 44 = .ok (.iload_n 1, 1) := by decide +kernel
theorem dX6_stopInWalker_45 : decode cX6_stopInWalker 45 = .ok (.iconst 2, 1) := by decide +kernel
theorem dX6_stopInWalker_46 : decode cX6_stopInWalker 46 = .ok (.iadd, 1) := by decide +kernel
theorem dX6_stopInWalker_47 : decode cX6_stopInWalker 47 = .ok (.ireturn, 1) := by decide +kernel
theorem dX6_stopInWalker_48 : decode cX6_stopInWalker 48 = .ok (.aload_n 0, 1) := by decide +kernel
theorem dX6_stopInWalker_49 : decode cX6_stopInWalker 49 = .ok (.iload_n 1, 1) := by decide +kernel
theorem dX6_stopInWalker_50 : decode cX6_stopInWalker 50 = .ok (.iconst 3, 1) := by decide +kernel
theorem dX6_stopInWalker_51 : decode cX6_stopInWalker 51 = .ok (.iadd, 1) := by decide +kernel
theorem dX6_stopInWalker_52 : decode cX6_stopInWalker 52 = .ok (.bipush 49, 2) := by decide +kernel
theorem dX6_stopInWalker_54 : decode cX6_stopInWalker 54 = .ok (.bipush 57, 2) := by decide +kernel
theorem dX6_stopInWalker_56 : decode cX6_stopInWalker 56 = .ok (.invokevirtual 52, 3) := by decide +kernel
theorem dX6_stopInWalker_59 : decode cX6_stopInWalker 59 = .ok (.ifCond .ne 7, 3) := by decide +kernel
theorem dX6_stopInWalker_62 : decode cX6_stopInWalker 62 = .ok (.iload_n 1, 1) := by decide +kernel
theorem dX6_stopInWalker_63 : decode cX6_stopInWalker 63 = .ok (.iconst 3, 1) := by decide +kernel
theorem dX6_stopInWalker_64 : decode cX6_stopInWalker 64 = .ok (.iadd, 1) := by decide +kernel
theorem dX6_stopInWalker_65 : decode cX6_stopInWalker 65 = .ok (.ireturn, 1) := by decide +kernel
theorem dX6_stopInWalker_66 : decode cX6_stopInWalker 66 = .ok (.iload_n 1, 1) := by decide +kernel
theorem dX6_stopInWalker_67 : decode cX6_stopInWalker 67 = .ok (.iconst 4, 1) := by decide +kernel
theorem dX6_stopInWalker_68 : decode cX6_stopInWalker 68 = .ok (.iadd, 1) := by decide +kernel
theorem dX6_stopInWalker_69 : decode cX6_stopInWalker 69 = .ok (.ireturn, 1) := by decide +kernel
theorem dX6_makeAnew_0 : decode cX6_makeAnew 0 = .ok (.aload_n 1, 1) := by decide +kernel
theorem dX6_makeAnew_1 : decode cX6_makeAnew 1 = .ok (.aload_n 0, 1) := by decide +kernel
theorem dX6_makeAnew_2 : decode cX6_makeAnew 2 = .ok (.getfield 37, 3) := by decide +kernel
theorem dX6_makeAnew_5 : decode cX6_makeAnew 5 = .ok (.putfield 56, 3) := by decide +kernel
theorem dX6_makeAnew_8 : decode cX6_makeAnew 8 = .ok (.aload_n 1, 1) := by decide +kernel
theorem dX6_makeAnew_9 : decode cX6_makeAnew 9 = .ok (.aload_n 0, 1) := by decide +kernel
theorem dX6_makeAnew_10 : decode cX6_makeAnew 10 = .ok (.getfield 40, 3) := by decide +kernel
theorem dX6_makeAnew_13 : decode cX6_makeAnew 13 = .ok (.putfield 59, 3) := by decide +kernel
theorem dX6_makeAnew_16 : decode cX6_makeAnew 16 = .ok (.aload_n 1, 1) := by decide +kernel
theorem dX6_makeAnew_17 : decode cX6_makeAnew 17 = .ok (.iconst 0, 1) := by decide +kernel
theorem dX6_makeAnew_18 : decode cX6_makeAnew 18 = .ok (.putfield 60, 3) := by decide +kernel
theorem dX6_makeAnew_21 : decode cX6_makeAnew 21 = .ok (.iconst 1, 1) := by decide +kernel
theorem dX6_makeAnew_22 : decode cX6_makeAnew 22 = .ok (.istore_n 2, 1) := by decide +kernel
theorem dX6_makeAnew_23 : decode cX6_makeAnew 23 = .ok (.iconst 0, 1) := by decide +kernel
theorem dX6_makeAnew_24 : decode cX6_makeAnew 24 = .ok (.istore_n 3, 1) := by decide +kernel
theorem dX6_makeAnew_25 : decode cX6_makeAnew 25 = .ok (.iload_n 3, 1) := by decide +kernel
theorem dX6_makeAnew_26 : decode cX6_makeAnew 26 = .ok (.aload_n 0, 1) := by decide +kernel
theorem dX6_makeAnew_27 : decode cX6_makeAnew 27 = .ok (.getfield 37, 3) := by decide +kernel
theorem dX6_makeAnew_30 : decode cX6_makeAnew 30 = .ok (.if_icmp .ge 64, 3) := by decide +kernel
theorem dX6_makeAnew_33 : decode cX6_makeAnew 33 = .ok (.aload_n 1, 1) := by decide +kernel
theorem dX6_makeAnew_34 : decode cX6_makeAnew 34 = .ok (.getfield 63, 3) := by decide +kernel
theorem dX6_makeAnew_37 : decode cX6_makeAnew 37 = .ok (.iload_n 3, 1) := by decide +kernel
theorem dX6_makeAnew_38 : decode cX6_makeAnew 38 = .ok (.aload_n 0, 1) := by decide +kernel
theorem dX6_makeAnew_39 : decode cX6_makeAnew 39 = .ok (.iload_n 2, 1) := by decide +kernel
theorem dX6_makeAnew_40 : decode cX6_makeAnew 40 = .ok (.iconst 1, 1) := by decide +kernel
theorem dX6_makeAnew_41 : decode cX6_makeAnew 41 = .ok (.iadd, 1) := by decide +kernel
theorem dX6_makeAnew_42 : decode cX6_makeAnew 42 = .ok (.invokevirtual 49, 3) := by decide +kernel
theorem dX6_makeAnew_45 : decode cX6_makeAnew 45 = .ok (.iastore, 1) := by decide +kernel
theorem dX6_makeAnew_46 : decode cX6_makeAnew 46 = .ok (.aload_n 1, 1) := by decide +kernel
theorem dX6_makeAnew_47 : decode cX6_makeAnew 47 = .ok (.getfield 66, 3) := by decide +kernel
theorem dX6_makeAnew_50 : decode cX6_makeAnew 50 = .ok (.iload_n 3, 1) := by decide +kernel
theorem dX6_makeAnew_51 : decode cX6_makeAnew 51 = .ok (.aload_n 0, 1) := by decide +kernel
theorem dX6_makeAnew_52 : decode cX6_makeAnew 52 = .ok (.iload_n 2, 1) := by decide +kernel
theorem dX6_makeAnew_53 : decode cX6_makeAnew 53 = .ok (.iconst 2, 1) := by decide +kernel
theorem dX6_makeAnew_54 : decode cX6_makeAnew 54 = .ok (.iadd, 1) := by decide +kernel
theorem dX6_makeAnew_55 : decode cX6_makeAnew 55 = .ok (.invokevirtual 69, 3) := by decide +kernel
theorem dX6_makeAnew_58 : decode cX6_makeAnew 58 = .ok (.iastore, 1) := by decide +kernel
theorem dX6_makeAnew_59 : decode cX6_makeAnew 59 = .ok (.aload_n 1, 1) := by decide +kernel
theorem dX6_makeAnew_60 : decode cX6_makeAnew 60 = .ok (.getfield 72, 3) := by decide +kernel
theorem dX6_makeAnew_63 : decode cX6_makeAnew 63 = .ok (.iload_n 3, 1) := by decide +kernel
theorem dX6_makeAnew_64 : decode cX6_makeAnew 64 = .ok (.aload_n 0, 1) := by decide +kernel
theorem dX6_makeAnew_65 : decode cX6_makeAnew 65 = .ok (.iload_n 2, 1) := by decide +kernel
theorem dX6_makeAnew_66 : decode cX6_makeAnew 66 = .ok (.iconst 3, 1) := by decide +kernel
theorem dX6_makeAnew_67 : decode cX6_makeAnew 67 = .ok (.iadd, 1) := by decide +kernel
theorem dX6_makeAnew_68 : decode cX6_makeAnew 68 = .ok (.invokevirtual 69, 3) := by decide +kernel
theorem dX6_makeAnew_71 : decode cX6_makeAnew 71 = .ok (.iastore, 1) := by decide +kernel
theorem dX6_makeAnew_72 : decode cX6_makeAnew 72 = .ok (.aload_n 1, 1) := by decide +kernel
theorem dX6_makeAnew_73 : decode cX6_makeAnew 73 = .ok (.getfield 75, 3) := by decide +kernel
theorem dX6_makeAnew_76 : decode cX6_makeAnew 76 = .ok (.iload_n 3, 1) := by decide +kernel
theorem dX6_makeAnew_77 : decode cX6_makeAnew 77 = .ok (.aload_n 0, 1) := by decide +kernel
theorem dX6_makeAnew_78 : decode cX6_makeAnew 78 = .ok (.iload_n 2, 1) := by decide +kernel
theorem dX6_makeAnew_79 : decode cX6_makeAnew 79 = .ok (.iconst 4, 1) := by decide +kernel
theorem dX6_makeAnew_80 : decode cX6_makeAnew 80 = .ok (.iadd, 1) := by decide +kernel
theorem dX6_makeAnew_81 : decode cX6_makeAnew 81 = .ok (.invokevirtual 69, 3) := by decide +kernel
theorem dX6_makeAnew_84 : decode cX6_makeAnew 84 = .ok (.iastore, 1) := by decide +kernel
theorem dX6_makeAnew_85 : decode cX6_makeAnew 85 = .ok (.iinc 2 5, 3) := by decide +kernel
theorem dX6_makeAnew_88 : decode cX6_makeAnew 88 = .ok (.iinc 3 1, 3) := by decide +kernel
theorem dX6_makeAnew_91 : decode cX6_makeAnew 91 = .ok (.goto (-66), 3) := by decide +kernel
theorem dX6_makeAnew_94 : decode cX6_makeAnew 94 = .ok (.iconst 0, 1) := by decide +kernel
theorem dX6_makeAnew_95 : decode cX6_makeAnew 95 = .ok (.istore_n 3, 1) := by decide +kernel
theorem dX6_makeAnew_96 : decode cX6_makeAnew 96 = .ok (.iload_n 3, 1) := by decide +kernel
theorem dX6_makeAnew_97 : decode cX6_makeAnew 97 = .ok (.aload_n 0, 1) := by decide +kernel
theorem dX6_makeAnew_98 : decode cX6_makeAnew 98 = .ok (.getfield 40, 3) := by decide +kernel
theorem dX6_makeAnew_101 : decode cX6_makeAnew 101 = .ok (.if_icmp .ge 66, 3) := by decide +kernel
theorem dX6_makeAnew_104 : decode cX6_makeAnew 104 = .ok (.aload_n 1, 1) := by decide +kernel
theorem dX6_makeAnew_105 : decode cX6_makeAnew 105 = .ok (.getfield 78, 3) := by decide +kernel
theorem dX6_makeAnew_108 : decode cX6_makeAnew 108 = .ok (.iload_n 3, 1) := by decide +kernel
theorem dX6_makeAnew_109 : decode cX6_makeAnew 109 = .ok (.aload_n 0, 1) := by decide +kernel
theorem dX6_makeAnew_110 : decode cX6_makeAnew 110 = .ok (.iload_n 2, 1) := by decide +kernel
theorem dX6_makeAnew_111 : decode cX6_makeAnew 111 = .ok (.iconst 1, 1) := by decide +kernel
theorem dX6_makeAnew_112 : decode cX6_makeAnew 112 = .ok (.iadd, 1) := by decide +kernel
theorem dX6_makeAnew_113 : decode cX6_makeAnew 113 = .ok (.invokevirtual 69, 3) := by decide +kernel
theorem dX6_makeAnew_116 : decode cX6_makeAnew 116 = .ok (.iastore, 1) := by decide +kernel
theorem dX6_makeAnew_117 : decode cX6_makeAnew 117 = .ok (.aload_n 1, 1) := by decide +kernel
theorem dX6_makeAnew_118 : decode cX6_makeAnew 118 = .ok (.getfield 81, 3) := by decide +kernel
theorem dX6_makeAnew_121 : decode cX6_makeAnew 121 = .ok (.iload_n 3, 1) := by decide +kernel
theorem dX6_makeAnew_122 : decode cX6_makeAnew 122 = .ok (.aload_n 0, 1) := by decide +kernel
theorem dX6_makeAnew_123 : decode cX6_makeAnew 123 = .ok (.iload_n 2, 1) := by decide +kernel
theorem dX6_makeAnew_124 : decode cX6_makeAnew 124 = .ok (.iconst 2, 1) := by decide +kernel
theorem dX6_makeAnew_125 : decode cX6_makeAnew 125 = .ok (.iadd, 1) := by decide +kernel
theorem dX6_makeAnew_126 : decode cX6_makeAnew 126 = .ok (.invokevirtual 69, 3) := by decide +kernel
theorem dX6_makeAnew_129 : decode cX6_makeAnew 129 = .ok (.iastore, 1) := by decide +kernel
theorem dX6_makeAnew_130 : decode cX6_makeAnew 130 = .ok (.aload_n 1, 1) := by decide +kernel
theorem dX6_makeAnew_131 : decode cX6_makeAnew 131 = .ok (.getfield 84, 3) := by decide +kernel
theorem dX6_makeAnew_134 : decode cX6_makeAnew 134 = .ok (.iload_n 3, 1) := by decide +kernel
theorem dX6_makeAnew_135 : decode cX6_makeAnew 135 = .ok (.aload_n 0, 1) := by decide +kernel
theorem dX6_makeAnew_136 : decode cX6_makeAnew 136 = .ok (.iload_n 2, 1) := by decide +kernel
theorem dX6_makeAnew_137 : decode cX6_makeAnew 137 = .ok (.iconst 3, 1) := by decide +kernel
theorem dX6_makeAnew_138 : decode cX6_makeAnew 138 = .ok (.iadd, 1) := by decide +kernel
theorem dX6_makeAnew_139 : decode cX6_makeAnew 139 = .ok (.invokevirtual 69, 3) := by decide +kernel
theorem dX6_makeAnew_142 : decode cX6_makeAnew 142 = .ok (.iastore, 1) := by decide +kernel
theorem dX6_makeAnew_143 : decode cX6_makeAnew 143 = .ok (.aload_n 1, 1) := by decide +kernel
theorem dX6_makeAnew_144 : decode cX6_makeAnew 144 = .ok (.getfield 87, 3) := by decide +kernel
theorem dX6_makeAnew_147 : decode cX6_makeAnew 147 = .ok (.iload_n 3, 1) := by decide +kernel
theorem dX6_makeAnew_148 : decode cX6_makeAnew 148 = .ok (.bipush (-9), 2) := by decide +kernel
theorem dX6_makeAnew_150 : decode cX6_makeAnew 150 = .ok (.iastore, 1) := by decide +kernel
theorem dX6_makeAnew_151 : decode cX6_makeAnew 151 = .ok (.aload_n 1, 1) := by decide +kernel
theorem dX6_makeAnew_152 : decode cX6_makeAnew 152 = .ok (.getfield 90, 3) := by decide +kernel
theorem dX6_makeAnew_155 : decode cX6_makeAnew 155 = .ok (.iload_n 3, 1) := by decide +kernel
theorem dX6_makeAnew_156 : decode cX6_makeAnew 156 = .ok (.iconst 0, 1) := by decide +kernel
theorem dX6_makeAnew_157 : decode cX6_makeAnew 157 = .ok (.iastore, 1) := by decide +kernel
theorem dX6_makeAnew_158 : decode cX6_makeAnew 158 = .ok (.iinc 2 4, 3) := by decide +kernel
theorem dX6_makeAnew_161 : decode cX6_makeAnew 161 = .ok (.iinc 3 1, 3) := by decide +kernel
theorem dX6_makeAnew_164 : decode cX6_makeAnew 164 = .ok (.goto (-68), 3) := by decide +kernel
theorem dX6_makeAnew_167 : decode cX6_makeAnew 167 = .ok (.return_, 1) := by decide +kernel
