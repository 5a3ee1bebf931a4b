theorem dX7_init_0 : decode cX7_init 0 = .ok (.aload_n 0, 1) := by decide +kernel
theorem dX7_init_1 : decode cX7_init 1 = .ok (.invokespecial 3, 3) := by decide +kernel
theorem dX7_init_4 : decode cX7_init 4 = .ok (.aload_n 0, 1) := by decide +kernel
theorem dX7_init_5 : decode cX7_init 5 = .ok (.new 9, 3) := by decide +kernel
theorem dX7_init_8 : decode cX7_init 8 = .ok (.dup, 1) := by decide +kernel
theorem dX7_init_9 : decode cX7_init 9 = .ok (.invokespecial 11, 3) := by decide +kernel
theorem dX7_init_12 : decode cX7_init 12 = .ok (.putfield 12, 3) := by decide +kernel
theorem dX7_init_15 : decode cX7_init 15 = .ok (.aload_n 0, 1) := by decide +kernel
theorem dX7_init_16 : decode cX7_init 16 = .ok (.new 18, 3) := by decide +kernel
theorem dX7_init_19 : decode cX7_init 19 = .ok (.dup, 1) := by decide +kernel
theorem dX7_init_20 : decode cX7_init 20 = .ok (.invokespecial 20, 3) := by decide +kernel
theorem dX7_init_23 : decode cX7_init 23 = .ok (.putfield 21, 3) := by decide +kernel
theorem dX7_init_26 : decode cX7_init 26 = .ok (.aload_n 0, 1) := by decide +kernel
theorem dX7_init_27 : decode cX7_init 27 = .ok (.new 25, 3) := by decide +kernel
theorem dX7_init_30 : decode cX7_init 30 = .ok (.dup, 1) := by decide +kernel
theorem dX7_init_31 : decode cX7_init 31 = .ok (.invokespecial 27, 3) := by decide +kernel
theorem dX7_init_34 : decode cX7_init 34 = .ok (.putfield 28, 3) := by decide +kernel
theorem dX7_init_37 : decode cX7_init 37 = .ok (.aload_n 0, 1) := by decide +kernel
theorem dX7_init_38 : decode cX7_init 38 = .ok (.new 32, 3) := by decide +kernel
theorem dX7_init_41 : decode cX7_init 41 = .ok (.dup, 1) := by decide +kernel
theorem dX7_init_42 : decode cX7_init 42 = .ok (.invokespecial 34, 3) := by decide +kernel
theorem dX7_init_45 : decode cX7_init 45 = .ok (.putfield 35, 3) := by decide +kernel
theorem dX7_init_48 : decode cX7_init 48 = .ok (.aload_n 0, 1) := by decide +kernel
theorem dX7_init_49 : decode cX7_init 49 = .ok (.new 39, 3) := by decide +kernel
theorem dX7_init_52 : decode cX7_init 52 = .ok (.dup, 1) := by decide +kernel
theorem dX7_init_53 : decode cX7_init 53 = .ok (.invokespecial 41, 3) := by decide +kernel
theorem dX7_init_56 : decode cX7_init 56 = .ok (.putfield 42, 3) := by decide +kernel
theorem dX7_init_59 : decode cX7_init 59 = .ok (.aload_n 0, 1) := by decide +kernel
theorem dX7_init_60 : decode cX7_init 60 = .ok (.new 46, 3) := by decide +kernel
theorem dX7_init_63 : decode cX7_init 63 = .ok (.dup, 1) := by decide +kernel
theorem dX7_init_64 : decode cX7_init 64 = .ok (.invokespecial 48, 3) := by decide +kernel
theorem dX7_init_67 : decode cX7_init 67 = .ok (.putfield 49, 3) := by decide +kernel
theorem dX7_init_70 : decode cX7_init 70 = .ok (.aload_n 0, 1) := by decide +kernel
theorem dX7_init_71 : decode cX7_init 71 = .ok (.new 53, 3) := by decide +kernel
theorem dX7_init_74 : decode cX7_init 74 = .ok (.dup, 1) := by decide +kernel
theorem dX7_init_75 : decode cX7_init 75 = .ok (.invokespecial 55, 3) := by decide +kernel
theorem dX7_init_78 : decode cX7_init 78 = .ok (.putfield 56, 3) := by decide +kernel
theorem dX7_init_81 : decode cX7_init 81 = .ok (.aload_n 0, 1) := by decide +kernel
theorem dX7_init_82 : decode cX7_init 82 = .ok (.iconst 0, 1) := by decide +kernel
theorem dX7_init_83 : decode cX7_init 83 = .ok (.putfield 60, 3) := by decide +kernel
theorem dX7_init_86 : decode cX7_init 86 = .ok (.aload_n 0, 1) := by decide +kernel
theorem dX7_init_87 : decode cX7_init 87 = .ok (.iconst 0, 1) := by decide +kernel
theorem dX7_init_88 : decode cX7_init 88 = .ok (.putfield 64, 3) := by decide +kernel
theorem dX7_init_91 : decode cX7_init 91 = .ok (.return_, 1) := by decide +kernel
theorem dX7_down_0 : decode cX7_down 0 = .ok (.aload_n 0, 1) := by decide +kernel
theorem dX7_down_1 : decode cX7_down 1 = .ok (.iconst 0, 1) := by decide +kernel
theorem dX7_down_2 : decode cX7_down 2 = .ok (.putfield 64, 3) := by decide +kernel
theorem dX7_down_5 : decode cX7_down 5 = .ok (.iload_n 1, 1) := by decide +kernel
theorem dX7_down_6 : decode cX7_down 6 = .ok (.invokestatic 67, 3) := by decide +kernel
theorem dX7_down_9 : decode cX7_down 9 = .ok (.ifCond .ne 5, 3) := by decide +kernel
theorem dX7_down_12 : decode cX7_down 12 = .ok (.iconst (-1), 1) := by decide +kernel
theorem dX7_down_13 : decode cX7_down 13 = .ok (.ireturn, 1) := by decide +kernel
theorem dX7_down_14 : decode cX7_down 14 = .ok (.iload_n 2, 1) := by decide +kernel
theorem dX7_down_15 : decode cX7_down 15 = .ok (.invokestatic 71, 3) := by decide +kernel
theorem dX7_down_18 : decode cX7_down 18 = .ok (.ifCond .ne 6, 3) := by decide +kernel
theorem dX7_down_21 : decode cX7_down 21 = .ok (.bipush (-2), 2) := by decide +kernel
theorem dX7_down_23 : decode cX7_down 23 = .ok (.ireturn, 1) := by decide +kernel
theorem dX7_down_24 : decode cX7_down 24 = .ok (.aload_n 0, 1) := by decide +kernel
theorem dX7_down_25 : decode cX7_down 25 = .ok (.aload_n 0, 1) := by decide +kernel
theorem dX7_down_26 : decode cX7_down 26 = .ok (.getfield 12, 3) := by decide +kernel
theorem dX7_down_29 : decode cX7_down 29 = .ok (.iload_n 1, 1) := by decide +kernel
theorem dX7_down_30 : decode cX7_down 30 = .ok (.iload_n 2, 1) := by decide +kernel
theorem dX7_down_31 : decode cX7_down 31 = .ok (.invokevirtual 74, 3) := by decide +kernel
theorem dX7_down_34 : decode cX7_down 34 = .ok (.putfield 64, 3) := by decide +kernel
theorem dX7_down_37 : decode cX7_down 37 = .ok (.aload_n 0, 1) := by decide +kernel
theorem dX7_down_38 : decode cX7_down 38 = .ok (.getfield 64, 3) := by decide +kernel
theorem dX7_down_41 : decode cX7_down 41 = .ok (.ifCond .ne 13, 3) := by decide +kernel
theorem dX7_down_44 : decode cX7_down 44 = .ok (.iload 4, 2) := by decide +kernel
theorem dX7_down_46 : decode cX7_down 46 = .ok (.ifCond .ge 8, 3) := by decide +kernel
theorem dX7_down_49 : decode cX7_down 49 = .ok (.aload_n 0, 1) := by decide +kernel
theorem dX7_down_50 : decode cX7_down 50 = .ok (.iconst 4, 1) := by decide +kernel
theorem dX7_down_51 : decode cX7_down 51 = .ok (.putfield 64, 3) := by decide +kernel
theorem dX7_down_54 : decode cX7_down 54 = .ok (.aload_n 0, 1) := by decide +kernel
theorem dX7_down_55 : decode cX7_down 55 = .ok (.getfield 64, 3) := by decide +kernel
theorem dX7_down_58 : decode cX7_down 58 = .ok (.ifCond .ne 18, 3) := by decide +kernel
theorem dX7_down_61 : decode cX7_down 61 = .ok (.aload_n 0, 1) := by decide +kernel
theorem dX7_down_62 : decode cX7_down 62 = .ok (.aload_n 0, 1) := by decide +kernel
theorem dX7_down_63 : decode cX7_down 63 = .ok (.getfield 12, 3) := by decide +kernel
theorem dX7_down_66 : decode cX7_down 66 = .ok (.iload_n 1, 1) := by decide +kernel
theorem dX7_down_67 : decode cX7_down 67 = .ok (.iload_n 3, 1) := by decide +kernel
theorem dX7_down_68 : decode cX7_down 68 = .ok (.iload 4, 2) := by decide +kernel
theorem dX7_down_70 : decode cX7_down 70 = .ok (.invokevirtual 78, 3) := by decide +kernel
theorem dX7_down_73 : decode cX7_down 73 = .ok (.putfield 64, 3) := by decide +kernel
theorem dX7_down_76 : decode cX7_down 76 = .ok (.aload_n 0, 1) := by decide +kernel
theorem dX7_down_77 : decode cX7_down 77 = .ok (.getfield 64, 3) := by decide +kernel
theorem dX7_down_80 : decode cX7_down 80 = .ok (.ifCond .eq 11, 3) := by decide +kernel
theorem dX7_down_83 : decode cX7_down 83 = .ok (.bipush (-10), 2) := by decide +kernel
theorem dX7_down_85 : decode cX7_down 85 = .ok (.aload_n 0, 1) := by decide +kernel
theorem dX7_down_86 : decode cX7_down 86 = .ok (.getfield 64, 3) := by decide +kernel
theorem dX7_down_89 : decode cX7_down 89 = .ok (.isub, 1) := by decide +kernel
theorem dX7_down_90 : decode cX7_down 90 = .ok (.ireturn, 1) := by decide +kernel
theorem dX7_down_91 : decode cX7_down 91 = .ok (.aload_n 0, 1) := by decide +kernel
theorem dX7_down_92 : decode cX7_down 92 = .ok (.getfield 21, 3) := by decide +kernel
theorem dX7_down_95 : decode cX7_down 95 = .ok (.aload_n 0, 1) := by decide +kernel
theorem dX7_down_96 : decode cX7_down 96 = .ok (.getfield 12, 3) := by decide +kernel
theorem dX7_down_99 : decode cX7_down 99 = .ok (.iload_n 1, 1) := by decide +kernel
theorem dX7_down_100 : decode cX7_down 100 = .ok (.iload_n 3, 1) := by decide +kernel
theorem dX7_down_101 : decode cX7_down 101 = .ok (.iload 4, 2) := by decide +kernel
theorem dX7_down_103 : decode cX7_down 103 = .ok (.invokevirtual 82, 3) := by decide +kernel
theorem dX7_down_106 : decode cX7_down 106 = .ok (.aload_n 0, 1) := by decide +kernel
theorem dX7_down_107 : decode cX7_down 107 = .ok (.getfield 21, 3) := by decide +kernel
theorem dX7_down_110 : decode cX7_down 110 = .ok (.invokevirtual 86, 3) := by decide +kernel
theorem dX7_down_113 : decode cX7_down 113 = .ok (.istore 5, 2) := by decide +kernel
theorem dX7_down_115 : decode cX7_down 115 = .ok (.iload 5, 2) := by decide +kernel
theorem dX7_down_117 : decode cX7_down 117 = .ok (.bipush (-9), 2) := by decide +kernel
theorem dX7_down_119 : decode cX7_down 119 = .ok (.if_icmp .eq 9, 3) := by decide +kernel
theorem dX7_down_122 : decode cX7_down 122 = .ok (.bipush (-100), 2) := by decide +kernel
theorem dX7_down_124 : decode cX7_down 124 = .ok (.iload 5, 2) := by decide +kernel
theorem dX7_down_126 : decode cX7_down 126 = .ok (.isub, 1) := by decide +kernel
theorem dX7_down_127 : decode cX7_down 127 = .ok (.ireturn, 1) := by decide +kernel
theorem dX7_down_128 : decode cX7_down 128 = .ok (.aload_n 0, 1) := by decide +kernel
theorem dX7_down_129 : decode cX7_down 129 = .ok (.getfield 21, 3) := by decide +kernel
theorem dX7_down_132 : decode cX7_down 132 = .ok (.aload_n 0, 1) := by decide +kernel
theorem dX7_down_133 : decode cX7_down 133 = .ok (.getfield 28, 3) := by decide +kernel
theorem dX7_down_136 : decode cX7_down 136 = .ok (.invokevirtual 90, 3) := by decide +kernel
theorem dX7_down_139 : decode cX7_down 139 = .ok (.aload_n 0, 1) := by decide +kernel
theorem dX7_down_140 : decode cX7_down 140 = .ok (.getfield 56, 3) := by decide +kernel
theorem dX7_down_143 : decode cX7_down 143 = .ok (.iconst 0, 1) := by decide +kernel
theorem dX7_down_144 : decode cX7_down 144 = .ok (.putfield 94, 3) := by decide +kernel
theorem dX7_down_147 : decode cX7_down 147 = .ok (.aload_n 0, 1) := by decide +kernel
theorem dX7_down_148 : decode cX7_down 148 = .ok (.getfield 28, 3) := by decide +kernel
theorem dX7_down_151 : decode cX7_down 151 = .ok (.getfield 97, 3) := by decide +kernel
theorem dX7_down_154 : decode cX7_down 154 = .ok (.ireturn, 1) := by decide +kernel
theorem dX7_ofBarrow_0 : decode cX7_ofBarrow 0 = .ok (.aload_n 0, 1) := by decide +kernel
theorem dX7_ofBarrow_1 : decode cX7_ofBarrow 1 = .ok (.getfield 28, 3) := by decide +kernel
theorem dX7_ofBarrow_4 : decode cX7_ofBarrow 4 = .ok (.iload_n 1, 1) := by decide +kernel
theorem dX7_ofBarrow_5 : decode cX7_ofBarrow 5 = .ok (.invokevirtual 100, 3) := by decide +kernel
theorem dX7_ofBarrow_8 : decode cX7_ofBarrow 8 = .ok (.ifCond .ne 5, 3) := by decide +kernel
theorem dX7_ofBarrow_11 : decode cX7_ofBarrow 11 = .ok (.iconst (-1), 1) := by decide +kernel
theorem dX7_ofBarrow_12 : decode cX7_ofBarrow 12 = .ok (.ireturn, 1) := by decide +kernel
theorem dX7_ofBarrow_13 : decode cX7_ofBarrow 13 = .ok (.iload_n 2, 1) := by decide +kernel
theorem dX7_ofBarrow_14 : decode cX7_ofBarrow 14 = .ok (.tableswitch 96 0 5 #[38, 48, 58, 68, 78, 87], 38) := by decide +kernel
theorem dX7_ofBarrow_52 : decode cX7_ofBarrow 52 = .ok (.aload_n 0, 1) := by decide +kernel
theorem dX7_ofBarrow_53 : decode cX7_ofBarrow 53 = .ok (.getfield 28, 3) := by decide +kernel
theorem dX7_ofBarrow_56 : decode cX7_ofBarrow 56 = .ok (.getfield 103, 3) := by decide +kernel
theorem dX7_ofBarrow_59 : decode cX7_ofBarrow 59 = .ok (.iload_n 1, 1) := by decide +kernel
theorem dX7_ofBarrow_60 : decode cX7_ofBarrow 60 = .ok (.iaload, 1) := by decide +kernel
theorem dX7_ofBarrow_61 : decode cX7_ofBarrow 61 = .ok (.ireturn, 1) := by decide +kernel
theorem dX7_ofBarrow_62 : decode cX7_ofBarrow 62 = .ok (.aload_n 0, 1) := by decide +kernel
theorem dX7_ofBarrow_63 : decode cX7_ofBarrow 63 = .ok (.getfield 28, 3) := by decide +kernel
theorem dX7_ofBarrow_66 : decode cX7_ofBarrow 66 = .ok (.getfield 107, 3) := by decide +kernel
theorem dX7_ofBarrow_69 : decode cX7_ofBarrow 69 = .ok (.iload_n 1, 1) := by decide +kernel
theorem dX7_ofBarrow_70 : decode cX7_ofBarrow 70 = .ok (.iaload, 1) := by decide +kernel
theorem dX7_ofBarrow_71 : decode cX7_ofBarrow 71 = .ok (.ireturn, 1) := by decide +kernel
theorem dX7_ofBarrow_72 : decode cX7_ofBarrow 72 = .ok (.aload_n 0, 1) := by decide +kernel
theorem dX7_ofBarrow_73 : decode cX7_ofBarrow 73 = .ok (.getfield 28, 3) := by decide +kernel
theorem dX7_ofBarrow_76 : decode cX7_ofBarrow 76 = .ok (.getfield 110, 3) := by decide +kernel
theorem dX7_ofBarrow_79 : decode cX7_ofBarrow 79 = .ok (.iload_n 1, 1) := by decide +kernel
theorem dX7_ofBarrow_80 : decode cX7_ofBarrow 80 = .ok (.iaload, 1) := by decide +kernel
theorem dX7_ofBarrow_81 : decode cX7_ofBarrow 81 = .ok (.ireturn, 1) := by decide +kernel
theorem dX7_ofBarrow_82 : decode cX7_ofBarrow 82 = .ok (.aload_n 0, 1) := by decide +kernel
theorem dX7_ofBarrow_83 : decode cX7_ofBarrow 83 = .ok (.getfield 28, 3) := by decide +kernel
theorem dX7_ofBarrow_86 : decode cX7_ofBarrow 86 = .ok (.getfield 113, 3) := by decide +kernel
theorem dX7_ofBarrow_89 : decode cX7_ofBarrow 89 = .ok (.iload_n 1, 1) := by decide +kernel
theorem dX7_ofBarrow_90 : decode cX7_ofBarrow 90 = .ok (.iaload, 1) := by decide +kernel
theorem dX7_ofBarrow_91 : decode cX7_ofBarrow 91 = .ok (.ireturn, 1) := by decide +kernel
theorem dX7_ofBarrow_92 : decode cX7_ofBarrow 92 = .ok (.aload_n 0, 1) := by decide +kernel
theorem dX7_ofBarrow_93 : decode cX7_ofBarrow 93 = .ok (.getfield 28, 3) := by decide +kernel
theorem dX7_ofBarrow_96 : decode cX7_ofBarrow 96 = .ok (.iload_n 1, 1) := by decide +kernel
theorem dX7_ofBarrow_97 : decode cX7_ofBarrow 97 = .ok (.invokevirtual 116, 3) := by decide +kernel
theorem dX7_ofBarrow_100 : decode cX7_ofBarrow 100 = .ok (.ireturn, 1) := by decide +kernel
theorem dX7_ofBarrow_101 : decode cX7_ofBarrow 101 = .ok (.aload_n 0, 1) := by decide +kernel
theorem dX7_ofBarrow_102 : decode cX7_ofBarrow 102 = .ok (.getfield 28, 3) := by decide +kernel
theorem dX7_ofBarrow_105 : decode cX7_ofBarrow 105 = .ok (.iload_n 1, 1) := by decide +kernel
theorem dX7_ofBarrow_106 : decode cX7_ofBarrow 106 = .ok (.invokevirtual 120, 3) := by decide +kernel
theorem dX7_ofBarrow_109 : decode cX7_ofBarrow 109 = .ok (.ireturn, 1) := by decide +kernel
theorem dX7_ofBarrow_110 : decode cX7_ofBarrow 110 = .ok (.bipush (-2), 2) := by decide +kernel
theorem dX7_ofBarrow_112 : decode cX7_ofBarrow 112 = .ok (.ireturn, 1) := by decide +kernel
theorem dX7_ofWalker_0 : decode cX7_ofWalker 0 = .ok (.aload_n 0, 1) := by decide +kernel
theorem dX7_ofWalker_1 : decode cX7_ofWalker 1 = .ok (.getfield 28, 3) := by decide +kernel
theorem dX7_ofWalker_4 : decode cX7_ofWalker 4 = .ok (.iload_n 1, 1) := by decide +kernel
theorem dX7_ofWalker_5 : decode cX7_ofWalker 5 = .ok (.invokevirtual 123, 3) := by decide +kernel
theorem dX7_ofWalker_8 : decode cX7_ofWalker 8 = .ok (.ifCond .ne 5, 3) := by decide +kernel
theorem dX7_ofWalker_11 : decode cX7_ofWalker 11 = .ok (.iconst (-1), 1) := by decide +kernel
theorem dX7_ofWalker_12 : decode cX7_ofWalker 12 = .ok (.ireturn, 1) := by decide +kernel
theorem dX7_ofWalker_13 : decode cX7_ofWalker 13 = .ok (.iload_n 2, 1) := by decide +kernel
theorem dX7_ofWalker_14 : decode cX7_ofWalker 14 = .ok (.tableswitch 97 0 5 #[38, 48, 58, 68, 78, 88], 38) := by decide +kernel
theorem dX7_ofWalker_52 : decode cX7_ofWalker 52 = .ok (.aload_n 0, 1) := by decide +kernel
theorem dX7_ofWalker_53 : decode cX7_ofWalker 53 = .ok (.getfield 28, 3) := by decide +kernel
theorem dX7_ofWalker_56 : decode cX7_ofWalker 56 = .ok (.getfield 126, 3) := by decide +kernel
theorem dX7_ofWalker_59 : decode cX7_ofWalker 59 = .ok (.iload_n 1, 1) := by decide +kernel
theorem dX7_ofWalker_60 : decode cX7_ofWalker 60 = .ok (.iaload, 1) := by decide +kernel
theorem dX7_ofWalker_61 : decode cX7_ofWalker 61 = .ok (.ireturn, 1) := by decide +kernel
theorem dX7_ofWalker_62 : decode cX7_ofWalker 62 = .ok (.aload_n 0, 1) := by decide +kernel
theorem dX7_ofWalker_63 : decode cX7_ofWalker 63 = .ok (.getfield 28, 3) := by decide +kernel
theorem dX7_ofWalker_66 : decode cX7_ofWalker 66 = .ok (.getfield 129, 3) := by decide +kernel
theorem dX7_ofWalker_69 : decode cX7_ofWalker 69 = .ok (.iload_n 1, 1) := by decide +kernel
theorem dX7_ofWalker_70 : decode cX7_ofWalker 70 = .ok (.iaload, 1) := by decide +kernel
theorem dX7_ofWalker_71 : decode cX7_ofWalker 71 = .ok (.ireturn, 1) := by decide +kernel
theorem dX7_ofWalker_72 : decode cX7_ofWalker 72 = .ok (.aload_n 0, 1) := by decide +kernel
theorem dX7_ofWalker_73 : decode cX7_ofWalker 73 = .ok (.getfield 28, 3) := by decide +kernel
theorem dX7_ofWalker_76 : decode cX7_ofWalker 76 = .ok (.getfield 132, 3) := by decide +kernel
theorem dX7_ofWalker_79 : decode cX7_ofWalker 79 = .ok (.iload_n 1, 1) := by decide +kernel
theorem dX7_ofWalker_80 : decode cX7_ofWalker 80 = .ok (.iaload, 1) := by decide +kernel
theorem dX7_ofWalker_81 : decode cX7_ofWalker 81 = .ok (.ireturn, 1) := by decide +kernel
theorem dX7_ofWalker_82 : decode cX7_ofWalker 82 = .ok (.aload_n 0, 1) := by decide +kernel
theorem dX7_ofWalker_83 : decode cX7_ofWalker 83 = .ok (.getfield 28, 3) := by decide +kernel
theorem dX7_ofWalker_86 : decode cX7_ofWalker 86 = .ok (.getfield 135, 3) := by decide +kernel
theorem dX7_ofWalker_89 : decode cX7_ofWalker 89 = .ok (.iload_n 1, 1) := by decide +kernel
theorem dX7_ofWalker_90 : decode cX7_ofWalker 90 = .ok (.iaload, 1) := by decide +kernel
theorem dX7_ofWalker_91 : decode cX7_ofWalker 91 = .ok (.ireturn, 1) := by decide +kernel
theorem dX7_ofWalker_92 : decode cX7_ofWalker 92 = .ok (.aload_n 0, 1) := by decide +kernel
theorem dX7_ofWalker_93 : decode cX7_ofWalker 93 = .ok (.getfield 28, 3) := by decide +kernel
theorem dX7_ofWalker_96 : decode cX7_ofWalker 96 = .ok (.getfield 138, 3) := by decide +kernel
theorem dX7_ofWalker_99 : decode cX7_ofWalker 99 = .ok (.iload_n 1, 1) := by decide +kernel
theorem dX7_ofWalker_100 : decode cX7_ofWalker 100 = .ok (.iaload, 1) := by decide +kernel
theorem dX7_ofWalker_101 : decode cX7_ofWalker 101 = .ok (.ireturn, 1) := by decide +kernel
theorem dX7_ofWalker_102 : decode cX7_ofWalker 102 = .ok (.aload_n 0, 1) := by decide +kernel
theorem dX7_ofWalker_103 : decode cX7_ofWalker 103 = .ok (.getfield 28, 3) := by decide +kernel
theorem dX7_ofWalker_106 : decode cX7_ofWalker 106 = .ok (.iload_n 1, 1) := by decide +kernel
theorem dX7_ofWalker_107 : decode cX7_ofWalker 107 = .ok (.invokevirtual 141, 3) := by decide +kernel
theorem dX7_ofWalker_110 : decode cX7_ofWalker 110 = .ok (.ireturn, 1) := by decide +kernel
theorem dX7_ofWalker_111 : decode cX7_ofWalker 111 = .ok (.bipush (-2), 2) := by decide +kernel
theorem dX7_ofWalker_113 : decode cX7_ofWalker 113 = .ok (.ireturn, 1) := by decide +kernel
theorem dX7_charge_0 : decode cX7_charge 0 = .ok (.aload_n 0, 1) := by decide +kernel
theorem dX7_charge_1 : decode cX7_charge 1 = .ok (.getfield 28, 3) := by decide +kernel
theorem dX7_charge_4 : decode cX7_charge 4 = .ok (.iload_n 1, 1) := by decide +kernel
theorem dX7_charge_5 : decode cX7_charge 5 = .ok (.invokevirtual 100, 3) := by decide +kernel
theorem dX7_charge_8 : decode cX7_charge 8 = .ok (.ifCond .ne 5, 3) := by decide +kernel
theorem dX7_charge_11 : decode cX7_charge 11 = .ok (.iconst (-1), 1) := by decide +kernel
theorem dX7_charge_12 : decode cX7_charge 12 = .ok (.ireturn, 1) := by decide +kernel
theorem dX7_charge_13 : decode cX7_charge 13 = .ok (.iload_n 2, 1) := by decide +kernel
theorem dX7_charge_14 : decode cX7_charge 14 = .ok (.ifCond .lt 9, 3) := by decide +kernel
theorem dX7_charge_17 : decode cX7_charge 17 = .ok (.iload_n 2, 1) := by decide +kernel
theorem dX7_charge_18 : decode cX7_charge 18 = .ok (.bipush 9, 2) := by decide +kernel
theorem dX7_charge_20 : decode cX7_charge 20 = .ok (.if_icmp .le 6, 3) := by decide +kernel
theorem dX7_charge_23 : decode cX7_charge 23 = .ok (.bipush (-2), 2) := by decide +kernel
theorem dX7_charge_25 : decode cX7_charge 25 = .ok (.ireturn, 1) := by decide +kernel
theorem dX7_charge_26 : decode cX7_charge 26 = .ok (.aload_n 0, 1) := by decide +kernel
theorem dX7_charge_27 : decode cX7_charge 27 = .ok (.getfield 28, 3) := by decide +kernel
theorem dX7_charge_30 : decode cX7_charge 30 = .ok (.getfield 110, 3) := by decide +kernel
theorem dX7_charge_33 : decode cX7_charge 33 = .ok (.iload_n 1, 1) := by decide +kernel
theorem dX7_charge_34 : decode cX7_charge 34 = .ok (.iaload, 1) := by decide +kernel
theorem dX7_charge_35 : decode cX7_charge 35 = .ok (.istore_n 3, 1) := by decide +kernel
theorem dX7_charge_36 : decode cX7_charge 36 = .ok (.aload_n 0, 1) := by decide +kernel
theorem dX7_charge_37 : decode cX7_charge 37 = .ok (.getfield 28, 3) := by decide +kernel
theorem dX7_charge_40 : decode cX7_charge 40 = .ok (.getfield 110, 3) := by decide +kernel
theorem dX7_charge_43 : decode cX7_charge 43 = .ok (.iload_n 1, 1) := by decide +kernel
theorem dX7_charge_44 : decode cX7_charge 44 = .ok (.iload_n 2, 1) := by decide +kernel
theorem dX7_charge_45 : decode cX7_charge 45 = .ok (.iastore, 1) := by decide +kernel
theorem dX7_charge_46 : decode cX7_charge 46 = .ok (.iload_n 3, 1) := by decide +kernel
theorem dX7_charge_47 : decode cX7_charge 47 = .ok (.ireturn, 1) := by decide +kernel
theorem dX7_earn_0 : decode cX7_earn 0 = .ok (.aload_n 0, 1) := by decide +kernel
theorem dX7_earn_1 : decode cX7_earn 1 = .ok (.getfield 28, 3) := by decide +kernel
theorem dX7_earn_4 : decode cX7_earn 4 = .ok (.iload_n 1, 1) := by decide +kernel
theorem dX7_earn_5 : decode cX7_earn 5 = .ok (.invokevirtual 123, 3) := by decide +kernel
theorem dX7_earn_8 : decode cX7_earn 8 = .ok (.ifCond .ne 5, 3) := by decide +kernel
theorem dX7_earn_11 : decode cX7_earn 11 = .ok (.iconst (-1), 1) := by decide +kernel
theorem dX7_earn_12 : decode cX7_earn 12 = .ok (.ireturn, 1) := by decide +kernel
theorem dX7_earn_13 : decode cX7_earn 13 = .ok (.iload_n 2, 1) := by decide +kernel
theorem dX7_earn_14 : decode cX7_earn 14 = .ok (.ifCond .lt 9, 3) := by decide +kernel
theorem dX7_earn_17 : decode cX7_earn 17 = .ok (.iload_n 2, 1) := by decide +kernel
theorem dX7_earn_18 : decode cX7_earn 18 = .ok (.bipush 99, 2) := by decide +kernel
theorem dX7_earn_20 : decode cX7_earn 20 = .ok (.if_icmp .le 6, 3) := by decide +kernel
theorem dX7_earn_23 : decode cX7_earn 23 = .ok (.bipush (-2), 2) := by decide +kernel
theorem dX7_earn_25 : decode cX7_earn 25 = .ok (.ireturn, 1) := by decide +kernel
theorem dX7_earn_26 : decode cX7_earn 26 = .ok (.aload_n 0, 1) := by decide +kernel
theorem dX7_earn_27 : decode cX7_earn 27 = .ok (.getfield 28, 3) := by decide +kernel
theorem dX7_earn_30 : decode cX7_earn 30 = .ok (.getfield 126, 3) := by decide +kernel
theorem dX7_earn_33 : decode cX7_earn 33 = .ok (.iload_n 1, 1) := by decide +kernel
theorem dX7_earn_34 : decode cX7_earn 34 = .ok (.iaload, 1) := by decide +kernel
theorem dX7_earn_35 : decode cX7_earn 35 = .ok (.istore_n 3, 1) := by decide +kernel
theorem dX7_earn_36 : decode cX7_earn 36 = .ok (.aload_n 0, 1) := by decide +kernel
theorem dX7_earn_37 : decode cX7_earn 37 = .ok (.getfield 28, 3) := by decide +kernel
theorem dX7_earn_40 : decode cX7_earn 40 = .ok (.getfield 126, 3) := by decide +kernel
theorem dX7_earn_43 : decode cX7_earn 43 = .ok (.iload_n 1, 1) := by decide +kernel
theorem dX7_earn_44 : decode cX7_earn 44 = .ok (.iload_n 2, 1) := by decide +kernel
theorem dX7_earn_45 : decode cX7_earn 45 = .ok (.iastore, 1) := by decide +kernel
theorem dX7_earn_46 : decode cX7_earn 46 = .ok (.iload_n 3, 1) := by decide +kernel
theorem dX7_earn_47 : decode cX7_earn 47 = .ok (.ireturn, 1) := by decide +kernel
theorem dX7_lodge_0 : decode cX7_lodge 0 = .ok (.aload_n 0, 1) := by decide +kernel
theorem dX7_lodge_1 : decode cX7_lodge 1 = .ok (.getfield 28, 3) := by decide +kernel
theorem dX7_lodge_4 : decode cX7_lodge 4 = .ok (.iload_n 1, 1) := by decide +kernel
theorem dX7_lodge_5 : decode cX7_lodge 5 = .ok (.invokevirtual 123, 3) := by decide +kernel
theorem dX7_lodge_8 : decode cX7_lodge 8 = .ok (.ifCond .eq 14, 3) := by decide +kernel
theorem dX7_lodge_11 : decode cX7_lodge 11 = .ok (.aload_n 0, 1) := by decide +kernel
theorem dX7_lodge_12 : decode cX7_lodge 12 = .ok (.getfield 28, 3) := by decide +kernel
theorem dX7_lodge_15 : decode cX7_lodge 15 = .ok (.iload_n 2, 1) := by decide +kernel
theorem dX7_lodge_16 : decode cX7_lodge 16 = .ok (.invokevirtual 100, 3) := by decide +kernel
theorem dX7_lodge_19 : decode cX7_lodge 19 = .ok (.ifCond .ne 5, 3) := by decide +kernel
theorem dX7_lodge_22 : decode cX7_lodge 22 = .ok (.iconst (-1), 1) := by decide +kernel
theorem dX7_lodge_23 : decode cX7_lodge 23 = .ok (.ireturn, 1) := by decide +kernel
theorem dX7_lodge_24 : decode cX7_lodge 24 = .ok (.aload_n 0, 1) := by decide +kernel
theorem dX7_lodge_25 : decode cX7_lodge 25 = .ok (.getfield 28, 3) := by decide +kernel
theorem dX7_lodge_28 : decode cX7_lodge 28 = .ok (.iload_n 1, 1) := by decide +kernel
theorem dX7_lodge_29 : decode cX7_lodge 29 = .ok (.iload_n 2, 1) := by decide +kernel
theorem dX7_lodge_30 : decode cX7_lodge 30 = .ok (.invokevirtual 144, 3) := by decide +kernel
theorem dX7_lodge_33 : decode cX7_lodge 33 = .ok (.ifCond .ne 6, 3) := by decide +kernel
theorem dX7_lodge_36 : decode cX7_lodge 36 = .ok (.bipush (-3), 2) := by decide +kernel
theorem dX7_lodge_38 : decode cX7_lodge 38 = .ok (.ireturn, 1) := by decide +kernel
theorem dX7_lodge_39 : decode cX7_lodge 39 = .ok (.aload_n 0, 1) := by decide +kernel
theorem dX7_lodge_40 : decode cX7_lodge 40 = .ok (.getfield 28, 3) := by decide +kernel
theorem dX7_lodge_43 : decode cX7_lodge 43 = .ok (.iload_n 2, 1) := by decide +kernel
theorem dX7_lodge_44 : decode cX7_lodge 44 = .ok (.invokevirtual 120, 3) := by decide +kernel
theorem dX7_lodge_47 : decode cX7_lodge 47 = .ok (.invokestatic 148, 3) := by decide +kernel
theorem dX7_lodge_50 : decode cX7_lodge 50 = .ok (.ireturn, 1) := by decide +kernel
theorem dX7_leave_0 : decode cX7_leave 0 = .ok (.aload_n 0, 1) := by decide +kernel
theorem dX7_leave_1 : decode cX7_leave 1 = .ok (.getfield 28, 3) := by decide +kernel
theorem dX7_leave_4 : decode cX7_leave 4 = .ok (.iload_n 1, 1) := by decide +kernel
theorem dX7_leave_5 : decode cX7_leave 5 = .ok (.invokevirtual 123, 3) := by decide +kernel
theorem dX7_leave_8 : decode cX7_leave 8 = .ok (.ifCond .ne 5, 3) := by decide +kernel
theorem dX7_leave_11 : decode cX7_leave 11 = .ok (.iconst (-1), 1) := by decide +kernel
theorem dX7_leave_12 : decode cX7_leave 12 = .ok (.ireturn, 1) := by decide +kernel
theorem dX7_leave_13 : decode cX7_leave 13 = .ok (.aload_n 0, 1) := by decide +kernel
theorem dX7_leave_14 : decode cX7_leave 14 = .ok (.getfield 28, 3) := by decide +kernel
theorem dX7_leave_17 : decode cX7_leave 17 = .ok (.getfield 135, 3) := by decide +kernel
theorem dX7_leave_20 : decode cX7_leave 20 = .ok (.iload_n 1, 1) := by decide +kernel
theorem dX7_leave_21 : decode cX7_leave 21 = .ok (.iaload, 1) := by decide +kernel
theorem dX7_leave_22 : decode cX7_leave 22 = .ok (.istore_n 2, 1) := by decide +kernel
theorem dX7_leave_23 : decode cX7_leave 23 = .ok (.aload_n 0, 1) := by decide +kernel
theorem dX7_leave_24 : decode cX7_leave 24 = .ok (.getfield 28, 3) := by decide +kernel
theorem dX7_leave_27 : decode cX7_leave 27 = .ok (.iload_n 1, 1) := by decide +kernel
theorem dX7_leave_28 : decode cX7_leave 28 = .ok (.invokevirtual 153, 3) := by decide +kernel
theorem dX7_leave_31 : decode cX7_leave 31 = .ok (.ifCond .ne 6, 3) := by decide +kernel
theorem dX7_leave_34 : decode cX7_leave 34 = .ok (.bipush (-3), 2) := by decide +kernel
theorem dX7_leave_36 : decode cX7_leave 36 = .ok (.ireturn, 1) := by decide +kernel
theorem dX7_leave_37 : decode cX7_leave 37 = .ok (.iload_n 2, 1) := by decide +kernel
theorem dX7_leave_38 : decode cX7_leave 38 = .ok (.ireturn, 1) := by decide +kernel
theorem dX7_night_0 : decode cX7_night 0 = .ok (.iload_n 1, 1) := by decide +kernel
theorem dX7_night_1 : decode cX7_night 1 = .ok (.iconst 1, 1) := by decide +kernel
theorem dX7_night_2 : decode cX7_night 2 = .ok (.if_icmp .lt 9, 3) := by decide +kernel
theorem dX7_night_5 : decode cX7_night 5 = .ok (.iload_n 1, 1) := by decide +kernel
theorem dX7_night_6 : decode cX7_night 6 = .ok (.bipush 30, 2) := by decide +kernel
theorem dX7_night_8 : decode cX7_night 8 = .ok (.if_icmp .le 6, 3) := by decide +kernel
theorem dX7_night_11 : decode cX7_night 11 = .ok (.bipush (-2), 2) := by decide +kernel
theorem dX7_night_13 : decode cX7_night 13 = .ok (.ireturn, 1) := by decide +kernel
theorem dX7_night_14 : decode cX7_night 14 = .ok (.aload_n 0, 1) := by decide +kernel
theorem dX7_night_15 : decode cX7_night 15 = .ok (.getfield 28, 3) := by decide +kernel
theorem dX7_night_18 : decode cX7_night 18 = .ok (.invokevirtual 156, 3) := by decide +kernel
theorem dX7_night_21 : decode cX7_night 21 = .ok (.ifCond .ne 6, 3) := by decide +kernel
theorem dX7_night_24 : decode cX7_night 24 = .ok (.bipush (-3), 2) := by decide +kernel
theorem dX7_night_26 : decode cX7_night 26 = .ok (.ireturn, 1) := by decide +kernel
theorem dX7_night_27 : decode cX7_night 27 = .ok (.aload_n 0, 1) := by decide +kernel
theorem dX7_night_28 : decode cX7_night 28 = .ok (.getfield 28, 3) := by decide +kernel
theorem dX7_night_31 : decode cX7_night 31 = .ok (.iload_n 1, 1) := by decide +kernel
theorem dX7_night_32 : decode cX7_night 32 = .ok (.invokevirtual 160, 3) := by decide +kernel
theorem dX7_night_35 : decode cX7_night 35 = .ok (.ireturn, 1) := by decide +kernel
theorem dX7_season_0 : decode cX7_season 0 = .ok (.aload_n 0, 1) := by decide +kernel
theorem dX7_season_1 : decode cX7_season 1 = .ok (.iconst 0, 1) := by decide +kernel
theorem dX7_season_2 : decode cX7_season 2 = .ok (.putfield 64, 3) := by decide +kernel
theorem dX7_season_5 : decode cX7_season 5 = .ok (.iload_n 1, 1) := by decide +kernel
theorem dX7_season_6 : decode cX7_season 6 = .ok (.invokestatic 67, 3) := by decide +kernel
theorem dX7_season_9 : decode cX7_season 9 = .ok (.ifCond .ne 5, 3) := by decide +kernel
theorem dX7_season_12 : decode cX7_season 12 = .ok (.iconst (-1), 1) := by decide +kernel
theorem dX7_season_13 : decode cX7_season 13 = .ok (.ireturn, 1) := by decide +kernel
theorem dX7_season_14 : decode cX7_season 14 = .ok (.iload_n 2, 1) := by decide +kernel
theorem dX7_season_15 : decode cX7_season 15 = .ok (.invokestatic 71, 3) := by decide +kernel
theorem dX7_season_18 : decode cX7_season 18 = .ok (.ifCond .eq 23, 3) := by decide +kernel
theorem dX7_season_21 : decode cX7_season 21 = .ok (.iload 4, 2) := by decide +kernel
theorem dX7_season_23 : decode cX7_season 23 = .ok (.ifCond .lt 18, 3) := by decide +kernel
theorem dX7_season_26 : decode cX7_season 26 = .ok (.iload 4, 2) := by decide +kernel
theorem dX7_season_28 : decode cX7_season 28 = .ok (.bipush 20, 2) := by decide +kernel
theorem dX7_season_30 : decode cX7_season 30 = .ok (.if_icmp .gt 11, 3) := by decide +kernel
theorem dX7_season_33 : decode cX7_season 33 = .ok (.iload 5, 2) := by decide +kernel
theorem dX7_season_35 : decode cX7_season 35 = .ok (.invokestatic 163, 3) := by decide +kernel
theorem dX7_season_38 : decode cX7_season 38 = .ok (.ifCond .ne 6, 3) := by decide +kernel
theorem dX7_season_41 : decode cX7_season 41 = .ok (.bipush (-2), 2) := by decide +kernel
theorem dX7_season_43 : decode cX7_season 43 = .ok (.ireturn, 1) := by decide +kernel
theorem dX7_season_44 : decode cX7_season 44 = .ok (.aload_n 0, 1) := by decide +kernel
theorem dX7_season_45 : decode cX7_season 45 = .ok (.aload_n 0, 1) := by decide +kernel
theorem dX7_season_46 : decode cX7_season 46 = .ok (.getfield 12, 3) := by decide +kernel
theorem dX7_season_49 : decode cX7_season 49 = .ok (.iload_n 1, 1) := by decide +kernel
theorem dX7_season_50 : decode cX7_season 50 = .ok (.iload_n 2, 1) := by decide +kernel
theorem dX7_season_51 : decode cX7_season 51 = .ok (.invokevirtual 74, 3) := by decide +kernel
theorem dX7_season_54 : decode cX7_season 54 = .ok (.putfield 64, 3) := by decide +kernel
theorem dX7_season_57 : decode cX7_season 57 = .ok (.aload_n 0, 1) := by decide +kernel
theorem dX7_season_58 : decode cX7_season 58 = .ok (.getfield 64, 3) := by decide +kernel
theorem dX7_season_61 : decode cX7_season 61 = .ok (.ifCond .ne 20, 3) := by decide +kernel
theorem dX7_season_64 : decode cX7_season 64 = .ok (.aload_n 0, 1) := by decide +kernel
theorem dX7_season_65 : decode cX7_season 65 = .ok (.aload_n 0, 1) := by decide +kernel
theorem dX7_season_66 : decode cX7_season 66 = .ok (.getfield 12, 3) := by decide +kernel
theorem dX7_season_69 : decode cX7_season 69 = .ok (.iload_n 1, 1) := by decide +kernel
theorem dX7_season_70 : decode cX7_season 70 = .ok (.iload_n 3, 1) := by decide +kernel
theorem dX7_season_71 : decode cX7_season 71 = .ok (.iconst 2, 1) := by decide +kernel
theorem dX7_season_72 : decode cX7_season 72 = .ok (.iload 4, 2) := by decide +kernel
theorem dX7_season_74 : decode cX7_season 74 = .ok (.imul, 1) := by decide +kernel
theorem dX7_season_75 : decode cX7_season 75 = .ok (.invokevirtual 78, 3) := by decide +kernel
theorem dX7_season_78 : decode cX7_season 78 = .ok (.putfield 64, 3) := by decide +kernel
theorem dX7_season_81 : decode cX7_season 81 = .ok (.aload_n 0, 1) := by decide +kernel
theorem dX7_season_82 : decode cX7_season 82 = .ok (.getfield 64, 3) := by decide +kernel
theorem dX7_season_85 : decode cX7_season 85 = .ok (.ifCond .eq 11, 3) := by decide +kernel
theorem dX7_season_88 : decode cX7_season 88 = .ok (.bipush (-10), 2) := by decide +kernel
theorem dX7_season_90 : decode cX7_season 90 = .ok (.aload_n 0, 1) := by decide +kernel
theorem dX7_season_91 : decode cX7_season 91 = .ok (.getfield 64, 3) := by decide +kernel
theorem dX7_season_94 : decode cX7_season 94 = .ok (.isub, 1) := by decide +kernel
theorem dX7_season_95 : decode cX7_season 95 = .ok (.ireturn, 1) := by decide +kernel
theorem dX7_season_96 : decode cX7_season 96 = .ok (.aload_n 0, 1) := by decide +kernel
theorem dX7_season_97 : decode cX7_season 97 = .ok (.getfield 28, 3) := by decide +kernel
theorem dX7_season_100 : decode cX7_season 100 = .ok (.invokevirtual 156, 3) := by decide +kernel
theorem dX7_season_103 : decode cX7_season 103 = .ok (.ifCond .ne 6, 3) := by decide +kernel
theorem dX7_season_106 : decode cX7_season 106 = .ok (.bipush (-3), 2) := by decide +kernel
theorem dX7_season_108 : decode cX7_season 108 = .ok (.ireturn, 1) := by decide +kernel
theorem dX7_season_109 : decode cX7_season 109 = .ok (.aload_n 0, 1) := by decide +kernel
theorem dX7_season_110 : decode cX7_season 110 = .ok (.getfield 35, 3) := by decide +kernel
theorem dX7_season_113 : decode cX7_season 113 = .ok (.aload_n 0, 1) := by decide +kernel
theorem dX7_season_114 : decode cX7_season 114 = .ok (.getfield 28, 3) := by decide +kernel
theorem dX7_season_117 : decode cX7_season 117 = .ok (.aload_n 0, 1) := by decide +kernel
theorem dX7_season_118 : decode cX7_season 118 = .ok (.getfield 12, 3) := by decide +kernel
theorem dX7_season_121 : decode cX7_season 121 = .ok (.iload_n 1, 1) := by decide +kernel
theorem dX7_season_122 : decode cX7_season 122 = .ok (.iload_n 3, 1) := by decide +kernel
theorem dX7_season_123 : decode cX7_season 123 = .ok (.iload 4, 2) := by decide +kernel
theorem dX7_season_125 : decode cX7_season 125 = .ok (.invokevirtual 166, 3) := by decide +kernel
theorem dX7_season_128 : decode cX7_season 128 = .ok (.istore 6, 2) := by decide +kernel
theorem dX7_season_130 : decode cX7_season 130 = .ok (.iload 6, 2) := by decide +kernel
theorem dX7_season_132 : decode cX7_season 132 = .ok (.ifCond .eq 6, 3) := by decide +kernel
theorem dX7_season_135 : decode cX7_season 135 = .ok (.iload 6, 2) := by decide +kernel
theorem dX7_season_137 : decode cX7_season 137 = .ok (.ireturn, 1) := by decide +kernel
theorem dX7_season_138 : decode cX7_season 138 = .ok (.aload_n 0, 1) := by decide +kernel
theorem dX7_season_139 : decode cX7_season 139 = .ok (.getfield 35, 3) := by decide +kernel
theorem dX7_season_142 : decode cX7_season 142 = .ok (.invokevirtual 169, 3) := by decide +kernel
theorem dX7_season_145 : decode cX7_season 145 = .ok (.aload_n 0, 1) := by decide +kernel
theorem dX7_season_146 : decode cX7_season 146 = .ok (.getfield 35, 3) := by decide +kernel
theorem dX7_season_149 : decode cX7_season 149 = .ok (.iload 5, 2) := by decide +kernel
theorem dX7_season_151 : decode cX7_season 151 = .ok (.invokevirtual 172, 3) := by decide +kernel
theorem dX7_season_154 : decode cX7_season 154 = .ok (.ireturn, 1) := by decide +kernel
theorem dX7_housed_0 : decode cX7_housed 0 = .ok (.iload_n 1, 1) := by decide +kernel
theorem dX7_housed_1 : decode cX7_housed 1 = .ok (.bipush (-2), 2) := by decide +kernel
theorem dX7_housed_3 : decode cX7_housed 3 = .ok (.if_icmp .lt 8, 3) := by decide +kernel
theorem dX7_housed_6 : decode cX7_housed 6 = .ok (.iload_n 1, 1) := by decide +kernel
theorem dX7_housed_7 : decode cX7_housed 7 = .ok (.iconst 5, 1) := by decide +kernel
theorem dX7_housed_8 : decode cX7_housed 8 = .ok (.if_icmp .lt 6, 3) := by decide +kernel
theorem dX7_housed_11 : decode cX7_housed 11 = .ok (.bipush (-2), 2) := by decide +kernel
theorem dX7_housed_13 : decode cX7_housed 13 = .ok (.ireturn, 1) := by decide +kernel
theorem dX7_housed_14 : decode cX7_housed 14 = .ok (.aload_n 0, 1) := by decide +kernel
theorem dX7_housed_15 : decode cX7_housed 15 = .ok (.getfield 28, 3) := by decide +kernel
theorem dX7_housed_18 : decode cX7_housed 18 = .ok (.invokevirtual 156, 3) := by decide +kernel
theorem dX7_housed_21 : decode cX7_housed 21 = .ok (.ifCond .ne 6, 3) := by decide +kernel
theorem dX7_housed_24 : decode cX7_housed 24 = .ok (.bipush (-3), 2) := by decide +kernel
theorem dX7_housed_26 : decode cX7_housed 26 = .ok (.ireturn, 1) := by decide +kernel
theorem dX7_housed_27 : decode cX7_housed 27 = .ok (.aload_n 0, 1) := by decide +kernel
theorem dX7_housed_28 : decode cX7_housed 28 = .ok (.getfield 42, 3) := by decide +kernel
theorem dX7_housed_31 : decode cX7_housed 31 = .ok (.aload_n 0, 1) := by decide +kernel
theorem dX7_housed_32 : decode cX7_housed 32 = .ok (.getfield 28, 3) := by decide +kernel
theorem dX7_housed_35 : decode cX7_housed 35 = .ok (.bipush (-9), 2) := by decide +kernel
theorem dX7_housed_37 : decode cX7_housed 37 = .ok (.invokevirtual 175, 3) := by decide +kernel
theorem dX7_housed_40 : decode cX7_housed 40 = .ok (.iload_n 1, 1) := by decide +kernel
theorem dX7_housed_41 : decode cX7_housed 41 = .ok (.bipush (-2), 2) := by decide +kernel
theorem dX7_housed_43 : decode cX7_housed 43 = .ok (.if_icmp .ne 11, 3) := by decide +kernel
theorem dX7_housed_46 : decode cX7_housed 46 = .ok (.aload_n 0, 1) := by decide +kernel
theorem dX7_housed_47 : decode cX7_housed 47 = .ok (.getfield 42, 3) := by decide +kernel
theorem dX7_housed_50 : decode cX7_housed 50 = .ok (.getfield 179, 3) := by decide +kernel
theorem dX7_housed_53 : decode cX7_housed 53 = .ok (.ireturn, 1) := by decide +kernel
theorem dX7_housed_54 : decode cX7_housed 54 = .ok (.iload_n 1, 1) := by decide +kernel
theorem dX7_housed_55 : decode cX7_housed 55 = .ok (.iconst (-1), 1) := by decide +kernel
theorem dX7_housed_56 : decode cX7_housed 56 = .ok (.if_icmp .ne 11, 3) := by decide +kernel
theorem dX7_housed_59 : decode cX7_housed 59 = .ok (.aload_n 0, 1) := by decide +kernel
theorem dX7_housed_60 : decode cX7_housed 60 = .ok (.getfield 42, 3) := by decide +kernel
theorem dX7_housed_63 : decode cX7_housed 63 = .ok (.getfield 182, 3) := by decide +kernel
theorem dX7_housed_66 : decode cX7_housed 66 = .ok (.ireturn, 1) := by decide +kernel
theorem dX7_housed_67 : decode cX7_housed 67 = .ok (.aload_n 0, 1) := by decide +kernel
theorem dX7_housed_68 : decode cX7_housed 68 = .ok (.getfield 28, 3) := by decide +kernel
theorem dX7_housed_71 : decode cX7_housed 71 = .ok (.iload_n 1, 1) := by decide +kernel
theorem dX7_housed_72 : decode cX7_housed 72 = .ok (.invokevirtual 123, 3) := by decide +kernel
theorem dX7_housed_75 : decode cX7_housed 75 = .ok (.ifCond .eq 34, 3) := by decide +kernel
theorem dX7_housed_78 : decode cX7_housed 78 = .ok (.aload_n 0, 1) := by decide +kernel
theorem dX7_housed_79 : decode cX7_housed 79 = .ok (.getfield 28, 3) := by decide +kernel
theorem dX7_housed_82 : decode cX7_housed 82 = .ok (.aload_n 0, 1) := by decide +kernel
theorem dX7_housed_83 : decode cX7_housed 83 = .ok (.getfield 42, 3) := by decide +kernel
theorem dX7_housed_86 : decode cX7_housed 86 = .ok (.getfield 185, 3) := by decide +kernel
theorem dX7_housed_89 : decode cX7_housed 89 = .ok (.iload_n 1, 1) := by decide +kernel
theorem dX7_housed_90 : decode cX7_housed 90 = .ok (.iaload, 1) := by decide +kernel
theorem dX7_housed_91 : decode cX7_housed 91 = .ok (.invokevirtual 100, 3) := by decide +kernel
theorem dX7_housed_94 : decode cX7_housed 94 = .ok (.ifCond .eq 15, 3) := by decide +kernel
theorem dX7_housed_97 : decode cX7_housed 97 = .ok (.aload_n 0, 1) := by decide +kernel
theorem dX7_housed_98 : decode cX7_housed 98 = .ok (.getfield 42, 3) := by decide +kernel
theorem dX7_housed_101 : decode cX7_housed 101 = .ok (.getfield 185, 3) := by decide +kernel
theorem dX7_housed_104 : decode cX7_housed 104 = .ok (.iload_n 1, 1) := by decide +kernel
theorem dX7_housed_105 : decode cX7_housed 105 = .ok (.iaload, 1) := by decide +kernel
theorem dX7_housed_106 : decode cX7_housed 106 = .ok (.goto 5, 3) := by decide +kernel
theorem dX7_housed_109 : decode cX7_housed 109 = .ok (.bipush (-9), 2) := by decide +kernel
theorem dX7_housed_111 : decode cX7_housed 111 = .ok (.ireturn, 1) := by decide +kernel
theorem dX7_ploughed_0 : decode cX7_ploughed 0 = .ok (.aload_n 0, 1) := by decide +kernel
theorem dX7_ploughed_1 : decode cX7_ploughed 1 = .ok (.getfield 28, 3) := by decide +kernel
theorem dX7_ploughed_4 : decode cX7_ploughed 4 = .ok (.iload_n 1, 1) := by decide +kernel
theorem dX7_ploughed_5 : decode cX7_ploughed 5 = .ok (.invokevirtual 100, 3) := by decide +kernel
theorem dX7_ploughed_8 : decode cX7_ploughed 8 = .ok (.ifCond .ne 5, 3) := by decide +kernel
theorem dX7_ploughed_11 : decode cX7_ploughed 11 = .ok (.iconst (-1), 1) := by decide +kernel
theorem dX7_ploughed_12 : decode cX7_ploughed 12 = .ok (.ireturn, 1) := by decide +kernel
theorem dX7_ploughed_13 : decode cX7_ploughed 13 = .ok (.aload_n 0, 1) := by decide +kernel
theorem dX7_ploughed_14 : decode cX7_ploughed 14 = .ok (.getfield 42, 3) := by decide +kernel
theorem dX7_ploughed_17 : decode cX7_ploughed 17 = .ok (.aload_n 0, 1) := by decide +kernel
theorem dX7_ploughed_18 : decode cX7_ploughed 18 = .ok (.getfield 28, 3) := by decide +kernel
theorem dX7_ploughed_21 : decode cX7_ploughed 21 = .ok (.iload_n 1, 1) := by decide +kernel
theorem dX7_ploughed_22 : decode cX7_ploughed 22 = .ok (.invokevirtual 175, 3) := by decide +kernel
theorem dX7_ploughed_25 : decode cX7_ploughed 25 = .ok (.aload_n 0, 1) := by decide +kernel
theorem dX7_ploughed_26 : decode cX7_ploughed 26 = .ok (.getfield 42, 3) := by decide +kernel
theorem dX7_ploughed_29 : decode cX7_ploughed 29 = .ok (.getfield 179, 3) := by decide +kernel
theorem dX7_ploughed_32 : decode cX7_ploughed 32 = .ok (.ireturn, 1) := by decide +kernel
theorem dX7_way_0 : decode cX7_way 0 = .ok (.aload_n 0, 1) := by decide +kernel
theorem dX7_way_1 : decode cX7_way 1 = .ok (.getfield 28, 3) := by decide +kernel
theorem dX7_way_4 : decode cX7_way 4 = .ok (.iload_n 1, 1) := by decide +kernel
theorem dX7_way_5 : decode cX7_way 5 = .ok (.invokevirtual 123, 3) := by decide +kernel
theorem dX7_way_8 : decode cX7_way 8 = .ok (.ifCond .ne 5, 3) := by decide +kernel
theorem dX7_way_11 : decode cX7_way 11 = .ok (.iconst (-1), 1) := by decide +kernel
theorem dX7_way_12 : decode cX7_way 12 = .ok (.ireturn, 1) := by decide +kernel
theorem dX7_way_13 : decode cX7_way 13 = .ok (.iload_n 2, 1) := by decide +kernel
theorem dX7_way_14 : decode cX7_way 14 = .ok (.ifCond .lt 9, 3) := by decide +kernel
theorem dX7_way_17 : decode cX7_way 17 = .ok (.iload_n 2, 1) := by decide +kernel
theorem dX7_way_18 : decode cX7_way 18 = .ok (.bipush 9, 2) := by decide +kernel
theorem dX7_way_20 : decode cX7_way 20 = .ok (.if_icmp .le 6, 3) := by decide +kernel
theorem dX7_way_23 : decode cX7_way 23 = .ok (.bipush (-2), 2) := by decide +kernel
theorem dX7_way_25 : decode cX7_way 25 = .ok (.ireturn, 1) := by decide +kernel
theorem dX7_way_26 : decode cX7_way 26 = .ok (.aload_n 0, 1) := by decide +kernel
theorem dX7_way_27 : decode cX7_way 27 = .ok (.getfield 28, 3) := by decide +kernel
theorem dX7_way_30 : decode cX7_way 30 = .ok (.iload_n 1, 1) := by decide +kernel
theorem dX7_way_31 : decode cX7_way 31 = .ok (.iload_n 2, 1) := by decide +kernel
theorem dX7_way_32 : decode cX7_way 32 = .ok (.invokevirtual 188, 3) := by decide +kernel
theorem dX7_way_35 : decode cX7_way 35 = .ok (.ireturn, 1) := by decide +kernel
theorem dX7_lain_0 : decode cX7_lain 0 = .ok (.aload_n 0, 1) := by decide +kernel
theorem dX7_lain_1 : decode cX7_lain 1 = .ok (.iconst 0, 1) := by decide +kernel
theorem dX7_lain_2 : decode cX7_lain 2 = .ok (.putfield 64, 3) := by decide +kernel
theorem dX7_lain_5 : decode cX7_lain 5 = .ok (.iload_n 1, 1) := by decide +kernel
theorem dX7_lain_6 : decode cX7_lain 6 = .ok (.invokestatic 67, 3) := by decide +kernel
theorem dX7_lain_9 : decode cX7_lain 9 = .ok (.ifCond .ne 5, 3) := by decide +kernel
theorem dX7_lain_12 : decode cX7_lain 12 = .ok (.iconst (-1), 1) := by decide +kernel
theorem dX7_lain_13 : decode cX7_lain 13 = .ok (.ireturn, 1) := by decide +kernel
theorem dX7_lain_14 : decode cX7_lain 14 = .ok (.iload_n 2, 1) := by decide +kernel
theorem dX7_lain_15 : decode cX7_lain 15 = .ok (.invokestatic 71, 3) := by decide +kernel
theorem dX7_lain_18 : decode cX7_lain 18 = .ok (.ifCond .eq 15, 3) := by decide +kernel
theorem dX7_lain_21 : decode cX7_lain 21 = .ok (.iload 4, 2) := by decide +kernel
theorem dX7_lain_23 : decode cX7_lain 23 = .ok (.iconst (-1), 1) := by decide +kernel
theorem dX7_lain_24 : decode cX7_lain 24 = .ok (.if_icmp .lt 9, 3) := by decide +kernel
theorem dX7_lain_27 : decode cX7_lain 27 = .ok (.iload 4, 2) := by decide +kernel
theorem dX7_lain_29 : decode cX7_lain 29 = .ok (.iconst 5, 1) := by decide +kernel
theorem dX7_lain_30 : decode cX7_lain 30 = .ok (.if_icmp .lt 6, 3) := by decide +kernel
theorem dX7_lain_33 : decode cX7_lain 33 = .ok (.bipush (-2), 2) := by decide +kernel
theorem dX7_lain_35 : decode cX7_lain 35 = .ok (.ireturn, 1) := by decide +kernel
theorem dX7_lain_36 : decode cX7_lain 36 = .ok (.aload_n 0, 1) := by decide +kernel
theorem dX7_lain_37 : decode cX7_lain 37 = .ok (.getfield 28, 3) := by decide +kernel
theorem dX7_lain_40 : decode cX7_lain 40 = .ok (.invokevirtual 156, 3) := by decide +kernel
theorem dX7_lain_43 : decode cX7_lain 43 = .ok (.ifCond .ne 6, 3) := by decide +kernel
theorem dX7_lain_46 : decode cX7_lain 46 = .ok (.bipush (-3), 2) := by decide +kernel
theorem dX7_lain_48 : decode cX7_lain 48 = .ok (.ireturn, 1) := by decide +kernel
theorem dX7_lain_49 : decode cX7_lain 49 = .ok (.aload_n 0, 1) := by decide +kernel
theorem dX7_lain_50 : decode cX7_lain 50 = .ok (.aload_n 0, 1) := by decide +kernel
theorem dX7_lain_51 : decode cX7_lain 51 = .ok (.getfield 12, 3) := by decide +kernel
theorem dX7_lain_54 : decode cX7_lain 54 = .ok (.iload_n 1, 1) := by decide +kernel
theorem dX7_lain_55 : decode cX7_lain 55 = .ok (.iload_n 2, 1) := by decide +kernel
theorem dX7_lain_56 : decode cX7_lain 56 = .ok (.invokevirtual 74, 3) := by decide +kernel
theorem dX7_lain_59 : decode cX7_lain 59 = .ok (.putfield 64, 3) := by decide +kernel
theorem dX7_lain_62 : decode cX7_lain 62 = .ok (.aload_n 0, 1) := by decide +kernel
theorem dX7_lain_63 : decode cX7_lain 63 = .ok (.getfield 64, 3) := by decide +kernel
theorem dX7_lain_66 : decode cX7_lain 66 = .ok (.ifCond .ne 23, 3) := by decide +kernel
theorem dX7_lain_69 : decode cX7_lain 69 = .ok (.aload_n 0, 1) := by decide +kernel
theorem dX7_lain_70 : decode cX7_lain 70 = .ok (.aload_n 0, 1) := by decide +kernel
theorem dX7_lain_71 : decode cX7_lain 71 = .ok (.getfield 12, 3) := by decide +kernel
theorem dX7_lain_74 : decode cX7_lain 74 = .ok (.iload_n 1, 1) := by decide +kernel
theorem dX7_lain_75 : decode cX7_lain 75 = .ok (.iload_n 3, 1) := by decide +kernel
theorem dX7_lain_76 : decode cX7_lain 76 = .ok (.aload_n 0, 1) := by decide +kernel
theorem dX7_lain_77 : decode cX7_lain 77 = .ok (.getfield 28, 3) := by decide +kernel
theorem dX7_lain_80 : decode cX7_lain 80 = .ok (.getfield 191, 3) := by decide +kernel
theorem dX7_lain_83 : decode cX7_lain 83 = .ok (.invokevirtual 78, 3) := by decide +kernel
theorem dX7_lain_86 : decode cX7_lain 86 = .ok (.putfield 64, 3) := by decide +kernel
theorem dX7_lain_89 : decode cX7_lain 89 = .ok (.aload_n 0, 1) := by decide +kernel
theorem dX7_lain_90 : decode cX7_lain 90 = .ok (.getfield 64, 3) := by decide +kernel
theorem dX7_lain_93 : decode cX7_lain 93 = .ok (.ifCond .eq 11, 3) := by decide +kernel
theorem dX7_lain_96 : decode cX7_lain 96 = .ok (.bipush (-10), 2) := by decide +kernel
theorem dX7_lain_98 : decode cX7_lain 98 = .ok (.aload_n 0, 1) := by decide +kernel
theorem dX7_lain_99 : decode cX7_lain 99 = .ok (.getfield 64, 3) := by decide +kernel
theorem dX7_lain_102 : decode cX7_lain 102 = .ok (.isub, 1) := by decide +kernel
theorem dX7_lain_103 : decode cX7_lain 103 = .ok (.ireturn, 1) := by decide +kernel
theorem dX7_lain_104 : decode cX7_lain 104 = .ok (.aload_n 0, 1) := by decide +kernel
theorem dX7_lain_105 : decode cX7_lain 105 = .ok (.getfield 49, 3) := by decide +kernel
theorem dX7_lain_108 : decode cX7_lain 108 = .ok (.aload_n 0, 1) := by decide +kernel
theorem dX7_lain_109 : decode cX7_lain 109 = .ok (.getfield 12, 3) := by decide +kernel
theorem dX7_lain_112 : decode cX7_lain 112 = .ok (.iload_n 1, 1) := by decide +kernel
theorem dX7_lain_113 : decode cX7_lain 113 = .ok (.iload_n 3, 1) := by decide +kernel
theorem dX7_lain_114 : decode cX7_lain 114 = .ok (.aload_n 0, 1) := by decide +kernel
theorem dX7_lain_115 : decode cX7_lain 115 = .ok (.getfield 28, 3) := by decide +kernel
theorem dX7_lain_118 : decode cX7_lain 118 = .ok (.getfield 191, 3) := by decide +kernel
theorem dX7_lain_121 : decode cX7_lain 121 = .ok (.invokevirtual 194, 3) := by decide +kernel
theorem dX7_lain_124 : decode cX7_lain 124 = .ok (.aload_n 0, 1) := by decide +kernel
theorem dX7_lain_125 : decode cX7_lain 125 = .ok (.getfield 49, 3) := by decide +kernel
theorem dX7_lain_128 : decode cX7_lain 128 = .ok (.aload_n 0, 1) := by decide +kernel
theorem dX7_lain_129 : decode cX7_lain 129 = .ok (.getfield 28, 3) := by decide +kernel
theorem dX7_lain_132 : decode cX7_lain 132 = .ok (.iload 4, 2) := by decide +kernel
theorem dX7_lain_134 : decode cX7_lain 134 = .ok (.ifCond .lt 7, 3) := by decide +kernel
theorem dX7_lain_137 : decode cX7_lain 137 = .ok (.iconst 1, 1) := by decide +kernel
theorem dX7_lain_138 : decode cX7_lain 138 = .ok (.goto 4, 3) := by decide +kernel
theorem dX7_lain_141 : decode cX7_lain 141 = .ok (.iconst 0, 1) := by decide +kernel
theorem dX7_lain_142 : decode cX7_lain 142 = .ok (.invokevirtual 195, 3) := by decide +kernel
theorem dX7_lain_145 : decode cX7_lain 145 = .ok (.iload 4, 2) := by decide +kernel
theorem dX7_lain_147 : decode cX7_lain 147 = .ok (.iconst (-1), 1) := by decide +kernel
theorem dX7_lain_148 : decode cX7_lain 148 = .ok (.if_icmp .ne 11, 3) := by decide +kernel
theorem dX7_lain_151 : decode cX7_lain 151 = .ok (.aload_n 0, 1) := by decide +kernel
theorem dX7_lain_152 : decode cX7_lain 152 = .ok (.getfield 49, 3) := by decide +kernel
theorem dX7_lain_155 : decode cX7_lain 155 = .ok (.getfield 198, 3) := by decide +kernel
theorem dX7_lain_158 : decode cX7_lain 158 = .ok (.ireturn, 1) := by decide +kernel
theorem dX7_lain_159 : decode cX7_lain 159 = .ok (.aload_n 0, 1) := by decide +kernel
theorem dX7_lain_160 : decode cX7_lain 160 = .ok (.getfield 49, 3) := by decide +kernel
theorem dX7_lain_163 : decode cX7_lain 163 = .ok (.getfield 198, 3) := by decide +kernel
theorem dX7_lain_166 : decode cX7_lain 166 = .ok (.ifCond .eq 15, 3) := by decide +kernel
theorem dX7_lain_169 : decode cX7_lain 169 = .ok (.aload_n 0, 1) := by decide +kernel
theorem dX7_lain_170 : decode cX7_lain 170 = .ok (.getfield 28, 3) := by decide +kernel
theorem dX7_lain_173 : decode cX7_lain 173 = .ok (.iload 4, 2) := by decide +kernel
theorem dX7_lain_175 : decode cX7_lain 175 = .ok (.invokevirtual 123, 3) := by decide +kernel
theorem dX7_lain_178 : decode cX7_lain 178 = .ok (.ifCond .ne 6, 3) := by decide +kernel
theorem dX7_lain_181 : decode cX7_lain 181 = .ok (.bipush (-9), 2) := by decide +kernel
theorem dX7_lain_183 : decode cX7_lain 183 = .ok (.ireturn, 1) := by decide +kernel
theorem dX7_lain_184 : decode cX7_lain 184 = .ok (.aload_n 0, 1) := by decide +kernel
theorem dX7_lain_185 : decode cX7_lain 185 = .ok (.getfield 28, 3) := by decide +kernel
theorem dX7_lain_188 : decode cX7_lain 188 = .ok (.aload_n 0, 1) := by decide +kernel
theorem dX7_lain_189 : decode cX7_lain 189 = .ok (.getfield 49, 3) := by decide +kernel
theorem dX7_lain_192 : decode cX7_lain 192 = .ok (.getfield 201, 3) := by decide +kernel
theorem dX7_lain_195 : decode cX7_lain 195 = .ok (.iload 4, 2) := by decide +kernel
theorem dX7_lain_197 : decode cX7_lain 197 = .ok (.iaload, 1) := by decide +kernel
theorem dX7_lain_198 : decode cX7_lain 198 = .ok (.invokevirtual 100, 3) := by decide +kernel
theorem dX7_lain_201 : decode cX7_lain 201 = .ok (.ifCond .eq 16, 3) := by decide +kernel
theorem dX7_lain_204 : decode cX7_lain 204 = .ok (.aload_n 0, 1) := by decide +kernel
theorem dX7_lain_205 : decode cX7_lain 205 = .ok (.getfield 49, 3) := by decide +kernel
theorem dX7_lain_208 : decode cX7_lain 208 = .ok (.getfield 201, 3) := by decide +kernel
theorem dX7_lain_211 : decode cX7_lain 211 = .ok (.iload 4, 2) := by decide +kernel
theorem dX7_lain_213 : decode cX7_lain 213 = .ok (.iaload, 1) := by decide +kernel
theorem dX7_lain_214 : decode cX7_lain 214 = .ok (.goto 5, 3) := by decide +kernel
theorem dX7_lain_217 : decode cX7_lain 217 = .ok (.bipush (-9), 2) := by decide +kernel
theorem dX7_lain_219 : decode cX7_lain 219 = .ok (.ireturn, 1) := by decide +kernel
theorem dX7_reading_0 : decode cX7_reading 0 = .ok (.aload_n 0, 1) := by decide +kernel
theorem dX7_reading_1 : decode cX7_reading 1 = .ok (.getfield 28, 3) := by decide +kernel
theorem dX7_reading_4 : decode cX7_reading 4 = .ok (.iload_n 1, 1) := by decide +kernel
theorem dX7_reading_5 : decode cX7_reading 5 = .ok (.invokevirtual 100, 3) := by decide +kernel
theorem dX7_reading_8 : decode cX7_reading 8 = .ok (.ifCond .ne 5, 3) := by decide +kernel
theorem dX7_reading_11 : decode cX7_reading 11 = .ok (.iconst (-1), 1) := by decide +kernel
theorem dX7_reading_12 : decode cX7_reading 12 = .ok (.ireturn, 1) := by decide +kernel
theorem dX7_reading_13 : decode cX7_reading 13 = .ok (.iload_n 2, 1) := by decide +kernel
theorem dX7_reading_14 : decode cX7_reading 14 = .ok (.ifCond .lt 18, 3) := by decide +kernel
theorem dX7_reading_17 : decode cX7_reading 17 = .ok (.iload_n 2, 1) := by decide +kernel
theorem dX7_reading_18 : decode cX7_reading 18 = .ok (.bipush 9, 2) := by decide +kernel
theorem dX7_reading_20 : decode cX7_reading 20 = .ok (.if_icmp .gt 12, 3) := by decide +kernel
theorem dX7_reading_23 : decode cX7_reading 23 = .ok (.iload_n 3, 1) := by decide +kernel
theorem dX7_reading_24 : decode cX7_reading 24 = .ok (.ifCond .lt 8, 3) := by decide +kernel
theorem dX7_reading_27 : decode cX7_reading 27 = .ok (.iload_n 3, 1) := by decide +kernel
theorem dX7_reading_28 : decode cX7_reading 28 = .ok (.iconst 1, 1) := by decide +kernel
theorem dX7_reading_29 : decode cX7_reading 29 = .ok (.if_icmp .le 6, 3) := by decide +kernel
theorem dX7_reading_32 : decode cX7_reading 32 = .ok (.bipush (-2), 2) := by decide +kernel
theorem dX7_reading_34 : decode cX7_reading 34 = .ok (.ireturn, 1) := by decide +kernel
theorem dX7_reading_35 : decode cX7_reading 35 = .ok (.aload_n 0, 1) := by decide +kernel
theorem dX7_reading_36 : decode cX7_reading 36 = .ok (.getfield 56, 3) := by decide +kernel
theorem dX7_reading_39 : decode cX7_reading 39 = .ok (.invokevirtual 204, 3) := by decide +kernel
theorem dX7_reading_42 : decode cX7_reading 42 = .ok (.ifCond .ne 6, 3) := by decide +kernel
theorem dX7_reading_45 : decode cX7_reading 45 = .ok (.bipush (-4), 2) := by decide +kernel
theorem dX7_reading_47 : decode cX7_reading 47 = .ok (.ireturn, 1) := by decide +kernel
theorem dX7_reading_48 : decode cX7_reading 48 = .ok (.aload_n 0, 1) := by decide +kernel
theorem dX7_reading_49 : decode cX7_reading 49 = .ok (.getfield 56, 3) := by decide +kernel
theorem dX7_reading_52 : decode cX7_reading 52 = .ok (.iload_n 1, 1) := by decide +kernel
theorem dX7_reading_53 : decode cX7_reading 53 = .ok (.iload_n 2, 1) := by decide +kernel
theorem dX7_reading_54 : decode cX7_reading 54 = .ok (.iload_n 3, 1) := by decide +kernel
theorem dX7_reading_55 : decode cX7_reading 55 = .ok (.invokevirtual 207, 3) := by decide +kernel
theorem dX7_reading_58 : decode cX7_reading 58 = .ok (.ireturn, 1) := by decide +kernel
theorem dX7_back_0 : decode cX7_back 0 = .ok (.iload_n 1, 1) := by decide +kernel
theorem dX7_back_1 : decode cX7_back 1 = .ok (.ifCond .lt 14, 3) := by decide +kernel
theorem dX7_back_4 : decode cX7_back 4 = .ok (.iload_n 1, 1) := by decide +kernel
theorem dX7_back_5 : decode cX7_back 5 = .ok (.aload_n 0, 1) := by decide +kernel
theorem dX7_back_6 : decode cX7_back 6 = .ok (.getfield 56, 3) := by decide +kernel
theorem dX7_back_9 : decode cX7_back 9 = .ok (.getfield 94, 3) := by decide +kernel
theorem dX7_back_12 : decode cX7_back 12 = .ok (.if_icmp .le 6, 3) := by decide +kernel
theorem dX7_back_15 : decode cX7_back 15 = .ok (.bipush (-2), 2) := by decide +kernel
theorem dX7_back_17 : decode cX7_back 17 = .ok (.ireturn, 1) := by decide +kernel
theorem dX7_back_18 : decode cX7_back 18 = .ok (.aload_n 0, 1) := by decide +kernel
theorem dX7_back_19 : decode cX7_back 19 = .ok (.getfield 56, 3) := by decide +kernel
theorem dX7_back_22 : decode cX7_back 22 = .ok (.dup, 1) := by decide +kernel
theorem dX7_back_23 : decode cX7_back 23 = .ok (.getfield 94, 3) := by decide +kernel
theorem dX7_back_26 : decode cX7_back 26 = .ok (.iload_n 1, 1) := by decide +kernel
theorem dX7_back_27 : decode cX7_back 27 = .ok (.isub, 1) := by decide +kernel
theorem dX7_back_28 : decode cX7_back 28 = .ok (.putfield 94, 3) := by decide +kernel
theorem dX7_back_31 : decode cX7_back 31 = .ok (.aload_n 0, 1) := by decide +kernel
theorem dX7_back_32 : decode cX7_back 32 = .ok (.getfield 56, 3) := by decide +kernel
theorem dX7_back_35 : decode cX7_back 35 = .ok (.getfield 94, 3) := by decide +kernel
theorem dX7_back_38 : decode cX7_back 38 = .ok (.ireturn, 1) := by decide +kernel
theorem dX7_rooms_0 : decode cX7_rooms 0 = .ok (.aload_n 0, 1) := by decide +kernel
theorem dX7_rooms_1 : decode cX7_rooms 1 = .ok (.getfield 28, 3) := by decide +kernel
theorem dX7_rooms_4 : decode cX7_rooms 4 = .ok (.iload_n 1, 1) := by decide +kernel
theorem dX7_rooms_5 : decode cX7_rooms 5 = .ok (.invokevirtual 100, 3) := by decide +kernel
theorem dX7_rooms_8 : decode cX7_rooms 8 = .ok (.ifCond .ne 5, 3) := by decide +kernel
theorem dX7_rooms_11 : decode cX7_rooms 11 = .ok (.iconst (-1), 1) := by decide +kernel
theorem dX7_rooms_12 : decode cX7_rooms 12 = .ok (.ireturn, 1) := by decide +kernel
theorem dX7_rooms_13 : decode cX7_rooms 13 = .ok (.iconst 0, 1) := by decide +kernel
theorem dX7_rooms_14 : decode cX7_rooms 14 = .ok (.istore_n 2, 1) := by decide +kernel
theorem dX7_rooms_15 : decode cX7_rooms 15 = .ok (.iconst 1, 1) := by decide +kernel
theorem dX7_rooms_16 : decode cX7_rooms 16 = .ok (.istore_n 3, 1) := by decide +kernel
theorem dX7_rooms_17 : decode cX7_rooms 17 = .ok (.iload_n 3, 1) := by decide +kernel
theorem dX7_rooms_18 : decode cX7_rooms 18 = .ok (.iconst 4, 1) := by decide +kernel
theorem dX7_rooms_19 : decode cX7_rooms 19 = .ok (.if_icmp .gt 43, 3) := by decide +kernel
theorem dX7_rooms_22 : decode cX7_rooms 22 = .ok (.aload_n 0, 1) := by decide +kernel
theorem dX7_rooms_23 : decode cX7_rooms 23 = .ok (.getfield 56, 3) := by decide +kernel
theorem dX7_rooms_26 : decode cX7_rooms 26 = .ok (.aload_n 0, 1) := by decide +kernel
theorem dX7_rooms_27 : decode cX7_rooms 27 = .ok (.getfield 28, 3) := by decide +kernel
theorem dX7_rooms_30 : decode cX7_rooms 30 = .ok (.iload_n 1, 1) := by decide +kernel
theorem dX7_rooms_31 : decode cX7_rooms 31 = .ok (.aload_n 0, 1) := by decide +kernel
theorem dX7_rooms_32 : decode cX7_rooms 32 = .ok (.getfield 28, 3) := by decide +kernel
theorem dX7_rooms_35 : decode cX7_rooms 35 = .ok (.getfield 103, 3) := by decide +kernel
theorem dX7_rooms_38 : decode cX7_rooms 38 = .ok (.iload_n 1, 1) := by decide +kernel
theorem dX7_rooms_39 : decode cX7_rooms 39 = .ok (.iaload, 1) := by decide +kernel
theorem dX7_rooms_40 : decode cX7_rooms 40 = .ok (.iload_n 3, 1) := by decide +kernel
theorem dX7_rooms_41 : decode cX7_rooms 41 = .ok (.invokestatic 210, 3) := by decide +kernel
theorem dX7_rooms_44 : decode cX7_rooms 44 = .ok (.invokevirtual 213, 3) := by decide +kernel
theorem dX7_rooms_47 : decode cX7_rooms 47 = .ok (.ifCond .eq 9, 3) := by decide +kernel
theorem dX7_rooms_50 : decode cX7_rooms 50 = .ok (.iload_n 2, 1) := by decide +kernel
theorem dX7_rooms_51 : decode cX7_rooms 51 = .ok (.iconst 1, 1) := by decide +kernel
theorem dX7_rooms_52 : decode cX7_rooms 52 = .ok (.iload_n 3, 1) := by decide +kernel
theorem dX7_rooms_53 : decode cX7_rooms 53 = .ok (.ishl, 1) := by decide +kernel
