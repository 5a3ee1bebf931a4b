theorem dX8_init_0 : decode cX8_init 0 = .ok (.aload_n 0, 1) := by decide +kernel
theorem dX8_init_1 : decode cX8_init 1 = .ok (.invokespecial 1, 3) := by decide +kernel
theorem dX8_init_4 : decode cX8_init 4 = .ok (.aload_n 0, 1) := by decide +kernel
theorem dX8_init_5 : decode cX8_init 5 = .ok (.iconst 4, 1) := by decide +kernel
theorem dX8_init_6 : decode cX8_init 6 = .ok (.newarray .int, 2) := by decide +kernel
theorem dX8_init_8 : decode cX8_init 8 = .ok (.dup, 1) := by decide +kernel
theorem dX8_init_9 : decode cX8_init 9 = .ok (.iconst 0, 1) := by decide +kernel
theorem dX8_init_10 : decode cX8_init 10 = .ok (.bipush (-9), 2) := by decide +kernel
theorem dX8_init_12 : decode cX8_init 12 = .ok (.iastore, 1) := by decide +kernel
theorem dX8_init_13 : decode cX8_init 13 = .ok (.dup, 1) := by decide +kernel
theorem dX8_init_14 : decode cX8_init 14 = .ok (.iconst 1, 1) := by decide +kernel
theorem dX8_init_15 : decode cX8_init 15 = .ok (.bipush (-9), 2) := by decide +kernel
theorem dX8_init_17 : decode cX8_init 17 = .ok (.iastore, 1) := by decide +kernel
theorem dX8_init_18 : decode cX8_init 18 = .ok (.dup, 1) := by decide +kernel
theorem dX8_init_19 : decode cX8_init 19 = .ok (.iconst 2, 1) := by decide +kernel
theorem dX8_init_20 : decode cX8_init 20 = .ok (.bipush (-9), 2) := by decide +kernel
theorem dX8_init_22 : decode cX8_init 22 = .ok (.iastore, 1) := by decide +kernel
theorem dX8_init_23 : decode cX8_init 23 = .ok (.dup, 1) := by decide +kernel
theorem dX8_init_24 : decode cX8_init 24 = .ok (.iconst 3, 1) := by decide +kernel
theorem dX8_init_25 : decode cX8_init 25 = .ok (.bipush (-9), 2) := by decide +kernel
theorem dX8_init_27 : decode cX8_init 27 = .ok (.iastore, 1) := by decide +kernel
theorem dX8_init_28 : decode cX8_init 28 = .ok (.putfield 9, 3) := by decide +kernel
theorem dX8_init_31 : decode cX8_init 31 = .ok (.aload_n 0, 1) := by decide +kernel
theorem dX8_init_32 : decode cX8_init 32 = .ok (.iconst 4, 1) := by decide +kernel
theorem dX8_init_33 : decode cX8_init 33 = .ok (.newarray .int, 2) := by decide +kernel
theorem dX8_init_35 : decode cX8_init 35 = .ok (.putfield 13, 3) := by decide +kernel
theorem dX8_init_38 : decode cX8_init 38 = .ok (.aload_n 0, 1) := by decide +kernel
theorem dX8_init_39 : decode cX8_init 39 = .ok (.sipush 240, 3) := by decide +kernel
theorem dX8_init_42 : decode cX8_init 42 = .ok (.newarray .int, 2) := by decide +kernel
theorem dX8_init_44 : decode cX8_init 44 = .ok (.putfield 16, 3) := by decide +kernel
theorem dX8_init_47 : decode cX8_init 47 = .ok (.aload_n 0, 1) := by decide +kernel
theorem dX8_init_48 : decode cX8_init 48 = .ok (.iconst 5, 1) := by decide +kernel
theorem dX8_init_49 : decode cX8_init 49 = .ok (.newarray .int, 2) := by decide +kernel
theorem dX8_init_51 : decode cX8_init 51 = .ok (.putfield 19, 3) := by decide +kernel
theorem dX8_init_54 : decode cX8_init 54 = .ok (.aload_n 0, 1) := by decide +kernel
theorem dX8_init_55 : decode cX8_init 55 = .ok (.iconst 5, 1) := by decide +kernel
theorem dX8_init_56 : decode cX8_init 56 = .ok (.newarray .int, 2) := by decide +kernel
theorem dX8_init_58 : decode cX8_init 58 = .ok (.putfield 22, 3) := by decide +kernel
theorem dX8_init_61 : decode cX8_init 61 = .ok (.aload_n 0, 1) := by decide +kernel
theorem dX8_init_62 : decode cX8_init 62 = .ok (.iconst 5, 1) := by decide +kernel
theorem dX8_init_63 : decode cX8_init 63 = .ok (.newarray .int, 2) := by decide +kernel
theorem dX8_init_65 : decode cX8_init 65 = .ok (.putfield 25, 3) := by decide +kernel
theorem dX8_init_68 : decode cX8_init 68 = .ok (.aload_n 0, 1) := by decide +kernel
theorem dX8_init_69 : decode cX8_init 69 = .ok (.iconst 5, 1) := by decide +kernel
theorem dX8_init_70 : decode cX8_init 70 = .ok (.newarray .int, 2) := by decide +kernel
theorem dX8_init_72 : decode cX8_init 72 = .ok (.putfield 28, 3) := by decide +kernel
theorem dX8_init_75 : decode cX8_init 75 = .ok (.aload_n 0, 1) := by decide +kernel
theorem dX8_init_76 : decode cX8_init 76 = .ok (.iconst 5, 1) := by decide +kernel
theorem dX8_init_77 : decode cX8_init 77 = .ok (.newarray .int, 2) := by decide +kernel
theorem dX8_init_79 : decode cX8_init 79 = .ok (.putfield 31, 3) := by decide +kernel
theorem dX8_init_82 : decode cX8_init 82 = .ok (.aload_n 0, 1) := by decide +kernel
theorem dX8_init_83 : decode cX8_init 83 = .ok (.iconst 5, 1) := by decide +kernel
theorem dX8_init_84 : decode cX8_init 84 = .ok (.newarray .int, 2) := by decide +kernel
theorem dX8_init_86 : decode cX8_init 86 = .ok (.putfield 34, 3) := by decide +kernel
theorem dX8_init_89 : decode cX8_init 89 = .ok (.aload_n 0, 1) := by decide +kernel
theorem dX8_init_90 : decode cX8_init 90 = .ok (.iconst 5, 1) := by decide +kernel
theorem dX8_init_91 : decode cX8_init 91 = .ok (.newarray .int, 2) := by decide +kernel
theorem dX8_init_93 : decode cX8_init 93 = .ok (.putfield 37, 3) := by decide +kernel
theorem dX8_init_96 : decode cX8_init 96 = .ok (.aload_n 0, 1) := by decide +kernel
theorem dX8_init_97 : decode cX8_init 97 = .ok (.iconst 5, 1) := by decide +kernel
theorem dX8_init_98 : decode cX8_init 98 = .ok (.newarray .int, 2) := by decide +kernel
theorem dX8_init_100 : decode cX8_init 100 = .ok (.putfield 40, 3) := by decide +kernel
theorem dX8_init_103 : decode cX8_init 103 = .ok (.aload_n 0, 1) := by decide +kernel
theorem dX8_init_104 : decode cX8_init 104 = .ok (.iconst 5, 1) := by decide +kernel
theorem dX8_init_105 : decode cX8_init 105 = .ok (.newarray .int, 2) := by decide +kernel
theorem dX8_init_107 : decode cX8_init 107 = .ok (.putfield 43, 3) := by decide +kernel
theorem dX8_init_110 : decode cX8_init 110 = .ok (.aload_n 0, 1) := by decide +kernel
theorem dX8_init_111 : decode cX8_init 111 = .ok (.bipush 20, 2) := by decide +kernel
theorem dX8_init_113 : decode cX8_init 113 = .ok (.newarray .int, 2) := by decide +kernel
theorem dX8_init_115 : decode cX8_init 115 = .ok (.putfield 46, 3) := by decide +kernel
theorem dX8_init_118 : decode cX8_init 118 = .ok (.aload_n 0, 1) := by decide +kernel
theorem dX8_init_119 : decode cX8_init 119 = .ok (.bipush 15, 2) := by decide +kernel
theorem dX8_init_121 : decode cX8_init 121 = .ok (.newarray .int, 2) := by decide +kernel
theorem dX8_init_123 : decode cX8_init 123 = .ok (.putfield 49, 3) := by decide +kernel
theorem dX8_init_126 : decode cX8_init 126 = .ok (.aload_n 0, 1) := by decide +kernel
theorem dX8_init_127 : decode cX8_init 127 = .ok (.iconst 5, 1) := by decide +kernel
theorem dX8_init_128 : decode cX8_init 128 = .ok (.newarray .int, 2) := by decide +kernel
theorem dX8_init_130 : decode cX8_init 130 = .ok (.putfield 52, 3) := by decide +kernel
theorem dX8_init_133 : decode cX8_init 133 = .ok (.aload_n 0, 1) := by decide +kernel
theorem dX8_init_134 : decode cX8_init 134 = .ok (.iconst 5, 1) := by decide +kernel
theorem dX8_init_135 : decode cX8_init 135 = .ok (.newarray .int, 2) := by decide +kernel
theorem dX8_init_137 : decode cX8_init 137 = .ok (.putfield 55, 3) := by decide +kernel
theorem dX8_init_140 : decode cX8_init 140 = .ok (.aload_n 0, 1) := by decide +kernel
theorem dX8_init_141 : decode cX8_init 141 = .ok (.iconst 5, 1) := by decide +kernel
theorem dX8_init_142 : decode cX8_init 142 = .ok (.newarray .int, 2) := by decide +kernel
theorem dX8_init_144 : decode cX8_init 144 = .ok (.putfield 58, 3) := by decide +kernel
theorem dX8_init_147 : decode cX8_init 147 = .ok (.aload_n 0, 1) := by decide +kernel
theorem dX8_init_148 : decode cX8_init 148 = .ok (.iconst 5, 1) := by decide +kernel
theorem dX8_init_149 : decode cX8_init 149 = .ok (.newarray .int, 2) := by decide +kernel
theorem dX8_init_151 : decode cX8_init 151 = .ok (.putfield 61, 3) := by decide +kernel
theorem dX8_init_154 : decode cX8_init 154 = .ok (.aload_n 0, 1) := by decide +kernel
theorem dX8_init_155 : decode cX8_init 155 = .ok (.iconst 5, 1) := by decide +kernel
theorem dX8_init_156 : decode cX8_init 156 = .ok (.newarray .int, 2) := by decide +kernel
theorem dX8_init_158 : decode cX8_init 158 = .ok (.putfield 64, 3) := by decide +kernel
theorem dX8_init_161 : decode cX8_init 161 = .ok (.aload_n 0, 1) := by decide +kernel
theorem dX8_init_162 : decode cX8_init 162 = .ok (.iconst 5, 1) := by decide +kernel
theorem dX8_init_163 : decode cX8_init 163 = .ok (.newarray .int, 2) := by decide +kernel
theorem dX8_init_165 : decode cX8_init 165 = .ok (.putfield 67, 3) := by decide +kernel
theorem dX8_init_168 : decode cX8_init 168 = .ok (.aload_n 0, 1) := by decide +kernel
theorem dX8_init_169 : decode cX8_init 169 = .ok (.iconst 5, 1) := by decide +kernel
theorem dX8_init_170 : decode cX8_init 170 = .ok (.newarray .int, 2) := by decide +kernel
theorem dX8_init_172 : decode cX8_init 172 = .ok (.putfield 70, 3) := by decide +kernel
theorem dX8_init_175 : decode cX8_init 175 = .ok (.aload_n 0, 1) := by decide +kernel
theorem dX8_init_176 : decode cX8_init 176 = .ok (.bipush 8, 2) := by decide +kernel
theorem dX8_init_178 : decode cX8_init 178 = .ok (.newarray .int, 2) := by decide +kernel
theorem dX8_init_180 : decode cX8_init 180 = .ok (.putfield 73, 3) := by decide +kernel
theorem dX8_init_183 : decode cX8_init 183 = .ok (.aload_n 0, 1) := by decide +kernel
theorem dX8_init_184 : decode cX8_init 184 = .ok (.bipush 8, 2) := by decide +kernel
theorem dX8_init_186 : decode cX8_init 186 = .ok (.newarray .int, 2) := by decide +kernel
theorem dX8_init_188 : decode cX8_init 188 = .ok (.putfield 76, 3) := by decide +kernel
theorem dX8_init_191 : decode cX8_init 191 = .ok (.aload_n 0, 1) := by decide +kernel
theorem dX8_init_192 : decode cX8_init 192 = .ok (.bipush 8, 2) := by decide +kernel
theorem dX8_init_194 : decode cX8_init 194 = .ok (.newarray .int, 2) := by decide +kernel
theorem dX8_init_196 : decode cX8_init 196 = .ok (.putfield 79, 3) := by decide +kernel
theorem dX8_init_199 : decode cX8_init 199 = .ok (.return_, 1) := by decide +kernel
theorem dX8_fails_0 : decode cX8_fails 0 = .ok (.aload_n 0, 1) := by decide +kernel
theorem dX8_fails_1 : decode cX8_fails 1 = .ok (.iload_n 1, 1) := by decide +kernel
theorem dX8_fails_2 : decode cX8_fails 2 = .ok (.putfield 82, 3) := by decide +kernel
theorem dX8_fails_5 : decode cX8_fails 5 = .ok (.bipush (-10), 2) := by decide +kernel
theorem dX8_fails_7 : decode cX8_fails 7 = .ok (.iload_n 1, 1) := by decide +kernel
theorem dX8_fails_8 : decode cX8_fails 8 = .ok (.isub, 1) := by decide +kernel
theorem dX8_fails_9 : decode cX8_fails 9 = .ok (.ireturn, 1) := by decide +kernel
theorem dX8_lost_0 : decode cX8_lost 0 = .ok (.aload_n 0, 1) := by decide +kernel
theorem dX8_lost_1 : decode cX8_lost 1 = .ok (.iload_n 1, 1) := by decide +kernel
theorem dX8_lost_2 : decode cX8_lost 2 = .ok (.putfield 82, 3) := by decide +kernel
theorem dX8_lost_5 : decode cX8_lost 5 = .ok (.ldc2_w 86, 3) := by decide +kernel
theorem dX8_lost_8 : decode cX8_lost 8 = .ok (.lreturn, 1) := by decide +kernel
theorem dX8_within_0 : decode cX8_within 0 = .ok (.iload_n 0, 1) := by decide +kernel
theorem dX8_within_1 : decode cX8_within 1 = .ok (.iload_n 1, 1) := by decide +kernel
theorem dX8_within_2 : decode cX8_within 2 = .ok (.if_icmp .lt 12, 3) := by decide +kernel
theorem dX8_within_5 : decode cX8_within 5 = .ok (.iload_n 0, 1) := by decide +kernel
theorem dX8_within_6 : decode cX8_within 6 = .ok (.iload_n 2, 1) := by decide +kernel
theorem dX8_within_7 : decode cX8_within 7 = .ok (.if_icmp .gt 7, 3) := by decide +kernel
theorem dX8_within_10 : decode cX8_within 10 = .ok (.iconst 1, 1) := by decide +kernel
theorem dX8_within_11 : decode cX8_within 11 = .ok (.goto 4, 3) := by decide +kernel
theorem dX8_within_14 : decode cX8_within 14 = .ok (.iconst 0, 1) := by decide +kernel
theorem dX8_within_15 : decode cX8_within 15 = .ok (.ireturn, 1) := by decide +kernel
theorem dX8_isSheet_0 : decode cX8_isSheet 0 = .ok (.iload_n 0, 1) := by decide +kernel
theorem dX8_isSheet_1 : decode cX8_isSheet 1 = .ok (.iconst 0, 1) := by decide +kernel
theorem dX8_isSheet_2 : decode cX8_isSheet 2 = .ok (.iconst 3, 1) := by decide +kernel
theorem dX8_isSheet_3 : decode cX8_isSheet 3 = .ok (.invokestatic 88, 3) := by decide +kernel
theorem dX8_isSheet_6 : decode cX8_isSheet 6 = .ok (.ireturn, 1) := by decide +kernel
theorem dX8_isSort_0 : decode cX8_isSort 0 = .ok (.iload_n 0, 1) := by decide +kernel
theorem dX8_isSort_1 : decode cX8_isSort 1 = .ok (.iconst 0, 1) := by decide +kernel
theorem dX8_isSort_2 : decode cX8_isSort 2 = .ok (.iconst 2, 1) := by decide +kernel
theorem dX8_isSort_3 : decode cX8_isSort 3 = .ok (.invokestatic 88, 3) := by decide +kernel
theorem dX8_isSort_6 : decode cX8_isSort 6 = .ok (.ireturn, 1) := by decide +kernel
theorem dX8_against_0 : decode cX8_against 0 = .ok (.aload_n 0, 1) := by decide +kernel
theorem dX8_against_1 : decode cX8_against 1 = .ok (.getfield 9, 3) := by decide +kernel
theorem dX8_against_4 : decode cX8_against 4 = .ok (.iload_n 1, 1) := by decide +kernel
theorem dX8_against_5 : decode cX8_against 5 = .ok (.iaload, 1) := by decide +kernel
theorem dX8_against_6 : decode cX8_against 6 = .ok (.bipush (-9), 2) := by decide +kernel
theorem dX8_against_8 : decode cX8_against 8 = .ok (.if_icmp .eq 15, 3) := by decide +kernel
theorem dX8_against_11 : decode cX8_against 11 = .ok (.aload_n 0, 1) := by decide +kernel
theorem dX8_against_12 : decode cX8_against 12 = .ok (.getfield 9, 3) := by decide +kernel
theorem dX8_against_15 : decode cX8_against 15 = .ok (.iload_n 1, 1) := by decide +kernel
theorem dX8_against_16 : decode cX8_against 16 = .ok (.iaload, 1) := by decide +kernel
theorem dX8_against_17 : decode cX8_against 17 = .ok (.iload_n 2, 1) := by decide +kernel
theorem dX8_against_18 : decode cX8_against 18 = .ok (.if_icmp .eq 5, 3) := by decide +kernel
theorem dX8_against_21 : decode cX8_against 21 = .ok (.iconst 2, 1) := by decide +kernel
theorem dX8_against_22 : decode cX8_against 22 = .ok (.ireturn, 1) := by decide +kernel
theorem dX8_against_23 : decode cX8_against 23 = .ok (.aload_n 0, 1) := by decide +kernel
theorem dX8_against_24 : decode cX8_against 24 = .ok (.getfield 9, 3) := by decide +kernel
theorem dX8_against_27 : decode cX8_against 27 = .ok (.iload_n 1, 1) := by decide +kernel
theorem dX8_against_28 : decode cX8_against 28 = .ok (.iaload, 1) := by decide +kernel
theorem dX8_against_29 : decode cX8_against 29 = .ok (.bipush (-9), 2) := by decide +kernel
theorem dX8_against_31 : decode cX8_against 31 = .ok (.if_icmp .ne 5, 3) := by decide +kernel
theorem dX8_against_34 : decode cX8_against 34 = .ok (.iconst 1, 1) := by decide +kernel
theorem dX8_against_35 : decode cX8_against 35 = .ok (.ireturn, 1) := by decide +kernel
theorem dX8_against_36 : decode cX8_against 36 = .ok (.iload 4, 2) := by decide +kernel
theorem dX8_against_38 : decode cX8_against 38 = .ok (.ifCond .ge 5, 3) := by decide +kernel
theorem dX8_against_41 : decode cX8_against 41 = .ok (.iconst 4, 1) := by decide +kernel
theorem dX8_against_42 : decode cX8_against 42 = .ok (.ireturn, 1) := by decide +kernel
theorem dX8_against_43 : decode cX8_against 43 = .ok (.iload_n 3, 1) := by decide +kernel
theorem dX8_against_44 : decode cX8_against 44 = .ok (.ifCond .lt 26, 3) := by decide +kernel
theorem dX8_against_47 : decode cX8_against 47 = .ok (.iload_n 3, 1) := by decide +kernel
theorem dX8_against_48 : decode cX8_against 48 = .ok (.aload_n 0, 1) := by decide +kernel
theorem dX8_against_49 : decode cX8_against 49 = .ok (.getfield 13, 3) := by decide +kernel
theorem dX8_against_52 : decode cX8_against 52 = .ok (.iload_n 1, 1) := by decide +kernel
theorem dX8_against_53 : decode cX8_against 53 = .ok (.iaload, 1) := by decide +kernel
theorem dX8_against_54 : decode cX8_against 54 = .ok (.if_icmp .gt 16, 3) := by decide +kernel
theorem dX8_against_57 : decode cX8_against 57 = .ok (.iload 4, 2) := by decide +kernel
theorem dX8_against_59 : decode cX8_against 59 = .ok (.aload_n 0, 1) := by decide +kernel
theorem dX8_against_60 : decode cX8_against 60 = .ok (.getfield 13, 3) := by decide +kernel
theorem dX8_against_63 : decode cX8_against 63 = .ok (.iload_n 1, 1) := by decide +kernel
theorem dX8_against_64 : decode cX8_against 64 = .ok (.iaload, 1) := by decide +kernel
theorem dX8_against_65 : decode cX8_against 65 = .ok (.iload_n 3, 1) := by decide +kernel
theorem dX8_against_66 : decode cX8_against 66 = .ok (.isub, 1) := by decide +kernel
theorem dX8_against_67 : decode cX8_against 67 = .ok (.if_icmp .le 7, 3) := by decide +kernel
theorem dX8_against_70 : decode cX8_against 70 = .ok (.iconst 3, 1) := by decide +kernel
theorem dX8_against_71 : decode cX8_against 71 = .ok (.goto 4, 3) := by decide +kernel
theorem dX8_against_74 : decode cX8_against 74 = .ok (.iconst 0, 1) := by decide +kernel
theorem dX8_against_75 : decode cX8_against 75 = .ok (.ireturn, 1) := by decide +kernel
theorem dX8_isBarrow_0 : decode cX8_isBarrow 0 = .ok (.iload_n 1, 1) := by decide +kernel
theorem dX8_isBarrow_1 : decode cX8_isBarrow 1 = .ok (.ifCond .lt 15, 3) := by decide +kernel
theorem dX8_isBarrow_4 : decode cX8_isBarrow 4 = .ok (.iload_n 1, 1) := by decide +kernel
theorem dX8_isBarrow_5 : decode cX8_isBarrow 5 = .ok (.aload_n 0, 1) := by decide +kernel
theorem dX8_isBarrow_6 : decode cX8_isBarrow 6 = .ok (.getfield 92, 3) := by decide +kernel
theorem dX8_isBarrow_9 : decode cX8_isBarrow 9 = .ok (.if_icmp .ge 7, 3) := by decide +kernel
theorem dX8_isBarrow_12 : decode cX8_isBarrow 12 = .ok (.iconst 1, 1) := by decide +kernel
theorem dX8_isBarrow_13 : decode cX8_isBarrow 13 = .ok (.goto 4, 3) := by decide +kernel
theorem dX8_isBarrow_16 : decode cX8_isBarrow 16 = .ok (.iconst 0, 1) := by decide +kernel
theorem dX8_isBarrow_17 : decode cX8_isBarrow 17 = .ok (.ireturn, 1) := by decide +kernel
theorem dX8_isWalker_0 : decode cX8_isWalker 0 = .ok (.iload_n 1, 1) := by decide +kernel
theorem dX8_isWalker_1 : decode cX8_isWalker 1 = .ok (.ifCond .lt 15, 3) := by decide +kernel
theorem dX8_isWalker_4 : decode cX8_isWalker 4 = .ok (.iload_n 1, 1) := by decide +kernel
theorem dX8_isWalker_5 : decode cX8_isWalker 5 = .ok (.aload_n 0, 1) := by decide +kernel
theorem dX8_isWalker_6 : decode cX8_isWalker 6 = .ok (.getfield 95, 3) := by decide +kernel
theorem dX8_isWalker_9 : decode cX8_isWalker 9 = .ok (.if_icmp .ge 7, 3) := by decide +kernel
theorem dX8_isWalker_12 : decode cX8_isWalker 12 = .ok (.iconst 1, 1) := by decide +kernel
theorem dX8_isWalker_13 : decode cX8_isWalker 13 = .ok (.goto 4, 3) := by decide +kernel
theorem dX8_isWalker_16 : decode cX8_isWalker 16 = .ok (.iconst 0, 1) := by decide +kernel
theorem dX8_isWalker_17 : decode cX8_isWalker 17 = .ok (.ireturn, 1) := by decide +kernel
theorem dX8_digit_0 : decode cX8_digit 0 = .ok (.aload_n 0, 1) := by decide +kernel
theorem dX8_digit_1 : decode cX8_digit 1 = .ok (.getfield 98, 3) := by decide +kernel
theorem dX8_digit_4 : decode cX8_digit 4 = .ok (.iload_n 1, 1) := by decide +kernel
theorem dX8_digit_5 : decode cX8_digit 5 = .ok (.if_icmp .ge 26, 3) := by decide +kernel
theorem dX8_digit_8 : decode cX8_digit 8 = .ok (.aload_n 0, 1) := by decide +kernel
theorem dX8_digit_9 : decode cX8_digit 9 = .ok (.getfield 16, 3) := by decide +kernel
theorem dX8_digit_12 : decode cX8_digit 12 = .ok (.aload_n 0, 1) := by decide +kernel
theorem dX8_digit_13 : decode cX8_digit 13 = .ok (.getfield 98, 3) := by decide +kernel
theorem dX8_digit_16 : decode cX8_digit 16 = .ok (.iaload, 1) := by decide +kernel
theorem dX8_digit_17 : decode cX8_digit 17 = .ok (.bipush 48, 2) := by decide +kernel
theorem dX8_digit_19 : decode cX8_digit 19 = .ok (.iload_n 2, 1) := by decide +kernel
theorem dX8_digit_20 : decode cX8_digit 20 = .ok (.iadd, 1) := by decide +kernel
theorem dX8_digit_21 : decode cX8_digit 21 = .ok (.bipush 48, 2) := by decide +kernel
theorem dX8_digit_23 : decode cX8_digit 23 = .ok (.iload_n 3, 1) := by decide +kernel
theorem dX8_digit_24 : decode cX8_digit 24 = .ok (.iadd, 1) := by decide +kernel
theorem dX8_digit_25 : decode cX8_digit 25 = .ok (.invokestatic 88, 3) := by decide +kernel
theorem dX8_digit_28 : decode cX8_digit 28 = .ok (.ifCond .ne 6, 3) := by decide +kernel
theorem dX8_digit_31 : decode cX8_digit 31 = .ok (.bipush (-9), 2) := by decide +kernel
theorem dX8_digit_33 : decode cX8_digit 33 = .ok (.ireturn, 1) := by decide +kernel
theorem dX8_digit_34 : decode cX8_digit 34 = .ok (.aload_n 0, 1) := by decide +kernel
theorem dX8_digit_35 : decode cX8_digit 35 = .ok (.dup, 1) := by decide +kernel
theorem dX8_digit_36 : decode cX8_digit 36 = .ok (.getfield 98, 3) := by decide +kernel
theorem dX8_digit_39 : decode cX8_digit 39 = .ok (.iconst 1, 1) := by decide +kernel
theorem dX8_digit_40 : decode cX8_digit 40 = .ok (.iadd, 1) := by decide +kernel
theorem dX8_digit_41 : decode cX8_digit 41 = .ok (.putfield 98, 3) := by decide +kernel
theorem dX8_digit_44 : decode cX8_digit 44 = .ok (.aload_n 0, 1) := by decide +kernel
theorem dX8_digit_45 : decode cX8_digit 45 = .ok (.getfield 16, 3) := by decide +kernel
theorem dX8_digit_48 : decode cX8_digit 48 = .ok (.aload_n 0, 1) := by decide +kernel
theorem dX8_digit_49 : decode cX8_digit 49 = .ok (.getfield 98, 3) := by decide +kernel
theorem dX8_digit_52 : decode cX8_digit 52 = .ok (.iconst 1, 1) := by decide +kernel
theorem dX8_digit_53 : decode cX8_digit 53 = .ok (.isub, 1) := by decide +kernel
theorem dX8_digit_54 : decode cX8_digit 54 = .ok (.iaload, 1) := by decide +kernel
theorem dX8_digit_55 : decode cX8_digit 55 = .ok (.bipush 48, 2) := by decide +kernel
theorem dX8_digit_57 : decode cX8_digit 57 = .ok (.isub, 1) := by decide +kernel
theorem dX8_digit_58 : decode cX8_digit 58 = .ok (.ireturn, 1) := by decide +kernel
theorem dX8_isSign_0 : decode cX8_isSign 0 = .ok (.aload_n 0, 1) := by decide +kernel
theorem dX8_isSign_1 : decode cX8_isSign 1 = .ok (.getfield 98, 3) := by decide +kernel
theorem dX8_isSign_4 : decode cX8_isSign 4 = .ok (.iload_n 1, 1) := by decide +kernel
theorem dX8_isSign_5 : decode cX8_isSign 5 = .ok (.if_icmp .ge 16, 3) := by decide +kernel
theorem dX8_isSign_8 : decode cX8_isSign 8 = .ok (.aload_n 0, 1) := by decide +kernel
theorem dX8_isSign_9 : decode cX8_isSign 9 = .ok (.getfield 16, 3) := by decide +kernel
theorem dX8_isSign_12 : decode cX8_isSign 12 = .ok (.aload_n 0, 1) := by decide +kernel
theorem dX8_isSign_13 : decode cX8_isSign 13 = .ok (.getfield 98, 3) := by decide +kernel
theorem dX8_isSign_16 : decode cX8_isSign 16 = .ok (.iaload, 1) := by decide +kernel
theorem dX8_isSign_17 : decode cX8_isSign 17 = .ok (.iload_n 2, 1) := by decide +kernel
theorem dX8_isSign_18 : decode cX8_isSign 18 = .ok (.if_icmp .eq 5, 3) := by decide +kernel
theorem dX8_isSign_21 : decode cX8_isSign 21 = .ok (.iconst 0, 1) := by decide +kernel
theorem dX8_isSign_22 : decode cX8_isSign 22 = .ok (.ireturn, 1) := by decide +kernel
theorem dX8_isSign_23 : decode cX8_isSign 23 = .ok (.aload_n 0, 1) := by decide +kernel
theorem dX8_isSign_24 : decode cX8_isSign 24 = .ok (.dup, 1) := by decide +kernel
theorem dX8_isSign_25 : decode cX8_isSign 25 = .ok (.getfield 98, 3) := by decide +kernel
theorem dX8_isSign_28 : decode cX8_isSign 28 = .ok (.iconst 1, 1) := by decide +kernel
theorem dX8_isSign_29 : decode cX8_isSign 29 = .ok (.iadd, 1) := by decide +kernel
theorem dX8_isSign_30 : decode cX8_isSign 30 = .ok (.putfield 98, 3) := by decide +kernel
theorem dX8_isSign_33 : decode cX8_isSign 33 = .ok (.iconst 1, 1) := by decide +kernel
theorem dX8_isSign_34 : decode cX8_isSign 34 = .ok (.ireturn, 1) := by decide +kernel
theorem dX8_down_0 : decode cX8_down 0 = .ok (.aload_n 0, 1) := by decide +kernel
theorem dX8_down_1 : decode cX8_down 1 = .ok (.iconst 0, 1) := by decide +kernel
theorem dX8_down_2 : decode cX8_down 2 = .ok (.putfield 82, 3) := by decide +kernel
theorem dX8_down_5 : decode cX8_down 5 = .ok (.iload_n 1, 1) := by decide +kernel
theorem dX8_down_6 : decode cX8_down 6 = .ok (.invokestatic 101, 3) := by decide +kernel
theorem dX8_down_9 : decode cX8_down 9 = .ok (.ifCond .ne 5, 3) := by decide +kernel
theorem dX8_down_12 : decode cX8_down 12 = .ok (.iconst (-1), 1) := by decide +kernel
theorem dX8_down_13 : decode cX8_down 13 = .ok (.ireturn, 1) := by decide +kernel
theorem dX8_down_14 : decode cX8_down 14 = .ok (.iload_n 2, 1) := by decide +kernel
theorem dX8_down_15 : decode cX8_down 15 = .ok (.invokestatic 105, 3) := by decide +kernel
theorem dX8_down_18 : decode cX8_down 18 = .ok (.ifCond .ne 6, 3) := by decide +kernel
theorem dX8_down_21 : decode cX8_down 21 = .ok (.bipush (-2), 2) := by decide +kernel
theorem dX8_down_23 : decode cX8_down 23 = .ok (.ireturn, 1) := by decide +kernel
theorem dX8_down_24 : decode cX8_down 24 = .ok (.aload_n 0, 1) := by decide +kernel
theorem dX8_down_25 : decode cX8_down 25 = .ok (.iload_n 1, 1) := by decide +kernel
theorem dX8_down_26 : decode cX8_down 26 = .ok (.iload_n 2, 1) := by decide +kernel
theorem dX8_down_27 : decode cX8_down 27 = .ok (.iload_n 3, 1) := by decide +kernel
theorem dX8_down_28 : decode cX8_down 28 = .ok (.iload 4, 2) := by decide +kernel
theorem dX8_down_30 : decode cX8_down 30 = .ok (.invokevirtual 108, 3) := by decide +kernel
theorem dX8_down_33 : decode cX8_down 33 = .ok (.istore 5, 2) := by decide +kernel
theorem dX8_down_35 : decode cX8_down 35 = .ok (.iload 5, 2) := by decide +kernel
theorem dX8_down_37 : decode cX8_down 37 = .ok (.ifCond .eq 10, 3) := by decide +kernel
theorem dX8_down_40 : decode cX8_down 40 = .ok (.aload_n 0, 1) := by decide +kernel
theorem dX8_down_41 : decode cX8_down 41 = .ok (.iload 5, 2) := by decide +kernel
theorem dX8_down_43 : decode cX8_down 43 = .ok (.invokevirtual 112, 3) := by decide +kernel
theorem dX8_down_46 : decode cX8_down 46 = .ok (.ireturn, 1) := by decide +kernel
theorem dX8_down_47 : decode cX8_down 47 = .ok (.bipush 60, 2) := by decide +kernel
theorem dX8_down_49 : decode cX8_down 49 = .ok (.iload_n 1, 1) := by decide +kernel
theorem dX8_down_50 : decode cX8_down 50 = .ok (.imul, 1) := by decide +kernel
theorem dX8_down_51 : decode cX8_down 51 = .ok (.iload_n 3, 1) := by decide +kernel
theorem dX8_down_52 : decode cX8_down 52 = .ok (.iadd, 1) := by decide +kernel
theorem dX8_down_53 : decode cX8_down 53 = .ok (.istore 6, 2) := by decide +kernel
theorem dX8_down_55 : decode cX8_down 55 = .ok (.aload_n 0, 1) := by decide +kernel
theorem dX8_down_56 : decode cX8_down 56 = .ok (.iload 6, 2) := by decide +kernel
theorem dX8_down_58 : decode cX8_down 58 = .ok (.putfield 98, 3) := by decide +kernel
theorem dX8_down_61 : decode cX8_down 61 = .ok (.aload_n 0, 1) := by decide +kernel
theorem dX8_down_62 : decode cX8_down 62 = .ok (.iload 6, 2) := by decide +kernel
theorem dX8_down_64 : decode cX8_down 64 = .ok (.iload 4, 2) := by decide +kernel
theorem dX8_down_66 : decode cX8_down 66 = .ok (.iadd, 1) := by decide +kernel
theorem dX8_down_67 : decode cX8_down 67 = .ok (.invokevirtual 116, 3) := by decide +kernel
theorem dX8_down_70 : decode cX8_down 70 = .ok (.ifCond .ne 14, 3) := by decide +kernel
theorem dX8_down_73 : decode cX8_down 73 = .ok (.bipush (-100), 2) := by decide +kernel
theorem dX8_down_75 : decode cX8_down 75 = .ok (.aload_n 0, 1) := by decide +kernel
theorem dX8_down_76 : decode cX8_down 76 = .ok (.getfield 98, 3) := by decide +kernel
theorem dX8_down_79 : decode cX8_down 79 = .ok (.iload 6, 2) := by decide +kernel
theorem dX8_down_81 : decode cX8_down 81 = .ok (.isub, 1) := by decide +kernel
theorem dX8_down_82 : decode cX8_down 82 = .ok (.isub, 1) := by decide +kernel
theorem dX8_down_83 : decode cX8_down 83 = .ok (.ireturn, 1) := by decide +kernel
theorem dX8_down_84 : decode cX8_down 84 = .ok (.aload_n 0, 1) := by decide +kernel
theorem dX8_down_85 : decode cX8_down 85 = .ok (.invokevirtual 119, 3) := by decide +kernel
theorem dX8_down_88 : decode cX8_down 88 = .ok (.aload_n 0, 1) := by decide +kernel
theorem dX8_down_89 : decode cX8_down 89 = .ok (.getfield 92, 3) := by decide +kernel
theorem dX8_down_92 : decode cX8_down 92 = .ok (.ireturn, 1) := by decide +kernel
theorem dX8_takeDown_0 : decode cX8_takeDown 0 = .ok (.aload_n 0, 1) := by decide +kernel
theorem dX8_takeDown_1 : decode cX8_takeDown 1 = .ok (.aload_n 0, 1) := by decide +kernel
theorem dX8_takeDown_2 : decode cX8_takeDown 2 = .ok (.getfield 122, 3) := by decide +kernel
theorem dX8_takeDown_5 : decode cX8_takeDown 5 = .ok (.putfield 92, 3) := by decide +kernel
theorem dX8_takeDown_8 : decode cX8_takeDown 8 = .ok (.iconst 0, 1) := by decide +kernel
theorem dX8_takeDown_9 : decode cX8_takeDown 9 = .ok (.istore_n 1, 1) := by decide +kernel
theorem dX8_takeDown_10 : decode cX8_takeDown 10 = .ok (.iload_n 1, 1) := by decide +kernel
theorem dX8_takeDown_11 : decode cX8_takeDown 11 = .ok (.aload_n 0, 1) := by decide +kernel
theorem dX8_takeDown_12 : decode cX8_takeDown 12 = .ok (.getfield 92, 3) := by decide +kernel
theorem dX8_takeDown_15 : decode cX8_takeDown 15 = .ok (.if_icmp .ge 71, 3) := by decide +kernel
theorem dX8_takeDown_18 : decode cX8_takeDown 18 = .ok (.aload_n 0, 1) := by decide +kernel
theorem dX8_takeDown_19 : decode cX8_takeDown 19 = .ok (.getfield 19, 3) := by decide +kernel
theorem dX8_takeDown_22 : decode cX8_takeDown 22 = .ok (.iload_n 1, 1) := by decide +kernel
theorem dX8_takeDown_23 : decode cX8_takeDown 23 = .ok (.aload_n 0, 1) := by decide +kernel
theorem dX8_takeDown_24 : decode cX8_takeDown 24 = .ok (.getfield 46, 3) := by decide +kernel
theorem dX8_takeDown_27 : decode cX8_takeDown 27 = .ok (.iconst 4, 1) := by decide +kernel
theorem dX8_takeDown_28 : decode cX8_takeDown 28 = .ok (.iload_n 1, 1) := by decide +kernel
theorem dX8_takeDown_29 : decode cX8_takeDown 29 = .ok (.imul, 1) := by decide +kernel
theorem dX8_takeDown_30 : decode cX8_takeDown 30 = .ok (.iaload, 1) := by decide +kernel
theorem dX8_takeDown_31 : decode cX8_takeDown 31 = .ok (.iastore, 1) := by decide +kernel
theorem dX8_takeDown_32 : decode cX8_takeDown 32 = .ok (.aload_n 0, 1) := by decide +kernel
theorem dX8_takeDown_33 : decode cX8_takeDown 33 = .ok (.getfield 22, 3) := by decide +kernel
theorem dX8_takeDown_36 : decode cX8_takeDown 36 = .ok (.iload_n 1, 1) := by decide +kernel
theorem dX8_takeDown_37 : decode cX8_takeDown 37 = .ok (.aload_n 0, 1) := by decide +kernel
theorem dX8_takeDown_38 : decode cX8_takeDown 38 = .ok (.getfield 46, 3) := by decide +kernel
theorem dX8_takeDown_41 : decode cX8_takeDown 41 = .ok (.iconst 4, 1) := by decide +kernel
theorem dX8_takeDown_42 : decode cX8_takeDown 42 = .ok (.iload_n 1, 1) := by decide +kernel
theorem dX8_takeDown_43 : decode cX8_takeDown 43 = .ok (.imul, 1) := by decide +kernel
theorem dX8_takeDown_44 : decode cX8_takeDown 44 = .ok (.iconst 1, 1) := by decide +kernel
theorem dX8_takeDown_45 : decode cX8_takeDown 45 = .ok (.iadd, 1) := by decide +kernel
theorem dX8_takeDown_46 : decode cX8_takeDown 46 = .ok (.iaload, 1) := by decide +kernel
theorem dX8_takeDown_47 : decode cX8_takeDown 47 = .ok (.iastore, 1) := by decide +kernel
theorem dX8_takeDown_48 : decode cX8_takeDown 48 = .ok (.aload_n 0, 1) := by decide +kernel
theorem dX8_takeDown_49 : decode cX8_takeDown 49 = .ok (.getfield 25, 3) := by decide +kernel
theorem dX8_takeDown_52 : decode cX8_takeDown 52 = .ok (.iload_n 1, 1) := by decide +kernel
theorem dX8_takeDown_53 : decode cX8_takeDown 53 = .ok (.aload_n 0, 1) := by decide +kernel
theorem dX8_takeDown_54 : decode cX8_takeDown 54 = .ok (.getfield 46, 3) := by decide +kernel
theorem dX8_takeDown_57 : decode cX8_takeDown 57 = .ok (.iconst 4, 1) := by decide +kernel
theorem dX8_takeDown_58 : decode cX8_takeDown 58 = .ok (.iload_n 1, 1) := by decide +kernel
theorem dX8_takeDown_59 : decode cX8_takeDown 59 = .ok (.imul, 1) := by decide +kernel
theorem dX8_takeDown_60 : decode cX8_takeDown 60 = .ok (.iconst 2, 1) := by decide +kernel
theorem dX8_takeDown_61 : decode cX8_takeDown 61 = .ok (.iadd, 1) := by decide +kernel
theorem dX8_takeDown_62 : decode cX8_takeDown 62 = .ok (.iaload, 1) := by decide +kernel
theorem dX8_takeDown_63 : decode cX8_takeDown 63 = .ok (.iastore, 1) := by decide +kernel
theorem dX8_takeDown_64 : decode cX8_takeDown 64 = .ok (.aload_n 0, 1) := by decide +kernel
theorem dX8_takeDown_65 : decode cX8_takeDown 65 = .ok (.getfield 28, 3) := by decide +kernel
theorem dX8_takeDown_68 : decode cX8_takeDown 68 = .ok (.iload_n 1, 1) := by decide +kernel
theorem dX8_takeDown_69 : decode cX8_takeDown 69 = .ok (.aload_n 0, 1) := by decide +kernel
theorem dX8_takeDown_70 : decode cX8_takeDown 70 = .ok (.getfield 46, 3) := by decide +kernel
theorem dX8_takeDown_73 : decode cX8_takeDown 73 = .ok (.iconst 4, 1) := by decide +kernel
theorem dX8_takeDown_74 : decode cX8_takeDown 74 = .ok (.iload_n 1, 1) := by decide +kernel
theorem dX8_takeDown_75 : decode cX8_takeDown 75 = .ok (.imul, 1) := by decide +kernel
theorem dX8_takeDown_76 : decode cX8_takeDown 76 = .ok (.iconst 3, 1) := by decide +kernel
theorem dX8_takeDown_77 : decode cX8_takeDown 77 = .ok (.iadd, 1) := by decide +kernel
theorem dX8_takeDown_78 : decode cX8_takeDown 78 = .ok (.iaload, 1) := by decide +kernel
theorem dX8_takeDown_79 : decode cX8_takeDown 79 = .ok (.iastore, 1) := by decide +kernel
theorem dX8_takeDown_80 : decode cX8_takeDown 80 = .ok (.iinc 1 1, 3) := by decide +kernel
theorem dX8_takeDown_83 : decode cX8_takeDown 83 = .ok (.goto (-73), 3) := by decide +kernel
theorem dX8_takeDown_86 : decode cX8_takeDown 86 = .ok (.aload_n 0, 1) := by decide +kernel
theorem dX8_takeDown_87 : decode cX8_takeDown 87 = .ok (.aload_n 0, 1) := by decide +kernel
theorem dX8_takeDown_88 : decode cX8_takeDown 88 = .ok (.getfield 125, 3) := by decide +kernel
theorem dX8_takeDown_91 : decode cX8_takeDown 91 = .ok (.putfield 95, 3) := by decide +kernel
theorem dX8_takeDown_94 : decode cX8_takeDown 94 = .ok (.iconst 0, 1) := by decide +kernel
theorem dX8_takeDown_95 : decode cX8_takeDown 95 = .ok (.istore_n 1, 1) := by decide +kernel
theorem dX8_takeDown_96 : decode cX8_takeDown 96 = .ok (.iload_n 1, 1) := by decide +kernel
theorem dX8_takeDown_97 : decode cX8_takeDown 97 = .ok (.aload_n 0, 1) := by decide +kernel
theorem dX8_takeDown_98 : decode cX8_takeDown 98 = .ok (.getfield 95, 3) := by decide +kernel
theorem dX8_takeDown_101 : decode cX8_takeDown 101 = .ok (.if_icmp .ge 70, 3) := by decide +kernel
theorem dX8_takeDown_104 : decode cX8_takeDown 104 = .ok (.aload_n 0, 1) := by decide +kernel
theorem dX8_takeDown_105 : decode cX8_takeDown 105 = .ok (.getfield 31, 3) := by decide +kernel
theorem dX8_takeDown_108 : decode cX8_takeDown 108 = .ok (.iload_n 1, 1) := by decide +kernel
theorem dX8_takeDown_109 : decode cX8_takeDown 109 = .ok (.aload_n 0, 1) := by decide +kernel
theorem dX8_takeDown_110 : decode cX8_takeDown 110 = .ok (.getfield 49, 3) := by decide +kernel
theorem dX8_takeDown_113 : decode cX8_takeDown 113 = .ok (.iconst 3, 1) := by decide +kernel
theorem dX8_takeDown_114 : decode cX8_takeDown 114 = .ok (.iload_n 1, 1) := by decide +kernel
theorem dX8_takeDown_115 : decode cX8_takeDown 115 = .ok (.imul, 1) := by decide +kernel
theorem dX8_takeDown_116 : decode cX8_takeDown 116 = .ok (.iaload, 1) := by decide +kernel
theorem dX8_takeDown_117 : decode cX8_takeDown 117 = .ok (.iastore, 1) := by decide +kernel
theorem dX8_takeDown_118 : decode cX8_takeDown 118 = .ok (.aload_n 0, 1) := by decide +kernel
theorem dX8_takeDown_119 : decode cX8_takeDown 119 = .ok (.getfield 34, 3) := by decide +kernel
theorem dX8_takeDown_122 : decode cX8_takeDown 122 = .ok (.iload_n 1, 1) := by decide +kernel
theorem dX8_takeDown_123 : decode cX8_takeDown 123 = .ok (.aload_n 0, 1) := by decide +kernel
theorem dX8_takeDown_124 : decode cX8_takeDown 124 = .ok (.getfield 49, 3) := by decide +kernel
theorem dX8_takeDown_127 : decode cX8_takeDown 127 = .ok (.iconst 3, 1) := by decide +kernel
theorem dX8_takeDown_128 : decode cX8_takeDown 128 = .ok (.iload_n 1, 1) := by decide +kernel
theorem dX8_takeDown_129 : decode cX8_takeDown 129 = .ok (.imul, 1) := by decide +kernel
theorem dX8_takeDown_130 : decode cX8_takeDown 130 = .ok (.iconst 1, 1) := by decide +kernel
theorem dX8_takeDown_131 : decode cX8_takeDown 131 = .ok (.iadd, 1) := by decide +kernel
theorem dX8_takeDown_132 : decode cX8_takeDown 132 = .ok (.iaload, 1) := by decide +kernel
theorem dX8_takeDown_133 : decode cX8_takeDown 133 = .ok (.iastore, 1) := by decide +kernel
theorem dX8_takeDown_134 : decode cX8_takeDown 134 = .ok (.aload_n 0, 1) := by decide +kernel
theorem dX8_takeDown_135 : decode cX8_takeDown 135 = .ok (.getfield 37, 3) := by decide +kernel
theorem dX8_takeDown_138 : decode cX8_takeDown 138 = .ok (.iload_n 1, 1) := by decide +kernel
theorem dX8_takeDown_139 : decode cX8_takeDown 139 = .ok (.aload_n 0, 1) := by decide +kernel
theorem dX8_takeDown_140 : decode cX8_takeDown 140 = .ok (.getfield 49, 3) := by decide +kernel
theorem dX8_takeDown_143 : decode cX8_takeDown 143 = .ok (.iconst 3, 1) := by decide +kernel
theorem dX8_takeDown_144 : decode cX8_takeDown 144 = .ok (.iload_n 1, 1) := by decide +kernel
theorem dX8_takeDown_145 : decode cX8_takeDown 145 = .ok (.imul, 1) := by decide +kernel
theorem dX8_takeDown_146 : decode cX8_takeDown 146 = .ok (.iconst 2, 1) := by decide +kernel
theorem dX8_takeDown_147 : decode cX8_takeDown 147 = .ok (.iadd, 1) := by decide +kernel
theorem dX8_takeDown_148 : decode cX8_takeDown 148 = .ok (.iaload, 1) := by decide +kernel
theorem dX8_takeDown_149 : decode cX8_takeDown 149 = .ok (.iastore, 1) := by decide +kernel
theorem dX8_takeDown_150 : decode cX8_takeDown 150 = .ok (.aload_n 0, 1) := by decide +kernel
theorem dX8_takeDown_151 : decode cX8_takeDown 151 = .ok (.getfield 40, 3) := by decide +kernel
theorem dX8_takeDown_154 : decode cX8_takeDown 154 = .ok (.iload_n 1, 1) := by decide +kernel
theorem dX8_takeDown_155 : decode cX8_takeDown 155 = .ok (.bipush (-9), 2) := by decide +kernel
theorem dX8_takeDown_157 : decode cX8_takeDown 157 = .ok (.iastore, 1) := by decide +kernel
theorem dX8_takeDown_158 : decode cX8_takeDown 158 = .ok (.aload_n 0, 1) := by decide +kernel
theorem dX8_takeDown_159 : decode cX8_takeDown 159 = .ok (.getfield 43, 3) := by decide +kernel
theorem dX8_takeDown_162 : decode cX8_takeDown 162 = .ok (.iload_n 1, 1) := by decide +kernel
theorem dX8_takeDown_163 : decode cX8_takeDown 163 = .ok (.iconst 0, 1) := by decide +kernel
theorem dX8_takeDown_164 : decode cX8_takeDown 164 = .ok (.iastore, 1) := by decide +kernel
theorem dX8_takeDown_165 : decode cX8_takeDown 165 = .ok (.iinc 1 1, 3) := by decide +kernel
theorem dX8_takeDown_168 : decode cX8_takeDown 168 = .ok (.goto (-72), 3) := by decide +kernel
theorem dX8_takeDown_171 : decode cX8_takeDown 171 = .ok (.aload_n 0, 1) := by decide +kernel
theorem dX8_takeDown_172 : decode cX8_takeDown 172 = .ok (.iconst 0, 1) := by decide +kernel
theorem dX8_takeDown_173 : decode cX8_takeDown 173 = .ok (.putfield 128, 3) := by decide +kernel
theorem dX8_takeDown_176 : decode cX8_takeDown 176 = .ok (.aload_n 0, 1) := by decide +kernel
theorem dX8_takeDown_177 : decode cX8_takeDown 177 = .ok (.iconst 0, 1) := by decide +kernel
theorem dX8_takeDown_178 : decode cX8_takeDown 178 = .ok (.putfield 131, 3) := by decide +kernel
theorem dX8_takeDown_181 : decode cX8_takeDown 181 = .ok (.return_, 1) := by decide +kernel
theorem dX8_readDown_0 : decode cX8_readDown 0 = .ok (.aload_n 0, 1) := by decide +kernel
theorem dX8_readDown_1 : decode cX8_readDown 1 = .ok (.iconst 0, 1) := by decide +kernel
theorem dX8_readDown_2 : decode cX8_readDown 2 = .ok (.putfield 122, 3) := by decide +kernel
theorem dX8_readDown_5 : decode cX8_readDown 5 = .ok (.aload_n 0, 1) := by decide +kernel
theorem dX8_readDown_6 : decode cX8_readDown 6 = .ok (.iconst 0, 1) := by decide +kernel
theorem dX8_readDown_7 : decode cX8_readDown 7 = .ok (.putfield 125, 3) := by decide +kernel
theorem dX8_readDown_10 : decode cX8_readDown 10 = .ok (.aload_n 0, 1) := by decide +kernel
theorem dX8_readDown_11 : decode cX8_readDown 11 = .ok (.iload_n 1, 1) := by decide +kernel
theorem dX8_readDown_12 : decode cX8_readDown 12 = .ok (.bipush 100, 2) := by decide +kernel
theorem dX8_readDown_14 : decode cX8_readDown 14 = .ok (.invokevirtual 134, 3) := by decide +kernel
theorem dX8_readDown_17 : decode cX8_readDown 17 = .ok (.ifCond .eq 21, 3) := by decide +kernel
theorem dX8_readDown_20 : decode cX8_readDown 20 = .ok (.aload_n 0, 1) := by decide +kernel
theorem dX8_readDown_21 : decode cX8_readDown 21 = .ok (.iload_n 1, 1) := by decide +kernel
theorem dX8_readDown_22 : decode cX8_readDown 22 = .ok (.bipush 59, 2) := by decide +kernel
theorem dX8_readDown_24 : decode cX8_readDown 24 = .ok (.invokevirtual 134, 3) := by decide +kernel
theorem dX8_readDown_27 : decode cX8_readDown 27 = .ok (.ifCond .eq 11, 3) := by decide +kernel
theorem dX8_readDown_30 : decode cX8_readDown 30 = .ok (.aload_n 0, 1) := by decide +kernel
theorem dX8_readDown_31 : decode cX8_readDown 31 = .ok (.iload_n 1, 1) := by decide +kernel
theorem dX8_readDown_32 : decode cX8_readDown 32 = .ok (.invokevirtual 138, 3) := by decide +kernel
theorem dX8_readDown_35 : decode cX8_readDown 35 = .ok (.ifCond .ne 5, 3) := by decide +kernel
theorem dX8_readDown_38 : decode cX8_readDown 38 = .ok (.iconst 0, 1) := by decide +kernel
theorem dX8_readDown_39 : decode cX8_readDown 39 = .ok (.ireturn, 1) := by decide +kernel
theorem dX8_readDown_40 : decode cX8_readDown 40 = .ok (.aload_n 0, 1) := by decide +kernel
theorem dX8_readDown_41 : decode cX8_readDown 41 = .ok (.getfield 122, 3) := by decide +kernel
theorem dX8_readDown_44 : decode cX8_readDown 44 = .ok (.iconst 5, 1) := by decide +kernel
theorem dX8_readDown_45 : decode cX8_readDown 45 = .ok (.if_icmp .ge 23, 3) := by decide +kernel
theorem dX8_readDown_48 : decode cX8_readDown 48 = .ok (.aload_n 0, 1) := by decide +kernel
theorem dX8_readDown_49 : decode cX8_readDown 49 = .ok (.iload_n 1, 1) := by decide +kernel
theorem dX8_readDown_50 : decode cX8_readDown 50 = .ok (.bipush 59, 2) := by decide +kernel
theorem dX8_readDown_52 : decode cX8_readDown 52 = .ok (.invokevirtual 134, 3) := by decide +kernel
theorem dX8_readDown_55 : decode cX8_readDown 55 = .ok (.ifCond .eq 13, 3) := by decide +kernel
theorem dX8_readDown_58 : decode cX8_readDown 58 = .ok (.aload_n 0, 1) := by decide +kernel
theorem dX8_readDown_59 : decode cX8_readDown 59 = .ok (.iload_n 1, 1) := by decide +kernel
theorem dX8_readDown_60 : decode cX8_readDown 60 = .ok (.invokevirtual 138, 3) := by decide +kernel
theorem dX8_readDown_63 : decode cX8_readDown 63 = .ok (.ifCond .ne (-23), 3) := by decide +kernel
theorem dX8_readDown_66 : decode cX8_readDown 66 = .ok (.iconst 0, 1) := by decide +kernel
theorem dX8_readDown_67 : decode cX8_readDown 67 = .ok (.ireturn, 1) := by decide +kernel
theorem dX8_readDown_68 : decode cX8_readDown 68 = .ok (.aload_n 0, 1) := by decide +kernel
theorem dX8_readDown_69 : decode cX8_readDown 69 = .ok (.getfield 125, 3) := by decide +kernel
theorem dX8_readDown_72 : decode cX8_readDown 72 = .ok (.ifCond .eq 19, 3) := by decide +kernel
theorem dX8_readDown_75 : decode cX8_readDown 75 = .ok (.aload_n 0, 1) := by decide +kernel
theorem dX8_readDown_76 : decode cX8_readDown 76 = .ok (.getfield 125, 3) := by decide +kernel
theorem dX8_readDown_79 : decode cX8_readDown 79 = .ok (.iconst 5, 1) := by decide +kernel
theorem dX8_readDown_80 : decode cX8_readDown 80 = .ok (.if_icmp .ge 31, 3) := by decide +kernel
theorem dX8_readDown_83 : decode cX8_readDown 83 = .ok (.aload_n 0, 1) := by decide +kernel
theorem dX8_readDown_84 : decode cX8_readDown 84 = .ok (.getfield 98, 3) := by decide +kernel
theorem dX8_readDown_87 : decode cX8_readDown 87 = .ok (.iload_n 1, 1) := by decide +kernel
theorem dX8_readDown_88 : decode cX8_readDown 88 = .ok (.if_icmp .ge 23, 3) := by decide +kernel
theorem dX8_readDown_91 : decode cX8_readDown 91 = .ok (.aload_n 0, 1) := by decide +kernel
theorem dX8_readDown_92 : decode cX8_readDown 92 = .ok (.iload_n 1, 1) := by decide +kernel
theorem dX8_readDown_93 : decode cX8_readDown 93 = .ok (.bipush 44, 2) := by decide +kernel
theorem dX8_readDown_95 : decode cX8_readDown 95 = .ok (.invokevirtual 134, 3) := by decide +kernel
theorem dX8_readDown_98 : decode cX8_readDown 98 = .ok (.ifCond .eq 11, 3) := by decide +kernel
theorem dX8_readDown_101 : decode cX8_readDown 101 = .ok (.aload_n 0, 1) := by decide +kernel
theorem dX8_readDown_102 : decode cX8_readDown 102 = .ok (.iload_n 1, 1) := by decide +kernel
theorem dX8_readDown_103 : decode cX8_readDown 103 = .ok (.invokevirtual 141, 3) := by decide +kernel
theorem dX8_readDown_106 : decode cX8_readDown 106 = .ok (.ifCond .ne (-38), 3) := by decide +kernel
theorem dX8_readDown_109 : decode cX8_readDown 109 = .ok (.iconst 0, 1) := by decide +kernel
theorem dX8_readDown_110 : decode cX8_readDown 110 = .ok (.ireturn, 1) := by decide +kernel
theorem dX8_readDown_111 : decode cX8_readDown 111 = .ok (.aload_n 0, 1) := by decide +kernel
theorem dX8_readDown_112 : decode cX8_readDown 112 = .ok (.getfield 98, 3) := by decide +kernel
theorem dX8_readDown_115 : decode cX8_readDown 115 = .ok (.iload_n 1, 1) := by decide +kernel
theorem dX8_readDown_116 : decode cX8_readDown 116 = .ok (.if_icmp .ne 7, 3) := by decide +kernel
theorem dX8_readDown_119 : decode cX8_readDown 119 = .ok (.iconst 1, 1) := by decide +kernel
theorem dX8_readDown_120 : decode cX8_readDown 120 = .ok (.goto 4, 3) := by decide +kernel
theorem dX8_readDown_123 : decode cX8_readDown 123 = .ok (.iconst 0, 1) := by decide +kernel
theorem dX8_readDown_124 : decode cX8_readDown 124 = .ok (.ireturn, 1) := by decide +kernel
theorem dX8_readBarrow_0 : decode cX8_readBarrow 0 = .ok (.aload_n 0, 1) := by decide +kernel
theorem dX8_readBarrow_1 : decode cX8_readBarrow 1 = .ok (.getfield 98, 3) := by decide +kernel
theorem dX8_readBarrow_4 : decode cX8_readBarrow 4 = .ok (.iload_n 1, 1) := by decide +kernel
theorem dX8_readBarrow_5 : decode cX8_readBarrow 5 = .ok (.if_icmp .ge 15, 3) := by decide +kernel
theorem dX8_readBarrow_8 : decode cX8_readBarrow 8 = .ok (.aload_n 0, 1) := by decide +kernel
theorem dX8_readBarrow_9 : decode cX8_readBarrow 9 = .ok (.getfield 16, 3) := by decide +kernel
theorem dX8_readBarrow_12 : decode cX8_readBarrow 12 = .ok (.aload_n 0, 1) := by decide +kernel
theorem dX8_readBarrow_13 : decode cX8_readBarrow 13 = .ok (.getfield 98, 3) := by decide +kernel
theorem dX8_readBarrow_16 : decode cX8_readBarrow 16 = .ok (.iaload, 1) := by decide +kernel
theorem dX8_readBarrow_17 : decode cX8_readBarrow 17 = .ok (.goto 4, 3) := by decide +kernel
theorem dX8_readBarrow_20 : decode cX8_readBarrow 20 = .ok (.iconst 0, 1) := by decide +kernel
theorem dX8_readBarrow_21 : decode cX8_readBarrow 21 = .ok (.istore_n 2, 1) := by decide +kernel
theorem dX8_readBarrow_22 : decode cX8_readBarrow 22 = .ok (.iconst 4, 1) := by decide +kernel
theorem dX8_readBarrow_23 : decode cX8_readBarrow 23 = .ok (.aload_n 0, 1) := by decide +kernel
theorem dX8_readBarrow_24 : decode cX8_readBarrow 24 = .ok (.getfield 122, 3) := by decide +kernel
theorem dX8_readBarrow_27 : decode cX8_readBarrow 27 = .ok (.imul, 1) := by decide +kernel
theorem dX8_readBarrow_28 : decode cX8_readBarrow 28 = .ok (.istore_n 3, 1) := by decide +kernel
theorem dX8_readBarrow_29 : decode cX8_readBarrow 29 = .ok (.aload_n 0, 1) := by decide +kernel
theorem dX8_readBarrow_30 : decode cX8_readBarrow 30 = .ok (.getfield 46, 3) := by decide +kernel
theorem dX8_readBarrow_33 : decode cX8_readBarrow 33 = .ok (.iload_n 3, 1) := by decide +kernel
theorem dX8_readBarrow_34 : decode cX8_readBarrow 34 = .ok (.iload_n 2, 1) := by decide +kernel
theorem dX8_readBarrow_35 : decode cX8_readBarrow 35 = .ok (.bipush 114, 2) := by decide +kernel
theorem dX8_readBarrow_37 : decode cX8_readBarrow 37 = .ok (.if_icmp .ne 7, 3) := by decide +kernel
theorem dX8_readBarrow_40 : decode cX8_readBarrow 40 = .ok (.iconst 0, 1) := by decide +kernel
theorem dX8_readBarrow_41 : decode cX8_readBarrow 41 = .ok (.goto 25, 3) := by decide +kernel
theorem dX8_readBarrow_44 : decode cX8_readBarrow 44 = .ok (.iload_n 2, 1) := by decide +kernel
theorem dX8_readBarrow_45 : decode cX8_readBarrow 45 = .ok (.bipush 108, 2) := by decide +kernel
theorem dX8_readBarrow_47 : decode cX8_readBarrow 47 = .ok (.if_icmp .ne 7, 3) := by decide +kernel
theorem dX8_readBarrow_50 : decode cX8_readBarrow 50 = .ok (.iconst 1, 1) := by decide +kernel
theorem dX8_readBarrow_51 : decode cX8_readBarrow 51 = .ok (.goto 15, 3) := by decide +kernel
theorem dX8_readBarrow_54 : decode cX8_readBarrow 54 = .ok (.iload_n 2, 1) := by decide +kernel
theorem dX8_readBarrow_55 : decode cX8_readBarrow 55 = .ok (.bipush 103, 2) := by decide +kernel
theorem dX8_readBarrow_57 : decode cX8_readBarrow 57 = .ok (.if_icmp .ne 7, 3) := by decide +kernel
theorem dX8_readBarrow_60 : decode cX8_readBarrow 60 = .ok (.iconst 2, 1) := by decide +kernel
theorem dX8_readBarrow_61 : decode cX8_readBarrow 61 = .ok (.goto 5, 3) := by decide +kernel
theorem dX8_readBarrow_64 : decode cX8_readBarrow 64 = .ok (.bipush (-9), 2) := by decide +kernel
theorem dX8_readBarrow_66 : decode cX8_readBarrow 66 = .ok (.iastore, 1) := by decide +kernel
theorem dX8_readBarrow_67 : decode cX8_readBarrow 67 = .ok (.aload_n 0, 1) := by decide +kernel
theorem dX8_readBarrow_68 : decode cX8_readBarrow 68 = .ok (.getfield 46, 3) := by decide +kernel
theorem dX8_readBarrow_71 : decode cX8_readBarrow 71 = .ok (.iload_n 3, 1) := by decide +kernel
theorem dX8_readBarrow_72 : decode cX8_readBarrow 72 = .ok (.iaload, 1) := by decide +kernel
theorem dX8_readBarrow_73 : decode cX8_readBarrow 73 = .ok (.bipush (-9), 2) := by decide +kernel
theorem dX8_readBarrow_75 : decode cX8_readBarrow 75 = .ok (.if_icmp .ne 5, 3) := by decide +kernel
theorem dX8_readBarrow_78 : decode cX8_readBarrow 78 = .ok (.iconst 0, 1) := by decide +kernel
theorem dX8_readBarrow_79 : decode cX8_readBarrow 79 = .ok (.ireturn, 1) := by decide +kernel
theorem dX8_readBarrow_80 : decode cX8_readBarrow 80 = .ok (.aload_n 0, 1) := by decide +kernel
theorem dX8_readBarrow_81 : decode cX8_readBarrow 81 = .ok (.dup, 1) := by decide +kernel
theorem dX8_readBarrow_82 : decode cX8_readBarrow 82 = .ok (.getfield 98, 3) := by decide +kernel
theorem dX8_readBarrow_85 : decode cX8_readBarrow 85 = .ok (.iconst 1, 1) := by decide +kernel
theorem dX8_readBarrow_86 : decode cX8_readBarrow 86 = .ok (.iadd, 1) := by decide +kernel
theorem dX8_readBarrow_87 : decode cX8_readBarrow 87 = .ok (.putfield 98, 3) := by decide +kernel
theorem dX8_readBarrow_90 : decode cX8_readBarrow 90 = .ok (.aload_n 0, 1) := by decide +kernel
theorem dX8_readBarrow_91 : decode cX8_readBarrow 91 = .ok (.getfield 46, 3) := by decide +kernel
theorem dX8_readBarrow_94 : decode cX8_readBarrow 94 = .ok (.iload_n 3, 1) := by decide +kernel
theorem dX8_readBarrow_95 : decode cX8_readBarrow 95 = .ok (.iconst 1, 1) := by decide +kernel
theorem dX8_readBarrow_96 : decode cX8_readBarrow 96 = .ok (.iadd, 1) := by decide +kernel
theorem dX8_readBarrow_97 : decode cX8_readBarrow 97 = .ok (.aload_n 0, 1) := by decide +kernel
theorem dX8_readBarrow_98 : decode cX8_readBarrow 98 = .ok (.iload_n 1, 1) := by decide +kernel
theorem dX8_readBarrow_99 : decode cX8_readBarrow 99 = .ok (.iconst 1, 1) := by decide +kernel
theorem dX8_readBarrow_100 : decode cX8_readBarrow 100 = .ok (.iconst 4, 1) := by decide +kernel
theorem dX8_readBarrow_101 : decode cX8_readBarrow 101 = .ok (.invokevirtual 144, 3) := by decide +kernel
theorem dX8_readBarrow_104 : decode cX8_readBarrow 104 = .ok (.iastore, 1) := by decide +kernel
theorem dX8_readBarrow_105 : decode cX8_readBarrow 105 = .ok (.aload_n 0, 1) := by decide +kernel
theorem dX8_readBarrow_106 : decode cX8_readBarrow 106 = .ok (.getfield 46, 3) := by decide +kernel
theorem dX8_readBarrow_109 : decode cX8_readBarrow 109 = .ok (.iload_n 3, 1) := by decide +kernel
theorem dX8_readBarrow_110 : decode cX8_readBarrow 110 = .ok (.iconst 1, 1) := by decide +kernel
theorem dX8_readBarrow_111 : decode cX8_readBarrow 111 = .ok (.iadd, 1) := by decide +kernel
theorem dX8_readBarrow_112 : decode cX8_readBarrow 112 = .ok (.iaload, 1) := by decide +kernel
theorem dX8_readBarrow_113 : decode cX8_readBarrow 113 = .ok (.bipush (-9), 2) := by decide +kernel
theorem dX8_readBarrow_115 : decode cX8_readBarrow 115 = .ok (.if_icmp .ne 5, 3) := by decide +kernel
theorem dX8_readBarrow_118 : decode cX8_readBarrow 118 = .ok (.iconst 0, 1) := by decide +kernel
theorem dX8_readBarrow_119 : decode cX8_readBarrow 119 = .ok (.ireturn, 1) := by decide +kernel
theorem dX8_readBarrow_120 : decode cX8_readBarrow 120 = .ok (.aload_n 0, 1) := by decide +kernel
theorem dX8_readBarrow_121 : decode cX8_readBarrow 121 = .ok (.getfield 46, 3) := by decide +kernel
theorem dX8_readBarrow_124 : decode cX8_readBarrow 124 = .ok (.iload_n 3, 1) := by decide +kernel
theorem dX8_readBarrow_125 : decode cX8_readBarrow 125 = .ok (.iconst 2, 1) := by decide +kernel
theorem dX8_readBarrow_126 : decode cX8_readBarrow 126 = .ok (.iadd, 1) := by decide +kernel
theorem dX8_readBarrow_127 : decode cX8_readBarrow 127 = .ok (.aload_n 0, 1) := by decide +kernel
theorem dX8_readBarrow_128 : decode cX8_readBarrow 128 = .ok (.iload_n 1, 1) := by decide +kernel
theorem dX8_readBarrow_129 : decode cX8_readBarrow 129 = .ok (.iconst 0, 1) := by decide +kernel
theorem dX8_readBarrow_130 : decode cX8_readBarrow 130 = .ok (.bipush 9, 2) := by decide +kernel
theorem dX8_readBarrow_132 : decode cX8_readBarrow 132 = .ok (.invokevirtual 144, 3) := by decide +kernel
theorem dX8_readBarrow_135 : decode cX8_readBarrow 135 = .ok (.iastore, 1) := by decide +kernel
theorem dX8_readBarrow_136 : decode cX8_readBarrow 136 = .ok (.aload_n 0, 1) := by decide +kernel
theorem dX8_readBarrow_137 : decode cX8_readBarrow 137 = .ok (.getfield 46, 3) := by decide +kernel
theorem dX8_readBarrow_140 : decode cX8_readBarrow 140 = .ok (.iload_n 3, 1) := by decide +kernel
theorem dX8_readBarrow_141 : decode cX8_readBarrow 141 = .ok (.iconst 2, 1) := by decide +kernel
theorem dX8_readBarrow_142 : decode cX8_readBarrow 142 = .ok (.iadd, 1) := by decide +kernel
theorem dX8_readBarrow_143 : decode cX8_readBarrow 143 = .ok (.iaload, 1) := by decide +kernel
theorem dX8_readBarrow_144 : decode cX8_readBarrow 144 = .ok (.bipush (-9), 2) := by decide +kernel
theorem dX8_readBarrow_146 : decode cX8_readBarrow 146 = .ok (.if_icmp .ne 5, 3) := by decide +kernel
theorem dX8_readBarrow_149 : decode cX8_readBarrow 149 = .ok (.iconst 0, 1) := by decide +kernel
theorem dX8_readBarrow_150 : decode cX8_readBarrow 150 = .ok (.ireturn, 1) := by decide +kernel
theorem dX8_readBarrow_151 : decode cX8_readBarrow 151 = .ok (.aload_n 0, 1) := by decide +kernel
theorem dX8_readBarrow_152 : decode cX8_readBarrow 152 = .ok (.getfield 46, 3) := by decide +kernel
theorem dX8_readBarrow_155 : decode cX8_readBarrow 155 = .ok (.iload_n 3, 1) := by decide +kernel
theorem dX8_readBarrow_156 : decode cX8_readBarrow 156 = .ok (.iconst 3, 1) := by decide +kernel
theorem dX8_readBarrow_157 : decode cX8_readBarrow 157 = .ok (.iadd, 1) := by decide +kernel
theorem dX8_readBarrow_158 : decode cX8_readBarrow 158 = .ok (.aload_n 0, 1) := by decide +kernel
theorem dX8_readBarrow_159 : decode cX8_readBarrow 159 = .ok (.iload_n 1, 1) := by decide +kernel
theorem dX8_readBarrow_160 : decode cX8_readBarrow 160 = .ok (.iconst 0, 1) := by decide +kernel
theorem dX8_readBarrow_161 : decode cX8_readBarrow 161 = .ok (.bipush 9, 2) := by decide +kernel
theorem dX8_readBarrow_163 : decode cX8_readBarrow 163 = .ok (.invokevirtual 144, 3) := by decide +kernel
theorem dX8_readBarrow_166 : decode cX8_readBarrow 166 = .ok (.iastore, 1) := by decide +kernel
theorem dX8_readBarrow_167 : decode cX8_readBarrow 167 = .ok (.aload_n 0, 1) := by decide +kernel
theorem dX8_readBarrow_168 : decode cX8_readBarrow 168 = .ok (.dup, 1) := by decide +kernel
theorem dX8_readBarrow_169 : decode cX8_readBarrow 169 = .ok (.getfield 122, 3) := by decide +kernel
theorem dX8_readBarrow_172 : decode cX8_readBarrow 172 = .ok (.iconst 1, 1) := by decide +kernel
theorem dX8_readBarrow_173 : decode cX8_readBarrow 173 = .ok (.iadd, 1) := by decide +kernel
theorem dX8_readBarrow_174 : decode cX8_readBarrow 174 = .ok (.putfield 122, 3) := by decide +kernel
theorem dX8_readBarrow_177 : decode cX8_readBarrow 177 = .ok (.aload_n 0, 1) := by decide +kernel
theorem dX8_readBarrow_178 : decode cX8_readBarrow 178 = .ok (.getfield 46, 3) := by decide +kernel
theorem dX8_readBarrow_181 : decode cX8_readBarrow 181 = .ok (.iload_n 3, 1) := by decide +kernel
theorem dX8_readBarrow_182 : decode cX8_readBarrow 182 = .ok (.iconst 3, 1) := by decide +kernel
theorem dX8_readBarrow_183 : decode cX8_readBarrow 183 = .ok (.iadd, 1) := by decide +kernel
theorem dX8_readBarrow_184 : decode cX8_readBarrow 184 = .ok (.iaload, 1) := by decide +kernel
theorem dX8_readBarrow_185 : decode cX8_readBarrow 185 = .ok (.bipush (-9), 2) := by decide +kernel
theorem dX8_readBarrow_187 : decode cX8_readBarrow 187 = .ok (.if_icmp .eq 7, 3) := by decide +kernel
theorem dX8_readBarrow_190 : decode cX8_readBarrow 190 = .ok (.iconst 1, 1) := by decide +kernel
theorem dX8_readBarrow_191 : decode cX8_readBarrow 191 = .ok (.goto 4, 3) := by decide +kernel
theorem dX8_readBarrow_194 : decode cX8_readBarrow 194 = .ok (.iconst 0, 1) := by decide +kernel
theorem dX8_readBarrow_195 : decode cX8_readBarrow 195 = .ok (.ireturn, 1) := by decide +kernel
theorem dX8_readWalker_0 : decode cX8_readWalker 0 = .ok (.iconst 3, 1) := by decide +kernel
theorem dX8_readWalker_1 : decode cX8_readWalker 1 = .ok (.aload_n 0, 1) := by decide +kernel
theorem dX8_readWalker_2 : decode cX8_readWalker 2 = .ok (.getfield 125, 3) := by decide +kernel
theorem dX8_readWalker_5 : decode cX8_readWalker 5 = .ok (.imul, 1) := by decide +kernel
theorem dX8_readWalker_6 : decode cX8_readWalker 6 = .ok (.istore_n 2, 1) := by decide +kernel
theorem dX8_readWalker_7 : decode cX8_readWalker 7 = .ok (.aload_n 0, 1) := by decide +kernel
theorem dX8_readWalker_8 : decode cX8_readWalker 8 = .ok (.getfield 49, 3) := by decide +kernel
theorem dX8_readWalker_11 : decode cX8_readWalker 11 = .ok (.iload_n 2, 1) := by decide +kernel
theorem dX8_readWalker_12 : decode cX8_readWalker 12 = .ok (.aload_n 0, 1) := by decide +kernel
theorem dX8_readWalker_13 : decode cX8_readWalker 13 = .ok (.iload_n 1, 1) := by decide +kernel
theorem dX8_readWalker_14 : decode cX8_readWalker 14 = .ok (.iconst 0, 1) := by decide +kernel
theorem dX8_readWalker_15 : decode cX8_readWalker 15 = .ok (.bipush 9, 2) := by decide +kernel
theorem dX8_readWalker_17 : decode cX8_readWalker 17 = .ok (.invokevirtual 144, 3) := by decide +kernel
theorem dX8_readWalker_20 : decode cX8_readWalker 20 = .ok (.iastore, 1) := by decide +kernel
theorem dX8_readWalker_21 : decode cX8_readWalker 21 = .ok (.aload_n 0, 1) := by decide +kernel
theorem dX8_readWalker_22 : decode cX8_readWalker 22 = .ok (.getfield 49, 3) := by decide +kernel
theorem dX8_readWalker_25 : decode cX8_readWalker 25 = .ok (.iload_n 2, 1) := by decide +kernel
theorem dX8_readWalker_26 : decode cX8_readWalker 26 = .ok (.iaload, 1) := by decide +kernel
theorem dX8_readWalker_27 : decode cX8_readWalker 27 = .ok (.bipush (-9), 2) := by decide +kernel
theorem dX8_readWalker_29 : decode cX8_readWalker 29 = .ok (.if_icmp .ne 5, 3) := by decide +kernel
theorem dX8_readWalker_32 : decode cX8_readWalker 32 = .ok (.iconst 0, 1) := by decide +kernel
theorem dX8_readWalker_33 : decode cX8_readWalker 33 = .ok (.ireturn, 1) := by decide +kernel
theorem dX8_readWalker_34 : decode cX8_readWalker 34 = .ok (.aload_n 0, 1) := by decide +kernel
theorem dX8_readWalker_35 : decode cX8_readWalker 35 = .ok (.getfield 49, 3) := by decide +kernel
theorem dX8_readWalker_38 : decode cX8_readWalker 38 = .ok (.iload_n 2, 1) := by decide +kernel
theorem dX8_readWalker_39 : decode cX8_readWalker 39 = .ok (.iconst 1, 1) := by decide +kernel
theorem dX8_readWalker_40 : decode cX8_readWalker 40 = .ok (.iadd, 1) := by decide +kernel
theorem dX8_readWalker_41 : decode cX8_readWalker 41 = .ok (.aload_n 0, 1) := by decide +kernel
theorem dX8_readWalker_42 : decode cX8_readWalker 42 = .ok (.iload_n 1, 1) := by decide +kernel
theorem dX8_readWalker_43 : decode cX8_readWalker 43 = .ok (.iconst 0, 1) := by decide +kernel
theorem dX8_readWalker_44 : decode cX8_readWalker 44 = .ok (.bipush 9, 2) := by decide +kernel
theorem dX8_readWalker_46 : decode cX8_readWalker 46 = .ok (.invokevirtual 144, 3) := by decide +kernel
theorem dX8_readWalker_49 : decode cX8_readWalker 49 = .ok (.iastore, 1) := by decide +kernel
theorem dX8_readWalker_50 : decode cX8_readWalker 50 = .ok (.aload_n 0, 1) := by decide +kernel
theorem dX8_readWalker_51 : decode cX8_readWalker 51 = .ok (.getfield 49, 3) := by decide +kernel
theorem dX8_readWalker_54 : decode cX8_readWalker 54 = .ok (.iload_n 2, 1) := by decide +kernel
theorem dX8_readWalker_55 : decode cX8_readWalker 55 = .ok (.iconst 1, 1) := by decide +kernel
theorem dX8_readWalker_56 : decode cX8_readWalker 56 = .ok (.iadd, 1) := by decide +kernel
theorem dX8_readWalker_57 : decode cX8_readWalker 57 = .ok (.iaload, 1) := by decide +kernel
theorem dX8_readWalker_58 : decode cX8_readWalker 58 = .ok (.bipush (-9), 2) := by decide +kernel
theorem dX8_readWalker_60 : decode cX8_readWalker 60 = .ok (.if_icmp .ne 5, 3) := by decide +kernel
theorem dX8_readWalker_63 : decode cX8_readWalker 63 = .ok (.iconst 0, 1) := by decide +kernel
theorem dX8_readWalker_64 : decode cX8_readWalker 64 = .ok (.ireturn, 1) := by decide +kernel
theorem dX8_readWalker_65 : decode cX8_readWalker 65 = .ok (.aload_n 0, 1) := by decide +kernel
theorem dX8_readWalker_66 : decode cX8_readWalker 66 = .ok (.getfield 49, 3) := by decide +kernel
theorem dX8_readWalker_69 : decode cX8_readWalker 69 = .ok (.iload_n 2, 1) := by decide +kernel
theorem dX8_readWalker_70 : decode cX8_readWalker 70 = .ok (.iconst 2, 1) := by decide +kernel
theorem dX8_readWalker_71 : decode cX8_readWalker 71 = .ok (.iadd, 1) := by decide +kernel
theorem dX8_readWalker_72 : decode cX8_readWalker 72 = .ok (.aload_n 0, 1) := by decide +kernel
theorem dX8_readWalker_73 : decode cX8_readWalker 73 = .ok (.iload_n 1, 1) := by decide +kernel
theorem dX8_readWalker_74 : decode cX8_readWalker 74 = .ok (.iconst 1, 1) := by decide +kernel
theorem dX8_readWalker_75 : decode cX8_readWalker 75 = .ok (.bipush 9, 2) := by decide +kernel
theorem dX8_readWalker_77 : decode cX8_readWalker 77 = .ok (.invokevirtual 144, 3) := by decide +kernel
theorem dX8_readWalker_80 : decode cX8_readWalker 80 = .ok (.iastore, 1) := by decide +kernel
theorem dX8_readWalker_81 : decode cX8_readWalker 81 = .ok (.aload_n 0, 1) := by decide +kernel
theorem dX8_readWalker_82 : decode cX8_readWalker 82 = .ok (.dup, 1) := by decide +kernel
theorem dX8_readWalker_83 : decode cX8_readWalker 83 = .ok (.getfield 125, 3) := by decide +kernel
theorem dX8_readWalker_86 : decode cX8_readWalker 86 = .ok (.iconst 1, 1) := by decide +kernel
theorem dX8_readWalker_87 : decode cX8_readWalker 87 = .ok (.iadd, 1) := by decide +kernel
theorem dX8_readWalker_88 : decode cX8_readWalker 88 = .ok (.putfield 125, 3) := by decide +kernel
theorem dX8_readWalker_91 : decode cX8_readWalker 91 = .ok (.aload_n 0, 1) := by decide +kernel
theorem dX8_readWalker_92 : decode cX8_readWalker 92 = .ok (.getfield 49, 3) := by decide +kernel
theorem dX8_readWalker_95 : decode cX8_readWalker 95 = .ok (.iload_n 2, 1) := by decide +kernel
theorem dX8_readWalker_96 : decode cX8_readWalker 96 = .ok (.iconst 2, 1) := by decide +kernel
theorem dX8_readWalker_97 : decode cX8_readWalker 97 = .ok (.iadd, 1) := by decide +kernel
theorem dX8_readWalker_98 : decode cX8_readWalker 98 = .ok (.iaload, 1) := by decide +kernel
theorem dX8_readWalker_99 : decode cX8_readWalker 99 = .ok (.bipush (-9), 2) := by decide +kernel
theorem dX8_readWalker_101 : decode cX8_readWalker 101 = .ok (.if_icmp .eq 7, 3) := by decide +kernel
