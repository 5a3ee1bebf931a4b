theorem dX8_season_108 : decode cX8_season 108 = .ok (.iload_n 3, 1) := by decide +kernel
theorem dX8_season_109 : decode cX8_season 109 = .ok (.iadd, 1) := by decide +kernel
theorem dX8_season_110 : decode cX8_season 110 = .ok (.istore 7, 2) := by decide +kernel
theorem dX8_season_112 : decode cX8_season 112 = .ok (.iconst 0, 1) := by decide +kernel
theorem dX8_season_113 : decode cX8_season 113 = .ok (.istore 8, 2) := by decide +kernel
theorem dX8_season_115 : decode cX8_season 115 = .ok (.iload 8, 2) := by decide +kernel
theorem dX8_season_117 : decode cX8_season 117 = .ok (.iload 4, 2) := by decide +kernel
theorem dX8_season_119 : decode cX8_season 119 = .ok (.if_icmp .ge 49, 3) := by decide +kernel
theorem dX8_season_122 : decode cX8_season 122 = .ok (.aload_n 0, 1) := by decide +kernel
theorem dX8_season_123 : decode cX8_season 123 = .ok (.aload_n 0, 1) := by decide +kernel
theorem dX8_season_124 : decode cX8_season 124 = .ok (.getfield 16, 3) := by decide +kernel
theorem dX8_season_127 : decode cX8_season 127 = .ok (.iload 7, 2) := by decide +kernel
theorem dX8_season_129 : decode cX8_season 129 = .ok (.iconst 2, 1) := by decide +kernel
theorem dX8_season_130 : decode cX8_season 130 = .ok (.iload 8, 2) := by decide +kernel
theorem dX8_season_132 : decode cX8_season 132 = .ok (.imul, 1) := by decide +kernel
theorem dX8_season_133 : decode cX8_season 133 = .ok (.iadd, 1) := by decide +kernel
theorem dX8_season_134 : decode cX8_season 134 = .ok (.iaload, 1) := by decide +kernel
theorem dX8_season_135 : decode cX8_season 135 = .ok (.aload_n 0, 1) := by decide +kernel
theorem dX8_season_136 : decode cX8_season 136 = .ok (.getfield 16, 3) := by decide +kernel
theorem dX8_season_139 : decode cX8_season 139 = .ok (.iload 7, 2) := by decide +kernel
theorem dX8_season_141 : decode cX8_season 141 = .ok (.iconst 2, 1) := by decide +kernel
theorem dX8_season_142 : decode cX8_season 142 = .ok (.iload 8, 2) := by decide +kernel
theorem dX8_season_144 : decode cX8_season 144 = .ok (.imul, 1) := by decide +kernel
theorem dX8_season_145 : decode cX8_season 145 = .ok (.iadd, 1) := by decide +kernel
theorem dX8_season_146 : decode cX8_season 146 = .ok (.iconst 1, 1) := by decide +kernel
theorem dX8_season_147 : decode cX8_season 147 = .ok (.iadd, 1) := by decide +kernel
theorem dX8_season_148 : decode cX8_season 148 = .ok (.iaload, 1) := by decide +kernel
theorem dX8_season_149 : decode cX8_season 149 = .ok (.invokevirtual 190, 3) := by decide +kernel
theorem dX8_season_152 : decode cX8_season 152 = .ok (.istore 9, 2) := by decide +kernel
theorem dX8_season_154 : decode cX8_season 154 = .ok (.iload 9, 2) := by decide +kernel
theorem dX8_season_156 : decode cX8_season 156 = .ok (.ifCond .eq 6, 3) := by decide +kernel
theorem dX8_season_159 : decode cX8_season 159 = .ok (.iload 9, 2) := by decide +kernel
theorem dX8_season_161 : decode cX8_season 161 = .ok (.ireturn, 1) := by decide +kernel
theorem dX8_season_162 : decode cX8_season 162 = .ok (.iinc 8 1, 3) := by decide +kernel
theorem dX8_season_165 : decode cX8_season 165 = .ok (.goto (-50), 3) := by decide +kernel
theorem dX8_season_168 : decode cX8_season 168 = .ok (.aload_n 0, 1) := by decide +kernel
theorem dX8_season_169 : decode cX8_season 169 = .ok (.invokevirtual 193, 3) := by decide +kernel
theorem dX8_season_172 : decode cX8_season 172 = .ok (.aload_n 0, 1) := by decide +kernel
theorem dX8_season_173 : decode cX8_season 173 = .ok (.iload 7, 2) := by decide +kernel
theorem dX8_season_175 : decode cX8_season 175 = .ok (.iload 4, 2) := by decide +kernel
theorem dX8_season_177 : decode cX8_season 177 = .ok (.invokevirtual 196, 3) := by decide +kernel
theorem dX8_season_180 : decode cX8_season 180 = .ok (.istore 8, 2) := by decide +kernel
theorem dX8_season_182 : decode cX8_season 182 = .ok (.aload_n 0, 1) := by decide +kernel
theorem dX8_season_183 : decode cX8_season 183 = .ok (.iload 5, 2) := by decide +kernel
theorem dX8_season_185 : decode cX8_season 185 = .ok (.invokevirtual 199, 3) := by decide +kernel
theorem dX8_season_188 : decode cX8_season 188 = .ok (.istore 9, 2) := by decide +kernel
theorem dX8_season_190 : decode cX8_season 190 = .ok (.aload_n 0, 1) := by decide +kernel
theorem dX8_season_191 : decode cX8_season 191 = .ok (.invokevirtual 202, 3) := by decide +kernel
theorem dX8_season_194 : decode cX8_season 194 = .ok (.iload 5, 2) := by decide +kernel
theorem dX8_season_196 : decode cX8_season 196 = .ok (.iconst 1, 1) := by decide +kernel
theorem dX8_season_197 : decode cX8_season 197 = .ok (.if_icmp .ne 8, 3) := by decide +kernel
theorem dX8_season_200 : decode cX8_season 200 = .ok (.iload 8, 2) := by decide +kernel
theorem dX8_season_202 : decode cX8_season 202 = .ok (.goto 20, 3) := by decide +kernel
theorem dX8_season_205 : decode cX8_season 205 = .ok (.iload 8, 2) := by decide +kernel
theorem dX8_season_207 : decode cX8_season 207 = .ok (.bipush (-9), 2) := by decide +kernel
theorem dX8_season_209 : decode cX8_season 209 = .ok (.if_icmp .ne 8, 3) := by decide +kernel
theorem dX8_season_212 : decode cX8_season 212 = .ok (.iload 9, 2) := by decide +kernel
theorem dX8_season_214 : decode cX8_season 214 = .ok (.goto 8, 3) := by decide +kernel
theorem dX8_season_217 : decode cX8_season 217 = .ok (.bipush (-100), 2) := by decide +kernel
theorem dX8_season_219 : decode cX8_season 219 = .ok (.iload 8, 2) := by decide +kernel
theorem dX8_season_221 : decode cX8_season 221 = .ok (.isub, 1) := by decide +kernel
theorem dX8_season_222 : decode cX8_season 222 = .ok (.ireturn, 1) := by decide +kernel
theorem dX8_whoLodges_0 : decode cX8_whoLodges 0 = .ok (.iconst 0, 1) := by decide +kernel
theorem dX8_whoLodges_1 : decode cX8_whoLodges 1 = .ok (.istore_n 1, 1) := by decide +kernel
theorem dX8_whoLodges_2 : decode cX8_whoLodges 2 = .ok (.iconst 0, 1) := by decide +kernel
theorem dX8_whoLodges_3 : decode cX8_whoLodges 3 = .ok (.istore_n 2, 1) := by decide +kernel
theorem dX8_whoLodges_4 : decode cX8_whoLodges 4 = .ok (.iload_n 2, 1) := by decide +kernel
theorem dX8_whoLodges_5 : decode cX8_whoLodges 5 = .ok (.aload_n 0, 1) := by decide +kernel
theorem dX8_whoLodges_6 : decode cX8_whoLodges 6 = .ok (.getfield 95, 3) := by decide +kernel
theorem dX8_whoLodges_9 : decode cX8_whoLodges 9 = .ok (.if_icmp .ge 30, 3) := by decide +kernel
theorem dX8_whoLodges_12 : decode cX8_whoLodges 12 = .ok (.iload_n 1, 1) := by decide +kernel
theorem dX8_whoLodges_13 : decode cX8_whoLodges 13 = .ok (.aload_n 0, 1) := by decide +kernel
theorem dX8_whoLodges_14 : decode cX8_whoLodges 14 = .ok (.getfield 40, 3) := by decide +kernel
theorem dX8_whoLodges_17 : decode cX8_whoLodges 17 = .ok (.iload_n 2, 1) := by decide +kernel
theorem dX8_whoLodges_18 : decode cX8_whoLodges 18 = .ok (.iaload, 1) := by decide +kernel
theorem dX8_whoLodges_19 : decode cX8_whoLodges 19 = .ok (.bipush (-9), 2) := by decide +kernel
theorem dX8_whoLodges_21 : decode cX8_whoLodges 21 = .ok (.if_icmp .ne 7, 3) := by decide +kernel
theorem dX8_whoLodges_24 : decode cX8_whoLodges 24 = .ok (.iconst 0, 1) := by decide +kernel
theorem dX8_whoLodges_25 : decode cX8_whoLodges 25 = .ok (.goto 6, 3) := by decide +kernel
theorem dX8_whoLodges_28 : decode cX8_whoLodges 28 = .ok (.iconst 1, 1) := by decide +kernel
theorem dX8_whoLodges_29 : decode cX8_whoLodges 29 = .ok (.iload_n 2, 1) := by decide +kernel
theorem dX8_whoLodges_30 : decode cX8_whoLodges 30 = .ok (.ishl, 1) := by decide +kernel
theorem dX8_whoLodges_31 : decode cX8_whoLodges 31 = .ok (.ior, 1) := by decide +kernel
theorem dX8_whoLodges_32 : decode cX8_whoLodges 32 = .ok (.istore_n 1, 1) := by decide +kernel
theorem dX8_whoLodges_33 : decode cX8_whoLodges 33 = .ok (.iinc 2 1, 3) := by decide +kernel
theorem dX8_whoLodges_36 : decode cX8_whoLodges 36 = .ok (.goto (-32), 3) := by decide +kernel
theorem dX8_whoLodges_39 : decode cX8_whoLodges 39 = .ok (.iload_n 1, 1) := by decide +kernel
theorem dX8_whoLodges_40 : decode cX8_whoLodges 40 = .ok (.ireturn, 1) := by decide +kernel
theorem dX8_tellSeason_0 : decode cX8_tellSeason 0 = .ok (.iload_n 1, 1) := by decide +kernel
theorem dX8_tellSeason_1 : decode cX8_tellSeason 1 = .ok (.bipush 20, 2) := by decide +kernel
theorem dX8_tellSeason_3 : decode cX8_tellSeason 3 = .ok (.if_icmp .lt 29, 3) := by decide +kernel
theorem dX8_tellSeason_6 : decode cX8_tellSeason 6 = .ok (.aload_n 0, 1) := by decide +kernel
theorem dX8_tellSeason_7 : decode cX8_tellSeason 7 = .ok (.iload_n 1, 1) := by decide +kernel
theorem dX8_tellSeason_8 : decode cX8_tellSeason 8 = .ok (.bipush 20, 2) := by decide +kernel
theorem dX8_tellSeason_10 : decode cX8_tellSeason 10 = .ok (.isub, 1) := by decide +kernel
theorem dX8_tellSeason_11 : decode cX8_tellSeason 11 = .ok (.invokevirtual 161, 3) := by decide +kernel
theorem dX8_tellSeason_14 : decode cX8_tellSeason 14 = .ok (.ifCond .eq 15, 3) := by decide +kernel
theorem dX8_tellSeason_17 : decode cX8_tellSeason 17 = .ok (.aload_n 0, 1) := by decide +kernel
theorem dX8_tellSeason_18 : decode cX8_tellSeason 18 = .ok (.getfield 43, 3) := by decide +kernel
theorem dX8_tellSeason_21 : decode cX8_tellSeason 21 = .ok (.iload_n 1, 1) := by decide +kernel
theorem dX8_tellSeason_22 : decode cX8_tellSeason 22 = .ok (.bipush 20, 2) := by decide +kernel
theorem dX8_tellSeason_24 : decode cX8_tellSeason 24 = .ok (.isub, 1) := by decide +kernel
theorem dX8_tellSeason_25 : decode cX8_tellSeason 25 = .ok (.iaload, 1) := by decide +kernel
theorem dX8_tellSeason_26 : decode cX8_tellSeason 26 = .ok (.goto 5, 3) := by decide +kernel
theorem dX8_tellSeason_29 : decode cX8_tellSeason 29 = .ok (.bipush (-9), 2) := by decide +kernel
theorem dX8_tellSeason_31 : decode cX8_tellSeason 31 = .ok (.ireturn, 1) := by decide +kernel
theorem dX8_tellSeason_32 : decode cX8_tellSeason 32 = .ok (.iload_n 1, 1) := by decide +kernel
theorem dX8_tellSeason_33 : decode cX8_tellSeason 33 = .ok (.bipush 10, 2) := by decide +kernel
theorem dX8_tellSeason_35 : decode cX8_tellSeason 35 = .ok (.if_icmp .lt 29, 3) := by decide +kernel
theorem dX8_tellSeason_38 : decode cX8_tellSeason 38 = .ok (.aload_n 0, 1) := by decide +kernel
theorem dX8_tellSeason_39 : decode cX8_tellSeason 39 = .ok (.iload_n 1, 1) := by decide +kernel
theorem dX8_tellSeason_40 : decode cX8_tellSeason 40 = .ok (.bipush 10, 2) := by decide +kernel
theorem dX8_tellSeason_42 : decode cX8_tellSeason 42 = .ok (.isub, 1) := by decide +kernel
theorem dX8_tellSeason_43 : decode cX8_tellSeason 43 = .ok (.invokevirtual 161, 3) := by decide +kernel
theorem dX8_tellSeason_46 : decode cX8_tellSeason 46 = .ok (.ifCond .eq 15, 3) := by decide +kernel
theorem dX8_tellSeason_49 : decode cX8_tellSeason 49 = .ok (.aload_n 0, 1) := by decide +kernel
theorem dX8_tellSeason_50 : decode cX8_tellSeason 50 = .ok (.getfield 40, 3) := by decide +kernel
theorem dX8_tellSeason_53 : decode cX8_tellSeason 53 = .ok (.iload_n 1, 1) := by decide +kernel
theorem dX8_tellSeason_54 : decode cX8_tellSeason 54 = .ok (.bipush 10, 2) := by decide +kernel
theorem dX8_tellSeason_56 : decode cX8_tellSeason 56 = .ok (.isub, 1) := by decide +kernel
theorem dX8_tellSeason_57 : decode cX8_tellSeason 57 = .ok (.iaload, 1) := by decide +kernel
theorem dX8_tellSeason_58 : decode cX8_tellSeason 58 = .ok (.goto 5, 3) := by decide +kernel
theorem dX8_tellSeason_61 : decode cX8_tellSeason 61 = .ok (.bipush (-9), 2) := by decide +kernel
theorem dX8_tellSeason_63 : decode cX8_tellSeason 63 = .ok (.ireturn, 1) := by decide +kernel
theorem dX8_tellSeason_64 : decode cX8_tellSeason 64 = .ok (.iload_n 1, 1) := by decide +kernel
theorem dX8_tellSeason_65 : decode cX8_tellSeason 65 = .ok (.iconst 3, 1) := by decide +kernel
theorem dX8_tellSeason_66 : decode cX8_tellSeason 66 = .ok (.if_icmp .ge 19, 3) := by decide +kernel
theorem dX8_tellSeason_69 : decode cX8_tellSeason 69 = .ok (.iload_n 1, 1) := by decide +kernel
theorem dX8_tellSeason_70 : decode cX8_tellSeason 70 = .ok (.ifCond .ne 10, 3) := by decide +kernel
theorem dX8_tellSeason_73 : decode cX8_tellSeason 73 = .ok (.aload_n 0, 1) := by decide +kernel
theorem dX8_tellSeason_74 : decode cX8_tellSeason 74 = .ok (.invokevirtual 205, 3) := by decide +kernel
theorem dX8_tellSeason_77 : decode cX8_tellSeason 77 = .ok (.goto 7, 3) := by decide +kernel
theorem dX8_tellSeason_80 : decode cX8_tellSeason 80 = .ok (.aload_n 0, 1) := by decide +kernel
theorem dX8_tellSeason_81 : decode cX8_tellSeason 81 = .ok (.getfield 184, 3) := by decide +kernel
theorem dX8_tellSeason_84 : decode cX8_tellSeason 84 = .ok (.ireturn, 1) := by decide +kernel
theorem dX8_tellSeason_85 : decode cX8_tellSeason 85 = .ok (.iconst 0, 1) := by decide +kernel
theorem dX8_tellSeason_86 : decode cX8_tellSeason 86 = .ok (.istore_n 2, 1) := by decide +kernel
theorem dX8_tellSeason_87 : decode cX8_tellSeason 87 = .ok (.iconst 0, 1) := by decide +kernel
theorem dX8_tellSeason_88 : decode cX8_tellSeason 88 = .ok (.istore_n 3, 1) := by decide +kernel
theorem dX8_tellSeason_89 : decode cX8_tellSeason 89 = .ok (.iload_n 3, 1) := by decide +kernel
theorem dX8_tellSeason_90 : decode cX8_tellSeason 90 = .ok (.aload_n 0, 1) := by decide +kernel
theorem dX8_tellSeason_91 : decode cX8_tellSeason 91 = .ok (.getfield 95, 3) := by decide +kernel
theorem dX8_tellSeason_94 : decode cX8_tellSeason 94 = .ok (.if_icmp .ge 18, 3) := by decide +kernel
theorem dX8_tellSeason_97 : decode cX8_tellSeason 97 = .ok (.iload_n 2, 1) := by decide +kernel
theorem dX8_tellSeason_98 : decode cX8_tellSeason 98 = .ok (.aload_n 0, 1) := by decide +kernel
theorem dX8_tellSeason_99 : decode cX8_tellSeason 99 = .ok (.getfield 31, 3) := by decide +kernel
theorem dX8_tellSeason_102 : decode cX8_tellSeason 102 = .ok (.iload_n 3, 1) := by decide +kernel
theorem dX8_tellSeason_103 : decode cX8_tellSeason 103 = .ok (.iaload, 1) := by decide +kernel
theorem dX8_tellSeason_104 : decode cX8_tellSeason 104 = .ok (.iadd, 1) := by decide +kernel
theorem dX8_tellSeason_105 : decode cX8_tellSeason 105 = .ok (.istore_n 2, 1) := by decide +kernel
theorem dX8_tellSeason_106 : decode cX8_tellSeason 106 = .ok (.iinc 3 1, 3) := by decide +kernel
theorem dX8_tellSeason_109 : decode cX8_tellSeason 109 = .ok (.goto (-20), 3) := by decide +kernel
theorem dX8_tellSeason_112 : decode cX8_tellSeason 112 = .ok (.iload_n 2, 1) := by decide +kernel
theorem dX8_tellSeason_113 : decode cX8_tellSeason 113 = .ok (.ireturn, 1) := by decide +kernel
theorem dX8_rowsOf_0 : decode cX8_rowsOf 0 = .ok (.iconst 1, 1) := by decide +kernel
theorem dX8_rowsOf_1 : decode cX8_rowsOf 1 = .ok (.istore_n 1, 1) := by decide +kernel
theorem dX8_rowsOf_2 : decode cX8_rowsOf 2 = .ok (.iconst 0, 1) := by decide +kernel
theorem dX8_rowsOf_3 : decode cX8_rowsOf 3 = .ok (.istore_n 2, 1) := by decide +kernel
theorem dX8_rowsOf_4 : decode cX8_rowsOf 4 = .ok (.iload_n 2, 1) := by decide +kernel
theorem dX8_rowsOf_5 : decode cX8_rowsOf 5 = .ok (.aload_n 0, 1) := by decide +kernel
theorem dX8_rowsOf_6 : decode cX8_rowsOf 6 = .ok (.getfield 95, 3) := by decide +kernel
theorem dX8_rowsOf_9 : decode cX8_rowsOf 9 = .ok (.if_icmp .ge 18, 3) := by decide +kernel
theorem dX8_rowsOf_12 : decode cX8_rowsOf 12 = .ok (.iload_n 1, 1) := by decide +kernel
theorem dX8_rowsOf_13 : decode cX8_rowsOf 13 = .ok (.aload_n 0, 1) := by decide +kernel
theorem dX8_rowsOf_14 : decode cX8_rowsOf 14 = .ok (.getfield 92, 3) := by decide +kernel
theorem dX8_rowsOf_17 : decode cX8_rowsOf 17 = .ok (.iconst 1, 1) := by decide +kernel
theorem dX8_rowsOf_18 : decode cX8_rowsOf 18 = .ok (.iadd, 1) := by decide +kernel
theorem dX8_rowsOf_19 : decode cX8_rowsOf 19 = .ok (.imul, 1) := by decide +kernel
theorem dX8_rowsOf_20 : decode cX8_rowsOf 20 = .ok (.istore_n 1, 1) := by decide +kernel
theorem dX8_rowsOf_21 : decode cX8_rowsOf 21 = .ok (.iinc 2 1, 3) := by decide +kernel
theorem dX8_rowsOf_24 : decode cX8_rowsOf 24 = .ok (.goto (-20), 3) := by decide +kernel
theorem dX8_rowsOf_27 : decode cX8_rowsOf 27 = .ok (.iload_n 1, 1) := by decide +kernel
theorem dX8_rowsOf_28 : decode cX8_rowsOf 28 = .ok (.ireturn, 1) := by decide +kernel
theorem dX8_rowOf_0 : decode cX8_rowOf 0 = .ok (.iload_n 1, 1) := by decide +kernel
theorem dX8_rowOf_1 : decode cX8_rowOf 1 = .ok (.istore_n 2, 1) := by decide +kernel
theorem dX8_rowOf_2 : decode cX8_rowOf 2 = .ok (.aload_n 0, 1) := by decide +kernel
theorem dX8_rowOf_3 : decode cX8_rowOf 3 = .ok (.getfield 95, 3) := by decide +kernel
theorem dX8_rowOf_6 : decode cX8_rowOf 6 = .ok (.iconst 1, 1) := by decide +kernel
theorem dX8_rowOf_7 : decode cX8_rowOf 7 = .ok (.isub, 1) := by decide +kernel
theorem dX8_rowOf_8 : decode cX8_rowOf 8 = .ok (.istore_n 3, 1) := by decide +kernel
theorem dX8_rowOf_9 : decode cX8_rowOf 9 = .ok (.iload_n 3, 1) := by decide +kernel
theorem dX8_rowOf_10 : decode cX8_rowOf 10 = .ok (.ifCond .lt 32, 3) := by decide +kernel
theorem dX8_rowOf_13 : decode cX8_rowOf 13 = .ok (.aload_n 0, 1) := by decide +kernel
theorem dX8_rowOf_14 : decode cX8_rowOf 14 = .ok (.getfield 64, 3) := by decide +kernel
theorem dX8_rowOf_17 : decode cX8_rowOf 17 = .ok (.iload_n 3, 1) := by decide +kernel
theorem dX8_rowOf_18 : decode cX8_rowOf 18 = .ok (.iload_n 2, 1) := by decide +kernel
theorem dX8_rowOf_19 : decode cX8_rowOf 19 = .ok (.aload_n 0, 1) := by decide +kernel
theorem dX8_rowOf_20 : decode cX8_rowOf 20 = .ok (.getfield 92, 3) := by decide +kernel
theorem dX8_rowOf_23 : decode cX8_rowOf 23 = .ok (.iconst 1, 1) := by decide +kernel
theorem dX8_rowOf_24 : decode cX8_rowOf 24 = .ok (.iadd, 1) := by decide +kernel
theorem dX8_rowOf_25 : decode cX8_rowOf 25 = .ok (.irem, 1) := by decide +kernel
theorem dX8_rowOf_26 : decode cX8_rowOf 26 = .ok (.iastore, 1) := by decide +kernel
theorem dX8_rowOf_27 : decode cX8_rowOf 27 = .ok (.iload_n 2, 1) := by decide +kernel
theorem dX8_rowOf_28 : decode cX8_rowOf 28 = .ok (.aload_n 0, 1) := by decide +kernel
theorem dX8_rowOf_29 : decode cX8_rowOf 29 = .ok (.getfield 92, 3) := by decide +kernel
theorem dX8_rowOf_32 : decode cX8_rowOf 32 = .ok (.iconst 1, 1) := by decide +kernel
theorem dX8_rowOf_33 : decode cX8_rowOf 33 = .ok (.iadd, 1) := by decide +kernel
theorem dX8_rowOf_34 : decode cX8_rowOf 34 = .ok (.idiv, 1) := by decide +kernel
theorem dX8_rowOf_35 : decode cX8_rowOf 35 = .ok (.istore_n 2, 1) := by decide +kernel
theorem dX8_rowOf_36 : decode cX8_rowOf 36 = .ok (.iinc 3 (-1), 3) := by decide +kernel
theorem dX8_rowOf_39 : decode cX8_rowOf 39 = .ok (.goto (-30), 3) := by decide +kernel
theorem dX8_rowOf_42 : decode cX8_rowOf 42 = .ok (.return_, 1) := by decide +kernel
theorem dX8_isHeld_0 : decode cX8_isHeld 0 = .ok (.iconst 0, 1) := by decide +kernel
theorem dX8_isHeld_1 : decode cX8_isHeld 1 = .ok (.istore_n 1, 1) := by decide +kernel
theorem dX8_isHeld_2 : decode cX8_isHeld 2 = .ok (.iload_n 1, 1) := by decide +kernel
theorem dX8_isHeld_3 : decode cX8_isHeld 3 = .ok (.aload_n 0, 1) := by decide +kernel
theorem dX8_isHeld_4 : decode cX8_isHeld 4 = .ok (.getfield 92, 3) := by decide +kernel
theorem dX8_isHeld_7 : decode cX8_isHeld 7 = .ok (.if_icmp .ge 56, 3) := by decide +kernel
theorem dX8_isHeld_10 : decode cX8_isHeld 10 = .ok (.iconst 0, 1) := by decide +kernel
theorem dX8_isHeld_11 : decode cX8_isHeld 11 = .ok (.istore_n 2, 1) := by decide +kernel
theorem dX8_isHeld_12 : decode cX8_isHeld 12 = .ok (.iconst 0, 1) := by decide +kernel
theorem dX8_isHeld_13 : decode cX8_isHeld 13 = .ok (.istore_n 3, 1) := by decide +kernel
theorem dX8_isHeld_14 : decode cX8_isHeld 14 = .ok (.iload_n 3, 1) := by decide +kernel
theorem dX8_isHeld_15 : decode cX8_isHeld 15 = .ok (.aload_n 0, 1) := by decide +kernel
theorem dX8_isHeld_16 : decode cX8_isHeld 16 = .ok (.getfield 95, 3) := by decide +kernel
theorem dX8_isHeld_19 : decode cX8_isHeld 19 = .ok (.if_icmp .ge 27, 3) := by decide +kernel
theorem dX8_isHeld_22 : decode cX8_isHeld 22 = .ok (.iload_n 2, 1) := by decide +kernel
theorem dX8_isHeld_23 : decode cX8_isHeld 23 = .ok (.aload_n 0, 1) := by decide +kernel
theorem dX8_isHeld_24 : decode cX8_isHeld 24 = .ok (.getfield 64, 3) := by decide +kernel
theorem dX8_isHeld_27 : decode cX8_isHeld 27 = .ok (.iload_n 3, 1) := by decide +kernel
theorem dX8_isHeld_28 : decode cX8_isHeld 28 = .ok (.iaload, 1) := by decide +kernel
theorem dX8_isHeld_29 : decode cX8_isHeld 29 = .ok (.iload_n 1, 1) := by decide +kernel
theorem dX8_isHeld_30 : decode cX8_isHeld 30 = .ok (.if_icmp .ne 7, 3) := by decide +kernel
theorem dX8_isHeld_33 : decode cX8_isHeld 33 = .ok (.iconst 1, 1) := by decide +kernel
theorem dX8_isHeld_34 : decode cX8_isHeld 34 = .ok (.goto 4, 3) := by decide +kernel
theorem dX8_isHeld_37 : decode cX8_isHeld 37 = .ok (.iconst 0, 1) := by decide +kernel
theorem dX8_isHeld_38 : decode cX8_isHeld 38 = .ok (.iadd, 1) := by decide +kernel
theorem dX8_isHeld_39 : decode cX8_isHeld 39 = .ok (.istore_n 2, 1) := by decide +kernel
theorem dX8_isHeld_40 : decode cX8_isHeld 40 = .ok (.iinc 3 1, 3) := by decide +kernel
theorem dX8_isHeld_43 : decode cX8_isHeld 43 = .ok (.goto (-29), 3) := by decide +kernel
theorem dX8_isHeld_46 : decode cX8_isHeld 46 = .ok (.iload_n 2, 1) := by decide +kernel
theorem dX8_isHeld_47 : decode cX8_isHeld 47 = .ok (.aload_n 0, 1) := by decide +kernel
theorem dX8_isHeld_48 : decode cX8_isHeld 48 = .ok (.iload_n 1, 1) := by decide +kernel
theorem dX8_isHeld_49 : decode cX8_isHeld 49 = .ok (.invokevirtual 155, 3) := by decide +kernel
theorem dX8_isHeld_52 : decode cX8_isHeld 52 = .ok (.if_icmp .le 5, 3) := by decide +kernel
theorem dX8_isHeld_55 : decode cX8_isHeld 55 = .ok (.iconst 0, 1) := by decide +kernel
theorem dX8_isHeld_56 : decode cX8_isHeld 56 = .ok (.ireturn, 1) := by decide +kernel
theorem dX8_isHeld_57 : decode cX8_isHeld 57 = .ok (.iinc 1 1, 3) := by decide +kernel
theorem dX8_isHeld_60 : decode cX8_isHeld 60 = .ok (.goto (-58), 3) := by decide +kernel
theorem dX8_isHeld_63 : decode cX8_isHeld 63 = .ok (.iconst 1, 1) := by decide +kernel
theorem dX8_isHeld_64 : decode cX8_isHeld 64 = .ok (.ireturn, 1) := by decide +kernel
theorem dX8_canRow_0 : decode cX8_canRow 0 = .ok (.iconst 0, 1) := by decide +kernel
theorem dX8_canRow_1 : decode cX8_canRow 1 = .ok (.istore_n 2, 1) := by decide +kernel
theorem dX8_canRow_2 : decode cX8_canRow 2 = .ok (.iload_n 2, 1) := by decide +kernel
theorem dX8_canRow_3 : decode cX8_canRow 3 = .ok (.aload_n 0, 1) := by decide +kernel
theorem dX8_canRow_4 : decode cX8_canRow 4 = .ok (.getfield 95, 3) := by decide +kernel
theorem dX8_canRow_7 : decode cX8_canRow 7 = .ok (.if_icmp .ge 48, 3) := by decide +kernel
theorem dX8_canRow_10 : decode cX8_canRow 10 = .ok (.aload_n 0, 1) := by decide +kernel
theorem dX8_canRow_11 : decode cX8_canRow 11 = .ok (.getfield 64, 3) := by decide +kernel
theorem dX8_canRow_14 : decode cX8_canRow 14 = .ok (.iload_n 2, 1) := by decide +kernel
theorem dX8_canRow_15 : decode cX8_canRow 15 = .ok (.iaload, 1) := by decide +kernel
theorem dX8_canRow_16 : decode cX8_canRow 16 = .ok (.aload_n 0, 1) := by decide +kernel
theorem dX8_canRow_17 : decode cX8_canRow 17 = .ok (.getfield 92, 3) := by decide +kernel
theorem dX8_canRow_20 : decode cX8_canRow 20 = .ok (.if_icmp .ge 29, 3) := by decide +kernel
theorem dX8_canRow_23 : decode cX8_canRow 23 = .ok (.aload_n 0, 1) := by decide +kernel
theorem dX8_canRow_24 : decode cX8_canRow 24 = .ok (.getfield 64, 3) := by decide +kernel
theorem dX8_canRow_27 : decode cX8_canRow 27 = .ok (.iload_n 2, 1) := by decide +kernel
theorem dX8_canRow_28 : decode cX8_canRow 28 = .ok (.iaload, 1) := by decide +kernel
theorem dX8_canRow_29 : decode cX8_canRow 29 = .ok (.iload_n 1, 1) := by decide +kernel
theorem dX8_canRow_30 : decode cX8_canRow 30 = .ok (.if_icmp .eq 17, 3) := by decide +kernel
theorem dX8_canRow_33 : decode cX8_canRow 33 = .ok (.aload_n 0, 1) := by decide +kernel
theorem dX8_canRow_34 : decode cX8_canRow 34 = .ok (.iload_n 2, 1) := by decide +kernel
theorem dX8_canRow_35 : decode cX8_canRow 35 = .ok (.aload_n 0, 1) := by decide +kernel
theorem dX8_canRow_36 : decode cX8_canRow 36 = .ok (.getfield 64, 3) := by decide +kernel
theorem dX8_canRow_39 : decode cX8_canRow 39 = .ok (.iload_n 2, 1) := by decide +kernel
theorem dX8_canRow_40 : decode cX8_canRow 40 = .ok (.iaload, 1) := by decide +kernel
theorem dX8_canRow_41 : decode cX8_canRow 41 = .ok (.invokevirtual 171, 3) := by decide +kernel
theorem dX8_canRow_44 : decode cX8_canRow 44 = .ok (.ifCond .ne 5, 3) := by decide +kernel
theorem dX8_canRow_47 : decode cX8_canRow 47 = .ok (.iconst 0, 1) := by decide +kernel
theorem dX8_canRow_48 : decode cX8_canRow 48 = .ok (.ireturn, 1) := by decide +kernel
theorem dX8_canRow_49 : decode cX8_canRow 49 = .ok (.iinc 2 1, 3) := by decide +kernel
theorem dX8_canRow_52 : decode cX8_canRow 52 = .ok (.goto (-50), 3) := by decide +kernel
theorem dX8_canRow_55 : decode cX8_canRow 55 = .ok (.aload_n 0, 1) := by decide +kernel
theorem dX8_canRow_56 : decode cX8_canRow 56 = .ok (.invokevirtual 208, 3) := by decide +kernel
theorem dX8_canRow_59 : decode cX8_canRow 59 = .ok (.ireturn, 1) := by decide +kernel
theorem dX8_findHoused_0 : decode cX8_findHoused 0 = .ok (.aload_n 0, 1) := by decide +kernel
theorem dX8_findHoused_1 : decode cX8_findHoused 1 = .ok (.bipush (-9), 2) := by decide +kernel
theorem dX8_findHoused_3 : decode cX8_findHoused 3 = .ok (.putfield 212, 3) := by decide +kernel
theorem dX8_findHoused_6 : decode cX8_findHoused 6 = .ok (.iconst 0, 1) := by decide +kernel
theorem dX8_findHoused_7 : decode cX8_findHoused 7 = .ok (.istore_n 2, 1) := by decide +kernel
theorem dX8_findHoused_8 : decode cX8_findHoused 8 = .ok (.iload_n 2, 1) := by decide +kernel
theorem dX8_findHoused_9 : decode cX8_findHoused 9 = .ok (.aload_n 0, 1) := by decide +kernel
theorem dX8_findHoused_10 : decode cX8_findHoused 10 = .ok (.invokevirtual 215, 3) := by decide +kernel
theorem dX8_findHoused_13 : decode cX8_findHoused 13 = .ok (.if_icmp .ge 182, 3) := by decide +kernel
theorem dX8_findHoused_16 : decode cX8_findHoused 16 = .ok (.aload_n 0, 1) := by decide +kernel
theorem dX8_findHoused_17 : decode cX8_findHoused 17 = .ok (.iload_n 2, 1) := by decide +kernel
theorem dX8_findHoused_18 : decode cX8_findHoused 18 = .ok (.invokevirtual 218, 3) := by decide +kernel
theorem dX8_findHoused_21 : decode cX8_findHoused 21 = .ok (.iconst 0, 1) := by decide +kernel
theorem dX8_findHoused_22 : decode cX8_findHoused 22 = .ok (.istore_n 3, 1) := by decide +kernel
theorem dX8_findHoused_23 : decode cX8_findHoused 23 = .ok (.iconst 0, 1) := by decide +kernel
theorem dX8_findHoused_24 : decode cX8_findHoused 24 = .ok (.istore 4, 2) := by decide +kernel
theorem dX8_findHoused_26 : decode cX8_findHoused 26 = .ok (.iconst 0, 1) := by decide +kernel
theorem dX8_findHoused_27 : decode cX8_findHoused 27 = .ok (.istore 5, 2) := by decide +kernel
theorem dX8_findHoused_29 : decode cX8_findHoused 29 = .ok (.iload 5, 2) := by decide +kernel
theorem dX8_findHoused_31 : decode cX8_findHoused 31 = .ok (.aload_n 0, 1) := by decide +kernel
theorem dX8_findHoused_32 : decode cX8_findHoused 32 = .ok (.getfield 95, 3) := by decide +kernel
theorem dX8_findHoused_35 : decode cX8_findHoused 35 = .ok (.if_icmp .ge 66, 3) := by decide +kernel
theorem dX8_findHoused_38 : decode cX8_findHoused 38 = .ok (.iload_n 3, 1) := by decide +kernel
theorem dX8_findHoused_39 : decode cX8_findHoused 39 = .ok (.aload_n 0, 1) := by decide +kernel
theorem dX8_findHoused_40 : decode cX8_findHoused 40 = .ok (.getfield 64, 3) := by decide +kernel
theorem dX8_findHoused_43 : decode cX8_findHoused 43 = .ok (.iload 5, 2) := by decide +kernel
theorem dX8_findHoused_45 : decode cX8_findHoused 45 = .ok (.iaload, 1) := by decide +kernel
theorem dX8_findHoused_46 : decode cX8_findHoused 46 = .ok (.aload_n 0, 1) := by decide +kernel
theorem dX8_findHoused_47 : decode cX8_findHoused 47 = .ok (.getfield 92, 3) := by decide +kernel
theorem dX8_findHoused_50 : decode cX8_findHoused 50 = .ok (.if_icmp .ge 7, 3) := by decide +kernel
theorem dX8_findHoused_53 : decode cX8_findHoused 53 = .ok (.iconst 1, 1) := by decide +kernel
theorem dX8_findHoused_54 : decode cX8_findHoused 54 = .ok (.goto 4, 3) := by decide +kernel
theorem dX8_findHoused_57 : decode cX8_findHoused 57 = .ok (.iconst 0, 1) := by decide +kernel
theorem dX8_findHoused_58 : decode cX8_findHoused 58 = .ok (.iadd, 1) := by decide +kernel
theorem dX8_findHoused_59 : decode cX8_findHoused 59 = .ok (.istore_n 3, 1) := by decide +kernel
theorem dX8_findHoused_60 : decode cX8_findHoused 60 = .ok (.iload 4, 2) := by decide +kernel
theorem dX8_findHoused_62 : decode cX8_findHoused 62 = .ok (.aload_n 0, 1) := by decide +kernel
theorem dX8_findHoused_63 : decode cX8_findHoused 63 = .ok (.getfield 64, 3) := by decide +kernel
theorem dX8_findHoused_66 : decode cX8_findHoused 66 = .ok (.iload 5, 2) := by decide +kernel
theorem dX8_findHoused_68 : decode cX8_findHoused 68 = .ok (.iaload, 1) := by decide +kernel
theorem dX8_findHoused_69 : decode cX8_findHoused 69 = .ok (.aload_n 0, 1) := by decide +kernel
theorem dX8_findHoused_70 : decode cX8_findHoused 70 = .ok (.getfield 92, 3) := by decide +kernel
theorem dX8_findHoused_73 : decode cX8_findHoused 73 = .ok (.if_icmp .ge 18, 3) := by decide +kernel
theorem dX8_findHoused_76 : decode cX8_findHoused 76 = .ok (.aload_n 0, 1) := by decide +kernel
theorem dX8_findHoused_77 : decode cX8_findHoused 77 = .ok (.getfield 25, 3) := by decide +kernel
theorem dX8_findHoused_80 : decode cX8_findHoused 80 = .ok (.aload_n 0, 1) := by decide +kernel
theorem dX8_findHoused_81 : decode cX8_findHoused 81 = .ok (.getfield 64, 3) := by decide +kernel
theorem dX8_findHoused_84 : decode cX8_findHoused 84 = .ok (.iload 5, 2) := by decide +kernel
theorem dX8_findHoused_86 : decode cX8_findHoused 86 = .ok (.iaload, 1) := by decide +kernel
theorem dX8_findHoused_87 : decode cX8_findHoused 87 = .ok (.iaload, 1) := by decide +kernel
theorem dX8_findHoused_88 : decode cX8_findHoused 88 = .ok (.goto 4, 3) := by decide +kernel
theorem dX8_findHoused_91 : decode cX8_findHoused 91 = .ok (.iconst 0, 1) := by decide +kernel
theorem dX8_findHoused_92 : decode cX8_findHoused 92 = .ok (.iadd, 1) := by decide +kernel
theorem dX8_findHoused_93 : decode cX8_findHoused 93 = .ok (.istore 4, 2) := by decide +kernel
theorem dX8_findHoused_95 : decode cX8_findHoused 95 = .ok (.iinc 5 1, 3) := by decide +kernel
theorem dX8_findHoused_98 : decode cX8_findHoused 98 = .ok (.goto (-69), 3) := by decide +kernel
theorem dX8_findHoused_101 : decode cX8_findHoused 101 = .ok (.iload_n 3, 1) := by decide +kernel
theorem dX8_findHoused_102 : decode cX8_findHoused 102 = .ok (.aload_n 0, 1) := by decide +kernel
theorem dX8_findHoused_103 : decode cX8_findHoused 103 = .ok (.getfield 212, 3) := by decide +kernel
theorem dX8_findHoused_106 : decode cX8_findHoused 106 = .ok (.if_icmp .gt 20, 3) := by decide +kernel
theorem dX8_findHoused_109 : decode cX8_findHoused 109 = .ok (.iload_n 3, 1) := by decide +kernel
theorem dX8_findHoused_110 : decode cX8_findHoused 110 = .ok (.aload_n 0, 1) := by decide +kernel
theorem dX8_findHoused_111 : decode cX8_findHoused 111 = .ok (.getfield 212, 3) := by decide +kernel
theorem dX8_findHoused_114 : decode cX8_findHoused 114 = .ok (.if_icmp .ne 16, 3) := by decide +kernel
theorem dX8_findHoused_117 : decode cX8_findHoused 117 = .ok (.iload 4, 2) := by decide +kernel
theorem dX8_findHoused_119 : decode cX8_findHoused 119 = .ok (.aload_n 0, 1) := by decide +kernel
theorem dX8_findHoused_120 : decode cX8_findHoused 120 = .ok (.getfield 222, 3) := by decide +kernel
theorem dX8_findHoused_123 : decode cX8_findHoused 123 = .ok (.if_icmp .ge 7, 3) := by decide +kernel
theorem dX8_findHoused_126 : decode cX8_findHoused 126 = .ok (.iconst 1, 1) := by decide +kernel
theorem dX8_findHoused_127 : decode cX8_findHoused 127 = .ok (.goto 4, 3) := by decide +kernel
theorem dX8_findHoused_130 : decode cX8_findHoused 130 = .ok (.iconst 0, 1) := by decide +kernel
theorem dX8_findHoused_131 : decode cX8_findHoused 131 = .ok (.istore 5, 2) := by decide +kernel
theorem dX8_findHoused_133 : decode cX8_findHoused 133 = .ok (.iload 5, 2) := by decide +kernel
theorem dX8_findHoused_135 : decode cX8_findHoused 135 = .ok (.ifCond .eq 54, 3) := by decide +kernel
theorem dX8_findHoused_138 : decode cX8_findHoused 138 = .ok (.aload_n 0, 1) := by decide +kernel
theorem dX8_findHoused_139 : decode cX8_findHoused 139 = .ok (.iload_n 1, 1) := by decide +kernel
theorem dX8_findHoused_140 : decode cX8_findHoused 140 = .ok (.invokevirtual 225, 3) := by decide +kernel
theorem dX8_findHoused_143 : decode cX8_findHoused 143 = .ok (.ifCond .eq 46, 3) := by decide +kernel
theorem dX8_findHoused_146 : decode cX8_findHoused 146 = .ok (.aload_n 0, 1) := by decide +kernel
theorem dX8_findHoused_147 : decode cX8_findHoused 147 = .ok (.iload_n 3, 1) := by decide +kernel
theorem dX8_findHoused_148 : decode cX8_findHoused 148 = .ok (.putfield 212, 3) := by decide +kernel
theorem dX8_findHoused_151 : decode cX8_findHoused 151 = .ok (.aload_n 0, 1) := by decide +kernel
theorem dX8_findHoused_152 : decode cX8_findHoused 152 = .ok (.iload 4, 2) := by decide +kernel
theorem dX8_findHoused_154 : decode cX8_findHoused 154 = .ok (.putfield 222, 3) := by decide +kernel
theorem dX8_findHoused_157 : decode cX8_findHoused 157 = .ok (.iconst 0, 1) := by decide +kernel
theorem dX8_findHoused_158 : decode cX8_findHoused 158 = .ok (.istore 6, 2) := by decide +kernel
theorem dX8_findHoused_160 : decode cX8_findHoused 160 = .ok (.iload 6, 2) := by decide +kernel
theorem dX8_findHoused_162 : decode cX8_findHoused 162 = .ok (.aload_n 0, 1) := by decide +kernel
theorem dX8_findHoused_163 : decode cX8_findHoused 163 = .ok (.getfield 95, 3) := by decide +kernel
theorem dX8_findHoused_166 : decode cX8_findHoused 166 = .ok (.if_icmp .ge 23, 3) := by decide +kernel
theorem dX8_findHoused_169 : decode cX8_findHoused 169 = .ok (.aload_n 0, 1) := by decide +kernel
theorem dX8_findHoused_170 : decode cX8_findHoused 170 = .ok (.getfield 67, 3) := by decide +kernel
theorem dX8_findHoused_173 : decode cX8_findHoused 173 = .ok (.iload 6, 2) := by decide +kernel
theorem dX8_findHoused_175 : decode cX8_findHoused 175 = .ok (.aload_n 0, 1) := by decide +kernel
theorem dX8_findHoused_176 : decode cX8_findHoused 176 = .ok (.getfield 64, 3) := by decide +kernel
theorem dX8_findHoused_179 : decode cX8_findHoused 179 = .ok (.iload 6, 2) := by decide +kernel
theorem dX8_findHoused_181 : decode cX8_findHoused 181 = .ok (.iaload, 1) := by decide +kernel
theorem dX8_findHoused_182 : decode cX8_findHoused 182 = .ok (.iastore, 1) := by decide +kernel
theorem dX8_findHoused_183 : decode cX8_findHoused 183 = .ok (.iinc 6 1, 3) := by decide +kernel
theorem dX8_findHoused_186 : decode cX8_findHoused 186 = .ok (.goto (-26), 3) := by decide +kernel
theorem dX8_findHoused_189 : decode cX8_findHoused 189 = .ok (.iinc 2 1, 3) := by decide +kernel
theorem dX8_findHoused_192 : decode cX8_findHoused 192 = .ok (.goto (-184), 3) := by decide +kernel
theorem dX8_findHoused_195 : decode cX8_findHoused 195 = .ok (.return_, 1) := by decide +kernel
theorem dX8_housed_0 : decode cX8_housed 0 = .ok (.iload_n 1, 1) := by decide +kernel
theorem dX8_housed_1 : decode cX8_housed 1 = .ok (.bipush (-2), 2) := by decide +kernel
theorem dX8_housed_3 : decode cX8_housed 3 = .ok (.iconst 4, 1) := by decide +kernel
theorem dX8_housed_4 : decode cX8_housed 4 = .ok (.invokestatic 88, 3) := by decide +kernel
theorem dX8_housed_7 : decode cX8_housed 7 = .ok (.ifCond .ne 6, 3) := by decide +kernel
theorem dX8_housed_10 : decode cX8_housed 10 = .ok (.bipush (-2), 2) := by decide +kernel
theorem dX8_housed_12 : decode cX8_housed 12 = .ok (.ireturn, 1) := by decide +kernel
theorem dX8_housed_13 : decode cX8_housed 13 = .ok (.aload_n 0, 1) := by decide +kernel
theorem dX8_housed_14 : decode cX8_housed 14 = .ok (.getfield 92, 3) := by decide +kernel
theorem dX8_housed_17 : decode cX8_housed 17 = .ok (.ifCond .ne 6, 3) := by decide +kernel
theorem dX8_housed_20 : decode cX8_housed 20 = .ok (.bipush (-3), 2) := by decide +kernel
theorem dX8_housed_22 : decode cX8_housed 22 = .ok (.ireturn, 1) := by decide +kernel
theorem dX8_housed_23 : decode cX8_housed 23 = .ok (.aload_n 0, 1) := by decide +kernel
theorem dX8_housed_24 : decode cX8_housed 24 = .ok (.bipush (-9), 2) := by decide +kernel
theorem dX8_housed_26 : decode cX8_housed 26 = .ok (.invokevirtual 228, 3) := by decide +kernel
theorem dX8_housed_29 : decode cX8_housed 29 = .ok (.iload_n 1, 1) := by decide +kernel
theorem dX8_housed_30 : decode cX8_housed 30 = .ok (.ifCond .ge 21, 3) := by decide +kernel
theorem dX8_housed_33 : decode cX8_housed 33 = .ok (.iload_n 1, 1) := by decide +kernel
theorem dX8_housed_34 : decode cX8_housed 34 = .ok (.bipush (-2), 2) := by decide +kernel
theorem dX8_housed_36 : decode cX8_housed 36 = .ok (.if_icmp .ne 10, 3) := by decide +kernel
theorem dX8_housed_39 : decode cX8_housed 39 = .ok (.aload_n 0, 1) := by decide +kernel
theorem dX8_housed_40 : decode cX8_housed 40 = .ok (.getfield 212, 3) := by decide +kernel
theorem dX8_housed_43 : decode cX8_housed 43 = .ok (.goto 7, 3) := by decide +kernel
theorem dX8_housed_46 : decode cX8_housed 46 = .ok (.aload_n 0, 1) := by decide +kernel
theorem dX8_housed_47 : decode cX8_housed 47 = .ok (.getfield 222, 3) := by decide +kernel
theorem dX8_housed_50 : decode cX8_housed 50 = .ok (.ireturn, 1) := by decide +kernel
theorem dX8_housed_51 : decode cX8_housed 51 = .ok (.aload_n 0, 1) := by decide +kernel
theorem dX8_housed_52 : decode cX8_housed 52 = .ok (.iload_n 1, 1) := by decide +kernel
theorem dX8_housed_53 : decode cX8_housed 53 = .ok (.invokevirtual 161, 3) := by decide +kernel
theorem dX8_housed_56 : decode cX8_housed 56 = .ok (.ifCond .eq 25, 3) := by decide +kernel
theorem dX8_housed_59 : decode cX8_housed 59 = .ok (.aload_n 0, 1) := by decide +kernel
theorem dX8_housed_60 : decode cX8_housed 60 = .ok (.getfield 67, 3) := by decide +kernel
theorem dX8_housed_63 : decode cX8_housed 63 = .ok (.iload_n 1, 1) := by decide +kernel
theorem dX8_housed_64 : decode cX8_housed 64 = .ok (.iaload, 1) := by decide +kernel
theorem dX8_housed_65 : decode cX8_housed 65 = .ok (.aload_n 0, 1) := by decide +kernel
theorem dX8_housed_66 : decode cX8_housed 66 = .ok (.getfield 92, 3) := by decide +kernel
theorem dX8_housed_69 : decode cX8_housed 69 = .ok (.if_icmp .ge 12, 3) := by decide +kernel
theorem dX8_housed_72 : decode cX8_housed 72 = .ok (.aload_n 0, 1) := by decide +kernel
theorem dX8_housed_73 : decode cX8_housed 73 = .ok (.getfield 67, 3) := by decide +kernel
theorem dX8_housed_76 : decode cX8_housed 76 = .ok (.iload_n 1, 1) := by decide +kernel
theorem dX8_housed_77 : decode cX8_housed 77 = .ok (.iaload, 1) := by decide +kernel
theorem dX8_housed_78 : decode cX8_housed 78 = .ok (.goto 5, 3) := by decide +kernel
theorem dX8_housed_81 : decode cX8_housed 81 = .ok (.bipush (-9), 2) := by decide +kernel
theorem dX8_housed_83 : decode cX8_housed 83 = .ok (.ireturn, 1) := by decide +kernel
theorem dX8_ploughed_0 : decode cX8_ploughed 0 = .ok (.aload_n 0, 1) := by decide +kernel
theorem dX8_ploughed_1 : decode cX8_ploughed 1 = .ok (.iload_n 1, 1) := by decide +kernel
theorem dX8_ploughed_2 : decode cX8_ploughed 2 = .ok (.invokevirtual 152, 3) := by decide +kernel
theorem dX8_ploughed_5 : decode cX8_ploughed 5 = .ok (.ifCond .ne 5, 3) := by decide +kernel
theorem dX8_ploughed_8 : decode cX8_ploughed 8 = .ok (.iconst (-1), 1) := by decide +kernel
theorem dX8_ploughed_9 : decode cX8_ploughed 9 = .ok (.ireturn, 1) := by decide +kernel
theorem dX8_ploughed_10 : decode cX8_ploughed 10 = .ok (.aload_n 0, 1) := by decide +kernel
theorem dX8_ploughed_11 : decode cX8_ploughed 11 = .ok (.iload_n 1, 1) := by decide +kernel
theorem dX8_ploughed_12 : decode cX8_ploughed 12 = .ok (.invokevirtual 228, 3) := by decide +kernel
theorem dX8_ploughed_15 : decode cX8_ploughed 15 = .ok (.aload_n 0, 1) := by decide +kernel
theorem dX8_ploughed_16 : decode cX8_ploughed 16 = .ok (.getfield 212, 3) := by decide +kernel
theorem dX8_ploughed_19 : decode cX8_ploughed 19 = .ok (.ireturn, 1) := by decide +kernel
theorem dX8_way_0 : decode cX8_way 0 = .ok (.aload_n 0, 1) := by decide +kernel
theorem dX8_way_1 : decode cX8_way 1 = .ok (.iload_n 1, 1) := by decide +kernel
theorem dX8_way_2 : decode cX8_way 2 = .ok (.invokevirtual 161, 3) := by decide +kernel
theorem dX8_way_5 : decode cX8_way 5 = .ok (.ifCond .ne 5, 3) := by decide +kernel
theorem dX8_way_8 : decode cX8_way 8 = .ok (.iconst (-1), 1) := by decide +kernel
theorem dX8_way_9 : decode cX8_way 9 = .ok (.ireturn, 1) := by decide +kernel
theorem dX8_way_10 : decode cX8_way 10 = .ok (.iload_n 2, 1) := by decide +kernel
theorem dX8_way_11 : decode cX8_way 11 = .ok (.iconst 0, 1) := by decide +kernel
theorem dX8_way_12 : decode cX8_way 12 = .ok (.bipush 9, 2) := by decide +kernel
theorem dX8_way_14 : decode cX8_way 14 = .ok (.invokestatic 88, 3) := by decide +kernel
theorem dX8_way_17 : decode cX8_way 17 = .ok (.ifCond .ne 6, 3) := by decide +kernel
theorem dX8_way_20 : decode cX8_way 20 = .ok (.bipush (-2), 2) := by decide +kernel
theorem dX8_way_22 : decode cX8_way 22 = .ok (.ireturn, 1) := by decide +kernel
theorem dX8_way_23 : decode cX8_way 23 = .ok (.aload_n 0, 1) := by decide +kernel
theorem dX8_way_24 : decode cX8_way 24 = .ok (.getfield 34, 3) := by decide +kernel
theorem dX8_way_27 : decode cX8_way 27 = .ok (.iload_n 1, 1) := by decide +kernel
theorem dX8_way_28 : decode cX8_way 28 = .ok (.iaload, 1) := by decide +kernel
theorem dX8_way_29 : decode cX8_way 29 = .ok (.iload_n 2, 1) := by decide +kernel
theorem dX8_way_30 : decode cX8_way 30 = .ok (.invokestatic 168, 3) := by decide +kernel
theorem dX8_way_33 : decode cX8_way 33 = .ok (.aload_n 0, 1) := by decide +kernel
theorem dX8_way_34 : decode cX8_way 34 = .ok (.getfield 37, 3) := by decide +kernel
theorem dX8_way_37 : decode cX8_way 37 = .ok (.iload_n 1, 1) := by decide +kernel
theorem dX8_way_38 : decode cX8_way 38 = .ok (.iaload, 1) := by decide +kernel
theorem dX8_way_39 : decode cX8_way 39 = .ok (.if_icmp .gt 5, 3) := by decide +kernel
theorem dX8_way_42 : decode cX8_way 42 = .ok (.iconst 0, 1) := by decide +kernel
theorem dX8_way_43 : decode cX8_way 43 = .ok (.ireturn, 1) := by decide +kernel
theorem dX8_way_44 : decode cX8_way 44 = .ok (.iconst 0, 1) := by decide +kernel
theorem dX8_way_45 : decode cX8_way 45 = .ok (.istore_n 3, 1) := by decide +kernel
theorem dX8_way_46 : decode cX8_way 46 = .ok (.iload_n 3, 1) := by decide +kernel
theorem dX8_way_47 : decode cX8_way 47 = .ok (.aload_n 0, 1) := by decide +kernel
theorem dX8_way_48 : decode cX8_way 48 = .ok (.getfield 92, 3) := by decide +kernel
theorem dX8_way_51 : decode cX8_way 51 = .ok (.if_icmp .ge 45, 3) := by decide +kernel
theorem dX8_way_54 : decode cX8_way 54 = .ok (.aload_n 0, 1) := by decide +kernel
theorem dX8_way_55 : decode cX8_way 55 = .ok (.getfield 70, 3) := by decide +kernel
theorem dX8_way_58 : decode cX8_way 58 = .ok (.iload_n 3, 1) := by decide +kernel
theorem dX8_way_59 : decode cX8_way 59 = .ok (.aload_n 0, 1) := by decide +kernel
theorem dX8_way_60 : decode cX8_way 60 = .ok (.getfield 34, 3) := by decide +kernel
theorem dX8_way_63 : decode cX8_way 63 = .ok (.iload_n 1, 1) := by decide +kernel
theorem dX8_way_64 : decode cX8_way 64 = .ok (.iaload, 1) := by decide +kernel
theorem dX8_way_65 : decode cX8_way 65 = .ok (.aload_n 0, 1) := by decide +kernel
theorem dX8_way_66 : decode cX8_way 66 = .ok (.getfield 28, 3) := by decide +kernel
theorem dX8_way_69 : decode cX8_way 69 = .ok (.iload_n 3, 1) := by decide +kernel
theorem dX8_way_70 : decode cX8_way 70 = .ok (.iaload, 1) := by decide +kernel
theorem dX8_way_71 : decode cX8_way 71 = .ok (.invokestatic 168, 3) := by decide +kernel
theorem dX8_way_74 : decode cX8_way 74 = .ok (.aload_n 0, 1) := by decide +kernel
theorem dX8_way_75 : decode cX8_way 75 = .ok (.getfield 37, 3) := by decide +kernel
theorem dX8_way_78 : decode cX8_way 78 = .ok (.iload_n 1, 1) := by decide +kernel
theorem dX8_way_79 : decode cX8_way 79 = .ok (.iaload, 1) := by decide +kernel
theorem dX8_way_80 : decode cX8_way 80 = .ok (.if_icmp .gt 7, 3) := by decide +kernel
theorem dX8_way_83 : decode cX8_way 83 = .ok (.iconst 1, 1) := by decide +kernel
theorem dX8_way_84 : decode cX8_way 84 = .ok (.goto 5, 3) := by decide +kernel
theorem dX8_way_87 : decode cX8_way 87 = .ok (.bipush (-9), 2) := by decide +kernel
theorem dX8_way_89 : decode cX8_way 89 = .ok (.iastore, 1) := by decide +kernel
theorem dX8_way_90 : decode cX8_way 90 = .ok (.iinc 3 1, 3) := by decide +kernel
theorem dX8_way_93 : decode cX8_way 93 = .ok (.goto (-47), 3) := by decide +kernel
theorem dX8_way_96 : decode cX8_way 96 = .ok (.iconst 1, 1) := by decide +kernel
theorem dX8_way_97 : decode cX8_way 97 = .ok (.istore_n 3, 1) := by decide +kernel
theorem dX8_way_98 : decode cX8_way 98 = .ok (.iload_n 3, 1) := by decide +kernel
theorem dX8_way_99 : decode cX8_way 99 = .ok (.aload_n 0, 1) := by decide +kernel
theorem dX8_way_100 : decode cX8_way 100 = .ok (.getfield 92, 3) := by decide +kernel
theorem dX8_way_103 : decode cX8_way 103 = .ok (.if_icmp .gt 66, 3) := by decide +kernel
theorem dX8_way_106 : decode cX8_way 106 = .ok (.iconst 0, 1) := by decide +kernel
theorem dX8_way_107 : decode cX8_way 107 = .ok (.istore 4, 2) := by decide +kernel
theorem dX8_way_109 : decode cX8_way 109 = .ok (.iload 4, 2) := by decide +kernel
theorem dX8_way_111 : decode cX8_way 111 = .ok (.aload_n 0, 1) := by decide +kernel
theorem dX8_way_112 : decode cX8_way 112 = .ok (.getfield 92, 3) := by decide +kernel
theorem dX8_way_115 : decode cX8_way 115 = .ok (.if_icmp .ge 42, 3) := by decide +kernel
theorem dX8_way_118 : decode cX8_way 118 = .ok (.aload_n 0, 1) := by decide +kernel
theorem dX8_way_119 : decode cX8_way 119 = .ok (.getfield 70, 3) := by decide +kernel
theorem dX8_way_122 : decode cX8_way 122 = .ok (.iload 4, 2) := by decide +kernel
theorem dX8_way_124 : decode cX8_way 124 = .ok (.iaload, 1) := by decide +kernel
theorem dX8_way_125 : decode cX8_way 125 = .ok (.iload_n 3, 1) := by decide +kernel
theorem dX8_way_126 : decode cX8_way 126 = .ok (.if_icmp .ne 25, 3) := by decide +kernel
theorem dX8_way_129 : decode cX8_way 129 = .ok (.aload_n 0, 1) := by decide +kernel
theorem dX8_way_130 : decode cX8_way 130 = .ok (.getfield 28, 3) := by decide +kernel
theorem dX8_way_133 : decode cX8_way 133 = .ok (.iload 4, 2) := by decide +kernel
theorem dX8_way_135 : decode cX8_way 135 = .ok (.iaload, 1) := by decide +kernel
theorem dX8_way_136 : decode cX8_way 136 = .ok (.iload_n 2, 1) := by decide +kernel
theorem dX8_way_137 : decode cX8_way 137 = .ok (.invokestatic 168, 3) := by decide +kernel
theorem dX8_way_140 : decode cX8_way 140 = .ok (.aload_n 0, 1) := by decide +kernel
theorem dX8_way_141 : decode cX8_way 141 = .ok (.getfield 37, 3) := by decide +kernel
theorem dX8_way_144 : decode cX8_way 144 = .ok (.iload_n 1, 1) := by decide +kernel
theorem dX8_way_145 : decode cX8_way 145 = .ok (.iaload, 1) := by decide +kernel
theorem dX8_way_146 : decode cX8_way 146 = .ok (.if_icmp .gt 5, 3) := by decide +kernel
theorem dX8_way_149 : decode cX8_way 149 = .ok (.iload_n 3, 1) := by decide +kernel
theorem dX8_way_150 : decode cX8_way 150 = .ok (.ireturn, 1) := by decide +kernel
theorem dX8_way_151 : decode cX8_way 151 = .ok (.iinc 4 1, 3) := by decide +kernel
theorem dX8_way_154 : decode cX8_way 154 = .ok (.goto (-45), 3) := by decide +kernel
theorem dX8_way_157 : decode cX8_way 157 = .ok (.aload_n 0, 1) := by decide +kernel
theorem dX8_way_158 : decode cX8_way 158 = .ok (.iload_n 1, 1) := by decide +kernel
theorem dX8_way_159 : decode cX8_way 159 = .ok (.iload_n 3, 1) := by decide +kernel
theorem dX8_way_160 : decode cX8_way 160 = .ok (.invokevirtual 231, 3) := by decide +kernel
theorem dX8_way_163 : decode cX8_way 163 = .ok (.iinc 3 1, 3) := by decide +kernel
theorem dX8_way_166 : decode cX8_way 166 = .ok (.goto (-68), 3) := by decide +kernel
theorem dX8_way_169 : decode cX8_way 169 = .ok (.bipush (-9), 2) := by decide +kernel
theorem dX8_way_171 : decode cX8_way 171 = .ok (.ireturn, 1) := by decide +kernel
theorem dX8_stepOn_0 : decode cX8_stepOn 0 = .ok (.iconst 0, 1) := by decide +kernel
theorem dX8_stepOn_1 : decode cX8_stepOn 1 = .ok (.istore_n 3, 1) := by decide +kernel
theorem dX8_stepOn_2 : decode cX8_stepOn 2 = .ok (.iload_n 3, 1) := by decide +kernel
theorem dX8_stepOn_3 : decode cX8_stepOn 3 = .ok (.aload_n 0, 1) := by decide +kernel
theorem dX8_stepOn_4 : decode cX8_stepOn 4 = .ok (.getfield 92, 3) := by decide +kernel
theorem dX8_stepOn_7 : decode cX8_stepOn 7 = .ok (.aload_n 0, 1) := by decide +kernel
theorem dX8_stepOn_8 : decode cX8_stepOn 8 = .ok (.getfield 92, 3) := by decide +kernel
theorem dX8_stepOn_11 : decode cX8_stepOn 11 = .ok (.imul, 1) := by decide +kernel
theorem dX8_stepOn_12 : decode cX8_stepOn 12 = .ok (.if_icmp .ge 84, 3) := by decide +kernel
theorem dX8_stepOn_15 : decode cX8_stepOn 15 = .ok (.iload_n 3, 1) := by decide +kernel
theorem dX8_stepOn_16 : decode cX8_stepOn 16 = .ok (.aload_n 0, 1) := by decide +kernel
theorem dX8_stepOn_17 : decode cX8_stepOn 17 = .ok (.getfield 92, 3) := by decide +kernel
theorem dX8_stepOn_20 : decode cX8_stepOn 20 = .ok (.idiv, 1) := by decide +kernel
theorem dX8_stepOn_21 : decode cX8_stepOn 21 = .ok (.istore 4, 2) := by decide +kernel
theorem dX8_stepOn_23 : decode cX8_stepOn 23 = .ok (.iload_n 3, 1) := by decide +kernel
theorem dX8_stepOn_24 : decode cX8_stepOn 24 = .ok (.aload_n 0, 1) := by decide +kernel
theorem dX8_stepOn_25 : decode cX8_stepOn 25 = .ok (.getfield 92, 3) := by decide +kernel
theorem dX8_stepOn_28 : decode cX8_stepOn 28 = .ok (.irem, 1) := by decide +kernel
theorem dX8_stepOn_29 : decode cX8_stepOn 29 = .ok (.istore 5, 2) := by decide +kernel
theorem dX8_stepOn_31 : decode cX8_stepOn 31 = .ok (.aload_n 0, 1) := by decide +kernel
theorem dX8_stepOn_32 : decode cX8_stepOn 32 = .ok (.getfield 70, 3) := by decide +kernel
theorem dX8_stepOn_35 : decode cX8_stepOn 35 = .ok (.iload 4, 2) := by decide +kernel
theorem dX8_stepOn_37 : decode cX8_stepOn 37 = .ok (.iaload, 1) := by decide +kernel
theorem dX8_stepOn_38 : decode cX8_stepOn 38 = .ok (.iload_n 2, 1) := by decide +kernel
theorem dX8_stepOn_39 : decode cX8_stepOn 39 = .ok (.if_icmp .ne 51, 3) := by decide +kernel
theorem dX8_stepOn_42 : decode cX8_stepOn 42 = .ok (.aload_n 0, 1) := by decide +kernel
theorem dX8_stepOn_43 : decode cX8_stepOn 43 = .ok (.getfield 70, 3) := by decide +kernel
theorem dX8_stepOn_46 : decode cX8_stepOn 46 = .ok (.iload 5, 2) := by decide +kernel
theorem dX8_stepOn_48 : decode cX8_stepOn 48 = .ok (.iaload, 1) := by decide +kernel
theorem dX8_stepOn_49 : decode cX8_stepOn 49 = .ok (.bipush (-9), 2) := by decide +kernel
theorem dX8_stepOn_51 : decode cX8_stepOn 51 = .ok (.if_icmp .ne 39, 3) := by decide +kernel
theorem dX8_stepOn_54 : decode cX8_stepOn 54 = .ok (.aload_n 0, 1) := by decide +kernel
theorem dX8_stepOn_55 : decode cX8_stepOn 55 = .ok (.getfield 28, 3) := by decide +kernel
theorem dX8_stepOn_58 : decode cX8_stepOn 58 = .ok (.iload 4, 2) := by decide +kernel
theorem dX8_stepOn_60 : decode cX8_stepOn 60 = .ok (.iaload, 1) := by decide +kernel
theorem dX8_stepOn_61 : decode cX8_stepOn 61 = .ok (.aload_n 0, 1) := by decide +kernel
theorem dX8_stepOn_62 : decode cX8_stepOn 62 = .ok (.getfield 28, 3) := by decide +kernel
theorem dX8_stepOn_65 : decode cX8_stepOn 65 = .ok (.iload 5, 2) := by decide +kernel
theorem dX8_stepOn_67 : decode cX8_stepOn 67 = .ok (.iaload, 1) := by decide +kernel
theorem dX8_stepOn_68 : decode cX8_stepOn 68 = .ok (.invokestatic 168, 3) := by decide +kernel
theorem dX8_stepOn_71 : decode cX8_stepOn 71 = .ok (.aload_n 0, 1) := by decide +kernel
theorem dX8_stepOn_72 : decode cX8_stepOn 72 = .ok (.getfield 37, 3) := by decide +kernel
theorem dX8_stepOn_75 : decode cX8_stepOn 75 = .ok (.iload_n 1, 1) := by decide +kernel
theorem dX8_stepOn_76 : decode cX8_stepOn 76 = .ok (.iaload, 1) := by decide +kernel
theorem dX8_stepOn_77 : decode cX8_stepOn 77 = .ok (.if_icmp .gt 13, 3) := by decide +kernel
theorem dX8_stepOn_80 : decode cX8_stepOn 80 = .ok (.aload_n 0, 1) := by decide +kernel
theorem dX8_stepOn_81 : decode cX8_stepOn 81 = .ok (.getfield 70, 3) := by decide +kernel
theorem dX8_stepOn_84 : decode cX8_stepOn 84 = .ok (.iload 5, 2) := by decide +kernel
theorem dX8_stepOn_86 : decode cX8_stepOn 86 = .ok (.iload_n 2, 1) := by decide +kernel
theorem dX8_stepOn_87 : decode cX8_stepOn 87 = .ok (.iconst 1, 1) := by decide +kernel
theorem dX8_stepOn_88 : decode cX8_stepOn 88 = .ok (.iadd, 1) := by decide +kernel
theorem dX8_stepOn_89 : decode cX8_stepOn 89 = .ok (.iastore, 1) := by decide +kernel
theorem dX8_stepOn_90 : decode cX8_stepOn 90 = .ok (.iinc 3 1, 3) := by decide +kernel
theorem dX8_stepOn_93 : decode cX8_stepOn 93 = .ok (.goto (-91), 3) := by decide +kernel
theorem dX8_stepOn_96 : decode cX8_stepOn 96 = .ok (.return_, 1) := by decide +kernel
theorem dX8_areDreams_0 : decode cX8_areDreams 0 = .ok (.iconst 0, 1) := by decide +kernel
theorem dX8_areDreams_1 : decode cX8_areDreams 1 = .ok (.istore_n 2, 1) := by decide +kernel
theorem dX8_areDreams_2 : decode cX8_areDreams 2 = .ok (.iload_n 2, 1) := by decide +kernel
theorem dX8_areDreams_3 : decode cX8_areDreams 3 = .ok (.aload_n 0, 1) := by decide +kernel
theorem dX8_areDreams_4 : decode cX8_areDreams 4 = .ok (.getfield 95, 3) := by decide +kernel
theorem dX8_areDreams_7 : decode cX8_areDreams 7 = .ok (.if_icmp .ge 60, 3) := by decide +kernel
theorem dX8_areDreams_10 : decode cX8_areDreams 10 = .ok (.aload_n 0, 1) := by decide +kernel
theorem dX8_areDreams_11 : decode cX8_areDreams 11 = .ok (.getfield 16, 3) := by decide +kernel
theorem dX8_areDreams_14 : decode cX8_areDreams 14 = .ok (.iload_n 1, 1) := by decide +kernel
theorem dX8_areDreams_15 : decode cX8_areDreams 15 = .ok (.iload_n 2, 1) := by decide +kernel
theorem dX8_areDreams_16 : decode cX8_areDreams 16 = .ok (.iadd, 1) := by decide +kernel
theorem dX8_areDreams_17 : decode cX8_areDreams 17 = .ok (.iaload, 1) := by decide +kernel
theorem dX8_areDreams_18 : decode cX8_areDreams 18 = .ok (.istore_n 3, 1) := by decide +kernel
theorem dX8_areDreams_19 : decode cX8_areDreams 19 = .ok (.aload_n 0, 1) := by decide +kernel
theorem dX8_areDreams_20 : decode cX8_areDreams 20 = .ok (.getfield 64, 3) := by decide +kernel
theorem dX8_areDreams_23 : decode cX8_areDreams 23 = .ok (.iload_n 2, 1) := by decide +kernel
theorem dX8_areDreams_24 : decode cX8_areDreams 24 = .ok (.iaload, 1) := by decide +kernel
theorem dX8_areDreams_25 : decode cX8_areDreams 25 = .ok (.aload_n 0, 1) := by decide +kernel
theorem dX8_areDreams_26 : decode cX8_areDreams 26 = .ok (.getfield 92, 3) := by decide +kernel
theorem dX8_areDreams_29 : decode cX8_areDreams 29 = .ok (.if_icmp .ne 8, 3) := by decide +kernel
theorem dX8_areDreams_32 : decode cX8_areDreams 32 = .ok (.bipush 99, 2) := by decide +kernel
theorem dX8_areDreams_34 : decode cX8_areDreams 34 = .ok (.goto 11, 3) := by decide +kernel
theorem dX8_areDreams_37 : decode cX8_areDreams 37 = .ok (.aload_n 0, 1) := by decide +kernel
theorem dX8_areDreams_38 : decode cX8_areDreams 38 = .ok (.getfield 64, 3) := by decide +kernel
theorem dX8_areDreams_41 : decode cX8_areDreams 41 = .ok (.iload_n 2, 1) := by decide +kernel
theorem dX8_areDreams_42 : decode cX8_areDreams 42 = .ok (.invokestatic 164, 3) := by decide +kernel
theorem dX8_areDreams_45 : decode cX8_areDreams 45 = .ok (.istore 4, 2) := by decide +kernel
theorem dX8_areDreams_47 : decode cX8_areDreams 47 = .ok (.iload_n 3, 1) := by decide +kernel
theorem dX8_areDreams_48 : decode cX8_areDreams 48 = .ok (.bipush (-9), 2) := by decide +kernel
theorem dX8_areDreams_50 : decode cX8_areDreams 50 = .ok (.if_icmp .eq 11, 3) := by decide +kernel
theorem dX8_areDreams_53 : decode cX8_areDreams 53 = .ok (.iload_n 3, 1) := by decide +kernel
theorem dX8_areDreams_54 : decode cX8_areDreams 54 = .ok (.iload 4, 2) := by decide +kernel
theorem dX8_areDreams_56 : decode cX8_areDreams 56 = .ok (.if_icmp .eq 5, 3) := by decide +kernel
theorem dX8_areDreams_59 : decode cX8_areDreams 59 = .ok (.iconst 0, 1) := by decide +kernel
theorem dX8_areDreams_60 : decode cX8_areDreams 60 = .ok (.ireturn, 1) := by decide +kernel
theorem dX8_areDreams_61 : decode cX8_areDreams 61 = .ok (.iinc 2 1, 3) := by decide +kernel
theorem dX8_areDreams_64 : decode cX8_areDreams 64 = .ok (.goto (-62), 3) := by decide +kernel
theorem dX8_areDreams_67 : decode cX8_areDreams 67 = .ok (.aload_n 0, 1) := by decide +kernel
theorem dX8_areDreams_68 : decode cX8_areDreams 68 = .ok (.invokevirtual 208, 3) := by decide +kernel
theorem dX8_areDreams_71 : decode cX8_areDreams 71 = .ok (.ireturn, 1) := by decide +kernel
theorem dX8_lain_0 : decode cX8_lain 0 = .ok (.aload_n 0, 1) := by decide +kernel
theorem dX8_lain_1 : decode cX8_lain 1 = .ok (.iconst 0, 1) := by decide +kernel
theorem dX8_lain_2 : decode cX8_lain 2 = .ok (.putfield 82, 3) := by decide +kernel
theorem dX8_lain_5 : decode cX8_lain 5 = .ok (.iload_n 1, 1) := by decide +kernel
theorem dX8_lain_6 : decode cX8_lain 6 = .ok (.invokestatic 101, 3) := by decide +kernel
theorem dX8_lain_9 : decode cX8_lain 9 = .ok (.ifCond .ne 5, 3) := by decide +kernel
theorem dX8_lain_12 : decode cX8_lain 12 = .ok (.iconst (-1), 1) := by decide +kernel
theorem dX8_lain_13 : decode cX8_lain 13 = .ok (.ireturn, 1) := by decide +kernel
theorem dX8_lain_14 : decode cX8_lain 14 = .ok (.iload_n 2, 1) := by decide +kernel
theorem dX8_lain_15 : decode cX8_lain 15 = .ok (.invokestatic 105, 3) := by decide +kernel
theorem dX8_lain_18 : decode cX8_lain 18 = .ok (.ifCond .eq 13, 3) := by decide +kernel
theorem dX8_lain_21 : decode cX8_lain 21 = .ok (.iload 4, 2) := by decide +kernel
theorem dX8_lain_23 : decode cX8_lain 23 = .ok (.iconst (-1), 1) := by decide +kernel
theorem dX8_lain_24 : decode cX8_lain 24 = .ok (.iconst 4, 1) := by decide +kernel
theorem dX8_lain_25 : decode cX8_lain 25 = .ok (.invokestatic 88, 3) := by decide +kernel
theorem dX8_lain_28 : decode cX8_lain 28 = .ok (.ifCond .ne 6, 3) := by decide +kernel
theorem dX8_lain_31 : decode cX8_lain 31 = .ok (.bipush (-2), 2) := by decide +kernel
theorem dX8_lain_33 : decode cX8_lain 33 = .ok (.ireturn, 1) := by decide +kernel
theorem dX8_lain_34 : decode cX8_lain 34 = .ok (.aload_n 0, 1) := by decide +kernel
theorem dX8_lain_35 : decode cX8_lain 35 = .ok (.getfield 92, 3) := by decide +kernel
theorem dX8_lain_38 : decode cX8_lain 38 = .ok (.ifCond .ne 6, 3) := by decide +kernel
theorem dX8_lain_41 : decode cX8_lain 41 = .ok (.bipush (-3), 2) := by decide +kernel
theorem dX8_lain_43 : decode cX8_lain 43 = .ok (.ireturn, 1) := by decide +kernel
theorem dX8_lain_44 : decode cX8_lain 44 = .ok (.aload_n 0, 1) := by decide +kernel
theorem dX8_lain_45 : decode cX8_lain 45 = .ok (.iload_n 1, 1) := by decide +kernel
theorem dX8_lain_46 : decode cX8_lain 46 = .ok (.iload_n 2, 1) := by decide +kernel
theorem dX8_lain_47 : decode cX8_lain 47 = .ok (.iload_n 3, 1) := by decide +kernel
theorem dX8_lain_48 : decode cX8_lain 48 = .ok (.aload_n 0, 1) := by decide +kernel
theorem dX8_lain_49 : decode cX8_lain 49 = .ok (.getfield 95, 3) := by decide +kernel
theorem dX8_lain_52 : decode cX8_lain 52 = .ok (.invokevirtual 108, 3) := by decide +kernel
theorem dX8_lain_55 : decode cX8_lain 55 = .ok (.istore 5, 2) := by decide +kernel
theorem dX8_lain_57 : decode cX8_lain 57 = .ok (.iload 5, 2) := by decide +kernel
theorem dX8_lain_59 : decode cX8_lain 59 = .ok (.ifCond .eq 10, 3) := by decide +kernel
theorem dX8_lain_62 : decode cX8_lain 62 = .ok (.aload_n 0, 1) := by decide +kernel
theorem dX8_lain_63 : decode cX8_lain 63 = .ok (.iload 5, 2) := by decide +kernel
theorem dX8_lain_65 : decode cX8_lain 65 = .ok (.invokevirtual 112, 3) := by decide +kernel
theorem dX8_lain_68 : decode cX8_lain 68 = .ok (.ireturn, 1) := by decide +kernel
theorem dX8_lain_69 : decode cX8_lain 69 = .ok (.iconst 0, 1) := by decide +kernel
theorem dX8_lain_70 : decode cX8_lain 70 = .ok (.istore 6, 2) := by decide +kernel
theorem dX8_lain_72 : decode cX8_lain 72 = .ok (.bipush (-9), 2) := by decide +kernel
theorem dX8_lain_74 : decode cX8_lain 74 = .ok (.istore 7, 2) := by decide +kernel
theorem dX8_lain_76 : decode cX8_lain 76 = .ok (.iconst 0, 1) := by decide +kernel
theorem dX8_lain_77 : decode cX8_lain 77 = .ok (.istore 8, 2) := by decide +kernel
theorem dX8_lain_79 : decode cX8_lain 79 = .ok (.iload 8, 2) := by decide +kernel
theorem dX8_lain_81 : decode cX8_lain 81 = .ok (.aload_n 0, 1) := by decide +kernel
theorem dX8_lain_82 : decode cX8_lain 82 = .ok (.invokevirtual 215, 3) := by decide +kernel
theorem dX8_lain_85 : decode cX8_lain 85 = .ok (.if_icmp .ge 73, 3) := by decide +kernel
theorem dX8_lain_88 : decode cX8_lain 88 = .ok (.aload_n 0, 1) := by decide +kernel
theorem dX8_lain_89 : decode cX8_lain 89 = .ok (.iload 8, 2) := by decide +kernel
theorem dX8_lain_91 : decode cX8_lain 91 = .ok (.invokevirtual 218, 3) := by decide +kernel
theorem dX8_lain_94 : decode cX8_lain 94 = .ok (.aload_n 0, 1) := by decide +kernel
theorem dX8_lain_95 : decode cX8_lain 95 = .ok (.bipush 60, 2) := by decide +kernel
theorem dX8_lain_97 : decode cX8_lain 97 = .ok (.iload_n 1, 1) := by decide +kernel
theorem dX8_lain_98 : decode cX8_lain 98 = .ok (.imul, 1) := by decide +kernel
theorem dX8_lain_99 : decode cX8_lain 99 = .ok (.iload_n 3, 1) := by decide +kernel
theorem dX8_lain_100 : decode cX8_lain 100 = .ok (.iadd, 1) := by decide +kernel
theorem dX8_lain_101 : decode cX8_lain 101 = .ok (.invokevirtual 235, 3) := by decide +kernel
theorem dX8_lain_104 : decode cX8_lain 104 = .ok (.ifCond .eq 48, 3) := by decide +kernel
theorem dX8_lain_107 : decode cX8_lain 107 = .ok (.iload 6, 2) := by decide +kernel
theorem dX8_lain_109 : decode cX8_lain 109 = .ok (.ifCond .ne 36, 3) := by decide +kernel
theorem dX8_lain_112 : decode cX8_lain 112 = .ok (.aload_n 0, 1) := by decide +kernel
theorem dX8_lain_113 : decode cX8_lain 113 = .ok (.iload 4, 2) := by decide +kernel
theorem dX8_lain_115 : decode cX8_lain 115 = .ok (.invokevirtual 161, 3) := by decide +kernel
theorem dX8_lain_118 : decode cX8_lain 118 = .ok (.ifCond .eq 27, 3) := by decide +kernel
theorem dX8_lain_121 : decode cX8_lain 121 = .ok (.aload_n 0, 1) := by decide +kernel
theorem dX8_lain_122 : decode cX8_lain 122 = .ok (.getfield 64, 3) := by decide +kernel
theorem dX8_lain_125 : decode cX8_lain 125 = .ok (.iload 4, 2) := by decide +kernel
theorem dX8_lain_127 : decode cX8_lain 127 = .ok (.iaload, 1) := by decide +kernel
theorem dX8_lain_128 : decode cX8_lain 128 = .ok (.aload_n 0, 1) := by decide +kernel
theorem dX8_lain_129 : decode cX8_lain 129 = .ok (.getfield 92, 3) := by decide +kernel
theorem dX8_lain_132 : decode cX8_lain 132 = .ok (.if_icmp .ge 13, 3) := by decide +kernel
theorem dX8_lain_135 : decode cX8_lain 135 = .ok (.aload_n 0, 1) := by decide +kernel
theorem dX8_lain_136 : decode cX8_lain 136 = .ok (.getfield 64, 3) := by decide +kernel
theorem dX8_lain_139 : decode cX8_lain 139 = .ok (.iload 4, 2) := by decide +kernel
theorem dX8_lain_141 : decode cX8_lain 141 = .ok (.iaload, 1) := by decide +kernel
