theorem dX1_init_0 : decode cX1_init 0 = .ok (.aload_n 0, 1) := by decide +kernel
theorem dX1_init_1 : decode cX1_init 1 = .ok (.invokespecial 3, 3) := by decide +kernel
theorem dX1_init_4 : decode cX1_init 4 = .ok (.aload_n 0, 1) := by decide +kernel
theorem dX1_init_5 : decode cX1_init 5 = .ok (.iconst 5, 1) := by decide +kernel
theorem dX1_init_6 : decode cX1_init 6 = .ok (.newarray .int, 2) := by decide +kernel
theorem dX1_init_8 : decode cX1_init 8 = .ok (.putfield 9, 3) := by decide +kernel
theorem dX1_init_11 : decode cX1_init 11 = .ok (.aload_n 0, 1) := by decide +kernel
theorem dX1_init_12 : decode cX1_init 12 = .ok (.iconst 5, 1) := by decide +kernel
theorem dX1_init_13 : decode cX1_init 13 = .ok (.newarray .int, 2) := by decide +kernel
theorem dX1_init_15 : decode cX1_init 15 = .ok (.putfield 15, 3) := by decide +kernel
theorem dX1_init_18 : decode cX1_init 18 = .ok (.aload_n 0, 1) := by decide +kernel
theorem dX1_init_19 : decode cX1_init 19 = .ok (.iconst 5, 1) := by decide +kernel
theorem dX1_init_20 : decode cX1_init 20 = .ok (.newarray .int, 2) := by decide +kernel
theorem dX1_init_22 : decode cX1_init 22 = .ok (.putfield 18, 3) := by decide +kernel
theorem dX1_init_25 : decode cX1_init 25 = .ok (.return_, 1) := by decide +kernel
theorem dX1_search_0 : decode cX1_search 0 = .ok (.iconst 0, 1) := by decide +kernel
theorem dX1_search_1 : decode cX1_search 1 = .ok (.istore_n 3, 1) := by decide +kernel
theorem dX1_search_2 : decode cX1_search 2 = .ok (.iload_n 3, 1) := by decide +kernel
theorem dX1_search_3 : decode cX1_search 3 = .ok (.aload_n 1, 1) := by decide +kernel
theorem dX1_search_4 : decode cX1_search 4 = .ok (.getfield 21, 3) := by decide +kernel
theorem dX1_search_7 : decode cX1_search 7 = .ok (.if_icmp .ge 29, 3) := by decide +kernel
theorem dX1_search_10 : decode cX1_search 10 = .ok (.aload_n 0, 1) := by decide +kernel
theorem dX1_search_11 : decode cX1_search 11 = .ok (.getfield 18, 3) := by decide +kernel
theorem dX1_search_14 : decode cX1_search 14 = .ok (.iload_n 3, 1) := by decide +kernel
theorem dX1_search_15 : decode cX1_search 15 = .ok (.iload_n 3, 1) := by decide +kernel
theorem dX1_search_16 : decode cX1_search 16 = .ok (.iload_n 2, 1) := by decide +kernel
theorem dX1_search_17 : decode cX1_search 17 = .ok (.if_icmp .ne 7, 3) := by decide +kernel
theorem dX1_search_20 : decode cX1_search 20 = .ok (.iconst 0, 1) := by decide +kernel
theorem dX1_search_21 : decode cX1_search 21 = .ok (.goto 8, 3) := by decide +kernel
theorem dX1_search_24 : decode cX1_search 24 = .ok (.aload_n 1, 1) := by decide +kernel
theorem dX1_search_25 : decode cX1_search 25 = .ok (.iload_n 3, 1) := by decide +kernel
theorem dX1_search_26 : decode cX1_search 26 = .ok (.invokevirtual 27, 3) := by decide +kernel
theorem dX1_search_29 : decode cX1_search 29 = .ok (.iastore, 1) := by decide +kernel
theorem dX1_search_30 : decode cX1_search 30 = .ok (.iinc 3 1, 3) := by decide +kernel
theorem dX1_search_33 : decode cX1_search 33 = .ok (.goto (-31), 3) := by decide +kernel
theorem dX1_search_36 : decode cX1_search 36 = .ok (.aload_n 0, 1) := by decide +kernel
theorem dX1_search_37 : decode cX1_search 37 = .ok (.bipush (-9), 2) := by decide +kernel
theorem dX1_search_39 : decode cX1_search 39 = .ok (.putfield 31, 3) := by decide +kernel
theorem dX1_search_42 : decode cX1_search 42 = .ok (.aload_n 0, 1) := by decide +kernel
theorem dX1_search_43 : decode cX1_search 43 = .ok (.iconst 0, 1) := by decide +kernel
theorem dX1_search_44 : decode cX1_search 44 = .ok (.putfield 34, 3) := by decide +kernel
theorem dX1_search_47 : decode cX1_search 47 = .ok (.aload_n 0, 1) := by decide +kernel
theorem dX1_search_48 : decode cX1_search 48 = .ok (.aload_n 1, 1) := by decide +kernel
theorem dX1_search_49 : decode cX1_search 49 = .ok (.iconst 0, 1) := by decide +kernel
theorem dX1_search_50 : decode cX1_search 50 = .ok (.iconst 0, 1) := by decide +kernel
theorem dX1_search_51 : decode cX1_search 51 = .ok (.iconst 0, 1) := by decide +kernel
theorem dX1_search_52 : decode cX1_search 52 = .ok (.invokevirtual 37, 3) := by decide +kernel
theorem dX1_search_55 : decode cX1_search 55 = .ok (.return_, 1) := by decide +kernel
theorem dX1_place_0 : decode cX1_place 0 = .ok (.iload_n 3, 1) := by decide +kernel
theorem dX1_place_1 : decode cX1_place 1 = .ok (.aload_n 1, 1) := by decide +kernel
theorem dX1_place_2 : decode cX1_place 2 = .ok (.getfield 41, 3) := by decide +kernel
theorem dX1_place_5 : decode cX1_place 5 = .ok (.iadd, 1) := by decide +kernel
theorem dX1_place_6 : decode cX1_place 6 = .ok (.iload_n 2, 1) := by decide +kernel
theorem dX1_place_7 : decode cX1_place 7 = .ok (.isub, 1) := by decide +kernel
theorem dX1_place_8 : decode cX1_place 8 = .ok (.istore 5, 2) := by decide +kernel
theorem dX1_place_10 : decode cX1_place 10 = .ok (.iload 5, 2) := by decide +kernel
theorem dX1_place_12 : decode cX1_place 12 = .ok (.aload_n 0, 1) := by decide +kernel
theorem dX1_place_13 : decode cX1_place 13 = .ok (.getfield 31, 3) := by decide +kernel
theorem dX1_place_16 : decode cX1_place 16 = .ok (.if_icmp .lt 21, 3) := by decide +kernel
theorem dX1_place_19 : decode cX1_place 19 = .ok (.iload 5, 2) := by decide +kernel
theorem dX1_place_21 : decode cX1_place 21 = .ok (.aload_n 0, 1) := by decide +kernel
theorem dX1_place_22 : decode cX1_place 22 = .ok (.getfield 31, 3) := by decide +kernel
theorem dX1_place_25 : decode cX1_place 25 = .ok (.if_icmp .ne 13, 3) := by decide +kernel
theorem dX1_place_28 : decode cX1_place 28 = .ok (.iload 4, 2) := by decide +kernel
theorem dX1_place_30 : decode cX1_place 30 = .ok (.aload_n 0, 1) := by decide +kernel
theorem dX1_place_31 : decode cX1_place 31 = .ok (.getfield 34, 3) := by decide +kernel
theorem dX1_place_34 : decode cX1_place 34 = .ok (.if_icmp .lt 4, 3) := by decide +kernel
theorem dX1_place_37 : decode cX1_place 37 = .ok (.return_, 1) := by decide +kernel
theorem dX1_place_38 : decode cX1_place 38 = .ok (.aload_n 1, 1) := by decide +kernel
theorem dX1_place_39 : decode cX1_place 39 = .ok (.iload_n 2, 1) := by decide +kernel
theorem dX1_place_40 : decode cX1_place 40 = .ok (.invokevirtual 44, 3) := by decide +kernel
theorem dX1_place_43 : decode cX1_place 43 = .ok (.ifCond .ne 15, 3) := by decide +kernel
theorem dX1_place_46 : decode cX1_place 46 = .ok (.aload_n 0, 1) := by decide +kernel
theorem dX1_place_47 : decode cX1_place 47 = .ok (.aload_n 1, 1) := by decide +kernel
theorem dX1_place_48 : decode cX1_place 48 = .ok (.getfield 41, 3) := by decide +kernel
theorem dX1_place_51 : decode cX1_place 51 = .ok (.iload_n 3, 1) := by decide +kernel
theorem dX1_place_52 : decode cX1_place 52 = .ok (.iload 4, 2) := by decide +kernel
theorem dX1_place_54 : decode cX1_place 54 = .ok (.invokevirtual 48, 3) := by decide +kernel
theorem dX1_place_57 : decode cX1_place 57 = .ok (.return_, 1) := by decide +kernel
theorem dX1_place_58 : decode cX1_place 58 = .ok (.iconst 0, 1) := by decide +kernel
theorem dX1_place_59 : decode cX1_place 59 = .ok (.istore 6, 2) := by decide +kernel
theorem dX1_place_61 : decode cX1_place 61 = .ok (.iload 6, 2) := by decide +kernel
theorem dX1_place_63 : decode cX1_place 63 = .ok (.aload_n 1, 1) := by decide +kernel
theorem dX1_place_64 : decode cX1_place 64 = .ok (.getfield 21, 3) := by decide +kernel
theorem dX1_place_67 : decode cX1_place 67 = .ok (.if_icmp .ge 80, 3) := by decide +kernel
theorem dX1_place_70 : decode cX1_place 70 = .ok (.aload_n 0, 1) := by decide +kernel
theorem dX1_place_71 : decode cX1_place 71 = .ok (.getfield 18, 3) := by decide +kernel
theorem dX1_place_74 : decode cX1_place 74 = .ok (.iload 6, 2) := by decide +kernel
theorem dX1_place_76 : decode cX1_place 76 = .ok (.iaload, 1) := by decide +kernel
theorem dX1_place_77 : decode cX1_place 77 = .ok (.ifCond .le 64, 3) := by decide +kernel
theorem dX1_place_80 : decode cX1_place 80 = .ok (.aload_n 1, 1) := by decide +kernel
theorem dX1_place_81 : decode cX1_place 81 = .ok (.iload_n 2, 1) := by decide +kernel
theorem dX1_place_82 : decode cX1_place 82 = .ok (.iload 6, 2) := by decide +kernel
theorem dX1_place_84 : decode cX1_place 84 = .ok (.invokevirtual 52, 3) := by decide +kernel
theorem dX1_place_87 : decode cX1_place 87 = .ok (.ifCond .eq 54, 3) := by decide +kernel
theorem dX1_place_90 : decode cX1_place 90 = .ok (.aload_n 0, 1) := by decide +kernel
theorem dX1_place_91 : decode cX1_place 91 = .ok (.getfield 18, 3) := by decide +kernel
theorem dX1_place_94 : decode cX1_place 94 = .ok (.iload 6, 2) := by decide +kernel
theorem dX1_place_96 : decode cX1_place 96 = .ok (.dup2, 1) := by decide +kernel
theorem dX1_place_97 : decode cX1_place 97 = .ok (.iaload, 1) := by decide +kernel
theorem dX1_place_98 : decode cX1_place 98 = .ok (.iconst 1, 1) := by decide +kernel
theorem dX1_place_99 : decode cX1_place 99 = .ok (.isub, 1) := by decide +kernel
theorem dX1_place_100 : decode cX1_place 100 = .ok (.iastore, 1) := by decide +kernel
theorem dX1_place_101 : decode cX1_place 101 = .ok (.aload_n 0, 1) := by decide +kernel
theorem dX1_place_102 : decode cX1_place 102 = .ok (.getfield 9, 3) := by decide +kernel
theorem dX1_place_105 : decode cX1_place 105 = .ok (.iload_n 2, 1) := by decide +kernel
theorem dX1_place_106 : decode cX1_place 106 = .ok (.iload 6, 2) := by decide +kernel
theorem dX1_place_108 : decode cX1_place 108 = .ok (.iastore, 1) := by decide +kernel
theorem dX1_place_109 : decode cX1_place 109 = .ok (.aload_n 0, 1) := by decide +kernel
theorem dX1_place_110 : decode cX1_place 110 = .ok (.aload_n 1, 1) := by decide +kernel
theorem dX1_place_111 : decode cX1_place 111 = .ok (.iload_n 2, 1) := by decide +kernel
theorem dX1_place_112 : decode cX1_place 112 = .ok (.iconst 1, 1) := by decide +kernel
theorem dX1_place_113 : decode cX1_place 113 = .ok (.iadd, 1) := by decide +kernel
theorem dX1_place_114 : decode cX1_place 114 = .ok (.iload_n 3, 1) := by decide +kernel
theorem dX1_place_115 : decode cX1_place 115 = .ok (.iconst 1, 1) := by decide +kernel
theorem dX1_place_116 : decode cX1_place 116 = .ok (.iadd, 1) := by decide +kernel
theorem dX1_place_117 : decode cX1_place 117 = .ok (.iload 4, 2) := by decide +kernel
theorem dX1_place_119 : decode cX1_place 119 = .ok (.aload_n 1, 1) := by decide +kernel
theorem dX1_place_120 : decode cX1_place 120 = .ok (.getfield 56, 3) := by decide +kernel
theorem dX1_place_123 : decode cX1_place 123 = .ok (.iload 6, 2) := by decide +kernel
theorem dX1_place_125 : decode cX1_place 125 = .ok (.iaload, 1) := by decide +kernel
theorem dX1_place_126 : decode cX1_place 126 = .ok (.iadd, 1) := by decide +kernel
theorem dX1_place_127 : decode cX1_place 127 = .ok (.invokevirtual 37, 3) := by decide +kernel
theorem dX1_place_130 : decode cX1_place 130 = .ok (.aload_n 0, 1) := by decide +kernel
theorem dX1_place_131 : decode cX1_place 131 = .ok (.getfield 18, 3) := by decide +kernel
theorem dX1_place_134 : decode cX1_place 134 = .ok (.iload 6, 2) := by decide +kernel
theorem dX1_place_136 : decode cX1_place 136 = .ok (.dup2, 1) := by decide +kernel
theorem dX1_place_137 : decode cX1_place 137 = .ok (.iaload, 1) := by decide +kernel
theorem dX1_place_138 : decode cX1_place 138 = .ok (.iconst 1, 1) := by decide +kernel
theorem dX1_place_139 : decode cX1_place 139 = .ok (.iadd, 1) := by decide +kernel
theorem dX1_place_140 : decode cX1_place 140 = .ok (.iastore, 1) := by decide +kernel
theorem dX1_place_141 : decode cX1_place 141 = .ok (.iinc 6 1, 3) := by decide +kernel
theorem dX1_place_144 : decode cX1_place 144 = .ok (.goto (-83), 3) := by decide +kernel
theorem dX1_place_147 : decode cX1_place 147 = .ok (.aload_n 0, 1) := by decide +kernel
theorem dX1_place_148 : decode cX1_place 148 = .ok (.getfield 9, 3) := by decide +kernel
theorem dX1_place_151 : decode cX1_place 151 = .ok (.iload_n 2, 1) := by decide +kernel
theorem dX1_place_152 : decode cX1_place 152 = .ok (.aload_n 1, 1) := by decide +kernel
theorem dX1_place_153 : decode cX1_place 153 = .ok (.getfield 21, 3) := by decide +kernel
theorem dX1_place_156 : decode cX1_place 156 = .ok (.iastore, 1) := by decide +kernel
theorem dX1_place_157 : decode cX1_place 157 = .ok (.aload_n 0, 1) := by decide +kernel
theorem dX1_place_158 : decode cX1_place 158 = .ok (.aload_n 1, 1) := by decide +kernel
theorem dX1_place_159 : decode cX1_place 159 = .ok (.iload_n 2, 1) := by decide +kernel
theorem dX1_place_160 : decode cX1_place 160 = .ok (.iconst 1, 1) := by decide +kernel
theorem dX1_place_161 : decode cX1_place 161 = .ok (.iadd, 1) := by decide +kernel
theorem dX1_place_162 : decode cX1_place 162 = .ok (.iload_n 3, 1) := by decide +kernel
theorem dX1_place_163 : decode cX1_place 163 = .ok (.iload 4, 2) := by decide +kernel
theorem dX1_place_165 : decode cX1_place 165 = .ok (.invokevirtual 37, 3) := by decide +kernel
theorem dX1_place_168 : decode cX1_place 168 = .ok (.return_, 1) := by decide +kernel
theorem dX1_keep_0 : decode cX1_keep 0 = .ok (.aload_n 0, 1) := by decide +kernel
theorem dX1_keep_1 : decode cX1_keep 1 = .ok (.iload_n 2, 1) := by decide +kernel
theorem dX1_keep_2 : decode cX1_keep 2 = .ok (.putfield 31, 3) := by decide +kernel
theorem dX1_keep_5 : decode cX1_keep 5 = .ok (.aload_n 0, 1) := by decide +kernel
theorem dX1_keep_6 : decode cX1_keep 6 = .ok (.iload_n 3, 1) := by decide +kernel
theorem dX1_keep_7 : decode cX1_keep 7 = .ok (.putfield 34, 3) := by decide +kernel
theorem dX1_keep_10 : decode cX1_keep 10 = .ok (.iconst 0, 1) := by decide +kernel
theorem dX1_keep_11 : decode cX1_keep 11 = .ok (.istore 4, 2) := by decide +kernel
theorem dX1_keep_13 : decode cX1_keep 13 = .ok (.iload 4, 2) := by decide +kernel
theorem dX1_keep_15 : decode cX1_keep 15 = .ok (.iload_n 1, 1) := by decide +kernel
theorem dX1_keep_16 : decode cX1_keep 16 = .ok (.if_icmp .ge 23, 3) := by decide +kernel
theorem dX1_keep_19 : decode cX1_keep 19 = .ok (.aload_n 0, 1) := by decide +kernel
theorem dX1_keep_20 : decode cX1_keep 20 = .ok (.getfield 15, 3) := by decide +kernel
theorem dX1_keep_23 : decode cX1_keep 23 = .ok (.iload 4, 2) := by decide +kernel
theorem dX1_keep_25 : decode cX1_keep 25 = .ok (.aload_n 0, 1) := by decide +kernel
theorem dX1_keep_26 : decode cX1_keep 26 = .ok (.getfield 9, 3) := by decide +kernel
theorem dX1_keep_29 : decode cX1_keep 29 = .ok (.iload 4, 2) := by decide +kernel
theorem dX1_keep_31 : decode cX1_keep 31 = .ok (.iaload, 1) := by decide +kernel
theorem dX1_keep_32 : decode cX1_keep 32 = .ok (.iastore, 1) := by decide +kernel
theorem dX1_keep_33 : decode cX1_keep 33 = .ok (.iinc 4 1, 3) := by decide +kernel
theorem dX1_keep_36 : decode cX1_keep 36 = .ok (.goto (-23), 3) := by decide +kernel
theorem dX1_keep_39 : decode cX1_keep 39 = .ok (.return_, 1) := by decide +kernel
