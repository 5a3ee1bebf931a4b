theorem dX0_init_0 : decode cX0_init 0 = .ok (.aload_n 0, 1) := by decide +kernel
theorem dX0_init_1 : decode cX0_init 1 = .ok (.invokespecial 3, 3) := by decide +kernel
theorem dX0_init_4 : decode cX0_init 4 = .ok (.aload_n 0, 1) := by decide +kernel
theorem dX0_init_5 : decode cX0_init 5 = .ok (.iconst 5, 1) := by decide +kernel
theorem dX0_init_6 : decode cX0_init 6 = .ok (.newarray .int, 2) := by decide +kernel
theorem dX0_init_8 : decode cX0_init 8 = .ok (.putfield 9, 3) := by decide +kernel
theorem dX0_init_11 : decode cX0_init 11 = .ok (.aload_n 0, 1) := by decide +kernel
theorem dX0_init_12 : decode cX0_init 12 = .ok (.iconst 5, 1) := by decide +kernel
theorem dX0_init_13 : decode cX0_init 13 = .ok (.newarray .int, 2) := by decide +kernel
theorem dX0_init_15 : decode cX0_init 15 = .ok (.putfield 15, 3) := by decide +kernel
theorem dX0_init_18 : decode cX0_init 18 = .ok (.aload_n 0, 1) := by decide +kernel
theorem dX0_init_19 : decode cX0_init 19 = .ok (.iconst 5, 1) := by decide +kernel
theorem dX0_init_20 : decode cX0_init 20 = .ok (.newarray .int, 2) := by decide +kernel
theorem dX0_init_22 : decode cX0_init 22 = .ok (.putfield 18, 3) := by decide +kernel
theorem dX0_init_25 : decode cX0_init 25 = .ok (.aload_n 0, 1) := by decide +kernel
theorem dX0_init_26 : decode cX0_init 26 = .ok (.iconst 5, 1) := by decide +kernel
theorem dX0_init_27 : decode cX0_init 27 = .ok (.newarray .int, 2) := by decide +kernel
theorem dX0_init_29 : decode cX0_init 29 = .ok (.putfield 21, 3) := by decide +kernel
theorem dX0_init_32 : decode cX0_init 32 = .ok (.aload_n 0, 1) := by decide +kernel
theorem dX0_init_33 : decode cX0_init 33 = .ok (.iconst 5, 1) := by decide +kernel
theorem dX0_init_34 : decode cX0_init 34 = .ok (.newarray .int, 2) := by decide +kernel
theorem dX0_init_36 : decode cX0_init 36 = .ok (.putfield 24, 3) := by decide +kernel
theorem dX0_init_39 : decode cX0_init 39 = .ok (.aload_n 0, 1) := by decide +kernel
theorem dX0_init_40 : decode cX0_init 40 = .ok (.iconst 5, 1) := by decide +kernel
theorem dX0_init_41 : decode cX0_init 41 = .ok (.newarray .int, 2) := by decide +kernel
theorem dX0_init_43 : decode cX0_init 43 = .ok (.putfield 27, 3) := by decide +kernel
theorem dX0_init_46 : decode cX0_init 46 = .ok (.aload_n 0, 1) := by decide +kernel
theorem dX0_init_47 : decode cX0_init 47 = .ok (.iconst 5, 1) := by decide +kernel
theorem dX0_init_48 : decode cX0_init 48 = .ok (.newarray .int, 2) := by decide +kernel
theorem dX0_init_50 : decode cX0_init 50 = .ok (.putfield 30, 3) := by decide +kernel
theorem dX0_init_53 : decode cX0_init 53 = .ok (.aload_n 0, 1) := by decide +kernel
theorem dX0_init_54 : decode cX0_init 54 = .ok (.iconst 5, 1) := by decide +kernel
theorem dX0_init_55 : decode cX0_init 55 = .ok (.newarray .int, 2) := by decide +kernel
theorem dX0_init_57 : decode cX0_init 57 = .ok (.putfield 33, 3) := by decide +kernel
theorem dX0_init_60 : decode cX0_init 60 = .ok (.aload_n 0, 1) := by decide +kernel
theorem dX0_init_61 : decode cX0_init 61 = .ok (.iconst 5, 1) := by decide +kernel
theorem dX0_init_62 : decode cX0_init 62 = .ok (.newarray .int, 2) := by decide +kernel
theorem dX0_init_64 : decode cX0_init 64 = .ok (.putfield 36, 3) := by decide +kernel
theorem dX0_init_67 : decode cX0_init 67 = .ok (.return_, 1) := by decide +kernel
theorem dX0_isThere_0 : decode cX0_isThere 0 = .ok (.aload_n 0, 1) := by decide +kernel
theorem dX0_isThere_1 : decode cX0_isThere 1 = .ok (.getfield 39, 3) := by decide +kernel
theorem dX0_isThere_4 : decode cX0_isThere 4 = .ok (.ifCond .le 7, 3) := by decide +kernel
theorem dX0_isThere_7 : decode cX0_isThere 7 = .ok (.iconst 1, 1) := by decide +kernel
theorem dX0_isThere_8 : decode cX0_isThere 8 = .ok (.goto 4, 3) := by decide +kernel
theorem dX0_isThere_11 : decode cX0_isThere 11 = .ok (.iconst 0, 1) := by decide +kernel
theorem dX0_isThere_12 : decode cX0_isThere 12 = .ok (.ireturn, 1) := by decide +kernel
theorem dX0_hasBarrow_0 : decode cX0_hasBarrow 0 = .ok (.iload_n 1, 1) := by decide +kernel
theorem dX0_hasBarrow_1 : decode cX0_hasBarrow 1 = .ok (.ifCond .lt 15, 3) := by decide +kernel
theorem dX0_hasBarrow_4 : decode cX0_hasBarrow 4 = .ok (.iload_n 1, 1) := by decide +kernel
theorem dX0_hasBarrow_5 : decode cX0_hasBarrow 5 = .ok (.aload_n 0, 1) := by decide +kernel
theorem dX0_hasBarrow_6 : decode cX0_hasBarrow 6 = .ok (.getfield 39, 3) := by decide +kernel
theorem dX0_hasBarrow_9 : decode cX0_hasBarrow 9 = .ok (.if_icmp .ge 7, 3) := by decide +kernel
theorem dX0_hasBarrow_12 : decode cX0_hasBarrow 12 = .ok (.iconst 1, 1) := by decide +kernel
theorem dX0_hasBarrow_13 : decode cX0_hasBarrow 13 = .ok (.goto 4, 3) := by decide +kernel
theorem dX0_hasBarrow_16 : decode cX0_hasBarrow 16 = .ok (.iconst 0, 1) := by decide +kernel
theorem dX0_hasBarrow_17 : decode cX0_hasBarrow 17 = .ok (.ireturn, 1) := by decide +kernel
theorem dX0_hasWalker_0 : decode cX0_hasWalker 0 = .ok (.iload_n 1, 1) := by decide +kernel
theorem dX0_hasWalker_1 : decode cX0_hasWalker 1 = .ok (.ifCond .lt 15, 3) := by decide +kernel
theorem dX0_hasWalker_4 : decode cX0_hasWalker 4 = .ok (.iload_n 1, 1) := by decide +kernel
theorem dX0_hasWalker_5 : decode cX0_hasWalker 5 = .ok (.aload_n 0, 1) := by decide +kernel
theorem dX0_hasWalker_6 : decode cX0_hasWalker 6 = .ok (.getfield 43, 3) := by decide +kernel
theorem dX0_hasWalker_9 : decode cX0_hasWalker 9 = .ok (.if_icmp .ge 7, 3) := by decide +kernel
theorem dX0_hasWalker_12 : decode cX0_hasWalker 12 = .ok (.iconst 1, 1) := by decide +kernel
theorem dX0_hasWalker_13 : decode cX0_hasWalker 13 = .ok (.goto 4, 3) := by decide +kernel
theorem dX0_hasWalker_16 : decode cX0_hasWalker 16 = .ok (.iconst 0, 1) := by decide +kernel
theorem dX0_hasWalker_17 : decode cX0_hasWalker 17 = .ok (.ireturn, 1) := by decide +kernel
theorem dX0_become_0 : decode cX0_become 0 = .ok (.aload_n 0, 1) := by decide +kernel
theorem dX0_become_1 : decode cX0_become 1 = .ok (.aload_n 1, 1) := by decide +kernel
theorem dX0_become_2 : decode cX0_become 2 = .ok (.getfield 39, 3) := by decide +kernel
theorem dX0_become_5 : decode cX0_become 5 = .ok (.putfield 39, 3) := by decide +kernel
theorem dX0_become_8 : decode cX0_become 8 = .ok (.aload_n 0, 1) := by decide +kernel
theorem dX0_become_9 : decode cX0_become 9 = .ok (.aload_n 1, 1) := by decide +kernel
theorem dX0_become_10 : decode cX0_become 10 = .ok (.getfield 43, 3) := by decide +kernel
theorem dX0_become_13 : decode cX0_become 13 = .ok (.putfield 43, 3) := by decide +kernel
theorem dX0_become_16 : decode cX0_become 16 = .ok (.aload_n 0, 1) := by decide +kernel
theorem dX0_become_17 : decode cX0_become 17 = .ok (.aload_n 1, 1) := by decide +kernel
theorem dX0_become_18 : decode cX0_become 18 = .ok (.getfield 46, 3) := by decide +kernel
theorem dX0_become_21 : decode cX0_become 21 = .ok (.putfield 46, 3) := by decide +kernel
theorem dX0_become_24 : decode cX0_become 24 = .ok (.iconst 0, 1) := by decide +kernel
theorem dX0_become_25 : decode cX0_become 25 = .ok (.istore_n 2, 1) := by decide +kernel
theorem dX0_become_26 : decode cX0_become 26 = .ok (.iload_n 2, 1) := by decide +kernel
theorem dX0_become_27 : decode cX0_become 27 = .ok (.aload_n 0, 1) := by decide +kernel
theorem dX0_become_28 : decode cX0_become 28 = .ok (.getfield 39, 3) := by decide +kernel
theorem dX0_become_31 : decode cX0_become 31 = .ok (.if_icmp .ge 57, 3) := by decide +kernel
theorem dX0_become_34 : decode cX0_become 34 = .ok (.aload_n 0, 1) := by decide +kernel
theorem dX0_become_35 : decode cX0_become 35 = .ok (.getfield 9, 3) := by decide +kernel
theorem dX0_become_38 : decode cX0_become 38 = .ok (.iload_n 2, 1) := by decide +kernel
theorem dX0_become_39 : decode cX0_become 39 = .ok (.aload_n 1, 1) := by decide +kernel
theorem dX0_become_40 : decode cX0_become 40 = .ok (.getfield 9, 3) := by decide +kernel
theorem dX0_become_43 : decode cX0_become 43 = .ok (.iload_n 2, 1) := by decide +kernel
theorem dX0_become_44 : decode cX0_become 44 = .ok (.iaload, 1) := by decide +kernel
theorem dX0_become_45 : decode cX0_become 45 = .ok (.iastore, 1) := by decide +kernel
theorem dX0_become_46 : decode cX0_become 46 = .ok (.aload_n 0, 1) := by decide +kernel
theorem dX0_become_47 : decode cX0_become 47 = .ok (.getfield 15, 3) := by decide +kernel
theorem dX0_become_50 : decode cX0_become 50 = .ok (.iload_n 2, 1) := by decide +kernel
theorem dX0_become_51 : decode cX0_become 51 = .ok (.aload_n 1, 1) := by decide +kernel
theorem dX0_become_52 : decode cX0_become 52 = .ok (.getfield 15, 3) := by decide +kernel
theorem dX0_become_55 : decode cX0_become 55 = .ok (.iload_n 2, 1) := by decide +kernel
theorem dX0_become_56 : decode cX0_become 56 = .ok (.iaload, 1) := by decide +kernel
theorem dX0_become_57 : decode cX0_become 57 = .ok (.iastore, 1) := by decide +kernel
theorem dX0_become_58 : decode cX0_become 58 = .ok (.aload_n 0, 1) := by decide +kernel
theorem dX0_become_59 : decode cX0_become 59 = .ok (.getfield 18, 3) := by decide +kernel
theorem dX0_become_62 : decode cX0_become 62 = .ok (.iload_n 2, 1) := by decide +kernel
theorem dX0_become_63 : decode cX0_become 63 = .ok (.aload_n 1, 1) := by decide +kernel
theorem dX0_become_64 : decode cX0_become 64 = .ok (.getfield 18, 3) := by decide +kernel
theorem dX0_become_67 : decode cX0_become 67 = .ok (.iload_n 2, 1) := by decide +kernel
theorem dX0_become_68 : decode cX0_become 68 = .ok (.iaload, 1) := by decide +kernel
theorem dX0_become_69 : decode cX0_become 69 = .ok (.iastore, 1) := by decide +kernel
theorem dX0_become_70 : decode cX0_become 70 = .ok (.aload_n 0, 1) := by decide +kernel
theorem dX0_become_71 : decode cX0_become 71 = .ok (.getfield 21, 3) := by decide +kernel
theorem dX0_become_74 : decode cX0_become 74 = .ok (.iload_n 2, 1) := by decide +kernel
theorem dX0_become_75 : decode cX0_become 75 = .ok (.aload_n 1, 1) := by decide +kernel
theorem dX0_become_76 : decode cX0_become 76 = .ok (.getfield 21, 3) := by decide +kernel
theorem dX0_become_79 : decode cX0_become 79 = .ok (.iload_n 2, 1) := by decide +kernel
theorem dX0_become_80 : decode cX0_become 80 = .ok (.iaload, 1) := by decide +kernel
theorem dX0_become_81 : decode cX0_become 81 = .ok (.iastore, 1) := by decide +kernel
theorem dX0_become_82 : decode cX0_become 82 = .ok (.iinc 2 1, 3) := by decide +kernel
theorem dX0_become_85 : decode cX0_become 85 = .ok (.goto (-59), 3) := by decide +kernel
theorem dX0_become_88 : decode cX0_become 88 = .ok (.iconst 0, 1) := by decide +kernel
theorem dX0_become_89 : decode cX0_become 89 = .ok (.istore_n 2, 1) := by decide +kernel
theorem dX0_become_90 : decode cX0_become 90 = .ok (.iload_n 2, 1) := by decide +kernel
theorem dX0_become_91 : decode cX0_become 91 = .ok (.aload_n 0, 1) := by decide +kernel
theorem dX0_become_92 : decode cX0_become 92 = .ok (.getfield 43, 3) := by decide +kernel
theorem dX0_become_95 : decode cX0_become 95 = .ok (.if_icmp .ge 69, 3) := by decide +kernel
theorem dX0_become_98 : decode cX0_become 98 = .ok (.aload_n 0, 1) := by decide +kernel
theorem dX0_become_99 : decode cX0_become 99 = .ok (.getfield 24, 3) := by decide +kernel
theorem dX0_become_102 : decode cX0_become 102 = .ok (.iload_n 2, 1) := by decide +kernel
theorem dX0_become_103 : decode cX0_become 103 = .ok (.aload_n 1, 1) := by decide +kernel
theorem dX0_become_104 : decode cX0_become 104 = .ok (.getfield 24, 3) := by decide +kernel
theorem dX0_become_107 : decode cX0_become 107 = .ok (.iload_n 2, 1) := by decide +kernel
theorem dX0_become_108 : decode cX0_become 108 = .ok (.iaload, 1) := by decide +kernel
theorem dX0_become_109 : decode cX0_become 109 = .ok (.iastore, 1) := by decide +kernel
theorem dX0_become_110 : decode cX0_become 110 = .ok (.aload_n 0, 1) := by decide +kernel
theorem dX0_become_111 : decode cX0_become 111 = .ok (.getfield 27, 3) := by decide +kernel
theorem dX0_become_114 : decode cX0_become 114 = .ok (.iload_n 2, 1) := by decide +kernel
theorem dX0_become_115 : decode cX0_become 115 = .ok (.aload_n 1, 1) := by decide +kernel
theorem dX0_become_116 : decode cX0_become 116 = .ok (.getfield 27, 3) := by decide +kernel
theorem dX0_become_119 : decode cX0_become 119 = .ok (.iload_n 2, 1) := by decide +kernel
theorem dX0_become_120 : decode cX0_become 120 = .ok (.iaload, 1) := by decide +kernel
theorem dX0_become_121 : decode cX0_become 121 = .ok (.iastore, 1) := by decide +kernel
theorem dX0_become_122 : decode cX0_become 122 = .ok (.aload_n 0, 1) := by decide +kernel
theorem dX0_become_123 : decode cX0_become 123 = .ok (.getfield 30, 3) := by decide +kernel
theorem dX0_become_126 : decode cX0_become 126 = .ok (.iload_n 2, 1) := by decide +kernel
theorem dX0_become_127 : decode cX0_become 127 = .ok (.aload_n 1, 1) := by decide +kernel
theorem dX0_become_128 : decode cX0_become 128 = .ok (.getfield 30, 3) := by decide +kernel
theorem dX0_become_131 : decode cX0_become 131 = .ok (.iload_n 2, 1) := by decide +kernel
theorem dX0_become_132 : decode cX0_become 132 = .ok (.iaload, 1) := by decide +kernel
theorem dX0_become_133 : decode cX0_become 133 = .ok (.iastore, 1) := by decide +kernel
theorem dX0_become_134 : decode cX0_become 134 = .ok (.aload_n 0, 1) := by decide +kernel
theorem dX0_become_135 : decode cX0_become 135 = .ok (.getfield 33, 3) := by decide +kernel
theorem dX0_become_138 : decode cX0_become 138 = .ok (.iload_n 2, 1) := by decide +kernel
theorem dX0_become_139 : decode cX0_become 139 = .ok (.aload_n 1, 1) := by decide +kernel
theorem dX0_become_140 : decode cX0_become 140 = .ok (.getfield 33, 3) := by decide +kernel
theorem dX0_become_143 : decode cX0_become 143 = .ok (.iload_n 2, 1) := by decide +kernel
theorem dX0_become_144 : decode cX0_become 144 = .ok (.iaload, 1) := by decide +kernel
theorem dX0_become_145 : decode cX0_become 145 = .ok (.iastore, 1) := by decide +kernel
theorem dX0_become_146 : decode cX0_become 146 = .ok (.aload_n 0, 1) := by decide +kernel
theorem dX0_become_147 : decode cX0_become 147 = .ok (.getfield 36, 3) := by decide +kernel
theorem dX0_become_150 : decode cX0_become 150 = .ok (.iload_n 2, 1) := by decide +kernel
theorem dX0_become_151 : decode cX0_become 151 = .ok (.aload_n 1, 1) := by decide +kernel
theorem dX0_become_152 : decode cX0_become 152 = .ok (.getfield 36, 3) := by decide +kernel
theorem dX0_become_155 : decode cX0_become 155 = .ok (.iload_n 2, 1) := by decide +kernel
theorem dX0_become_156 : decode cX0_become 156 = .ok (.iaload, 1) := by decide +kernel
theorem dX0_become_157 : decode cX0_become 157 = .ok (.iastore, 1) := by decide +kernel
theorem dX0_become_158 : decode cX0_become 158 = .ok (.iinc 2 1, 3) := by decide +kernel
theorem dX0_become_161 : decode cX0_become 161 = .ok (.goto (-71), 3) := by decide +kernel
theorem dX0_become_164 : decode cX0_become 164 = .ok (.return_, 1) := by decide +kernel
theorem dX0_holdsOf_0 : decode cX0_holdsOf 0 = .ok (.aload_n 0, 1) := by decide +kernel
theorem dX0_holdsOf_1 : decode cX0_holdsOf 1 = .ok (.iload_n 1, 1) := by decide +kernel
theorem dX0_holdsOf_2 : decode cX0_holdsOf 2 = .ok (.invokevirtual 49, 3) := by decide +kernel
theorem dX0_holdsOf_5 : decode cX0_holdsOf 5 = .ok (.ifCond .eq 21, 3) := by decide +kernel
theorem dX0_holdsOf_8 : decode cX0_holdsOf 8 = .ok (.aload_n 0, 1) := by decide +kernel
theorem dX0_holdsOf_9 : decode cX0_holdsOf 9 = .ok (.getfield 9, 3) := by decide +kernel
theorem dX0_holdsOf_12 : decode cX0_holdsOf 12 = .ok (.iload_n 1, 1) := by decide +kernel
theorem dX0_holdsOf_13 : decode cX0_holdsOf 13 = .ok (.iaload, 1) := by decide +kernel
theorem dX0_holdsOf_14 : decode cX0_holdsOf 14 = .ok (.aload_n 0, 1) := by decide +kernel
theorem dX0_holdsOf_15 : decode cX0_holdsOf 15 = .ok (.getfield 15, 3) := by decide +kernel
theorem dX0_holdsOf_18 : decode cX0_holdsOf 18 = .ok (.iload_n 1, 1) := by decide +kernel
theorem dX0_holdsOf_19 : decode cX0_holdsOf 19 = .ok (.iaload, 1) := by decide +kernel
theorem dX0_holdsOf_20 : decode cX0_holdsOf 20 = .ok (.invokestatic 53, 3) := by decide +kernel
theorem dX0_holdsOf_23 : decode cX0_holdsOf 23 = .ok (.goto 4, 3) := by decide +kernel
theorem dX0_holdsOf_26 : decode cX0_holdsOf 26 = .ok (.iconst 0, 1) := by decide +kernel
theorem dX0_holdsOf_27 : decode cX0_holdsOf 27 = .ok (.ireturn, 1) := by decide +kernel
theorem dX0_lodgersOf_0 : decode cX0_lodgersOf 0 = .ok (.iconst 0, 1) := by decide +kernel
theorem dX0_lodgersOf_1 : decode cX0_lodgersOf 1 = .ok (.istore_n 2, 1) := by decide +kernel
theorem dX0_lodgersOf_2 : decode cX0_lodgersOf 2 = .ok (.iconst 0, 1) := by decide +kernel
theorem dX0_lodgersOf_3 : decode cX0_lodgersOf 3 = .ok (.istore_n 3, 1) := by decide +kernel
theorem dX0_lodgersOf_4 : decode cX0_lodgersOf 4 = .ok (.iload_n 3, 1) := by decide +kernel
theorem dX0_lodgersOf_5 : decode cX0_lodgersOf 5 = .ok (.aload_n 0, 1) := by decide +kernel
theorem dX0_lodgersOf_6 : decode cX0_lodgersOf 6 = .ok (.getfield 43, 3) := by decide +kernel
theorem dX0_lodgersOf_9 : decode cX0_lodgersOf 9 = .ok (.if_icmp .ge 25, 3) := by decide +kernel
theorem dX0_lodgersOf_12 : decode cX0_lodgersOf 12 = .ok (.aload_n 0, 1) := by decide +kernel
theorem dX0_lodgersOf_13 : decode cX0_lodgersOf 13 = .ok (.getfield 33, 3) := by decide +kernel
theorem dX0_lodgersOf_16 : decode cX0_lodgersOf 16 = .ok (.iload_n 3, 1) := by decide +kernel
theorem dX0_lodgersOf_17 : decode cX0_lodgersOf 17 = .ok (.iaload, 1) := by decide +kernel
theorem dX0_lodgersOf_18 : decode cX0_lodgersOf 18 = .ok (.iload_n 1, 1) := by decide +kernel
theorem dX0_lodgersOf_19 : decode cX0_lodgersOf 19 = .ok (.if_icmp .ne 9, 3) := by decide +kernel
theorem dX0_lodgersOf_22 : decode cX0_lodgersOf 22 = .ok (.iload_n 2, 1) := by decide +kernel
theorem dX0_lodgersOf_23 : decode cX0_lodgersOf 23 = .ok (.iconst 1, 1) := by decide +kernel
theorem dX0_lodgersOf_24 : decode cX0_lodgersOf 24 = .ok (.iload_n 3, 1) := by decide +kernel
theorem dX0_lodgersOf_25 : decode cX0_lodgersOf 25 = .ok (.ishl, 1) := by decide +kernel
theorem dX0_lodgersOf_26 : decode cX0_lodgersOf 26 = .ok (.ior, 1) := by decide +kernel
theorem dX0_lodgersOf_27 : decode cX0_lodgersOf 27 = .ok (.istore_n 2, 1) := by decide +kernel
theorem dX0_lodgersOf_28 : decode cX0_lodgersOf 28 = .ok (.iinc 3 1, 3) := by decide +kernel
theorem dX0_lodgersOf_31 : decode cX0_lodgersOf 31 = .ok (.goto (-27), 3) := by decide +kernel
theorem dX0_lodgersOf_34 : decode cX0_lodgersOf 34 = .ok (.iload_n 2, 1) := by decide +kernel
theorem dX0_lodgersOf_35 : decode cX0_lodgersOf 35 = .ok (.ireturn, 1) := by decide +kernel
theorem dX0_allLodgers_0 : decode cX0_allLodgers 0 = .ok (.iconst 0, 1) := by decide +kernel
theorem dX0_allLodgers_1 : decode cX0_allLodgers 1 = .ok (.istore_n 1, 1) := by decide +kernel
theorem dX0_allLodgers_2 : decode cX0_allLodgers 2 = .ok (.iconst 0, 1) := by decide +kernel
theorem dX0_allLodgers_3 : decode cX0_allLodgers 3 = .ok (.istore_n 2, 1) := by decide +kernel
theorem dX0_allLodgers_4 : decode cX0_allLodgers 4 = .ok (.iload_n 2, 1) := by decide +kernel
theorem dX0_allLodgers_5 : decode cX0_allLodgers 5 = .ok (.aload_n 0, 1) := by decide +kernel
theorem dX0_allLodgers_6 : decode cX0_allLodgers 6 = .ok (.getfield 43, 3) := by decide +kernel
theorem dX0_allLodgers_9 : decode cX0_allLodgers 9 = .ok (.if_icmp .ge 28, 3) := by decide +kernel
theorem dX0_allLodgers_12 : decode cX0_allLodgers 12 = .ok (.aload_n 0, 1) := by decide +kernel
theorem dX0_allLodgers_13 : decode cX0_allLodgers 13 = .ok (.aload_n 0, 1) := by decide +kernel
theorem dX0_allLodgers_14 : decode cX0_allLodgers 14 = .ok (.getfield 33, 3) := by decide +kernel
theorem dX0_allLodgers_17 : decode cX0_allLodgers 17 = .ok (.iload_n 2, 1) := by decide +kernel
theorem dX0_allLodgers_18 : decode cX0_allLodgers 18 = .ok (.iaload, 1) := by decide +kernel
theorem dX0_allLodgers_19 : decode cX0_allLodgers 19 = .ok (.invokevirtual 49, 3) := by decide +kernel
theorem dX0_allLodgers_22 : decode cX0_allLodgers 22 = .ok (.ifCond .eq 9, 3) := by decide +kernel
theorem dX0_allLodgers_25 : decode cX0_allLodgers 25 = .ok (.iload_n 1, 1) := by decide +kernel
theorem dX0_allLodgers_26 : decode cX0_allLodgers 26 = .ok (.iconst 1, 1) := by decide +kernel
theorem dX0_allLodgers_27 : decode cX0_allLodgers 27 = .ok (.iload_n 2, 1) := by decide +kernel
theorem dX0_allLodgers_28 : decode cX0_allLodgers 28 = .ok (.ishl, 1) := by decide +kernel
theorem dX0_allLodgers_29 : decode cX0_allLodgers 29 = .ok (.ior, 1) := by decide +kernel
theorem dX0_allLodgers_30 : decode cX0_allLodgers 30 = .ok (.istore_n 1, 1) := by decide +kernel
theorem dX0_allLodgers_31 : decode cX0_allLodgers 31 = .ok (.iinc 2 1, 3) := by decide +kernel
theorem dX0_allLodgers_34 : decode cX0_allLodgers 34 = .ok (.goto (-30), 3) := by decide +kernel
theorem dX0_allLodgers_37 : decode cX0_allLodgers 37 = .ok (.iload_n 1, 1) := by decide +kernel
theorem dX0_allLodgers_38 : decode cX0_allLodgers 38 = .ok (.ireturn, 1) := by decide +kernel
theorem dX0_dreamOf_0 : decode cX0_dreamOf 0 = .ok (.aload_n 0, 1) := by decide +kernel
theorem dX0_dreamOf_1 : decode cX0_dreamOf 1 = .ok (.iload_n 1, 1) := by decide +kernel
theorem dX0_dreamOf_2 : decode cX0_dreamOf 2 = .ok (.invokevirtual 57, 3) := by decide +kernel
theorem dX0_dreamOf_5 : decode cX0_dreamOf 5 = .ok (.ifCond .eq 16, 3) := by decide +kernel
theorem dX0_dreamOf_8 : decode cX0_dreamOf 8 = .ok (.aload_n 0, 1) := by decide +kernel
theorem dX0_dreamOf_9 : decode cX0_dreamOf 9 = .ok (.aload_n 0, 1) := by decide +kernel
theorem dX0_dreamOf_10 : decode cX0_dreamOf 10 = .ok (.getfield 33, 3) := by decide +kernel
theorem dX0_dreamOf_13 : decode cX0_dreamOf 13 = .ok (.iload_n 1, 1) := by decide +kernel
theorem dX0_dreamOf_14 : decode cX0_dreamOf 14 = .ok (.iaload, 1) := by decide +kernel
theorem dX0_dreamOf_15 : decode cX0_dreamOf 15 = .ok (.invokevirtual 49, 3) := by decide +kernel
theorem dX0_dreamOf_18 : decode cX0_dreamOf 18 = .ok (.ifCond .ne 6, 3) := by decide +kernel
theorem dX0_dreamOf_21 : decode cX0_dreamOf 21 = .ok (.bipush (-9), 2) := by decide +kernel
theorem dX0_dreamOf_23 : decode cX0_dreamOf 23 = .ok (.ireturn, 1) := by decide +kernel
theorem dX0_dreamOf_24 : decode cX0_dreamOf 24 = .ok (.iload_n 1, 1) := by decide +kernel
theorem dX0_dreamOf_25 : decode cX0_dreamOf 25 = .ok (.iconst 1, 1) := by decide +kernel
theorem dX0_dreamOf_26 : decode cX0_dreamOf 26 = .ok (.isub, 1) := by decide +kernel
theorem dX0_dreamOf_27 : decode cX0_dreamOf 27 = .ok (.istore_n 2, 1) := by decide +kernel
theorem dX0_dreamOf_28 : decode cX0_dreamOf 28 = .ok (.iload_n 2, 1) := by decide +kernel
theorem dX0_dreamOf_29 : decode cX0_dreamOf 29 = .ok (.ifCond .lt 26, 3) := by decide +kernel
theorem dX0_dreamOf_32 : decode cX0_dreamOf 32 = .ok (.aload_n 0, 1) := by decide +kernel
theorem dX0_dreamOf_33 : decode cX0_dreamOf 33 = .ok (.getfield 33, 3) := by decide +kernel
theorem dX0_dreamOf_36 : decode cX0_dreamOf 36 = .ok (.iload_n 2, 1) := by decide +kernel
theorem dX0_dreamOf_37 : decode cX0_dreamOf 37 = .ok (.iaload, 1) := by decide +kernel
theorem dX0_dreamOf_38 : decode cX0_dreamOf 38 = .ok (.aload_n 0, 1) := by decide +kernel
theorem dX0_dreamOf_39 : decode cX0_dreamOf 39 = .ok (.getfield 33, 3) := by decide +kernel
theorem dX0_dreamOf_42 : decode cX0_dreamOf 42 = .ok (.iload_n 1, 1) := by decide +kernel
theorem dX0_dreamOf_43 : decode cX0_dreamOf 43 = .ok (.iaload, 1) := by decide +kernel
theorem dX0_dreamOf_44 : decode cX0_dreamOf 44 = .ok (.if_icmp .ne 5, 3) := by decide +kernel
theorem dX0_dreamOf_47 : decode cX0_dreamOf 47 = .ok (.iload_n 2, 1) := by decide +kernel
theorem dX0_dreamOf_48 : decode cX0_dreamOf 48 = .ok (.ireturn, 1) := by decide +kernel
theorem dX0_dreamOf_49 : decode cX0_dreamOf 49 = .ok (.iinc 2 (-1), 3) := by decide +kernel
theorem dX0_dreamOf_52 : decode cX0_dreamOf 52 = .ok (.goto (-24), 3) := by decide +kernel
theorem dX0_dreamOf_55 : decode cX0_dreamOf 55 = .ok (.bipush 10, 2) := by decide +kernel
theorem dX0_dreamOf_57 : decode cX0_dreamOf 57 = .ok (.aload_n 0, 1) := by decide +kernel
theorem dX0_dreamOf_58 : decode cX0_dreamOf 58 = .ok (.getfield 33, 3) := by decide +kernel
theorem dX0_dreamOf_61 : decode cX0_dreamOf 61 = .ok (.iload_n 1, 1) := by decide +kernel
theorem dX0_dreamOf_62 : decode cX0_dreamOf 62 = .ok (.iaload, 1) := by decide +kernel
theorem dX0_dreamOf_63 : decode cX0_dreamOf 63 = .ok (.iadd, 1) := by decide +kernel
theorem dX0_dreamOf_64 : decode cX0_dreamOf 64 = .ok (.ireturn, 1) := by decide +kernel
theorem dX0_suits_0 : decode cX0_suits 0 = .ok (.aload_n 0, 1) := by decide +kernel
theorem dX0_suits_1 : decode cX0_suits 1 = .ok (.iload_n 1, 1) := by decide +kernel
theorem dX0_suits_2 : decode cX0_suits 2 = .ok (.invokevirtual 57, 3) := by decide +kernel
theorem dX0_suits_5 : decode cX0_suits 5 = .ok (.ifCond .eq 11, 3) := by decide +kernel
theorem dX0_suits_8 : decode cX0_suits 8 = .ok (.aload_n 0, 1) := by decide +kernel
theorem dX0_suits_9 : decode cX0_suits 9 = .ok (.iload_n 2, 1) := by decide +kernel
theorem dX0_suits_10 : decode cX0_suits 10 = .ok (.invokevirtual 49, 3) := by decide +kernel
theorem dX0_suits_13 : decode cX0_suits 13 = .ok (.ifCond .ne 5, 3) := by decide +kernel
theorem dX0_suits_16 : decode cX0_suits 16 = .ok (.iconst 0, 1) := by decide +kernel
theorem dX0_suits_17 : decode cX0_suits 17 = .ok (.ireturn, 1) := by decide +kernel
theorem dX0_suits_18 : decode cX0_suits 18 = .ok (.aload_n 0, 1) := by decide +kernel
theorem dX0_suits_19 : decode cX0_suits 19 = .ok (.getfield 27, 3) := by decide +kernel
theorem dX0_suits_22 : decode cX0_suits 22 = .ok (.iload_n 1, 1) := by decide +kernel
theorem dX0_suits_23 : decode cX0_suits 23 = .ok (.iaload, 1) := by decide +kernel
theorem dX0_suits_24 : decode cX0_suits 24 = .ok (.aload_n 0, 1) := by decide +kernel
theorem dX0_suits_25 : decode cX0_suits 25 = .ok (.getfield 21, 3) := by decide +kernel
theorem dX0_suits_28 : decode cX0_suits 28 = .ok (.iload_n 2, 1) := by decide +kernel
theorem dX0_suits_29 : decode cX0_suits 29 = .ok (.iaload, 1) := by decide +kernel
theorem dX0_suits_30 : decode cX0_suits 30 = .ok (.aload_n 0, 1) := by decide +kernel
theorem dX0_suits_31 : decode cX0_suits 31 = .ok (.getfield 30, 3) := by decide +kernel
theorem dX0_suits_34 : decode cX0_suits 34 = .ok (.iload_n 1, 1) := by decide +kernel
theorem dX0_suits_35 : decode cX0_suits 35 = .ok (.iaload, 1) := by decide +kernel
theorem dX0_suits_36 : decode cX0_suits 36 = .ok (.invokestatic 60, 3) := by decide +kernel
theorem dX0_suits_39 : decode cX0_suits 39 = .ok (.ifCond .eq 22, 3) := by decide +kernel
theorem dX0_suits_42 : decode cX0_suits 42 = .ok (.aload_n 0, 1) := by decide +kernel
theorem dX0_suits_43 : decode cX0_suits 43 = .ok (.getfield 18, 3) := by decide +kernel
theorem dX0_suits_46 : decode cX0_suits 46 = .ok (.iload_n 2, 1) := by decide +kernel
theorem dX0_suits_47 : decode cX0_suits 47 = .ok (.iaload, 1) := by decide +kernel
theorem dX0_suits_48 : decode cX0_suits 48 = .ok (.aload_n 0, 1) := by decide +kernel
theorem dX0_suits_49 : decode cX0_suits 49 = .ok (.getfield 24, 3) := by decide +kernel
theorem dX0_suits_52 : decode cX0_suits 52 = .ok (.iload_n 1, 1) := by decide +kernel
theorem dX0_suits_53 : decode cX0_suits 53 = .ok (.iaload, 1) := by decide +kernel
theorem dX0_suits_54 : decode cX0_suits 54 = .ok (.if_icmp .gt 7, 3) := by decide +kernel
theorem dX0_suits_57 : decode cX0_suits 57 = .ok (.iconst 1, 1) := by decide +kernel
theorem dX0_suits_58 : decode cX0_suits 58 = .ok (.goto 4, 3) := by decide +kernel
theorem dX0_suits_61 : decode cX0_suits 61 = .ok (.iconst 0, 1) := by decide +kernel
theorem dX0_suits_62 : decode cX0_suits 62 = .ok (.ireturn, 1) := by decide +kernel
theorem dX0_enter_0 : decode cX0_enter 0 = .ok (.aload_n 0, 1) := by decide +kernel
theorem dX0_enter_1 : decode cX0_enter 1 = .ok (.iload_n 1, 1) := by decide +kernel
theorem dX0_enter_2 : decode cX0_enter 2 = .ok (.iload_n 2, 1) := by decide +kernel
theorem dX0_enter_3 : decode cX0_enter 3 = .ok (.invokevirtual 64, 3) := by decide +kernel
theorem dX0_enter_6 : decode cX0_enter 6 = .ok (.ifCond .eq 16, 3) := by decide +kernel
theorem dX0_enter_9 : decode cX0_enter 9 = .ok (.aload_n 0, 1) := by decide +kernel
theorem dX0_enter_10 : decode cX0_enter 10 = .ok (.aload_n 0, 1) := by decide +kernel
theorem dX0_enter_11 : decode cX0_enter 11 = .ok (.getfield 33, 3) := by decide +kernel
theorem dX0_enter_14 : decode cX0_enter 14 = .ok (.iload_n 1, 1) := by decide +kernel
theorem dX0_enter_15 : decode cX0_enter 15 = .ok (.iaload, 1) := by decide +kernel
theorem dX0_enter_16 : decode cX0_enter 16 = .ok (.invokevirtual 49, 3) := by decide +kernel
theorem dX0_enter_19 : decode cX0_enter 19 = .ok (.ifCond .eq 5, 3) := by decide +kernel
theorem dX0_enter_22 : decode cX0_enter 22 = .ok (.iconst 0, 1) := by decide +kernel
theorem dX0_enter_23 : decode cX0_enter 23 = .ok (.ireturn, 1) := by decide +kernel
theorem dX0_enter_24 : decode cX0_enter 24 = .ok (.aload_n 0, 1) := by decide +kernel
theorem dX0_enter_25 : decode cX0_enter 25 = .ok (.iload_n 2, 1) := by decide +kernel
theorem dX0_enter_26 : decode cX0_enter 26 = .ok (.invokevirtual 68, 3) := by decide +kernel
theorem dX0_enter_29 : decode cX0_enter 29 = .ok (.invokestatic 72, 3) := by decide +kernel
theorem dX0_enter_32 : decode cX0_enter 32 = .ok (.aload_n 0, 1) := by decide +kernel
theorem dX0_enter_33 : decode cX0_enter 33 = .ok (.iload_n 2, 1) := by decide +kernel
theorem dX0_enter_34 : decode cX0_enter 34 = .ok (.invokevirtual 77, 3) := by decide +kernel
theorem dX0_enter_37 : decode cX0_enter 37 = .ok (.if_icmp .lt 5, 3) := by decide +kernel
theorem dX0_enter_40 : decode cX0_enter 40 = .ok (.iconst 0, 1) := by decide +kernel
theorem dX0_enter_41 : decode cX0_enter 41 = .ok (.ireturn, 1) := by decide +kernel
theorem dX0_enter_42 : decode cX0_enter 42 = .ok (.aload_n 0, 1) := by decide +kernel
theorem dX0_enter_43 : decode cX0_enter 43 = .ok (.getfield 33, 3) := by decide +kernel
theorem dX0_enter_46 : decode cX0_enter 46 = .ok (.iload_n 1, 1) := by decide +kernel
theorem dX0_enter_47 : decode cX0_enter 47 = .ok (.iload_n 2, 1) := by decide +kernel
theorem dX0_enter_48 : decode cX0_enter 48 = .ok (.iastore, 1) := by decide +kernel
theorem dX0_enter_49 : decode cX0_enter 49 = .ok (.aload_n 0, 1) := by decide +kernel
theorem dX0_enter_50 : decode cX0_enter 50 = .ok (.getfield 27, 3) := by decide +kernel
theorem dX0_enter_53 : decode cX0_enter 53 = .ok (.iload_n 1, 1) := by decide +kernel
theorem dX0_enter_54 : decode cX0_enter 54 = .ok (.aload_n 0, 1) := by decide +kernel
theorem dX0_enter_55 : decode cX0_enter 55 = .ok (.getfield 21, 3) := by decide +kernel
theorem dX0_enter_58 : decode cX0_enter 58 = .ok (.iload_n 2, 1) := by decide +kernel
theorem dX0_enter_59 : decode cX0_enter 59 = .ok (.iaload, 1) := by decide +kernel
theorem dX0_enter_60 : decode cX0_enter 60 = .ok (.iastore, 1) := by decide +kernel
theorem dX0_enter_61 : decode cX0_enter 61 = .ok (.iconst 1, 1) := by decide +kernel
theorem dX0_enter_62 : decode cX0_enter 62 = .ok (.ireturn, 1) := by decide +kernel
theorem dX0_goOut_0 : decode cX0_goOut 0 = .ok (.aload_n 0, 1) := by decide +kernel
theorem dX0_goOut_1 : decode cX0_goOut 1 = .ok (.iload_n 1, 1) := by decide +kernel
theorem dX0_goOut_2 : decode cX0_goOut 2 = .ok (.invokevirtual 57, 3) := by decide +kernel
theorem dX0_goOut_5 : decode cX0_goOut 5 = .ok (.ifCond .eq 16, 3) := by decide +kernel
theorem dX0_goOut_8 : decode cX0_goOut 8 = .ok (.aload_n 0, 1) := by decide +kernel
theorem dX0_goOut_9 : decode cX0_goOut 9 = .ok (.aload_n 0, 1) := by decide +kernel
theorem dX0_goOut_10 : decode cX0_goOut 10 = .ok (.getfield 33, 3) := by decide +kernel
theorem dX0_goOut_13 : decode cX0_goOut 13 = .ok (.iload_n 1, 1) := by decide +kernel
theorem dX0_goOut_14 : decode cX0_goOut 14 = .ok (.iaload, 1) := by decide +kernel
theorem dX0_goOut_15 : decode cX0_goOut 15 = .ok (.invokevirtual 49, 3) := by decide +kernel
theorem dX0_goOut_18 : decode cX0_goOut 18 = .ok (.ifCond .ne 5, 3) := by decide +kernel
theorem dX0_goOut_21 : decode cX0_goOut 21 = .ok (.iconst 0, 1) := by decide +kernel
theorem dX0_goOut_22 : decode cX0_goOut 22 = .ok (.ireturn, 1) := by decide +kernel
theorem dX0_goOut_23 : decode cX0_goOut 23 = .ok (.aload_n 0, 1) := by decide +kernel
theorem dX0_goOut_24 : decode cX0_goOut 24 = .ok (.getfield 33, 3) := by decide +kernel
theorem dX0_goOut_27 : decode cX0_goOut 27 = .ok (.iload_n 1, 1) := by decide +kernel
theorem dX0_goOut_28 : decode cX0_goOut 28 = .ok (.bipush (-9), 2) := by decide +kernel
theorem dX0_goOut_30 : decode cX0_goOut 30 = .ok (.iastore, 1) := by decide +kernel
theorem dX0_goOut_31 : decode cX0_goOut 31 = .ok (.iconst 1, 1) := by decide +kernel
theorem dX0_goOut_32 : decode cX0_goOut 32 = .ok (.ireturn, 1) := by decide +kernel
theorem dX0_passNights_0 : decode cX0_passNights 0 = .ok (.iconst 0, 1) := by decide +kernel
theorem dX0_passNights_1 : decode cX0_passNights 1 = .ok (.istore_n 2, 1) := by decide +kernel
theorem dX0_passNights_2 : decode cX0_passNights 2 = .ok (.iconst 0, 1) := by decide +kernel
theorem dX0_passNights_3 : decode cX0_passNights 3 = .ok (.istore_n 3, 1) := by decide +kernel
theorem dX0_passNights_4 : decode cX0_passNights 4 = .ok (.iload_n 3, 1) := by decide +kernel
theorem dX0_passNights_5 : decode cX0_passNights 5 = .ok (.iload_n 1, 1) := by decide +kernel
theorem dX0_passNights_6 : decode cX0_passNights 6 = .ok (.if_icmp .ge 49, 3) := by decide +kernel
theorem dX0_passNights_9 : decode cX0_passNights 9 = .ok (.iconst 0, 1) := by decide +kernel
theorem dX0_passNights_10 : decode cX0_passNights 10 = .ok (.istore 4, 2) := by decide +kernel
theorem dX0_passNights_12 : decode cX0_passNights 12 = .ok (.iload 4, 2) := by decide +kernel
theorem dX0_passNights_14 : decode cX0_passNights 14 = .ok (.aload_n 0, 1) := by decide +kernel
theorem dX0_passNights_15 : decode cX0_passNights 15 = .ok (.getfield 43, 3) := by decide +kernel
theorem dX0_passNights_18 : decode cX0_passNights 18 = .ok (.if_icmp .ge 21, 3) := by decide +kernel
theorem dX0_passNights_21 : decode cX0_passNights 21 = .ok (.aload_n 0, 1) := by decide +kernel
theorem dX0_passNights_22 : decode cX0_passNights 22 = .ok (.iload 4, 2) := by decide +kernel
theorem dX0_passNights_24 : decode cX0_passNights 24 = .ok (.invokevirtual 80, 3) := by decide +kernel
theorem dX0_passNights_27 : decode cX0_passNights 27 = .ok (.ifCond .ne 6, 3) := by decide +kernel
theorem dX0_passNights_30 : decode cX0_passNights 30 = .ok (.iinc 2 1, 3) := by decide +kernel
theorem dX0_passNights_33 : decode cX0_passNights 33 = .ok (.iinc 4 1, 3) := by decide +kernel
theorem dX0_passNights_36 : decode cX0_passNights 36 = .ok (.goto (-24), 3) := by decide +kernel
theorem dX0_passNights_39 : decode cX0_passNights 39 = .ok (.aload_n 0, 1) := by decide +kernel
theorem dX0_passNights_40 : decode cX0_passNights 40 = .ok (.dup, 1) := by decide +kernel
theorem dX0_passNights_41 : decode cX0_passNights 41 = .ok (.getfield 46, 3) := by decide +kernel
theorem dX0_passNights_44 : decode cX0_passNights 44 = .ok (.iconst 1, 1) := by decide +kernel
theorem dX0_passNights_45 : decode cX0_passNights 45 = .ok (.iadd, 1) := by decide +kernel
theorem dX0_passNights_46 : decode cX0_passNights 46 = .ok (.putfield 46, 3) := by decide +kernel
theorem dX0_passNights_49 : decode cX0_passNights 49 = .ok (.iinc 3 1, 3) := by decide +kernel
theorem dX0_passNights_52 : decode cX0_passNights 52 = .ok (.goto (-48), 3) := by decide +kernel
theorem dX0_passNights_55 : decode cX0_passNights 55 = .ok (.iload_n 2, 1) := by decide +kernel
theorem dX0_passNights_56 : decode cX0_passNights 56 = .ok (.ireturn, 1) := by decide +kernel
theorem dX0_paysOrGoes_0 : decode cX0_paysOrGoes 0 = .ok (.aload_n 0, 1) := by decide +kernel
theorem dX0_paysOrGoes_1 : decode cX0_paysOrGoes 1 = .ok (.iload_n 1, 1) := by decide +kernel
theorem dX0_paysOrGoes_2 : decode cX0_paysOrGoes 2 = .ok (.invokevirtual 57, 3) := by decide +kernel
theorem dX0_paysOrGoes_5 : decode cX0_paysOrGoes 5 = .ok (.ifCond .ne 5, 3) := by decide +kernel
theorem dX0_paysOrGoes_8 : decode cX0_paysOrGoes 8 = .ok (.iconst 1, 1) := by decide +kernel
theorem dX0_paysOrGoes_9 : decode cX0_paysOrGoes 9 = .ok (.ireturn, 1) := by decide +kernel
theorem dX0_paysOrGoes_10 : decode cX0_paysOrGoes 10 = .ok (.aload_n 0, 1) := by decide +kernel
theorem dX0_paysOrGoes_11 : decode cX0_paysOrGoes 11 = .ok (.getfield 33, 3) := by decide +kernel
theorem dX0_paysOrGoes_14 : decode cX0_paysOrGoes 14 = .ok (.iload_n 1, 1) := by decide +kernel
theorem dX0_paysOrGoes_15 : decode cX0_paysOrGoes 15 = .ok (.iaload, 1) := by decide +kernel
theorem dX0_paysOrGoes_16 : decode cX0_paysOrGoes 16 = .ok (.istore_n 2, 1) := by decide +kernel
theorem dX0_paysOrGoes_17 : decode cX0_paysOrGoes 17 = .ok (.aload_n 0, 1) := by decide +kernel
theorem dX0_paysOrGoes_18 : decode cX0_paysOrGoes 18 = .ok (.iload_n 2, 1) := by decide +kernel
theorem dX0_paysOrGoes_19 : decode cX0_paysOrGoes 19 = .ok (.invokevirtual 49, 3) := by decide +kernel
theorem dX0_paysOrGoes_22 : decode cX0_paysOrGoes 22 = .ok (.istore_n 3, 1) := by decide +kernel
theorem dX0_paysOrGoes_23 : decode cX0_paysOrGoes 23 = .ok (.iload_n 3, 1) := by decide +kernel
theorem dX0_paysOrGoes_24 : decode cX0_paysOrGoes 24 = .ok (.ifCond .eq 22, 3) := by decide +kernel
theorem dX0_paysOrGoes_27 : decode cX0_paysOrGoes 27 = .ok (.aload_n 0, 1) := by decide +kernel
theorem dX0_paysOrGoes_28 : decode cX0_paysOrGoes 28 = .ok (.getfield 24, 3) := by decide +kernel
theorem dX0_paysOrGoes_31 : decode cX0_paysOrGoes 31 = .ok (.iload_n 1, 1) := by decide +kernel
theorem dX0_paysOrGoes_32 : decode cX0_paysOrGoes 32 = .ok (.iaload, 1) := by decide +kernel
theorem dX0_paysOrGoes_33 : decode cX0_paysOrGoes 33 = .ok (.aload_n 0, 1) := by decide +kernel
theorem dX0_paysOrGoes_34 : decode cX0_paysOrGoes 34 = .ok (.getfield 18, 3) := by decide +kernel
theorem dX0_paysOrGoes_37 : decode cX0_paysOrGoes 37 = .ok (.iload_n 2, 1) := by decide +kernel
theorem dX0_paysOrGoes_38 : decode cX0_paysOrGoes 38 = .ok (.iaload, 1) := by decide +kernel
theorem dX0_paysOrGoes_39 : decode cX0_paysOrGoes 39 = .ok (.if_icmp .lt 7, 3) := by decide +kernel
theorem dX0_paysOrGoes_42 : decode cX0_paysOrGoes 42 = .ok (.iconst 1, 1) := by decide +kernel
theorem dX0_paysOrGoes_43 : decode cX0_paysOrGoes 43 = .ok (.goto 4, 3) := by decide +kernel
theorem dX0_paysOrGoes_46 : decode cX0_paysOrGoes 46 = .ok (.iconst 0, 1) := by decide +kernel
theorem dX0_paysOrGoes_47 : decode cX0_paysOrGoes 47 = .ok (.istore 4, 2) := by decide +kernel
theorem dX0_paysOrGoes_49 : decode cX0_paysOrGoes 49 = .ok (.iload 4, 2) := by decide +kernel
theorem dX0_paysOrGoes_51 : decode cX0_paysOrGoes 51 = .ok (.ifCond .eq 21, 3) := by decide +kernel
theorem dX0_paysOrGoes_54 : decode cX0_paysOrGoes 54 = .ok (.aload_n 0, 1) := by decide +kernel
theorem dX0_paysOrGoes_55 : decode cX0_paysOrGoes 55 = .ok (.getfield 24, 3) := by decide +kernel
theorem dX0_paysOrGoes_58 : decode cX0_paysOrGoes 58 = .ok (.iload_n 1, 1) := by decide +kernel
theorem dX0_paysOrGoes_59 : decode cX0_paysOrGoes 59 = .ok (.dup2, 1) := by decide +kernel
theorem dX0_paysOrGoes_60 : decode cX0_paysOrGoes 60 = .ok (.iaload, 1) := by decide +kernel
theorem dX0_paysOrGoes_61 : decode cX0_paysOrGoes 61 = .ok (.aload_n 0, 1) := by decide +kernel
theorem dX0_paysOrGoes_62 : decode cX0_paysOrGoes 62 = .ok (.getfield 18, 3) := by decide +kernel
theorem dX0_paysOrGoes_65 : decode cX0_paysOrGoes 65 = .ok (.iload_n 2, 1) := by decide +kernel
theorem dX0_paysOrGoes_66 : decode cX0_paysOrGoes 66 = .ok (.iaload, 1) := by decide +kernel
theorem dX0_paysOrGoes_67 : decode cX0_paysOrGoes 67 = .ok (.isub, 1) := by decide +kernel
theorem dX0_paysOrGoes_68 : decode cX0_paysOrGoes 68 = .ok (.iastore, 1) := by decide +kernel
theorem dX0_paysOrGoes_69 : decode cX0_paysOrGoes 69 = .ok (.goto 21, 3) := by decide +kernel
theorem dX0_paysOrGoes_72 : decode cX0_paysOrGoes 72 = .ok (.aload_n 0, 1) := by decide +kernel
theorem dX0_paysOrGoes_73 : decode cX0_paysOrGoes 73 = .ok (.getfield 33, 3) := by decide +kernel
theorem dX0_paysOrGoes_76 : decode cX0_paysOrGoes 76 = .ok (.iload_n 1, 1) := by decide +kernel
theorem dX0_paysOrGoes_77 : decode cX0_paysOrGoes 77 = .ok (.bipush (-9), 2) := by decide +kernel
theorem dX0_paysOrGoes_79 : decode cX0_paysOrGoes 79 = .ok (.iastore, 1) := by decide +kernel
theorem dX0_paysOrGoes_80 : decode cX0_paysOrGoes 80 = .ok (.aload_n 0, 1) := by decide +kernel
theorem dX0_paysOrGoes_81 : decode cX0_paysOrGoes 81 = .ok (.getfield 36, 3) := by decide +kernel
theorem dX0_paysOrGoes_84 : decode cX0_paysOrGoes 84 = .ok (.iload_n 1, 1) := by decide +kernel
theorem dX0_paysOrGoes_85 : decode cX0_paysOrGoes 85 = .ok (.dup2, 1) := by decide +kernel
theorem dX0_paysOrGoes_86 : decode cX0_paysOrGoes 86 = .ok (.iaload, 1) := by decide +kernel
theorem dX0_paysOrGoes_87 : decode cX0_paysOrGoes 87 = .ok (.iconst 1, 1) := by decide +kernel
theorem dX0_paysOrGoes_88 : decode cX0_paysOrGoes 88 = .ok (.iadd, 1) := by decide +kernel
theorem dX0_paysOrGoes_89 : decode cX0_paysOrGoes 89 = .ok (.iastore, 1) := by decide +kernel
theorem dX0_paysOrGoes_90 : decode cX0_paysOrGoes 90 = .ok (.iload 4, 2) := by decide +kernel
theorem dX0_paysOrGoes_92 : decode cX0_paysOrGoes 92 = .ok (.ifCond .ne 7, 3) := by decide +kernel
theorem dX0_paysOrGoes_95 : decode cX0_paysOrGoes 95 = .ok (.iload_n 3, 1) := by decide +kernel
theorem dX0_paysOrGoes_96 : decode cX0_paysOrGoes 96 = .ok (.ifCond .ne 7, 3) := by decide +kernel
theorem dX0_paysOrGoes_99 : decode cX0_paysOrGoes 99 = .ok (.iconst 1, 1) := by decide +kernel
theorem dX0_paysOrGoes_100 : decode cX0_paysOrGoes 100 = .ok (.goto 4, 3) := by decide +kernel
theorem dX0_paysOrGoes_103 : decode cX0_paysOrGoes 103 = .ok (.iconst 0, 1) := by decide +kernel
theorem dX0_paysOrGoes_104 : decode cX0_paysOrGoes 104 = .ok (.ireturn, 1) := by decide +kernel
theorem dX0_meansOfAll_0 : decode cX0_meansOfAll 0 = .ok (.iconst 0, 1) := by decide +kernel
theorem dX0_meansOfAll_1 : decode cX0_meansOfAll 1 = .ok (.istore_n 1, 1) := by decide +kernel
theorem dX0_meansOfAll_2 : decode cX0_meansOfAll 2 = .ok (.iconst 0, 1) := by decide +kernel
theorem dX0_meansOfAll_3 : decode cX0_meansOfAll 3 = .ok (.istore_n 2, 1) := by decide +kernel
theorem dX0_meansOfAll_4 : decode cX0_meansOfAll 4 = .ok (.iload_n 2, 1) := by decide +kernel
theorem dX0_meansOfAll_5 : decode cX0_meansOfAll 5 = .ok (.aload_n 0, 1) := by decide +kernel
theorem dX0_meansOfAll_6 : decode cX0_meansOfAll 6 = .ok (.getfield 43, 3) := by decide +kernel
theorem dX0_meansOfAll_9 : decode cX0_meansOfAll 9 = .ok (.if_icmp .ge 18, 3) := by decide +kernel
theorem dX0_meansOfAll_12 : decode cX0_meansOfAll 12 = .ok (.iload_n 1, 1) := by decide +kernel
theorem dX0_meansOfAll_13 : decode cX0_meansOfAll 13 = .ok (.aload_n 0, 1) := by decide +kernel
theorem dX0_meansOfAll_14 : decode cX0_meansOfAll 14 = .ok (.getfield 24, 3) := by decide +kernel
theorem dX0_meansOfAll_17 : decode cX0_meansOfAll 17 = .ok (.iload_n 2, 1) := by decide +kernel
theorem dX0_meansOfAll_18 : decode cX0_meansOfAll 18 = .ok (.iaload, 1) := by decide +kernel
theorem dX0_meansOfAll_19 : decode cX0_meansOfAll 19 = .ok (.iadd, 1) := by decide +kernel
theorem dX0_meansOfAll_20 : decode cX0_meansOfAll 20 = .ok (.istore_n 1, 1) := by decide +kernel
theorem dX0_meansOfAll_21 : decode cX0_meansOfAll 21 = .ok (.iinc 2 1, 3) := by decide +kernel
theorem dX0_meansOfAll_24 : decode cX0_meansOfAll 24 = .ok (.goto (-20), 3) := by decide +kernel
theorem dX0_meansOfAll_27 : decode cX0_meansOfAll 27 = .ok (.iload_n 1, 1) := by decide +kernel
theorem dX0_meansOfAll_28 : decode cX0_meansOfAll 28 = .ok (.ireturn, 1) := by decide +kernel
theorem dX0_fewestTo_0 : decode cX0_fewestTo 0 = .ok (.aload_n 0, 1) := by decide +kernel
theorem dX0_fewestTo_1 : decode cX0_fewestTo 1 = .ok (.iload_n 1, 1) := by decide +kernel
theorem dX0_fewestTo_2 : decode cX0_fewestTo 2 = .ok (.invokevirtual 57, 3) := by decide +kernel
theorem dX0_fewestTo_5 : decode cX0_fewestTo 5 = .ok (.ifCond .ne 6, 3) := by decide +kernel
theorem dX0_fewestTo_8 : decode cX0_fewestTo 8 = .ok (.bipush (-9), 2) := by decide +kernel
theorem dX0_fewestTo_10 : decode cX0_fewestTo 10 = .ok (.ireturn, 1) := by decide +kernel
theorem dX0_fewestTo_11 : decode cX0_fewestTo 11 = .ok (.iconst 1, 1) := by decide +kernel
theorem dX0_fewestTo_12 : decode cX0_fewestTo 12 = .ok (.aload_n 0, 1) := by decide +kernel
theorem dX0_fewestTo_13 : decode cX0_fewestTo 13 = .ok (.getfield 27, 3) := by decide +kernel
theorem dX0_fewestTo_16 : decode cX0_fewestTo 16 = .ok (.iload_n 1, 1) := by decide +kernel
theorem dX0_fewestTo_17 : decode cX0_fewestTo 17 = .ok (.iaload, 1) := by decide +kernel
theorem dX0_fewestTo_18 : decode cX0_fewestTo 18 = .ok (.ishl, 1) := by decide +kernel
theorem dX0_fewestTo_19 : decode cX0_fewestTo 19 = .ok (.istore_n 3, 1) := by decide +kernel
theorem dX0_fewestTo_20 : decode cX0_fewestTo 20 = .ok (.iconst 0, 1) := by decide +kernel
theorem dX0_fewestTo_21 : decode cX0_fewestTo 21 = .ok (.istore 4, 2) := by decide +kernel
theorem dX0_fewestTo_23 : decode cX0_fewestTo 23 = .ok (.iload 4, 2) := by decide +kernel
theorem dX0_fewestTo_25 : decode cX0_fewestTo 25 = .ok (.aload_n 0, 1) := by decide +kernel
theorem dX0_fewestTo_26 : decode cX0_fewestTo 26 = .ok (.getfield 39, 3) := by decide +kernel
theorem dX0_fewestTo_29 : decode cX0_fewestTo 29 = .ok (.if_icmp .gt 40, 3) := by decide +kernel
theorem dX0_fewestTo_32 : decode cX0_fewestTo 32 = .ok (.iload_n 3, 1) := by decide +kernel
theorem dX0_fewestTo_33 : decode cX0_fewestTo 33 = .ok (.iload_n 2, 1) := by decide +kernel
theorem dX0_fewestTo_34 : decode cX0_fewestTo 34 = .ok (.aload_n 0, 1) := by decide +kernel
theorem dX0_fewestTo_35 : decode cX0_fewestTo 35 = .ok (.getfield 30, 3) := by decide +kernel
theorem dX0_fewestTo_38 : decode cX0_fewestTo 38 = .ok (.iload_n 1, 1) := by decide +kernel
theorem dX0_fewestTo_39 : decode cX0_fewestTo 39 = .ok (.iaload, 1) := by decide +kernel
theorem dX0_fewestTo_40 : decode cX0_fewestTo 40 = .ok (.invokestatic 83, 3) := by decide +kernel
theorem dX0_fewestTo_43 : decode cX0_fewestTo 43 = .ok (.ifCond .eq 6, 3) := by decide +kernel
theorem dX0_fewestTo_46 : decode cX0_fewestTo 46 = .ok (.iload 4, 2) := by decide +kernel
theorem dX0_fewestTo_48 : decode cX0_fewestTo 48 = .ok (.ireturn, 1) := by decide +kernel
theorem dX0_fewestTo_49 : decode cX0_fewestTo 49 = .ok (.iload_n 3, 1) := by decide +kernel
theorem dX0_fewestTo_50 : decode cX0_fewestTo 50 = .ok (.aload_n 0, 1) := by decide +kernel
theorem dX0_fewestTo_51 : decode cX0_fewestTo 51 = .ok (.iload_n 3, 1) := by decide +kernel
theorem dX0_fewestTo_52 : decode cX0_fewestTo 52 = .ok (.aload_n 0, 1) := by decide +kernel
theorem dX0_fewestTo_53 : decode cX0_fewestTo 53 = .ok (.getfield 30, 3) := by decide +kernel
theorem dX0_fewestTo_56 : decode cX0_fewestTo 56 = .ok (.iload_n 1, 1) := by decide +kernel
theorem dX0_fewestTo_57 : decode cX0_fewestTo 57 = .ok (.iaload, 1) := by decide +kernel
theorem dX0_fewestTo_58 : decode cX0_fewestTo 58 = .ok (.invokevirtual 86, 3) := by decide +kernel
theorem dX0_fewestTo_61 : decode cX0_fewestTo 61 = .ok (.ior, 1) := by decide +kernel
theorem dX0_fewestTo_62 : decode cX0_fewestTo 62 = .ok (.istore_n 3, 1) := by decide +kernel
theorem dX0_fewestTo_63 : decode cX0_fewestTo 63 = .ok (.iinc 4 1, 3) := by decide +kernel
theorem dX0_fewestTo_66 : decode cX0_fewestTo 66 = .ok (.goto (-43), 3) := by decide +kernel
theorem dX0_fewestTo_69 : decode cX0_fewestTo 69 = .ok (.bipush (-9), 2) := by decide +kernel
theorem dX0_fewestTo_71 : decode cX0_fewestTo 71 = .ok (.ireturn, 1) := by decide +kernel
theorem dX0_sitesNear_0 : decode cX0_sitesNear 0 = .ok (.iconst 0, 1) := by decide +kernel
theorem dX0_sitesNear_1 : decode cX0_sitesNear 1 = .ok (.istore_n 3, 1) := by decide +kernel
theorem dX0_sitesNear_2 : decode cX0_sitesNear 2 = .ok (.iconst 0, 1) := by decide +kernel
theorem dX0_sitesNear_3 : decode cX0_sitesNear 3 = .ok (.istore 4, 2) := by decide +kernel
theorem dX0_sitesNear_5 : decode cX0_sitesNear 5 = .ok (.iload 4, 2) := by decide +kernel
theorem dX0_sitesNear_7 : decode cX0_sitesNear 7 = .ok (.aload_n 0, 1) := by decide +kernel
theorem dX0_sitesNear_8 : decode cX0_sitesNear 8 = .ok (.getfield 39, 3) := by decide +kernel
theorem dX0_sitesNear_11 : decode cX0_sitesNear 11 = .ok (.if_icmp .ge 36, 3) := by decide +kernel
theorem dX0_sitesNear_14 : decode cX0_sitesNear 14 = .ok (.iload_n 1, 1) := by decide +kernel
theorem dX0_sitesNear_15 : decode cX0_sitesNear 15 = .ok (.aload_n 0, 1) := by decide +kernel
theorem dX0_sitesNear_16 : decode cX0_sitesNear 16 = .ok (.getfield 21, 3) := by decide +kernel
theorem dX0_sitesNear_19 : decode cX0_sitesNear 19 = .ok (.iload 4, 2) := by decide +kernel
theorem dX0_sitesNear_21 : decode cX0_sitesNear 21 = .ok (.iaload, 1) := by decide +kernel
theorem dX0_sitesNear_22 : decode cX0_sitesNear 22 = .ok (.iload_n 2, 1) := by decide +kernel
theorem dX0_sitesNear_23 : decode cX0_sitesNear 23 = .ok (.invokestatic 83, 3) := by decide +kernel
theorem dX0_sitesNear_26 : decode cX0_sitesNear 26 = .ok (.ifCond .eq 15, 3) := by decide +kernel
theorem dX0_sitesNear_29 : decode cX0_sitesNear 29 = .ok (.iload_n 3, 1) := by decide +kernel
theorem dX0_sitesNear_30 : decode cX0_sitesNear 30 = .ok (.iconst 1, 1) := by decide +kernel
theorem dX0_sitesNear_31 : decode cX0_sitesNear 31 = .ok (.aload_n 0, 1) := by decide +kernel
theorem dX0_sitesNear_32 : decode cX0_sitesNear 32 = .ok (.getfield 21, 3) := by decide +kernel
theorem dX0_sitesNear_35 : decode cX0_sitesNear 35 = .ok (.iload 4, 2) := by decide +kernel
theorem dX0_sitesNear_37 : decode cX0_sitesNear 37 = .ok (.iaload, 1) := by decide +kernel
theorem dX0_sitesNear_38 : decode cX0_sitesNear 38 = .ok (.ishl, 1) := by decide +kernel
theorem dX0_sitesNear_39 : decode cX0_sitesNear 39 = .ok (.ior, 1) := by decide +kernel
theorem dX0_sitesNear_40 : decode cX0_sitesNear 40 = .ok (.istore_n 3, 1) := by decide +kernel
theorem dX0_sitesNear_41 : decode cX0_sitesNear 41 = .ok (.iinc 4 1, 3) := by decide +kernel
theorem dX0_sitesNear_44 : decode cX0_sitesNear 44 = .ok (.goto (-39), 3) := by decide +kernel
theorem dX0_sitesNear_47 : decode cX0_sitesNear 47 = .ok (.iload_n 3, 1) := by decide +kernel
theorem dX0_sitesNear_48 : decode cX0_sitesNear 48 = .ok (.ireturn, 1) := by decide +kernel
theorem dX0_isNearAny_0 : decode cX0_isNearAny 0 = .ok (.iconst 0, 1) := by decide +kernel
theorem dX0_isNearAny_1 : decode cX0_isNearAny 1 = .ok (.istore_n 3, 1) := by decide +kernel
theorem dX0_isNearAny_2 : decode cX0_isNearAny 2 = .ok (.iload_n 3, 1) := by decide +kernel
theorem dX0_isNearAny_3 : decode cX0_isNearAny 3 = .ok (.bipush 9, 2) := by decide +kernel
theorem dX0_isNearAny_5 : decode cX0_isNearAny 5 = .ok (.if_icmp .gt 29, 3) := by decide +kernel
theorem dX0_isNearAny_8 : decode cX0_isNearAny 8 = .ok (.iload_n 0, 1) := by decide +kernel
theorem dX0_isNearAny_9 : decode cX0_isNearAny 9 = .ok (.iload_n 3, 1) := by decide +kernel
theorem dX0_isNearAny_10 : decode cX0_isNearAny 10 = .ok (.ishr, 1) := by decide +kernel
theorem dX0_isNearAny_11 : decode cX0_isNearAny 11 = .ok (.iconst 1, 1) := by decide +kernel
theorem dX0_isNearAny_12 : decode cX0_isNearAny 12 = .ok (.iand, 1) := by decide +kernel
theorem dX0_isNearAny_13 : decode cX0_isNearAny 13 = .ok (.iconst 1, 1) := by decide +kernel
theorem dX0_isNearAny_14 : decode cX0_isNearAny 14 = .ok (.if_icmp .ne 14, 3) := by decide +kernel
theorem dX0_isNearAny_17 : decode cX0_isNearAny 17 = .ok (.iload_n 3, 1) := by decide +kernel
theorem dX0_isNearAny_18 : decode cX0_isNearAny 18 = .ok (.iload_n 1, 1) := by decide +kernel
theorem dX0_isNearAny_19 : decode cX0_isNearAny 19 = .ok (.iload_n 2, 1) := by decide +kernel
theorem dX0_isNearAny_20 : decode cX0_isNearAny 20 = .ok (.invokestatic 60, 3) := by decide +kernel
theorem dX0_isNearAny_23 : decode cX0_isNearAny 23 = .ok (.ifCond .eq 5, 3) := by decide +kernel
theorem dX0_isNearAny_26 : decode cX0_isNearAny 26 = .ok (.iconst 1, 1) := by decide +kernel
theorem dX0_isNearAny_27 : decode cX0_isNearAny 27 = .ok (.ireturn, 1) := by decide +kernel
theorem dX0_isNearAny_28 : decode cX0_isNearAny 28 = .ok (.iinc 3 1, 3) := by decide +kernel
theorem dX0_isNearAny_31 : decode cX0_isNearAny 31 = .ok (.goto (-29), 3) := by decide +kernel
theorem dX0_isNearAny_34 : decode cX0_isNearAny 34 = .ok (.iconst 0, 1) := by decide +kernel
theorem dX0_isNearAny_35 : decode cX0_isNearAny 35 = .ok (.ireturn, 1) := by decide +kernel
theorem dX0_waysToFill_0 : decode cX0_waysToFill 0 = .ok (.lconst 0, 1) := by decide +kernel
theorem dX0_waysToFill_1 : decode cX0_waysToFill 1 = .ok (.lstore_n 2, 1) := by decide +kernel
theorem dX0_waysToFill_2 : decode cX0_waysToFill 2 = .ok (.aload_n 0, 1) := by decide +kernel
theorem dX0_waysToFill_3 : decode cX0_waysToFill 3 = .ok (.iload_n 1, 1) := by decide +kernel
theorem dX0_waysToFill_4 : decode cX0_waysToFill 4 = .ok (.invokevirtual 77, 3) := by decide +kernel
theorem dX0_waysToFill_7 : decode cX0_waysToFill 7 = .ok (.istore 4, 2) := by decide +kernel
theorem dX0_waysToFill_9 : decode cX0_waysToFill 9 = .ok (.iload 4, 2) := by decide +kernel
theorem dX0_waysToFill_11 : decode cX0_waysToFill 11 = .ok (.aload_n 0, 1) := by decide +kernel
theorem dX0_waysToFill_12 : decode cX0_waysToFill 12 = .ok (.getfield 43, 3) := by decide +kernel
theorem dX0_waysToFill_15 : decode cX0_waysToFill 15 = .ok (.if_icmp .gt 37, 3) := by decide +kernel
theorem dX0_waysToFill_18 : decode cX0_waysToFill 18 = .ok (.lload_n 2, 1) := by decide +kernel
theorem dX0_waysToFill_19 : decode cX0_waysToFill 19 = .ok (.aload_n 0, 1) := by decide +kernel
theorem dX0_waysToFill_20 : decode cX0_waysToFill 20 = .ok (.getfield 43, 3) := by decide +kernel
theorem dX0_waysToFill_23 : decode cX0_waysToFill 23 = .ok (.iload 4, 2) := by decide +kernel
theorem dX0_waysToFill_25 : decode cX0_waysToFill 25 = .ok (.invokestatic 89, 3) := by decide +kernel
theorem dX0_waysToFill_28 : decode cX0_waysToFill 28 = .ok (.aload_n 0, 1) := by decide +kernel
theorem dX0_waysToFill_29 : decode cX0_waysToFill 29 = .ok (.getfield 39, 3) := by decide +kernel
theorem dX0_waysToFill_32 : decode cX0_waysToFill 32 = .ok (.i2l, 1) := by decide +kernel
theorem dX0_waysToFill_33 : decode cX0_waysToFill 33 = .ok (.aload_n 0, 1) := by decide +kernel
theorem dX0_waysToFill_34 : decode cX0_waysToFill 34 = .ok (.getfield 43, 3) := by decide +kernel
theorem dX0_waysToFill_37 : decode cX0_waysToFill 37 = .ok (.iload 4, 2) := by decide +kernel
theorem dX0_waysToFill_39 : decode cX0_waysToFill 39 = .ok (.isub, 1) := by decide +kernel
theorem dX0_waysToFill_40 : decode cX0_waysToFill 40 = .ok (.invokestatic 93, 3) := by decide +kernel
theorem dX0_waysToFill_43 : decode cX0_waysToFill 43 = .ok (.lmul, 1) := by decide +kernel
theorem dX0_waysToFill_44 : decode cX0_waysToFill 44 = .ok (.ladd, 1) := by decide +kernel
theorem dX0_waysToFill_45 : decode cX0_waysToFill 45 = .ok (.lstore_n 2, 1) := by decide +kernel
theorem dX0_waysToFill_46 : decode cX0_waysToFill 46 = .ok (.iinc 4 1, 3) := by decide +kernel
theorem dX0_waysToFill_49 : decode cX0_waysToFill 49 = .ok (.goto (-40), 3) := by decide +kernel
theorem dX0_waysToFill_52 : decode cX0_waysToFill 52 = .ok (.lload_n 2, 1) := by decide +kernel
theorem dX0_waysToFill_53 : decode cX0_waysToFill 53 = .ok (.lreturn, 1) := by decide +kernel
