theorem dX8_readWalker_104 : decode cX8_readWalker 104 = .ok (.iconst 1, 1) := by decide +kernel
theorem dX8_readWalker_105 : decode cX8_readWalker 105 = .ok (.goto 4, 3) := by decide +kernel
theorem dX8_readWalker_108 : decode cX8_readWalker 108 = .ok (.iconst 0, 1) := by decide +kernel
theorem dX8_readWalker_109 : decode cX8_readWalker 109 = .ok (.ireturn, 1) := by decide +kernel
theorem dX8_holdsBy_0 : decode cX8_holdsBy 0 = .ok (.iload_n 0, 1) := by decide +kernel
theorem dX8_holdsBy_1 : decode cX8_holdsBy 1 = .ok (.ifCond .ne 7, 3) := by decide +kernel
theorem dX8_holdsBy_4 : decode cX8_holdsBy 4 = .ok (.iload_n 1, 1) := by decide +kernel
theorem dX8_holdsBy_5 : decode cX8_holdsBy 5 = .ok (.goto 17, 3) := by decide +kernel
theorem dX8_holdsBy_8 : decode cX8_holdsBy 8 = .ok (.iload_n 0, 1) := by decide +kernel
theorem dX8_holdsBy_9 : decode cX8_holdsBy 9 = .ok (.iconst 1, 1) := by decide +kernel
theorem dX8_holdsBy_10 : decode cX8_holdsBy 10 = .ok (.if_icmp .ne 9, 3) := by decide +kernel
theorem dX8_holdsBy_13 : decode cX8_holdsBy 13 = .ok (.iconst 2, 1) := by decide +kernel
theorem dX8_holdsBy_14 : decode cX8_holdsBy 14 = .ok (.iload_n 1, 1) := by decide +kernel
theorem dX8_holdsBy_15 : decode cX8_holdsBy 15 = .ok (.imul, 1) := by decide +kernel
theorem dX8_holdsBy_16 : decode cX8_holdsBy 16 = .ok (.goto 6, 3) := by decide +kernel
theorem dX8_holdsBy_19 : decode cX8_holdsBy 19 = .ok (.iload_n 1, 1) := by decide +kernel
theorem dX8_holdsBy_20 : decode cX8_holdsBy 20 = .ok (.iconst 1, 1) := by decide +kernel
theorem dX8_holdsBy_21 : decode cX8_holdsBy 21 = .ok (.iadd, 1) := by decide +kernel
theorem dX8_holdsBy_22 : decode cX8_holdsBy 22 = .ok (.ireturn, 1) := by decide +kernel
theorem dX8_holdsOf_0 : decode cX8_holdsOf 0 = .ok (.aload_n 0, 1) := by decide +kernel
theorem dX8_holdsOf_1 : decode cX8_holdsOf 1 = .ok (.getfield 19, 3) := by decide +kernel
theorem dX8_holdsOf_4 : decode cX8_holdsOf 4 = .ok (.iload_n 1, 1) := by decide +kernel
theorem dX8_holdsOf_5 : decode cX8_holdsOf 5 = .ok (.iaload, 1) := by decide +kernel
theorem dX8_holdsOf_6 : decode cX8_holdsOf 6 = .ok (.aload_n 0, 1) := by decide +kernel
theorem dX8_holdsOf_7 : decode cX8_holdsOf 7 = .ok (.getfield 22, 3) := by decide +kernel
theorem dX8_holdsOf_10 : decode cX8_holdsOf 10 = .ok (.iload_n 1, 1) := by decide +kernel
theorem dX8_holdsOf_11 : decode cX8_holdsOf 11 = .ok (.iaload, 1) := by decide +kernel
theorem dX8_holdsOf_12 : decode cX8_holdsOf 12 = .ok (.invokestatic 148, 3) := by decide +kernel
theorem dX8_holdsOf_15 : decode cX8_holdsOf 15 = .ok (.ireturn, 1) := by decide +kernel
theorem dX8_lodgersOf_0 : decode cX8_lodgersOf 0 = .ok (.iconst 0, 1) := by decide +kernel
theorem dX8_lodgersOf_1 : decode cX8_lodgersOf 1 = .ok (.istore_n 2, 1) := by decide +kernel
theorem dX8_lodgersOf_2 : decode cX8_lodgersOf 2 = .ok (.iconst 0, 1) := by decide +kernel
theorem dX8_lodgersOf_3 : decode cX8_lodgersOf 3 = .ok (.istore_n 3, 1) := by decide +kernel
theorem dX8_lodgersOf_4 : decode cX8_lodgersOf 4 = .ok (.iload_n 3, 1) := by decide +kernel
theorem dX8_lodgersOf_5 : decode cX8_lodgersOf 5 = .ok (.aload_n 0, 1) := by decide +kernel
theorem dX8_lodgersOf_6 : decode cX8_lodgersOf 6 = .ok (.getfield 95, 3) := by decide +kernel
theorem dX8_lodgersOf_9 : decode cX8_lodgersOf 9 = .ok (.if_icmp .ge 29, 3) := by decide +kernel
theorem dX8_lodgersOf_12 : decode cX8_lodgersOf 12 = .ok (.iload_n 2, 1) := by decide +kernel
theorem dX8_lodgersOf_13 : decode cX8_lodgersOf 13 = .ok (.aload_n 0, 1) := by decide +kernel
theorem dX8_lodgersOf_14 : decode cX8_lodgersOf 14 = .ok (.getfield 40, 3) := by decide +kernel
theorem dX8_lodgersOf_17 : decode cX8_lodgersOf 17 = .ok (.iload_n 3, 1) := by decide +kernel
theorem dX8_lodgersOf_18 : decode cX8_lodgersOf 18 = .ok (.iaload, 1) := by decide +kernel
theorem dX8_lodgersOf_19 : decode cX8_lodgersOf 19 = .ok (.iload_n 1, 1) := by decide +kernel
theorem dX8_lodgersOf_20 : decode cX8_lodgersOf 20 = .ok (.if_icmp .ne 9, 3) := by decide +kernel
theorem dX8_lodgersOf_23 : decode cX8_lodgersOf 23 = .ok (.iconst 1, 1) := by decide +kernel
theorem dX8_lodgersOf_24 : decode cX8_lodgersOf 24 = .ok (.iload_n 3, 1) := by decide +kernel
theorem dX8_lodgersOf_25 : decode cX8_lodgersOf 25 = .ok (.ishl, 1) := by decide +kernel
theorem dX8_lodgersOf_26 : decode cX8_lodgersOf 26 = .ok (.goto 4, 3) := by decide +kernel
theorem dX8_lodgersOf_29 : decode cX8_lodgersOf 29 = .ok (.iconst 0, 1) := by decide +kernel
theorem dX8_lodgersOf_30 : decode cX8_lodgersOf 30 = .ok (.ior, 1) := by decide +kernel
theorem dX8_lodgersOf_31 : decode cX8_lodgersOf 31 = .ok (.istore_n 2, 1) := by decide +kernel
theorem dX8_lodgersOf_32 : decode cX8_lodgersOf 32 = .ok (.iinc 3 1, 3) := by decide +kernel
theorem dX8_lodgersOf_35 : decode cX8_lodgersOf 35 = .ok (.goto (-31), 3) := by decide +kernel
theorem dX8_lodgersOf_38 : decode cX8_lodgersOf 38 = .ok (.iload_n 2, 1) := by decide +kernel
theorem dX8_lodgersOf_39 : decode cX8_lodgersOf 39 = .ok (.ireturn, 1) := by decide +kernel
theorem dX8_size_0 : decode cX8_size 0 = .ok (.iconst 0, 1) := by decide +kernel
theorem dX8_size_1 : decode cX8_size 1 = .ok (.istore_n 1, 1) := by decide +kernel
theorem dX8_size_2 : decode cX8_size 2 = .ok (.iload_n 0, 1) := by decide +kernel
theorem dX8_size_3 : decode cX8_size 3 = .ok (.istore_n 2, 1) := by decide +kernel
theorem dX8_size_4 : decode cX8_size 4 = .ok (.iload_n 2, 1) := by decide +kernel
theorem dX8_size_5 : decode cX8_size 5 = .ok (.ifCond .le 16, 3) := by decide +kernel
theorem dX8_size_8 : decode cX8_size 8 = .ok (.iload_n 1, 1) := by decide +kernel
theorem dX8_size_9 : decode cX8_size 9 = .ok (.iload_n 2, 1) := by decide +kernel
theorem dX8_size_10 : decode cX8_size 10 = .ok (.iconst 1, 1) := by decide +kernel
theorem dX8_size_11 : decode cX8_size 11 = .ok (.iand, 1) := by decide +kernel
theorem dX8_size_12 : decode cX8_size 12 = .ok (.iadd, 1) := by decide +kernel
theorem dX8_size_13 : decode cX8_size 13 = .ok (.istore_n 1, 1) := by decide +kernel
theorem dX8_size_14 : decode cX8_size 14 = .ok (.iload_n 2, 1) := by decide +kernel
theorem dX8_size_15 : decode cX8_size 15 = .ok (.iconst 1, 1) := by decide +kernel
theorem dX8_size_16 : decode cX8_size 16 = .ok (.ishr, 1) := by decide +kernel
theorem dX8_size_17 : decode cX8_size 17 = .ok (.istore_n 2, 1) := by decide +kernel
theorem dX8_size_18 : decode cX8_size 18 = .ok (.goto (-14), 3) := by decide +kernel
theorem dX8_size_21 : decode cX8_size 21 = .ok (.iload_n 1, 1) := by decide +kernel
theorem dX8_size_22 : decode cX8_size 22 = .ok (.ireturn, 1) := by decide +kernel
theorem dX8_ofBarrow_0 : decode cX8_ofBarrow 0 = .ok (.aload_n 0, 1) := by decide +kernel
theorem dX8_ofBarrow_1 : decode cX8_ofBarrow 1 = .ok (.iload_n 1, 1) := by decide +kernel
theorem dX8_ofBarrow_2 : decode cX8_ofBarrow 2 = .ok (.invokevirtual 152, 3) := by decide +kernel
theorem dX8_ofBarrow_5 : decode cX8_ofBarrow 5 = .ok (.ifCond .ne 5, 3) := by decide +kernel
theorem dX8_ofBarrow_8 : decode cX8_ofBarrow 8 = .ok (.iconst (-1), 1) := by decide +kernel
theorem dX8_ofBarrow_9 : decode cX8_ofBarrow 9 = .ok (.ireturn, 1) := by decide +kernel
theorem dX8_ofBarrow_10 : decode cX8_ofBarrow 10 = .ok (.iload_n 2, 1) := by decide +kernel
theorem dX8_ofBarrow_11 : decode cX8_ofBarrow 11 = .ok (.tableswitch 77 0 5 #[37, 44, 51, 58, 65, 71], 37) := by decide +kernel
theorem dX8_ofBarrow_48 : decode cX8_ofBarrow 48 = .ok (.aload_n 0, 1) := by decide +kernel
theorem dX8_ofBarrow_49 : decode cX8_ofBarrow 49 = .ok (.getfield 19, 3) := by decide +kernel
theorem dX8_ofBarrow_52 : decode cX8_ofBarrow 52 = .ok (.iload_n 1, 1) := by decide +kernel
theorem dX8_ofBarrow_53 : decode cX8_ofBarrow 53 = .ok (.iaload, 1) := by decide +kernel
theorem dX8_ofBarrow_54 : decode cX8_ofBarrow 54 = .ok (.ireturn, 1) := by decide +kernel
theorem dX8_ofBarrow_55 : decode cX8_ofBarrow 55 = .ok (.aload_n 0, 1) := by decide +kernel
theorem dX8_ofBarrow_56 : decode cX8_ofBarrow 56 = .ok (.getfield 22, 3) := by decide +kernel
theorem dX8_ofBarrow_59 : decode cX8_ofBarrow 59 = .ok (.iload_n 1, 1) := by decide +kernel
theorem dX8_ofBarrow_60 : decode cX8_ofBarrow 60 = .ok (.iaload, 1) := by decide +kernel
theorem dX8_ofBarrow_61 : decode cX8_ofBarrow 61 = .ok (.ireturn, 1) := by decide +kernel
theorem dX8_ofBarrow_62 : decode cX8_ofBarrow 62 = .ok (.aload_n 0, 1) := by decide +kernel
theorem dX8_ofBarrow_63 : decode cX8_ofBarrow 63 = .ok (.getfield 25, 3) := by decide +kernel
theorem dX8_ofBarrow_66 : decode cX8_ofBarrow 66 = .ok (.iload_n 1, 1) := by decide +kernel
theorem dX8_ofBarrow_67 : decode cX8_ofBarrow 67 = .ok (.iaload, 1) := by decide +kernel
theorem dX8_ofBarrow_68 : decode cX8_ofBarrow 68 = .ok (.ireturn, 1) := by decide +kernel
theorem dX8_ofBarrow_69 : decode cX8_ofBarrow 69 = .ok (.aload_n 0, 1) := by decide +kernel
theorem dX8_ofBarrow_70 : decode cX8_ofBarrow 70 = .ok (.getfield 28, 3) := by decide +kernel
theorem dX8_ofBarrow_73 : decode cX8_ofBarrow 73 = .ok (.iload_n 1, 1) := by decide +kernel
theorem dX8_ofBarrow_74 : decode cX8_ofBarrow 74 = .ok (.iaload, 1) := by decide +kernel
theorem dX8_ofBarrow_75 : decode cX8_ofBarrow 75 = .ok (.ireturn, 1) := by decide +kernel
theorem dX8_ofBarrow_76 : decode cX8_ofBarrow 76 = .ok (.aload_n 0, 1) := by decide +kernel
theorem dX8_ofBarrow_77 : decode cX8_ofBarrow 77 = .ok (.iload_n 1, 1) := by decide +kernel
theorem dX8_ofBarrow_78 : decode cX8_ofBarrow 78 = .ok (.invokevirtual 155, 3) := by decide +kernel
theorem dX8_ofBarrow_81 : decode cX8_ofBarrow 81 = .ok (.ireturn, 1) := by decide +kernel
theorem dX8_ofBarrow_82 : decode cX8_ofBarrow 82 = .ok (.aload_n 0, 1) := by decide +kernel
theorem dX8_ofBarrow_83 : decode cX8_ofBarrow 83 = .ok (.iload_n 1, 1) := by decide +kernel
theorem dX8_ofBarrow_84 : decode cX8_ofBarrow 84 = .ok (.invokevirtual 158, 3) := by decide +kernel
theorem dX8_ofBarrow_87 : decode cX8_ofBarrow 87 = .ok (.ireturn, 1) := by decide +kernel
theorem dX8_ofBarrow_88 : decode cX8_ofBarrow 88 = .ok (.bipush (-2), 2) := by decide +kernel
theorem dX8_ofBarrow_90 : decode cX8_ofBarrow 90 = .ok (.ireturn, 1) := by decide +kernel
theorem dX8_dreamOf_0 : decode cX8_dreamOf 0 = .ok (.iload_n 1, 1) := by decide +kernel
theorem dX8_dreamOf_1 : decode cX8_dreamOf 1 = .ok (.iconst 1, 1) := by decide +kernel
theorem dX8_dreamOf_2 : decode cX8_dreamOf 2 = .ok (.isub, 1) := by decide +kernel
theorem dX8_dreamOf_3 : decode cX8_dreamOf 3 = .ok (.istore_n 2, 1) := by decide +kernel
theorem dX8_dreamOf_4 : decode cX8_dreamOf 4 = .ok (.iload_n 2, 1) := by decide +kernel
theorem dX8_dreamOf_5 : decode cX8_dreamOf 5 = .ok (.ifCond .lt 20, 3) := by decide +kernel
theorem dX8_dreamOf_8 : decode cX8_dreamOf 8 = .ok (.aload_n 0, 1) := by decide +kernel
theorem dX8_dreamOf_9 : decode cX8_dreamOf 9 = .ok (.iload_n 2, 1) := by decide +kernel
theorem dX8_dreamOf_10 : decode cX8_dreamOf 10 = .ok (.iaload, 1) := by decide +kernel
theorem dX8_dreamOf_11 : decode cX8_dreamOf 11 = .ok (.aload_n 0, 1) := by decide +kernel
theorem dX8_dreamOf_12 : decode cX8_dreamOf 12 = .ok (.iload_n 1, 1) := by decide +kernel
theorem dX8_dreamOf_13 : decode cX8_dreamOf 13 = .ok (.iaload, 1) := by decide +kernel
theorem dX8_dreamOf_14 : decode cX8_dreamOf 14 = .ok (.if_icmp .ne 5, 3) := by decide +kernel
theorem dX8_dreamOf_17 : decode cX8_dreamOf 17 = .ok (.iload_n 2, 1) := by decide +kernel
theorem dX8_dreamOf_18 : decode cX8_dreamOf 18 = .ok (.ireturn, 1) := by decide +kernel
theorem dX8_dreamOf_19 : decode cX8_dreamOf 19 = .ok (.iinc 2 (-1), 3) := by decide +kernel
theorem dX8_dreamOf_22 : decode cX8_dreamOf 22 = .ok (.goto (-18), 3) := by decide +kernel
theorem dX8_dreamOf_25 : decode cX8_dreamOf 25 = .ok (.bipush 10, 2) := by decide +kernel
theorem dX8_dreamOf_27 : decode cX8_dreamOf 27 = .ok (.aload_n 0, 1) := by decide +kernel
theorem dX8_dreamOf_28 : decode cX8_dreamOf 28 = .ok (.iload_n 1, 1) := by decide +kernel
theorem dX8_dreamOf_29 : decode cX8_dreamOf 29 = .ok (.iaload, 1) := by decide +kernel
theorem dX8_dreamOf_30 : decode cX8_dreamOf 30 = .ok (.iadd, 1) := by decide +kernel
theorem dX8_dreamOf_31 : decode cX8_dreamOf 31 = .ok (.ireturn, 1) := by decide +kernel
theorem dX8_ofWalker_0 : decode cX8_ofWalker 0 = .ok (.aload_n 0, 1) := by decide +kernel
theorem dX8_ofWalker_1 : decode cX8_ofWalker 1 = .ok (.iload_n 1, 1) := by decide +kernel
theorem dX8_ofWalker_2 : decode cX8_ofWalker 2 = .ok (.invokevirtual 161, 3) := by decide +kernel
theorem dX8_ofWalker_5 : decode cX8_ofWalker 5 = .ok (.ifCond .ne 5, 3) := by decide +kernel
theorem dX8_ofWalker_8 : decode cX8_ofWalker 8 = .ok (.iconst (-1), 1) := by decide +kernel
theorem dX8_ofWalker_9 : decode cX8_ofWalker 9 = .ok (.ireturn, 1) := by decide +kernel
theorem dX8_ofWalker_10 : decode cX8_ofWalker 10 = .ok (.iload_n 2, 1) := by decide +kernel
theorem dX8_ofWalker_11 : decode cX8_ofWalker 11 = .ok (.tableswitch 97 0 5 #[37, 44, 51, 58, 65, 72], 37) := by decide +kernel
theorem dX8_ofWalker_48 : decode cX8_ofWalker 48 = .ok (.aload_n 0, 1) := by decide +kernel
theorem dX8_ofWalker_49 : decode cX8_ofWalker 49 = .ok (.getfield 31, 3) := by decide +kernel
theorem dX8_ofWalker_52 : decode cX8_ofWalker 52 = .ok (.iload_n 1, 1) := by decide +kernel
theorem dX8_ofWalker_53 : decode cX8_ofWalker 53 = .ok (.iaload, 1) := by decide +kernel
theorem dX8_ofWalker_54 : decode cX8_ofWalker 54 = .ok (.ireturn, 1) := by decide +kernel
theorem dX8_ofWalker_55 : decode cX8_ofWalker 55 = .ok (.aload_n 0, 1) := by decide +kernel
theorem dX8_ofWalker_56 : decode cX8_ofWalker 56 = .ok (.getfield 34, 3) := by decide +kernel
theorem dX8_ofWalker_59 : decode cX8_ofWalker 59 = .ok (.iload_n 1, 1) := by decide +kernel
theorem dX8_ofWalker_60 : decode cX8_ofWalker 60 = .ok (.iaload, 1) := by decide +kernel
theorem dX8_ofWalker_61 : decode cX8_ofWalker 61 = .ok (.ireturn, 1) := by decide +kernel
theorem dX8_ofWalker_62 : decode cX8_ofWalker 62 = .ok (.aload_n 0, 1) := by decide +kernel
theorem dX8_ofWalker_63 : decode cX8_ofWalker 63 = .ok (.getfield 37, 3) := by decide +kernel
theorem dX8_ofWalker_66 : decode cX8_ofWalker 66 = .ok (.iload_n 1, 1) := by decide +kernel
theorem dX8_ofWalker_67 : decode cX8_ofWalker 67 = .ok (.iaload, 1) := by decide +kernel
theorem dX8_ofWalker_68 : decode cX8_ofWalker 68 = .ok (.ireturn, 1) := by decide +kernel
theorem dX8_ofWalker_69 : decode cX8_ofWalker 69 = .ok (.aload_n 0, 1) := by decide +kernel
theorem dX8_ofWalker_70 : decode cX8_ofWalker 70 = .ok (.getfield 40, 3) := by decide +kernel
theorem dX8_ofWalker_73 : decode cX8_ofWalker 73 = .ok (.iload_n 1, 1) := by decide +kernel
theorem dX8_ofWalker_74 : decode cX8_ofWalker 74 = .ok (.iaload, 1) := by decide +kernel
theorem dX8_ofWalker_75 : decode cX8_ofWalker 75 = .ok (.ireturn, 1) := by decide +kernel
theorem dX8_ofWalker_76 : decode cX8_ofWalker 76 = .ok (.aload_n 0, 1) := by decide +kernel
theorem dX8_ofWalker_77 : decode cX8_ofWalker 77 = .ok (.getfield 43, 3) := by decide +kernel
theorem dX8_ofWalker_80 : decode cX8_ofWalker 80 = .ok (.iload_n 1, 1) := by decide +kernel
theorem dX8_ofWalker_81 : decode cX8_ofWalker 81 = .ok (.iaload, 1) := by decide +kernel
theorem dX8_ofWalker_82 : decode cX8_ofWalker 82 = .ok (.ireturn, 1) := by decide +kernel
theorem dX8_ofWalker_83 : decode cX8_ofWalker 83 = .ok (.aload_n 0, 1) := by decide +kernel
theorem dX8_ofWalker_84 : decode cX8_ofWalker 84 = .ok (.getfield 40, 3) := by decide +kernel
theorem dX8_ofWalker_87 : decode cX8_ofWalker 87 = .ok (.iload_n 1, 1) := by decide +kernel
theorem dX8_ofWalker_88 : decode cX8_ofWalker 88 = .ok (.iaload, 1) := by decide +kernel
theorem dX8_ofWalker_89 : decode cX8_ofWalker 89 = .ok (.bipush (-9), 2) := by decide +kernel
theorem dX8_ofWalker_91 : decode cX8_ofWalker 91 = .ok (.if_icmp .ne 8, 3) := by decide +kernel
theorem dX8_ofWalker_94 : decode cX8_ofWalker 94 = .ok (.bipush (-9), 2) := by decide +kernel
theorem dX8_ofWalker_96 : decode cX8_ofWalker 96 = .ok (.goto 11, 3) := by decide +kernel
theorem dX8_ofWalker_99 : decode cX8_ofWalker 99 = .ok (.aload_n 0, 1) := by decide +kernel
theorem dX8_ofWalker_100 : decode cX8_ofWalker 100 = .ok (.getfield 40, 3) := by decide +kernel
theorem dX8_ofWalker_103 : decode cX8_ofWalker 103 = .ok (.iload_n 1, 1) := by decide +kernel
theorem dX8_ofWalker_104 : decode cX8_ofWalker 104 = .ok (.invokestatic 164, 3) := by decide +kernel
theorem dX8_ofWalker_107 : decode cX8_ofWalker 107 = .ok (.ireturn, 1) := by decide +kernel
theorem dX8_ofWalker_108 : decode cX8_ofWalker 108 = .ok (.bipush (-2), 2) := by decide +kernel
theorem dX8_ofWalker_110 : decode cX8_ofWalker 110 = .ok (.ireturn, 1) := by decide +kernel
theorem dX8_charge_0 : decode cX8_charge 0 = .ok (.aload_n 0, 1) := by decide +kernel
theorem dX8_charge_1 : decode cX8_charge 1 = .ok (.iload_n 1, 1) := by decide +kernel
theorem dX8_charge_2 : decode cX8_charge 2 = .ok (.invokevirtual 152, 3) := by decide +kernel
theorem dX8_charge_5 : decode cX8_charge 5 = .ok (.ifCond .ne 5, 3) := by decide +kernel
theorem dX8_charge_8 : decode cX8_charge 8 = .ok (.iconst (-1), 1) := by decide +kernel
theorem dX8_charge_9 : decode cX8_charge 9 = .ok (.ireturn, 1) := by decide +kernel
theorem dX8_charge_10 : decode cX8_charge 10 = .ok (.iload_n 2, 1) := by decide +kernel
theorem dX8_charge_11 : decode cX8_charge 11 = .ok (.iconst 0, 1) := by decide +kernel
theorem dX8_charge_12 : decode cX8_charge 12 = .ok (.bipush 9, 2) := by decide +kernel
theorem dX8_charge_14 : decode cX8_charge 14 = .ok (.invokestatic 88, 3) := by decide +kernel
theorem dX8_charge_17 : decode cX8_charge 17 = .ok (.ifCond .ne 6, 3) := by decide +kernel
theorem dX8_charge_20 : decode cX8_charge 20 = .ok (.bipush (-2), 2) := by decide +kernel
theorem dX8_charge_22 : decode cX8_charge 22 = .ok (.ireturn, 1) := by decide +kernel
theorem dX8_charge_23 : decode cX8_charge 23 = .ok (.aload_n 0, 1) := by decide +kernel
theorem dX8_charge_24 : decode cX8_charge 24 = .ok (.getfield 25, 3) := by decide +kernel
theorem dX8_charge_27 : decode cX8_charge 27 = .ok (.iload_n 1, 1) := by decide +kernel
theorem dX8_charge_28 : decode cX8_charge 28 = .ok (.iaload, 1) := by decide +kernel
theorem dX8_charge_29 : decode cX8_charge 29 = .ok (.istore_n 3, 1) := by decide +kernel
theorem dX8_charge_30 : decode cX8_charge 30 = .ok (.aload_n 0, 1) := by decide +kernel
theorem dX8_charge_31 : decode cX8_charge 31 = .ok (.getfield 25, 3) := by decide +kernel
theorem dX8_charge_34 : decode cX8_charge 34 = .ok (.iload_n 1, 1) := by decide +kernel
theorem dX8_charge_35 : decode cX8_charge 35 = .ok (.iload_n 2, 1) := by decide +kernel
theorem dX8_charge_36 : decode cX8_charge 36 = .ok (.iastore, 1) := by decide +kernel
theorem dX8_charge_37 : decode cX8_charge 37 = .ok (.iload_n 3, 1) := by decide +kernel
theorem dX8_charge_38 : decode cX8_charge 38 = .ok (.ireturn, 1) := by decide +kernel
theorem dX8_earn_0 : decode cX8_earn 0 = .ok (.aload_n 0, 1) := by decide +kernel
theorem dX8_earn_1 : decode cX8_earn 1 = .ok (.iload_n 1, 1) := by decide +kernel
theorem dX8_earn_2 : decode cX8_earn 2 = .ok (.invokevirtual 161, 3) := by decide +kernel
theorem dX8_earn_5 : decode cX8_earn 5 = .ok (.ifCond .ne 5, 3) := by decide +kernel
theorem dX8_earn_8 : decode cX8_earn 8 = .ok (.iconst (-1), 1) := by decide +kernel
theorem dX8_earn_9 : decode cX8_earn 9 = .ok (.ireturn, 1) := by decide +kernel
theorem dX8_earn_10 : decode cX8_earn 10 = .ok (.iload_n 2, 1) := by decide +kernel
theorem dX8_earn_11 : decode cX8_earn 11 = .ok (.iconst 0, 1) := by decide +kernel
theorem dX8_earn_12 : decode cX8_earn 12 = .ok (.bipush 99, 2) := by decide +kernel
theorem dX8_earn_14 : decode cX8_earn 14 = .ok (.invokestatic 88, 3) := by decide +kernel
theorem dX8_earn_17 : decode cX8_earn 17 = .ok (.ifCond .ne 6, 3) := by decide +kernel
theorem dX8_earn_20 : decode cX8_earn 20 = .ok (.bipush (-2), 2) := by decide +kernel
theorem dX8_earn_22 : decode cX8_earn 22 = .ok (.ireturn, 1) := by decide +kernel
theorem dX8_earn_23 : decode cX8_earn 23 = .ok (.aload_n 0, 1) := by decide +kernel
theorem dX8_earn_24 : decode cX8_earn 24 = .ok (.getfield 31, 3) := by decide +kernel
theorem dX8_earn_27 : decode cX8_earn 27 = .ok (.iload_n 1, 1) := by decide +kernel
theorem dX8_earn_28 : decode cX8_earn 28 = .ok (.iaload, 1) := by decide +kernel
theorem dX8_earn_29 : decode cX8_earn 29 = .ok (.istore_n 3, 1) := by decide +kernel
theorem dX8_earn_30 : decode cX8_earn 30 = .ok (.aload_n 0, 1) := by decide +kernel
theorem dX8_earn_31 : decode cX8_earn 31 = .ok (.getfield 31, 3) := by decide +kernel
theorem dX8_earn_34 : decode cX8_earn 34 = .ok (.iload_n 1, 1) := by decide +kernel
theorem dX8_earn_35 : decode cX8_earn 35 = .ok (.iload_n 2, 1) := by decide +kernel
theorem dX8_earn_36 : decode cX8_earn 36 = .ok (.iastore, 1) := by decide +kernel
theorem dX8_earn_37 : decode cX8_earn 37 = .ok (.iload_n 3, 1) := by decide +kernel
theorem dX8_earn_38 : decode cX8_earn 38 = .ok (.ireturn, 1) := by decide +kernel
theorem dX8_apart_0 : decode cX8_apart 0 = .ok (.iload_n 0, 1) := by decide +kernel
theorem dX8_apart_1 : decode cX8_apart 1 = .ok (.iload_n 1, 1) := by decide +kernel
theorem dX8_apart_2 : decode cX8_apart 2 = .ok (.if_icmp .ge 9, 3) := by decide +kernel
theorem dX8_apart_5 : decode cX8_apart 5 = .ok (.iload_n 1, 1) := by decide +kernel
theorem dX8_apart_6 : decode cX8_apart 6 = .ok (.iload_n 0, 1) := by decide +kernel
theorem dX8_apart_7 : decode cX8_apart 7 = .ok (.isub, 1) := by decide +kernel
theorem dX8_apart_8 : decode cX8_apart 8 = .ok (.goto 6, 3) := by decide +kernel
theorem dX8_apart_11 : decode cX8_apart 11 = .ok (.iload_n 0, 1) := by decide +kernel
theorem dX8_apart_12 : decode cX8_apart 12 = .ok (.iload_n 1, 1) := by decide +kernel
theorem dX8_apart_13 : decode cX8_apart 13 = .ok (.isub, 1) := by decide +kernel
theorem dX8_apart_14 : decode cX8_apart 14 = .ok (.ireturn, 1) := by decide +kernel
theorem dX8_mayGo_0 : decode cX8_mayGo 0 = .ok (.aload_n 0, 1) := by decide +kernel
theorem dX8_mayGo_1 : decode cX8_mayGo 1 = .ok (.getfield 34, 3) := by decide +kernel
theorem dX8_mayGo_4 : decode cX8_mayGo 4 = .ok (.iload_n 1, 1) := by decide +kernel
theorem dX8_mayGo_5 : decode cX8_mayGo 5 = .ok (.iaload, 1) := by decide +kernel
theorem dX8_mayGo_6 : decode cX8_mayGo 6 = .ok (.aload_n 0, 1) := by decide +kernel
theorem dX8_mayGo_7 : decode cX8_mayGo 7 = .ok (.getfield 28, 3) := by decide +kernel
theorem dX8_mayGo_10 : decode cX8_mayGo 10 = .ok (.iload_n 2, 1) := by decide +kernel
theorem dX8_mayGo_11 : decode cX8_mayGo 11 = .ok (.iaload, 1) := by decide +kernel
theorem dX8_mayGo_12 : decode cX8_mayGo 12 = .ok (.invokestatic 168, 3) := by decide +kernel
theorem dX8_mayGo_15 : decode cX8_mayGo 15 = .ok (.aload_n 0, 1) := by decide +kernel
theorem dX8_mayGo_16 : decode cX8_mayGo 16 = .ok (.getfield 37, 3) := by decide +kernel
theorem dX8_mayGo_19 : decode cX8_mayGo 19 = .ok (.iload_n 1, 1) := by decide +kernel
theorem dX8_mayGo_20 : decode cX8_mayGo 20 = .ok (.iaload, 1) := by decide +kernel
theorem dX8_mayGo_21 : decode cX8_mayGo 21 = .ok (.if_icmp .gt 22, 3) := by decide +kernel
theorem dX8_mayGo_24 : decode cX8_mayGo 24 = .ok (.aload_n 0, 1) := by decide +kernel
theorem dX8_mayGo_25 : decode cX8_mayGo 25 = .ok (.getfield 25, 3) := by decide +kernel
theorem dX8_mayGo_28 : decode cX8_mayGo 28 = .ok (.iload_n 2, 1) := by decide +kernel
theorem dX8_mayGo_29 : decode cX8_mayGo 29 = .ok (.iaload, 1) := by decide +kernel
theorem dX8_mayGo_30 : decode cX8_mayGo 30 = .ok (.aload_n 0, 1) := by decide +kernel
theorem dX8_mayGo_31 : decode cX8_mayGo 31 = .ok (.getfield 31, 3) := by decide +kernel
theorem dX8_mayGo_34 : decode cX8_mayGo 34 = .ok (.iload_n 1, 1) := by decide +kernel
theorem dX8_mayGo_35 : decode cX8_mayGo 35 = .ok (.iaload, 1) := by decide +kernel
theorem dX8_mayGo_36 : decode cX8_mayGo 36 = .ok (.if_icmp .gt 7, 3) := by decide +kernel
theorem dX8_mayGo_39 : decode cX8_mayGo 39 = .ok (.iconst 1, 1) := by decide +kernel
theorem dX8_mayGo_40 : decode cX8_mayGo 40 = .ok (.goto 4, 3) := by decide +kernel
theorem dX8_mayGo_43 : decode cX8_mayGo 43 = .ok (.iconst 0, 1) := by decide +kernel
theorem dX8_mayGo_44 : decode cX8_mayGo 44 = .ok (.ireturn, 1) := by decide +kernel
theorem dX8_doLodge_0 : decode cX8_doLodge 0 = .ok (.aload_n 0, 1) := by decide +kernel
theorem dX8_doLodge_1 : decode cX8_doLodge 1 = .ok (.getfield 40, 3) := by decide +kernel
theorem dX8_doLodge_4 : decode cX8_doLodge 4 = .ok (.iload_n 1, 1) := by decide +kernel
theorem dX8_doLodge_5 : decode cX8_doLodge 5 = .ok (.iaload, 1) := by decide +kernel
theorem dX8_doLodge_6 : decode cX8_doLodge 6 = .ok (.bipush (-9), 2) := by decide +kernel
theorem dX8_doLodge_8 : decode cX8_doLodge 8 = .ok (.if_icmp .ne 28, 3) := by decide +kernel
theorem dX8_doLodge_11 : decode cX8_doLodge 11 = .ok (.aload_n 0, 1) := by decide +kernel
theorem dX8_doLodge_12 : decode cX8_doLodge 12 = .ok (.iload_n 1, 1) := by decide +kernel
theorem dX8_doLodge_13 : decode cX8_doLodge 13 = .ok (.iload_n 2, 1) := by decide +kernel
theorem dX8_doLodge_14 : decode cX8_doLodge 14 = .ok (.invokevirtual 171, 3) := by decide +kernel
theorem dX8_doLodge_17 : decode cX8_doLodge 17 = .ok (.ifCond .eq 19, 3) := by decide +kernel
theorem dX8_doLodge_20 : decode cX8_doLodge 20 = .ok (.aload_n 0, 1) := by decide +kernel
theorem dX8_doLodge_21 : decode cX8_doLodge 21 = .ok (.iload_n 2, 1) := by decide +kernel
theorem dX8_doLodge_22 : decode cX8_doLodge 22 = .ok (.invokevirtual 158, 3) := by decide +kernel
theorem dX8_doLodge_25 : decode cX8_doLodge 25 = .ok (.invokestatic 174, 3) := by decide +kernel
theorem dX8_doLodge_28 : decode cX8_doLodge 28 = .ok (.aload_n 0, 1) := by decide +kernel
theorem dX8_doLodge_29 : decode cX8_doLodge 29 = .ok (.iload_n 2, 1) := by decide +kernel
theorem dX8_doLodge_30 : decode cX8_doLodge 30 = .ok (.invokevirtual 155, 3) := by decide +kernel
theorem dX8_doLodge_33 : decode cX8_doLodge 33 = .ok (.if_icmp .lt 5, 3) := by decide +kernel
theorem dX8_doLodge_36 : decode cX8_doLodge 36 = .ok (.iconst 0, 1) := by decide +kernel
theorem dX8_doLodge_37 : decode cX8_doLodge 37 = .ok (.ireturn, 1) := by decide +kernel
theorem dX8_doLodge_38 : decode cX8_doLodge 38 = .ok (.aload_n 0, 1) := by decide +kernel
theorem dX8_doLodge_39 : decode cX8_doLodge 39 = .ok (.getfield 40, 3) := by decide +kernel
theorem dX8_doLodge_42 : decode cX8_doLodge 42 = .ok (.iload_n 1, 1) := by decide +kernel
theorem dX8_doLodge_43 : decode cX8_doLodge 43 = .ok (.iload_n 2, 1) := by decide +kernel
theorem dX8_doLodge_44 : decode cX8_doLodge 44 = .ok (.iastore, 1) := by decide +kernel
theorem dX8_doLodge_45 : decode cX8_doLodge 45 = .ok (.aload_n 0, 1) := by decide +kernel
theorem dX8_doLodge_46 : decode cX8_doLodge 46 = .ok (.getfield 34, 3) := by decide +kernel
theorem dX8_doLodge_49 : decode cX8_doLodge 49 = .ok (.iload_n 1, 1) := by decide +kernel
theorem dX8_doLodge_50 : decode cX8_doLodge 50 = .ok (.aload_n 0, 1) := by decide +kernel
theorem dX8_doLodge_51 : decode cX8_doLodge 51 = .ok (.getfield 28, 3) := by decide +kernel
theorem dX8_doLodge_54 : decode cX8_doLodge 54 = .ok (.iload_n 2, 1) := by decide +kernel
theorem dX8_doLodge_55 : decode cX8_doLodge 55 = .ok (.iaload, 1) := by decide +kernel
theorem dX8_doLodge_56 : decode cX8_doLodge 56 = .ok (.iastore, 1) := by decide +kernel
theorem dX8_doLodge_57 : decode cX8_doLodge 57 = .ok (.iconst 1, 1) := by decide +kernel
theorem dX8_doLodge_58 : decode cX8_doLodge 58 = .ok (.ireturn, 1) := by decide +kernel
theorem dX8_lodge_0 : decode cX8_lodge 0 = .ok (.aload_n 0, 1) := by decide +kernel
theorem dX8_lodge_1 : decode cX8_lodge 1 = .ok (.iload_n 1, 1) := by decide +kernel
theorem dX8_lodge_2 : decode cX8_lodge 2 = .ok (.invokevirtual 161, 3) := by decide +kernel
theorem dX8_lodge_5 : decode cX8_lodge 5 = .ok (.ifCond .eq 11, 3) := by decide +kernel
theorem dX8_lodge_8 : decode cX8_lodge 8 = .ok (.aload_n 0, 1) := by decide +kernel
theorem dX8_lodge_9 : decode cX8_lodge 9 = .ok (.iload_n 2, 1) := by decide +kernel
theorem dX8_lodge_10 : decode cX8_lodge 10 = .ok (.invokevirtual 152, 3) := by decide +kernel
theorem dX8_lodge_13 : decode cX8_lodge 13 = .ok (.ifCond .ne 5, 3) := by decide +kernel
theorem dX8_lodge_16 : decode cX8_lodge 16 = .ok (.iconst (-1), 1) := by decide +kernel
theorem dX8_lodge_17 : decode cX8_lodge 17 = .ok (.ireturn, 1) := by decide +kernel
theorem dX8_lodge_18 : decode cX8_lodge 18 = .ok (.aload_n 0, 1) := by decide +kernel
theorem dX8_lodge_19 : decode cX8_lodge 19 = .ok (.iload_n 1, 1) := by decide +kernel
theorem dX8_lodge_20 : decode cX8_lodge 20 = .ok (.iload_n 2, 1) := by decide +kernel
theorem dX8_lodge_21 : decode cX8_lodge 21 = .ok (.invokevirtual 177, 3) := by decide +kernel
theorem dX8_lodge_24 : decode cX8_lodge 24 = .ok (.ifCond .eq 14, 3) := by decide +kernel
theorem dX8_lodge_27 : decode cX8_lodge 27 = .ok (.aload_n 0, 1) := by decide +kernel
theorem dX8_lodge_28 : decode cX8_lodge 28 = .ok (.iload_n 2, 1) := by decide +kernel
theorem dX8_lodge_29 : decode cX8_lodge 29 = .ok (.invokevirtual 158, 3) := by decide +kernel
theorem dX8_lodge_32 : decode cX8_lodge 32 = .ok (.invokestatic 174, 3) := by decide +kernel
theorem dX8_lodge_35 : decode cX8_lodge 35 = .ok (.goto 5, 3) := by decide +kernel
theorem dX8_lodge_38 : decode cX8_lodge 38 = .ok (.bipush (-3), 2) := by decide +kernel
theorem dX8_lodge_40 : decode cX8_lodge 40 = .ok (.ireturn, 1) := by decide +kernel
theorem dX8_leave_0 : decode cX8_leave 0 = .ok (.aload_n 0, 1) := by decide +kernel
theorem dX8_leave_1 : decode cX8_leave 1 = .ok (.iload_n 1, 1) := by decide +kernel
theorem dX8_leave_2 : decode cX8_leave 2 = .ok (.invokevirtual 161, 3) := by decide +kernel
theorem dX8_leave_5 : decode cX8_leave 5 = .ok (.ifCond .ne 5, 3) := by decide +kernel
theorem dX8_leave_8 : decode cX8_leave 8 = .ok (.iconst (-1), 1) := by decide +kernel
theorem dX8_leave_9 : decode cX8_leave 9 = .ok (.ireturn, 1) := by decide +kernel
theorem dX8_leave_10 : decode cX8_leave 10 = .ok (.aload_n 0, 1) := by decide +kernel
theorem dX8_leave_11 : decode cX8_leave 11 = .ok (.getfield 40, 3) := by decide +kernel
theorem dX8_leave_14 : decode cX8_leave 14 = .ok (.iload_n 1, 1) := by decide +kernel
theorem dX8_leave_15 : decode cX8_leave 15 = .ok (.iaload, 1) := by decide +kernel
theorem dX8_leave_16 : decode cX8_leave 16 = .ok (.bipush (-9), 2) := by decide +kernel
theorem dX8_leave_18 : decode cX8_leave 18 = .ok (.if_icmp .ne 6, 3) := by decide +kernel
theorem dX8_leave_21 : decode cX8_leave 21 = .ok (.bipush (-3), 2) := by decide +kernel
theorem dX8_leave_23 : decode cX8_leave 23 = .ok (.ireturn, 1) := by decide +kernel
theorem dX8_leave_24 : decode cX8_leave 24 = .ok (.aload_n 0, 1) := by decide +kernel
theorem dX8_leave_25 : decode cX8_leave 25 = .ok (.getfield 40, 3) := by decide +kernel
theorem dX8_leave_28 : decode cX8_leave 28 = .ok (.iload_n 1, 1) := by decide +kernel
theorem dX8_leave_29 : decode cX8_leave 29 = .ok (.iaload, 1) := by decide +kernel
theorem dX8_leave_30 : decode cX8_leave 30 = .ok (.istore_n 2, 1) := by decide +kernel
theorem dX8_leave_31 : decode cX8_leave 31 = .ok (.aload_n 0, 1) := by decide +kernel
theorem dX8_leave_32 : decode cX8_leave 32 = .ok (.getfield 40, 3) := by decide +kernel
theorem dX8_leave_35 : decode cX8_leave 35 = .ok (.iload_n 1, 1) := by decide +kernel
theorem dX8_leave_36 : decode cX8_leave 36 = .ok (.bipush (-9), 2) := by decide +kernel
theorem dX8_leave_38 : decode cX8_leave 38 = .ok (.iastore, 1) := by decide +kernel
theorem dX8_leave_39 : decode cX8_leave 39 = .ok (.iload_n 2, 1) := by decide +kernel
theorem dX8_leave_40 : decode cX8_leave 40 = .ok (.ireturn, 1) := by decide +kernel
theorem dX8_goNight_0 : decode cX8_goNight 0 = .ok (.iconst 0, 1) := by decide +kernel
theorem dX8_goNight_1 : decode cX8_goNight 1 = .ok (.istore_n 1, 1) := by decide +kernel
theorem dX8_goNight_2 : decode cX8_goNight 2 = .ok (.iconst 0, 1) := by decide +kernel
theorem dX8_goNight_3 : decode cX8_goNight 3 = .ok (.istore_n 2, 1) := by decide +kernel
theorem dX8_goNight_4 : decode cX8_goNight 4 = .ok (.iload_n 2, 1) := by decide +kernel
theorem dX8_goNight_5 : decode cX8_goNight 5 = .ok (.aload_n 0, 1) := by decide +kernel
theorem dX8_goNight_6 : decode cX8_goNight 6 = .ok (.getfield 95, 3) := by decide +kernel
theorem dX8_goNight_9 : decode cX8_goNight 9 = .ok (.if_icmp .ge 87, 3) := by decide +kernel
theorem dX8_goNight_12 : decode cX8_goNight 12 = .ok (.aload_n 0, 1) := by decide +kernel
theorem dX8_goNight_13 : decode cX8_goNight 13 = .ok (.getfield 40, 3) := by decide +kernel
theorem dX8_goNight_16 : decode cX8_goNight 16 = .ok (.iload_n 2, 1) := by decide +kernel
theorem dX8_goNight_17 : decode cX8_goNight 17 = .ok (.iaload, 1) := by decide +kernel
theorem dX8_goNight_18 : decode cX8_goNight 18 = .ok (.istore_n 3, 1) := by decide +kernel
theorem dX8_goNight_19 : decode cX8_goNight 19 = .ok (.iload_n 3, 1) := by decide +kernel
theorem dX8_goNight_20 : decode cX8_goNight 20 = .ok (.bipush (-9), 2) := by decide +kernel
theorem dX8_goNight_22 : decode cX8_goNight 22 = .ok (.if_icmp .eq 36, 3) := by decide +kernel
theorem dX8_goNight_25 : decode cX8_goNight 25 = .ok (.aload_n 0, 1) := by decide +kernel
theorem dX8_goNight_26 : decode cX8_goNight 26 = .ok (.getfield 25, 3) := by decide +kernel
theorem dX8_goNight_29 : decode cX8_goNight 29 = .ok (.iload_n 3, 1) := by decide +kernel
theorem dX8_goNight_30 : decode cX8_goNight 30 = .ok (.iaload, 1) := by decide +kernel
theorem dX8_goNight_31 : decode cX8_goNight 31 = .ok (.aload_n 0, 1) := by decide +kernel
theorem dX8_goNight_32 : decode cX8_goNight 32 = .ok (.getfield 31, 3) := by decide +kernel
theorem dX8_goNight_35 : decode cX8_goNight 35 = .ok (.iload_n 2, 1) := by decide +kernel
theorem dX8_goNight_36 : decode cX8_goNight 36 = .ok (.iaload, 1) := by decide +kernel
theorem dX8_goNight_37 : decode cX8_goNight 37 = .ok (.if_icmp .gt 21, 3) := by decide +kernel
theorem dX8_goNight_40 : decode cX8_goNight 40 = .ok (.aload_n 0, 1) := by decide +kernel
theorem dX8_goNight_41 : decode cX8_goNight 41 = .ok (.getfield 31, 3) := by decide +kernel
theorem dX8_goNight_44 : decode cX8_goNight 44 = .ok (.iload_n 2, 1) := by decide +kernel
theorem dX8_goNight_45 : decode cX8_goNight 45 = .ok (.dup2, 1) := by decide +kernel
theorem dX8_goNight_46 : decode cX8_goNight 46 = .ok (.iaload, 1) := by decide +kernel
theorem dX8_goNight_47 : decode cX8_goNight 47 = .ok (.aload_n 0, 1) := by decide +kernel
theorem dX8_goNight_48 : decode cX8_goNight 48 = .ok (.getfield 25, 3) := by decide +kernel
theorem dX8_goNight_51 : decode cX8_goNight 51 = .ok (.iload_n 3, 1) := by decide +kernel
theorem dX8_goNight_52 : decode cX8_goNight 52 = .ok (.iaload, 1) := by decide +kernel
theorem dX8_goNight_53 : decode cX8_goNight 53 = .ok (.isub, 1) := by decide +kernel
theorem dX8_goNight_54 : decode cX8_goNight 54 = .ok (.iastore, 1) := by decide +kernel
theorem dX8_goNight_55 : decode cX8_goNight 55 = .ok (.goto 35, 3) := by decide +kernel
theorem dX8_goNight_58 : decode cX8_goNight 58 = .ok (.iload_n 1, 1) := by decide +kernel
theorem dX8_goNight_59 : decode cX8_goNight 59 = .ok (.iload_n 3, 1) := by decide +kernel
theorem dX8_goNight_60 : decode cX8_goNight 60 = .ok (.bipush (-9), 2) := by decide +kernel
theorem dX8_goNight_62 : decode cX8_goNight 62 = .ok (.if_icmp .ne 7, 3) := by decide +kernel
theorem dX8_goNight_65 : decode cX8_goNight 65 = .ok (.iconst 0, 1) := by decide +kernel
theorem dX8_goNight_66 : decode cX8_goNight 66 = .ok (.goto 4, 3) := by decide +kernel
theorem dX8_goNight_69 : decode cX8_goNight 69 = .ok (.iconst 1, 1) := by decide +kernel
theorem dX8_goNight_70 : decode cX8_goNight 70 = .ok (.iadd, 1) := by decide +kernel
theorem dX8_goNight_71 : decode cX8_goNight 71 = .ok (.istore_n 1, 1) := by decide +kernel
theorem dX8_goNight_72 : decode cX8_goNight 72 = .ok (.aload_n 0, 1) := by decide +kernel
theorem dX8_goNight_73 : decode cX8_goNight 73 = .ok (.getfield 40, 3) := by decide +kernel
theorem dX8_goNight_76 : decode cX8_goNight 76 = .ok (.iload_n 2, 1) := by decide +kernel
theorem dX8_goNight_77 : decode cX8_goNight 77 = .ok (.bipush (-9), 2) := by decide +kernel
theorem dX8_goNight_79 : decode cX8_goNight 79 = .ok (.iastore, 1) := by decide +kernel
theorem dX8_goNight_80 : decode cX8_goNight 80 = .ok (.aload_n 0, 1) := by decide +kernel
theorem dX8_goNight_81 : decode cX8_goNight 81 = .ok (.getfield 43, 3) := by decide +kernel
theorem dX8_goNight_84 : decode cX8_goNight 84 = .ok (.iload_n 2, 1) := by decide +kernel
theorem dX8_goNight_85 : decode cX8_goNight 85 = .ok (.dup2, 1) := by decide +kernel
theorem dX8_goNight_86 : decode cX8_goNight 86 = .ok (.iaload, 1) := by decide +kernel
theorem dX8_goNight_87 : decode cX8_goNight 87 = .ok (.iconst 1, 1) := by decide +kernel
theorem dX8_goNight_88 : decode cX8_goNight 88 = .ok (.iadd, 1) := by decide +kernel
theorem dX8_goNight_89 : decode cX8_goNight 89 = .ok (.iastore, 1) := by decide +kernel
theorem dX8_goNight_90 : decode cX8_goNight 90 = .ok (.iinc 2 1, 3) := by decide +kernel
theorem dX8_goNight_93 : decode cX8_goNight 93 = .ok (.goto (-89), 3) := by decide +kernel
theorem dX8_goNight_96 : decode cX8_goNight 96 = .ok (.iload_n 1, 1) := by decide +kernel
theorem dX8_goNight_97 : decode cX8_goNight 97 = .ok (.ireturn, 1) := by decide +kernel
theorem dX8_night_0 : decode cX8_night 0 = .ok (.iload_n 1, 1) := by decide +kernel
theorem dX8_night_1 : decode cX8_night 1 = .ok (.iconst 1, 1) := by decide +kernel
theorem dX8_night_2 : decode cX8_night 2 = .ok (.bipush 30, 2) := by decide +kernel
theorem dX8_night_4 : decode cX8_night 4 = .ok (.invokestatic 88, 3) := by decide +kernel
theorem dX8_night_7 : decode cX8_night 7 = .ok (.ifCond .ne 6, 3) := by decide +kernel
theorem dX8_night_10 : decode cX8_night 10 = .ok (.bipush (-2), 2) := by decide +kernel
theorem dX8_night_12 : decode cX8_night 12 = .ok (.ireturn, 1) := by decide +kernel
theorem dX8_night_13 : decode cX8_night 13 = .ok (.aload_n 0, 1) := by decide +kernel
theorem dX8_night_14 : decode cX8_night 14 = .ok (.getfield 92, 3) := by decide +kernel
theorem dX8_night_17 : decode cX8_night 17 = .ok (.ifCond .ne 6, 3) := by decide +kernel
theorem dX8_night_20 : decode cX8_night 20 = .ok (.bipush (-3), 2) := by decide +kernel
theorem dX8_night_22 : decode cX8_night 22 = .ok (.ireturn, 1) := by decide +kernel
theorem dX8_night_23 : decode cX8_night 23 = .ok (.iconst 0, 1) := by decide +kernel
theorem dX8_night_24 : decode cX8_night 24 = .ok (.istore_n 2, 1) := by decide +kernel
theorem dX8_night_25 : decode cX8_night 25 = .ok (.iconst 0, 1) := by decide +kernel
theorem dX8_night_26 : decode cX8_night 26 = .ok (.istore_n 3, 1) := by decide +kernel
theorem dX8_night_27 : decode cX8_night 27 = .ok (.iload_n 3, 1) := by decide +kernel
theorem dX8_night_28 : decode cX8_night 28 = .ok (.iload_n 1, 1) := by decide +kernel
theorem dX8_night_29 : decode cX8_night 29 = .ok (.if_icmp .ge 16, 3) := by decide +kernel
theorem dX8_night_32 : decode cX8_night 32 = .ok (.iload_n 2, 1) := by decide +kernel
theorem dX8_night_33 : decode cX8_night 33 = .ok (.aload_n 0, 1) := by decide +kernel
theorem dX8_night_34 : decode cX8_night 34 = .ok (.invokevirtual 180, 3) := by decide +kernel
theorem dX8_night_37 : decode cX8_night 37 = .ok (.iadd, 1) := by decide +kernel
theorem dX8_night_38 : decode cX8_night 38 = .ok (.istore_n 2, 1) := by decide +kernel
theorem dX8_night_39 : decode cX8_night 39 = .ok (.iinc 3 1, 3) := by decide +kernel
theorem dX8_night_42 : decode cX8_night 42 = .ok (.goto (-15), 3) := by decide +kernel
theorem dX8_night_45 : decode cX8_night 45 = .ok (.aload_n 0, 1) := by decide +kernel
theorem dX8_night_46 : decode cX8_night 46 = .ok (.dup, 1) := by decide +kernel
theorem dX8_night_47 : decode cX8_night 47 = .ok (.getfield 128, 3) := by decide +kernel
theorem dX8_night_50 : decode cX8_night 50 = .ok (.iload_n 1, 1) := by decide +kernel
theorem dX8_night_51 : decode cX8_night 51 = .ok (.iadd, 1) := by decide +kernel
theorem dX8_night_52 : decode cX8_night 52 = .ok (.putfield 128, 3) := by decide +kernel
theorem dX8_night_55 : decode cX8_night 55 = .ok (.iload_n 2, 1) := by decide +kernel
theorem dX8_night_56 : decode cX8_night 56 = .ok (.ireturn, 1) := by decide +kernel
theorem dX8_keep_0 : decode cX8_keep 0 = .ok (.iconst 0, 1) := by decide +kernel
theorem dX8_keep_1 : decode cX8_keep 1 = .ok (.istore_n 1, 1) := by decide +kernel
theorem dX8_keep_2 : decode cX8_keep 2 = .ok (.iload_n 1, 1) := by decide +kernel
theorem dX8_keep_3 : decode cX8_keep 3 = .ok (.aload_n 0, 1) := by decide +kernel
theorem dX8_keep_4 : decode cX8_keep 4 = .ok (.getfield 95, 3) := by decide +kernel
theorem dX8_keep_7 : decode cX8_keep 7 = .ok (.if_icmp .ge 57, 3) := by decide +kernel
theorem dX8_keep_10 : decode cX8_keep 10 = .ok (.aload_n 0, 1) := by decide +kernel
theorem dX8_keep_11 : decode cX8_keep 11 = .ok (.getfield 52, 3) := by decide +kernel
theorem dX8_keep_14 : decode cX8_keep 14 = .ok (.iload_n 1, 1) := by decide +kernel
theorem dX8_keep_15 : decode cX8_keep 15 = .ok (.aload_n 0, 1) := by decide +kernel
theorem dX8_keep_16 : decode cX8_keep 16 = .ok (.getfield 31, 3) := by decide +kernel
theorem dX8_keep_19 : decode cX8_keep 19 = .ok (.iload_n 1, 1) := by decide +kernel
theorem dX8_keep_20 : decode cX8_keep 20 = .ok (.iaload, 1) := by decide +kernel
theorem dX8_keep_21 : decode cX8_keep 21 = .ok (.iastore, 1) := by decide +kernel
theorem dX8_keep_22 : decode cX8_keep 22 = .ok (.aload_n 0, 1) := by decide +kernel
theorem dX8_keep_23 : decode cX8_keep 23 = .ok (.getfield 55, 3) := by decide +kernel
theorem dX8_keep_26 : decode cX8_keep 26 = .ok (.iload_n 1, 1) := by decide +kernel
theorem dX8_keep_27 : decode cX8_keep 27 = .ok (.aload_n 0, 1) := by decide +kernel
theorem dX8_keep_28 : decode cX8_keep 28 = .ok (.getfield 34, 3) := by decide +kernel
theorem dX8_keep_31 : decode cX8_keep 31 = .ok (.iload_n 1, 1) := by decide +kernel
theorem dX8_keep_32 : decode cX8_keep 32 = .ok (.iaload, 1) := by decide +kernel
theorem dX8_keep_33 : decode cX8_keep 33 = .ok (.iastore, 1) := by decide +kernel
theorem dX8_keep_34 : decode cX8_keep 34 = .ok (.aload_n 0, 1) := by decide +kernel
theorem dX8_keep_35 : decode cX8_keep 35 = .ok (.getfield 58, 3) := by decide +kernel
theorem dX8_keep_38 : decode cX8_keep 38 = .ok (.iload_n 1, 1) := by decide +kernel
theorem dX8_keep_39 : decode cX8_keep 39 = .ok (.aload_n 0, 1) := by decide +kernel
theorem dX8_keep_40 : decode cX8_keep 40 = .ok (.getfield 40, 3) := by decide +kernel
theorem dX8_keep_43 : decode cX8_keep 43 = .ok (.iload_n 1, 1) := by decide +kernel
theorem dX8_keep_44 : decode cX8_keep 44 = .ok (.iaload, 1) := by decide +kernel
theorem dX8_keep_45 : decode cX8_keep 45 = .ok (.iastore, 1) := by decide +kernel
theorem dX8_keep_46 : decode cX8_keep 46 = .ok (.aload_n 0, 1) := by decide +kernel
theorem dX8_keep_47 : decode cX8_keep 47 = .ok (.getfield 61, 3) := by decide +kernel
theorem dX8_keep_50 : decode cX8_keep 50 = .ok (.iload_n 1, 1) := by decide +kernel
theorem dX8_keep_51 : decode cX8_keep 51 = .ok (.aload_n 0, 1) := by decide +kernel
theorem dX8_keep_52 : decode cX8_keep 52 = .ok (.getfield 43, 3) := by decide +kernel
theorem dX8_keep_55 : decode cX8_keep 55 = .ok (.iload_n 1, 1) := by decide +kernel
theorem dX8_keep_56 : decode cX8_keep 56 = .ok (.iaload, 1) := by decide +kernel
theorem dX8_keep_57 : decode cX8_keep 57 = .ok (.iastore, 1) := by decide +kernel
theorem dX8_keep_58 : decode cX8_keep 58 = .ok (.iinc 1 1, 3) := by decide +kernel
theorem dX8_keep_61 : decode cX8_keep 61 = .ok (.goto (-59), 3) := by decide +kernel
theorem dX8_keep_64 : decode cX8_keep 64 = .ok (.return_, 1) := by decide +kernel
theorem dX8_putBack_0 : decode cX8_putBack 0 = .ok (.iconst 0, 1) := by decide +kernel
theorem dX8_putBack_1 : decode cX8_putBack 1 = .ok (.istore_n 1, 1) := by decide +kernel
theorem dX8_putBack_2 : decode cX8_putBack 2 = .ok (.iload_n 1, 1) := by decide +kernel
theorem dX8_putBack_3 : decode cX8_putBack 3 = .ok (.aload_n 0, 1) := by decide +kernel
theorem dX8_putBack_4 : decode cX8_putBack 4 = .ok (.getfield 95, 3) := by decide +kernel
theorem dX8_putBack_7 : decode cX8_putBack 7 = .ok (.if_icmp .ge 57, 3) := by decide +kernel
theorem dX8_putBack_10 : decode cX8_putBack 10 = .ok (.aload_n 0, 1) := by decide +kernel
theorem dX8_putBack_11 : decode cX8_putBack 11 = .ok (.getfield 31, 3) := by decide +kernel
theorem dX8_putBack_14 : decode cX8_putBack 14 = .ok (.iload_n 1, 1) := by decide +kernel
theorem dX8_putBack_15 : decode cX8_putBack 15 = .ok (.aload_n 0, 1) := by decide +kernel
theorem dX8_putBack_16 : decode cX8_putBack 16 = .ok (.getfield 52, 3) := by decide +kernel
theorem dX8_putBack_19 : decode cX8_putBack 19 = .ok (.iload_n 1, 1) := by decide +kernel
theorem dX8_putBack_20 : decode cX8_putBack 20 = .ok (.iaload, 1) := by decide +kernel
theorem dX8_putBack_21 : decode cX8_putBack 21 = .ok (.iastore, 1) := by decide +kernel
theorem dX8_putBack_22 : decode cX8_putBack 22 = .ok (.aload_n 0, 1) := by decide +kernel
theorem dX8_putBack_23 : decode cX8_putBack 23 = .ok (.getfield 34, 3) := by decide +kernel
theorem dX8_putBack_26 : decode cX8_putBack 26 = .ok (.iload_n 1, 1) := by decide +kernel
theorem dX8_putBack_27 : decode cX8_putBack 27 = .ok (.aload_n 0, 1) := by decide +kernel
theorem dX8_putBack_28 : decode cX8_putBack 28 = .ok (.getfield 55, 3) := by decide +kernel
theorem dX8_putBack_31 : decode cX8_putBack 31 = .ok (.iload_n 1, 1) := by decide +kernel
theorem dX8_putBack_32 : decode cX8_putBack 32 = .ok (.iaload, 1) := by decide +kernel
theorem dX8_putBack_33 : decode cX8_putBack 33 = .ok (.iastore, 1) := by decide +kernel
theorem dX8_putBack_34 : decode cX8_putBack 34 = .ok (.aload_n 0, 1) := by decide +kernel
theorem dX8_putBack_35 : decode cX8_putBack 35 = .ok (.getfield 40, 3) := by decide +kernel
theorem dX8_putBack_38 : decode cX8_putBack 38 = .ok (.iload_n 1, 1) := by decide +kernel
theorem dX8_putBack_39 : decode cX8_putBack 39 = .ok (.aload_n 0, 1) := by decide +kernel
theorem dX8_putBack_40 : decode cX8_putBack 40 = .ok (.getfield 58, 3) := by decide +kernel
theorem dX8_putBack_43 : decode cX8_putBack 43 = .ok (.iload_n 1, 1) := by decide +kernel
theorem dX8_putBack_44 : decode cX8_putBack 44 = .ok (.iaload, 1) := by decide +kernel
theorem dX8_putBack_45 : decode cX8_putBack 45 = .ok (.iastore, 1) := by decide +kernel
theorem dX8_putBack_46 : decode cX8_putBack 46 = .ok (.aload_n 0, 1) := by decide +kernel
theorem dX8_putBack_47 : decode cX8_putBack 47 = .ok (.getfield 43, 3) := by decide +kernel
theorem dX8_putBack_50 : decode cX8_putBack 50 = .ok (.iload_n 1, 1) := by decide +kernel
theorem dX8_putBack_51 : decode cX8_putBack 51 = .ok (.aload_n 0, 1) := by decide +kernel
theorem dX8_putBack_52 : decode cX8_putBack 52 = .ok (.getfield 61, 3) := by decide +kernel
theorem dX8_putBack_55 : decode cX8_putBack 55 = .ok (.iload_n 1, 1) := by decide +kernel
theorem dX8_putBack_56 : decode cX8_putBack 56 = .ok (.iaload, 1) := by decide +kernel
theorem dX8_putBack_57 : decode cX8_putBack 57 = .ok (.iastore, 1) := by decide +kernel
theorem dX8_putBack_58 : decode cX8_putBack 58 = .ok (.iinc 1 1, 3) := by decide +kernel
theorem dX8_putBack_61 : decode cX8_putBack 61 = .ok (.goto (-59), 3) := by decide +kernel
theorem dX8_putBack_64 : decode cX8_putBack 64 = .ok (.return_, 1) := by decide +kernel
theorem dX8_does_0 : decode cX8_does 0 = .ok (.iload_n 2, 1) := by decide +kernel
theorem dX8_does_1 : decode cX8_does 1 = .ok (.bipush 8, 2) := by decide +kernel
theorem dX8_does_3 : decode cX8_does 3 = .ok (.if_icmp .ne 31, 3) := by decide +kernel
theorem dX8_does_6 : decode cX8_does 6 = .ok (.iconst 0, 1) := by decide +kernel
theorem dX8_does_7 : decode cX8_does 7 = .ok (.istore_n 3, 1) := by decide +kernel
theorem dX8_does_8 : decode cX8_does 8 = .ok (.iload_n 3, 1) := by decide +kernel
theorem dX8_does_9 : decode cX8_does 9 = .ok (.iload_n 1, 1) := by decide +kernel
theorem dX8_does_10 : decode cX8_does 10 = .ok (.if_icmp .ge 22, 3) := by decide +kernel
theorem dX8_does_13 : decode cX8_does 13 = .ok (.aload_n 0, 1) := by decide +kernel
theorem dX8_does_14 : decode cX8_does 14 = .ok (.dup, 1) := by decide +kernel
theorem dX8_does_15 : decode cX8_does 15 = .ok (.getfield 184, 3) := by decide +kernel
theorem dX8_does_18 : decode cX8_does 18 = .ok (.aload_n 0, 1) := by decide +kernel
theorem dX8_does_19 : decode cX8_does 19 = .ok (.invokevirtual 180, 3) := by decide +kernel
theorem dX8_does_22 : decode cX8_does 22 = .ok (.iadd, 1) := by decide +kernel
theorem dX8_does_23 : decode cX8_does 23 = .ok (.putfield 184, 3) := by decide +kernel
theorem dX8_does_26 : decode cX8_does 26 = .ok (.iinc 3 1, 3) := by decide +kernel
theorem dX8_does_29 : decode cX8_does 29 = .ok (.goto (-21), 3) := by decide +kernel
theorem dX8_does_32 : decode cX8_does 32 = .ok (.iconst 1, 1) := by decide +kernel
theorem dX8_does_33 : decode cX8_does 33 = .ok (.ireturn, 1) := by decide +kernel
theorem dX8_does_34 : decode cX8_does 34 = .ok (.iload_n 2, 1) := by decide +kernel
theorem dX8_does_35 : decode cX8_does 35 = .ok (.bipush 9, 2) := by decide +kernel
theorem dX8_does_37 : decode cX8_does 37 = .ok (.if_icmp .ne 30, 3) := by decide +kernel
theorem dX8_does_40 : decode cX8_does 40 = .ok (.aload_n 0, 1) := by decide +kernel
theorem dX8_does_41 : decode cX8_does 41 = .ok (.getfield 40, 3) := by decide +kernel
theorem dX8_does_44 : decode cX8_does 44 = .ok (.iload_n 1, 1) := by decide +kernel
theorem dX8_does_45 : decode cX8_does 45 = .ok (.iaload, 1) := by decide +kernel
theorem dX8_does_46 : decode cX8_does 46 = .ok (.bipush (-9), 2) := by decide +kernel
theorem dX8_does_48 : decode cX8_does 48 = .ok (.if_icmp .eq 7, 3) := by decide +kernel
theorem dX8_does_51 : decode cX8_does 51 = .ok (.iconst 1, 1) := by decide +kernel
theorem dX8_does_52 : decode cX8_does 52 = .ok (.goto 4, 3) := by decide +kernel
theorem dX8_does_55 : decode cX8_does 55 = .ok (.iconst 0, 1) := by decide +kernel
theorem dX8_does_56 : decode cX8_does 56 = .ok (.istore_n 3, 1) := by decide +kernel
theorem dX8_does_57 : decode cX8_does 57 = .ok (.aload_n 0, 1) := by decide +kernel
theorem dX8_does_58 : decode cX8_does 58 = .ok (.getfield 40, 3) := by decide +kernel
theorem dX8_does_61 : decode cX8_does 61 = .ok (.iload_n 1, 1) := by decide +kernel
theorem dX8_does_62 : decode cX8_does 62 = .ok (.bipush (-9), 2) := by decide +kernel
theorem dX8_does_64 : decode cX8_does 64 = .ok (.iastore, 1) := by decide +kernel
theorem dX8_does_65 : decode cX8_does 65 = .ok (.iload_n 3, 1) := by decide +kernel
theorem dX8_does_66 : decode cX8_does 66 = .ok (.ireturn, 1) := by decide +kernel
theorem dX8_does_67 : decode cX8_does 67 = .ok (.aload_n 0, 1) := by decide +kernel
theorem dX8_does_68 : decode cX8_does 68 = .ok (.iload_n 1, 1) := by decide +kernel
theorem dX8_does_69 : decode cX8_does 69 = .ok (.iload_n 2, 1) := by decide +kernel
theorem dX8_does_70 : decode cX8_does 70 = .ok (.invokevirtual 177, 3) := by decide +kernel
theorem dX8_does_73 : decode cX8_does 73 = .ok (.ireturn, 1) := by decide +kernel
theorem dX8_goSeason_0 : decode cX8_goSeason 0 = .ok (.aload_n 0, 1) := by decide +kernel
theorem dX8_goSeason_1 : decode cX8_goSeason 1 = .ok (.iconst 0, 1) := by decide +kernel
theorem dX8_goSeason_2 : decode cX8_goSeason 2 = .ok (.putfield 184, 3) := by decide +kernel
theorem dX8_goSeason_5 : decode cX8_goSeason 5 = .ok (.iconst 0, 1) := by decide +kernel
theorem dX8_goSeason_6 : decode cX8_goSeason 6 = .ok (.istore_n 3, 1) := by decide +kernel
theorem dX8_goSeason_7 : decode cX8_goSeason 7 = .ok (.iload_n 3, 1) := by decide +kernel
theorem dX8_goSeason_8 : decode cX8_goSeason 8 = .ok (.iload_n 2, 1) := by decide +kernel
theorem dX8_goSeason_9 : decode cX8_goSeason 9 = .ok (.if_icmp .ge 40, 3) := by decide +kernel
theorem dX8_goSeason_12 : decode cX8_goSeason 12 = .ok (.aload_n 0, 1) := by decide +kernel
theorem dX8_goSeason_13 : decode cX8_goSeason 13 = .ok (.aload_n 0, 1) := by decide +kernel
theorem dX8_goSeason_14 : decode cX8_goSeason 14 = .ok (.getfield 16, 3) := by decide +kernel
theorem dX8_goSeason_17 : decode cX8_goSeason 17 = .ok (.iload_n 1, 1) := by decide +kernel
theorem dX8_goSeason_18 : decode cX8_goSeason 18 = .ok (.iconst 2, 1) := by decide +kernel
theorem dX8_goSeason_19 : decode cX8_goSeason 19 = .ok (.iload_n 3, 1) := by decide +kernel
theorem dX8_goSeason_20 : decode cX8_goSeason 20 = .ok (.imul, 1) := by decide +kernel
theorem dX8_goSeason_21 : decode cX8_goSeason 21 = .ok (.iadd, 1) := by decide +kernel
theorem dX8_goSeason_22 : decode cX8_goSeason 22 = .ok (.iaload, 1) := by decide +kernel
theorem dX8_goSeason_23 : decode cX8_goSeason 23 = .ok (.aload_n 0, 1) := by decide +kernel
theorem dX8_goSeason_24 : decode cX8_goSeason 24 = .ok (.getfield 16, 3) := by decide +kernel
theorem dX8_goSeason_27 : decode cX8_goSeason 27 = .ok (.iload_n 1, 1) := by decide +kernel
theorem dX8_goSeason_28 : decode cX8_goSeason 28 = .ok (.iconst 2, 1) := by decide +kernel
theorem dX8_goSeason_29 : decode cX8_goSeason 29 = .ok (.iload_n 3, 1) := by decide +kernel
theorem dX8_goSeason_30 : decode cX8_goSeason 30 = .ok (.imul, 1) := by decide +kernel
theorem dX8_goSeason_31 : decode cX8_goSeason 31 = .ok (.iadd, 1) := by decide +kernel
theorem dX8_goSeason_32 : decode cX8_goSeason 32 = .ok (.iconst 1, 1) := by decide +kernel
theorem dX8_goSeason_33 : decode cX8_goSeason 33 = .ok (.iadd, 1) := by decide +kernel
theorem dX8_goSeason_34 : decode cX8_goSeason 34 = .ok (.iaload, 1) := by decide +kernel
theorem dX8_goSeason_35 : decode cX8_goSeason 35 = .ok (.invokevirtual 187, 3) := by decide +kernel
theorem dX8_goSeason_38 : decode cX8_goSeason 38 = .ok (.ifCond .ne 5, 3) := by decide +kernel
theorem dX8_goSeason_41 : decode cX8_goSeason 41 = .ok (.iload_n 3, 1) := by decide +kernel
theorem dX8_goSeason_42 : decode cX8_goSeason 42 = .ok (.ireturn, 1) := by decide +kernel
theorem dX8_goSeason_43 : decode cX8_goSeason 43 = .ok (.iinc 3 1, 3) := by decide +kernel
theorem dX8_goSeason_46 : decode cX8_goSeason 46 = .ok (.goto (-39), 3) := by decide +kernel
theorem dX8_goSeason_49 : decode cX8_goSeason 49 = .ok (.bipush (-9), 2) := by decide +kernel
theorem dX8_goSeason_51 : decode cX8_goSeason 51 = .ok (.ireturn, 1) := by decide +kernel
theorem dX8_refusesPair_0 : decode cX8_refusesPair 0 = .ok (.aload_n 0, 1) := by decide +kernel
theorem dX8_refusesPair_1 : decode cX8_refusesPair 1 = .ok (.iload_n 2, 1) := by decide +kernel
theorem dX8_refusesPair_2 : decode cX8_refusesPair 2 = .ok (.invokevirtual 152, 3) := by decide +kernel
theorem dX8_refusesPair_5 : decode cX8_refusesPair 5 = .ok (.ifCond .ne 15, 3) := by decide +kernel
theorem dX8_refusesPair_8 : decode cX8_refusesPair 8 = .ok (.iload_n 2, 1) := by decide +kernel
theorem dX8_refusesPair_9 : decode cX8_refusesPair 9 = .ok (.bipush 8, 2) := by decide +kernel
theorem dX8_refusesPair_11 : decode cX8_refusesPair 11 = .ok (.if_icmp .eq 9, 3) := by decide +kernel
theorem dX8_refusesPair_14 : decode cX8_refusesPair 14 = .ok (.iload_n 2, 1) := by decide +kernel
theorem dX8_refusesPair_15 : decode cX8_refusesPair 15 = .ok (.bipush 9, 2) := by decide +kernel
theorem dX8_refusesPair_17 : decode cX8_refusesPair 17 = .ok (.if_icmp .ne 19, 3) := by decide +kernel
theorem dX8_refusesPair_20 : decode cX8_refusesPair 20 = .ok (.iload_n 2, 1) := by decide +kernel
theorem dX8_refusesPair_21 : decode cX8_refusesPair 21 = .ok (.bipush 8, 2) := by decide +kernel
theorem dX8_refusesPair_23 : decode cX8_refusesPair 23 = .ok (.if_icmp .ne 16, 3) := by decide +kernel
theorem dX8_refusesPair_26 : decode cX8_refusesPair 26 = .ok (.iload_n 1, 1) := by decide +kernel
theorem dX8_refusesPair_27 : decode cX8_refusesPair 27 = .ok (.iconst 0, 1) := by decide +kernel
theorem dX8_refusesPair_28 : decode cX8_refusesPair 28 = .ok (.bipush 9, 2) := by decide +kernel
theorem dX8_refusesPair_30 : decode cX8_refusesPair 30 = .ok (.invokestatic 88, 3) := by decide +kernel
theorem dX8_refusesPair_33 : decode cX8_refusesPair 33 = .ok (.ifCond .ne 6, 3) := by decide +kernel
theorem dX8_refusesPair_36 : decode cX8_refusesPair 36 = .ok (.bipush (-2), 2) := by decide +kernel
theorem dX8_refusesPair_38 : decode cX8_refusesPair 38 = .ok (.ireturn, 1) := by decide +kernel
theorem dX8_refusesPair_39 : decode cX8_refusesPair 39 = .ok (.iload_n 2, 1) := by decide +kernel
theorem dX8_refusesPair_40 : decode cX8_refusesPair 40 = .ok (.bipush 8, 2) := by decide +kernel
theorem dX8_refusesPair_42 : decode cX8_refusesPair 42 = .ok (.if_icmp .eq 15, 3) := by decide +kernel
theorem dX8_refusesPair_45 : decode cX8_refusesPair 45 = .ok (.aload_n 0, 1) := by decide +kernel
theorem dX8_refusesPair_46 : decode cX8_refusesPair 46 = .ok (.iload_n 1, 1) := by decide +kernel
theorem dX8_refusesPair_47 : decode cX8_refusesPair 47 = .ok (.invokevirtual 161, 3) := by decide +kernel
theorem dX8_refusesPair_50 : decode cX8_refusesPair 50 = .ok (.ifCond .ne 7, 3) := by decide +kernel
theorem dX8_refusesPair_53 : decode cX8_refusesPair 53 = .ok (.iconst (-1), 1) := by decide +kernel
theorem dX8_refusesPair_54 : decode cX8_refusesPair 54 = .ok (.goto 4, 3) := by decide +kernel
theorem dX8_refusesPair_57 : decode cX8_refusesPair 57 = .ok (.iconst 0, 1) := by decide +kernel
theorem dX8_refusesPair_58 : decode cX8_refusesPair 58 = .ok (.ireturn, 1) := by decide +kernel
theorem dX8_season_0 : decode cX8_season 0 = .ok (.aload_n 0, 1) := by decide +kernel
theorem dX8_season_1 : decode cX8_season 1 = .ok (.iconst 0, 1) := by decide +kernel
theorem dX8_season_2 : decode cX8_season 2 = .ok (.putfield 82, 3) := by decide +kernel
theorem dX8_season_5 : decode cX8_season 5 = .ok (.iload_n 1, 1) := by decide +kernel
theorem dX8_season_6 : decode cX8_season 6 = .ok (.invokestatic 101, 3) := by decide +kernel
theorem dX8_season_9 : decode cX8_season 9 = .ok (.ifCond .ne 5, 3) := by decide +kernel
theorem dX8_season_12 : decode cX8_season 12 = .ok (.iconst (-1), 1) := by decide +kernel
theorem dX8_season_13 : decode cX8_season 13 = .ok (.ireturn, 1) := by decide +kernel
theorem dX8_season_14 : decode cX8_season 14 = .ok (.iload_n 2, 1) := by decide +kernel
theorem dX8_season_15 : decode cX8_season 15 = .ok (.invokestatic 105, 3) := by decide +kernel
theorem dX8_season_18 : decode cX8_season 18 = .ok (.ifCond .eq 48, 3) := by decide +kernel
theorem dX8_season_21 : decode cX8_season 21 = .ok (.iload 4, 2) := by decide +kernel
theorem dX8_season_23 : decode cX8_season 23 = .ok (.iconst 0, 1) := by decide +kernel
theorem dX8_season_24 : decode cX8_season 24 = .ok (.bipush 20, 2) := by decide +kernel
theorem dX8_season_26 : decode cX8_season 26 = .ok (.invokestatic 88, 3) := by decide +kernel
theorem dX8_season_29 : decode cX8_season 29 = .ok (.ifCond .eq 37, 3) := by decide +kernel
theorem dX8_season_32 : decode cX8_season 32 = .ok (.iload 5, 2) := by decide +kernel
theorem dX8_season_34 : decode cX8_season 34 = .ok (.iconst 0, 1) := by decide +kernel
theorem dX8_season_35 : decode cX8_season 35 = .ok (.iconst 3, 1) := by decide +kernel
theorem dX8_season_36 : decode cX8_season 36 = .ok (.invokestatic 88, 3) := by decide +kernel
theorem dX8_season_39 : decode cX8_season 39 = .ok (.ifCond .ne 30, 3) := by decide +kernel
theorem dX8_season_42 : decode cX8_season 42 = .ok (.iload 5, 2) := by decide +kernel
theorem dX8_season_44 : decode cX8_season 44 = .ok (.bipush 10, 2) := by decide +kernel
theorem dX8_season_46 : decode cX8_season 46 = .ok (.bipush 14, 2) := by decide +kernel
theorem dX8_season_48 : decode cX8_season 48 = .ok (.invokestatic 88, 3) := by decide +kernel
theorem dX8_season_51 : decode cX8_season 51 = .ok (.ifCond .ne 18, 3) := by decide +kernel
theorem dX8_season_54 : decode cX8_season 54 = .ok (.iload 5, 2) := by decide +kernel
theorem dX8_season_56 : decode cX8_season 56 = .ok (.bipush 20, 2) := by decide +kernel
theorem dX8_season_58 : decode cX8_season 58 = .ok (.bipush 24, 2) := by decide +kernel
theorem dX8_season_60 : decode cX8_season 60 = .ok (.invokestatic 88, 3) := by decide +kernel
theorem dX8_season_63 : decode cX8_season 63 = .ok (.ifCond .ne 6, 3) := by decide +kernel
theorem dX8_season_66 : decode cX8_season 66 = .ok (.bipush (-2), 2) := by decide +kernel
theorem dX8_season_68 : decode cX8_season 68 = .ok (.ireturn, 1) := by decide +kernel
theorem dX8_season_69 : decode cX8_season 69 = .ok (.aload_n 0, 1) := by decide +kernel
theorem dX8_season_70 : decode cX8_season 70 = .ok (.iload_n 1, 1) := by decide +kernel
theorem dX8_season_71 : decode cX8_season 71 = .ok (.iload_n 2, 1) := by decide +kernel
theorem dX8_season_72 : decode cX8_season 72 = .ok (.iload_n 3, 1) := by decide +kernel
theorem dX8_season_73 : decode cX8_season 73 = .ok (.iconst 2, 1) := by decide +kernel
theorem dX8_season_74 : decode cX8_season 74 = .ok (.iload 4, 2) := by decide +kernel
theorem dX8_season_76 : decode cX8_season 76 = .ok (.imul, 1) := by decide +kernel
theorem dX8_season_77 : decode cX8_season 77 = .ok (.invokevirtual 108, 3) := by decide +kernel
theorem dX8_season_80 : decode cX8_season 80 = .ok (.istore 6, 2) := by decide +kernel
theorem dX8_season_82 : decode cX8_season 82 = .ok (.iload 6, 2) := by decide +kernel
theorem dX8_season_84 : decode cX8_season 84 = .ok (.ifCond .eq 10, 3) := by decide +kernel
theorem dX8_season_87 : decode cX8_season 87 = .ok (.aload_n 0, 1) := by decide +kernel
theorem dX8_season_88 : decode cX8_season 88 = .ok (.iload 6, 2) := by decide +kernel
theorem dX8_season_90 : decode cX8_season 90 = .ok (.invokevirtual 112, 3) := by decide +kernel
theorem dX8_season_93 : decode cX8_season 93 = .ok (.ireturn, 1) := by decide +kernel
theorem dX8_season_94 : decode cX8_season 94 = .ok (.aload_n 0, 1) := by decide +kernel
theorem dX8_season_95 : decode cX8_season 95 = .ok (.getfield 92, 3) := by decide +kernel
theorem dX8_season_98 : decode cX8_season 98 = .ok (.ifCond .ne 6, 3) := by decide +kernel
theorem dX8_season_101 : decode cX8_season 101 = .ok (.bipush (-3), 2) := by decide +kernel
theorem dX8_season_103 : decode cX8_season 103 = .ok (.ireturn, 1) := by decide +kernel
theorem dX8_season_104 : decode cX8_season 104 = .ok (.bipush 60, 2) := by decide +kernel
theorem dX8_season_106 : decode cX8_season 106 = .ok (.iload_n 1, 1) := by decide +kernel
theorem dX8_season_107 : decode cX8_season 107 = .ok (.imul, 1) := by decide +kernel
