theorem dX2_init_0 : decode cX2_init 0 = .ok (.aload_n 0, 1) := by decide +kernel
theorem dX2_init_1 : decode cX2_init 1 = .ok (.invokespecial 3, 3) := by decide +kernel
theorem dX2_init_4 : decode cX2_init 4 = .ok (.aload_n 0, 1) := by decide +kernel
theorem dX2_init_5 : decode cX2_init 5 = .ok (.iconst 5, 1) := by decide +kernel
theorem dX2_init_6 : decode cX2_init 6 = .ok (.newarray .int, 2) := by decide +kernel
theorem dX2_init_8 : decode cX2_init 8 = .ok (.putfield 9, 3) := by decide +kernel
theorem dX2_init_11 : decode cX2_init 11 = .ok (.aload_n 0, 1) := by decide +kernel
theorem dX2_init_12 : decode cX2_init 12 = .ok (.iconst 5, 1) := by decide +kernel
theorem dX2_init_13 : decode cX2_init 13 = .ok (.newarray .int, 2) := by decide +kernel
theorem dX2_init_15 : decode cX2_init 15 = .ok (.putfield 15, 3) := by decide +kernel
theorem dX2_init_18 : decode cX2_init 18 = .ok (.aload_n 0, 1) := by decide +kernel
theorem dX2_init_19 : decode cX2_init 19 = .ok (.iconst 5, 1) := by decide +kernel
theorem dX2_init_20 : decode cX2_init 20 = .ok (.newarray .int, 2) := by decide +kernel
theorem dX2_init_22 : decode cX2_init 22 = .ok (.putfield 18, 3) := by decide +kernel
theorem dX2_init_25 : decode cX2_init 25 = .ok (.aload_n 0, 1) := by decide +kernel
theorem dX2_init_26 : decode cX2_init 26 = .ok (.iconst 5, 1) := by decide +kernel
theorem dX2_init_27 : decode cX2_init 27 = .ok (.newarray .int, 2) := by decide +kernel
theorem dX2_init_29 : decode cX2_init 29 = .ok (.putfield 21, 3) := by decide +kernel
theorem dX2_init_32 : decode cX2_init 32 = .ok (.aload_n 0, 1) := by decide +kernel
theorem dX2_init_33 : decode cX2_init 33 = .ok (.iconst 5, 1) := by decide +kernel
theorem dX2_init_34 : decode cX2_init 34 = .ok (.newarray .int, 2) := by decide +kernel
theorem dX2_init_36 : decode cX2_init 36 = .ok (.putfield 24, 3) := by decide +kernel
theorem dX2_init_39 : decode cX2_init 39 = .ok (.return_, 1) := by decide +kernel
theorem dX2_load_0 : decode cX2_load 0 = .ok (.iconst 0, 1) := by decide +kernel
theorem dX2_load_1 : decode cX2_load 1 = .ok (.istore 5, 2) := by decide +kernel
theorem dX2_load_3 : decode cX2_load 3 = .ok (.iload 5, 2) := by decide +kernel
theorem dX2_load_5 : decode cX2_load 5 = .ok (.iload 4, 2) := by decide +kernel
theorem dX2_load_7 : decode cX2_load 7 = .ok (.if_icmp .ge 31, 3) := by decide +kernel
theorem dX2_load_10 : decode cX2_load 10 = .ok (.iload 5, 2) := by decide +kernel
theorem dX2_load_12 : decode cX2_load 12 = .ok (.iconst 5, 1) := by decide +kernel
theorem dX2_load_13 : decode cX2_load 13 = .ok (.if_icmp .ge 25, 3) := by decide +kernel
theorem dX2_load_16 : decode cX2_load 16 = .ok (.aload_n 0, 1) := by decide +kernel
theorem dX2_load_17 : decode cX2_load 17 = .ok (.getfield 9, 3) := by decide +kernel
theorem dX2_load_20 : decode cX2_load 20 = .ok (.iload 5, 2) := by decide +kernel
theorem dX2_load_22 : decode cX2_load 22 = .ok (.aload_n 1, 1) := by decide +kernel
theorem dX2_load_23 : decode cX2_load 23 = .ok (.iload_n 2, 1) := by decide +kernel
theorem dX2_load_24 : decode cX2_load 24 = .ok (.iload_n 3, 1) := by decide +kernel
theorem dX2_load_25 : decode cX2_load 25 = .ok (.iload 5, 2) := by decide +kernel
theorem dX2_load_27 : decode cX2_load 27 = .ok (.iadd, 1) := by decide +kernel
theorem dX2_load_28 : decode cX2_load 28 = .ok (.invokevirtual 27, 3) := by decide +kernel
theorem dX2_load_31 : decode cX2_load 31 = .ok (.iastore, 1) := by decide +kernel
theorem dX2_load_32 : decode cX2_load 32 = .ok (.iinc 5 1, 3) := by decide +kernel
theorem dX2_load_35 : decode cX2_load 35 = .ok (.goto (-32), 3) := by decide +kernel
theorem dX2_load_38 : decode cX2_load 38 = .ok (.return_, 1) := by decide +kernel
theorem dX2_search_0 : decode cX2_search 0 = .ok (.iconst 0, 1) := by decide +kernel
theorem dX2_search_1 : decode cX2_search 1 = .ok (.istore_n 3, 1) := by decide +kernel
theorem dX2_search_2 : decode cX2_search 2 = .ok (.iload_n 3, 1) := by decide +kernel
theorem dX2_search_3 : decode cX2_search 3 = .ok (.aload_n 1, 1) := by decide +kernel
theorem dX2_search_4 : decode cX2_search 4 = .ok (.getfield 33, 3) := by decide +kernel
theorem dX2_search_7 : decode cX2_search 7 = .ok (.if_icmp .ge 30, 3) := by decide +kernel
theorem dX2_search_10 : decode cX2_search 10 = .ok (.aload_n 0, 1) := by decide +kernel
theorem dX2_search_11 : decode cX2_search 11 = .ok (.getfield 21, 3) := by decide +kernel
theorem dX2_search_14 : decode cX2_search 14 = .ok (.iload_n 3, 1) := by decide +kernel
theorem dX2_search_15 : decode cX2_search 15 = .ok (.aload_n 1, 1) := by decide +kernel
theorem dX2_search_16 : decode cX2_search 16 = .ok (.iload_n 3, 1) := by decide +kernel
theorem dX2_search_17 : decode cX2_search 17 = .ok (.invokevirtual 39, 3) := by decide +kernel
theorem dX2_search_20 : decode cX2_search 20 = .ok (.iastore, 1) := by decide +kernel
theorem dX2_search_21 : decode cX2_search 21 = .ok (.aload_n 0, 1) := by decide +kernel
theorem dX2_search_22 : decode cX2_search 22 = .ok (.getfield 24, 3) := by decide +kernel
theorem dX2_search_25 : decode cX2_search 25 = .ok (.iload_n 3, 1) := by decide +kernel
theorem dX2_search_26 : decode cX2_search 26 = .ok (.bipush 10, 2) := by decide +kernel
theorem dX2_search_28 : decode cX2_search 28 = .ok (.iload_n 3, 1) := by decide +kernel
theorem dX2_search_29 : decode cX2_search 29 = .ok (.iadd, 1) := by decide +kernel
theorem dX2_search_30 : decode cX2_search 30 = .ok (.iastore, 1) := by decide +kernel
theorem dX2_search_31 : decode cX2_search 31 = .ok (.iinc 3 1, 3) := by decide +kernel
theorem dX2_search_34 : decode cX2_search 34 = .ok (.goto (-32), 3) := by decide +kernel
theorem dX2_search_37 : decode cX2_search 37 = .ok (.aload_n 0, 1) := by decide +kernel
theorem dX2_search_38 : decode cX2_search 38 = .ok (.iconst 0, 1) := by decide +kernel
theorem dX2_search_39 : decode cX2_search 39 = .ok (.putfield 43, 3) := by decide +kernel
theorem dX2_search_42 : decode cX2_search 42 = .ok (.aload_n 0, 1) := by decide +kernel
theorem dX2_search_43 : decode cX2_search 43 = .ok (.iload_n 2, 1) := by decide +kernel
theorem dX2_search_44 : decode cX2_search 44 = .ok (.putfield 46, 3) := by decide +kernel
theorem dX2_search_47 : decode cX2_search 47 = .ok (.aload_n 0, 1) := by decide +kernel
theorem dX2_search_48 : decode cX2_search 48 = .ok (.aload_n 1, 1) := by decide +kernel
theorem dX2_search_49 : decode cX2_search 49 = .ok (.iconst 0, 1) := by decide +kernel
theorem dX2_search_50 : decode cX2_search 50 = .ok (.invokevirtual 50, 3) := by decide +kernel
theorem dX2_search_53 : decode cX2_search 53 = .ok (.return_, 1) := by decide +kernel
theorem dX2_lay_0 : decode cX2_lay 0 = .ok (.aload_n 0, 1) := by decide +kernel
theorem dX2_lay_1 : decode cX2_lay 1 = .ok (.getfield 46, 3) := by decide +kernel
theorem dX2_lay_4 : decode cX2_lay 4 = .ok (.ifCond .eq 11, 3) := by decide +kernel
theorem dX2_lay_7 : decode cX2_lay 7 = .ok (.aload_n 0, 1) := by decide +kernel
theorem dX2_lay_8 : decode cX2_lay 8 = .ok (.getfield 43, 3) := by decide +kernel
theorem dX2_lay_11 : decode cX2_lay 11 = .ok (.ifCond .le 4, 3) := by decide +kernel
theorem dX2_lay_14 : decode cX2_lay 14 = .ok (.return_, 1) := by decide +kernel
theorem dX2_lay_15 : decode cX2_lay 15 = .ok (.aload_n 1, 1) := by decide +kernel
theorem dX2_lay_16 : decode cX2_lay 16 = .ok (.iload_n 2, 1) := by decide +kernel
theorem dX2_lay_17 : decode cX2_lay 17 = .ok (.invokevirtual 54, 3) := by decide +kernel
theorem dX2_lay_20 : decode cX2_lay 20 = .ok (.ifCond .ne 12, 3) := by decide +kernel
theorem dX2_lay_23 : decode cX2_lay 23 = .ok (.aload_n 0, 1) := by decide +kernel
theorem dX2_lay_24 : decode cX2_lay 24 = .ok (.aload_n 1, 1) := by decide +kernel
theorem dX2_lay_25 : decode cX2_lay 25 = .ok (.getfield 58, 3) := by decide +kernel
theorem dX2_lay_28 : decode cX2_lay 28 = .ok (.invokevirtual 61, 3) := by decide +kernel
theorem dX2_lay_31 : decode cX2_lay 31 = .ok (.return_, 1) := by decide +kernel
theorem dX2_lay_32 : decode cX2_lay 32 = .ok (.iconst 0, 1) := by decide +kernel
theorem dX2_lay_33 : decode cX2_lay 33 = .ok (.istore_n 3, 1) := by decide +kernel
theorem dX2_lay_34 : decode cX2_lay 34 = .ok (.iload_n 3, 1) := by decide +kernel
theorem dX2_lay_35 : decode cX2_lay 35 = .ok (.aload_n 1, 1) := by decide +kernel
theorem dX2_lay_36 : decode cX2_lay 36 = .ok (.getfield 33, 3) := by decide +kernel
theorem dX2_lay_39 : decode cX2_lay 39 = .ok (.if_icmp .ge 39, 3) := by decide +kernel
theorem dX2_lay_42 : decode cX2_lay 42 = .ok (.aload_n 0, 1) := by decide +kernel
theorem dX2_lay_43 : decode cX2_lay 43 = .ok (.getfield 21, 3) := by decide +kernel
theorem dX2_lay_46 : decode cX2_lay 46 = .ok (.iload_n 3, 1) := by decide +kernel
theorem dX2_lay_47 : decode cX2_lay 47 = .ok (.iaload, 1) := by decide +kernel
theorem dX2_lay_48 : decode cX2_lay 48 = .ok (.ifCond .le 24, 3) := by decide +kernel
theorem dX2_lay_51 : decode cX2_lay 51 = .ok (.aload_n 0, 1) := by decide +kernel
theorem dX2_lay_52 : decode cX2_lay 52 = .ok (.iload_n 2, 1) := by decide +kernel
theorem dX2_lay_53 : decode cX2_lay 53 = .ok (.aload_n 0, 1) := by decide +kernel
theorem dX2_lay_54 : decode cX2_lay 54 = .ok (.getfield 24, 3) := by decide +kernel
theorem dX2_lay_57 : decode cX2_lay 57 = .ok (.iload_n 3, 1) := by decide +kernel
theorem dX2_lay_58 : decode cX2_lay 58 = .ok (.iaload, 1) := by decide +kernel
theorem dX2_lay_59 : decode cX2_lay 59 = .ok (.invokevirtual 65, 3) := by decide +kernel
theorem dX2_lay_62 : decode cX2_lay 62 = .ok (.ifCond .eq 10, 3) := by decide +kernel
theorem dX2_lay_65 : decode cX2_lay 65 = .ok (.aload_n 0, 1) := by decide +kernel
theorem dX2_lay_66 : decode cX2_lay 66 = .ok (.aload_n 1, 1) := by decide +kernel
theorem dX2_lay_67 : decode cX2_lay 67 = .ok (.iload_n 2, 1) := by decide +kernel
theorem dX2_lay_68 : decode cX2_lay 68 = .ok (.iload_n 3, 1) := by decide +kernel
theorem dX2_lay_69 : decode cX2_lay 69 = .ok (.invokevirtual 69, 3) := by decide +kernel
theorem dX2_lay_72 : decode cX2_lay 72 = .ok (.iinc 3 1, 3) := by decide +kernel
theorem dX2_lay_75 : decode cX2_lay 75 = .ok (.goto (-41), 3) := by decide +kernel
theorem dX2_lay_78 : decode cX2_lay 78 = .ok (.aload_n 0, 1) := by decide +kernel
theorem dX2_lay_79 : decode cX2_lay 79 = .ok (.iload_n 2, 1) := by decide +kernel
theorem dX2_lay_80 : decode cX2_lay 80 = .ok (.bipush 99, 2) := by decide +kernel
theorem dX2_lay_82 : decode cX2_lay 82 = .ok (.invokevirtual 65, 3) := by decide +kernel
theorem dX2_lay_85 : decode cX2_lay 85 = .ok (.ifCond .eq 21, 3) := by decide +kernel
theorem dX2_lay_88 : decode cX2_lay 88 = .ok (.aload_n 0, 1) := by decide +kernel
theorem dX2_lay_89 : decode cX2_lay 89 = .ok (.getfield 15, 3) := by decide +kernel
theorem dX2_lay_92 : decode cX2_lay 92 = .ok (.iload_n 2, 1) := by decide +kernel
theorem dX2_lay_93 : decode cX2_lay 93 = .ok (.aload_n 1, 1) := by decide +kernel
theorem dX2_lay_94 : decode cX2_lay 94 = .ok (.getfield 33, 3) := by decide +kernel
theorem dX2_lay_97 : decode cX2_lay 97 = .ok (.iastore, 1) := by decide +kernel
theorem dX2_lay_98 : decode cX2_lay 98 = .ok (.aload_n 0, 1) := by decide +kernel
theorem dX2_lay_99 : decode cX2_lay 99 = .ok (.aload_n 1, 1) := by decide +kernel
theorem dX2_lay_100 : decode cX2_lay 100 = .ok (.iload_n 2, 1) := by decide +kernel
theorem dX2_lay_101 : decode cX2_lay 101 = .ok (.iconst 1, 1) := by decide +kernel
theorem dX2_lay_102 : decode cX2_lay 102 = .ok (.iadd, 1) := by decide +kernel
theorem dX2_lay_103 : decode cX2_lay 103 = .ok (.invokevirtual 50, 3) := by decide +kernel
theorem dX2_lay_106 : decode cX2_lay 106 = .ok (.return_, 1) := by decide +kernel
theorem dX2_layIn_0 : decode cX2_layIn 0 = .ok (.aload_n 0, 1) := by decide +kernel
theorem dX2_layIn_1 : decode cX2_layIn 1 = .ok (.getfield 24, 3) := by decide +kernel
theorem dX2_layIn_4 : decode cX2_layIn 4 = .ok (.iload_n 3, 1) := by decide +kernel
theorem dX2_layIn_5 : decode cX2_layIn 5 = .ok (.iaload, 1) := by decide +kernel
theorem dX2_layIn_6 : decode cX2_layIn 6 = .ok (.istore 4, 2) := by decide +kernel
theorem dX2_layIn_8 : decode cX2_layIn 8 = .ok (.aload_n 0, 1) := by decide +kernel
theorem dX2_layIn_9 : decode cX2_layIn 9 = .ok (.getfield 21, 3) := by decide +kernel
theorem dX2_layIn_12 : decode cX2_layIn 12 = .ok (.iload_n 3, 1) := by decide +kernel
theorem dX2_layIn_13 : decode cX2_layIn 13 = .ok (.dup2, 1) := by decide +kernel
theorem dX2_layIn_14 : decode cX2_layIn 14 = .ok (.iaload, 1) := by decide +kernel
theorem dX2_layIn_15 : decode cX2_layIn 15 = .ok (.iconst 1, 1) := by decide +kernel
theorem dX2_layIn_16 : decode cX2_layIn 16 = .ok (.isub, 1) := by decide +kernel
theorem dX2_layIn_17 : decode cX2_layIn 17 = .ok (.iastore, 1) := by decide +kernel
theorem dX2_layIn_18 : decode cX2_layIn 18 = .ok (.aload_n 0, 1) := by decide +kernel
theorem dX2_layIn_19 : decode cX2_layIn 19 = .ok (.getfield 24, 3) := by decide +kernel
theorem dX2_layIn_22 : decode cX2_layIn 22 = .ok (.iload_n 3, 1) := by decide +kernel
theorem dX2_layIn_23 : decode cX2_layIn 23 = .ok (.iload_n 2, 1) := by decide +kernel
theorem dX2_layIn_24 : decode cX2_layIn 24 = .ok (.iastore, 1) := by decide +kernel
theorem dX2_layIn_25 : decode cX2_layIn 25 = .ok (.aload_n 0, 1) := by decide +kernel
theorem dX2_layIn_26 : decode cX2_layIn 26 = .ok (.getfield 15, 3) := by decide +kernel
theorem dX2_layIn_29 : decode cX2_layIn 29 = .ok (.iload_n 2, 1) := by decide +kernel
theorem dX2_layIn_30 : decode cX2_layIn 30 = .ok (.iload_n 3, 1) := by decide +kernel
theorem dX2_layIn_31 : decode cX2_layIn 31 = .ok (.iastore, 1) := by decide +kernel
theorem dX2_layIn_32 : decode cX2_layIn 32 = .ok (.aload_n 0, 1) := by decide +kernel
theorem dX2_layIn_33 : decode cX2_layIn 33 = .ok (.aload_n 1, 1) := by decide +kernel
theorem dX2_layIn_34 : decode cX2_layIn 34 = .ok (.iload_n 2, 1) := by decide +kernel
theorem dX2_layIn_35 : decode cX2_layIn 35 = .ok (.iconst 1, 1) := by decide +kernel
theorem dX2_layIn_36 : decode cX2_layIn 36 = .ok (.iadd, 1) := by decide +kernel
theorem dX2_layIn_37 : decode cX2_layIn 37 = .ok (.invokevirtual 50, 3) := by decide +kernel
theorem dX2_layIn_40 : decode cX2_layIn 40 = .ok (.aload_n 0, 1) := by decide +kernel
theorem dX2_layIn_41 : decode cX2_layIn 41 = .ok (.getfield 24, 3) := by decide +kernel
theorem dX2_layIn_44 : decode cX2_layIn 44 = .ok (.iload_n 3, 1) := by decide +kernel
theorem dX2_layIn_45 : decode cX2_layIn 45 = .ok (.iload 4, 2) := by decide +kernel
theorem dX2_layIn_47 : decode cX2_layIn 47 = .ok (.iastore, 1) := by decide +kernel
theorem dX2_layIn_48 : decode cX2_layIn 48 = .ok (.aload_n 0, 1) := by decide +kernel
theorem dX2_layIn_49 : decode cX2_layIn 49 = .ok (.getfield 21, 3) := by decide +kernel
theorem dX2_layIn_52 : decode cX2_layIn 52 = .ok (.iload_n 3, 1) := by decide +kernel
theorem dX2_layIn_53 : decode cX2_layIn 53 = .ok (.dup2, 1) := by decide +kernel
theorem dX2_layIn_54 : decode cX2_layIn 54 = .ok (.iaload, 1) := by decide +kernel
theorem dX2_layIn_55 : decode cX2_layIn 55 = .ok (.iconst 1, 1) := by decide +kernel
theorem dX2_layIn_56 : decode cX2_layIn 56 = .ok (.iadd, 1) := by decide +kernel
theorem dX2_layIn_57 : decode cX2_layIn 57 = .ok (.iastore, 1) := by decide +kernel
theorem dX2_layIn_58 : decode cX2_layIn 58 = .ok (.return_, 1) := by decide +kernel
theorem dX2_isTold_0 : decode cX2_isTold 0 = .ok (.aload_n 0, 1) := by decide +kernel
theorem dX2_isTold_1 : decode cX2_isTold 1 = .ok (.getfield 9, 3) := by decide +kernel
theorem dX2_isTold_4 : decode cX2_isTold 4 = .ok (.iload_n 1, 1) := by decide +kernel
theorem dX2_isTold_5 : decode cX2_isTold 5 = .ok (.iaload, 1) := by decide +kernel
theorem dX2_isTold_6 : decode cX2_isTold 6 = .ok (.bipush (-9), 2) := by decide +kernel
theorem dX2_isTold_8 : decode cX2_isTold 8 = .ok (.if_icmp .eq 13, 3) := by decide +kernel
theorem dX2_isTold_11 : decode cX2_isTold 11 = .ok (.aload_n 0, 1) := by decide +kernel
theorem dX2_isTold_12 : decode cX2_isTold 12 = .ok (.getfield 9, 3) := by decide +kernel
theorem dX2_isTold_15 : decode cX2_isTold 15 = .ok (.iload_n 1, 1) := by decide +kernel
theorem dX2_isTold_16 : decode cX2_isTold 16 = .ok (.iaload, 1) := by decide +kernel
theorem dX2_isTold_17 : decode cX2_isTold 17 = .ok (.iload_n 2, 1) := by decide +kernel
theorem dX2_isTold_18 : decode cX2_isTold 18 = .ok (.if_icmp .ne 7, 3) := by decide +kernel
theorem dX2_isTold_21 : decode cX2_isTold 21 = .ok (.iconst 1, 1) := by decide +kernel
theorem dX2_isTold_22 : decode cX2_isTold 22 = .ok (.goto 4, 3) := by decide +kernel
theorem dX2_isTold_25 : decode cX2_isTold 25 = .ok (.iconst 0, 1) := by decide +kernel
theorem dX2_isTold_26 : decode cX2_isTold 26 = .ok (.ireturn, 1) := by decide +kernel
theorem dX2_keep_0 : decode cX2_keep 0 = .ok (.aload_n 0, 1) := by decide +kernel
theorem dX2_keep_1 : decode cX2_keep 1 = .ok (.getfield 43, 3) := by decide +kernel
theorem dX2_keep_4 : decode cX2_keep 4 = .ok (.ifCond .ne 28, 3) := by decide +kernel
theorem dX2_keep_7 : decode cX2_keep 7 = .ok (.iconst 0, 1) := by decide +kernel
theorem dX2_keep_8 : decode cX2_keep 8 = .ok (.istore_n 2, 1) := by decide +kernel
theorem dX2_keep_9 : decode cX2_keep 9 = .ok (.iload_n 2, 1) := by decide +kernel
theorem dX2_keep_10 : decode cX2_keep 10 = .ok (.iload_n 1, 1) := by decide +kernel
theorem dX2_keep_11 : decode cX2_keep 11 = .ok (.if_icmp .ge 21, 3) := by decide +kernel
theorem dX2_keep_14 : decode cX2_keep 14 = .ok (.aload_n 0, 1) := by decide +kernel
theorem dX2_keep_15 : decode cX2_keep 15 = .ok (.getfield 18, 3) := by decide +kernel
theorem dX2_keep_18 : decode cX2_keep 18 = .ok (.iload_n 2, 1) := by decide +kernel
theorem dX2_keep_19 : decode cX2_keep 19 = .ok (.aload_n 0, 1) := by decide +kernel
theorem dX2_keep_20 : decode cX2_keep 20 = .ok (.getfield 15, 3) := by decide +kernel
theorem dX2_keep_23 : decode cX2_keep 23 = .ok (.iload_n 2, 1) := by decide +kernel
theorem dX2_keep_24 : decode cX2_keep 24 = .ok (.iaload, 1) := by decide +kernel
theorem dX2_keep_25 : decode cX2_keep 25 = .ok (.iastore, 1) := by decide +kernel
theorem dX2_keep_26 : decode cX2_keep 26 = .ok (.iinc 2 1, 3) := by decide +kernel
theorem dX2_keep_29 : decode cX2_keep 29 = .ok (.goto (-20), 3) := by decide +kernel
theorem dX2_keep_32 : decode cX2_keep 32 = .ok (.aload_n 0, 1) := by decide +kernel
theorem dX2_keep_33 : decode cX2_keep 33 = .ok (.dup, 1) := by decide +kernel
theorem dX2_keep_34 : decode cX2_keep 34 = .ok (.getfield 43, 3) := by decide +kernel
theorem dX2_keep_37 : decode cX2_keep 37 = .ok (.iconst 1, 1) := by decide +kernel
theorem dX2_keep_38 : decode cX2_keep 38 = .ok (.iadd, 1) := by decide +kernel
theorem dX2_keep_39 : decode cX2_keep 39 = .ok (.putfield 43, 3) := by decide +kernel
theorem dX2_keep_42 : decode cX2_keep 42 = .ok (.return_, 1) := by decide +kernel
