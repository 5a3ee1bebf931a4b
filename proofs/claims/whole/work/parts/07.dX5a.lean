theorem dX5_init_0 : decode cX5_init 0 = .ok (.aload_n 0, 1) := by decide +kernel
theorem dX5_init_1 : decode cX5_init 1 = .ok (.invokespecial 3, 3) := by decide +kernel
theorem dX5_init_4 : decode cX5_init 4 = .ok (.aload_n 0, 1) := by decide +kernel
theorem dX5_init_5 : decode cX5_init 5 = .ok (.iconst 4, 1) := by decide +kernel
theorem dX5_init_6 : decode cX5_init 6 = .ok (.newarray .int, 2) := by decide +kernel
theorem dX5_init_8 : decode cX5_init 8 = .ok (.dup, 1) := by decide +kernel
theorem dX5_init_9 : decode cX5_init 9 = .ok (.iconst 0, 1) := by decide +kernel
theorem dX5_init_10 : decode cX5_init 10 = .ok (.iconst (-1), 1) := by decide +kernel
theorem dX5_init_11 : decode cX5_init 11 = .ok (.iastore, 1) := by decide +kernel
theorem dX5_init_12 : decode cX5_init 12 = .ok (.dup, 1) := by decide +kernel
theorem dX5_init_13 : decode cX5_init 13 = .ok (.iconst 1, 1) := by decide +kernel
theorem dX5_init_14 : decode cX5_init 14 = .ok (.iconst (-1), 1) := by decide +kernel
theorem dX5_init_15 : decode cX5_init 15 = .ok (.iastore, 1) := by decide +kernel
theorem dX5_init_16 : decode cX5_init 16 = .ok (.dup, 1) := by decide +kernel
theorem dX5_init_17 : decode cX5_init 17 = .ok (.iconst 2, 1) := by decide +kernel
theorem dX5_init_18 : decode cX5_init 18 = .ok (.iconst (-1), 1) := by decide +kernel
theorem dX5_init_19 : decode cX5_init 19 = .ok (.iastore, 1) := by decide +kernel
theorem dX5_init_20 : decode cX5_init 20 = .ok (.dup, 1) := by decide +kernel
theorem dX5_init_21 : decode cX5_init 21 = .ok (.iconst 3, 1) := by decide +kernel
theorem dX5_init_22 : decode cX5_init 22 = .ok (.iconst (-1), 1) := by decide +kernel
theorem dX5_init_23 : decode cX5_init 23 = .ok (.iastore, 1) := by decide +kernel
theorem dX5_init_24 : decode cX5_init 24 = .ok (.putfield 11, 3) := by decide +kernel
theorem dX5_init_27 : decode cX5_init 27 = .ok (.aload_n 0, 1) := by decide +kernel
theorem dX5_init_28 : decode cX5_init 28 = .ok (.iconst 4, 1) := by decide +kernel
theorem dX5_init_29 : decode cX5_init 29 = .ok (.newarray .int, 2) := by decide +kernel
theorem dX5_init_31 : decode cX5_init 31 = .ok (.putfield 15, 3) := by decide +kernel
theorem dX5_init_34 : decode cX5_init 34 = .ok (.aload_n 0, 1) := by decide +kernel
theorem dX5_init_35 : decode cX5_init 35 = .ok (.sipush 240, 3) := by decide +kernel
theorem dX5_init_38 : decode cX5_init 38 = .ok (.newarray .int, 2) := by decide +kernel
theorem dX5_init_40 : decode cX5_init 40 = .ok (.putfield 18, 3) := by decide +kernel
theorem dX5_init_43 : decode cX5_init 43 = .ok (.return_, 1) := by decide +kernel
theorem dX5_isSheet_0 : decode cX5_isSheet 0 = .ok (.iload_n 0, 1) := by decide +kernel
theorem dX5_isSheet_1 : decode cX5_isSheet 1 = .ok (.ifCond .lt 12, 3) := by decide +kernel
theorem dX5_isSheet_4 : decode cX5_isSheet 4 = .ok (.iload_n 0, 1) := by decide +kernel
theorem dX5_isSheet_5 : decode cX5_isSheet 5 = .ok (.iconst 4, 1) := by decide +kernel
theorem dX5_isSheet_6 : decode cX5_isSheet 6 = .ok (.if_icmp .ge 7, 3) := by decide +kernel
theorem dX5_isSheet_9 : decode cX5_isSheet 9 = .ok (.iconst 1, 1) := by decide +kernel
theorem dX5_isSheet_10 : decode cX5_isSheet 10 = .ok (.goto 4, 3) := by decide +kernel
theorem dX5_isSheet_13 : decode cX5_isSheet 13 = .ok (.iconst 0, 1) := by decide +kernel
theorem dX5_isSheet_14 : decode cX5_isSheet 14 = .ok (.ireturn, 1) := by decide +kernel
theorem dX5_hasNothing_0 : decode cX5_hasNothing 0 = .ok (.iload_n 1, 1) := by decide +kernel
theorem dX5_hasNothing_1 : decode cX5_hasNothing 1 = .ok (.invokestatic 21, 3) := by decide +kernel
theorem dX5_hasNothing_4 : decode cX5_hasNothing 4 = .ok (.ifCond .eq 13, 3) := by decide +kernel
theorem dX5_hasNothing_7 : decode cX5_hasNothing 7 = .ok (.aload_n 0, 1) := by decide +kernel
theorem dX5_hasNothing_8 : decode cX5_hasNothing 8 = .ok (.getfield 11, 3) := by decide +kernel
theorem dX5_hasNothing_11 : decode cX5_hasNothing 11 = .ok (.iload_n 1, 1) := by decide +kernel
theorem dX5_hasNothing_12 : decode cX5_hasNothing 12 = .ok (.iaload, 1) := by decide +kernel
theorem dX5_hasNothing_13 : decode cX5_hasNothing 13 = .ok (.iconst (-1), 1) := by decide +kernel
theorem dX5_hasNothing_14 : decode cX5_hasNothing 14 = .ok (.if_icmp .ne 7, 3) := by decide +kernel
theorem dX5_hasNothing_17 : decode cX5_hasNothing 17 = .ok (.iconst 1, 1) := by decide +kernel
theorem dX5_hasNothing_18 : decode cX5_hasNothing 18 = .ok (.goto 4, 3) := by decide +kernel
theorem dX5_hasNothing_21 : decode cX5_hasNothing 21 = .ok (.iconst 0, 1) := by decide +kernel
theorem dX5_hasNothing_22 : decode cX5_hasNothing 22 = .ok (.ireturn, 1) := by decide +kernel
theorem dX5_faultOfRow_0 : decode cX5_faultOfRow 0 = .ok (.aload_n 0, 1) := by decide +kernel
theorem dX5_faultOfRow_1 : decode cX5_faultOfRow 1 = .ok (.iload_n 1, 1) := by decide +kernel
theorem dX5_faultOfRow_2 : decode cX5_faultOfRow 2 = .ok (.invokevirtual 25, 3) := by decide +kernel
theorem dX5_faultOfRow_5 : decode cX5_faultOfRow 5 = .ok (.ifCond .eq 5, 3) := by decide +kernel
theorem dX5_faultOfRow_8 : decode cX5_faultOfRow 8 = .ok (.iconst 1, 1) := by decide +kernel
theorem dX5_faultOfRow_9 : decode cX5_faultOfRow 9 = .ok (.ireturn, 1) := by decide +kernel
theorem dX5_faultOfRow_10 : decode cX5_faultOfRow 10 = .ok (.aload_n 0, 1) := by decide +kernel
theorem dX5_faultOfRow_11 : decode cX5_faultOfRow 11 = .ok (.getfield 11, 3) := by decide +kernel
theorem dX5_faultOfRow_14 : decode cX5_faultOfRow 14 = .ok (.iload_n 1, 1) := by decide +kernel
theorem dX5_faultOfRow_15 : decode cX5_faultOfRow 15 = .ok (.iaload, 1) := by decide +kernel
theorem dX5_faultOfRow_16 : decode cX5_faultOfRow 16 = .ok (.iload_n 2, 1) := by decide +kernel
theorem dX5_faultOfRow_17 : decode cX5_faultOfRow 17 = .ok (.if_icmp .ne 7, 3) := by decide +kernel
theorem dX5_faultOfRow_20 : decode cX5_faultOfRow 20 = .ok (.iconst 0, 1) := by decide +kernel
theorem dX5_faultOfRow_21 : decode cX5_faultOfRow 21 = .ok (.goto 4, 3) := by decide +kernel
theorem dX5_faultOfRow_24 : decode cX5_faultOfRow 24 = .ok (.iconst 2, 1) := by decide +kernel
theorem dX5_faultOfRow_25 : decode cX5_faultOfRow 25 = .ok (.ireturn, 1) := by decide +kernel
theorem dX5_faultOfPair_0 : decode cX5_faultOfPair 0 = .ok (.aload_n 0, 1) := by decide +kernel
theorem dX5_faultOfPair_1 : decode cX5_faultOfPair 1 = .ok (.iload_n 1, 1) := by decide +kernel
theorem dX5_faultOfPair_2 : decode cX5_faultOfPair 2 = .ok (.invokevirtual 25, 3) := by decide +kernel
theorem dX5_faultOfPair_5 : decode cX5_faultOfPair 5 = .ok (.ifCond .ne 11, 3) := by decide +kernel
theorem dX5_faultOfPair_8 : decode cX5_faultOfPair 8 = .ok (.aload_n 0, 1) := by decide +kernel
theorem dX5_faultOfPair_9 : decode cX5_faultOfPair 9 = .ok (.iload_n 2, 1) := by decide +kernel
theorem dX5_faultOfPair_10 : decode cX5_faultOfPair 10 = .ok (.invokevirtual 25, 3) := by decide +kernel
theorem dX5_faultOfPair_13 : decode cX5_faultOfPair 13 = .ok (.ifCond .eq 5, 3) := by decide +kernel
theorem dX5_faultOfPair_16 : decode cX5_faultOfPair 16 = .ok (.iconst 1, 1) := by decide +kernel
theorem dX5_faultOfPair_17 : decode cX5_faultOfPair 17 = .ok (.ireturn, 1) := by decide +kernel
theorem dX5_faultOfPair_18 : decode cX5_faultOfPair 18 = .ok (.aload_n 0, 1) := by decide +kernel
theorem dX5_faultOfPair_19 : decode cX5_faultOfPair 19 = .ok (.getfield 11, 3) := by decide +kernel
theorem dX5_faultOfPair_22 : decode cX5_faultOfPair 22 = .ok (.iload_n 1, 1) := by decide +kernel
theorem dX5_faultOfPair_23 : decode cX5_faultOfPair 23 = .ok (.iaload, 1) := by decide +kernel
theorem dX5_faultOfPair_24 : decode cX5_faultOfPair 24 = .ok (.aload_n 0, 1) := by decide +kernel
theorem dX5_faultOfPair_25 : decode cX5_faultOfPair 25 = .ok (.getfield 11, 3) := by decide +kernel
theorem dX5_faultOfPair_28 : decode cX5_faultOfPair 28 = .ok (.iload_n 2, 1) := by decide +kernel
theorem dX5_faultOfPair_29 : decode cX5_faultOfPair 29 = .ok (.iaload, 1) := by decide +kernel
theorem dX5_faultOfPair_30 : decode cX5_faultOfPair 30 = .ok (.if_icmp .ne 7, 3) := by decide +kernel
theorem dX5_faultOfPair_33 : decode cX5_faultOfPair 33 = .ok (.iconst 0, 1) := by decide +kernel
theorem dX5_faultOfPair_34 : decode cX5_faultOfPair 34 = .ok (.goto 4, 3) := by decide +kernel
theorem dX5_faultOfPair_37 : decode cX5_faultOfPair 37 = .ok (.iconst 2, 1) := by decide +kernel
theorem dX5_faultOfPair_38 : decode cX5_faultOfPair 38 = .ok (.ireturn, 1) := by decide +kernel
theorem dX5_faultOfCell_0 : decode cX5_faultOfCell 0 = .ok (.iload_n 1, 1) := by decide +kernel
theorem dX5_faultOfCell_1 : decode cX5_faultOfCell 1 = .ok (.invokestatic 21, 3) := by decide +kernel
theorem dX5_faultOfCell_4 : decode cX5_faultOfCell 4 = .ok (.ifCond .eq 21, 3) := by decide +kernel
theorem dX5_faultOfCell_7 : decode cX5_faultOfCell 7 = .ok (.iload_n 2, 1) := by decide +kernel
theorem dX5_faultOfCell_8 : decode cX5_faultOfCell 8 = .ok (.ifCond .lt 17, 3) := by decide +kernel
theorem dX5_faultOfCell_11 : decode cX5_faultOfCell 11 = .ok (.iload_n 2, 1) := by decide +kernel
theorem dX5_faultOfCell_12 : decode cX5_faultOfCell 12 = .ok (.aload_n 0, 1) := by decide +kernel
theorem dX5_faultOfCell_13 : decode cX5_faultOfCell 13 = .ok (.getfield 15, 3) := by decide +kernel
theorem dX5_faultOfCell_16 : decode cX5_faultOfCell 16 = .ok (.iload_n 1, 1) := by decide +kernel
theorem dX5_faultOfCell_17 : decode cX5_faultOfCell 17 = .ok (.iaload, 1) := by decide +kernel
theorem dX5_faultOfCell_18 : decode cX5_faultOfCell 18 = .ok (.if_icmp .ge 7, 3) := by decide +kernel
theorem dX5_faultOfCell_21 : decode cX5_faultOfCell 21 = .ok (.iconst 0, 1) := by decide +kernel
theorem dX5_faultOfCell_22 : decode cX5_faultOfCell 22 = .ok (.goto 4, 3) := by decide +kernel
theorem dX5_faultOfCell_25 : decode cX5_faultOfCell 25 = .ok (.iconst 3, 1) := by decide +kernel
theorem dX5_faultOfCell_26 : decode cX5_faultOfCell 26 = .ok (.ireturn, 1) := by decide +kernel
theorem dX5_faultOfCells_0 : decode cX5_faultOfCells 0 = .ok (.iload_n 1, 1) := by decide +kernel
theorem dX5_faultOfCells_1 : decode cX5_faultOfCells 1 = .ok (.invokestatic 21, 3) := by decide +kernel
theorem dX5_faultOfCells_4 : decode cX5_faultOfCells 4 = .ok (.ifCond .eq 11, 3) := by decide +kernel
theorem dX5_faultOfCells_7 : decode cX5_faultOfCells 7 = .ok (.iload_n 2, 1) := by decide +kernel
theorem dX5_faultOfCells_8 : decode cX5_faultOfCells 8 = .ok (.ifCond .lt 7, 3) := by decide +kernel
theorem dX5_faultOfCells_11 : decode cX5_faultOfCells 11 = .ok (.iload_n 3, 1) := by decide +kernel
theorem dX5_faultOfCells_12 : decode cX5_faultOfCells 12 = .ok (.ifCond .ge 5, 3) := by decide +kernel
theorem dX5_faultOfCells_15 : decode cX5_faultOfCells 15 = .ok (.iconst 3, 1) := by decide +kernel
theorem dX5_faultOfCells_16 : decode cX5_faultOfCells 16 = .ok (.ireturn, 1) := by decide +kernel
theorem dX5_faultOfCells_17 : decode cX5_faultOfCells 17 = .ok (.iload_n 2, 1) := by decide +kernel
theorem dX5_faultOfCells_18 : decode cX5_faultOfCells 18 = .ok (.i2l, 1) := by decide +kernel
theorem dX5_faultOfCells_19 : decode cX5_faultOfCells 19 = .ok (.iload_n 3, 1) := by decide +kernel
theorem dX5_faultOfCells_20 : decode cX5_faultOfCells 20 = .ok (.i2l, 1) := by decide +kernel
theorem dX5_faultOfCells_21 : decode cX5_faultOfCells 21 = .ok (.ladd, 1) := by decide +kernel
theorem dX5_faultOfCells_22 : decode cX5_faultOfCells 22 = .ok (.aload_n 0, 1) := by decide +kernel
theorem dX5_faultOfCells_23 : decode cX5_faultOfCells 23 = .ok (.getfield 15, 3) := by decide +kernel
theorem dX5_faultOfCells_26 : decode cX5_faultOfCells 26 = .ok (.iload_n 1, 1) := by decide +kernel
theorem dX5_faultOfCells_27 : decode cX5_faultOfCells 27 = .ok (.iaload, 1) := by decide +kernel
theorem dX5_faultOfCells_28 : decode cX5_faultOfCells 28 = .ok (.i2l, 1) := by decide +kernel
theorem dX5_faultOfCells_29 : decode cX5_faultOfCells 29 = .ok (.lcmp, 1) := by decide +kernel
theorem dX5_faultOfCells_30 : decode cX5_faultOfCells 30 = .ok (.ifCond .gt 7, 3) := by decide +kernel
theorem dX5_faultOfCells_33 : decode cX5_faultOfCells 33 = .ok (.iconst 0, 1) := by decide +kernel
theorem dX5_faultOfCells_34 : decode cX5_faultOfCells 34 = .ok (.goto 4, 3) := by decide +kernel
theorem dX5_faultOfCells_37 : decode cX5_faultOfCells 37 = .ok (.iconst 3, 1) := by decide +kernel
theorem dX5_faultOfCells_38 : decode cX5_faultOfCells 38 = .ok (.ireturn, 1) := by decide +kernel
theorem dX5_renew_0 : decode cX5_renew 0 = .ok (.iload_n 1, 1) := by decide +kernel
theorem dX5_renew_1 : decode cX5_renew 1 = .ok (.invokestatic 21, 3) := by decide +kernel
theorem dX5_renew_4 : decode cX5_renew 4 = .ok (.ifCond .eq 13, 3) := by decide +kernel
theorem dX5_renew_7 : decode cX5_renew 7 = .ok (.iload_n 3, 1) := by decide +kernel
theorem dX5_renew_8 : decode cX5_renew 8 = .ok (.ifCond .lt 9, 3) := by decide +kernel
theorem dX5_renew_11 : decode cX5_renew 11 = .ok (.iload_n 3, 1) := by decide +kernel
theorem dX5_renew_12 : decode cX5_renew 12 = .ok (.bipush 60, 2) := by decide +kernel
theorem dX5_renew_14 : decode cX5_renew 14 = .ok (.if_icmp .le 4, 3) := by decide +kernel
theorem dX5_renew_17 : decode cX5_renew 17 = .ok (.return_, 1) := by decide +kernel
theorem dX5_renew_18 : decode cX5_renew 18 = .ok (.aload_n 0, 1) := by decide +kernel
theorem dX5_renew_19 : decode cX5_renew 19 = .ok (.getfield 11, 3) := by decide +kernel
theorem dX5_renew_22 : decode cX5_renew 22 = .ok (.iload_n 1, 1) := by decide +kernel
theorem dX5_renew_23 : decode cX5_renew 23 = .ok (.iload_n 2, 1) := by decide +kernel
theorem dX5_renew_24 : decode cX5_renew 24 = .ok (.iastore, 1) := by decide +kernel
theorem dX5_renew_25 : decode cX5_renew 25 = .ok (.aload_n 0, 1) := by decide +kernel
theorem dX5_renew_26 : decode cX5_renew 26 = .ok (.getfield 15, 3) := by decide +kernel
theorem dX5_renew_29 : decode cX5_renew 29 = .ok (.iload_n 1, 1) := by decide +kernel
theorem dX5_renew_30 : decode cX5_renew 30 = .ok (.iload_n 3, 1) := by decide +kernel
theorem dX5_renew_31 : decode cX5_renew 31 = .ok (.iastore, 1) := by decide +kernel
theorem dX5_renew_32 : decode cX5_renew 32 = .ok (.iconst 0, 1) := by decide +kernel
theorem dX5_renew_33 : decode cX5_renew 33 = .ok (.istore 4, 2) := by decide +kernel
theorem dX5_renew_35 : decode cX5_renew 35 = .ok (.iload 4, 2) := by decide +kernel
theorem dX5_renew_37 : decode cX5_renew 37 = .ok (.iload_n 3, 1) := by decide +kernel
theorem dX5_renew_38 : decode cX5_renew 38 = .ok (.if_icmp .ge 22, 3) := by decide +kernel
theorem dX5_renew_41 : decode cX5_renew 41 = .ok (.aload_n 0, 1) := by decide +kernel
theorem dX5_renew_42 : decode cX5_renew 42 = .ok (.getfield 18, 3) := by decide +kernel
theorem dX5_renew_45 : decode cX5_renew 45 = .ok (.iload_n 1, 1) := by decide +kernel
theorem dX5_renew_46 : decode cX5_renew 46 = .ok (.bipush 60, 2) := by decide +kernel
theorem dX5_renew_48 : decode cX5_renew 48 = .ok (.imul, 1) := by decide +kernel
theorem dX5_renew_49 : decode cX5_renew 49 = .ok (.iload 4, 2) := by decide +kernel
theorem dX5_renew_51 : decode cX5_renew 51 = .ok (.iadd, 1) := by decide +kernel
theorem dX5_renew_52 : decode cX5_renew 52 = .ok (.iconst 0, 1) := by decide +kernel
theorem dX5_renew_53 : decode cX5_renew 53 = .ok (.iastore, 1) := by decide +kernel
theorem dX5_renew_54 : decode cX5_renew 54 = .ok (.iinc 4 1, 3) := by decide +kernel
theorem dX5_renew_57 : decode cX5_renew 57 = .ok (.goto (-22), 3) := by decide +kernel
theorem dX5_renew_60 : decode cX5_renew 60 = .ok (.return_, 1) := by decide +kernel
theorem dX5_empty_0 : decode cX5_empty 0 = .ok (.iload_n 1, 1) := by decide +kernel
theorem dX5_empty_1 : decode cX5_empty 1 = .ok (.invokestatic 21, 3) := by decide +kernel
theorem dX5_empty_4 : decode cX5_empty 4 = .ok (.ifCond .ne 4, 3) := by decide +kernel
theorem dX5_empty_7 : decode cX5_empty 7 = .ok (.return_, 1) := by decide +kernel
theorem dX5_empty_8 : decode cX5_empty 8 = .ok (.aload_n 0, 1) := by decide +kernel
theorem dX5_empty_9 : decode cX5_empty 9 = .ok (.getfield 11, 3) := by decide +kernel
theorem dX5_empty_12 : decode cX5_empty 12 = .ok (.iload_n 1, 1) := by decide +kernel
theorem dX5_empty_13 : decode cX5_empty 13 = .ok (.iconst (-1), 1) := by decide +kernel
theorem dX5_empty_14 : decode cX5_empty 14 = .ok (.iastore, 1) := by decide +kernel
theorem dX5_empty_15 : decode cX5_empty 15 = .ok (.aload_n 0, 1) := by decide +kernel
theorem dX5_empty_16 : decode cX5_empty 16 = .ok (.getfield 15, 3) := by decide +kernel
theorem dX5_empty_19 : decode cX5_empty 19 = .ok (.iload_n 1, 1) := by decide +kernel
theorem dX5_empty_20 : decode cX5_empty 20 = .ok (.iconst 0, 1) := by decide +kernel
theorem dX5_empty_21 : decode cX5_empty 21 = .ok (.iastore, 1) := by decide +kernel
theorem dX5_empty_22 : decode cX5_empty 22 = .ok (.return_, 1) := by decide +kernel
theorem dX5_valueAt_0 : decode cX5_valueAt 0 = .ok (.aload_n 0, 1) := by decide +kernel
theorem dX5_valueAt_1 : decode cX5_valueAt 1 = .ok (.iload_n 1, 1) := by decide +kernel
theorem dX5_valueAt_2 : decode cX5_valueAt 2 = .ok (.iload_n 2, 1) := by decide +kernel
theorem dX5_valueAt_3 : decode cX5_valueAt 3 = .ok (.invokevirtual 28, 3) := by decide +kernel
theorem dX5_valueAt_6 : decode cX5_valueAt 6 = .ok (.ifCond .ne 17, 3) := by decide +kernel
theorem dX5_valueAt_9 : decode cX5_valueAt 9 = .ok (.aload_n 0, 1) := by decide +kernel
theorem dX5_valueAt_10 : decode cX5_valueAt 10 = .ok (.getfield 18, 3) := by decide +kernel
theorem dX5_valueAt_13 : decode cX5_valueAt 13 = .ok (.iload_n 1, 1) := by decide +kernel
theorem dX5_valueAt_14 : decode cX5_valueAt 14 = .ok (.bipush 60, 2) := by decide +kernel
theorem dX5_valueAt_16 : decode cX5_valueAt 16 = .ok (.imul, 1) := by decide +kernel
theorem dX5_valueAt_17 : decode cX5_valueAt 17 = .ok (.iload_n 2, 1) := by decide +kernel
theorem dX5_valueAt_18 : decode cX5_valueAt 18 = .ok (.iadd, 1) := by decide +kernel
theorem dX5_valueAt_19 : decode cX5_valueAt 19 = .ok (.iaload, 1) := by decide +kernel
theorem dX5_valueAt_20 : decode cX5_valueAt 20 = .ok (.goto 4, 3) := by decide +kernel
theorem dX5_valueAt_23 : decode cX5_valueAt 23 = .ok (.iconst 0, 1) := by decide +kernel
theorem dX5_valueAt_24 : decode cX5_valueAt 24 = .ok (.ireturn, 1) := by decide +kernel
theorem dX5_setAt_0 : decode cX5_setAt 0 = .ok (.aload_n 0, 1) := by decide +kernel
theorem dX5_setAt_1 : decode cX5_setAt 1 = .ok (.iload_n 1, 1) := by decide +kernel
theorem dX5_setAt_2 : decode cX5_setAt 2 = .ok (.iload_n 2, 1) := by decide +kernel
theorem dX5_setAt_3 : decode cX5_setAt 3 = .ok (.invokevirtual 28, 3) := by decide +kernel
theorem dX5_setAt_6 : decode cX5_setAt 6 = .ok (.ifCond .ne 24, 3) := by decide +kernel
theorem dX5_setAt_9 : decode cX5_setAt 9 = .ok (.aload_n 0, 1) := by decide +kernel
theorem dX5_setAt_10 : decode cX5_setAt 10 = .ok (.getfield 18, 3) := by decide +kernel
theorem dX5_setAt_13 : decode cX5_setAt 13 = .ok (.iload_n 1, 1) := by decide +kernel
theorem dX5_setAt_14 : decode cX5_setAt 14 = .ok (.bipush 60, 2) := by decide +kernel
theorem dX5_setAt_16 : decode cX5_setAt 16 = .ok (.imul, 1) := by decide +kernel
theorem dX5_setAt_17 : decode cX5_setAt 17 = .ok (.iload_n 2, 1) := by decide +kernel
theorem dX5_setAt_18 : decode cX5_setAt 18 = .ok (.iadd, 1) := by decide +kernel
theorem dX5_setAt_19 : decode cX5_setAt 19 = .ok (.iload_n 3, 1) := by decide +kernel
theorem dX5_setAt_20 : decode cX5_setAt 20 = .ok (.aload_n 0, 1) := by decide +kernel
theorem dX5_setAt_21 : decode cX5_setAt 21 = .ok (.getfield 11, 3) := by decide +kernel
theorem dX5_setAt_24 : decode cX5_setAt 24 = .ok (.iload_n 1, 1) := by decide +kernel
theorem dX5_setAt_25 : decode cX5_setAt 25 = .ok (.iaload, 1) := by decide +kernel
theorem dX5_setAt_26 : decode cX5_setAt 26 = .ok (.invokestatic 32, 3) := by decide +kernel
theorem dX5_setAt_29 : decode cX5_setAt 29 = .ok (.iastore, 1) := by decide +kernel
theorem dX5_setAt_30 : decode cX5_setAt 30 = .ok (.return_, 1) := by decide +kernel
theorem dX5_cut_0 : decode cX5_cut 0 = .ok (.iload_n 1, 1) := by decide +kernel
theorem dX5_cut_1 : decode cX5_cut 1 = .ok (.lookupswitch 33 #[(0, 27), (1, 30)], 27) := by decide +kernel
theorem dX5_cut_28 : decode cX5_cut 28 = .ok (.iload_n 0, 1) := by decide +kernel
theorem dX5_cut_29 : decode cX5_cut 29 = .ok (.i2b, 1) := by decide +kernel
theorem dX5_cut_30 : decode cX5_cut 30 = .ok (.ireturn, 1) := by decide +kernel
theorem dX5_cut_31 : decode cX5_cut 31 = .ok (.iload_n 0, 1) := by decide +kernel
theorem dX5_cut_32 : decode cX5_cut 32 = .ok (.i2s, 1) := by decide +kernel
theorem dX5_cut_33 : decode cX5_cut 33 = .ok (.ireturn, 1) := by decide +kernel
theorem dX5_cut_34 : decode cX5_cut 34 = .ok (.iload_n 0, 1) := by decide +kernel
theorem dX5_cut_35 : decode cX5_cut 35 = .ok (.ireturn, 1) := by decide +kernel
theorem dX5_move_0 : decode cX5_move 0 = .ok (.aload_n 0, 1) := by decide +kernel
theorem dX5_move_1 : decode cX5_move 1 = .ok (.iload_n 1, 1) := by decide +kernel
theorem dX5_move_2 : decode cX5_move 2 = .ok (.iload_n 2, 1) := by decide +kernel
theorem dX5_move_3 : decode cX5_move 3 = .ok (.iload 5, 2) := by decide +kernel
theorem dX5_move_5 : decode cX5_move 5 = .ok (.invokevirtual 35, 3) := by decide +kernel
theorem dX5_move_8 : decode cX5_move 8 = .ok (.ifCond .ne 15, 3) := by decide +kernel
theorem dX5_move_11 : decode cX5_move 11 = .ok (.aload_n 0, 1) := by decide +kernel
theorem dX5_move_12 : decode cX5_move 12 = .ok (.iload_n 3, 1) := by decide +kernel
theorem dX5_move_13 : decode cX5_move 13 = .ok (.iload 4, 2) := by decide +kernel
theorem dX5_move_15 : decode cX5_move 15 = .ok (.iload 5, 2) := by decide +kernel
theorem dX5_move_17 : decode cX5_move 17 = .ok (.invokevirtual 35, 3) := by decide +kernel
theorem dX5_move_20 : decode cX5_move 20 = .ok (.ifCond .eq 4, 3) := by decide +kernel
theorem dX5_move_23 : decode cX5_move 23 = .ok (.return_, 1) := by decide +kernel
theorem dX5_move_24 : decode cX5_move 24 = .ok (.aload_n 0, 1) := by decide +kernel
theorem dX5_move_25 : decode cX5_move 25 = .ok (.getfield 18, 3) := by decide +kernel
theorem dX5_move_28 : decode cX5_move 28 = .ok (.iload_n 1, 1) := by decide +kernel
theorem dX5_move_29 : decode cX5_move 29 = .ok (.bipush 60, 2) := by decide +kernel
theorem dX5_move_31 : decode cX5_move 31 = .ok (.imul, 1) := by decide +kernel
theorem dX5_move_32 : decode cX5_move 32 = .ok (.iload_n 2, 1) := by decide +kernel
theorem dX5_move_33 : decode cX5_move 33 = .ok (.iadd, 1) := by decide +kernel
theorem dX5_move_34 : decode cX5_move 34 = .ok (.aload_n 0, 1) := by decide +kernel
theorem dX5_move_35 : decode cX5_move 35 = .ok (.getfield 18, 3) := by decide +kernel
theorem dX5_move_38 : decode cX5_move 38 = .ok (.iload_n 3, 1) := by decide +kernel
theorem dX5_move_39 : decode cX5_move 39 = .ok (.bipush 60, 2) := by decide +kernel
theorem dX5_move_41 : decode cX5_move 41 = .ok (.imul, 1) := by decide +kernel
theorem dX5_move_42 : decode cX5_move 42 = .ok (.iload 4, 2) := by decide +kernel
theorem dX5_move_44 : decode cX5_move 44 = .ok (.iadd, 1) := by decide +kernel
theorem dX5_move_45 : decode cX5_move 45 = .ok (.iload 5, 2) := by decide +kernel
theorem dX5_move_47 : decode cX5_move 47 = .ok (.invokestatic 39, 3) := by decide +kernel
theorem dX5_move_50 : decode cX5_move 50 = .ok (.return_, 1) := by decide +kernel
