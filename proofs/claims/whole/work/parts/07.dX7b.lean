theorem dX7_rooms_54 : decode cX7_rooms 54 = .ok (.ior, 1) := by decide +kernel
theorem dX7_rooms_55 : decode cX7_rooms 55 = .ok (.istore_n 2, 1) := by decide +kernel
theorem dX7_rooms_56 : decode cX7_rooms 56 = .ok (.iinc 3 1, 3) := by decide +kernel
theorem dX7_rooms_59 : decode cX7_rooms 59 = .ok (.goto (-42), 3) := by decide +kernel
theorem dX7_rooms_62 : decode cX7_rooms 62 = .ok (.iload_n 2, 1) := by decide +kernel
theorem dX7_rooms_63 : decode cX7_rooms 63 = .ok (.ireturn, 1) := by decide +kernel
theorem dX7_kinds_0 : decode cX7_kinds 0 = .ok (.aload_n 0, 1) := by decide +kernel
theorem dX7_kinds_1 : decode cX7_kinds 1 = .ok (.getfield 28, 3) := by decide +kernel
theorem dX7_kinds_4 : decode cX7_kinds 4 = .ok (.iload_n 1, 1) := by decide +kernel
theorem dX7_kinds_5 : decode cX7_kinds 5 = .ok (.invokevirtual 100, 3) := by decide +kernel
theorem dX7_kinds_8 : decode cX7_kinds 8 = .ok (.ifCond .ne 5, 3) := by decide +kernel
theorem dX7_kinds_11 : decode cX7_kinds 11 = .ok (.iconst (-1), 1) := by decide +kernel
theorem dX7_kinds_12 : decode cX7_kinds 12 = .ok (.ireturn, 1) := by decide +kernel
theorem dX7_kinds_13 : decode cX7_kinds 13 = .ok (.iconst 0, 1) := by decide +kernel
theorem dX7_kinds_14 : decode cX7_kinds 14 = .ok (.istore_n 2, 1) := by decide +kernel
theorem dX7_kinds_15 : decode cX7_kinds 15 = .ok (.iconst 0, 1) := by decide +kernel
theorem dX7_kinds_16 : decode cX7_kinds 16 = .ok (.istore_n 3, 1) := by decide +kernel
theorem dX7_kinds_17 : decode cX7_kinds 17 = .ok (.iload_n 3, 1) := by decide +kernel
theorem dX7_kinds_18 : decode cX7_kinds 18 = .ok (.iconst 2, 1) := by decide +kernel
theorem dX7_kinds_19 : decode cX7_kinds 19 = .ok (.if_icmp .gt 43, 3) := by decide +kernel
theorem dX7_kinds_22 : decode cX7_kinds 22 = .ok (.aload_n 0, 1) := by decide +kernel
theorem dX7_kinds_23 : decode cX7_kinds 23 = .ok (.getfield 56, 3) := by decide +kernel
theorem dX7_kinds_26 : decode cX7_kinds 26 = .ok (.aload_n 0, 1) := by decide +kernel
theorem dX7_kinds_27 : decode cX7_kinds 27 = .ok (.getfield 28, 3) := by decide +kernel
theorem dX7_kinds_30 : decode cX7_kinds 30 = .ok (.iload_n 1, 1) := by decide +kernel
theorem dX7_kinds_31 : decode cX7_kinds 31 = .ok (.iload_n 3, 1) := by decide +kernel
theorem dX7_kinds_32 : decode cX7_kinds 32 = .ok (.aload_n 0, 1) := by decide +kernel
theorem dX7_kinds_33 : decode cX7_kinds 33 = .ok (.getfield 28, 3) := by decide +kernel
theorem dX7_kinds_36 : decode cX7_kinds 36 = .ok (.getfield 107, 3) := by decide +kernel
theorem dX7_kinds_39 : decode cX7_kinds 39 = .ok (.iload_n 1, 1) := by decide +kernel
theorem dX7_kinds_40 : decode cX7_kinds 40 = .ok (.iaload, 1) := by decide +kernel
theorem dX7_kinds_41 : decode cX7_kinds 41 = .ok (.invokestatic 210, 3) := by decide +kernel
theorem dX7_kinds_44 : decode cX7_kinds 44 = .ok (.invokevirtual 213, 3) := by decide +kernel
theorem dX7_kinds_47 : decode cX7_kinds 47 = .ok (.ifCond .eq 9, 3) := by decide +kernel
theorem dX7_kinds_50 : decode cX7_kinds 50 = .ok (.iload_n 2, 1) := by decide +kernel
theorem dX7_kinds_51 : decode cX7_kinds 51 = .ok (.iconst 1, 1) := by decide +kernel
theorem dX7_kinds_52 : decode cX7_kinds 52 = .ok (.iload_n 3, 1) := by decide +kernel
theorem dX7_kinds_53 : decode cX7_kinds 53 = .ok (.ishl, 1) := by decide +kernel
theorem dX7_kinds_54 : decode cX7_kinds 54 = .ok (.ior, 1) := by decide +kernel
theorem dX7_kinds_55 : decode cX7_kinds 55 = .ok (.istore_n 2, 1) := by decide +kernel
theorem dX7_kinds_56 : decode cX7_kinds 56 = .ok (.iinc 3 1, 3) := by decide +kernel
theorem dX7_kinds_59 : decode cX7_kinds 59 = .ok (.goto (-42), 3) := by decide +kernel
theorem dX7_kinds_62 : decode cX7_kinds 62 = .ok (.iload_n 2, 1) := by decide +kernel
theorem dX7_kinds_63 : decode cX7_kinds 63 = .ok (.ireturn, 1) := by decide +kernel
theorem dX7_odds_0 : decode cX7_odds 0 = .ok (.aload_n 0, 1) := by decide +kernel
theorem dX7_odds_1 : decode cX7_odds 1 = .ok (.getfield 28, 3) := by decide +kernel
theorem dX7_odds_4 : decode cX7_odds 4 = .ok (.iload_n 1, 1) := by decide +kernel
theorem dX7_odds_5 : decode cX7_odds 5 = .ok (.invokevirtual 100, 3) := by decide +kernel
theorem dX7_odds_8 : decode cX7_odds 8 = .ok (.ifCond .eq 12, 3) := by decide +kernel
theorem dX7_odds_11 : decode cX7_odds 11 = .ok (.iload_n 2, 1) := by decide +kernel
theorem dX7_odds_12 : decode cX7_odds 12 = .ok (.ifCond .lt 8, 3) := by decide +kernel
theorem dX7_odds_15 : decode cX7_odds 15 = .ok (.iload_n 2, 1) := by decide +kernel
theorem dX7_odds_16 : decode cX7_odds 16 = .ok (.iconst 1, 1) := by decide +kernel
theorem dX7_odds_17 : decode cX7_odds 17 = .ok (.if_icmp .le 7, 3) := by decide +kernel
theorem dX7_odds_20 : decode cX7_odds 20 = .ok (.ldc2_w 217, 3) := by decide +kernel
theorem dX7_odds_23 : decode cX7_odds 23 = .ok (.lreturn, 1) := by decide +kernel
theorem dX7_odds_24 : decode cX7_odds 24 = .ok (.aload_n 0, 1) := by decide +kernel
theorem dX7_odds_25 : decode cX7_odds 25 = .ok (.getfield 28, 3) := by decide +kernel
theorem dX7_odds_28 : decode cX7_odds 28 = .ok (.iload_n 1, 1) := by decide +kernel
theorem dX7_odds_29 : decode cX7_odds 29 = .ok (.invokevirtual 219, 3) := by decide +kernel
theorem dX7_odds_32 : decode cX7_odds 32 = .ok (.lstore_n 3, 1) := by decide +kernel
theorem dX7_odds_33 : decode cX7_odds 33 = .ok (.aload_n 0, 1) := by decide +kernel
theorem dX7_odds_34 : decode cX7_odds 34 = .ok (.getfield 28, 3) := by decide +kernel
theorem dX7_odds_37 : decode cX7_odds 37 = .ok (.getfield 97, 3) := by decide +kernel
theorem dX7_odds_40 : decode cX7_odds 40 = .ok (.iconst 1, 1) := by decide +kernel
theorem dX7_odds_41 : decode cX7_odds 41 = .ok (.iadd, 1) := by decide +kernel
theorem dX7_odds_42 : decode cX7_odds 42 = .ok (.i2l, 1) := by decide +kernel
theorem dX7_odds_43 : decode cX7_odds 43 = .ok (.aload_n 0, 1) := by decide +kernel
theorem dX7_odds_44 : decode cX7_odds 44 = .ok (.getfield 28, 3) := by decide +kernel
theorem dX7_odds_47 : decode cX7_odds 47 = .ok (.getfield 191, 3) := by decide +kernel
theorem dX7_odds_50 : decode cX7_odds 50 = .ok (.invokestatic 223, 3) := by decide +kernel
theorem dX7_odds_53 : decode cX7_odds 53 = .ok (.lstore 5, 2) := by decide +kernel
theorem dX7_odds_55 : decode cX7_odds 55 = .ok (.lload_n 3, 1) := by decide +kernel
theorem dX7_odds_56 : decode cX7_odds 56 = .ok (.lload 5, 2) := by decide +kernel
theorem dX7_odds_58 : decode cX7_odds 58 = .ok (.invokestatic 227, 3) := by decide +kernel
theorem dX7_odds_61 : decode cX7_odds 61 = .ok (.lstore 7, 2) := by decide +kernel
theorem dX7_odds_63 : decode cX7_odds 63 = .ok (.lload 7, 2) := by decide +kernel
theorem dX7_odds_65 : decode cX7_odds 65 = .ok (.lconst 1, 1) := by decide +kernel
theorem dX7_odds_66 : decode cX7_odds 66 = .ok (.lcmp, 1) := by decide +kernel
theorem dX7_odds_67 : decode cX7_odds 67 = .ok (.ifCond .ge 7, 3) := by decide +kernel
theorem dX7_odds_70 : decode cX7_odds 70 = .ok (.ldc2_w 217, 3) := by decide +kernel
theorem dX7_odds_73 : decode cX7_odds 73 = .ok (.lreturn, 1) := by decide +kernel
theorem dX7_odds_74 : decode cX7_odds 74 = .ok (.iload_n 2, 1) := by decide +kernel
theorem dX7_odds_75 : decode cX7_odds 75 = .ok (.ifCond .ne 10, 3) := by decide +kernel
theorem dX7_odds_78 : decode cX7_odds 78 = .ok (.lload_n 3, 1) := by decide +kernel
theorem dX7_odds_79 : decode cX7_odds 79 = .ok (.lload 7, 2) := by decide +kernel
theorem dX7_odds_81 : decode cX7_odds 81 = .ok (.ldiv, 1) := by decide +kernel
theorem dX7_odds_82 : decode cX7_odds 82 = .ok (.goto 8, 3) := by decide +kernel
theorem dX7_odds_85 : decode cX7_odds 85 = .ok (.lload 5, 2) := by decide +kernel
theorem dX7_odds_87 : decode cX7_odds 87 = .ok (.lload 7, 2) := by decide +kernel
theorem dX7_odds_89 : decode cX7_odds 89 = .ok (.ldiv, 1) := by decide +kernel
theorem dX7_odds_90 : decode cX7_odds 90 = .ok (.lreturn, 1) := by decide +kernel
theorem dX7_sheet_0 : decode cX7_sheet 0 = .ok (.aload_n 0, 1) := by decide +kernel
theorem dX7_sheet_1 : decode cX7_sheet 1 = .ok (.iconst 0, 1) := by decide +kernel
theorem dX7_sheet_2 : decode cX7_sheet 2 = .ok (.putfield 64, 3) := by decide +kernel
theorem dX7_sheet_5 : decode cX7_sheet 5 = .ok (.iload_n 1, 1) := by decide +kernel
theorem dX7_sheet_6 : decode cX7_sheet 6 = .ok (.invokestatic 67, 3) := by decide +kernel
theorem dX7_sheet_9 : decode cX7_sheet 9 = .ok (.ifCond .ne 5, 3) := by decide +kernel
theorem dX7_sheet_12 : decode cX7_sheet 12 = .ok (.iconst (-1), 1) := by decide +kernel
theorem dX7_sheet_13 : decode cX7_sheet 13 = .ok (.ireturn, 1) := by decide +kernel
theorem dX7_sheet_14 : decode cX7_sheet 14 = .ok (.iload_n 2, 1) := by decide +kernel
theorem dX7_sheet_15 : decode cX7_sheet 15 = .ok (.invokestatic 71, 3) := by decide +kernel
theorem dX7_sheet_18 : decode cX7_sheet 18 = .ok (.ifCond .eq 9, 3) := by decide +kernel
theorem dX7_sheet_21 : decode cX7_sheet 21 = .ok (.iload_n 3, 1) := by decide +kernel
theorem dX7_sheet_22 : decode cX7_sheet 22 = .ok (.bipush 60, 2) := by decide +kernel
theorem dX7_sheet_24 : decode cX7_sheet 24 = .ok (.if_icmp .le 6, 3) := by decide +kernel
theorem dX7_sheet_27 : decode cX7_sheet 27 = .ok (.bipush (-2), 2) := by decide +kernel
theorem dX7_sheet_29 : decode cX7_sheet 29 = .ok (.ireturn, 1) := by decide +kernel
theorem dX7_sheet_30 : decode cX7_sheet 30 = .ok (.iload_n 3, 1) := by decide +kernel
theorem dX7_sheet_31 : decode cX7_sheet 31 = .ok (.ifCond .ge 8, 3) := by decide +kernel
theorem dX7_sheet_34 : decode cX7_sheet 34 = .ok (.aload_n 0, 1) := by decide +kernel
theorem dX7_sheet_35 : decode cX7_sheet 35 = .ok (.iconst 4, 1) := by decide +kernel
theorem dX7_sheet_36 : decode cX7_sheet 36 = .ok (.putfield 64, 3) := by decide +kernel
theorem dX7_sheet_39 : decode cX7_sheet 39 = .ok (.aload_n 0, 1) := by decide +kernel
theorem dX7_sheet_40 : decode cX7_sheet 40 = .ok (.getfield 64, 3) := by decide +kernel
theorem dX7_sheet_43 : decode cX7_sheet 43 = .ok (.ifCond .eq 11, 3) := by decide +kernel
theorem dX7_sheet_46 : decode cX7_sheet 46 = .ok (.bipush (-10), 2) := by decide +kernel
theorem dX7_sheet_48 : decode cX7_sheet 48 = .ok (.aload_n 0, 1) := by decide +kernel
theorem dX7_sheet_49 : decode cX7_sheet 49 = .ok (.getfield 64, 3) := by decide +kernel
theorem dX7_sheet_52 : decode cX7_sheet 52 = .ok (.isub, 1) := by decide +kernel
theorem dX7_sheet_53 : decode cX7_sheet 53 = .ok (.ireturn, 1) := by decide +kernel
theorem dX7_sheet_54 : decode cX7_sheet 54 = .ok (.aload_n 0, 1) := by decide +kernel
theorem dX7_sheet_55 : decode cX7_sheet 55 = .ok (.getfield 12, 3) := by decide +kernel
theorem dX7_sheet_58 : decode cX7_sheet 58 = .ok (.iload_n 1, 1) := by decide +kernel
theorem dX7_sheet_59 : decode cX7_sheet 59 = .ok (.iload_n 2, 1) := by decide +kernel
theorem dX7_sheet_60 : decode cX7_sheet 60 = .ok (.iload_n 3, 1) := by decide +kernel
theorem dX7_sheet_61 : decode cX7_sheet 61 = .ok (.invokevirtual 231, 3) := by decide +kernel
theorem dX7_sheet_64 : decode cX7_sheet 64 = .ok (.iconst 1, 1) := by decide +kernel
theorem dX7_sheet_65 : decode cX7_sheet 65 = .ok (.ireturn, 1) := by decide +kernel
theorem dX7_lose_0 : decode cX7_lose 0 = .ok (.iload_n 1, 1) := by decide +kernel
theorem dX7_lose_1 : decode cX7_lose 1 = .ok (.invokestatic 67, 3) := by decide +kernel
theorem dX7_lose_4 : decode cX7_lose 4 = .ok (.ifCond .ne 5, 3) := by decide +kernel
theorem dX7_lose_7 : decode cX7_lose 7 = .ok (.iconst (-1), 1) := by decide +kernel
theorem dX7_lose_8 : decode cX7_lose 8 = .ok (.ireturn, 1) := by decide +kernel
theorem dX7_lose_9 : decode cX7_lose 9 = .ok (.aload_n 0, 1) := by decide +kernel
theorem dX7_lose_10 : decode cX7_lose 10 = .ok (.getfield 12, 3) := by decide +kernel
theorem dX7_lose_13 : decode cX7_lose 13 = .ok (.iload_n 1, 1) := by decide +kernel
theorem dX7_lose_14 : decode cX7_lose 14 = .ok (.invokevirtual 235, 3) := by decide +kernel
theorem dX7_lose_17 : decode cX7_lose 17 = .ok (.ifCond .eq 5, 3) := by decide +kernel
theorem dX7_lose_20 : decode cX7_lose 20 = .ok (.iconst 0, 1) := by decide +kernel
theorem dX7_lose_21 : decode cX7_lose 21 = .ok (.ireturn, 1) := by decide +kernel
theorem dX7_lose_22 : decode cX7_lose 22 = .ok (.aload_n 0, 1) := by decide +kernel
theorem dX7_lose_23 : decode cX7_lose 23 = .ok (.getfield 12, 3) := by decide +kernel
theorem dX7_lose_26 : decode cX7_lose 26 = .ok (.iload_n 1, 1) := by decide +kernel
theorem dX7_lose_27 : decode cX7_lose 27 = .ok (.invokevirtual 238, 3) := by decide +kernel
theorem dX7_lose_30 : decode cX7_lose 30 = .ok (.iconst 1, 1) := by decide +kernel
theorem dX7_lose_31 : decode cX7_lose 31 = .ok (.ireturn, 1) := by decide +kernel
theorem dX7_put_0 : decode cX7_put 0 = .ok (.aload_n 0, 1) := by decide +kernel
theorem dX7_put_1 : decode cX7_put 1 = .ok (.iconst 0, 1) := by decide +kernel
theorem dX7_put_2 : decode cX7_put 2 = .ok (.putfield 64, 3) := by decide +kernel
theorem dX7_put_5 : decode cX7_put 5 = .ok (.iload_n 1, 1) := by decide +kernel
theorem dX7_put_6 : decode cX7_put 6 = .ok (.invokestatic 67, 3) := by decide +kernel
theorem dX7_put_9 : decode cX7_put 9 = .ok (.ifCond .ne 5, 3) := by decide +kernel
theorem dX7_put_12 : decode cX7_put 12 = .ok (.iconst (-1), 1) := by decide +kernel
theorem dX7_put_13 : decode cX7_put 13 = .ok (.ireturn, 1) := by decide +kernel
theorem dX7_put_14 : decode cX7_put 14 = .ok (.aload_n 0, 1) := by decide +kernel
theorem dX7_put_15 : decode cX7_put 15 = .ok (.getfield 12, 3) := by decide +kernel
theorem dX7_put_18 : decode cX7_put 18 = .ok (.iload_n 1, 1) := by decide +kernel
theorem dX7_put_19 : decode cX7_put 19 = .ok (.invokevirtual 235, 3) := by decide +kernel
theorem dX7_put_22 : decode cX7_put 22 = .ok (.ifCond .eq 8, 3) := by decide +kernel
theorem dX7_put_25 : decode cX7_put 25 = .ok (.aload_n 0, 1) := by decide +kernel
theorem dX7_put_26 : decode cX7_put 26 = .ok (.iconst 1, 1) := by decide +kernel
theorem dX7_put_27 : decode cX7_put 27 = .ok (.putfield 64, 3) := by decide +kernel
theorem dX7_put_30 : decode cX7_put 30 = .ok (.aload_n 0, 1) := by decide +kernel
theorem dX7_put_31 : decode cX7_put 31 = .ok (.getfield 64, 3) := by decide +kernel
theorem dX7_put_34 : decode cX7_put 34 = .ok (.ifCond .ne 16, 3) := by decide +kernel
theorem dX7_put_37 : decode cX7_put 37 = .ok (.aload_n 0, 1) := by decide +kernel
theorem dX7_put_38 : decode cX7_put 38 = .ok (.aload_n 0, 1) := by decide +kernel
theorem dX7_put_39 : decode cX7_put 39 = .ok (.getfield 12, 3) := by decide +kernel
theorem dX7_put_42 : decode cX7_put 42 = .ok (.iload_n 1, 1) := by decide +kernel
theorem dX7_put_43 : decode cX7_put 43 = .ok (.iload_n 2, 1) := by decide +kernel
theorem dX7_put_44 : decode cX7_put 44 = .ok (.invokevirtual 242, 3) := by decide +kernel
theorem dX7_put_47 : decode cX7_put 47 = .ok (.putfield 64, 3) := by decide +kernel
theorem dX7_put_50 : decode cX7_put 50 = .ok (.aload_n 0, 1) := by decide +kernel
theorem dX7_put_51 : decode cX7_put 51 = .ok (.getfield 64, 3) := by decide +kernel
theorem dX7_put_54 : decode cX7_put 54 = .ok (.ifCond .eq 11, 3) := by decide +kernel
theorem dX7_put_57 : decode cX7_put 57 = .ok (.bipush (-10), 2) := by decide +kernel
theorem dX7_put_59 : decode cX7_put 59 = .ok (.aload_n 0, 1) := by decide +kernel
theorem dX7_put_60 : decode cX7_put 60 = .ok (.getfield 64, 3) := by decide +kernel
theorem dX7_put_63 : decode cX7_put 63 = .ok (.isub, 1) := by decide +kernel
theorem dX7_put_64 : decode cX7_put 64 = .ok (.ireturn, 1) := by decide +kernel
theorem dX7_put_65 : decode cX7_put 65 = .ok (.aload_n 0, 1) := by decide +kernel
theorem dX7_put_66 : decode cX7_put 66 = .ok (.getfield 12, 3) := by decide +kernel
theorem dX7_put_69 : decode cX7_put 69 = .ok (.iload_n 1, 1) := by decide +kernel
theorem dX7_put_70 : decode cX7_put 70 = .ok (.iload_n 2, 1) := by decide +kernel
theorem dX7_put_71 : decode cX7_put 71 = .ok (.iload_n 3, 1) := by decide +kernel
theorem dX7_put_72 : decode cX7_put 72 = .ok (.invokevirtual 245, 3) := by decide +kernel
theorem dX7_put_75 : decode cX7_put 75 = .ok (.iconst 1, 1) := by decide +kernel
theorem dX7_put_76 : decode cX7_put 76 = .ok (.ireturn, 1) := by decide +kernel
theorem dX7_cell_0 : decode cX7_cell 0 = .ok (.aload_n 0, 1) := by decide +kernel
theorem dX7_cell_1 : decode cX7_cell 1 = .ok (.iconst 0, 1) := by decide +kernel
theorem dX7_cell_2 : decode cX7_cell 2 = .ok (.putfield 64, 3) := by decide +kernel
theorem dX7_cell_5 : decode cX7_cell 5 = .ok (.iload_n 1, 1) := by decide +kernel
theorem dX7_cell_6 : decode cX7_cell 6 = .ok (.invokestatic 67, 3) := by decide +kernel
theorem dX7_cell_9 : decode cX7_cell 9 = .ok (.ifCond .eq 10, 3) := by decide +kernel
theorem dX7_cell_12 : decode cX7_cell 12 = .ok (.iload_n 3, 1) := by decide +kernel
theorem dX7_cell_13 : decode cX7_cell 13 = .ok (.invokestatic 71, 3) := by decide +kernel
theorem dX7_cell_16 : decode cX7_cell 16 = .ok (.ifCond .ne 7, 3) := by decide +kernel
theorem dX7_cell_19 : decode cX7_cell 19 = .ok (.ldc2_w 217, 3) := by decide +kernel
theorem dX7_cell_22 : decode cX7_cell 22 = .ok (.lreturn, 1) := by decide +kernel
theorem dX7_cell_23 : decode cX7_cell 23 = .ok (.aload_n 0, 1) := by decide +kernel
theorem dX7_cell_24 : decode cX7_cell 24 = .ok (.aload_n 0, 1) := by decide +kernel
theorem dX7_cell_25 : decode cX7_cell 25 = .ok (.getfield 12, 3) := by decide +kernel
theorem dX7_cell_28 : decode cX7_cell 28 = .ok (.iload_n 1, 1) := by decide +kernel
theorem dX7_cell_29 : decode cX7_cell 29 = .ok (.iload_n 3, 1) := by decide +kernel
theorem dX7_cell_30 : decode cX7_cell 30 = .ok (.invokevirtual 74, 3) := by decide +kernel
theorem dX7_cell_33 : decode cX7_cell 33 = .ok (.putfield 64, 3) := by decide +kernel
theorem dX7_cell_36 : decode cX7_cell 36 = .ok (.aload_n 0, 1) := by decide +kernel
theorem dX7_cell_37 : decode cX7_cell 37 = .ok (.getfield 64, 3) := by decide +kernel
theorem dX7_cell_40 : decode cX7_cell 40 = .ok (.ifCond .ne 16, 3) := by decide +kernel
theorem dX7_cell_43 : decode cX7_cell 43 = .ok (.aload_n 0, 1) := by decide +kernel
theorem dX7_cell_44 : decode cX7_cell 44 = .ok (.aload_n 0, 1) := by decide +kernel
theorem dX7_cell_45 : decode cX7_cell 45 = .ok (.getfield 12, 3) := by decide +kernel
theorem dX7_cell_48 : decode cX7_cell 48 = .ok (.iload_n 1, 1) := by decide +kernel
theorem dX7_cell_49 : decode cX7_cell 49 = .ok (.iload_n 2, 1) := by decide +kernel
theorem dX7_cell_50 : decode cX7_cell 50 = .ok (.invokevirtual 242, 3) := by decide +kernel
theorem dX7_cell_53 : decode cX7_cell 53 = .ok (.putfield 64, 3) := by decide +kernel
theorem dX7_cell_56 : decode cX7_cell 56 = .ok (.aload_n 0, 1) := by decide +kernel
theorem dX7_cell_57 : decode cX7_cell 57 = .ok (.getfield 64, 3) := by decide +kernel
theorem dX7_cell_60 : decode cX7_cell 60 = .ok (.ifCond .eq 7, 3) := by decide +kernel
theorem dX7_cell_63 : decode cX7_cell 63 = .ok (.ldc2_w 217, 3) := by decide +kernel
theorem dX7_cell_66 : decode cX7_cell 66 = .ok (.lreturn, 1) := by decide +kernel
theorem dX7_cell_67 : decode cX7_cell 67 = .ok (.aload_n 0, 1) := by decide +kernel
theorem dX7_cell_68 : decode cX7_cell 68 = .ok (.getfield 12, 3) := by decide +kernel
theorem dX7_cell_71 : decode cX7_cell 71 = .ok (.iload_n 1, 1) := by decide +kernel
theorem dX7_cell_72 : decode cX7_cell 72 = .ok (.iload_n 2, 1) := by decide +kernel
theorem dX7_cell_73 : decode cX7_cell 73 = .ok (.invokevirtual 248, 3) := by decide +kernel
theorem dX7_cell_76 : decode cX7_cell 76 = .ok (.i2l, 1) := by decide +kernel
theorem dX7_cell_77 : decode cX7_cell 77 = .ok (.lreturn, 1) := by decide +kernel
theorem dX7_copy_0 : decode cX7_copy 0 = .ok (.aload_n 0, 1) := by decide +kernel
theorem dX7_copy_1 : decode cX7_copy 1 = .ok (.iconst 0, 1) := by decide +kernel
theorem dX7_copy_2 : decode cX7_copy 2 = .ok (.putfield 64, 3) := by decide +kernel
theorem dX7_copy_5 : decode cX7_copy 5 = .ok (.iload_n 1, 1) := by decide +kernel
theorem dX7_copy_6 : decode cX7_copy 6 = .ok (.invokestatic 67, 3) := by decide +kernel
theorem dX7_copy_9 : decode cX7_copy 9 = .ok (.ifCond .eq 10, 3) := by decide +kernel
theorem dX7_copy_12 : decode cX7_copy 12 = .ok (.iload_n 3, 1) := by decide +kernel
theorem dX7_copy_13 : decode cX7_copy 13 = .ok (.invokestatic 67, 3) := by decide +kernel
theorem dX7_copy_16 : decode cX7_copy 16 = .ok (.ifCond .ne 5, 3) := by decide +kernel
theorem dX7_copy_19 : decode cX7_copy 19 = .ok (.iconst (-1), 1) := by decide +kernel
theorem dX7_copy_20 : decode cX7_copy 20 = .ok (.ireturn, 1) := by decide +kernel
theorem dX7_copy_21 : decode cX7_copy 21 = .ok (.aload_n 0, 1) := by decide +kernel
theorem dX7_copy_22 : decode cX7_copy 22 = .ok (.aload_n 0, 1) := by decide +kernel
theorem dX7_copy_23 : decode cX7_copy 23 = .ok (.getfield 12, 3) := by decide +kernel
theorem dX7_copy_26 : decode cX7_copy 26 = .ok (.iload_n 1, 1) := by decide +kernel
theorem dX7_copy_27 : decode cX7_copy 27 = .ok (.iload_n 3, 1) := by decide +kernel
theorem dX7_copy_28 : decode cX7_copy 28 = .ok (.invokevirtual 251, 3) := by decide +kernel
theorem dX7_copy_31 : decode cX7_copy 31 = .ok (.putfield 64, 3) := by decide +kernel
theorem dX7_copy_34 : decode cX7_copy 34 = .ok (.aload_n 0, 1) := by decide +kernel
theorem dX7_copy_35 : decode cX7_copy 35 = .ok (.getfield 64, 3) := by decide +kernel
theorem dX7_copy_38 : decode cX7_copy 38 = .ok (.ifCond .ne 18, 3) := by decide +kernel
theorem dX7_copy_41 : decode cX7_copy 41 = .ok (.aload_n 0, 1) := by decide +kernel
theorem dX7_copy_42 : decode cX7_copy 42 = .ok (.aload_n 0, 1) := by decide +kernel
theorem dX7_copy_43 : decode cX7_copy 43 = .ok (.getfield 12, 3) := by decide +kernel
theorem dX7_copy_46 : decode cX7_copy 46 = .ok (.iload_n 1, 1) := by decide +kernel
theorem dX7_copy_47 : decode cX7_copy 47 = .ok (.iload_n 2, 1) := by decide +kernel
theorem dX7_copy_48 : decode cX7_copy 48 = .ok (.iload 5, 2) := by decide +kernel
theorem dX7_copy_50 : decode cX7_copy 50 = .ok (.invokevirtual 78, 3) := by decide +kernel
theorem dX7_copy_53 : decode cX7_copy 53 = .ok (.putfield 64, 3) := by decide +kernel
theorem dX7_copy_56 : decode cX7_copy 56 = .ok (.aload_n 0, 1) := by decide +kernel
theorem dX7_copy_57 : decode cX7_copy 57 = .ok (.getfield 64, 3) := by decide +kernel
theorem dX7_copy_60 : decode cX7_copy 60 = .ok (.ifCond .ne 19, 3) := by decide +kernel
theorem dX7_copy_63 : decode cX7_copy 63 = .ok (.aload_n 0, 1) := by decide +kernel
theorem dX7_copy_64 : decode cX7_copy 64 = .ok (.aload_n 0, 1) := by decide +kernel
theorem dX7_copy_65 : decode cX7_copy 65 = .ok (.getfield 12, 3) := by decide +kernel
theorem dX7_copy_68 : decode cX7_copy 68 = .ok (.iload_n 3, 1) := by decide +kernel
theorem dX7_copy_69 : decode cX7_copy 69 = .ok (.iload 4, 2) := by decide +kernel
theorem dX7_copy_71 : decode cX7_copy 71 = .ok (.iload 5, 2) := by decide +kernel
theorem dX7_copy_73 : decode cX7_copy 73 = .ok (.invokevirtual 78, 3) := by decide +kernel
theorem dX7_copy_76 : decode cX7_copy 76 = .ok (.putfield 64, 3) := by decide +kernel
theorem dX7_copy_79 : decode cX7_copy 79 = .ok (.aload_n 0, 1) := by decide +kernel
theorem dX7_copy_80 : decode cX7_copy 80 = .ok (.getfield 64, 3) := by decide +kernel
theorem dX7_copy_83 : decode cX7_copy 83 = .ok (.ifCond .eq 11, 3) := by decide +kernel
theorem dX7_copy_86 : decode cX7_copy 86 = .ok (.bipush (-10), 2) := by decide +kernel
theorem dX7_copy_88 : decode cX7_copy 88 = .ok (.aload_n 0, 1) := by decide +kernel
theorem dX7_copy_89 : decode cX7_copy 89 = .ok (.getfield 64, 3) := by decide +kernel
theorem dX7_copy_92 : decode cX7_copy 92 = .ok (.isub, 1) := by decide +kernel
theorem dX7_copy_93 : decode cX7_copy 93 = .ok (.ireturn, 1) := by decide +kernel
theorem dX7_copy_94 : decode cX7_copy 94 = .ok (.aload_n 0, 1) := by decide +kernel
theorem dX7_copy_95 : decode cX7_copy 95 = .ok (.getfield 12, 3) := by decide +kernel
theorem dX7_copy_98 : decode cX7_copy 98 = .ok (.iload_n 1, 1) := by decide +kernel
theorem dX7_copy_99 : decode cX7_copy 99 = .ok (.iload_n 2, 1) := by decide +kernel
theorem dX7_copy_100 : decode cX7_copy 100 = .ok (.iload_n 3, 1) := by decide +kernel
theorem dX7_copy_101 : decode cX7_copy 101 = .ok (.iload 4, 2) := by decide +kernel
theorem dX7_copy_103 : decode cX7_copy 103 = .ok (.iload 5, 2) := by decide +kernel
theorem dX7_copy_105 : decode cX7_copy 105 = .ok (.invokevirtual 254, 3) := by decide +kernel
theorem dX7_copy_108 : decode cX7_copy 108 = .ok (.iload 5, 2) := by decide +kernel
theorem dX7_copy_110 : decode cX7_copy 110 = .ok (.ireturn, 1) := by decide +kernel
theorem dX7_tell_0 : decode cX7_tell 0 = .ok (.aload_n 0, 1) := by decide +kernel
theorem dX7_tell_1 : decode cX7_tell 1 = .ok (.getfield 28, 3) := by decide +kernel
theorem dX7_tell_4 : decode cX7_tell 4 = .ok (.iload_n 1, 1) := by decide +kernel
theorem dX7_tell_5 : decode cX7_tell 5 = .ok (.invokevirtual 100, 3) := by decide +kernel
theorem dX7_tell_8 : decode cX7_tell 8 = .ok (.ifCond .ne 5, 3) := by decide +kernel
theorem dX7_tell_11 : decode cX7_tell 11 = .ok (.iconst (-1), 1) := by decide +kernel
theorem dX7_tell_12 : decode cX7_tell 12 = .ok (.ireturn, 1) := by decide +kernel
theorem dX7_tell_13 : decode cX7_tell 13 = .ok (.aload_n 0, 1) := by decide +kernel
theorem dX7_tell_14 : decode cX7_tell 14 = .ok (.getfield 28, 3) := by decide +kernel
theorem dX7_tell_17 : decode cX7_tell 17 = .ok (.getfield 103, 3) := by decide +kernel
theorem dX7_tell_20 : decode cX7_tell 20 = .ok (.iload_n 1, 1) := by decide +kernel
theorem dX7_tell_21 : decode cX7_tell 21 = .ok (.iaload, 1) := by decide +kernel
theorem dX7_tell_22 : decode cX7_tell 22 = .ok (.lookupswitch 38 #[(1, 32), (2, 26)], 26) := by decide +kernel
theorem dX7_tell_48 : decode cX7_tell 48 = .ok (.aload_n 0, 1) := by decide +kernel
theorem dX7_tell_49 : decode cX7_tell 49 = .ok (.iload_n 1, 1) := by decide +kernel
theorem dX7_tell_50 : decode cX7_tell 50 = .ok (.invokevirtual 258, 3) := by decide +kernel
theorem dX7_tell_53 : decode cX7_tell 53 = .ok (.ireturn, 1) := by decide +kernel
theorem dX7_tell_54 : decode cX7_tell 54 = .ok (.aload_n 0, 1) := by decide +kernel
theorem dX7_tell_55 : decode cX7_tell 55 = .ok (.iload_n 1, 1) := by decide +kernel
theorem dX7_tell_56 : decode cX7_tell 56 = .ok (.invokevirtual 261, 3) := by decide +kernel
theorem dX7_tell_59 : decode cX7_tell 59 = .ok (.ireturn, 1) := by decide +kernel
theorem dX7_tell_60 : decode cX7_tell 60 = .ok (.aload_n 0, 1) := by decide +kernel
theorem dX7_tell_61 : decode cX7_tell 61 = .ok (.iload_n 1, 1) := by decide +kernel
theorem dX7_tell_62 : decode cX7_tell 62 = .ok (.invokevirtual 264, 3) := by decide +kernel
theorem dX7_tell_65 : decode cX7_tell 65 = .ok (.ireturn, 1) := by decide +kernel
theorem dX7_haunt_0 : decode cX7_haunt 0 = .ok (.aload_n 0, 1) := by decide +kernel
theorem dX7_haunt_1 : decode cX7_haunt 1 = .ok (.getfield 28, 3) := by decide +kernel
theorem dX7_haunt_4 : decode cX7_haunt 4 = .ok (.iload_n 1, 1) := by decide +kernel
theorem dX7_haunt_5 : decode cX7_haunt 5 = .ok (.invokevirtual 100, 3) := by decide +kernel
theorem dX7_haunt_8 : decode cX7_haunt 8 = .ok (.ifCond .ne 5, 3) := by decide +kernel
theorem dX7_haunt_11 : decode cX7_haunt 11 = .ok (.iconst (-1), 1) := by decide +kernel
theorem dX7_haunt_12 : decode cX7_haunt 12 = .ok (.ireturn, 1) := by decide +kernel
theorem dX7_haunt_13 : decode cX7_haunt 13 = .ok (.aload_n 0, 1) := by decide +kernel
theorem dX7_haunt_14 : decode cX7_haunt 14 = .ok (.getfield 28, 3) := by decide +kernel
theorem dX7_haunt_17 : decode cX7_haunt 17 = .ok (.getfield 103, 3) := by decide +kernel
theorem dX7_haunt_20 : decode cX7_haunt 20 = .ok (.iload_n 1, 1) := by decide +kernel
theorem dX7_haunt_21 : decode cX7_haunt 21 = .ok (.iaload, 1) := by decide +kernel
theorem dX7_haunt_22 : decode cX7_haunt 22 = .ok (.iconst 2, 1) := by decide +kernel
theorem dX7_haunt_23 : decode cX7_haunt 23 = .ok (.if_icmp .ne 10, 3) := by decide +kernel
theorem dX7_haunt_26 : decode cX7_haunt 26 = .ok (.aload_n 0, 1) := by decide +kernel
theorem dX7_haunt_27 : decode cX7_haunt 27 = .ok (.invokevirtual 267, 3) := by decide +kernel
theorem dX7_haunt_30 : decode cX7_haunt 30 = .ok (.goto 8, 3) := by decide +kernel
theorem dX7_haunt_33 : decode cX7_haunt 33 = .ok (.aload_n 0, 1) := by decide +kernel
theorem dX7_haunt_34 : decode cX7_haunt 34 = .ok (.iload_n 1, 1) := by decide +kernel
theorem dX7_haunt_35 : decode cX7_haunt 35 = .ok (.invokevirtual 270, 3) := by decide +kernel
theorem dX7_haunt_38 : decode cX7_haunt 38 = .ok (.ireturn, 1) := by decide +kernel
theorem dX7_as_0 : decode cX7_as 0 = .ok (.aload_n 0, 1) := by decide +kernel
theorem dX7_as_1 : decode cX7_as 1 = .ok (.iconst 0, 1) := by decide +kernel
theorem dX7_as_2 : decode cX7_as 2 = .ok (.putfield 64, 3) := by decide +kernel
theorem dX7_as_5 : decode cX7_as 5 = .ok (.aload_n 0, 1) := by decide +kernel
theorem dX7_as_6 : decode cX7_as 6 = .ok (.getfield 28, 3) := by decide +kernel
theorem dX7_as_9 : decode cX7_as 9 = .ok (.iload_n 1, 1) := by decide +kernel
theorem dX7_as_10 : decode cX7_as 10 = .ok (.invokevirtual 100, 3) := by decide +kernel
theorem dX7_as_13 : decode cX7_as 13 = .ok (.ifCond .ne 5, 3) := by decide +kernel
theorem dX7_as_16 : decode cX7_as 16 = .ok (.iconst (-1), 1) := by decide +kernel
theorem dX7_as_17 : decode cX7_as 17 = .ok (.ireturn, 1) := by decide +kernel
theorem dX7_as_18 : decode cX7_as 18 = .ok (.iload_n 2, 1) := by decide +kernel
theorem dX7_as_19 : decode cX7_as 19 = .ok (.ifCond .lt 8, 3) := by decide +kernel
theorem dX7_as_22 : decode cX7_as 22 = .ok (.iload_n 2, 1) := by decide +kernel
theorem dX7_as_23 : decode cX7_as 23 = .ok (.iconst 2, 1) := by decide +kernel
theorem dX7_as_24 : decode cX7_as 24 = .ok (.if_icmp .le 6, 3) := by decide +kernel
theorem dX7_as_27 : decode cX7_as 27 = .ok (.bipush (-2), 2) := by decide +kernel
theorem dX7_as_29 : decode cX7_as 29 = .ok (.ireturn, 1) := by decide +kernel
theorem dX7_as_30 : decode cX7_as 30 = .ok (.aload_n 0, 1) := by decide +kernel
theorem dX7_as_31 : decode cX7_as 31 = .ok (.getfield 28, 3) := by decide +kernel
theorem dX7_as_34 : decode cX7_as 34 = .ok (.getfield 103, 3) := by decide +kernel
theorem dX7_as_37 : decode cX7_as 37 = .ok (.iload_n 1, 1) := by decide +kernel
theorem dX7_as_38 : decode cX7_as 38 = .ok (.iaload, 1) := by decide +kernel
theorem dX7_as_39 : decode cX7_as 39 = .ok (.iload_n 2, 1) := by decide +kernel
theorem dX7_as_40 : decode cX7_as 40 = .ok (.if_icmp .ge 8, 3) := by decide +kernel
theorem dX7_as_43 : decode cX7_as 43 = .ok (.aload_n 0, 1) := by decide +kernel
theorem dX7_as_44 : decode cX7_as 44 = .ok (.iconst 2, 1) := by decide +kernel
theorem dX7_as_45 : decode cX7_as 45 = .ok (.putfield 64, 3) := by decide +kernel
theorem dX7_as_48 : decode cX7_as 48 = .ok (.aload_n 0, 1) := by decide +kernel
theorem dX7_as_49 : decode cX7_as 49 = .ok (.getfield 64, 3) := by decide +kernel
theorem dX7_as_52 : decode cX7_as 52 = .ok (.ifCond .ne 7, 3) := by decide +kernel
theorem dX7_as_55 : decode cX7_as 55 = .ok (.iconst 1, 1) := by decide +kernel
theorem dX7_as_56 : decode cX7_as 56 = .ok (.goto 10, 3) := by decide +kernel
theorem dX7_as_59 : decode cX7_as 59 = .ok (.bipush (-10), 2) := by decide +kernel
theorem dX7_as_61 : decode cX7_as 61 = .ok (.aload_n 0, 1) := by decide +kernel
theorem dX7_as_62 : decode cX7_as 62 = .ok (.getfield 64, 3) := by decide +kernel
theorem dX7_as_65 : decode cX7_as 65 = .ok (.isub, 1) := by decide +kernel
theorem dX7_as_66 : decode cX7_as 66 = .ok (.ireturn, 1) := by decide +kernel
theorem dX7_trace_0 : decode cX7_trace 0 = .ok (.aload_n 0, 1) := by decide +kernel
theorem dX7_trace_1 : decode cX7_trace 1 = .ok (.getfield 60, 3) := by decide +kernel
theorem dX7_trace_4 : decode cX7_trace 4 = .ok (.ireturn, 1) := by decide +kernel
theorem dX7_fault_0 : decode cX7_fault 0 = .ok (.aload_n 0, 1) := by decide +kernel
theorem dX7_fault_1 : decode cX7_fault 1 = .ok (.getfield 64, 3) := by decide +kernel
theorem dX7_fault_4 : decode cX7_fault 4 = .ok (.ireturn, 1) := by decide +kernel
theorem dX7_many_0 : decode cX7_many 0 = .ok (.iload_n 1, 1) := by decide +kernel
theorem dX7_many_1 : decode cX7_many 1 = .ok (.tableswitch 78 0 4 #[35, 43, 51, 59, 70], 35) := by decide +kernel
theorem dX7_many_36 : decode cX7_many 36 = .ok (.aload_n 0, 1) := by decide +kernel
theorem dX7_many_37 : decode cX7_many 37 = .ok (.getfield 28, 3) := by decide +kernel
theorem dX7_many_40 : decode cX7_many 40 = .ok (.getfield 97, 3) := by decide +kernel
theorem dX7_many_43 : decode cX7_many 43 = .ok (.ireturn, 1) := by decide +kernel
theorem dX7_many_44 : decode cX7_many 44 = .ok (.aload_n 0, 1) := by decide +kernel
theorem dX7_many_45 : decode cX7_many 45 = .ok (.getfield 28, 3) := by decide +kernel
theorem dX7_many_48 : decode cX7_many 48 = .ok (.getfield 191, 3) := by decide +kernel
theorem dX7_many_51 : decode cX7_many 51 = .ok (.ireturn, 1) := by decide +kernel
theorem dX7_many_52 : decode cX7_many 52 = .ok (.aload_n 0, 1) := by decide +kernel
theorem dX7_many_53 : decode cX7_many 53 = .ok (.getfield 28, 3) := by decide +kernel
theorem dX7_many_56 : decode cX7_many 56 = .ok (.getfield 273, 3) := by decide +kernel
theorem dX7_many_59 : decode cX7_many 59 = .ok (.ireturn, 1) := by decide +kernel
theorem dX7_many_60 : decode cX7_many 60 = .ok (.aload_n 0, 1) := by decide +kernel
theorem dX7_many_61 : decode cX7_many 61 = .ok (.getfield 28, 3) := by decide +kernel
theorem dX7_many_64 : decode cX7_many 64 = .ok (.invokevirtual 276, 3) := by decide +kernel
theorem dX7_many_67 : decode cX7_many 67 = .ok (.invokestatic 148, 3) := by decide +kernel
theorem dX7_many_70 : decode cX7_many 70 = .ok (.ireturn, 1) := by decide +kernel
theorem dX7_many_71 : decode cX7_many 71 = .ok (.aload_n 0, 1) := by decide +kernel
theorem dX7_many_72 : decode cX7_many 72 = .ok (.getfield 56, 3) := by decide +kernel
theorem dX7_many_75 : decode cX7_many 75 = .ok (.getfield 94, 3) := by decide +kernel
theorem dX7_many_78 : decode cX7_many 78 = .ok (.ireturn, 1) := by decide +kernel
theorem dX7_many_79 : decode cX7_many 79 = .ok (.bipush (-2), 2) := by decide +kernel
theorem dX7_many_81 : decode cX7_many 81 = .ok (.ireturn, 1) := by decide +kernel
theorem dX7_begin_0 : decode cX7_begin 0 = .ok (.aload_n 0, 1) := by decide +kernel
theorem dX7_begin_1 : decode cX7_begin 1 = .ok (.bipush 31, 2) := by decide +kernel
theorem dX7_begin_3 : decode cX7_begin 3 = .ok (.aload_n 0, 1) := by decide +kernel
theorem dX7_begin_4 : decode cX7_begin 4 = .ok (.getfield 60, 3) := by decide +kernel
theorem dX7_begin_7 : decode cX7_begin 7 = .ok (.imul, 1) := by decide +kernel
theorem dX7_begin_8 : decode cX7_begin 8 = .ok (.iload_n 1, 1) := by decide +kernel
theorem dX7_begin_9 : decode cX7_begin 9 = .ok (.iadd, 1) := by decide +kernel
theorem dX7_begin_10 : decode cX7_begin 10 = .ok (.putfield 60, 3) := by decide +kernel
theorem dX7_begin_13 : decode cX7_begin 13 = .ok (.return_, 1) := by decide +kernel
theorem dX7_roundBody_0 : decode cX7_roundBody 0 = .ok (.aload_n 0, 1) := by decide +kernel
theorem dX7_roundBody_1 : decode cX7_roundBody 1 = .ok (.iconst 1, 1) := by decide +kernel
theorem dX7_roundBody_2 : decode cX7_roundBody 2 = .ok (.invokevirtual 279, 3) := by decide +kernel
theorem dX7_roundBody_5 : decode cX7_roundBody 5 = .ok (.aload_n 0, 1) := by decide +kernel
theorem dX7_roundBody_6 : decode cX7_roundBody 6 = .ok (.getfield 28, 3) := by decide +kernel
theorem dX7_roundBody_9 : decode cX7_roundBody 9 = .ok (.iload_n 1, 1) := by decide +kernel
theorem dX7_roundBody_10 : decode cX7_roundBody 10 = .ok (.invokevirtual 100, 3) := by decide +kernel
theorem dX7_roundBody_13 : decode cX7_roundBody 13 = .ok (.ifCond .eq 15, 3) := by decide +kernel
theorem dX7_roundBody_16 : decode cX7_roundBody 16 = .ok (.aload_n 0, 1) := by decide +kernel
theorem dX7_roundBody_17 : decode cX7_roundBody 17 = .ok (.getfield 28, 3) := by decide +kernel
theorem dX7_roundBody_20 : decode cX7_roundBody 20 = .ok (.getfield 107, 3) := by decide +kernel
theorem dX7_roundBody_23 : decode cX7_roundBody 23 = .ok (.iload_n 1, 1) := by decide +kernel
theorem dX7_roundBody_24 : decode cX7_roundBody 24 = .ok (.iaload, 1) := by decide +kernel
theorem dX7_roundBody_25 : decode cX7_roundBody 25 = .ok (.goto 4, 3) := by decide +kernel
theorem dX7_roundBody_28 : decode cX7_roundBody 28 = .ok (.iconst 0, 1) := by decide +kernel
theorem dX7_roundBody_29 : decode cX7_roundBody 29 = .ok (.ireturn, 1) := by decide +kernel
theorem dX7_longBody_0 : decode cX7_longBody 0 = .ok (.aload_n 0, 1) := by decide +kernel
theorem dX7_longBody_1 : decode cX7_longBody 1 = .ok (.iconst 2, 1) := by decide +kernel
theorem dX7_longBody_2 : decode cX7_longBody 2 = .ok (.invokevirtual 279, 3) := by decide +kernel
theorem dX7_longBody_5 : decode cX7_longBody 5 = .ok (.aload_n 0, 1) := by decide +kernel
theorem dX7_longBody_6 : decode cX7_longBody 6 = .ok (.iload_n 1, 1) := by decide +kernel
theorem dX7_longBody_7 : decode cX7_longBody 7 = .ok (.invokevirtual 264, 3) := by decide +kernel
theorem dX7_longBody_10 : decode cX7_longBody 10 = .ok (.bipush 100, 2) := by decide +kernel
theorem dX7_longBody_12 : decode cX7_longBody 12 = .ok (.iadd, 1) := by decide +kernel
theorem dX7_longBody_13 : decode cX7_longBody 13 = .ok (.ireturn, 1) := by decide +kernel
theorem dX7_ringBody_0 : decode cX7_ringBody 0 = .ok (.aload_n 0, 1) := by decide +kernel
theorem dX7_ringBody_1 : decode cX7_ringBody 1 = .ok (.iconst 3, 1) := by decide +kernel
theorem dX7_ringBody_2 : decode cX7_ringBody 2 = .ok (.invokevirtual 279, 3) := by decide +kernel
theorem dX7_ringBody_5 : decode cX7_ringBody 5 = .ok (.aload_n 0, 1) := by decide +kernel
theorem dX7_ringBody_6 : decode cX7_ringBody 6 = .ok (.iload_n 1, 1) := by decide +kernel
theorem dX7_ringBody_7 : decode cX7_ringBody 7 = .ok (.invokevirtual 261, 3) := by decide +kernel
theorem dX7_ringBody_10 : decode cX7_ringBody 10 = .ok (.istore_n 2, 1) := by decide +kernel
theorem dX7_ringBody_11 : decode cX7_ringBody 11 = .ok (.iload_n 2, 1) := by decide +kernel
theorem dX7_ringBody_12 : decode cX7_ringBody 12 = .ok (.aload_n 0, 1) := by decide +kernel
theorem dX7_ringBody_13 : decode cX7_ringBody 13 = .ok (.iload_n 1, 1) := by decide +kernel
theorem dX7_ringBody_14 : decode cX7_ringBody 14 = .ok (.invokevirtual 264, 3) := by decide +kernel
theorem dX7_ringBody_17 : decode cX7_ringBody 17 = .ok (.iadd, 1) := by decide +kernel
theorem dX7_ringBody_18 : decode cX7_ringBody 18 = .ok (.ireturn, 1) := by decide +kernel
theorem dX7_lentHaunt_0 : decode cX7_lentHaunt 0 = .ok (.aload_n 0, 1) := by decide +kernel
theorem dX7_lentHaunt_1 : decode cX7_lentHaunt 1 = .ok (.iconst 4, 1) := by decide +kernel
theorem dX7_lentHaunt_2 : decode cX7_lentHaunt 2 = .ok (.invokevirtual 279, 3) := by decide +kernel
theorem dX7_lentHaunt_5 : decode cX7_lentHaunt 5 = .ok (.iload_n 1, 1) := by decide +kernel
theorem dX7_lentHaunt_6 : decode cX7_lentHaunt 6 = .ok (.ireturn, 1) := by decide +kernel
theorem dX7_ringHaunt_0 : decode cX7_ringHaunt 0 = .ok (.aload_n 0, 1) := by decide +kernel
theorem dX7_ringHaunt_1 : decode cX7_ringHaunt 1 = .ok (.iconst 5, 1) := by decide +kernel
theorem dX7_ringHaunt_2 : decode cX7_ringHaunt 2 = .ok (.invokevirtual 279, 3) := by decide +kernel
theorem dX7_ringHaunt_5 : decode cX7_ringHaunt 5 = .ok (.bipush 70, 2) := by decide +kernel
theorem dX7_ringHaunt_7 : decode cX7_ringHaunt 7 = .ok (.ireturn, 1) := by decide +kernel
theorem dX7_isLane_0 : decode cX7_isLane 0 = .ok (.iload_n 0, 1) := by decide +kernel
theorem dX7_isLane_1 : decode cX7_isLane 1 = .ok (.ifCond .lt 12, 3) := by decide +kernel
theorem dX7_isLane_4 : decode cX7_isLane 4 = .ok (.iload_n 0, 1) := by decide +kernel
theorem dX7_isLane_5 : decode cX7_isLane 5 = .ok (.iconst 2, 1) := by decide +kernel
theorem dX7_isLane_6 : decode cX7_isLane 6 = .ok (.if_icmp .gt 7, 3) := by decide +kernel
theorem dX7_isLane_9 : decode cX7_isLane 9 = .ok (.iconst 1, 1) := by decide +kernel
theorem dX7_isLane_10 : decode cX7_isLane 10 = .ok (.goto 4, 3) := by decide +kernel
theorem dX7_isLane_13 : decode cX7_isLane 13 = .ok (.iconst 0, 1) := by decide +kernel
theorem dX7_isLane_14 : decode cX7_isLane 14 = .ok (.ireturn, 1) := by decide +kernel
theorem dX7_holdsAs_0 : decode cX7_holdsAs 0 = .ok (.iload_n 0, 1) := by decide +kernel
theorem dX7_holdsAs_1 : decode cX7_holdsAs 1 = .ok (.lookupswitch 35 #[(1, 31), (2, 27)], 27) := by decide +kernel
theorem dX7_holdsAs_28 : decode cX7_holdsAs 28 = .ok (.iload_n 1, 1) := by decide +kernel
theorem dX7_holdsAs_29 : decode cX7_holdsAs 29 = .ok (.iconst 1, 1) := by decide +kernel
theorem dX7_holdsAs_30 : decode cX7_holdsAs 30 = .ok (.iadd, 1) := by decide +kernel
theorem dX7_holdsAs_31 : decode cX7_holdsAs 31 = .ok (.ireturn, 1) := by decide +kernel
theorem dX7_holdsAs_32 : decode cX7_holdsAs 32 = .ok (.iconst 2, 1) := by decide +kernel
theorem dX7_holdsAs_33 : decode cX7_holdsAs 33 = .ok (.iload_n 1, 1) := by decide +kernel
theorem dX7_holdsAs_34 : decode cX7_holdsAs 34 = .ok (.imul, 1) := by decide +kernel
theorem dX7_holdsAs_35 : decode cX7_holdsAs 35 = .ok (.ireturn, 1) := by decide +kernel
theorem dX7_holdsAs_36 : decode cX7_holdsAs 36 = .ok (.iload_n 1, 1) := by decide +kernel
theorem dX7_holdsAs_37 : decode cX7_holdsAs 37 = .ok (.ireturn, 1) := by decide +kernel
theorem dX7_isNear_0 : decode cX7_isNear 0 = .ok (.iload_n 0, 1) := by decide +kernel
theorem dX7_isNear_1 : decode cX7_isNear 1 = .ok (.iload_n 1, 1) := by decide +kernel
theorem dX7_isNear_2 : decode cX7_isNear 2 = .ok (.isub, 1) := by decide +kernel
theorem dX7_isNear_3 : decode cX7_isNear 3 = .ok (.invokestatic 282, 3) := by decide +kernel
theorem dX7_isNear_6 : decode cX7_isNear 6 = .ok (.iload_n 2, 1) := by decide +kernel
theorem dX7_isNear_7 : decode cX7_isNear 7 = .ok (.if_icmp .gt 7, 3) := by decide +kernel
theorem dX7_isNear_10 : decode cX7_isNear 10 = .ok (.iconst 1, 1) := by decide +kernel
theorem dX7_isNear_11 : decode cX7_isNear 11 = .ok (.goto 4, 3) := by decide +kernel
theorem dX7_isNear_14 : decode cX7_isNear 14 = .ok (.iconst 0, 1) := by decide +kernel
theorem dX7_isNear_15 : decode cX7_isNear 15 = .ok (.ireturn, 1) := by decide +kernel
theorem dX7_power_0 : decode cX7_power 0 = .ok (.lconst 1, 1) := by decide +kernel
theorem dX7_power_1 : decode cX7_power 1 = .ok (.lstore_n 3, 1) := by decide +kernel
theorem dX7_power_2 : decode cX7_power 2 = .ok (.iconst 0, 1) := by decide +kernel
theorem dX7_power_3 : decode cX7_power 3 = .ok (.istore 5, 2) := by decide +kernel
theorem dX7_power_5 : decode cX7_power 5 = .ok (.iload 5, 2) := by decide +kernel
theorem dX7_power_7 : decode cX7_power 7 = .ok (.iload_n 2, 1) := by decide +kernel
theorem dX7_power_8 : decode cX7_power 8 = .ok (.if_icmp .ge 13, 3) := by decide +kernel
theorem dX7_power_11 : decode cX7_power 11 = .ok (.lload_n 3, 1) := by decide +kernel
theorem dX7_power_12 : decode cX7_power 12 = .ok (.lload_n 0, 1) := by decide +kernel
theorem dX7_power_13 : decode cX7_power 13 = .ok (.lmul, 1) := by decide +kernel
theorem dX7_power_14 : decode cX7_power 14 = .ok (.lstore_n 3, 1) := by decide +kernel
theorem dX7_power_15 : decode cX7_power 15 = .ok (.iinc 5 1, 3) := by decide +kernel
theorem dX7_power_18 : decode cX7_power 18 = .ok (.goto (-13), 3) := by decide +kernel
theorem dX7_power_21 : decode cX7_power 21 = .ok (.lload_n 3, 1) := by decide +kernel
theorem dX7_power_22 : decode cX7_power 22 = .ok (.lreturn, 1) := by decide +kernel
theorem dX7_choices_0 : decode cX7_choices 0 = .ok (.lconst 1, 1) := by decide +kernel
theorem dX7_choices_1 : decode cX7_choices 1 = .ok (.lstore_n 2, 1) := by decide +kernel
theorem dX7_choices_2 : decode cX7_choices 2 = .ok (.iconst 1, 1) := by decide +kernel
theorem dX7_choices_3 : decode cX7_choices 3 = .ok (.istore 4, 2) := by decide +kernel
theorem dX7_choices_5 : decode cX7_choices 5 = .ok (.iload 4, 2) := by decide +kernel
theorem dX7_choices_7 : decode cX7_choices 7 = .ok (.iload_n 1, 1) := by decide +kernel
theorem dX7_choices_8 : decode cX7_choices 8 = .ok (.if_icmp .gt 23, 3) := by decide +kernel
theorem dX7_choices_11 : decode cX7_choices 11 = .ok (.lload_n 2, 1) := by decide +kernel
theorem dX7_choices_12 : decode cX7_choices 12 = .ok (.iload_n 0, 1) := by decide +kernel
theorem dX7_choices_13 : decode cX7_choices 13 = .ok (.iload_n 1, 1) := by decide +kernel
theorem dX7_choices_14 : decode cX7_choices 14 = .ok (.isub, 1) := by decide +kernel
theorem dX7_choices_15 : decode cX7_choices 15 = .ok (.iload 4, 2) := by decide +kernel
theorem dX7_choices_17 : decode cX7_choices 17 = .ok (.iadd, 1) := by decide +kernel
theorem dX7_choices_18 : decode cX7_choices 18 = .ok (.i2l, 1) := by decide +kernel
theorem dX7_choices_19 : decode cX7_choices 19 = .ok (.lmul, 1) := by decide +kernel
theorem dX7_choices_20 : decode cX7_choices 20 = .ok (.iload 4, 2) := by decide +kernel
theorem dX7_choices_22 : decode cX7_choices 22 = .ok (.i2l, 1) := by decide +kernel
theorem dX7_choices_23 : decode cX7_choices 23 = .ok (.ldiv, 1) := by decide +kernel
theorem dX7_choices_24 : decode cX7_choices 24 = .ok (.lstore_n 2, 1) := by decide +kernel
theorem dX7_choices_25 : decode cX7_choices 25 = .ok (.iinc 4 1, 3) := by decide +kernel
theorem dX7_choices_28 : decode cX7_choices 28 = .ok (.goto (-23), 3) := by decide +kernel
theorem dX7_choices_31 : decode cX7_choices 31 = .ok (.lload_n 2, 1) := by decide +kernel
theorem dX7_choices_32 : decode cX7_choices 32 = .ok (.lreturn, 1) := by decide +kernel
theorem dX7_commonPart_0 : decode cX7_commonPart 0 = .ok (.lload_n 0, 1) := by decide +kernel
theorem dX7_commonPart_1 : decode cX7_commonPart 1 = .ok (.lstore 4, 2) := by decide +kernel
theorem dX7_commonPart_3 : decode cX7_commonPart 3 = .ok (.lload_n 2, 1) := by decide +kernel
theorem dX7_commonPart_4 : decode cX7_commonPart 4 = .ok (.lstore 6, 2) := by decide +kernel
theorem dX7_commonPart_6 : decode cX7_commonPart 6 = .ok (.iconst 0, 1) := by decide +kernel
theorem dX7_commonPart_7 : decode cX7_commonPart 7 = .ok (.istore 8, 2) := by decide +kernel
theorem dX7_commonPart_9 : decode cX7_commonPart 9 = .ok (.iload 8, 2) := by decide +kernel
theorem dX7_commonPart_11 : decode cX7_commonPart 11 = .ok (.bipush 100, 2) := by decide +kernel
theorem dX7_commonPart_13 : decode cX7_commonPart 13 = .ok (.if_icmp .ge 31, 3) := by decide +kernel
theorem dX7_commonPart_16 : decode cX7_commonPart 16 = .ok (.lload 6, 2) := by decide +kernel
theorem dX7_commonPart_18 : decode cX7_commonPart 18 = .ok (.lconst 0, 1) := by decide +kernel
theorem dX7_commonPart_19 : decode cX7_commonPart 19 = .ok (.lcmp, 1) := by decide +kernel
theorem dX7_commonPart_20 : decode cX7_commonPart 20 = .ok (.ifCond .eq 24, 3) := by decide +kernel
theorem dX7_commonPart_23 : decode cX7_commonPart 23 = .ok (.lload 4, 2) := by decide +kernel
theorem dX7_commonPart_25 : decode cX7_commonPart 25 = .ok (.lload 6, 2) := by decide +kernel
theorem dX7_commonPart_27 : decode cX7_commonPart 27 = .ok (.lrem, 1) := by decide +kernel
theorem dX7_commonPart_28 : decode cX7_commonPart 28 = .ok (.lstore 9, 2) := by decide +kernel
theorem dX7_commonPart_30 : decode cX7_commonPart 30 = .ok (.lload 6, 2) := by decide +kernel
theorem dX7_commonPart_32 : decode cX7_commonPart 32 = .ok (.lstore 4, 2) := by decide +kernel
theorem dX7_commonPart_34 : decode cX7_commonPart 34 = .ok (.lload 9, 2) := by decide +kernel
theorem dX7_commonPart_36 : decode cX7_commonPart 36 = .ok (.lstore 6, 2) := by decide +kernel
theorem dX7_commonPart_38 : decode cX7_commonPart 38 = .ok (.iinc 8 1, 3) := by decide +kernel
theorem dX7_commonPart_41 : decode cX7_commonPart 41 = .ok (.goto (-32), 3) := by decide +kernel
theorem dX7_commonPart_44 : decode cX7_commonPart 44 = .ok (.lload 4, 2) := by decide +kernel
theorem dX7_commonPart_46 : decode cX7_commonPart 46 = .ok (.lreturn, 1) := by decide +kernel
