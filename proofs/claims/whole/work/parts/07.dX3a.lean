theorem dX3_init_0 : decode cX3_init 0 = .ok (.aload_n 0, 1) := by decide +kernel
theorem dX3_init_1 : decode cX3_init 1 = .ok (.invokespecial 3, 3) := by decide +kernel
theorem dX3_init_4 : decode cX3_init 4 = .ok (.aload_n 0, 1) := by decide +kernel
theorem dX3_init_5 : decode cX3_init 5 = .ok (.bipush 8, 2) := by decide +kernel
theorem dX3_init_7 : decode cX3_init 7 = .ok (.newarray .int, 2) := by decide +kernel
theorem dX3_init_9 : decode cX3_init 9 = .ok (.putfield 11, 3) := by decide +kernel
theorem dX3_init_12 : decode cX3_init 12 = .ok (.aload_n 0, 1) := by decide +kernel
theorem dX3_init_13 : decode cX3_init 13 = .ok (.bipush 8, 2) := by decide +kernel
theorem dX3_init_15 : decode cX3_init 15 = .ok (.newarray .int, 2) := by decide +kernel
theorem dX3_init_17 : decode cX3_init 17 = .ok (.putfield 15, 3) := by decide +kernel
theorem dX3_init_20 : decode cX3_init 20 = .ok (.aload_n 0, 1) := by decide +kernel
theorem dX3_init_21 : decode cX3_init 21 = .ok (.bipush 8, 2) := by decide +kernel
theorem dX3_init_23 : decode cX3_init 23 = .ok (.newarray .int, 2) := by decide +kernel
theorem dX3_init_25 : decode cX3_init 25 = .ok (.putfield 18, 3) := by decide +kernel
theorem dX3_init_28 : decode cX3_init 28 = .ok (.return_, 1) := by decide +kernel
theorem dX3_hasRoom_0 : decode cX3_hasRoom 0 = .ok (.aload_n 0, 1) := by decide +kernel
theorem dX3_hasRoom_1 : decode cX3_hasRoom 1 = .ok (.getfield 21, 3) := by decide +kernel
theorem dX3_hasRoom_4 : decode cX3_hasRoom 4 = .ok (.bipush 8, 2) := by decide +kernel
theorem dX3_hasRoom_6 : decode cX3_hasRoom 6 = .ok (.if_icmp .ge 7, 3) := by decide +kernel
theorem dX3_hasRoom_9 : decode cX3_hasRoom 9 = .ok (.iconst 1, 1) := by decide +kernel
theorem dX3_hasRoom_10 : decode cX3_hasRoom 10 = .ok (.goto 4, 3) := by decide +kernel
theorem dX3_hasRoom_13 : decode cX3_hasRoom 13 = .ok (.iconst 0, 1) := by decide +kernel
theorem dX3_hasRoom_14 : decode cX3_hasRoom 14 = .ok (.ireturn, 1) := by decide +kernel
theorem dX3_note_0 : decode cX3_note 0 = .ok (.aload_n 0, 1) := by decide +kernel
theorem dX3_note_1 : decode cX3_note 1 = .ok (.invokevirtual 25, 3) := by decide +kernel
theorem dX3_note_4 : decode cX3_note 4 = .ok (.ifCond .ne 6, 3) := by decide +kernel
theorem dX3_note_7 : decode cX3_note 7 = .ok (.bipush (-4), 2) := by decide +kernel
theorem dX3_note_9 : decode cX3_note 9 = .ok (.ireturn, 1) := by decide +kernel
theorem dX3_note_10 : decode cX3_note 10 = .ok (.aload_n 0, 1) := by decide +kernel
theorem dX3_note_11 : decode cX3_note 11 = .ok (.getfield 11, 3) := by decide +kernel
theorem dX3_note_14 : decode cX3_note 14 = .ok (.aload_n 0, 1) := by decide +kernel
theorem dX3_note_15 : decode cX3_note 15 = .ok (.getfield 21, 3) := by decide +kernel
theorem dX3_note_18 : decode cX3_note 18 = .ok (.iload_n 1, 1) := by decide +kernel
theorem dX3_note_19 : decode cX3_note 19 = .ok (.iastore, 1) := by decide +kernel
theorem dX3_note_20 : decode cX3_note 20 = .ok (.aload_n 0, 1) := by decide +kernel
theorem dX3_note_21 : decode cX3_note 21 = .ok (.getfield 15, 3) := by decide +kernel
theorem dX3_note_24 : decode cX3_note 24 = .ok (.aload_n 0, 1) := by decide +kernel
theorem dX3_note_25 : decode cX3_note 25 = .ok (.getfield 21, 3) := by decide +kernel
theorem dX3_note_28 : decode cX3_note 28 = .ok (.iload_n 2, 1) := by decide +kernel
theorem dX3_note_29 : decode cX3_note 29 = .ok (.iastore, 1) := by decide +kernel
theorem dX3_note_30 : decode cX3_note 30 = .ok (.aload_n 0, 1) := by decide +kernel
theorem dX3_note_31 : decode cX3_note 31 = .ok (.getfield 18, 3) := by decide +kernel
theorem dX3_note_34 : decode cX3_note 34 = .ok (.aload_n 0, 1) := by decide +kernel
theorem dX3_note_35 : decode cX3_note 35 = .ok (.getfield 21, 3) := by decide +kernel
theorem dX3_note_38 : decode cX3_note 38 = .ok (.iload_n 3, 1) := by decide +kernel
theorem dX3_note_39 : decode cX3_note 39 = .ok (.iastore, 1) := by decide +kernel
theorem dX3_note_40 : decode cX3_note 40 = .ok (.aload_n 0, 1) := by decide +kernel
theorem dX3_note_41 : decode cX3_note 41 = .ok (.dup, 1) := by decide +kernel
theorem dX3_note_42 : decode cX3_note 42 = .ok (.getfield 21, 3) := by decide +kernel
theorem dX3_note_45 : decode cX3_note 45 = .ok (.iconst 1, 1) := by decide +kernel
theorem dX3_note_46 : decode cX3_note 46 = .ok (.iadd, 1) := by decide +kernel
theorem dX3_note_47 : decode cX3_note 47 = .ok (.putfield 21, 3) := by decide +kernel
theorem dX3_note_50 : decode cX3_note 50 = .ok (.aload_n 0, 1) := by decide +kernel
theorem dX3_note_51 : decode cX3_note 51 = .ok (.getfield 21, 3) := by decide +kernel
theorem dX3_note_54 : decode cX3_note 54 = .ok (.iconst 1, 1) := by decide +kernel
theorem dX3_note_55 : decode cX3_note 55 = .ok (.isub, 1) := by decide +kernel
theorem dX3_note_56 : decode cX3_note 56 = .ok (.ireturn, 1) := by decide +kernel
theorem dX3_areSo_0 : decode cX3_areSo 0 = .ok (.iconst 0, 1) := by decide +kernel
theorem dX3_areSo_1 : decode cX3_areSo 1 = .ok (.istore 4, 2) := by decide +kernel
theorem dX3_areSo_3 : decode cX3_areSo 3 = .ok (.iload 4, 2) := by decide +kernel
theorem dX3_areSo_5 : decode cX3_areSo 5 = .ok (.aload_n 0, 1) := by decide +kernel
theorem dX3_areSo_6 : decode cX3_areSo 6 = .ok (.getfield 21, 3) := by decide +kernel
theorem dX3_areSo_9 : decode cX3_areSo 9 = .ok (.if_icmp .ge 70, 3) := by decide +kernel
theorem dX3_areSo_12 : decode cX3_areSo 12 = .ok (.aload_n 0, 1) := by decide +kernel
theorem dX3_areSo_13 : decode cX3_areSo 13 = .ok (.getfield 11, 3) := by decide +kernel
theorem dX3_areSo_16 : decode cX3_areSo 16 = .ok (.iload 4, 2) := by decide +kernel
theorem dX3_areSo_18 : decode cX3_areSo 18 = .ok (.iaload, 1) := by decide +kernel
theorem dX3_areSo_19 : decode cX3_areSo 19 = .ok (.iload_n 2, 1) := by decide +kernel
theorem dX3_areSo_20 : decode cX3_areSo 20 = .ok (.if_icmp .ne 7, 3) := by decide +kernel
theorem dX3_areSo_23 : decode cX3_areSo 23 = .ok (.iload_n 3, 1) := by decide +kernel
theorem dX3_areSo_24 : decode cX3_areSo 24 = .ok (.goto 14, 3) := by decide +kernel
theorem dX3_areSo_27 : decode cX3_areSo 27 = .ok (.aload_n 1, 1) := by decide +kernel
theorem dX3_areSo_28 : decode cX3_areSo 28 = .ok (.aload_n 0, 1) := by decide +kernel
theorem dX3_areSo_29 : decode cX3_areSo 29 = .ok (.getfield 11, 3) := by decide +kernel
theorem dX3_areSo_32 : decode cX3_areSo 32 = .ok (.iload 4, 2) := by decide +kernel
theorem dX3_areSo_34 : decode cX3_areSo 34 = .ok (.iaload, 1) := by decide +kernel
theorem dX3_areSo_35 : decode cX3_areSo 35 = .ok (.invokevirtual 29, 3) := by decide +kernel
theorem dX3_areSo_38 : decode cX3_areSo 38 = .ok (.istore 5, 2) := by decide +kernel
theorem dX3_areSo_40 : decode cX3_areSo 40 = .ok (.iload 5, 2) := by decide +kernel
theorem dX3_areSo_42 : decode cX3_areSo 42 = .ok (.aload_n 0, 1) := by decide +kernel
theorem dX3_areSo_43 : decode cX3_areSo 43 = .ok (.getfield 15, 3) := by decide +kernel
theorem dX3_areSo_46 : decode cX3_areSo 46 = .ok (.iload 4, 2) := by decide +kernel
theorem dX3_areSo_48 : decode cX3_areSo 48 = .ok (.iaload, 1) := by decide +kernel
theorem dX3_areSo_49 : decode cX3_areSo 49 = .ok (.if_icmp .gt 7, 3) := by decide +kernel
theorem dX3_areSo_52 : decode cX3_areSo 52 = .ok (.iconst 1, 1) := by decide +kernel
theorem dX3_areSo_53 : decode cX3_areSo 53 = .ok (.goto 4, 3) := by decide +kernel
theorem dX3_areSo_56 : decode cX3_areSo 56 = .ok (.iconst 0, 1) := by decide +kernel
theorem dX3_areSo_57 : decode cX3_areSo 57 = .ok (.istore 6, 2) := by decide +kernel
theorem dX3_areSo_59 : decode cX3_areSo 59 = .ok (.iload 6, 2) := by decide +kernel
theorem dX3_areSo_61 : decode cX3_areSo 61 = .ok (.aload_n 0, 1) := by decide +kernel
theorem dX3_areSo_62 : decode cX3_areSo 62 = .ok (.getfield 18, 3) := by decide +kernel
theorem dX3_areSo_65 : decode cX3_areSo 65 = .ok (.iload 4, 2) := by decide +kernel
theorem dX3_areSo_67 : decode cX3_areSo 67 = .ok (.iaload, 1) := by decide +kernel
theorem dX3_areSo_68 : decode cX3_areSo 68 = .ok (.if_icmp .eq 5, 3) := by decide +kernel
theorem dX3_areSo_71 : decode cX3_areSo 71 = .ok (.iconst 0, 1) := by decide +kernel
theorem dX3_areSo_72 : decode cX3_areSo 72 = .ok (.ireturn, 1) := by decide +kernel
theorem dX3_areSo_73 : decode cX3_areSo 73 = .ok (.iinc 4 1, 3) := by decide +kernel
theorem dX3_areSo_76 : decode cX3_areSo 76 = .ok (.goto (-73), 3) := by decide +kernel
theorem dX3_areSo_79 : decode cX3_areSo 79 = .ok (.iconst 1, 1) := by decide +kernel
theorem dX3_areSo_80 : decode cX3_areSo 80 = .ok (.ireturn, 1) := by decide +kernel
