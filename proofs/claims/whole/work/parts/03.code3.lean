theorem dX7_in_3 : decode cX7_in 3 = .ok (.ifCond .lt 14, 3) := by decide +kernel
theorem dX7_in_6 : decode cX7_in 6 = .ok (.lload_n 0, 1) := by decide +kernel
theorem dX7_in_7 : decode cX7_in 7 = .ok (.lload 4, 2) := by decide +kernel
theorem dX7_in_9 : decode cX7_in 9 = .ok (.lcmp, 1) := by decide +kernel
theorem dX7_in_10 : decode cX7_in 10 = .ok (.ifCond .gt 7, 3) := by decide +kernel
theorem dX7_in_13 : decode cX7_in 13 = .ok (.iconst 1, 1) := by decide +kernel
theorem dX7_in_14 : decode cX7_in 14 = .ok (.goto 4, 3) := by decide +kernel
theorem dX7_in_17 : decode cX7_in 17 = .ok (.iconst 0, 1) := by decide +kernel
theorem dX7_in_18 : decode cX7_in 18 = .ok (.ireturn, 1) := by decide +kernel
theorem dX7_held_0 : decode cX7_held 0 = .ok (.iload_n 0, 1) := by decide +kernel
theorem dX7_held_1 : decode cX7_held 1 = .ok (.iload_n 1, 1) := by decide +kernel
theorem dX7_held_2 : decode cX7_held 2 = .ok (.if_icmp .ge 7, 3) := by decide +kernel
theorem dX7_held_5 : decode cX7_held 5 = .ok (.iload_n 1, 1) := by decide +kernel
theorem dX7_held_6 : decode cX7_held 6 = .ok (.goto 13, 3) := by decide +kernel
theorem dX7_held_9 : decode cX7_held 9 = .ok (.iload_n 0, 1) := by decide +kernel
theorem dX7_held_10 : decode cX7_held 10 = .ok (.iload_n 2, 1) := by decide +kernel
theorem dX7_held_11 : decode cX7_held 11 = .ok (.if_icmp .le 7, 3) := by decide +kernel
theorem dX7_held_14 : decode cX7_held 14 = .ok (.iload_n 2, 1) := by decide +kernel
theorem dX7_held_15 : decode cX7_held 15 = .ok (.goto 4, 3) := by decide +kernel
theorem dX7_held_18 : decode cX7_held 18 = .ok (.iload_n 0, 1) := by decide +kernel
theorem dX7_held_19 : decode cX7_held 19 = .ok (.ireturn, 1) := by decide +kernel
theorem dX7_copies_0 : decode cX7_copies 0 = .ok (.iconst 0, 1) := by decide +kernel
theorem dX7_copies_1 : decode cX7_copies 1 = .ok (.istore_n 2, 1) := by decide +kernel
theorem dX7_copies_2 : decode cX7_copies 2 = .ok (.iload_n 2, 1) := by decide +kernel
theorem dX7_copies_3 : decode cX7_copies 3 = .ok (.bipush 70, 2) := by decide +kernel
theorem dX7_copies_5 : decode cX7_copies 5 = .ok (.if_icmp .ge 15, 3) := by decide +kernel
theorem dX7_copies_8 : decode cX7_copies 8 = .ok (.aload_n 1, 1) := by decide +kernel
theorem dX7_copies_9 : decode cX7_copies 9 = .ok (.iload_n 2, 1) := by decide +kernel
theorem dX7_copies_10 : decode cX7_copies 10 = .ok (.aload_n 0, 1) := by decide +kernel
theorem dX7_copies_11 : decode cX7_copies 11 = .ok (.iload_n 2, 1) := by decide +kernel
theorem dX7_copies_12 : decode cX7_copies 12 = .ok (.iaload, 1) := by decide +kernel
theorem dX7_copies_13 : decode cX7_copies 13 = .ok (.iastore, 1) := by decide +kernel
theorem dX7_copies_14 : decode cX7_copies 14 = .ok (.iinc 2 1, 3) := by decide +kernel
theorem dX7_copies_17 : decode cX7_copies 17 = .ok (.goto (-15), 3) := by decide +kernel
theorem dX7_copies_20 : decode cX7_copies 20 = .ok (.return_, 1) := by decide +kernel
theorem dX7_isPriest_0 : decode cX7_isPriest 0 = .ok (.iload_n 1, 1) := by decide +kernel
theorem dX7_isPriest_1 : decode cX7_isPriest 1 = .ok (.i2l, 1) := by decide +kernel
theorem dX7_isPriest_2 : decode cX7_isPriest 2 = .ok (.lconst 0, 1) := by decide +kernel
theorem dX7_isPriest_3 : decode cX7_isPriest 3 = .ok (.aload_n 0, 1) := by decide +kernel
theorem dX7_isPriest_4 : decode cX7_isPriest 4 = .ok (.getfield 7, 3) := by decide +kernel
theorem dX7_isPriest_7 : decode cX7_isPriest 7 = .ok (.iconst 0, 1) := by decide +kernel
theorem dX7_isPriest_8 : decode cX7_isPriest 8 = .ok (.iaload, 1) := by decide +kernel
theorem dX7_isPriest_9 : decode cX7_isPriest 9 = .ok (.iconst 1, 1) := by decide +kernel
theorem dX7_isPriest_10 : decode cX7_isPriest 10 = .ok (.isub, 1) := by decide +kernel
theorem dX7_isPriest_11 : decode cX7_isPriest 11 = .ok (.i2l, 1) := by decide +kernel
theorem dX7_isPriest_12 : decode cX7_isPriest 12 = .ok (.invokestatic 42, 3) := by decide +kernel
theorem dX7_isPriest_15 : decode cX7_isPriest 15 = .ok (.ireturn, 1) := by decide +kernel
theorem dX7_isSin_0 : decode cX7_isSin 0 = .ok (.iload_n 0, 1) := by decide +kernel
theorem dX7_isSin_1 : decode cX7_isSin 1 = .ok (.i2l, 1) := by decide +kernel
theorem dX7_isSin_2 : decode cX7_isSin 2 = .ok (.lconst 0, 1) := by decide +kernel
theorem dX7_isSin_3 : decode cX7_isSin 3 = .ok (.ldc2_w 46, 3) := by decide +kernel
theorem dX7_isSin_6 : decode cX7_isSin 6 = .ok (.invokestatic 42, 3) := by decide +kernel
theorem dX7_isSin_9 : decode cX7_isSin 9 = .ok (.ireturn, 1) := by decide +kernel
theorem dX7_isPlace_0 : decode cX7_isPlace 0 = .ok (.iload_n 0, 1) := by decide +kernel
theorem dX7_isPlace_1 : decode cX7_isPlace 1 = .ok (.i2l, 1) := by decide +kernel
theorem dX7_isPlace_2 : decode cX7_isPlace 2 = .ok (.lconst 0, 1) := by decide +kernel
theorem dX7_isPlace_3 : decode cX7_isPlace 3 = .ok (.ldc2_w 48, 3) := by decide +kernel
theorem dX7_isPlace_6 : decode cX7_isPlace 6 = .ok (.invokestatic 42, 3) := by decide +kernel
theorem dX7_isPlace_9 : decode cX7_isPlace 9 = .ok (.ireturn, 1) := by decide +kernel
theorem dX7_areSins_0 : decode cX7_areSins 0 = .ok (.iload_n 0, 1) := by decide +kernel
theorem dX7_areSins_1 : decode cX7_areSins 1 = .ok (.i2l, 1) := by decide +kernel
theorem dX7_areSins_2 : decode cX7_areSins 2 = .ok (.lconst 0, 1) := by decide +kernel
theorem dX7_areSins_3 : decode cX7_areSins 3 = .ok (.ldc2_w 50, 3) := by decide +kernel
theorem dX7_areSins_6 : decode cX7_areSins 6 = .ok (.invokestatic 42, 3) := by decide +kernel
theorem dX7_areSins_9 : decode cX7_areSins 9 = .ok (.ireturn, 1) := by decide +kernel
theorem dX7_isConfession_0 : decode cX7_isConfession 0 = .ok (.iload_n 0, 1) := by decide +kernel
theorem dX7_isConfession_1 : decode cX7_isConfession 1 = .ok (.i2l, 1) := by decide +kernel
theorem dX7_isConfession_2 : decode cX7_isConfession 2 = .ok (.lconst 0, 1) := by decide +kernel
theorem dX7_isConfession_3 : decode cX7_isConfession 3 = .ok (.ldc2_w 52, 3) := by decide +kernel
theorem dX7_isConfession_6 : decode cX7_isConfession 6 = .ok (.invokestatic 42, 3) := by decide +kernel
theorem dX7_isConfession_9 : decode cX7_isConfession 9 = .ok (.ifCond .eq 16, 3) := by decide +kernel
theorem dX7_isConfession_12 : decode cX7_isConfession 12 = .ok (.iload_n 0, 1) := by decide +kernel
theorem dX7_isConfession_13 : decode cX7_isConfession 13 = .ok (.bipush 100, 2) := by decide +kernel
theorem dX7_isConfession_15 : decode cX7_isConfession 15 = .ok (.irem, 1) := by decide +kernel
theorem dX7_isConfession_16 : decode cX7_isConfession 16 = .ok (.bipush 40, 2) := by decide +kernel
theorem dX7_isConfession_18 : decode cX7_isConfession 18 = .ok (.if_icmp .gt 7, 3) := by decide +kernel
theorem dX7_isConfession_21 : decode cX7_isConfession 21 = .ok (.iconst 1, 1) := by decide +kernel
theorem dX7_isConfession_22 : decode cX7_isConfession 22 = .ok (.goto 4, 3) := by decide +kernel
theorem dX7_isConfession_25 : decode cX7_isConfession 25 = .ok (.iconst 0, 1) := by decide +kernel
theorem dX7_isConfession_26 : decode cX7_isConfession 26 = .ok (.ireturn, 1) := by decide +kernel
theorem dX7_its_0 : decode cX7_its 0 = .ok (.aload_n 0, 1) := by decide +kernel
theorem dX7_its_1 : decode cX7_its 1 = .ok (.getfield 7, 3) := by decide +kernel
theorem dX7_its_4 : decode cX7_its 4 = .ok (.bipush 12, 2) := by decide +kernel
theorem dX7_its_6 : decode cX7_its 6 = .ok (.bipush 8, 2) := by decide +kernel
theorem dX7_its_8 : decode cX7_its 8 = .ok (.iload_n 2, 1) := by decide +kernel
theorem dX7_its_9 : decode cX7_its 9 = .ok (.imul, 1) := by decide +kernel
theorem dX7_its_10 : decode cX7_its 10 = .ok (.iadd, 1) := by decide +kernel
theorem dX7_its_11 : decode cX7_its 11 = .ok (.iload_n 1, 1) := by decide +kernel
theorem dX7_its_12 : decode cX7_its 12 = .ok (.iadd, 1) := by decide +kernel
theorem dX7_its_13 : decode cX7_its 13 = .ok (.iaload, 1) := by decide +kernel
theorem dX7_its_14 : decode cX7_its 14 = .ok (.ireturn, 1) := by decide +kernel
theorem dX7_sets_0 : decode cX7_sets 0 = .ok (.aload_n 0, 1) := by decide +kernel
theorem dX7_sets_1 : decode cX7_sets 1 = .ok (.getfield 7, 3) := by decide +kernel
theorem dX7_sets_4 : decode cX7_sets 4 = .ok (.bipush 12, 2) := by decide +kernel
theorem dX7_sets_6 : decode cX7_sets 6 = .ok (.bipush 8, 2) := by decide +kernel
theorem dX7_sets_8 : decode cX7_sets 8 = .ok (.iload_n 2, 1) := by decide +kernel
theorem dX7_sets_9 : decode cX7_sets 9 = .ok (.imul, 1) := by decide +kernel
theorem dX7_sets_10 : decode cX7_sets 10 = .ok (.iadd, 1) := by decide +kernel
theorem dX7_sets_11 : decode cX7_sets 11 = .ok (.iload_n 1, 1) := by decide +kernel
theorem dX7_sets_12 : decode cX7_sets 12 = .ok (.iadd, 1) := by decide +kernel
theorem dX7_sets_13 : decode cX7_sets 13 = .ok (.iload_n 3, 1) := by decide +kernel
theorem dX7_sets_14 : decode cX7_sets 14 = .ok (.iastore, 1) := by decide +kernel
theorem dX7_sets_15 : decode cX7_sets 15 = .ok (.return_, 1) := by decide +kernel
theorem dX7_becomes_0 : decode cX7_becomes 0 = .ok (.aload_n 0, 1) := by decide +kernel
theorem dX7_becomes_1 : decode cX7_becomes 1 = .ok (.getfield 7, 3) := by decide +kernel
theorem dX7_becomes_4 : decode cX7_becomes 4 = .ok (.iload_n 1, 1) := by decide +kernel
theorem dX7_becomes_5 : decode cX7_becomes 5 = .ok (.iaload, 1) := by decide +kernel
theorem dX7_becomes_6 : decode cX7_becomes 6 = .ok (.istore_n 3, 1) := by decide +kernel
theorem dX7_becomes_7 : decode cX7_becomes 7 = .ok (.aload_n 0, 1) := by decide +kernel
theorem dX7_becomes_8 : decode cX7_becomes 8 = .ok (.getfield 7, 3) := by decide +kernel
theorem dX7_becomes_11 : decode cX7_becomes 11 = .ok (.iload_n 1, 1) := by decide +kernel
theorem dX7_becomes_12 : decode cX7_becomes 12 = .ok (.iload_n 2, 1) := by decide +kernel
theorem dX7_becomes_13 : decode cX7_becomes 13 = .ok (.iastore, 1) := by decide +kernel
theorem dX7_becomes_14 : decode cX7_becomes 14 = .ok (.iload_n 3, 1) := by decide +kernel
theorem dX7_becomes_15 : decode cX7_becomes 15 = .ok (.ireturn, 1) := by decide +kernel
theorem dX7_ones_0 : decode cX7_ones 0 = .ok (.iconst 0, 1) := by decide +kernel
theorem dX7_ones_1 : decode cX7_ones 1 = .ok (.istore_n 1, 1) := by decide +kernel
theorem dX7_ones_2 : decode cX7_ones 2 = .ok (.iconst 0, 1) := by decide +kernel
theorem dX7_ones_3 : decode cX7_ones 3 = .ok (.istore_n 2, 1) := by decide +kernel
theorem dX7_ones_4 : decode cX7_ones 4 = .ok (.iload_n 2, 1) := by decide +kernel
theorem dX7_ones_5 : decode cX7_ones 5 = .ok (.bipush 8, 2) := by decide +kernel
theorem dX7_ones_7 : decode cX7_ones 7 = .ok (.if_icmp .ge 17, 3) := by decide +kernel
theorem dX7_ones_10 : decode cX7_ones 10 = .ok (.iload_n 1, 1) := by decide +kernel
theorem dX7_ones_11 : decode cX7_ones 11 = .ok (.iload_n 0, 1) := by decide +kernel
theorem dX7_ones_12 : decode cX7_ones 12 = .ok (.iload_n 2, 1) := by decide +kernel
theorem dX7_ones_13 : decode cX7_ones 13 = .ok (.ishr, 1) := by decide +kernel
theorem dX7_ones_14 : decode cX7_ones 14 = .ok (.iconst 1, 1) := by decide +kernel
theorem dX7_ones_15 : decode cX7_ones 15 = .ok (.iand, 1) := by decide +kernel
theorem dX7_ones_16 : decode cX7_ones 16 = .ok (.iadd, 1) := by decide +kernel
theorem dX7_ones_17 : decode cX7_ones 17 = .ok (.istore_n 1, 1) := by decide +kernel
theorem dX7_ones_18 : decode cX7_ones 18 = .ok (.iinc 2 1, 3) := by decide +kernel
theorem dX7_ones_21 : decode cX7_ones 21 = .ok (.goto (-17), 3) := by decide +kernel
theorem dX7_ones_24 : decode cX7_ones 24 = .ok (.iload_n 1, 1) := by decide +kernel
theorem dX7_ones_25 : decode cX7_ones 25 = .ok (.ireturn, 1) := by decide +kernel
theorem dX7_holds_0 : decode cX7_holds 0 = .ok (.aload_n 0, 1) := by decide +kernel
theorem dX7_holds_1 : decode cX7_holds 1 = .ok (.iload_n 1, 1) := by decide +kernel
theorem dX7_holds_2 : decode cX7_holds 2 = .ok (.iconst 3, 1) := by decide +kernel
theorem dX7_holds_3 : decode cX7_holds 3 = .ok (.invokevirtual 54, 3) := by decide +kernel
theorem dX7_holds_6 : decode cX7_holds 6 = .ok (.invokestatic 58, 3) := by decide +kernel
theorem dX7_holds_9 : decode cX7_holds 9 = .ok (.istore_n 2, 1) := by decide +kernel
theorem dX7_holds_10 : decode cX7_holds 10 = .ok (.iload_n 2, 1) := by decide +kernel
theorem dX7_holds_11 : decode cX7_holds 11 = .ok (.ifCond .ne 8, 3) := by decide +kernel
theorem dX7_holds_14 : decode cX7_holds 14 = .ok (.bipush 30, 2) := by decide +kernel
theorem dX7_holds_16 : decode cX7_holds 16 = .ok (.goto 5, 3) := by decide +kernel
theorem dX7_holds_19 : decode cX7_holds 19 = .ok (.bipush 60, 2) := by decide +kernel
theorem dX7_holds_21 : decode cX7_holds 21 = .ok (.istore_n 3, 1) := by decide +kernel
theorem dX7_holds_22 : decode cX7_holds 22 = .ok (.aload_n 0, 1) := by decide +kernel
theorem dX7_holds_23 : decode cX7_holds 23 = .ok (.iload_n 1, 1) := by decide +kernel
theorem dX7_holds_24 : decode cX7_holds 24 = .ok (.iconst 0, 1) := by decide +kernel
theorem dX7_holds_25 : decode cX7_holds 25 = .ok (.invokevirtual 54, 3) := by decide +kernel
theorem dX7_holds_28 : decode cX7_holds 28 = .ok (.tableswitch 82 1 6 #[40, 59, 43, 50, 66, 61], 40) := by decide +kernel
theorem dX7_holds_68 : decode cX7_holds 68 = .ok (.bipush 40, 2) := by decide +kernel
theorem dX7_holds_70 : decode cX7_holds 70 = .ok (.ireturn, 1) := by decide +kernel
theorem dX7_holds_71 : decode cX7_holds 71 = .ok (.bipush 40, 2) := by decide +kernel
theorem dX7_holds_73 : decode cX7_holds 73 = .ok (.iconst 5, 1) := by decide +kernel
theorem dX7_holds_74 : decode cX7_holds 74 = .ok (.iload_n 2, 1) := by decide +kernel
theorem dX7_holds_75 : decode cX7_holds 75 = .ok (.imul, 1) := by decide +kernel
theorem dX7_holds_76 : decode cX7_holds 76 = .ok (.iadd, 1) := by decide +kernel
theorem dX7_holds_77 : decode cX7_holds 77 = .ok (.ireturn, 1) := by decide +kernel
theorem dX7_holds_78 : decode cX7_holds 78 = .ok (.iconst 2, 1) := by decide +kernel
theorem dX7_holds_79 : decode cX7_holds 79 = .ok (.bipush 40, 2) := by decide +kernel
theorem dX7_holds_81 : decode cX7_holds 81 = .ok (.iconst 5, 1) := by decide +kernel
theorem dX7_holds_82 : decode cX7_holds 82 = .ok (.iload_n 2, 1) := by decide +kernel
theorem dX7_holds_83 : decode cX7_holds 83 = .ok (.imul, 1) := by decide +kernel
theorem dX7_holds_84 : decode cX7_holds 84 = .ok (.iadd, 1) := by decide +kernel
theorem dX7_holds_85 : decode cX7_holds 85 = .ok (.imul, 1) := by decide +kernel
theorem dX7_holds_86 : decode cX7_holds 86 = .ok (.ireturn, 1) := by decide +kernel
theorem dX7_holds_87 : decode cX7_holds 87 = .ok (.iload_n 3, 1) := by decide +kernel
theorem dX7_holds_88 : decode cX7_holds 88 = .ok (.ireturn, 1) := by decide +kernel
theorem dX7_holds_89 : decode cX7_holds 89 = .ok (.iload_n 3, 1) := by decide +kernel
theorem dX7_holds_90 : decode cX7_holds 90 = .ok (.bipush 40, 2) := by decide +kernel
theorem dX7_holds_92 : decode cX7_holds 92 = .ok (.iadd, 1) := by decide +kernel
theorem dX7_holds_93 : decode cX7_holds 93 = .ok (.ireturn, 1) := by decide +kernel
theorem dX7_holds_94 : decode cX7_holds 94 = .ok (.bipush 60, 2) := by decide +kernel
theorem dX7_holds_96 : decode cX7_holds 96 = .ok (.aload_n 0, 1) := by decide +kernel
theorem dX7_holds_97 : decode cX7_holds 97 = .ok (.iload_n 1, 1) := by decide +kernel
theorem dX7_holds_98 : decode cX7_holds 98 = .ok (.iconst 4, 1) := by decide +kernel
theorem dX7_holds_99 : decode cX7_holds 99 = .ok (.invokevirtual 54, 3) := by decide +kernel
theorem dX7_holds_102 : decode cX7_holds 102 = .ok (.iadd, 1) := by decide +kernel
theorem dX7_holds_103 : decode cX7_holds 103 = .ok (.iconst 0, 1) := by decide +kernel
theorem dX7_holds_104 : decode cX7_holds 104 = .ok (.bipush 99, 2) := by decide +kernel
theorem dX7_holds_106 : decode cX7_holds 106 = .ok (.invokestatic 62, 3) := by decide +kernel
theorem dX7_holds_109 : decode cX7_holds 109 = .ok (.ireturn, 1) := by decide +kernel
theorem dX7_holds_110 : decode cX7_holds 110 = .ok (.bipush 60, 2) := by decide +kernel
theorem dX7_holds_112 : decode cX7_holds 112 = .ok (.ireturn, 1) := by decide +kernel
theorem dX7_room_0 : decode cX7_room 0 = .ok (.aload_n 0, 1) := by decide +kernel
theorem dX7_room_1 : decode cX7_room 1 = .ok (.iload_n 1, 1) := by decide +kernel
theorem dX7_room_2 : decode cX7_room 2 = .ok (.invokevirtual 66, 3) := by decide +kernel
theorem dX7_room_5 : decode cX7_room 5 = .ok (.aload_n 0, 1) := by decide +kernel
theorem dX7_room_6 : decode cX7_room 6 = .ok (.iload_n 1, 1) := by decide +kernel
theorem dX7_room_7 : decode cX7_room 7 = .ok (.iconst 1, 1) := by decide +kernel
theorem dX7_room_8 : decode cX7_room 8 = .ok (.invokevirtual 54, 3) := by decide +kernel
theorem dX7_room_11 : decode cX7_room 11 = .ok (.isub, 1) := by decide +kernel
theorem dX7_room_12 : decode cX7_room 12 = .ok (.ireturn, 1) := by decide +kernel
theorem dX7_swellsBy_0 : decode cX7_swellsBy 0 = .ok (.iload_n 3, 1) := by decide +kernel
theorem dX7_swellsBy_1 : decode cX7_swellsBy 1 = .ok (.aload_n 0, 1) := by decide +kernel
theorem dX7_swellsBy_2 : decode cX7_swellsBy 2 = .ok (.getfield 7, 3) := by decide +kernel
theorem dX7_swellsBy_5 : decode cX7_swellsBy 5 = .ok (.iconst 3, 1) := by decide +kernel
theorem dX7_swellsBy_6 : decode cX7_swellsBy 6 = .ok (.iaload, 1) := by decide +kernel
theorem dX7_swellsBy_7 : decode cX7_swellsBy 7 = .ok (.isub, 1) := by decide +kernel
theorem dX7_swellsBy_8 : decode cX7_swellsBy 8 = .ok (.iconst 0, 1) := by decide +kernel
theorem dX7_swellsBy_9 : decode cX7_swellsBy 9 = .ok (.bipush 40, 2) := by decide +kernel
theorem dX7_swellsBy_11 : decode cX7_swellsBy 11 = .ok (.invokestatic 62, 3) := by decide +kernel
theorem dX7_swellsBy_14 : decode cX7_swellsBy 14 = .ok (.istore 4, 2) := by decide +kernel
theorem dX7_swellsBy_16 : decode cX7_swellsBy 16 = .ok (.iload_n 2, 1) := by decide +kernel
theorem dX7_swellsBy_17 : decode cX7_swellsBy 17 = .ok (.iconst 3, 1) := by decide +kernel
theorem dX7_swellsBy_18 : decode cX7_swellsBy 18 = .ok (.if_icmp .ne 9, 3) := by decide +kernel
theorem dX7_swellsBy_21 : decode cX7_swellsBy 21 = .ok (.iload_n 3, 1) := by decide +kernel
theorem dX7_swellsBy_22 : decode cX7_swellsBy 22 = .ok (.iconst 3, 1) := by decide +kernel
theorem dX7_swellsBy_23 : decode cX7_swellsBy 23 = .ok (.idiv, 1) := by decide +kernel
theorem dX7_swellsBy_24 : decode cX7_swellsBy 24 = .ok (.goto 4, 3) := by decide +kernel
theorem dX7_swellsBy_27 : decode cX7_swellsBy 27 = .ok (.iload_n 3, 1) := by decide +kernel
theorem dX7_swellsBy_28 : decode cX7_swellsBy 28 = .ok (.istore 5, 2) := by decide +kernel
theorem dX7_swellsBy_30 : decode cX7_swellsBy 30 = .ok (.aload_n 0, 1) := by decide +kernel
theorem dX7_swellsBy_31 : decode cX7_swellsBy 31 = .ok (.iload_n 1, 1) := by decide +kernel
theorem dX7_swellsBy_32 : decode cX7_swellsBy 32 = .ok (.iconst 0, 1) := by decide +kernel
theorem dX7_swellsBy_33 : decode cX7_swellsBy 33 = .ok (.invokevirtual 54, 3) := by decide +kernel
theorem dX7_swellsBy_36 : decode cX7_swellsBy 36 = .ok (.tableswitch 89 1 6 #[40, 58, 43, 43, 66, 61], 40) := by decide +kernel
theorem dX7_swellsBy_76 : decode cX7_swellsBy 76 = .ok (.iload 4, 2) := by decide +kernel
theorem dX7_swellsBy_78 : decode cX7_swellsBy 78 = .ok (.ireturn, 1) := by decide +kernel
theorem dX7_swellsBy_79 : decode cX7_swellsBy 79 = .ok (.iload 4, 2) := by decide +kernel
theorem dX7_swellsBy_81 : decode cX7_swellsBy 81 = .ok (.iload_n 2, 1) := by decide +kernel
theorem dX7_swellsBy_82 : decode cX7_swellsBy 82 = .ok (.iconst 2, 1) := by decide +kernel
theorem dX7_swellsBy_83 : decode cX7_swellsBy 83 = .ok (.irem, 1) := by decide +kernel
theorem dX7_swellsBy_84 : decode cX7_swellsBy 84 = .ok (.ifCond .ne 7, 3) := by decide +kernel
theorem dX7_swellsBy_87 : decode cX7_swellsBy 87 = .ok (.iconst 5, 1) := by decide +kernel
theorem dX7_swellsBy_88 : decode cX7_swellsBy 88 = .ok (.goto 4, 3) := by decide +kernel
theorem dX7_swellsBy_91 : decode cX7_swellsBy 91 = .ok (.iconst 0, 1) := by decide +kernel
theorem dX7_swellsBy_92 : decode cX7_swellsBy 92 = .ok (.iadd, 1) := by decide +kernel
theorem dX7_swellsBy_93 : decode cX7_swellsBy 93 = .ok (.ireturn, 1) := by decide +kernel
theorem dX7_swellsBy_94 : decode cX7_swellsBy 94 = .ok (.iload 5, 2) := by decide +kernel
theorem dX7_swellsBy_96 : decode cX7_swellsBy 96 = .ok (.ireturn, 1) := by decide +kernel
theorem dX7_swellsBy_97 : decode cX7_swellsBy 97 = .ok (.iload 5, 2) := by decide +kernel
theorem dX7_swellsBy_99 : decode cX7_swellsBy 99 = .ok (.iconst 2, 1) := by decide +kernel
theorem dX7_swellsBy_100 : decode cX7_swellsBy 100 = .ok (.idiv, 1) := by decide +kernel
theorem dX7_swellsBy_101 : decode cX7_swellsBy 101 = .ok (.ireturn, 1) := by decide +kernel
theorem dX7_swellsBy_102 : decode cX7_swellsBy 102 = .ok (.iload_n 3, 1) := by decide +kernel
theorem dX7_swellsBy_103 : decode cX7_swellsBy 103 = .ok (.aload_n 0, 1) := by decide +kernel
theorem dX7_swellsBy_104 : decode cX7_swellsBy 104 = .ok (.iload_n 1, 1) := by decide +kernel
theorem dX7_swellsBy_105 : decode cX7_swellsBy 105 = .ok (.iconst 3, 1) := by decide +kernel
theorem dX7_swellsBy_106 : decode cX7_swellsBy 106 = .ok (.invokevirtual 54, 3) := by decide +kernel
theorem dX7_swellsBy_109 : decode cX7_swellsBy 109 = .ok (.iload_n 2, 1) := by decide +kernel
theorem dX7_swellsBy_110 : decode cX7_swellsBy 110 = .ok (.ishr, 1) := by decide +kernel
theorem dX7_swellsBy_111 : decode cX7_swellsBy 111 = .ok (.iconst 1, 1) := by decide +kernel
theorem dX7_swellsBy_112 : decode cX7_swellsBy 112 = .ok (.iand, 1) := by decide +kernel
theorem dX7_swellsBy_113 : decode cX7_swellsBy 113 = .ok (.iconst 1, 1) := by decide +kernel
theorem dX7_swellsBy_114 : decode cX7_swellsBy 114 = .ok (.if_icmp .ne 8, 3) := by decide +kernel
theorem dX7_swellsBy_117 : decode cX7_swellsBy 117 = .ok (.bipush 10, 2) := by decide +kernel
theorem dX7_swellsBy_119 : decode cX7_swellsBy 119 = .ok (.goto 4, 3) := by decide +kernel
theorem dX7_swellsBy_122 : decode cX7_swellsBy 122 = .ok (.iconst 0, 1) := by decide +kernel
theorem dX7_swellsBy_123 : decode cX7_swellsBy 123 = .ok (.iadd, 1) := by decide +kernel
theorem dX7_swellsBy_124 : decode cX7_swellsBy 124 = .ok (.ireturn, 1) := by decide +kernel
theorem dX7_swellsBy_125 : decode cX7_swellsBy 125 = .ok (.iload_n 3, 1) := by decide +kernel
theorem dX7_swellsBy_126 : decode cX7_swellsBy 126 = .ok (.ireturn, 1) := by decide +kernel
theorem dX7_digests_0 : decode cX7_digests 0 = .ok (.aload_n 0, 1) := by decide +kernel
theorem dX7_digests_1 : decode cX7_digests 1 = .ok (.iload_n 1, 1) := by decide +kernel
theorem dX7_digests_2 : decode cX7_digests 2 = .ok (.iconst 0, 1) := by decide +kernel
theorem dX7_digests_3 : decode cX7_digests 3 = .ok (.invokevirtual 54, 3) := by decide +kernel
theorem dX7_digests_6 : decode cX7_digests 6 = .ok (.tableswitch 84 1 6 #[38, 58, 47, 56, 64, 61], 38) := by decide +kernel
theorem dX7_digests_44 : decode cX7_digests 44 = .ok (.iconst 5, 1) := by decide +kernel
theorem dX7_digests_45 : decode cX7_digests 45 = .ok (.aload_n 0, 1) := by decide +kernel
theorem dX7_digests_46 : decode cX7_digests 46 = .ok (.getfield 7, 3) := by decide +kernel
theorem dX7_digests_49 : decode cX7_digests 49 = .ok (.iconst 3, 1) := by decide +kernel
theorem dX7_digests_50 : decode cX7_digests 50 = .ok (.iaload, 1) := by decide +kernel
theorem dX7_digests_51 : decode cX7_digests 51 = .ok (.iadd, 1) := by decide +kernel
theorem dX7_digests_52 : decode cX7_digests 52 = .ok (.ireturn, 1) := by decide +kernel
theorem dX7_digests_53 : decode cX7_digests 53 = .ok (.iconst 2, 1) := by decide +kernel
theorem dX7_digests_54 : decode cX7_digests 54 = .ok (.aload_n 0, 1) := by decide +kernel
theorem dX7_digests_55 : decode cX7_digests 55 = .ok (.getfield 7, 3) := by decide +kernel
theorem dX7_digests_58 : decode cX7_digests 58 = .ok (.iconst 3, 1) := by decide +kernel
theorem dX7_digests_59 : decode cX7_digests 59 = .ok (.iaload, 1) := by decide +kernel
theorem dX7_digests_60 : decode cX7_digests 60 = .ok (.iadd, 1) := by decide +kernel
theorem dX7_digests_61 : decode cX7_digests 61 = .ok (.ireturn, 1) := by decide +kernel
theorem dX7_digests_62 : decode cX7_digests 62 = .ok (.iconst 1, 1) := by decide +kernel
theorem dX7_digests_63 : decode cX7_digests 63 = .ok (.ireturn, 1) := by decide +kernel
theorem dX7_digests_64 : decode cX7_digests 64 = .ok (.bipush 8, 2) := by decide +kernel
theorem dX7_digests_66 : decode cX7_digests 66 = .ok (.ireturn, 1) := by decide +kernel
theorem dX7_digests_67 : decode cX7_digests 67 = .ok (.bipush 16, 2) := by decide +kernel
theorem dX7_digests_69 : decode cX7_digests 69 = .ok (.ireturn, 1) := by decide +kernel
theorem dX7_digests_70 : decode cX7_digests 70 = .ok (.aload_n 0, 1) := by decide +kernel
theorem dX7_digests_71 : decode cX7_digests 71 = .ok (.getfield 7, 3) := by decide +kernel
theorem dX7_digests_74 : decode cX7_digests 74 = .ok (.iconst 1, 1) := by decide +kernel
theorem dX7_digests_75 : decode cX7_digests 75 = .ok (.iaload, 1) := by decide +kernel
theorem dX7_digests_76 : decode cX7_digests 76 = .ok (.bipush 7, 2) := by decide +kernel
theorem dX7_digests_78 : decode cX7_digests 78 = .ok (.irem, 1) := by decide +kernel
theorem dX7_digests_79 : decode cX7_digests 79 = .ok (.bipush 6, 2) := by decide +kernel
theorem dX7_digests_81 : decode cX7_digests 81 = .ok (.if_icmp .ne 7, 3) := by decide +kernel
theorem dX7_digests_84 : decode cX7_digests 84 = .ok (.iconst 0, 1) := by decide +kernel
theorem dX7_digests_85 : decode cX7_digests 85 = .ok (.goto 4, 3) := by decide +kernel
theorem dX7_digests_88 : decode cX7_digests 88 = .ok (.iconst 5, 1) := by decide +kernel
theorem dX7_digests_89 : decode cX7_digests 89 = .ok (.ireturn, 1) := by decide +kernel
theorem dX7_digests_90 : decode cX7_digests 90 = .ok (.iconst 5, 1) := by decide +kernel
theorem dX7_digests_91 : decode cX7_digests 91 = .ok (.ireturn, 1) := by decide +kernel
theorem dX7_keeps_0 : decode cX7_keeps 0 = .ok (.aload_n 0, 1) := by decide +kernel
theorem dX7_keeps_1 : decode cX7_keeps 1 = .ok (.iload_n 1, 1) := by decide +kernel
theorem dX7_keeps_2 : decode cX7_keeps 2 = .ok (.iconst 0, 1) := by decide +kernel
theorem dX7_keeps_3 : decode cX7_keeps 3 = .ok (.invokevirtual 54, 3) := by decide +kernel
theorem dX7_keeps_6 : decode cX7_keeps 6 = .ok (.istore_n 2, 1) := by decide +kernel
theorem dX7_keeps_7 : decode cX7_keeps 7 = .ok (.iload_n 2, 1) := by decide +kernel
theorem dX7_keeps_8 : decode cX7_keeps 8 = .ok (.iconst 4, 1) := by decide +kernel
theorem dX7_keeps_9 : decode cX7_keeps 9 = .ok (.if_icmp .eq 21, 3) := by decide +kernel
theorem dX7_keeps_12 : decode cX7_keeps 12 = .ok (.iload_n 2, 1) := by decide +kernel
theorem dX7_keeps_13 : decode cX7_keeps 13 = .ok (.iconst 5, 1) := by decide +kernel
theorem dX7_keeps_14 : decode cX7_keeps 14 = .ok (.if_icmp .ne 20, 3) := by decide +kernel
theorem dX7_keeps_17 : decode cX7_keeps 17 = .ok (.aload_n 0, 1) := by decide +kernel
theorem dX7_keeps_18 : decode cX7_keeps 18 = .ok (.iload_n 1, 1) := by decide +kernel
theorem dX7_keeps_19 : decode cX7_keeps 19 = .ok (.iconst 3, 1) := by decide +kernel
theorem dX7_keeps_20 : decode cX7_keeps 20 = .ok (.invokevirtual 54, 3) := by decide +kernel
theorem dX7_keeps_23 : decode cX7_keeps 23 = .ok (.invokestatic 58, 3) := by decide +kernel
theorem dX7_keeps_26 : decode cX7_keeps 26 = .ok (.iconst 4, 1) := by decide +kernel
theorem dX7_keeps_27 : decode cX7_keeps 27 = .ok (.if_icmp .ge 7, 3) := by decide +kernel
theorem dX7_keeps_30 : decode cX7_keeps 30 = .ok (.iconst 1, 1) := by decide +kernel
theorem dX7_keeps_31 : decode cX7_keeps 31 = .ok (.goto 4, 3) := by decide +kernel
theorem dX7_keeps_34 : decode cX7_keeps 34 = .ok (.iconst 0, 1) := by decide +kernel
theorem dX7_keeps_35 : decode cX7_keeps 35 = .ok (.ireturn, 1) := by decide +kernel
theorem dX7_roomiest_0 : decode cX7_roomiest 0 = .ok (.iconst (-1), 1) := by decide +kernel
theorem dX7_roomiest_1 : decode cX7_roomiest 1 = .ok (.istore_n 3, 1) := by decide +kernel
theorem dX7_roomiest_2 : decode cX7_roomiest 2 = .ok (.iconst 0, 1) := by decide +kernel
theorem dX7_roomiest_3 : decode cX7_roomiest 3 = .ok (.istore 4, 2) := by decide +kernel
theorem dX7_roomiest_5 : decode cX7_roomiest 5 = .ok (.iload 4, 2) := by decide +kernel
theorem dX7_roomiest_7 : decode cX7_roomiest 7 = .ok (.aload_n 0, 1) := by decide +kernel
theorem dX7_roomiest_8 : decode cX7_roomiest 8 = .ok (.getfield 7, 3) := by decide +kernel
theorem dX7_roomiest_11 : decode cX7_roomiest 11 = .ok (.iconst 0, 1) := by decide +kernel
theorem dX7_roomiest_12 : decode cX7_roomiest 12 = .ok (.iaload, 1) := by decide +kernel
theorem dX7_roomiest_13 : decode cX7_roomiest 13 = .ok (.if_icmp .ge 59, 3) := by decide +kernel
theorem dX7_roomiest_16 : decode cX7_roomiest 16 = .ok (.iload 4, 2) := by decide +kernel
theorem dX7_roomiest_18 : decode cX7_roomiest 18 = .ok (.iload_n 2, 1) := by decide +kernel
theorem dX7_roomiest_19 : decode cX7_roomiest 19 = .ok (.if_icmp .eq 47, 3) := by decide +kernel
theorem dX7_roomiest_22 : decode cX7_roomiest 22 = .ok (.iload_n 1, 1) := by decide +kernel
theorem dX7_roomiest_23 : decode cX7_roomiest 23 = .ok (.ifCond .lt 18, 3) := by decide +kernel
theorem dX7_roomiest_26 : decode cX7_roomiest 26 = .ok (.aload_n 0, 1) := by decide +kernel
theorem dX7_roomiest_27 : decode cX7_roomiest 27 = .ok (.iload 4, 2) := by decide +kernel
theorem dX7_roomiest_29 : decode cX7_roomiest 29 = .ok (.iconst 2, 1) := by decide +kernel
theorem dX7_roomiest_30 : decode cX7_roomiest 30 = .ok (.invokevirtual 54, 3) := by decide +kernel
theorem dX7_roomiest_33 : decode cX7_roomiest 33 = .ok (.iload_n 1, 1) := by decide +kernel
theorem dX7_roomiest_34 : decode cX7_roomiest 34 = .ok (.ishr, 1) := by decide +kernel
theorem dX7_roomiest_35 : decode cX7_roomiest 35 = .ok (.iconst 1, 1) := by decide +kernel
theorem dX7_roomiest_36 : decode cX7_roomiest 36 = .ok (.iand, 1) := by decide +kernel
theorem dX7_roomiest_37 : decode cX7_roomiest 37 = .ok (.iconst 1, 1) := by decide +kernel
theorem dX7_roomiest_38 : decode cX7_roomiest 38 = .ok (.if_icmp .ne 28, 3) := by decide +kernel
theorem dX7_roomiest_41 : decode cX7_roomiest 41 = .ok (.iload_n 3, 1) := by decide +kernel
theorem dX7_roomiest_42 : decode cX7_roomiest 42 = .ok (.ifCond .lt 17, 3) := by decide +kernel
theorem dX7_roomiest_45 : decode cX7_roomiest 45 = .ok (.aload_n 0, 1) := by decide +kernel
theorem dX7_roomiest_46 : decode cX7_roomiest 46 = .ok (.iload 4, 2) := by decide +kernel
theorem dX7_roomiest_48 : decode cX7_roomiest 48 = .ok (.invokevirtual 69, 3) := by decide +kernel
theorem dX7_roomiest_51 : decode cX7_roomiest 51 = .ok (.aload_n 0, 1) := by decide +kernel
theorem dX7_roomiest_52 : decode cX7_roomiest 52 = .ok (.iload_n 3, 1) := by decide +kernel
theorem dX7_roomiest_53 : decode cX7_roomiest 53 = .ok (.invokevirtual 69, 3) := by decide +kernel
theorem dX7_roomiest_56 : decode cX7_roomiest 56 = .ok (.if_icmp .le 8, 3) := by decide +kernel
theorem dX7_roomiest_59 : decode cX7_roomiest 59 = .ok (.iload 4, 2) := by decide +kernel
theorem dX7_roomiest_61 : decode cX7_roomiest 61 = .ok (.goto 4, 3) := by decide +kernel
theorem dX7_roomiest_64 : decode cX7_roomiest 64 = .ok (.iload_n 3, 1) := by decide +kernel
theorem dX7_roomiest_65 : decode cX7_roomiest 65 = .ok (.istore_n 3, 1) := by decide +kernel
theorem dX7_roomiest_66 : decode cX7_roomiest 66 = .ok (.iinc 4 1, 3) := by decide +kernel
theorem dX7_roomiest_69 : decode cX7_roomiest 69 = .ok (.goto (-64), 3) := by decide +kernel
theorem dX7_roomiest_72 : decode cX7_roomiest 72 = .ok (.iload_n 3, 1) := by decide +kernel
theorem dX7_roomiest_73 : decode cX7_roomiest 73 = .ok (.ireturn, 1) := by decide +kernel
theorem dX7_todays_0 : decode cX7_todays 0 = .ok (.bipush 6, 2) := by decide +kernel
theorem dX7_todays_2 : decode cX7_todays 2 = .ok (.aload_n 0, 1) := by decide +kernel
theorem dX7_todays_3 : decode cX7_todays 3 = .ok (.getfield 7, 3) := by decide +kernel
theorem dX7_todays_6 : decode cX7_todays 6 = .ok (.iconst 1, 1) := by decide +kernel
theorem dX7_todays_7 : decode cX7_todays 7 = .ok (.iaload, 1) := by decide +kernel
theorem dX7_todays_8 : decode cX7_todays 8 = .ok (.bipush 6, 2) := by decide +kernel
theorem dX7_todays_10 : decode cX7_todays 10 = .ok (.irem, 1) := by decide +kernel
theorem dX7_todays_11 : decode cX7_todays 11 = .ok (.iadd, 1) := by decide +kernel
theorem dX7_todays_12 : decode cX7_todays 12 = .ok (.ireturn, 1) := by decide +kernel
theorem dX7_confesses_0 : decode cX7_confesses 0 = .ok (.iload_n 1, 1) := by decide +kernel
theorem dX7_confesses_1 : decode cX7_confesses 1 = .ok (.bipush 100, 2) := by decide +kernel
theorem dX7_confesses_3 : decode cX7_confesses 3 = .ok (.idiv, 1) := by decide +kernel
theorem dX7_confesses_4 : decode cX7_confesses 4 = .ok (.istore_n 2, 1) := by decide +kernel
theorem dX7_confesses_5 : decode cX7_confesses 5 = .ok (.iload_n 1, 1) := by decide +kernel
theorem dX7_confesses_6 : decode cX7_confesses 6 = .ok (.bipush 100, 2) := by decide +kernel
theorem dX7_confesses_8 : decode cX7_confesses 8 = .ok (.irem, 1) := by decide +kernel
theorem dX7_confesses_9 : decode cX7_confesses 9 = .ok (.istore_n 3, 1) := by decide +kernel
theorem dX7_confesses_10 : decode cX7_confesses 10 = .ok (.iload_n 3, 1) := by decide +kernel
theorem dX7_confesses_11 : decode cX7_confesses 11 = .ok (.ifCond .ne 4, 3) := by decide +kernel
theorem dX7_confesses_14 : decode cX7_confesses 14 = .ok (.return_, 1) := by decide +kernel
theorem dX7_confesses_15 : decode cX7_confesses 15 = .ok (.aload_n 0, 1) := by decide +kernel
theorem dX7_confesses_16 : decode cX7_confesses 16 = .ok (.iload_n 2, 1) := by decide +kernel
theorem dX7_confesses_17 : decode cX7_confesses 17 = .ok (.iconst (-1), 1) := by decide +kernel
theorem dX7_confesses_18 : decode cX7_confesses 18 = .ok (.invokevirtual 72, 3) := by decide +kernel
theorem dX7_confesses_21 : decode cX7_confesses 21 = .ok (.istore 4, 2) := by decide +kernel
theorem dX7_confesses_23 : decode cX7_confesses 23 = .ok (.iload 4, 2) := by decide +kernel
theorem dX7_confesses_25 : decode cX7_confesses 25 = .ok (.ifCond .ge 24, 3) := by decide +kernel
theorem dX7_confesses_28 : decode cX7_confesses 28 = .ok (.aload_n 0, 1) := by decide +kernel
theorem dX7_confesses_29 : decode cX7_confesses 29 = .ok (.getfield 7, 3) := by decide +kernel
theorem dX7_confesses_32 : decode cX7_confesses 32 = .ok (.iconst 5, 1) := by decide +kernel
theorem dX7_confesses_33 : decode cX7_confesses 33 = .ok (.aload_n 0, 1) := by decide +kernel
theorem dX7_confesses_34 : decode cX7_confesses 34 = .ok (.getfield 7, 3) := by decide +kernel
theorem dX7_confesses_37 : decode cX7_confesses 37 = .ok (.iconst 5, 1) := by decide +kernel
theorem dX7_confesses_38 : decode cX7_confesses 38 = .ok (.iaload, 1) := by decide +kernel
theorem dX7_confesses_39 : decode cX7_confesses 39 = .ok (.iconst 1, 1) := by decide +kernel
theorem dX7_confesses_40 : decode cX7_confesses 40 = .ok (.iadd, 1) := by decide +kernel
theorem dX7_confesses_41 : decode cX7_confesses 41 = .ok (.iconst 0, 1) := by decide +kernel
theorem dX7_confesses_42 : decode cX7_confesses 42 = .ok (.ldc 75, 2) := by decide +kernel
theorem dX7_confesses_44 : decode cX7_confesses 44 = .ok (.invokestatic 62, 3) := by decide +kernel
theorem dX7_confesses_47 : decode cX7_confesses 47 = .ok (.iastore, 1) := by decide +kernel
theorem dX7_confesses_48 : decode cX7_confesses 48 = .ok (.return_, 1) := by decide +kernel
theorem dX7_confesses_49 : decode cX7_confesses 49 = .ok (.aload_n 0, 1) := by decide +kernel
theorem dX7_confesses_50 : decode cX7_confesses 50 = .ok (.iload 4, 2) := by decide +kernel
theorem dX7_confesses_52 : decode cX7_confesses 52 = .ok (.iconst 1, 1) := by decide +kernel
theorem dX7_confesses_53 : decode cX7_confesses 53 = .ok (.aload_n 0, 1) := by decide +kernel
theorem dX7_confesses_54 : decode cX7_confesses 54 = .ok (.iload 4, 2) := by decide +kernel
theorem dX7_confesses_56 : decode cX7_confesses 56 = .ok (.iconst 1, 1) := by decide +kernel
theorem dX7_confesses_57 : decode cX7_confesses 57 = .ok (.invokevirtual 54, 3) := by decide +kernel
theorem dX7_confesses_60 : decode cX7_confesses 60 = .ok (.aload_n 0, 1) := by decide +kernel
theorem dX7_confesses_61 : decode cX7_confesses 61 = .ok (.iload 4, 2) := by decide +kernel
theorem dX7_confesses_63 : decode cX7_confesses 63 = .ok (.iload_n 2, 1) := by decide +kernel
theorem dX7_confesses_64 : decode cX7_confesses 64 = .ok (.iload_n 3, 1) := by decide +kernel
theorem dX7_confesses_65 : decode cX7_confesses 65 = .ok (.invokevirtual 76, 3) := by decide +kernel
theorem dX7_confesses_68 : decode cX7_confesses 68 = .ok (.iadd, 1) := by decide +kernel
theorem dX7_confesses_69 : decode cX7_confesses 69 = .ok (.iconst 0, 1) := by decide +kernel
theorem dX7_confesses_70 : decode cX7_confesses 70 = .ok (.sipush 999, 3) := by decide +kernel
theorem dX7_confesses_73 : decode cX7_confesses 73 = .ok (.invokestatic 62, 3) := by decide +kernel
theorem dX7_confesses_76 : decode cX7_confesses 76 = .ok (.invokevirtual 79, 3) := by decide +kernel
theorem dX7_confesses_79 : decode cX7_confesses 79 = .ok (.aload_n 0, 1) := by decide +kernel
theorem dX7_confesses_80 : decode cX7_confesses 80 = .ok (.iload 4, 2) := by decide +kernel
theorem dX7_confesses_82 : decode cX7_confesses 82 = .ok (.iconst 3, 1) := by decide +kernel
theorem dX7_confesses_83 : decode cX7_confesses 83 = .ok (.aload_n 0, 1) := by decide +kernel
theorem dX7_confesses_84 : decode cX7_confesses 84 = .ok (.iload 4, 2) := by decide +kernel
theorem dX7_confesses_86 : decode cX7_confesses 86 = .ok (.iconst 3, 1) := by decide +kernel
theorem dX7_confesses_87 : decode cX7_confesses 87 = .ok (.invokevirtual 54, 3) := by decide +kernel
theorem dX7_confesses_90 : decode cX7_confesses 90 = .ok (.iconst 1, 1) := by decide +kernel
theorem dX7_confesses_91 : decode cX7_confesses 91 = .ok (.iload_n 2, 1) := by decide +kernel
theorem dX7_confesses_92 : decode cX7_confesses 92 = .ok (.ishl, 1) := by decide +kernel
theorem dX7_confesses_93 : decode cX7_confesses 93 = .ok (.ior, 1) := by decide +kernel
theorem dX7_confesses_94 : decode cX7_confesses 94 = .ok (.invokevirtual 79, 3) := by decide +kernel
theorem dX7_confesses_97 : decode cX7_confesses 97 = .ok (.aload_n 0, 1) := by decide +kernel
theorem dX7_confesses_98 : decode cX7_confesses 98 = .ok (.iload 4, 2) := by decide +kernel
theorem dX7_confesses_100 : decode cX7_confesses 100 = .ok (.iconst 4, 1) := by decide +kernel
theorem dX7_confesses_101 : decode cX7_confesses 101 = .ok (.aload_n 0, 1) := by decide +kernel
theorem dX7_confesses_102 : decode cX7_confesses 102 = .ok (.iload 4, 2) := by decide +kernel
theorem dX7_confesses_104 : decode cX7_confesses 104 = .ok (.iconst 4, 1) := by decide +kernel
theorem dX7_confesses_105 : decode cX7_confesses 105 = .ok (.invokevirtual 54, 3) := by decide +kernel
theorem dX7_confesses_108 : decode cX7_confesses 108 = .ok (.iconst 1, 1) := by decide +kernel
theorem dX7_confesses_109 : decode cX7_confesses 109 = .ok (.iadd, 1) := by decide +kernel
theorem dX7_confesses_110 : decode cX7_confesses 110 = .ok (.iconst 0, 1) := by decide +kernel
theorem dX7_confesses_111 : decode cX7_confesses 111 = .ok (.sipush 9999, 3) := by decide +kernel
theorem dX7_confesses_114 : decode cX7_confesses 114 = .ok (.invokestatic 62, 3) := by decide +kernel
theorem dX7_confesses_117 : decode cX7_confesses 117 = .ok (.invokevirtual 79, 3) := by decide +kernel
theorem dX7_confesses_120 : decode cX7_confesses 120 = .ok (.return_, 1) := by decide +kernel
theorem dX7_dayGoes_0 : decode cX7_dayGoes 0 = .ok (.aload_n 0, 1) := by decide +kernel
theorem dX7_dayGoes_1 : decode cX7_dayGoes 1 = .ok (.aload_n 0, 1) := by decide +kernel
theorem dX7_dayGoes_2 : decode cX7_dayGoes 2 = .ok (.getfield 7, 3) := by decide +kernel
theorem dX7_dayGoes_5 : decode cX7_dayGoes 5 = .ok (.aload_n 0, 1) := by decide +kernel
theorem dX7_dayGoes_6 : decode cX7_dayGoes 6 = .ok (.invokevirtual 83, 3) := by decide +kernel
theorem dX7_dayGoes_9 : decode cX7_dayGoes 9 = .ok (.iaload, 1) := by decide +kernel
theorem dX7_dayGoes_10 : decode cX7_dayGoes 10 = .ok (.invokevirtual 87, 3) := by decide +kernel
theorem dX7_dayGoes_13 : decode cX7_dayGoes 13 = .ok (.iconst 0, 1) := by decide +kernel
theorem dX7_dayGoes_14 : decode cX7_dayGoes 14 = .ok (.istore_n 1, 1) := by decide +kernel
theorem dX7_dayGoes_15 : decode cX7_dayGoes 15 = .ok (.iload_n 1, 1) := by decide +kernel
theorem dX7_dayGoes_16 : decode cX7_dayGoes 16 = .ok (.aload_n 0, 1) := by decide +kernel
theorem dX7_dayGoes_17 : decode cX7_dayGoes 17 = .ok (.getfield 7, 3) := by decide +kernel
theorem dX7_dayGoes_20 : decode cX7_dayGoes 20 = .ok (.iconst 0, 1) := by decide +kernel
theorem dX7_dayGoes_21 : decode cX7_dayGoes 21 = .ok (.iaload, 1) := by decide +kernel
theorem dX7_dayGoes_22 : decode cX7_dayGoes 22 = .ok (.if_icmp .ge 79, 3) := by decide +kernel
theorem dX7_dayGoes_25 : decode cX7_dayGoes 25 = .ok (.aload_n 0, 1) := by decide +kernel
theorem dX7_dayGoes_26 : decode cX7_dayGoes 26 = .ok (.iload_n 1, 1) := by decide +kernel
theorem dX7_dayGoes_27 : decode cX7_dayGoes 27 = .ok (.invokevirtual 69, 3) := by decide +kernel
theorem dX7_dayGoes_30 : decode cX7_dayGoes 30 = .ok (.ifCond .ge 65, 3) := by decide +kernel
theorem dX7_dayGoes_33 : decode cX7_dayGoes 33 = .ok (.aload_n 0, 1) := by decide +kernel
theorem dX7_dayGoes_34 : decode cX7_dayGoes 34 = .ok (.getfield 7, 3) := by decide +kernel
theorem dX7_dayGoes_37 : decode cX7_dayGoes 37 = .ok (.iconst 4, 1) := by decide +kernel
theorem dX7_dayGoes_38 : decode cX7_dayGoes 38 = .ok (.dup2, 1) := by decide +kernel
theorem dX7_dayGoes_39 : decode cX7_dayGoes 39 = .ok (.iaload, 1) := by decide +kernel
theorem dX7_dayGoes_40 : decode cX7_dayGoes 40 = .ok (.aload_n 0, 1) := by decide +kernel
theorem dX7_dayGoes_41 : decode cX7_dayGoes 41 = .ok (.iload_n 1, 1) := by decide +kernel
theorem dX7_dayGoes_42 : decode cX7_dayGoes 42 = .ok (.invokevirtual 91, 3) := by decide +kernel
theorem dX7_dayGoes_45 : decode cX7_dayGoes 45 = .ok (.ifCond .eq 7, 3) := by decide +kernel
theorem dX7_dayGoes_48 : decode cX7_dayGoes 48 = .ok (.iconst 0, 1) := by decide +kernel
theorem dX7_dayGoes_49 : decode cX7_dayGoes 49 = .ok (.goto 9, 3) := by decide +kernel
theorem dX7_dayGoes_52 : decode cX7_dayGoes 52 = .ok (.aload_n 0, 1) := by decide +kernel
theorem dX7_dayGoes_53 : decode cX7_dayGoes 53 = .ok (.iload_n 1, 1) := by decide +kernel
theorem dX7_dayGoes_54 : decode cX7_dayGoes 54 = .ok (.iconst 3, 1) := by decide +kernel
theorem dX7_dayGoes_55 : decode cX7_dayGoes 55 = .ok (.invokevirtual 54, 3) := by decide +kernel
theorem dX7_dayGoes_58 : decode cX7_dayGoes 58 = .ok (.ior, 1) := by decide +kernel
theorem dX7_dayGoes_59 : decode cX7_dayGoes 59 = .ok (.iastore, 1) := by decide +kernel
theorem dX7_dayGoes_60 : decode cX7_dayGoes 60 = .ok (.aload_n 0, 1) := by decide +kernel
theorem dX7_dayGoes_61 : decode cX7_dayGoes 61 = .ok (.iload_n 1, 1) := by decide +kernel
theorem dX7_dayGoes_62 : decode cX7_dayGoes 62 = .ok (.iconst 3, 1) := by decide +kernel
theorem dX7_dayGoes_63 : decode cX7_dayGoes 63 = .ok (.iconst 0, 1) := by decide +kernel
theorem dX7_dayGoes_64 : decode cX7_dayGoes 64 = .ok (.invokevirtual 79, 3) := by decide +kernel
theorem dX7_dayGoes_67 : decode cX7_dayGoes 67 = .ok (.aload_n 0, 1) := by decide +kernel
theorem dX7_dayGoes_68 : decode cX7_dayGoes 68 = .ok (.iload_n 1, 1) := by decide +kernel
theorem dX7_dayGoes_69 : decode cX7_dayGoes 69 = .ok (.iconst 1, 1) := by decide +kernel
theorem dX7_dayGoes_70 : decode cX7_dayGoes 70 = .ok (.iconst 0, 1) := by decide +kernel
theorem dX7_dayGoes_71 : decode cX7_dayGoes 71 = .ok (.invokevirtual 79, 3) := by decide +kernel
theorem dX7_dayGoes_74 : decode cX7_dayGoes 74 = .ok (.aload_n 0, 1) := by decide +kernel
theorem dX7_dayGoes_75 : decode cX7_dayGoes 75 = .ok (.iload_n 1, 1) := by decide +kernel
theorem dX7_dayGoes_76 : decode cX7_dayGoes 76 = .ok (.iconst 5, 1) := by decide +kernel
theorem dX7_dayGoes_77 : decode cX7_dayGoes 77 = .ok (.aload_n 0, 1) := by decide +kernel
theorem dX7_dayGoes_78 : decode cX7_dayGoes 78 = .ok (.iload_n 1, 1) := by decide +kernel
theorem dX7_dayGoes_79 : decode cX7_dayGoes 79 = .ok (.iconst 5, 1) := by decide +kernel
theorem dX7_dayGoes_80 : decode cX7_dayGoes 80 = .ok (.invokevirtual 54, 3) := by decide +kernel
theorem dX7_dayGoes_83 : decode cX7_dayGoes 83 = .ok (.iconst 1, 1) := by decide +kernel
theorem dX7_dayGoes_84 : decode cX7_dayGoes 84 = .ok (.iadd, 1) := by decide +kernel
theorem dX7_dayGoes_85 : decode cX7_dayGoes 85 = .ok (.iconst 0, 1) := by decide +kernel
theorem dX7_dayGoes_86 : decode cX7_dayGoes 86 = .ok (.sipush 9999, 3) := by decide +kernel
theorem dX7_dayGoes_89 : decode cX7_dayGoes 89 = .ok (.invokestatic 62, 3) := by decide +kernel
theorem dX7_dayGoes_92 : decode cX7_dayGoes 92 = .ok (.invokevirtual 79, 3) := by decide +kernel
theorem dX7_dayGoes_95 : decode cX7_dayGoes 95 = .ok (.iinc 1 1, 3) := by decide +kernel
theorem dX7_dayGoes_98 : decode cX7_dayGoes 98 = .ok (.goto (-83), 3) := by decide +kernel
theorem dX7_dayGoes_101 : decode cX7_dayGoes 101 = .ok (.iconst 0, 1) := by decide +kernel
theorem dX7_dayGoes_102 : decode cX7_dayGoes 102 = .ok (.istore_n 1, 1) := by decide +kernel
theorem dX7_dayGoes_103 : decode cX7_dayGoes 103 = .ok (.iload_n 1, 1) := by decide +kernel
theorem dX7_dayGoes_104 : decode cX7_dayGoes 104 = .ok (.aload_n 0, 1) := by decide +kernel
theorem dX7_dayGoes_105 : decode cX7_dayGoes 105 = .ok (.getfield 7, 3) := by decide +kernel
theorem dX7_dayGoes_108 : decode cX7_dayGoes 108 = .ok (.iconst 0, 1) := by decide +kernel
theorem dX7_dayGoes_109 : decode cX7_dayGoes 109 = .ok (.iaload, 1) := by decide +kernel
theorem dX7_dayGoes_110 : decode cX7_dayGoes 110 = .ok (.if_icmp .ge 34, 3) := by decide +kernel
theorem dX7_dayGoes_113 : decode cX7_dayGoes 113 = .ok (.aload_n 0, 1) := by decide +kernel
theorem dX7_dayGoes_114 : decode cX7_dayGoes 114 = .ok (.iload_n 1, 1) := by decide +kernel
theorem dX7_dayGoes_115 : decode cX7_dayGoes 115 = .ok (.iconst 1, 1) := by decide +kernel
theorem dX7_dayGoes_116 : decode cX7_dayGoes 116 = .ok (.aload_n 0, 1) := by decide +kernel
theorem dX7_dayGoes_117 : decode cX7_dayGoes 117 = .ok (.iload_n 1, 1) := by decide +kernel
theorem dX7_dayGoes_118 : decode cX7_dayGoes 118 = .ok (.iconst 1, 1) := by decide +kernel
theorem dX7_dayGoes_119 : decode cX7_dayGoes 119 = .ok (.invokevirtual 54, 3) := by decide +kernel
theorem dX7_dayGoes_122 : decode cX7_dayGoes 122 = .ok (.aload_n 0, 1) := by decide +kernel
theorem dX7_dayGoes_123 : decode cX7_dayGoes 123 = .ok (.iload_n 1, 1) := by decide +kernel
theorem dX7_dayGoes_124 : decode cX7_dayGoes 124 = .ok (.invokevirtual 95, 3) := by decide +kernel
theorem dX7_dayGoes_127 : decode cX7_dayGoes 127 = .ok (.isub, 1) := by decide +kernel
theorem dX7_dayGoes_128 : decode cX7_dayGoes 128 = .ok (.iconst 0, 1) := by decide +kernel
theorem dX7_dayGoes_129 : decode cX7_dayGoes 129 = .ok (.sipush 999, 3) := by decide +kernel
theorem dX7_dayGoes_132 : decode cX7_dayGoes 132 = .ok (.invokestatic 62, 3) := by decide +kernel
theorem dX7_dayGoes_135 : decode cX7_dayGoes 135 = .ok (.invokevirtual 79, 3) := by decide +kernel
theorem dX7_dayGoes_138 : decode cX7_dayGoes 138 = .ok (.iinc 1 1, 3) := by decide +kernel
theorem dX7_dayGoes_141 : decode cX7_dayGoes 141 = .ok (.goto (-38), 3) := by decide +kernel
theorem dX7_dayGoes_144 : decode cX7_dayGoes 144 = .ok (.aload_n 0, 1) := by decide +kernel
theorem dX7_dayGoes_145 : decode cX7_dayGoes 145 = .ok (.getfield 7, 3) := by decide +kernel
theorem dX7_dayGoes_148 : decode cX7_dayGoes 148 = .ok (.iconst 1, 1) := by decide +kernel
theorem dX7_dayGoes_149 : decode cX7_dayGoes 149 = .ok (.aload_n 0, 1) := by decide +kernel
theorem dX7_dayGoes_150 : decode cX7_dayGoes 150 = .ok (.getfield 7, 3) := by decide +kernel
theorem dX7_dayGoes_153 : decode cX7_dayGoes 153 = .ok (.iconst 1, 1) := by decide +kernel
theorem dX7_dayGoes_154 : decode cX7_dayGoes 154 = .ok (.iaload, 1) := by decide +kernel
theorem dX7_dayGoes_155 : decode cX7_dayGoes 155 = .ok (.iconst 1, 1) := by decide +kernel
theorem dX7_dayGoes_156 : decode cX7_dayGoes 156 = .ok (.iadd, 1) := by decide +kernel
theorem dX7_dayGoes_157 : decode cX7_dayGoes 157 = .ok (.iconst 0, 1) := by decide +kernel
theorem dX7_dayGoes_158 : decode cX7_dayGoes 158 = .ok (.ldc 75, 2) := by decide +kernel
theorem dX7_dayGoes_160 : decode cX7_dayGoes 160 = .ok (.invokestatic 62, 3) := by decide +kernel
theorem dX7_dayGoes_163 : decode cX7_dayGoes 163 = .ok (.iastore, 1) := by decide +kernel
theorem dX7_dayGoes_164 : decode cX7_dayGoes 164 = .ok (.return_, 1) := by decide +kernel
theorem dX7_daysGo_0 : decode cX7_daysGo 0 = .ok (.iconst 0, 1) := by decide +kernel
theorem dX7_daysGo_1 : decode cX7_daysGo 1 = .ok (.istore_n 2, 1) := by decide +kernel
theorem dX7_daysGo_2 : decode cX7_daysGo 2 = .ok (.iload_n 2, 1) := by decide +kernel
theorem dX7_daysGo_3 : decode cX7_daysGo 3 = .ok (.iload_n 1, 1) := by decide +kernel
theorem dX7_daysGo_4 : decode cX7_daysGo 4 = .ok (.if_icmp .ge 13, 3) := by decide +kernel
theorem dX7_daysGo_7 : decode cX7_daysGo 7 = .ok (.aload_n 0, 1) := by decide +kernel
theorem dX7_daysGo_8 : decode cX7_daysGo 8 = .ok (.invokevirtual 98, 3) := by decide +kernel
theorem dX7_daysGo_11 : decode cX7_daysGo 11 = .ok (.iinc 2 1, 3) := by decide +kernel
theorem dX7_daysGo_14 : decode cX7_daysGo 14 = .ok (.goto (-12), 3) := by decide +kernel
theorem dX7_daysGo_17 : decode cX7_daysGo 17 = .ok (.return_, 1) := by decide +kernel
theorem dX7_sumOf_0 : decode cX7_sumOf 0 = .ok (.iconst 0, 1) := by decide +kernel
theorem dX7_sumOf_1 : decode cX7_sumOf 1 = .ok (.istore_n 2, 1) := by decide +kernel
theorem dX7_sumOf_2 : decode cX7_sumOf 2 = .ok (.iconst 0, 1) := by decide +kernel
theorem dX7_sumOf_3 : decode cX7_sumOf 3 = .ok (.istore_n 3, 1) := by decide +kernel
theorem dX7_sumOf_4 : decode cX7_sumOf 4 = .ok (.iload_n 3, 1) := by decide +kernel
theorem dX7_sumOf_5 : decode cX7_sumOf 5 = .ok (.aload_n 0, 1) := by decide +kernel
theorem dX7_sumOf_6 : decode cX7_sumOf 6 = .ok (.getfield 7, 3) := by decide +kernel
theorem dX7_sumOf_9 : decode cX7_sumOf 9 = .ok (.iconst 0, 1) := by decide +kernel
theorem dX7_sumOf_10 : decode cX7_sumOf 10 = .ok (.iaload, 1) := by decide +kernel
theorem dX7_sumOf_11 : decode cX7_sumOf 11 = .ok (.if_icmp .ge 18, 3) := by decide +kernel
theorem dX7_sumOf_14 : decode cX7_sumOf 14 = .ok (.iload_n 2, 1) := by decide +kernel
theorem dX7_sumOf_15 : decode cX7_sumOf 15 = .ok (.aload_n 0, 1) := by decide +kernel
theorem dX7_sumOf_16 : decode cX7_sumOf 16 = .ok (.iload_n 3, 1) := by decide +kernel
theorem dX7_sumOf_17 : decode cX7_sumOf 17 = .ok (.iload_n 1, 1) := by decide +kernel
theorem dX7_sumOf_18 : decode cX7_sumOf 18 = .ok (.invokevirtual 54, 3) := by decide +kernel
theorem dX7_sumOf_21 : decode cX7_sumOf 21 = .ok (.iadd, 1) := by decide +kernel
theorem dX7_sumOf_22 : decode cX7_sumOf 22 = .ok (.istore_n 2, 1) := by decide +kernel
theorem dX7_sumOf_23 : decode cX7_sumOf 23 = .ok (.iinc 3 1, 3) := by decide +kernel
theorem dX7_sumOf_26 : decode cX7_sumOf 26 = .ok (.goto (-22), 3) := by decide +kernel
theorem dX7_sumOf_29 : decode cX7_sumOf 29 = .ok (.iload_n 2, 1) := by decide +kernel
theorem dX7_sumOf_30 : decode cX7_sumOf 30 = .ok (.ireturn, 1) := by decide +kernel
theorem dX7_together_0 : decode cX7_together 0 = .ok (.iconst 0, 1) := by decide +kernel
theorem dX7_together_1 : decode cX7_together 1 = .ok (.istore_n 2, 1) := by decide +kernel
theorem dX7_together_2 : decode cX7_together 2 = .ok (.iconst 0, 1) := by decide +kernel
theorem dX7_together_3 : decode cX7_together 3 = .ok (.istore_n 3, 1) := by decide +kernel
theorem dX7_together_4 : decode cX7_together 4 = .ok (.iload_n 3, 1) := by decide +kernel
theorem dX7_together_5 : decode cX7_together 5 = .ok (.aload_n 0, 1) := by decide +kernel
theorem dX7_together_6 : decode cX7_together 6 = .ok (.getfield 7, 3) := by decide +kernel
theorem dX7_together_9 : decode cX7_together 9 = .ok (.iconst 0, 1) := by decide +kernel
theorem dX7_together_10 : decode cX7_together 10 = .ok (.iaload, 1) := by decide +kernel
theorem dX7_together_11 : decode cX7_together 11 = .ok (.if_icmp .ge 18, 3) := by decide +kernel
theorem dX7_together_14 : decode cX7_together 14 = .ok (.iload_n 2, 1) := by decide +kernel
theorem dX7_together_15 : decode cX7_together 15 = .ok (.aload_n 0, 1) := by decide +kernel
theorem dX7_together_16 : decode cX7_together 16 = .ok (.iload_n 3, 1) := by decide +kernel
theorem dX7_together_17 : decode cX7_together 17 = .ok (.iload_n 1, 1) := by decide +kernel
theorem dX7_together_18 : decode cX7_together 18 = .ok (.invokevirtual 54, 3) := by decide +kernel
theorem dX7_together_21 : decode cX7_together 21 = .ok (.ior, 1) := by decide +kernel
theorem dX7_together_22 : decode cX7_together 22 = .ok (.istore_n 2, 1) := by decide +kernel
theorem dX7_together_23 : decode cX7_together 23 = .ok (.iinc 3 1, 3) := by decide +kernel
theorem dX7_together_26 : decode cX7_together 26 = .ok (.goto (-22), 3) := by decide +kernel
theorem dX7_together_29 : decode cX7_together 29 = .ok (.iload_n 2, 1) := by decide +kernel
theorem dX7_together_30 : decode cX7_together 30 = .ok (.ireturn, 1) := by decide +kernel
theorem dX7_set_0 : decode cX7_set 0 = .ok (.iload_n 1, 1) := by decide +kernel
theorem dX7_set_1 : decode cX7_set 1 = .ok (.ifCond .ne 15, 3) := by decide +kernel
theorem dX7_set_4 : decode cX7_set 4 = .ok (.iload_n 2, 1) := by decide +kernel
theorem dX7_set_5 : decode cX7_set 5 = .ok (.i2l, 1) := by decide +kernel
theorem dX7_set_6 : decode cX7_set 6 = .ok (.lconst 0, 1) := by decide +kernel
theorem dX7_set_7 : decode cX7_set 7 = .ok (.ldc2_w 101, 3) := by decide +kernel
theorem dX7_set_10 : decode cX7_set 10 = .ok (.invokestatic 42, 3) := by decide +kernel
theorem dX7_set_13 : decode cX7_set 13 = .ok (.ifCond .ne 15, 3) := by decide +kernel
theorem dX7_set_16 : decode cX7_set 16 = .ok (.iload_n 1, 1) := by decide +kernel
theorem dX7_set_17 : decode cX7_set 17 = .ok (.iconst 1, 1) := by decide +kernel
theorem dX7_set_18 : decode cX7_set 18 = .ok (.if_icmp .ne 21, 3) := by decide +kernel
theorem dX7_set_21 : decode cX7_set 21 = .ok (.iload_n 2, 1) := by decide +kernel
theorem dX7_set_22 : decode cX7_set 22 = .ok (.invokestatic 103, 3) := by decide +kernel
theorem dX7_set_25 : decode cX7_set 25 = .ok (.ifCond .eq 14, 3) := by decide +kernel
theorem dX7_set_28 : decode cX7_set 28 = .ok (.aload_n 0, 1) := by decide +kernel
theorem dX7_set_29 : decode cX7_set 29 = .ok (.iconst 3, 1) := by decide +kernel
theorem dX7_set_30 : decode cX7_set 30 = .ok (.iload_n 1, 1) := by decide +kernel
theorem dX7_set_31 : decode cX7_set 31 = .ok (.iadd, 1) := by decide +kernel
theorem dX7_set_32 : decode cX7_set 32 = .ok (.iload_n 2, 1) := by decide +kernel
theorem dX7_set_33 : decode cX7_set 33 = .ok (.invokevirtual 106, 3) := by decide +kernel
theorem dX7_set_36 : decode cX7_set 36 = .ok (.goto 8, 3) := by decide +kernel
theorem dX7_set_39 : decode cX7_set 39 = .ok (.aload_n 0, 1) := by decide +kernel
theorem dX7_set_40 : decode cX7_set 40 = .ok (.iconst 0, 1) := by decide +kernel
theorem dX7_set_41 : decode cX7_set 41 = .ok (.invokevirtual 109, 3) := by decide +kernel
theorem dX7_set_44 : decode cX7_set 44 = .ok (.ireturn, 1) := by decide +kernel
theorem dX7_list_0 : decode cX7_list 0 = .ok (.iload_n 1, 1) := by decide +kernel
theorem dX7_list_1 : decode cX7_list 1 = .ok (.invokestatic 112, 3) := by decide +kernel
theorem dX7_list_4 : decode cX7_list 4 = .ok (.ifCond .eq 22, 3) := by decide +kernel
theorem dX7_list_7 : decode cX7_list 7 = .ok (.iload_n 2, 1) := by decide +kernel
theorem dX7_list_8 : decode cX7_list 8 = .ok (.invokestatic 115, 3) := by decide +kernel
theorem dX7_list_11 : decode cX7_list 11 = .ok (.ifCond .eq 15, 3) := by decide +kernel
theorem dX7_list_14 : decode cX7_list 14 = .ok (.aload_n 0, 1) := by decide +kernel
theorem dX7_list_15 : decode cX7_list 15 = .ok (.bipush 6, 2) := by decide +kernel
theorem dX7_list_17 : decode cX7_list 17 = .ok (.iload_n 1, 1) := by decide +kernel
theorem dX7_list_18 : decode cX7_list 18 = .ok (.iadd, 1) := by decide +kernel
theorem dX7_list_19 : decode cX7_list 19 = .ok (.iload_n 2, 1) := by decide +kernel
theorem dX7_list_20 : decode cX7_list 20 = .ok (.invokevirtual 106, 3) := by decide +kernel
theorem dX7_list_23 : decode cX7_list 23 = .ok (.goto 8, 3) := by decide +kernel
theorem dX7_list_26 : decode cX7_list 26 = .ok (.aload_n 0, 1) := by decide +kernel
theorem dX7_list_27 : decode cX7_list 27 = .ok (.iconst 0, 1) := by decide +kernel
theorem dX7_list_28 : decode cX7_list 28 = .ok (.invokevirtual 109, 3) := by decide +kernel
theorem dX7_list_31 : decode cX7_list 31 = .ok (.ireturn, 1) := by decide +kernel
theorem dX7_listed_0 : decode cX7_listed 0 = .ok (.iload_n 1, 1) := by decide +kernel
theorem dX7_listed_1 : decode cX7_listed 1 = .ok (.invokestatic 112, 3) := by decide +kernel
theorem dX7_listed_4 : decode cX7_listed 4 = .ok (.ifCond .eq 15, 3) := by decide +kernel
theorem dX7_listed_7 : decode cX7_listed 7 = .ok (.aload_n 0, 1) := by decide +kernel
theorem dX7_listed_8 : decode cX7_listed 8 = .ok (.getfield 7, 3) := by decide +kernel
theorem dX7_listed_11 : decode cX7_listed 11 = .ok (.bipush 6, 2) := by decide +kernel
theorem dX7_listed_13 : decode cX7_listed 13 = .ok (.iload_n 1, 1) := by decide +kernel
theorem dX7_listed_14 : decode cX7_listed 14 = .ok (.iadd, 1) := by decide +kernel
theorem dX7_listed_15 : decode cX7_listed 15 = .ok (.iaload, 1) := by decide +kernel
theorem dX7_listed_16 : decode cX7_listed 16 = .ok (.goto 8, 3) := by decide +kernel
theorem dX7_listed_19 : decode cX7_listed 19 = .ok (.aload_n 0, 1) := by decide +kernel
theorem dX7_listed_20 : decode cX7_listed 20 = .ok (.iconst 0, 1) := by decide +kernel
theorem dX7_listed_21 : decode cX7_listed 21 = .ok (.invokevirtual 109, 3) := by decide +kernel
theorem dX7_listed_24 : decode cX7_listed 24 = .ok (.ireturn, 1) := by decide +kernel
theorem dX7_comes_0 : decode cX7_comes 0 = .ok (.aload_n 0, 1) := by decide +kernel
theorem dX7_comes_1 : decode cX7_comes 1 = .ok (.getfield 7, 3) := by decide +kernel
theorem dX7_comes_4 : decode cX7_comes 4 = .ok (.iconst 0, 1) := by decide +kernel
theorem dX7_comes_5 : decode cX7_comes 5 = .ok (.iaload, 1) := by decide +kernel
theorem dX7_comes_6 : decode cX7_comes 6 = .ok (.istore_n 3, 1) := by decide +kernel
theorem dX7_comes_7 : decode cX7_comes 7 = .ok (.iconst 0, 1) := by decide +kernel
theorem dX7_comes_8 : decode cX7_comes 8 = .ok (.istore 4, 2) := by decide +kernel
theorem dX7_comes_10 : decode cX7_comes 10 = .ok (.iload 4, 2) := by decide +kernel
theorem dX7_comes_12 : decode cX7_comes 12 = .ok (.iconst 5, 1) := by decide +kernel
theorem dX7_comes_13 : decode cX7_comes 13 = .ok (.if_icmp .gt 17, 3) := by decide +kernel
theorem dX7_comes_16 : decode cX7_comes 16 = .ok (.aload_n 0, 1) := by decide +kernel
theorem dX7_comes_17 : decode cX7_comes 17 = .ok (.iload_n 3, 1) := by decide +kernel
theorem dX7_comes_18 : decode cX7_comes 18 = .ok (.iload 4, 2) := by decide +kernel
theorem dX7_comes_20 : decode cX7_comes 20 = .ok (.iconst 0, 1) := by decide +kernel
theorem dX7_comes_21 : decode cX7_comes 21 = .ok (.invokevirtual 79, 3) := by decide +kernel
theorem dX7_comes_24 : decode cX7_comes 24 = .ok (.iinc 4 1, 3) := by decide +kernel
theorem dX7_comes_27 : decode cX7_comes 27 = .ok (.goto (-17), 3) := by decide +kernel
theorem dX7_comes_30 : decode cX7_comes 30 = .ok (.aload_n 0, 1) := by decide +kernel
theorem dX7_comes_31 : decode cX7_comes 31 = .ok (.iload_n 3, 1) := by decide +kernel
theorem dX7_comes_32 : decode cX7_comes 32 = .ok (.iconst 0, 1) := by decide +kernel
theorem dX7_comes_33 : decode cX7_comes 33 = .ok (.iload_n 1, 1) := by decide +kernel
theorem dX7_comes_34 : decode cX7_comes 34 = .ok (.invokevirtual 79, 3) := by decide +kernel
theorem dX7_comes_37 : decode cX7_comes 37 = .ok (.aload_n 0, 1) := by decide +kernel
theorem dX7_comes_38 : decode cX7_comes 38 = .ok (.iload_n 3, 1) := by decide +kernel
theorem dX7_comes_39 : decode cX7_comes 39 = .ok (.iconst 2, 1) := by decide +kernel
theorem dX7_comes_40 : decode cX7_comes 40 = .ok (.iload_n 2, 1) := by decide +kernel
theorem dX7_comes_41 : decode cX7_comes 41 = .ok (.invokevirtual 79, 3) := by decide +kernel
theorem dX7_comes_44 : decode cX7_comes 44 = .ok (.aload_n 0, 1) := by decide +kernel
theorem dX7_comes_45 : decode cX7_comes 45 = .ok (.getfield 7, 3) := by decide +kernel
theorem dX7_comes_48 : decode cX7_comes 48 = .ok (.iconst 0, 1) := by decide +kernel
theorem dX7_comes_49 : decode cX7_comes 49 = .ok (.dup2, 1) := by decide +kernel
theorem dX7_comes_50 : decode cX7_comes 50 = .ok (.iaload, 1) := by decide +kernel
theorem dX7_comes_51 : decode cX7_comes 51 = .ok (.iconst 1, 1) := by decide +kernel
theorem dX7_comes_52 : decode cX7_comes 52 = .ok (.iadd, 1) := by decide +kernel
theorem dX7_comes_53 : decode cX7_comes 53 = .ok (.iastore, 1) := by decide +kernel
theorem dX7_comes_54 : decode cX7_comes 54 = .ok (.iload_n 3, 1) := by decide +kernel
theorem dX7_comes_55 : decode cX7_comes 55 = .ok (.ireturn, 1) := by decide +kernel
theorem dX7_priest_0 : decode cX7_priest 0 = .ok (.iload_n 1, 1) := by decide +kernel
theorem dX7_priest_1 : decode cX7_priest 1 = .ok (.i2l, 1) := by decide +kernel
theorem dX7_priest_2 : decode cX7_priest 2 = .ok (.lconst 0, 1) := by decide +kernel
theorem dX7_priest_3 : decode cX7_priest 3 = .ok (.ldc2_w 118, 3) := by decide +kernel
theorem dX7_priest_6 : decode cX7_priest 6 = .ok (.invokestatic 42, 3) := by decide +kernel
theorem dX7_priest_9 : decode cX7_priest 9 = .ok (.ifCond .eq 10, 3) := by decide +kernel
theorem dX7_priest_12 : decode cX7_priest 12 = .ok (.iload_n 2, 1) := by decide +kernel
theorem dX7_priest_13 : decode cX7_priest 13 = .ok (.invokestatic 103, 3) := by decide +kernel
theorem dX7_priest_16 : decode cX7_priest 16 = .ok (.ifCond .ne 9, 3) := by decide +kernel
theorem dX7_priest_19 : decode cX7_priest 19 = .ok (.aload_n 0, 1) := by decide +kernel
theorem dX7_priest_20 : decode cX7_priest 20 = .ok (.iconst 0, 1) := by decide +kernel
theorem dX7_priest_21 : decode cX7_priest 21 = .ok (.invokevirtual 109, 3) := by decide +kernel
theorem dX7_priest_24 : decode cX7_priest 24 = .ok (.ireturn, 1) := by decide +kernel
theorem dX7_priest_25 : decode cX7_priest 25 = .ok (.aload_n 0, 1) := by decide +kernel
theorem dX7_priest_26 : decode cX7_priest 26 = .ok (.getfield 7, 3) := by decide +kernel
theorem dX7_priest_29 : decode cX7_priest 29 = .ok (.iconst 0, 1) := by decide +kernel
theorem dX7_priest_30 : decode cX7_priest 30 = .ok (.iaload, 1) := by decide +kernel
theorem dX7_priest_31 : decode cX7_priest 31 = .ok (.bipush 8, 2) := by decide +kernel
theorem dX7_priest_33 : decode cX7_priest 33 = .ok (.if_icmp .ne 11, 3) := by decide +kernel
theorem dX7_priest_36 : decode cX7_priest 36 = .ok (.aload_n 0, 1) := by decide +kernel
theorem dX7_priest_37 : decode cX7_priest 37 = .ok (.iconst 1, 1) := by decide +kernel
theorem dX7_priest_38 : decode cX7_priest 38 = .ok (.invokevirtual 109, 3) := by decide +kernel
theorem dX7_priest_41 : decode cX7_priest 41 = .ok (.goto 9, 3) := by decide +kernel
theorem dX7_priest_44 : decode cX7_priest 44 = .ok (.aload_n 0, 1) := by decide +kernel
theorem dX7_priest_45 : decode cX7_priest 45 = .ok (.iload_n 1, 1) := by decide +kernel
theorem dX7_priest_46 : decode cX7_priest 46 = .ok (.iload_n 2, 1) := by decide +kernel
theorem dX7_priest_47 : decode cX7_priest 47 = .ok (.invokevirtual 120, 3) := by decide +kernel
theorem dX7_priest_50 : decode cX7_priest 50 = .ok (.ireturn, 1) := by decide +kernel
theorem dX7_of_0 : decode cX7_of 0 = .ok (.aload_n 0, 1) := by decide +kernel
theorem dX7_of_1 : decode cX7_of 1 = .ok (.iload_n 1, 1) := by decide +kernel
theorem dX7_of_2 : decode cX7_of 2 = .ok (.invokevirtual 123, 3) := by decide +kernel
theorem dX7_of_5 : decode cX7_of 5 = .ok (.ifCond .eq 15, 3) := by decide +kernel
theorem dX7_of_8 : decode cX7_of 8 = .ok (.iload_n 2, 1) := by decide +kernel
theorem dX7_of_9 : decode cX7_of 9 = .ok (.i2l, 1) := by decide +kernel
theorem dX7_of_10 : decode cX7_of 10 = .ok (.lconst 0, 1) := by decide +kernel
theorem dX7_of_11 : decode cX7_of 11 = .ok (.ldc2_w 101, 3) := by decide +kernel
theorem dX7_of_14 : decode cX7_of 14 = .ok (.invokestatic 42, 3) := by decide +kernel
theorem dX7_of_17 : decode cX7_of 17 = .ok (.ifCond .ne 9, 3) := by decide +kernel
theorem dX7_of_20 : decode cX7_of 20 = .ok (.aload_n 0, 1) := by decide +kernel
theorem dX7_of_21 : decode cX7_of 21 = .ok (.iconst 0, 1) := by decide +kernel
theorem dX7_of_22 : decode cX7_of 22 = .ok (.invokevirtual 109, 3) := by decide +kernel
theorem dX7_of_25 : decode cX7_of 25 = .ok (.ireturn, 1) := by decide +kernel
theorem dX7_of_26 : decode cX7_of 26 = .ok (.iload_n 2, 1) := by decide +kernel
theorem dX7_of_27 : decode cX7_of 27 = .ok (.tableswitch 61 6 9 #[29, 35, 41, 47], 29) := by decide +kernel
theorem dX7_of_56 : decode cX7_of 56 = .ok (.aload_n 0, 1) := by decide +kernel
theorem dX7_of_57 : decode cX7_of 57 = .ok (.iload_n 1, 1) := by decide +kernel
theorem dX7_of_58 : decode cX7_of 58 = .ok (.invokevirtual 66, 3) := by decide +kernel
theorem dX7_of_61 : decode cX7_of 61 = .ok (.ireturn, 1) := by decide +kernel
theorem dX7_of_62 : decode cX7_of 62 = .ok (.aload_n 0, 1) := by decide +kernel
theorem dX7_of_63 : decode cX7_of 63 = .ok (.iload_n 1, 1) := by decide +kernel
theorem dX7_of_64 : decode cX7_of 64 = .ok (.invokevirtual 69, 3) := by decide +kernel
theorem dX7_of_67 : decode cX7_of 67 = .ok (.ireturn, 1) := by decide +kernel
theorem dX7_of_68 : decode cX7_of 68 = .ok (.aload_n 0, 1) := by decide +kernel
theorem dX7_of_69 : decode cX7_of 69 = .ok (.iload_n 1, 1) := by decide +kernel
theorem dX7_of_70 : decode cX7_of 70 = .ok (.invokevirtual 95, 3) := by decide +kernel
theorem dX7_of_73 : decode cX7_of 73 = .ok (.ireturn, 1) := by decide +kernel
theorem dX7_of_74 : decode cX7_of 74 = .ok (.aload_n 0, 1) := by decide +kernel
theorem dX7_of_75 : decode cX7_of 75 = .ok (.iload_n 1, 1) := by decide +kernel
theorem dX7_of_76 : decode cX7_of 76 = .ok (.invokevirtual 91, 3) := by decide +kernel
theorem dX7_of_79 : decode cX7_of 79 = .ok (.ifCond .eq 7, 3) := by decide +kernel
theorem dX7_of_82 : decode cX7_of 82 = .ok (.iconst 1, 1) := by decide +kernel
theorem dX7_of_83 : decode cX7_of 83 = .ok (.goto 4, 3) := by decide +kernel
theorem dX7_of_86 : decode cX7_of 86 = .ok (.iconst 0, 1) := by decide +kernel
theorem dX7_of_87 : decode cX7_of 87 = .ok (.ireturn, 1) := by decide +kernel
theorem dX7_of_88 : decode cX7_of 88 = .ok (.aload_n 0, 1) := by decide +kernel
theorem dX7_of_89 : decode cX7_of 89 = .ok (.iload_n 1, 1) := by decide +kernel
theorem dX7_of_90 : decode cX7_of 90 = .ok (.iload_n 2, 1) := by decide +kernel
theorem dX7_of_91 : decode cX7_of 91 = .ok (.invokevirtual 54, 3) := by decide +kernel
theorem dX7_of_94 : decode cX7_of 94 = .ok (.ireturn, 1) := by decide +kernel
theorem dX7_mostOf_0 : decode cX7_mostOf 0 = .ok (.iload_n 0, 1) := by decide +kernel
theorem dX7_mostOf_1 : decode cX7_mostOf 1 = .ok (.ifCond .ne 8, 3) := by decide +kernel
theorem dX7_mostOf_4 : decode cX7_mostOf 4 = .ok (.bipush 6, 2) := by decide +kernel
theorem dX7_mostOf_6 : decode cX7_mostOf 6 = .ok (.goto 28, 3) := by decide +kernel
theorem dX7_mostOf_9 : decode cX7_mostOf 9 = .ok (.iload_n 0, 1) := by decide +kernel
theorem dX7_mostOf_10 : decode cX7_mostOf 10 = .ok (.iconst 1, 1) := by decide +kernel
theorem dX7_mostOf_11 : decode cX7_mostOf 11 = .ok (.if_icmp .ne 9, 3) := by decide +kernel
theorem dX7_mostOf_14 : decode cX7_mostOf 14 = .ok (.sipush 999, 3) := by decide +kernel
theorem dX7_mostOf_17 : decode cX7_mostOf 17 = .ok (.goto 17, 3) := by decide +kernel
theorem dX7_mostOf_20 : decode cX7_mostOf 20 = .ok (.iload_n 0, 1) := by decide +kernel
theorem dX7_mostOf_21 : decode cX7_mostOf 21 = .ok (.iconst 4, 1) := by decide +kernel
theorem dX7_mostOf_22 : decode cX7_mostOf 22 = .ok (.if_icmp .ge 9, 3) := by decide +kernel
theorem dX7_mostOf_25 : decode cX7_mostOf 25 = .ok (.sipush 255, 3) := by decide +kernel
theorem dX7_mostOf_28 : decode cX7_mostOf 28 = .ok (.goto 6, 3) := by decide +kernel
theorem dX7_mostOf_31 : decode cX7_mostOf 31 = .ok (.sipush 9999, 3) := by decide +kernel
theorem dX7_mostOf_34 : decode cX7_mostOf 34 = .ok (.ireturn, 1) := by decide +kernel
theorem dX7_change_0 : decode cX7_change 0 = .ok (.aload_n 0, 1) := by decide +kernel
theorem dX7_change_1 : decode cX7_change 1 = .ok (.iload_n 1, 1) := by decide +kernel
theorem dX7_change_2 : decode cX7_change 2 = .ok (.invokevirtual 123, 3) := by decide +kernel
theorem dX7_change_5 : decode cX7_change 5 = .ok (.ifCond .eq 46, 3) := by decide +kernel
theorem dX7_change_8 : decode cX7_change 8 = .ok (.iload_n 2, 1) := by decide +kernel
theorem dX7_change_9 : decode cX7_change 9 = .ok (.i2l, 1) := by decide +kernel
theorem dX7_change_10 : decode cX7_change 10 = .ok (.lconst 0, 1) := by decide +kernel
theorem dX7_change_11 : decode cX7_change 11 = .ok (.ldc2_w 48, 3) := by decide +kernel
theorem dX7_change_14 : decode cX7_change 14 = .ok (.invokestatic 42, 3) := by decide +kernel
theorem dX7_change_17 : decode cX7_change 17 = .ok (.ifCond .eq 34, 3) := by decide +kernel
theorem dX7_change_20 : decode cX7_change 20 = .ok (.iload_n 3, 1) := by decide +kernel
theorem dX7_change_21 : decode cX7_change 21 = .ok (.i2l, 1) := by decide +kernel
theorem dX7_change_22 : decode cX7_change 22 = .ok (.lconst 0, 1) := by decide +kernel
theorem dX7_change_23 : decode cX7_change 23 = .ok (.iload_n 2, 1) := by decide +kernel
theorem dX7_change_24 : decode cX7_change 24 = .ok (.invokestatic 126, 3) := by decide +kernel
theorem dX7_change_27 : decode cX7_change 27 = .ok (.i2l, 1) := by decide +kernel
theorem dX7_change_28 : decode cX7_change 28 = .ok (.invokestatic 42, 3) := by decide +kernel
theorem dX7_change_31 : decode cX7_change 31 = .ok (.ifCond .eq 20, 3) := by decide +kernel
theorem dX7_change_34 : decode cX7_change 34 = .ok (.aload_n 0, 1) := by decide +kernel
theorem dX7_change_35 : decode cX7_change 35 = .ok (.bipush 12, 2) := by decide +kernel
theorem dX7_change_37 : decode cX7_change 37 = .ok (.bipush 8, 2) := by decide +kernel
theorem dX7_change_39 : decode cX7_change 39 = .ok (.iload_n 2, 1) := by decide +kernel
theorem dX7_change_40 : decode cX7_change 40 = .ok (.imul, 1) := by decide +kernel
theorem dX7_change_41 : decode cX7_change 41 = .ok (.iadd, 1) := by decide +kernel
theorem dX7_change_42 : decode cX7_change 42 = .ok (.iload_n 1, 1) := by decide +kernel
theorem dX7_change_43 : decode cX7_change 43 = .ok (.iadd, 1) := by decide +kernel
theorem dX7_change_44 : decode cX7_change 44 = .ok (.iload_n 3, 1) := by decide +kernel
theorem dX7_change_45 : decode cX7_change 45 = .ok (.invokevirtual 106, 3) := by decide +kernel
theorem dX7_change_48 : decode cX7_change 48 = .ok (.goto 8, 3) := by decide +kernel
theorem dX7_change_51 : decode cX7_change 51 = .ok (.aload_n 0, 1) := by decide +kernel
theorem dX7_change_52 : decode cX7_change 52 = .ok (.iconst 0, 1) := by decide +kernel
theorem dX7_change_53 : decode cX7_change 53 = .ok (.invokevirtual 109, 3) := by decide +kernel
theorem dX7_change_56 : decode cX7_change 56 = .ok (.ireturn, 1) := by decide +kernel
theorem dX7_swells_0 : decode cX7_swells 0 = .ok (.aload_n 0, 1) := by decide +kernel
theorem dX7_swells_1 : decode cX7_swells 1 = .ok (.iload_n 1, 1) := by decide +kernel
theorem dX7_swells_2 : decode cX7_swells 2 = .ok (.invokevirtual 123, 3) := by decide +kernel
theorem dX7_swells_5 : decode cX7_swells 5 = .ok (.ifCond .eq 26, 3) := by decide +kernel
theorem dX7_swells_8 : decode cX7_swells 8 = .ok (.iload_n 2, 1) := by decide +kernel
theorem dX7_swells_9 : decode cX7_swells 9 = .ok (.invokestatic 115, 3) := by decide +kernel
theorem dX7_swells_12 : decode cX7_swells 12 = .ok (.ifCond .eq 19, 3) := by decide +kernel
theorem dX7_swells_15 : decode cX7_swells 15 = .ok (.aload_n 0, 1) := by decide +kernel
theorem dX7_swells_16 : decode cX7_swells 16 = .ok (.iload_n 1, 1) := by decide +kernel
theorem dX7_swells_17 : decode cX7_swells 17 = .ok (.iload_n 2, 1) := by decide +kernel
theorem dX7_swells_18 : decode cX7_swells 18 = .ok (.bipush 100, 2) := by decide +kernel
theorem dX7_swells_20 : decode cX7_swells 20 = .ok (.idiv, 1) := by decide +kernel
theorem dX7_swells_21 : decode cX7_swells 21 = .ok (.iload_n 2, 1) := by decide +kernel
theorem dX7_swells_22 : decode cX7_swells 22 = .ok (.bipush 100, 2) := by decide +kernel
theorem dX7_swells_24 : decode cX7_swells 24 = .ok (.irem, 1) := by decide +kernel
theorem dX7_swells_25 : decode cX7_swells 25 = .ok (.invokevirtual 76, 3) := by decide +kernel
theorem dX7_swells_28 : decode cX7_swells 28 = .ok (.goto 8, 3) := by decide +kernel
theorem dX7_swells_31 : decode cX7_swells 31 = .ok (.aload_n 0, 1) := by decide +kernel
theorem dX7_swells_32 : decode cX7_swells 32 = .ok (.iconst 0, 1) := by decide +kernel
theorem dX7_swells_33 : decode cX7_swells 33 = .ok (.invokevirtual 109, 3) := by decide +kernel
theorem dX7_swells_36 : decode cX7_swells 36 = .ok (.ireturn, 1) := by decide +kernel
theorem dX7_goes_0 : decode cX7_goes 0 = .ok (.iload_n 1, 1) := by decide +kernel
theorem dX7_goes_1 : decode cX7_goes 1 = .ok (.invokestatic 129, 3) := by decide +kernel
theorem dX7_goes_4 : decode cX7_goes 4 = .ok (.ifCond .ne 9, 3) := by decide +kernel
theorem dX7_goes_7 : decode cX7_goes 7 = .ok (.aload_n 0, 1) := by decide +kernel
theorem dX7_goes_8 : decode cX7_goes 8 = .ok (.iconst 0, 1) := by decide +kernel
theorem dX7_goes_9 : decode cX7_goes 9 = .ok (.invokevirtual 109, 3) := by decide +kernel
theorem dX7_goes_12 : decode cX7_goes 12 = .ok (.ireturn, 1) := by decide +kernel
theorem dX7_goes_13 : decode cX7_goes 13 = .ok (.aload_n 0, 1) := by decide +kernel
theorem dX7_goes_14 : decode cX7_goes 14 = .ok (.iload_n 1, 1) := by decide +kernel
theorem dX7_goes_15 : decode cX7_goes 15 = .ok (.iconst (-1), 1) := by decide +kernel
theorem dX7_goes_16 : decode cX7_goes 16 = .ok (.invokevirtual 72, 3) := by decide +kernel
theorem dX7_goes_19 : decode cX7_goes 19 = .ok (.istore_n 2, 1) := by decide +kernel
theorem dX7_goes_20 : decode cX7_goes 20 = .ok (.iload_n 2, 1) := by decide +kernel
theorem dX7_goes_21 : decode cX7_goes 21 = .ok (.ifCond .ge 11, 3) := by decide +kernel
theorem dX7_goes_24 : decode cX7_goes 24 = .ok (.aload_n 0, 1) := by decide +kernel
theorem dX7_goes_25 : decode cX7_goes 25 = .ok (.iconst 3, 1) := by decide +kernel
theorem dX7_goes_26 : decode cX7_goes 26 = .ok (.invokevirtual 109, 3) := by decide +kernel
theorem dX7_goes_29 : decode cX7_goes 29 = .ok (.goto 4, 3) := by decide +kernel
theorem dX7_goes_32 : decode cX7_goes 32 = .ok (.iload_n 2, 1) := by decide +kernel
theorem dX7_goes_33 : decode cX7_goes 33 = .ok (.ireturn, 1) := by decide +kernel
theorem dX7_dies_0 : decode cX7_dies 0 = .ok (.aload_n 0, 1) := by decide +kernel
theorem dX7_dies_1 : decode cX7_dies 1 = .ok (.iload_n 1, 1) := by decide +kernel
theorem dX7_dies_2 : decode cX7_dies 2 = .ok (.invokevirtual 123, 3) := by decide +kernel
theorem dX7_dies_5 : decode cX7_dies 5 = .ok (.ifCond .ne 9, 3) := by decide +kernel
theorem dX7_dies_8 : decode cX7_dies 8 = .ok (.aload_n 0, 1) := by decide +kernel
theorem dX7_dies_9 : decode cX7_dies 9 = .ok (.iconst 0, 1) := by decide +kernel
theorem dX7_dies_10 : decode cX7_dies 10 = .ok (.invokevirtual 109, 3) := by decide +kernel
theorem dX7_dies_13 : decode cX7_dies 13 = .ok (.ireturn, 1) := by decide +kernel
theorem dX7_dies_14 : decode cX7_dies 14 = .ok (.aload_n 0, 1) := by decide +kernel
theorem dX7_dies_15 : decode cX7_dies 15 = .ok (.iconst (-1), 1) := by decide +kernel
theorem dX7_dies_16 : decode cX7_dies 16 = .ok (.iload_n 1, 1) := by decide +kernel
theorem dX7_dies_17 : decode cX7_dies 17 = .ok (.invokevirtual 72, 3) := by decide +kernel
theorem dX7_dies_20 : decode cX7_dies 20 = .ok (.istore_n 2, 1) := by decide +kernel
theorem dX7_dies_21 : decode cX7_dies 21 = .ok (.iload_n 2, 1) := by decide +kernel
theorem dX7_dies_22 : decode cX7_dies 22 = .ok (.ifCond .ge 9, 3) := by decide +kernel
theorem dX7_dies_25 : decode cX7_dies 25 = .ok (.aload_n 0, 1) := by decide +kernel
theorem dX7_dies_26 : decode cX7_dies 26 = .ok (.iconst 3, 1) := by decide +kernel
theorem dX7_dies_27 : decode cX7_dies 27 = .ok (.invokevirtual 109, 3) := by decide +kernel
theorem dX7_dies_30 : decode cX7_dies 30 = .ok (.ireturn, 1) := by decide +kernel
theorem dX7_dies_31 : decode cX7_dies 31 = .ok (.aload_n 0, 1) := by decide +kernel
theorem dX7_dies_32 : decode cX7_dies 32 = .ok (.iload_n 2, 1) := by decide +kernel
theorem dX7_dies_33 : decode cX7_dies 33 = .ok (.iconst 3, 1) := by decide +kernel
theorem dX7_dies_34 : decode cX7_dies 34 = .ok (.aload_n 0, 1) := by decide +kernel
theorem dX7_dies_35 : decode cX7_dies 35 = .ok (.iload_n 2, 1) := by decide +kernel
theorem dX7_dies_36 : decode cX7_dies 36 = .ok (.iconst 3, 1) := by decide +kernel
theorem dX7_dies_37 : decode cX7_dies 37 = .ok (.invokevirtual 54, 3) := by decide +kernel
theorem dX7_dies_40 : decode cX7_dies 40 = .ok (.aload_n 0, 1) := by decide +kernel
theorem dX7_dies_41 : decode cX7_dies 41 = .ok (.iload_n 1, 1) := by decide +kernel
theorem dX7_dies_42 : decode cX7_dies 42 = .ok (.iconst 3, 1) := by decide +kernel
theorem dX7_dies_43 : decode cX7_dies 43 = .ok (.invokevirtual 54, 3) := by decide +kernel
theorem dX7_dies_46 : decode cX7_dies 46 = .ok (.ior, 1) := by decide +kernel
theorem dX7_dies_47 : decode cX7_dies 47 = .ok (.invokevirtual 79, 3) := by decide +kernel
theorem dX7_dies_50 : decode cX7_dies 50 = .ok (.aload_n 0, 1) := by decide +kernel
theorem dX7_dies_51 : decode cX7_dies 51 = .ok (.iload_n 1, 1) := by decide +kernel
theorem dX7_dies_52 : decode cX7_dies 52 = .ok (.iconst 3, 1) := by decide +kernel
theorem dX7_dies_53 : decode cX7_dies 53 = .ok (.iconst 0, 1) := by decide +kernel
theorem dX7_dies_54 : decode cX7_dies 54 = .ok (.invokevirtual 79, 3) := by decide +kernel
theorem dX7_dies_57 : decode cX7_dies 57 = .ok (.aload_n 0, 1) := by decide +kernel
theorem dX7_dies_58 : decode cX7_dies 58 = .ok (.iload_n 1, 1) := by decide +kernel
theorem dX7_dies_59 : decode cX7_dies 59 = .ok (.iconst 1, 1) := by decide +kernel
theorem dX7_dies_60 : decode cX7_dies 60 = .ok (.iconst 0, 1) := by decide +kernel
theorem dX7_dies_61 : decode cX7_dies 61 = .ok (.invokevirtual 79, 3) := by decide +kernel
theorem dX7_dies_64 : decode cX7_dies 64 = .ok (.aload_n 0, 1) := by decide +kernel
theorem dX7_dies_65 : decode cX7_dies 65 = .ok (.iload_n 1, 1) := by decide +kernel
theorem dX7_dies_66 : decode cX7_dies 66 = .ok (.iconst 2, 1) := by decide +kernel
theorem dX7_dies_67 : decode cX7_dies 67 = .ok (.iconst 0, 1) := by decide +kernel
theorem dX7_dies_68 : decode cX7_dies 68 = .ok (.invokevirtual 79, 3) := by decide +kernel
theorem dX7_dies_71 : decode cX7_dies 71 = .ok (.iload_n 2, 1) := by decide +kernel
theorem dX7_dies_72 : decode cX7_dies 72 = .ok (.ireturn, 1) := by decide +kernel
theorem dX7_go_0 : decode cX7_go 0 = .ok (.iload_n 1, 1) := by decide +kernel
theorem dX7_go_1 : decode cX7_go 1 = .ok (.i2l, 1) := by decide +kernel
theorem dX7_go_2 : decode cX7_go 2 = .ok (.lconst 1, 1) := by decide +kernel
theorem dX7_go_3 : decode cX7_go 3 = .ok (.ldc2_w 132, 3) := by decide +kernel
theorem dX7_go_6 : decode cX7_go 6 = .ok (.invokestatic 42, 3) := by decide +kernel
theorem dX7_go_9 : decode cX7_go 9 = .ok (.ifCond .ne 9, 3) := by decide +kernel
theorem dX7_go_12 : decode cX7_go 12 = .ok (.aload_n 0, 1) := by decide +kernel
theorem dX7_go_13 : decode cX7_go 13 = .ok (.iconst 0, 1) := by decide +kernel
theorem dX7_go_14 : decode cX7_go 14 = .ok (.invokevirtual 109, 3) := by decide +kernel
theorem dX7_go_17 : decode cX7_go 17 = .ok (.ireturn, 1) := by decide +kernel
theorem dX7_go_18 : decode cX7_go 18 = .ok (.aload_n 0, 1) := by decide +kernel
theorem dX7_go_19 : decode cX7_go 19 = .ok (.getfield 7, 3) := by decide +kernel
theorem dX7_go_22 : decode cX7_go 22 = .ok (.iconst 1, 1) := by decide +kernel
theorem dX7_go_23 : decode cX7_go 23 = .ok (.iaload, 1) := by decide +kernel
theorem dX7_go_24 : decode cX7_go 24 = .ok (.iload_n 1, 1) := by decide +kernel
theorem dX7_go_25 : decode cX7_go 25 = .ok (.iadd, 1) := by decide +kernel
theorem dX7_go_26 : decode cX7_go 26 = .ok (.ldc 75, 2) := by decide +kernel
theorem dX7_go_28 : decode cX7_go 28 = .ok (.if_icmp .le 9, 3) := by decide +kernel
theorem dX7_go_31 : decode cX7_go 31 = .ok (.aload_n 0, 1) := by decide +kernel
theorem dX7_go_32 : decode cX7_go 32 = .ok (.iconst 4, 1) := by decide +kernel
theorem dX7_go_33 : decode cX7_go 33 = .ok (.invokevirtual 109, 3) := by decide +kernel
theorem dX7_go_36 : decode cX7_go 36 = .ok (.ireturn, 1) := by decide +kernel
theorem dX7_go_37 : decode cX7_go 37 = .ok (.aload_n 0, 1) := by decide +kernel
theorem dX7_go_38 : decode cX7_go 38 = .ok (.iload_n 1, 1) := by decide +kernel
theorem dX7_go_39 : decode cX7_go 39 = .ok (.invokevirtual 134, 3) := by decide +kernel
theorem dX7_go_42 : decode cX7_go 42 = .ok (.aload_n 0, 1) := by decide +kernel
theorem dX7_go_43 : decode cX7_go 43 = .ok (.getfield 7, 3) := by decide +kernel
theorem dX7_go_46 : decode cX7_go 46 = .ok (.iconst 4, 1) := by decide +kernel
theorem dX7_go_47 : decode cX7_go 47 = .ok (.iaload, 1) := by decide +kernel
theorem dX7_go_48 : decode cX7_go 48 = .ok (.ireturn, 1) := by decide +kernel
theorem dX7_fullest_0 : decode cX7_fullest 0 = .ok (.iconst (-1), 1) := by decide +kernel
theorem dX7_fullest_1 : decode cX7_fullest 1 = .ok (.istore_n 1, 1) := by decide +kernel
theorem dX7_fullest_2 : decode cX7_fullest 2 = .ok (.iconst 0, 1) := by decide +kernel
theorem dX7_fullest_3 : decode cX7_fullest 3 = .ok (.istore_n 2, 1) := by decide +kernel
theorem dX7_fullest_4 : decode cX7_fullest 4 = .ok (.iload_n 2, 1) := by decide +kernel
theorem dX7_fullest_5 : decode cX7_fullest 5 = .ok (.aload_n 0, 1) := by decide +kernel
theorem dX7_fullest_6 : decode cX7_fullest 6 = .ok (.getfield 7, 3) := by decide +kernel
theorem dX7_fullest_9 : decode cX7_fullest 9 = .ok (.iconst 0, 1) := by decide +kernel
theorem dX7_fullest_10 : decode cX7_fullest 10 = .ok (.iaload, 1) := by decide +kernel
theorem dX7_fullest_11 : decode cX7_fullest 11 = .ok (.if_icmp .ge 34, 3) := by decide +kernel
theorem dX7_fullest_14 : decode cX7_fullest 14 = .ok (.iload_n 1, 1) := by decide +kernel
theorem dX7_fullest_15 : decode cX7_fullest 15 = .ok (.ifCond .lt 18, 3) := by decide +kernel
theorem dX7_fullest_18 : decode cX7_fullest 18 = .ok (.aload_n 0, 1) := by decide +kernel
theorem dX7_fullest_19 : decode cX7_fullest 19 = .ok (.iload_n 2, 1) := by decide +kernel
theorem dX7_fullest_20 : decode cX7_fullest 20 = .ok (.iconst 1, 1) := by decide +kernel
theorem dX7_fullest_21 : decode cX7_fullest 21 = .ok (.invokevirtual 54, 3) := by decide +kernel
theorem dX7_fullest_24 : decode cX7_fullest 24 = .ok (.aload_n 0, 1) := by decide +kernel
theorem dX7_fullest_25 : decode cX7_fullest 25 = .ok (.iload_n 1, 1) := by decide +kernel
theorem dX7_fullest_26 : decode cX7_fullest 26 = .ok (.iconst 1, 1) := by decide +kernel
theorem dX7_fullest_27 : decode cX7_fullest 27 = .ok (.invokevirtual 54, 3) := by decide +kernel
theorem dX7_fullest_30 : decode cX7_fullest 30 = .ok (.if_icmp .le 7, 3) := by decide +kernel
theorem dX7_fullest_33 : decode cX7_fullest 33 = .ok (.iload_n 2, 1) := by decide +kernel
theorem dX7_fullest_34 : decode cX7_fullest 34 = .ok (.goto 4, 3) := by decide +kernel
theorem dX7_fullest_37 : decode cX7_fullest 37 = .ok (.iload_n 1, 1) := by decide +kernel
theorem dX7_fullest_38 : decode cX7_fullest 38 = .ok (.istore_n 1, 1) := by decide +kernel
theorem dX7_fullest_39 : decode cX7_fullest 39 = .ok (.iinc 2 1, 3) := by decide +kernel
theorem dX7_fullest_42 : decode cX7_fullest 42 = .ok (.goto (-38), 3) := by decide +kernel
theorem dX7_fullest_45 : decode cX7_fullest 45 = .ok (.iload_n 1, 1) := by decide +kernel
theorem dX7_fullest_46 : decode cX7_fullest 46 = .ok (.ireturn, 1) := by decide +kernel
theorem dX7_now_0 : decode cX7_now 0 = .ok (.iload_n 1, 1) := by decide +kernel
theorem dX7_now_1 : decode cX7_now 1 = .ok (.tableswitch 103 0 7 #[47, 54, 61, 68, 74, 80, 85, 91], 47) := by decide +kernel
theorem dX7_now_48 : decode cX7_now 48 = .ok (.aload_n 0, 1) := by decide +kernel
theorem dX7_now_49 : decode cX7_now 49 = .ok (.getfield 7, 3) := by decide +kernel
theorem dX7_now_52 : decode cX7_now 52 = .ok (.iconst 1, 1) := by decide +kernel
theorem dX7_now_53 : decode cX7_now 53 = .ok (.iaload, 1) := by decide +kernel
theorem dX7_now_54 : decode cX7_now 54 = .ok (.ireturn, 1) := by decide +kernel
theorem dX7_now_55 : decode cX7_now 55 = .ok (.aload_n 0, 1) := by decide +kernel
theorem dX7_now_56 : decode cX7_now 56 = .ok (.getfield 7, 3) := by decide +kernel
theorem dX7_now_59 : decode cX7_now 59 = .ok (.iconst 4, 1) := by decide +kernel
theorem dX7_now_60 : decode cX7_now 60 = .ok (.iaload, 1) := by decide +kernel
theorem dX7_now_61 : decode cX7_now 61 = .ok (.ireturn, 1) := by decide +kernel
theorem dX7_now_62 : decode cX7_now 62 = .ok (.aload_n 0, 1) := by decide +kernel
theorem dX7_now_63 : decode cX7_now 63 = .ok (.getfield 7, 3) := by decide +kernel
theorem dX7_now_66 : decode cX7_now 66 = .ok (.iconst 5, 1) := by decide +kernel
theorem dX7_now_67 : decode cX7_now 67 = .ok (.iaload, 1) := by decide +kernel
theorem dX7_now_68 : decode cX7_now 68 = .ok (.ireturn, 1) := by decide +kernel
theorem dX7_now_69 : decode cX7_now 69 = .ok (.aload_n 0, 1) := by decide +kernel
theorem dX7_now_70 : decode cX7_now 70 = .ok (.iconst 3, 1) := by decide +kernel
theorem dX7_now_71 : decode cX7_now 71 = .ok (.invokevirtual 137, 3) := by decide +kernel
theorem dX7_now_74 : decode cX7_now 74 = .ok (.ireturn, 1) := by decide +kernel
theorem dX7_now_75 : decode cX7_now 75 = .ok (.aload_n 0, 1) := by decide +kernel
theorem dX7_now_76 : decode cX7_now 76 = .ok (.iconst 1, 1) := by decide +kernel
theorem dX7_now_77 : decode cX7_now 77 = .ok (.invokevirtual 140, 3) := by decide +kernel
theorem dX7_now_80 : decode cX7_now 80 = .ok (.ireturn, 1) := by decide +kernel
theorem dX7_now_81 : decode cX7_now 81 = .ok (.aload_n 0, 1) := by decide +kernel
theorem dX7_now_82 : decode cX7_now 82 = .ok (.invokevirtual 143, 3) := by decide +kernel
theorem dX7_now_85 : decode cX7_now 85 = .ok (.ireturn, 1) := by decide +kernel
theorem dX7_now_86 : decode cX7_now 86 = .ok (.aload_n 0, 1) := by decide +kernel
theorem dX7_now_87 : decode cX7_now 87 = .ok (.iconst 5, 1) := by decide +kernel
theorem dX7_now_88 : decode cX7_now 88 = .ok (.invokevirtual 140, 3) := by decide +kernel
theorem dX7_now_91 : decode cX7_now 91 = .ok (.ireturn, 1) := by decide +kernel
theorem dX7_now_92 : decode cX7_now 92 = .ok (.sipush 255, 3) := by decide +kernel
theorem dX7_now_95 : decode cX7_now 95 = .ok (.aload_n 0, 1) := by decide +kernel
theorem dX7_now_96 : decode cX7_now 96 = .ok (.iconst 2, 1) := by decide +kernel
theorem dX7_now_97 : decode cX7_now 97 = .ok (.invokevirtual 137, 3) := by decide +kernel
theorem dX7_now_100 : decode cX7_now 100 = .ok (.iconst (-1), 1) := by decide +kernel
theorem dX7_now_101 : decode cX7_now 101 = .ok (.ixor, 1) := by decide +kernel
theorem dX7_now_102 : decode cX7_now 102 = .ok (.iand, 1) := by decide +kernel
theorem dX7_now_103 : decode cX7_now 103 = .ok (.ireturn, 1) := by decide +kernel
theorem dX7_now_104 : decode cX7_now 104 = .ok (.aload_n 0, 1) := by decide +kernel
theorem dX7_now_105 : decode cX7_now 105 = .ok (.iconst 0, 1) := by decide +kernel
theorem dX7_now_106 : decode cX7_now 106 = .ok (.invokevirtual 109, 3) := by decide +kernel
theorem dX7_now_109 : decode cX7_now 109 = .ok (.ireturn, 1) := by decide +kernel
theorem dX7_behind_0 : decode cX7_behind 0 = .ok (.aload_n 0, 1) := by decide +kernel
theorem dX7_behind_1 : decode cX7_behind 1 = .ok (.iload_n 1, 1) := by decide +kernel
theorem dX7_behind_2 : decode cX7_behind 2 = .ok (.invokevirtual 134, 3) := by decide +kernel
theorem dX7_behind_5 : decode cX7_behind 5 = .ok (.aload_n 0, 1) := by decide +kernel
theorem dX7_behind_6 : decode cX7_behind 6 = .ok (.getfield 7, 3) := by decide +kernel
theorem dX7_behind_9 : decode cX7_behind 9 = .ok (.iload_n 2, 1) := by decide +kernel
theorem dX7_behind_10 : decode cX7_behind 10 = .ok (.iaload, 1) := by decide +kernel
theorem dX7_behind_11 : decode cX7_behind 11 = .ok (.istore_n 3, 1) := by decide +kernel
theorem dX7_behind_12 : decode cX7_behind 12 = .ok (.aload_n 0, 1) := by decide +kernel
theorem dX7_behind_13 : decode cX7_behind 13 = .ok (.getfield 16, 3) := by decide +kernel
theorem dX7_behind_16 : decode cX7_behind 16 = .ok (.aload_n 0, 1) := by decide +kernel
theorem dX7_behind_17 : decode cX7_behind 17 = .ok (.getfield 7, 3) := by decide +kernel
theorem dX7_behind_20 : decode cX7_behind 20 = .ok (.invokestatic 146, 3) := by decide +kernel
theorem dX7_behind_23 : decode cX7_behind 23 = .ok (.iload_n 3, 1) := by decide +kernel
theorem dX7_behind_24 : decode cX7_behind 24 = .ok (.ireturn, 1) := by decide +kernel
theorem dX7_ahead_0 : decode cX7_ahead 0 = .ok (.aload_n 0, 1) := by decide +kernel
theorem dX7_ahead_1 : decode cX7_ahead 1 = .ok (.iload_n 1, 1) := by decide +kernel
theorem dX7_ahead_2 : decode cX7_ahead 2 = .ok (.invokevirtual 123, 3) := by decide +kernel
theorem dX7_ahead_5 : decode cX7_ahead 5 = .ok (.ifCond .eq 32, 3) := by decide +kernel
theorem dX7_ahead_8 : decode cX7_ahead 8 = .ok (.iload_n 2, 1) := by decide +kernel
theorem dX7_ahead_9 : decode cX7_ahead 9 = .ok (.i2l, 1) := by decide +kernel
theorem dX7_ahead_10 : decode cX7_ahead 10 = .ok (.lconst 1, 1) := by decide +kernel
theorem dX7_ahead_11 : decode cX7_ahead 11 = .ok (.ldc2_w 118, 3) := by decide +kernel
theorem dX7_ahead_14 : decode cX7_ahead 14 = .ok (.invokestatic 42, 3) := by decide +kernel
theorem dX7_ahead_17 : decode cX7_ahead 17 = .ok (.ifCond .eq 20, 3) := by decide +kernel
theorem dX7_ahead_20 : decode cX7_ahead 20 = .ok (.iload_n 2, 1) := by decide +kernel
theorem dX7_ahead_21 : decode cX7_ahead 21 = .ok (.iconst 2, 1) := by decide +kernel
theorem dX7_ahead_22 : decode cX7_ahead 22 = .ok (.if_icmp .eq 15, 3) := by decide +kernel
theorem dX7_ahead_25 : decode cX7_ahead 25 = .ok (.iload_n 3, 1) := by decide +kernel
theorem dX7_ahead_26 : decode cX7_ahead 26 = .ok (.i2l, 1) := by decide +kernel
theorem dX7_ahead_27 : decode cX7_ahead 27 = .ok (.lconst 0, 1) := by decide +kernel
theorem dX7_ahead_28 : decode cX7_ahead 28 = .ok (.ldc2_w 150, 3) := by decide +kernel
theorem dX7_ahead_31 : decode cX7_ahead 31 = .ok (.invokestatic 42, 3) := by decide +kernel
theorem dX7_ahead_34 : decode cX7_ahead 34 = .ok (.ifCond .ne 9, 3) := by decide +kernel
theorem dX7_ahead_37 : decode cX7_ahead 37 = .ok (.aload_n 0, 1) := by decide +kernel
theorem dX7_ahead_38 : decode cX7_ahead 38 = .ok (.iconst 0, 1) := by decide +kernel
theorem dX7_ahead_39 : decode cX7_ahead 39 = .ok (.invokevirtual 109, 3) := by decide +kernel
theorem dX7_ahead_42 : decode cX7_ahead 42 = .ok (.ireturn, 1) := by decide +kernel
theorem dX7_ahead_43 : decode cX7_ahead 43 = .ok (.aload_n 0, 1) := by decide +kernel
theorem dX7_ahead_44 : decode cX7_ahead 44 = .ok (.getfield 7, 3) := by decide +kernel
theorem dX7_ahead_47 : decode cX7_ahead 47 = .ok (.aload_n 0, 1) := by decide +kernel
theorem dX7_ahead_48 : decode cX7_ahead 48 = .ok (.getfield 16, 3) := by decide +kernel
theorem dX7_ahead_51 : decode cX7_ahead 51 = .ok (.invokestatic 146, 3) := by decide +kernel
theorem dX7_ahead_54 : decode cX7_ahead 54 = .ok (.aload_n 0, 1) := by decide +kernel
theorem dX7_ahead_55 : decode cX7_ahead 55 = .ok (.iload_n 3, 1) := by decide +kernel
theorem dX7_ahead_56 : decode cX7_ahead 56 = .ok (.invokevirtual 134, 3) := by decide +kernel
theorem dX7_ahead_59 : decode cX7_ahead 59 = .ok (.iload_n 2, 1) := by decide +kernel
theorem dX7_ahead_60 : decode cX7_ahead 60 = .ok (.bipush 6, 2) := by decide +kernel
theorem dX7_ahead_62 : decode cX7_ahead 62 = .ok (.if_icmp .ne 11, 3) := by decide +kernel
theorem dX7_ahead_65 : decode cX7_ahead 65 = .ok (.aload_n 0, 1) := by decide +kernel
theorem dX7_ahead_66 : decode cX7_ahead 66 = .ok (.iload_n 1, 1) := by decide +kernel
theorem dX7_ahead_67 : decode cX7_ahead 67 = .ok (.invokevirtual 66, 3) := by decide +kernel
theorem dX7_ahead_70 : decode cX7_ahead 70 = .ok (.goto 9, 3) := by decide +kernel
theorem dX7_ahead_73 : decode cX7_ahead 73 = .ok (.aload_n 0, 1) := by decide +kernel
theorem dX7_ahead_74 : decode cX7_ahead 74 = .ok (.iload_n 1, 1) := by decide +kernel
theorem dX7_ahead_75 : decode cX7_ahead 75 = .ok (.iload_n 2, 1) := by decide +kernel
theorem dX7_ahead_76 : decode cX7_ahead 76 = .ok (.invokevirtual 54, 3) := by decide +kernel
theorem dX7_ahead_79 : decode cX7_ahead 79 = .ok (.istore 4, 2) := by decide +kernel
theorem dX7_ahead_81 : decode cX7_ahead 81 = .ok (.aload_n 0, 1) := by decide +kernel
theorem dX7_ahead_82 : decode cX7_ahead 82 = .ok (.getfield 16, 3) := by decide +kernel
theorem dX7_ahead_85 : decode cX7_ahead 85 = .ok (.aload_n 0, 1) := by decide +kernel
theorem dX7_ahead_86 : decode cX7_ahead 86 = .ok (.getfield 7, 3) := by decide +kernel
theorem dX7_ahead_89 : decode cX7_ahead 89 = .ok (.invokestatic 146, 3) := by decide +kernel
theorem dX7_ahead_92 : decode cX7_ahead 92 = .ok (.iload 4, 2) := by decide +kernel
theorem dX7_ahead_94 : decode cX7_ahead 94 = .ok (.ireturn, 1) := by decide +kernel
theorem dX7_firstOf_0 : decode cX7_firstOf 0 = .ok (.aload_n 0, 1) := by decide +kernel
theorem dX7_firstOf_1 : decode cX7_firstOf 1 = .ok (.getfield 7, 3) := by decide +kernel
theorem dX7_firstOf_4 : decode cX7_firstOf 4 = .ok (.aload_n 0, 1) := by decide +kernel
theorem dX7_firstOf_5 : decode cX7_firstOf 5 = .ok (.getfield 16, 3) := by decide +kernel
theorem dX7_firstOf_8 : decode cX7_firstOf 8 = .ok (.invokestatic 146, 3) := by decide +kernel
theorem dX7_firstOf_11 : decode cX7_firstOf 11 = .ok (.iconst 0, 1) := by decide +kernel
theorem dX7_firstOf_12 : decode cX7_firstOf 12 = .ok (.istore 4, 2) := by decide +kernel
theorem dX7_firstOf_14 : decode cX7_firstOf 14 = .ok (.iload 4, 2) := by decide +kernel
theorem dX7_firstOf_16 : decode cX7_firstOf 16 = .ok (.sipush 200, 3) := by decide +kernel
theorem dX7_firstOf_19 : decode cX7_firstOf 19 = .ok (.if_icmp .ge 30, 3) := by decide +kernel
theorem dX7_firstOf_22 : decode cX7_firstOf 22 = .ok (.aload_n 0, 1) := by decide +kernel
theorem dX7_firstOf_23 : decode cX7_firstOf 23 = .ok (.getfield 7, 3) := by decide +kernel
theorem dX7_firstOf_26 : decode cX7_firstOf 26 = .ok (.iload_n 1, 1) := by decide +kernel
theorem dX7_firstOf_27 : decode cX7_firstOf 27 = .ok (.iaload, 1) := by decide +kernel
theorem dX7_firstOf_28 : decode cX7_firstOf 28 = .ok (.i2l, 1) := by decide +kernel
theorem dX7_firstOf_29 : decode cX7_firstOf 29 = .ok (.iload_n 2, 1) := by decide +kernel
theorem dX7_firstOf_30 : decode cX7_firstOf 30 = .ok (.i2l, 1) := by decide +kernel
theorem dX7_firstOf_31 : decode cX7_firstOf 31 = .ok (.iload_n 3, 1) := by decide +kernel
theorem dX7_firstOf_32 : decode cX7_firstOf 32 = .ok (.i2l, 1) := by decide +kernel
theorem dX7_firstOf_33 : decode cX7_firstOf 33 = .ok (.invokestatic 42, 3) := by decide +kernel
theorem dX7_firstOf_36 : decode cX7_firstOf 36 = .ok (.ifCond .ne 13, 3) := by decide +kernel
theorem dX7_firstOf_39 : decode cX7_firstOf 39 = .ok (.aload_n 0, 1) := by decide +kernel
theorem dX7_firstOf_40 : decode cX7_firstOf 40 = .ok (.invokevirtual 98, 3) := by decide +kernel
theorem dX7_firstOf_43 : decode cX7_firstOf 43 = .ok (.iinc 4 1, 3) := by decide +kernel
theorem dX7_firstOf_46 : decode cX7_firstOf 46 = .ok (.goto (-32), 3) := by decide +kernel
theorem dX7_firstOf_49 : decode cX7_firstOf 49 = .ok (.aload_n 0, 1) := by decide +kernel
theorem dX7_firstOf_50 : decode cX7_firstOf 50 = .ok (.getfield 7, 3) := by decide +kernel
theorem dX7_firstOf_53 : decode cX7_firstOf 53 = .ok (.iload_n 1, 1) := by decide +kernel
theorem dX7_firstOf_54 : decode cX7_firstOf 54 = .ok (.iaload, 1) := by decide +kernel
theorem dX7_firstOf_55 : decode cX7_firstOf 55 = .ok (.i2l, 1) := by decide +kernel
theorem dX7_firstOf_56 : decode cX7_firstOf 56 = .ok (.iload_n 2, 1) := by decide +kernel
theorem dX7_firstOf_57 : decode cX7_firstOf 57 = .ok (.i2l, 1) := by decide +kernel
theorem dX7_firstOf_58 : decode cX7_firstOf 58 = .ok (.iload_n 3, 1) := by decide +kernel
theorem dX7_firstOf_59 : decode cX7_firstOf 59 = .ok (.i2l, 1) := by decide +kernel
theorem dX7_firstOf_60 : decode cX7_firstOf 60 = .ok (.invokestatic 42, 3) := by decide +kernel
theorem dX7_firstOf_63 : decode cX7_firstOf 63 = .ok (.istore 5, 2) := by decide +kernel
theorem dX7_firstOf_65 : decode cX7_firstOf 65 = .ok (.aload_n 0, 1) := by decide +kernel
theorem dX7_firstOf_66 : decode cX7_firstOf 66 = .ok (.getfield 16, 3) := by decide +kernel
theorem dX7_firstOf_69 : decode cX7_firstOf 69 = .ok (.aload_n 0, 1) := by decide +kernel
theorem dX7_firstOf_70 : decode cX7_firstOf 70 = .ok (.getfield 7, 3) := by decide +kernel
theorem dX7_firstOf_73 : decode cX7_firstOf 73 = .ok (.invokestatic 146, 3) := by decide +kernel
theorem dX7_firstOf_76 : decode cX7_firstOf 76 = .ok (.iload 5, 2) := by decide +kernel
theorem dX7_firstOf_78 : decode cX7_firstOf 78 = .ok (.ifCond .eq 8, 3) := by decide +kernel
theorem dX7_firstOf_81 : decode cX7_firstOf 81 = .ok (.iload 4, 2) := by decide +kernel
theorem dX7_firstOf_83 : decode cX7_firstOf 83 = .ok (.goto 8, 3) := by decide +kernel
theorem dX7_firstOf_86 : decode cX7_firstOf 86 = .ok (.aload_n 0, 1) := by decide +kernel
theorem dX7_firstOf_87 : decode cX7_firstOf 87 = .ok (.iconst 3, 1) := by decide +kernel
theorem dX7_firstOf_88 : decode cX7_firstOf 88 = .ok (.invokevirtual 109, 3) := by decide +kernel
theorem dX7_firstOf_91 : decode cX7_firstOf 91 = .ok (.ireturn, 1) := by decide +kernel
theorem dX7_ill_0 : decode cX7_ill 0 = .ok (.aload_n 0, 1) := by decide +kernel
theorem dX7_ill_1 : decode cX7_ill 1 = .ok (.iload_n 1, 1) := by decide +kernel
theorem dX7_ill_2 : decode cX7_ill 2 = .ok (.invokevirtual 123, 3) := by decide +kernel
theorem dX7_ill_5 : decode cX7_ill 5 = .ok (.ifCond .eq 25, 3) := by decide +kernel
theorem dX7_ill_8 : decode cX7_ill 8 = .ok (.aload_n 0, 1) := by decide +kernel
theorem dX7_ill_9 : decode cX7_ill 9 = .ok (.bipush 52, 2) := by decide +kernel
theorem dX7_ill_11 : decode cX7_ill 11 = .ok (.iload_n 1, 1) := by decide +kernel
theorem dX7_ill_12 : decode cX7_ill 12 = .ok (.iadd, 1) := by decide +kernel
theorem dX7_ill_13 : decode cX7_ill 13 = .ok (.aload_n 0, 1) := by decide +kernel
theorem dX7_ill_14 : decode cX7_ill 14 = .ok (.iload_n 1, 1) := by decide +kernel
theorem dX7_ill_15 : decode cX7_ill 15 = .ok (.iconst 5, 1) := by decide +kernel
theorem dX7_ill_16 : decode cX7_ill 16 = .ok (.invokevirtual 54, 3) := by decide +kernel
theorem dX7_ill_19 : decode cX7_ill 19 = .ok (.iconst 1, 1) := by decide +kernel
theorem dX7_ill_20 : decode cX7_ill 20 = .ok (.iadd, 1) := by decide +kernel
theorem dX7_ill_21 : decode cX7_ill 21 = .ok (.sipush 9999, 3) := by decide +kernel
theorem dX7_ill_24 : decode cX7_ill 24 = .ok (.invokevirtual 152, 3) := by decide +kernel
theorem dX7_ill_27 : decode cX7_ill 27 = .ok (.goto 8, 3) := by decide +kernel
theorem dX7_ill_30 : decode cX7_ill 30 = .ok (.aload_n 0, 1) := by decide +kernel
theorem dX7_ill_31 : decode cX7_ill 31 = .ok (.iconst 0, 1) := by decide +kernel
theorem dX7_ill_32 : decode cX7_ill 32 = .ok (.invokevirtual 109, 3) := by decide +kernel
theorem dX7_ill_35 : decode cX7_ill 35 = .ok (.ireturn, 1) := by decide +kernel
theorem dX7_out_0 : decode cX7_out 0 = .ok (.iload_n 1, 1) := by decide +kernel
theorem dX7_out_1 : decode cX7_out 1 = .ok (.invokestatic 129, 3) := by decide +kernel
theorem dX7_out_4 : decode cX7_out 4 = .ok (.ifCond .ne 9, 3) := by decide +kernel
theorem dX7_out_7 : decode cX7_out 7 = .ok (.aload_n 0, 1) := by decide +kernel
theorem dX7_out_8 : decode cX7_out 8 = .ok (.iconst 0, 1) := by decide +kernel
theorem dX7_out_9 : decode cX7_out 9 = .ok (.invokevirtual 109, 3) := by decide +kernel
theorem dX7_out_12 : decode cX7_out 12 = .ok (.ireturn, 1) := by decide +kernel
theorem dX7_out_13 : decode cX7_out 13 = .ok (.aload_n 0, 1) := by decide +kernel
theorem dX7_out_14 : decode cX7_out 14 = .ok (.getfield 7, 3) := by decide +kernel
theorem dX7_out_17 : decode cX7_out 17 = .ok (.aload_n 0, 1) := by decide +kernel
theorem dX7_out_18 : decode cX7_out 18 = .ok (.getfield 16, 3) := by decide +kernel
theorem dX7_out_21 : decode cX7_out 21 = .ok (.invokestatic 146, 3) := by decide +kernel
theorem dX7_out_24 : decode cX7_out 24 = .ok (.iconst 0, 1) := by decide +kernel
theorem dX7_out_25 : decode cX7_out 25 = .ok (.istore_n 2, 1) := by decide +kernel
theorem dX7_out_26 : decode cX7_out 26 = .ok (.iload_n 2, 1) := by decide +kernel
theorem dX7_out_27 : decode cX7_out 27 = .ok (.sipush 200, 3) := by decide +kernel
theorem dX7_out_30 : decode cX7_out 30 = .ok (.if_icmp .ge 26, 3) := by decide +kernel
theorem dX7_out_33 : decode cX7_out 33 = .ok (.aload_n 0, 1) := by decide +kernel
theorem dX7_out_34 : decode cX7_out 34 = .ok (.getfield 7, 3) := by decide +kernel
theorem dX7_out_37 : decode cX7_out 37 = .ok (.iconst 4, 1) := by decide +kernel
theorem dX7_out_38 : decode cX7_out 38 = .ok (.iaload, 1) := by decide +kernel
theorem dX7_out_39 : decode cX7_out 39 = .ok (.iload_n 1, 1) := by decide +kernel
theorem dX7_out_40 : decode cX7_out 40 = .ok (.ishr, 1) := by decide +kernel
theorem dX7_out_41 : decode cX7_out 41 = .ok (.iconst 1, 1) := by decide +kernel
theorem dX7_out_42 : decode cX7_out 42 = .ok (.iand, 1) := by decide +kernel
theorem dX7_out_43 : decode cX7_out 43 = .ok (.ifCond .ne 13, 3) := by decide +kernel
theorem dX7_out_46 : decode cX7_out 46 = .ok (.aload_n 0, 1) := by decide +kernel
theorem dX7_out_47 : decode cX7_out 47 = .ok (.invokevirtual 98, 3) := by decide +kernel
theorem dX7_out_50 : decode cX7_out 50 = .ok (.iinc 2 1, 3) := by decide +kernel
theorem dX7_out_53 : decode cX7_out 53 = .ok (.goto (-27), 3) := by decide +kernel
theorem dX7_out_56 : decode cX7_out 56 = .ok (.aload_n 0, 1) := by decide +kernel
theorem dX7_out_57 : decode cX7_out 57 = .ok (.getfield 7, 3) := by decide +kernel
theorem dX7_out_60 : decode cX7_out 60 = .ok (.iconst 4, 1) := by decide +kernel
theorem dX7_out_61 : decode cX7_out 61 = .ok (.iaload, 1) := by decide +kernel
theorem dX7_out_62 : decode cX7_out 62 = .ok (.iload_n 1, 1) := by decide +kernel
theorem dX7_out_63 : decode cX7_out 63 = .ok (.ishr, 1) := by decide +kernel
theorem dX7_out_64 : decode cX7_out 64 = .ok (.iconst 1, 1) := by decide +kernel
theorem dX7_out_65 : decode cX7_out 65 = .ok (.iand, 1) := by decide +kernel
theorem dX7_out_66 : decode cX7_out 66 = .ok (.iconst 1, 1) := by decide +kernel
theorem dX7_out_67 : decode cX7_out 67 = .ok (.if_icmp .ne 7, 3) := by decide +kernel
theorem dX7_out_70 : decode cX7_out 70 = .ok (.iconst 1, 1) := by decide +kernel
theorem dX7_out_71 : decode cX7_out 71 = .ok (.goto 4, 3) := by decide +kernel
theorem dX7_out_74 : decode cX7_out 74 = .ok (.iconst 0, 1) := by decide +kernel
theorem dX7_out_75 : decode cX7_out 75 = .ok (.istore_n 3, 1) := by decide +kernel
theorem dX7_out_76 : decode cX7_out 76 = .ok (.aload_n 0, 1) := by decide +kernel
theorem dX7_out_77 : decode cX7_out 77 = .ok (.getfield 16, 3) := by decide +kernel
theorem dX7_out_80 : decode cX7_out 80 = .ok (.aload_n 0, 1) := by decide +kernel
theorem dX7_out_81 : decode cX7_out 81 = .ok (.getfield 7, 3) := by decide +kernel
theorem dX7_out_84 : decode cX7_out 84 = .ok (.invokestatic 146, 3) := by decide +kernel
theorem dX7_out_87 : decode cX7_out 87 = .ok (.iload_n 3, 1) := by decide +kernel
theorem dX7_out_88 : decode cX7_out 88 = .ok (.ifCond .eq 7, 3) := by decide +kernel
theorem dX7_out_91 : decode cX7_out 91 = .ok (.iload_n 2, 1) := by decide +kernel
theorem dX7_out_92 : decode cX7_out 92 = .ok (.goto 8, 3) := by decide +kernel
theorem dX7_out_95 : decode cX7_out 95 = .ok (.aload_n 0, 1) := by decide +kernel
theorem dX7_out_96 : decode cX7_out 96 = .ok (.iconst 3, 1) := by decide +kernel
theorem dX7_out_97 : decode cX7_out 97 = .ok (.invokevirtual 109, 3) := by decide +kernel
theorem dX7_out_100 : decode cX7_out 100 = .ok (.ireturn, 1) := by decide +kernel
theorem dX7_wise_0 : decode cX7_wise 0 = .ok (.aload_n 0, 1) := by decide +kernel
theorem dX7_wise_1 : decode cX7_wise 1 = .ok (.iload_n 1, 1) := by decide +kernel
theorem dX7_wise_2 : decode cX7_wise 2 = .ok (.invokevirtual 123, 3) := by decide +kernel
theorem dX7_wise_5 : decode cX7_wise 5 = .ok (.ifCond .eq 15, 3) := by decide +kernel
theorem dX7_wise_8 : decode cX7_wise 8 = .ok (.iload_n 2, 1) := by decide +kernel
theorem dX7_wise_9 : decode cX7_wise 9 = .ok (.i2l, 1) := by decide +kernel
theorem dX7_wise_10 : decode cX7_wise 10 = .ok (.lconst 0, 1) := by decide +kernel
theorem dX7_wise_11 : decode cX7_wise 11 = .ok (.ldc2_w 155, 3) := by decide +kernel
theorem dX7_wise_14 : decode cX7_wise 14 = .ok (.invokestatic 42, 3) := by decide +kernel
theorem dX7_wise_17 : decode cX7_wise 17 = .ok (.ifCond .ne 9, 3) := by decide +kernel
theorem dX7_wise_20 : decode cX7_wise 20 = .ok (.aload_n 0, 1) := by decide +kernel
theorem dX7_wise_21 : decode cX7_wise 21 = .ok (.iconst 0, 1) := by decide +kernel
theorem dX7_wise_22 : decode cX7_wise 22 = .ok (.invokevirtual 109, 3) := by decide +kernel
theorem dX7_wise_25 : decode cX7_wise 25 = .ok (.ireturn, 1) := by decide +kernel
theorem dX7_wise_26 : decode cX7_wise 26 = .ok (.aload_n 0, 1) := by decide +kernel
theorem dX7_wise_27 : decode cX7_wise 27 = .ok (.getfield 7, 3) := by decide +kernel
theorem dX7_wise_30 : decode cX7_wise 30 = .ok (.aload_n 0, 1) := by decide +kernel
theorem dX7_wise_31 : decode cX7_wise 31 = .ok (.getfield 16, 3) := by decide +kernel
theorem dX7_wise_34 : decode cX7_wise 34 = .ok (.invokestatic 146, 3) := by decide +kernel
theorem dX7_wise_37 : decode cX7_wise 37 = .ok (.iconst 0, 1) := by decide +kernel
theorem dX7_wise_38 : decode cX7_wise 38 = .ok (.istore_n 3, 1) := by decide +kernel
theorem dX7_wise_39 : decode cX7_wise 39 = .ok (.iload_n 3, 1) := by decide +kernel
theorem dX7_wise_40 : decode cX7_wise 40 = .ok (.sipush 200, 3) := by decide +kernel
theorem dX7_wise_43 : decode cX7_wise 43 = .ok (.if_icmp .ge 26, 3) := by decide +kernel
theorem dX7_wise_46 : decode cX7_wise 46 = .ok (.aload_n 0, 1) := by decide +kernel
theorem dX7_wise_47 : decode cX7_wise 47 = .ok (.iload_n 1, 1) := by decide +kernel
theorem dX7_wise_48 : decode cX7_wise 48 = .ok (.iconst 3, 1) := by decide +kernel
theorem dX7_wise_49 : decode cX7_wise 49 = .ok (.invokevirtual 54, 3) := by decide +kernel
theorem dX7_wise_52 : decode cX7_wise 52 = .ok (.invokestatic 58, 3) := by decide +kernel
theorem dX7_wise_55 : decode cX7_wise 55 = .ok (.iload_n 2, 1) := by decide +kernel
theorem dX7_wise_56 : decode cX7_wise 56 = .ok (.if_icmp .ge 13, 3) := by decide +kernel
theorem dX7_wise_59 : decode cX7_wise 59 = .ok (.aload_n 0, 1) := by decide +kernel
theorem dX7_wise_60 : decode cX7_wise 60 = .ok (.invokevirtual 98, 3) := by decide +kernel
theorem dX7_wise_63 : decode cX7_wise 63 = .ok (.iinc 3 1, 3) := by decide +kernel
theorem dX7_wise_66 : decode cX7_wise 66 = .ok (.goto (-27), 3) := by decide +kernel
theorem dX7_wise_69 : decode cX7_wise 69 = .ok (.aload_n 0, 1) := by decide +kernel
theorem dX7_wise_70 : decode cX7_wise 70 = .ok (.iload_n 1, 1) := by decide +kernel
theorem dX7_wise_71 : decode cX7_wise 71 = .ok (.iconst 3, 1) := by decide +kernel
theorem dX7_wise_72 : decode cX7_wise 72 = .ok (.invokevirtual 54, 3) := by decide +kernel
theorem dX7_wise_75 : decode cX7_wise 75 = .ok (.invokestatic 58, 3) := by decide +kernel
theorem dX7_wise_78 : decode cX7_wise 78 = .ok (.iload_n 2, 1) := by decide +kernel
theorem dX7_wise_79 : decode cX7_wise 79 = .ok (.if_icmp .lt 7, 3) := by decide +kernel
theorem dX7_wise_82 : decode cX7_wise 82 = .ok (.iconst 1, 1) := by decide +kernel
theorem dX7_wise_83 : decode cX7_wise 83 = .ok (.goto 4, 3) := by decide +kernel
theorem dX7_wise_86 : decode cX7_wise 86 = .ok (.iconst 0, 1) := by decide +kernel
theorem dX7_wise_87 : decode cX7_wise 87 = .ok (.istore 4, 2) := by decide +kernel
theorem dX7_wise_89 : decode cX7_wise 89 = .ok (.aload_n 0, 1) := by decide +kernel
theorem dX7_wise_90 : decode cX7_wise 90 = .ok (.getfield 16, 3) := by decide +kernel
theorem dX7_wise_93 : decode cX7_wise 93 = .ok (.aload_n 0, 1) := by decide +kernel
theorem dX7_wise_94 : decode cX7_wise 94 = .ok (.getfield 7, 3) := by decide +kernel
theorem dX7_wise_97 : decode cX7_wise 97 = .ok (.invokestatic 146, 3) := by decide +kernel
theorem dX7_wise_100 : decode cX7_wise 100 = .ok (.iload 4, 2) := by decide +kernel
theorem dX7_wise_102 : decode cX7_wise 102 = .ok (.ifCond .eq 7, 3) := by decide +kernel
theorem dX7_wise_105 : decode cX7_wise 105 = .ok (.iload_n 3, 1) := by decide +kernel
theorem dX7_wise_106 : decode cX7_wise 106 = .ok (.goto 8, 3) := by decide +kernel
theorem dX7_wise_109 : decode cX7_wise 109 = .ok (.aload_n 0, 1) := by decide +kernel
theorem dX7_wise_110 : decode cX7_wise 110 = .ok (.iconst 3, 1) := by decide +kernel
theorem dX7_wise_111 : decode cX7_wise 111 = .ok (.invokevirtual 109, 3) := by decide +kernel
theorem dX7_wise_114 : decode cX7_wise 114 = .ok (.ireturn, 1) := by decide +kernel
theorem dX7_when_0 : decode cX7_when 0 = .ok (.aload_n 0, 1) := by decide +kernel
theorem dX7_when_1 : decode cX7_when 1 = .ok (.iload_n 1, 1) := by decide +kernel
theorem dX7_when_2 : decode cX7_when 2 = .ok (.invokevirtual 123, 3) := by decide +kernel
theorem dX7_when_5 : decode cX7_when 5 = .ok (.ifCond .eq 30, 3) := by decide +kernel
theorem dX7_when_8 : decode cX7_when 8 = .ok (.iload_n 2, 1) := by decide +kernel
theorem dX7_when_9 : decode cX7_when 9 = .ok (.i2l, 1) := by decide +kernel
theorem dX7_when_10 : decode cX7_when 10 = .ok (.lconst 0, 1) := by decide +kernel
theorem dX7_when_11 : decode cX7_when 11 = .ok (.ldc2_w 157, 3) := by decide +kernel
theorem dX7_when_14 : decode cX7_when 14 = .ok (.invokestatic 42, 3) := by decide +kernel
theorem dX7_when_17 : decode cX7_when 17 = .ok (.ifCond .eq 18, 3) := by decide +kernel
theorem dX7_when_20 : decode cX7_when 20 = .ok (.aload_n 0, 1) := by decide +kernel
theorem dX7_when_21 : decode cX7_when 21 = .ok (.bipush 20, 2) := by decide +kernel
theorem dX7_when_23 : decode cX7_when 23 = .ok (.iload_n 1, 1) := by decide +kernel
theorem dX7_when_24 : decode cX7_when 24 = .ok (.iadd, 1) := by decide +kernel
theorem dX7_when_25 : decode cX7_when 25 = .ok (.iload_n 2, 1) := by decide +kernel
theorem dX7_when_26 : decode cX7_when 26 = .ok (.sipush 999, 3) := by decide +kernel
theorem dX7_when_29 : decode cX7_when 29 = .ok (.invokevirtual 152, 3) := by decide +kernel
theorem dX7_when_32 : decode cX7_when 32 = .ok (.goto 8, 3) := by decide +kernel
theorem dX7_when_35 : decode cX7_when 35 = .ok (.aload_n 0, 1) := by decide +kernel
theorem dX7_when_36 : decode cX7_when 36 = .ok (.iconst 0, 1) := by decide +kernel
theorem dX7_when_37 : decode cX7_when 37 = .ok (.invokevirtual 109, 3) := by decide +kernel
theorem dX7_when_40 : decode cX7_when 40 = .ok (.ireturn, 1) := by decide +kernel
theorem dX7_isShort_0 : decode cX7_isShort 0 = .ok (.iload_n 0, 1) := by decide +kernel
theorem dX7_isShort_1 : decode cX7_isShort 1 = .ok (.i2l, 1) := by decide +kernel
theorem dX7_isShort_2 : decode cX7_isShort 2 = .ok (.lconst 0, 1) := by decide +kernel
theorem dX7_isShort_3 : decode cX7_isShort 3 = .ok (.ldc2_w 132, 3) := by decide +kernel
theorem dX7_isShort_6 : decode cX7_isShort 6 = .ok (.invokestatic 42, 3) := by decide +kernel
theorem dX7_isShort_9 : decode cX7_isShort 9 = .ok (.ireturn, 1) := by decide +kernel
theorem dX7_illBehind_0 : decode cX7_illBehind 0 = .ok (.aload_n 0, 1) := by decide +kernel
theorem dX7_illBehind_1 : decode cX7_illBehind 1 = .ok (.iload_n 1, 1) := by decide +kernel
theorem dX7_illBehind_2 : decode cX7_illBehind 2 = .ok (.invokevirtual 134, 3) := by decide +kernel
theorem dX7_illBehind_5 : decode cX7_illBehind 5 = .ok (.aload_n 0, 1) := by decide +kernel
theorem dX7_illBehind_6 : decode cX7_illBehind 6 = .ok (.iconst 5, 1) := by decide +kernel
theorem dX7_illBehind_7 : decode cX7_illBehind 7 = .ok (.invokevirtual 140, 3) := by decide +kernel
theorem dX7_illBehind_10 : decode cX7_illBehind 10 = .ok (.istore_n 2, 1) := by decide +kernel
theorem dX7_illBehind_11 : decode cX7_illBehind 11 = .ok (.aload_n 0, 1) := by decide +kernel
theorem dX7_illBehind_12 : decode cX7_illBehind 12 = .ok (.getfield 16, 3) := by decide +kernel
theorem dX7_illBehind_15 : decode cX7_illBehind 15 = .ok (.aload_n 0, 1) := by decide +kernel
theorem dX7_illBehind_16 : decode cX7_illBehind 16 = .ok (.getfield 7, 3) := by decide +kernel
theorem dX7_illBehind_19 : decode cX7_illBehind 19 = .ok (.invokestatic 146, 3) := by decide +kernel
theorem dX7_illBehind_22 : decode cX7_illBehind 22 = .ok (.iload_n 2, 1) := by decide +kernel
theorem dX7_illBehind_23 : decode cX7_illBehind 23 = .ok (.ireturn, 1) := by decide +kernel
theorem dX7_wordsFor_0 : decode cX7_wordsFor 0 = .ok (.iload_n 1, 1) := by decide +kernel
theorem dX7_wordsFor_1 : decode cX7_wordsFor 1 = .ok (.invokestatic 112, 3) := by decide +kernel
theorem dX7_wordsFor_4 : decode cX7_wordsFor 4 = .ok (.ifCond .eq 10, 3) := by decide +kernel
theorem dX7_wordsFor_7 : decode cX7_wordsFor 7 = .ok (.iload_n 2, 1) := by decide +kernel
theorem dX7_wordsFor_8 : decode cX7_wordsFor 8 = .ok (.invokestatic 159, 3) := by decide +kernel
theorem dX7_wordsFor_11 : decode cX7_wordsFor 11 = .ok (.ifCond .ne 9, 3) := by decide +kernel
theorem dX7_wordsFor_14 : decode cX7_wordsFor 14 = .ok (.aload_n 0, 1) := by decide +kernel
theorem dX7_wordsFor_15 : decode cX7_wordsFor 15 = .ok (.iconst 0, 1) := by decide +kernel
theorem dX7_wordsFor_16 : decode cX7_wordsFor 16 = .ok (.invokevirtual 109, 3) := by decide +kernel
theorem dX7_wordsFor_19 : decode cX7_wordsFor 19 = .ok (.ireturn, 1) := by decide +kernel
theorem dX7_wordsFor_20 : decode cX7_wordsFor 20 = .ok (.aload_n 0, 1) := by decide +kernel
theorem dX7_wordsFor_21 : decode cX7_wordsFor 21 = .ok (.getfield 7, 3) := by decide +kernel
theorem dX7_wordsFor_24 : decode cX7_wordsFor 24 = .ok (.aload_n 0, 1) := by decide +kernel
theorem dX7_wordsFor_25 : decode cX7_wordsFor 25 = .ok (.getfield 16, 3) := by decide +kernel
theorem dX7_wordsFor_28 : decode cX7_wordsFor 28 = .ok (.invokestatic 146, 3) := by decide +kernel
theorem dX7_wordsFor_31 : decode cX7_wordsFor 31 = .ok (.aload_n 0, 1) := by decide +kernel
theorem dX7_wordsFor_32 : decode cX7_wordsFor 32 = .ok (.getfield 7, 3) := by decide +kernel
theorem dX7_wordsFor_35 : decode cX7_wordsFor 35 = .ok (.bipush 6, 2) := by decide +kernel
theorem dX7_wordsFor_37 : decode cX7_wordsFor 37 = .ok (.iload_n 1, 1) := by decide +kernel
theorem dX7_wordsFor_38 : decode cX7_wordsFor 38 = .ok (.iadd, 1) := by decide +kernel
theorem dX7_wordsFor_39 : decode cX7_wordsFor 39 = .ok (.iaload, 1) := by decide +kernel
theorem dX7_wordsFor_40 : decode cX7_wordsFor 40 = .ok (.bipush 100, 2) := by decide +kernel
theorem dX7_wordsFor_42 : decode cX7_wordsFor 42 = .ok (.idiv, 1) := by decide +kernel
theorem dX7_wordsFor_43 : decode cX7_wordsFor 43 = .ok (.istore_n 3, 1) := by decide +kernel
theorem dX7_wordsFor_44 : decode cX7_wordsFor 44 = .ok (.bipush 40, 2) := by decide +kernel
theorem dX7_wordsFor_46 : decode cX7_wordsFor 46 = .ok (.istore 4, 2) := by decide +kernel
theorem dX7_wordsFor_48 : decode cX7_wordsFor 48 = .ok (.iload 4, 2) := by decide +kernel
theorem dX7_wordsFor_50 : decode cX7_wordsFor 50 = .ok (.ifCond .lt 41, 3) := by decide +kernel
theorem dX7_wordsFor_53 : decode cX7_wordsFor 53 = .ok (.aload_n 0, 1) := by decide +kernel
theorem dX7_wordsFor_54 : decode cX7_wordsFor 54 = .ok (.getfield 7, 3) := by decide +kernel
theorem dX7_wordsFor_57 : decode cX7_wordsFor 57 = .ok (.bipush 6, 2) := by decide +kernel
theorem dX7_wordsFor_59 : decode cX7_wordsFor 59 = .ok (.iload_n 1, 1) := by decide +kernel
theorem dX7_wordsFor_60 : decode cX7_wordsFor 60 = .ok (.iadd, 1) := by decide +kernel
theorem dX7_wordsFor_61 : decode cX7_wordsFor 61 = .ok (.bipush 100, 2) := by decide +kernel
theorem dX7_wordsFor_63 : decode cX7_wordsFor 63 = .ok (.iload_n 3, 1) := by decide +kernel
theorem dX7_wordsFor_64 : decode cX7_wordsFor 64 = .ok (.imul, 1) := by decide +kernel
theorem dX7_wordsFor_65 : decode cX7_wordsFor 65 = .ok (.iload 4, 2) := by decide +kernel
theorem dX7_wordsFor_67 : decode cX7_wordsFor 67 = .ok (.iadd, 1) := by decide +kernel
theorem dX7_wordsFor_68 : decode cX7_wordsFor 68 = .ok (.iastore, 1) := by decide +kernel
theorem dX7_wordsFor_69 : decode cX7_wordsFor 69 = .ok (.aload_n 0, 1) := by decide +kernel
theorem dX7_wordsFor_70 : decode cX7_wordsFor 70 = .ok (.iload_n 2, 1) := by decide +kernel
theorem dX7_wordsFor_71 : decode cX7_wordsFor 71 = .ok (.invokevirtual 162, 3) := by decide +kernel
theorem dX7_wordsFor_74 : decode cX7_wordsFor 74 = .ok (.aload_n 0, 1) := by decide +kernel
theorem dX7_wordsFor_75 : decode cX7_wordsFor 75 = .ok (.iconst 5, 1) := by decide +kernel
theorem dX7_wordsFor_76 : decode cX7_wordsFor 76 = .ok (.invokevirtual 140, 3) := by decide +kernel
theorem dX7_wordsFor_79 : decode cX7_wordsFor 79 = .ok (.if_icmp .ne 6, 3) := by decide +kernel
theorem dX7_wordsFor_82 : decode cX7_wordsFor 82 = .ok (.iload 4, 2) := by decide +kernel
theorem dX7_wordsFor_84 : decode cX7_wordsFor 84 = .ok (.ireturn, 1) := by decide +kernel
theorem dX7_wordsFor_85 : decode cX7_wordsFor 85 = .ok (.iinc 4 (-1), 3) := by decide +kernel
theorem dX7_wordsFor_88 : decode cX7_wordsFor 88 = .ok (.goto (-40), 3) := by decide +kernel
theorem dX7_wordsFor_91 : decode cX7_wordsFor 91 = .ok (.aload_n 0, 1) := by decide +kernel
theorem dX7_wordsFor_92 : decode cX7_wordsFor 92 = .ok (.iconst 3, 1) := by decide +kernel
theorem dX7_wordsFor_93 : decode cX7_wordsFor 93 = .ok (.invokevirtual 109, 3) := by decide +kernel
theorem dX7_wordsFor_96 : decode cX7_wordsFor 96 = .ok (.ireturn, 1) := by decide +kernel
theorem dX7_waterFor_0 : decode cX7_waterFor 0 = .ok (.iload_n 1, 1) := by decide +kernel
theorem dX7_waterFor_1 : decode cX7_waterFor 1 = .ok (.invokestatic 159, 3) := by decide +kernel
theorem dX7_waterFor_4 : decode cX7_waterFor 4 = .ok (.ifCond .ne 9, 3) := by decide +kernel
theorem dX7_waterFor_7 : decode cX7_waterFor 7 = .ok (.aload_n 0, 1) := by decide +kernel
theorem dX7_waterFor_8 : decode cX7_waterFor 8 = .ok (.iconst 0, 1) := by decide +kernel
theorem dX7_waterFor_9 : decode cX7_waterFor 9 = .ok (.invokevirtual 109, 3) := by decide +kernel
theorem dX7_waterFor_12 : decode cX7_waterFor 12 = .ok (.ireturn, 1) := by decide +kernel
theorem dX7_waterFor_13 : decode cX7_waterFor 13 = .ok (.aload_n 0, 1) := by decide +kernel
theorem dX7_waterFor_14 : decode cX7_waterFor 14 = .ok (.getfield 7, 3) := by decide +kernel
theorem dX7_waterFor_17 : decode cX7_waterFor 17 = .ok (.aload_n 0, 1) := by decide +kernel
theorem dX7_waterFor_18 : decode cX7_waterFor 18 = .ok (.getfield 16, 3) := by decide +kernel
theorem dX7_waterFor_21 : decode cX7_waterFor 21 = .ok (.invokestatic 146, 3) := by decide +kernel
theorem dX7_waterFor_24 : decode cX7_waterFor 24 = .ok (.iconst 0, 1) := by decide +kernel
theorem dX7_waterFor_25 : decode cX7_waterFor 25 = .ok (.istore_n 2, 1) := by decide +kernel
theorem dX7_waterFor_26 : decode cX7_waterFor 26 = .ok (.iload_n 2, 1) := by decide +kernel
theorem dX7_waterFor_27 : decode cX7_waterFor 27 = .ok (.bipush 10, 2) := by decide +kernel
theorem dX7_waterFor_29 : decode cX7_waterFor 29 = .ok (.if_icmp .ge 33, 3) := by decide +kernel
theorem dX7_waterFor_32 : decode cX7_waterFor 32 = .ok (.aload_n 0, 1) := by decide +kernel
theorem dX7_waterFor_33 : decode cX7_waterFor 33 = .ok (.getfield 7, 3) := by decide +kernel
theorem dX7_waterFor_36 : decode cX7_waterFor 36 = .ok (.iconst 3, 1) := by decide +kernel
theorem dX7_waterFor_37 : decode cX7_waterFor 37 = .ok (.iload_n 2, 1) := by decide +kernel
theorem dX7_waterFor_38 : decode cX7_waterFor 38 = .ok (.iastore, 1) := by decide +kernel
theorem dX7_waterFor_39 : decode cX7_waterFor 39 = .ok (.aload_n 0, 1) := by decide +kernel
theorem dX7_waterFor_40 : decode cX7_waterFor 40 = .ok (.iload_n 1, 1) := by decide +kernel
theorem dX7_waterFor_41 : decode cX7_waterFor 41 = .ok (.iconst 4, 1) := by decide +kernel
theorem dX7_waterFor_42 : decode cX7_waterFor 42 = .ok (.invokevirtual 165, 3) := by decide +kernel
theorem dX7_waterFor_45 : decode cX7_waterFor 45 = .ok (.aload_n 0, 1) := by decide +kernel
theorem dX7_waterFor_46 : decode cX7_waterFor 46 = .ok (.getfield 7, 3) := by decide +kernel
theorem dX7_waterFor_49 : decode cX7_waterFor 49 = .ok (.iconst 4, 1) := by decide +kernel
theorem dX7_waterFor_50 : decode cX7_waterFor 50 = .ok (.iaload, 1) := by decide +kernel
theorem dX7_waterFor_51 : decode cX7_waterFor 51 = .ok (.if_icmp .ne 5, 3) := by decide +kernel
theorem dX7_waterFor_54 : decode cX7_waterFor 54 = .ok (.iload_n 2, 1) := by decide +kernel
theorem dX7_waterFor_55 : decode cX7_waterFor 55 = .ok (.ireturn, 1) := by decide +kernel
theorem dX7_waterFor_56 : decode cX7_waterFor 56 = .ok (.iinc 2 1, 3) := by decide +kernel
theorem dX7_waterFor_59 : decode cX7_waterFor 59 = .ok (.goto (-33), 3) := by decide +kernel
theorem dX7_waterFor_62 : decode cX7_waterFor 62 = .ok (.aload_n 0, 1) := by decide +kernel
theorem dX7_waterFor_63 : decode cX7_waterFor 63 = .ok (.iconst 3, 1) := by decide +kernel
theorem dX7_waterFor_64 : decode cX7_waterFor 64 = .ok (.invokevirtual 109, 3) := by decide +kernel
theorem dX7_waterFor_67 : decode cX7_waterFor 67 = .ok (.ireturn, 1) := by decide +kernel
theorem dX7_spare_0 : decode cX7_spare 0 = .ok (.aload_n 0, 1) := by decide +kernel
theorem dX7_spare_1 : decode cX7_spare 1 = .ok (.iload_n 1, 1) := by decide +kernel
theorem dX7_spare_2 : decode cX7_spare 2 = .ok (.invokevirtual 123, 3) := by decide +kernel
theorem dX7_spare_5 : decode cX7_spare 5 = .ok (.ifCond .eq 10, 3) := by decide +kernel
theorem dX7_spare_8 : decode cX7_spare 8 = .ok (.iload_n 2, 1) := by decide +kernel
theorem dX7_spare_9 : decode cX7_spare 9 = .ok (.invokestatic 159, 3) := by decide +kernel
theorem dX7_spare_12 : decode cX7_spare 12 = .ok (.ifCond .ne 9, 3) := by decide +kernel
theorem dX7_spare_15 : decode cX7_spare 15 = .ok (.aload_n 0, 1) := by decide +kernel
theorem dX7_spare_16 : decode cX7_spare 16 = .ok (.iconst 0, 1) := by decide +kernel
theorem dX7_spare_17 : decode cX7_spare 17 = .ok (.invokevirtual 109, 3) := by decide +kernel
theorem dX7_spare_20 : decode cX7_spare 20 = .ok (.ireturn, 1) := by decide +kernel
theorem dX7_spare_21 : decode cX7_spare 21 = .ok (.aload_n 0, 1) := by decide +kernel
theorem dX7_spare_22 : decode cX7_spare 22 = .ok (.getfield 7, 3) := by decide +kernel
theorem dX7_spare_25 : decode cX7_spare 25 = .ok (.aload_n 0, 1) := by decide +kernel
theorem dX7_spare_26 : decode cX7_spare 26 = .ok (.getfield 16, 3) := by decide +kernel
theorem dX7_spare_29 : decode cX7_spare 29 = .ok (.invokestatic 146, 3) := by decide +kernel
theorem dX7_spare_32 : decode cX7_spare 32 = .ok (.iconst 0, 1) := by decide +kernel
theorem dX7_spare_33 : decode cX7_spare 33 = .ok (.istore_n 3, 1) := by decide +kernel
theorem dX7_spare_34 : decode cX7_spare 34 = .ok (.sipush 1000, 3) := by decide +kernel
theorem dX7_spare_37 : decode cX7_spare 37 = .ok (.istore 4, 2) := by decide +kernel
theorem dX7_spare_39 : decode cX7_spare 39 = .ok (.iconst 0, 1) := by decide +kernel
theorem dX7_spare_40 : decode cX7_spare 40 = .ok (.istore 5, 2) := by decide +kernel
theorem dX7_spare_42 : decode cX7_spare 42 = .ok (.iload 5, 2) := by decide +kernel
theorem dX7_spare_44 : decode cX7_spare 44 = .ok (.bipush 8, 2) := by decide +kernel
theorem dX7_spare_46 : decode cX7_spare 46 = .ok (.if_icmp .ge 53, 3) := by decide +kernel
theorem dX7_spare_49 : decode cX7_spare 49 = .ok (.aload_n 0, 1) := by decide +kernel
theorem dX7_spare_50 : decode cX7_spare 50 = .ok (.iload_n 1, 1) := by decide +kernel
theorem dX7_spare_51 : decode cX7_spare 51 = .ok (.iconst 2, 1) := by decide +kernel
theorem dX7_spare_52 : decode cX7_spare 52 = .ok (.aload_n 0, 1) := by decide +kernel
theorem dX7_spare_53 : decode cX7_spare 53 = .ok (.iload_n 1, 1) := by decide +kernel
theorem dX7_spare_54 : decode cX7_spare 54 = .ok (.iconst 2, 1) := by decide +kernel
theorem dX7_spare_55 : decode cX7_spare 55 = .ok (.invokevirtual 54, 3) := by decide +kernel
theorem dX7_spare_58 : decode cX7_spare 58 = .ok (.iconst 1, 1) := by decide +kernel
theorem dX7_spare_59 : decode cX7_spare 59 = .ok (.iload 5, 2) := by decide +kernel
theorem dX7_spare_61 : decode cX7_spare 61 = .ok (.ishl, 1) := by decide +kernel
theorem dX7_spare_62 : decode cX7_spare 62 = .ok (.iconst (-1), 1) := by decide +kernel
theorem dX7_spare_63 : decode cX7_spare 63 = .ok (.ixor, 1) := by decide +kernel
theorem dX7_spare_64 : decode cX7_spare 64 = .ok (.iand, 1) := by decide +kernel
theorem dX7_spare_65 : decode cX7_spare 65 = .ok (.invokevirtual 79, 3) := by decide +kernel
theorem dX7_spare_68 : decode cX7_spare 68 = .ok (.aload_n 0, 1) := by decide +kernel
theorem dX7_spare_69 : decode cX7_spare 69 = .ok (.iload_n 2, 1) := by decide +kernel
theorem dX7_spare_70 : decode cX7_spare 70 = .ok (.bipush 20, 2) := by decide +kernel
theorem dX7_spare_72 : decode cX7_spare 72 = .ok (.iload_n 1, 1) := by decide +kernel
theorem dX7_spare_73 : decode cX7_spare 73 = .ok (.iadd, 1) := by decide +kernel
theorem dX7_spare_74 : decode cX7_spare 74 = .ok (.invokevirtual 165, 3) := by decide +kernel
theorem dX7_spare_77 : decode cX7_spare 77 = .ok (.istore 6, 2) := by decide +kernel
theorem dX7_spare_79 : decode cX7_spare 79 = .ok (.iload 6, 2) := by decide +kernel
theorem dX7_spare_81 : decode cX7_spare 81 = .ok (.iload 4, 2) := by decide +kernel
theorem dX7_spare_83 : decode cX7_spare 83 = .ok (.if_icmp .ge 10, 3) := by decide +kernel
theorem dX7_spare_86 : decode cX7_spare 86 = .ok (.iload 5, 2) := by decide +kernel
theorem dX7_spare_88 : decode cX7_spare 88 = .ok (.istore_n 3, 1) := by decide +kernel
theorem dX7_spare_89 : decode cX7_spare 89 = .ok (.iload 6, 2) := by decide +kernel
theorem dX7_spare_91 : decode cX7_spare 91 = .ok (.istore 4, 2) := by decide +kernel
theorem dX7_spare_93 : decode cX7_spare 93 = .ok (.iinc 5 1, 3) := by decide +kernel
theorem dX7_spare_96 : decode cX7_spare 96 = .ok (.goto (-54), 3) := by decide +kernel
theorem dX7_spare_99 : decode cX7_spare 99 = .ok (.iload_n 3, 1) := by decide +kernel
theorem dX7_spare_100 : decode cX7_spare 100 = .ok (.ireturn, 1) := by decide +kernel
theorem dX7_kindFor_0 : decode cX7_kindFor 0 = .ok (.aload_n 0, 1) := by decide +kernel
theorem dX7_kindFor_1 : decode cX7_kindFor 1 = .ok (.iload_n 1, 1) := by decide +kernel
theorem dX7_kindFor_2 : decode cX7_kindFor 2 = .ok (.invokevirtual 123, 3) := by decide +kernel
theorem dX7_kindFor_5 : decode cX7_kindFor 5 = .ok (.ifCond .eq 10, 3) := by decide +kernel
theorem dX7_kindFor_8 : decode cX7_kindFor 8 = .ok (.iload_n 2, 1) := by decide +kernel
theorem dX7_kindFor_9 : decode cX7_kindFor 9 = .ok (.invokestatic 159, 3) := by decide +kernel
theorem dX7_kindFor_12 : decode cX7_kindFor 12 = .ok (.ifCond .ne 9, 3) := by decide +kernel
theorem dX7_kindFor_15 : decode cX7_kindFor 15 = .ok (.aload_n 0, 1) := by decide +kernel
theorem dX7_kindFor_16 : decode cX7_kindFor 16 = .ok (.iconst 0, 1) := by decide +kernel
theorem dX7_kindFor_17 : decode cX7_kindFor 17 = .ok (.invokevirtual 109, 3) := by decide +kernel
theorem dX7_kindFor_20 : decode cX7_kindFor 20 = .ok (.ireturn, 1) := by decide +kernel
theorem dX7_kindFor_21 : decode cX7_kindFor 21 = .ok (.aload_n 0, 1) := by decide +kernel
theorem dX7_kindFor_22 : decode cX7_kindFor 22 = .ok (.getfield 7, 3) := by decide +kernel
theorem dX7_kindFor_25 : decode cX7_kindFor 25 = .ok (.aload_n 0, 1) := by decide +kernel
theorem dX7_kindFor_26 : decode cX7_kindFor 26 = .ok (.getfield 16, 3) := by decide +kernel
theorem dX7_kindFor_29 : decode cX7_kindFor 29 = .ok (.invokestatic 146, 3) := by decide +kernel
theorem dX7_kindFor_32 : decode cX7_kindFor 32 = .ok (.iconst 0, 1) := by decide +kernel
theorem dX7_kindFor_33 : decode cX7_kindFor 33 = .ok (.istore_n 3, 1) := by decide +kernel
theorem dX7_kindFor_34 : decode cX7_kindFor 34 = .ok (.ldc 168, 2) := by decide +kernel
theorem dX7_kindFor_36 : decode cX7_kindFor 36 = .ok (.istore 4, 2) := by decide +kernel
theorem dX7_kindFor_38 : decode cX7_kindFor 38 = .ok (.iconst 0, 1) := by decide +kernel
theorem dX7_kindFor_39 : decode cX7_kindFor 39 = .ok (.istore 5, 2) := by decide +kernel
theorem dX7_kindFor_41 : decode cX7_kindFor 41 = .ok (.iload 5, 2) := by decide +kernel
theorem dX7_kindFor_43 : decode cX7_kindFor 43 = .ok (.bipush 7, 2) := by decide +kernel
theorem dX7_kindFor_45 : decode cX7_kindFor 45 = .ok (.if_icmp .ge 38, 3) := by decide +kernel
theorem dX7_kindFor_48 : decode cX7_kindFor 48 = .ok (.aload_n 0, 1) := by decide +kernel
theorem dX7_kindFor_49 : decode cX7_kindFor 49 = .ok (.iload_n 1, 1) := by decide +kernel
theorem dX7_kindFor_50 : decode cX7_kindFor 50 = .ok (.iconst 0, 1) := by decide +kernel
theorem dX7_kindFor_51 : decode cX7_kindFor 51 = .ok (.iload 5, 2) := by decide +kernel
theorem dX7_kindFor_53 : decode cX7_kindFor 53 = .ok (.invokevirtual 79, 3) := by decide +kernel
theorem dX7_kindFor_56 : decode cX7_kindFor 56 = .ok (.aload_n 0, 1) := by decide +kernel
theorem dX7_kindFor_57 : decode cX7_kindFor 57 = .ok (.iload_n 2, 1) := by decide +kernel
theorem dX7_kindFor_58 : decode cX7_kindFor 58 = .ok (.invokevirtual 162, 3) := by decide +kernel
theorem dX7_kindFor_61 : decode cX7_kindFor 61 = .ok (.istore 6, 2) := by decide +kernel
theorem dX7_kindFor_63 : decode cX7_kindFor 63 = .ok (.iload 6, 2) := by decide +kernel
theorem dX7_kindFor_65 : decode cX7_kindFor 65 = .ok (.iload 4, 2) := by decide +kernel
theorem dX7_kindFor_67 : decode cX7_kindFor 67 = .ok (.if_icmp .ge 10, 3) := by decide +kernel
theorem dX7_kindFor_70 : decode cX7_kindFor 70 = .ok (.iload 5, 2) := by decide +kernel
theorem dX7_kindFor_72 : decode cX7_kindFor 72 = .ok (.istore_n 3, 1) := by decide +kernel
theorem dX7_kindFor_73 : decode cX7_kindFor 73 = .ok (.iload 6, 2) := by decide +kernel
theorem dX7_kindFor_75 : decode cX7_kindFor 75 = .ok (.istore 4, 2) := by decide +kernel
theorem dX7_kindFor_77 : decode cX7_kindFor 77 = .ok (.iinc 5 1, 3) := by decide +kernel
theorem dX7_kindFor_80 : decode cX7_kindFor 80 = .ok (.goto (-39), 3) := by decide +kernel
theorem dX7_kindFor_83 : decode cX7_kindFor 83 = .ok (.iload_n 3, 1) := by decide +kernel
theorem dX7_kindFor_84 : decode cX7_kindFor 84 = .ok (.ireturn, 1) := by decide +kernel
theorem dX7_fast_0 : decode cX7_fast 0 = .ok (.iload_n 1, 1) := by decide +kernel
theorem dX7_fast_1 : decode cX7_fast 1 = .ok (.i2l, 1) := by decide +kernel
theorem dX7_fast_2 : decode cX7_fast 2 = .ok (.lconst 0, 1) := by decide +kernel
theorem dX7_fast_3 : decode cX7_fast 3 = .ok (.ldc2_w 169, 3) := by decide +kernel
theorem dX7_fast_6 : decode cX7_fast 6 = .ok (.invokestatic 42, 3) := by decide +kernel
theorem dX7_fast_9 : decode cX7_fast 9 = .ok (.ifCond .ne 9, 3) := by decide +kernel
theorem dX7_fast_12 : decode cX7_fast 12 = .ok (.aload_n 0, 1) := by decide +kernel
theorem dX7_fast_13 : decode cX7_fast 13 = .ok (.iconst 0, 1) := by decide +kernel
theorem dX7_fast_14 : decode cX7_fast 14 = .ok (.invokevirtual 109, 3) := by decide +kernel
theorem dX7_fast_17 : decode cX7_fast 17 = .ok (.ireturn, 1) := by decide +kernel
theorem dX7_fast_18 : decode cX7_fast 18 = .ok (.aload_n 0, 1) := by decide +kernel
theorem dX7_fast_19 : decode cX7_fast 19 = .ok (.getfield 7, 3) := by decide +kernel
theorem dX7_fast_22 : decode cX7_fast 22 = .ok (.aload_n 0, 1) := by decide +kernel
theorem dX7_fast_23 : decode cX7_fast 23 = .ok (.getfield 16, 3) := by decide +kernel
theorem dX7_fast_26 : decode cX7_fast 26 = .ok (.invokestatic 146, 3) := by decide +kernel
theorem dX7_fast_29 : decode cX7_fast 29 = .ok (.iconst (-1), 1) := by decide +kernel
theorem dX7_fast_30 : decode cX7_fast 30 = .ok (.istore_n 2, 1) := by decide +kernel
theorem dX7_fast_31 : decode cX7_fast 31 = .ok (.iconst 0, 1) := by decide +kernel
theorem dX7_fast_32 : decode cX7_fast 32 = .ok (.istore_n 3, 1) := by decide +kernel
theorem dX7_fast_33 : decode cX7_fast 33 = .ok (.iload_n 3, 1) := by decide +kernel
theorem dX7_fast_34 : decode cX7_fast 34 = .ok (.iconst 1, 1) := by decide +kernel
theorem dX7_fast_35 : decode cX7_fast 35 = .ok (.aload_n 0, 1) := by decide +kernel
theorem dX7_fast_36 : decode cX7_fast 36 = .ok (.getfield 7, 3) := by decide +kernel
theorem dX7_fast_39 : decode cX7_fast 39 = .ok (.iconst 0, 1) := by decide +kernel
theorem dX7_fast_40 : decode cX7_fast 40 = .ok (.iaload, 1) := by decide +kernel
theorem dX7_fast_41 : decode cX7_fast 41 = .ok (.ishl, 1) := by decide +kernel
theorem dX7_fast_42 : decode cX7_fast 42 = .ok (.if_icmp .ge 96, 3) := by decide +kernel
theorem dX7_fast_45 : decode cX7_fast 45 = .ok (.iload_n 2, 1) := by decide +kernel
theorem dX7_fast_46 : decode cX7_fast 46 = .ok (.ifCond .lt 17, 3) := by decide +kernel
theorem dX7_fast_49 : decode cX7_fast 49 = .ok (.iload_n 3, 1) := by decide +kernel
theorem dX7_fast_50 : decode cX7_fast 50 = .ok (.invokestatic 58, 3) := by decide +kernel
theorem dX7_fast_53 : decode cX7_fast 53 = .ok (.iload_n 2, 1) := by decide +kernel
theorem dX7_fast_54 : decode cX7_fast 54 = .ok (.invokestatic 58, 3) := by decide +kernel
theorem dX7_fast_57 : decode cX7_fast 57 = .ok (.if_icmp .lt 6, 3) := by decide +kernel
theorem dX7_fast_60 : decode cX7_fast 60 = .ok (.goto 72, 3) := by decide +kernel
theorem dX7_fast_63 : decode cX7_fast 63 = .ok (.iconst 0, 1) := by decide +kernel
theorem dX7_fast_64 : decode cX7_fast 64 = .ok (.istore 4, 2) := by decide +kernel
theorem dX7_fast_66 : decode cX7_fast 66 = .ok (.iload 4, 2) := by decide +kernel
theorem dX7_fast_68 : decode cX7_fast 68 = .ok (.aload_n 0, 1) := by decide +kernel
theorem dX7_fast_69 : decode cX7_fast 69 = .ok (.getfield 7, 3) := by decide +kernel
theorem dX7_fast_72 : decode cX7_fast 72 = .ok (.iconst 0, 1) := by decide +kernel
theorem dX7_fast_73 : decode cX7_fast 73 = .ok (.iaload, 1) := by decide +kernel
theorem dX7_fast_74 : decode cX7_fast 74 = .ok (.if_icmp .ge 37, 3) := by decide +kernel
theorem dX7_fast_77 : decode cX7_fast 77 = .ok (.aload_n 0, 1) := by decide +kernel
theorem dX7_fast_78 : decode cX7_fast 78 = .ok (.iload 4, 2) := by decide +kernel
theorem dX7_fast_80 : decode cX7_fast 80 = .ok (.iconst 2, 1) := by decide +kernel
theorem dX7_fast_81 : decode cX7_fast 81 = .ok (.iload_n 3, 1) := by decide +kernel
theorem dX7_fast_82 : decode cX7_fast 82 = .ok (.iload 4, 2) := by decide +kernel
theorem dX7_fast_84 : decode cX7_fast 84 = .ok (.ishr, 1) := by decide +kernel
theorem dX7_fast_85 : decode cX7_fast 85 = .ok (.iconst 1, 1) := by decide +kernel
theorem dX7_fast_86 : decode cX7_fast 86 = .ok (.iand, 1) := by decide +kernel
theorem dX7_fast_87 : decode cX7_fast 87 = .ok (.iconst 1, 1) := by decide +kernel
theorem dX7_fast_88 : decode cX7_fast 88 = .ok (.if_icmp .ne 7, 3) := by decide +kernel
theorem dX7_fast_91 : decode cX7_fast 91 = .ok (.iconst 0, 1) := by decide +kernel
theorem dX7_fast_92 : decode cX7_fast 92 = .ok (.goto 10, 3) := by decide +kernel
theorem dX7_fast_95 : decode cX7_fast 95 = .ok (.aload_n 0, 1) := by decide +kernel
theorem dX7_fast_96 : decode cX7_fast 96 = .ok (.iload 4, 2) := by decide +kernel
theorem dX7_fast_98 : decode cX7_fast 98 = .ok (.iconst 2, 1) := by decide +kernel
theorem dX7_fast_99 : decode cX7_fast 99 = .ok (.invokevirtual 54, 3) := by decide +kernel
theorem dX7_fast_102 : decode cX7_fast 102 = .ok (.invokevirtual 79, 3) := by decide +kernel
theorem dX7_fast_105 : decode cX7_fast 105 = .ok (.iinc 4 1, 3) := by decide +kernel
theorem dX7_fast_108 : decode cX7_fast 108 = .ok (.goto (-42), 3) := by decide +kernel
theorem dX7_fast_111 : decode cX7_fast 111 = .ok (.aload_n 0, 1) := by decide +kernel
theorem dX7_fast_112 : decode cX7_fast 112 = .ok (.iload_n 1, 1) := by decide +kernel
theorem dX7_fast_113 : decode cX7_fast 113 = .ok (.iconst 4, 1) := by decide +kernel
theorem dX7_fast_114 : decode cX7_fast 114 = .ok (.invokevirtual 165, 3) := by decide +kernel
theorem dX7_fast_117 : decode cX7_fast 117 = .ok (.aload_n 0, 1) := by decide +kernel
theorem dX7_fast_118 : decode cX7_fast 118 = .ok (.getfield 7, 3) := by decide +kernel
theorem dX7_fast_121 : decode cX7_fast 121 = .ok (.iconst 4, 1) := by decide +kernel
theorem dX7_fast_122 : decode cX7_fast 122 = .ok (.iaload, 1) := by decide +kernel
theorem dX7_fast_123 : decode cX7_fast 123 = .ok (.if_icmp .ne 7, 3) := by decide +kernel
theorem dX7_fast_126 : decode cX7_fast 126 = .ok (.iload_n 3, 1) := by decide +kernel
theorem dX7_fast_127 : decode cX7_fast 127 = .ok (.goto 4, 3) := by decide +kernel
theorem dX7_fast_130 : decode cX7_fast 130 = .ok (.iload_n 2, 1) := by decide +kernel
theorem dX7_fast_131 : decode cX7_fast 131 = .ok (.istore_n 2, 1) := by decide +kernel
theorem dX7_fast_132 : decode cX7_fast 132 = .ok (.iinc 3 1, 3) := by decide +kernel
theorem dX7_fast_135 : decode cX7_fast 135 = .ok (.goto (-102), 3) := by decide +kernel
theorem dX7_fast_138 : decode cX7_fast 138 = .ok (.iload_n 2, 1) := by decide +kernel
theorem dX7_fast_139 : decode cX7_fast 139 = .ok (.ifCond .ge 11, 3) := by decide +kernel
theorem dX7_fast_142 : decode cX7_fast 142 = .ok (.aload_n 0, 1) := by decide +kernel
theorem dX7_fast_143 : decode cX7_fast 143 = .ok (.iconst 3, 1) := by decide +kernel
theorem dX7_fast_144 : decode cX7_fast 144 = .ok (.invokevirtual 109, 3) := by decide +kernel
theorem dX7_fast_147 : decode cX7_fast 147 = .ok (.goto 4, 3) := by decide +kernel
theorem dX7_fast_150 : decode cX7_fast 150 = .ok (.iload_n 2, 1) := by decide +kernel
theorem dX7_fast_151 : decode cX7_fast 151 = .ok (.ireturn, 1) := by decide +kernel
theorem dX7_cover_0 : decode cX7_cover 0 = .ok (.iload_n 1, 1) := by decide +kernel
theorem dX7_cover_1 : decode cX7_cover 1 = .ok (.invokestatic 103, 3) := by decide +kernel
theorem dX7_cover_4 : decode cX7_cover 4 = .ok (.ifCond .ne 9, 3) := by decide +kernel
theorem dX7_cover_7 : decode cX7_cover 7 = .ok (.aload_n 0, 1) := by decide +kernel
theorem dX7_cover_8 : decode cX7_cover 8 = .ok (.iconst 0, 1) := by decide +kernel
theorem dX7_cover_9 : decode cX7_cover 9 = .ok (.invokevirtual 109, 3) := by decide +kernel
theorem dX7_cover_12 : decode cX7_cover 12 = .ok (.ireturn, 1) := by decide +kernel
theorem dX7_cover_13 : decode cX7_cover 13 = .ok (.iconst (-1), 1) := by decide +kernel
theorem dX7_cover_14 : decode cX7_cover 14 = .ok (.istore_n 2, 1) := by decide +kernel
theorem dX7_cover_15 : decode cX7_cover 15 = .ok (.iconst 0, 1) := by decide +kernel
theorem dX7_cover_16 : decode cX7_cover 16 = .ok (.istore_n 3, 1) := by decide +kernel
theorem dX7_cover_17 : decode cX7_cover 17 = .ok (.iload_n 3, 1) := by decide +kernel
theorem dX7_cover_18 : decode cX7_cover 18 = .ok (.iconst 1, 1) := by decide +kernel
theorem dX7_cover_19 : decode cX7_cover 19 = .ok (.aload_n 0, 1) := by decide +kernel
theorem dX7_cover_20 : decode cX7_cover 20 = .ok (.getfield 7, 3) := by decide +kernel
theorem dX7_cover_23 : decode cX7_cover 23 = .ok (.iconst 0, 1) := by decide +kernel
theorem dX7_cover_24 : decode cX7_cover 24 = .ok (.iaload, 1) := by decide +kernel
theorem dX7_cover_25 : decode cX7_cover 25 = .ok (.ishl, 1) := by decide +kernel
theorem dX7_cover_26 : decode cX7_cover 26 = .ok (.if_icmp .ge 86, 3) := by decide +kernel
theorem dX7_cover_29 : decode cX7_cover 29 = .ok (.iload_n 1, 1) := by decide +kernel
theorem dX7_cover_30 : decode cX7_cover 30 = .ok (.istore 4, 2) := by decide +kernel
theorem dX7_cover_32 : decode cX7_cover 32 = .ok (.iconst 0, 1) := by decide +kernel
theorem dX7_cover_33 : decode cX7_cover 33 = .ok (.istore 5, 2) := by decide +kernel
theorem dX7_cover_35 : decode cX7_cover 35 = .ok (.iload 5, 2) := by decide +kernel
theorem dX7_cover_37 : decode cX7_cover 37 = .ok (.aload_n 0, 1) := by decide +kernel
theorem dX7_cover_38 : decode cX7_cover 38 = .ok (.getfield 7, 3) := by decide +kernel
theorem dX7_cover_41 : decode cX7_cover 41 = .ok (.iconst 0, 1) := by decide +kernel
theorem dX7_cover_42 : decode cX7_cover 42 = .ok (.iaload, 1) := by decide +kernel
theorem dX7_cover_43 : decode cX7_cover 43 = .ok (.if_icmp .ge 37, 3) := by decide +kernel
theorem dX7_cover_46 : decode cX7_cover 46 = .ok (.iload 4, 2) := by decide +kernel
theorem dX7_cover_48 : decode cX7_cover 48 = .ok (.iload_n 3, 1) := by decide +kernel
theorem dX7_cover_49 : decode cX7_cover 49 = .ok (.iload 5, 2) := by decide +kernel
theorem dX7_cover_51 : decode cX7_cover 51 = .ok (.ishr, 1) := by decide +kernel
theorem dX7_cover_52 : decode cX7_cover 52 = .ok (.iconst 1, 1) := by decide +kernel
theorem dX7_cover_53 : decode cX7_cover 53 = .ok (.iand, 1) := by decide +kernel
theorem dX7_cover_54 : decode cX7_cover 54 = .ok (.iconst 1, 1) := by decide +kernel
theorem dX7_cover_55 : decode cX7_cover 55 = .ok (.if_icmp .ne 15, 3) := by decide +kernel
theorem dX7_cover_58 : decode cX7_cover 58 = .ok (.aload_n 0, 1) := by decide +kernel
theorem dX7_cover_59 : decode cX7_cover 59 = .ok (.iload 5, 2) := by decide +kernel
theorem dX7_cover_61 : decode cX7_cover 61 = .ok (.iconst 2, 1) := by decide +kernel
theorem dX7_cover_62 : decode cX7_cover 62 = .ok (.invokevirtual 54, 3) := by decide +kernel
theorem dX7_cover_65 : decode cX7_cover 65 = .ok (.iconst (-1), 1) := by decide +kernel
theorem dX7_cover_66 : decode cX7_cover 66 = .ok (.ixor, 1) := by decide +kernel
theorem dX7_cover_67 : decode cX7_cover 67 = .ok (.goto 4, 3) := by decide +kernel
theorem dX7_cover_70 : decode cX7_cover 70 = .ok (.iconst (-1), 1) := by decide +kernel
theorem dX7_cover_71 : decode cX7_cover 71 = .ok (.iand, 1) := by decide +kernel
theorem dX7_cover_72 : decode cX7_cover 72 = .ok (.istore 4, 2) := by decide +kernel
theorem dX7_cover_74 : decode cX7_cover 74 = .ok (.iinc 5 1, 3) := by decide +kernel
theorem dX7_cover_77 : decode cX7_cover 77 = .ok (.goto (-42), 3) := by decide +kernel
theorem dX7_cover_80 : decode cX7_cover 80 = .ok (.iload 4, 2) := by decide +kernel
theorem dX7_cover_82 : decode cX7_cover 82 = .ok (.ifCond .ne 22, 3) := by decide +kernel
theorem dX7_cover_85 : decode cX7_cover 85 = .ok (.iload_n 2, 1) := by decide +kernel
theorem dX7_cover_86 : decode cX7_cover 86 = .ok (.ifCond .lt 14, 3) := by decide +kernel
theorem dX7_cover_89 : decode cX7_cover 89 = .ok (.iload_n 3, 1) := by decide +kernel
theorem dX7_cover_90 : decode cX7_cover 90 = .ok (.invokestatic 58, 3) := by decide +kernel
theorem dX7_cover_93 : decode cX7_cover 93 = .ok (.iload_n 2, 1) := by decide +kernel
theorem dX7_cover_94 : decode cX7_cover 94 = .ok (.invokestatic 58, 3) := by decide +kernel
theorem dX7_cover_97 : decode cX7_cover 97 = .ok (.if_icmp .ge 7, 3) := by decide +kernel
theorem dX7_cover_100 : decode cX7_cover 100 = .ok (.iload_n 3, 1) := by decide +kernel
theorem dX7_cover_101 : decode cX7_cover 101 = .ok (.goto 4, 3) := by decide +kernel
theorem dX7_cover_104 : decode cX7_cover 104 = .ok (.iload_n 2, 1) := by decide +kernel
theorem dX7_cover_105 : decode cX7_cover 105 = .ok (.istore_n 2, 1) := by decide +kernel
theorem dX7_cover_106 : decode cX7_cover 106 = .ok (.iinc 3 1, 3) := by decide +kernel
theorem dX7_cover_109 : decode cX7_cover 109 = .ok (.goto (-92), 3) := by decide +kernel
theorem dX7_cover_112 : decode cX7_cover 112 = .ok (.iload_n 2, 1) := by decide +kernel
theorem dX7_cover_113 : decode cX7_cover 113 = .ok (.ifCond .ge 11, 3) := by decide +kernel
theorem dX7_cover_116 : decode cX7_cover 116 = .ok (.aload_n 0, 1) := by decide +kernel
theorem dX7_cover_117 : decode cX7_cover 117 = .ok (.iconst 3, 1) := by decide +kernel
theorem dX7_cover_118 : decode cX7_cover 118 = .ok (.invokevirtual 109, 3) := by decide +kernel
theorem dX7_cover_121 : decode cX7_cover 121 = .ok (.goto 4, 3) := by decide +kernel
theorem dX7_cover_124 : decode cX7_cover 124 = .ok (.iload_n 2, 1) := by decide +kernel
theorem dX7_cover_125 : decode cX7_cover 125 = .ok (.ireturn, 1) := by decide +kernel
theorem dX7_whyNot_0 : decode cX7_whyNot 0 = .ok (.aload_n 0, 1) := by decide +kernel
theorem dX7_whyNot_1 : decode cX7_whyNot 1 = .ok (.iload_n 1, 1) := by decide +kernel
theorem dX7_whyNot_2 : decode cX7_whyNot 2 = .ok (.invokevirtual 171, 3) := by decide +kernel
theorem dX7_whyNot_5 : decode cX7_whyNot 5 = .ok (.istore_n 3, 1) := by decide +kernel
theorem dX7_whyNot_6 : decode cX7_whyNot 6 = .ok (.iload_n 3, 1) := by decide +kernel
theorem dX7_whyNot_7 : decode cX7_whyNot 7 = .ok (.ifCond .lt 7, 3) := by decide +kernel
theorem dX7_whyNot_10 : decode cX7_whyNot 10 = .ok (.iload_n 3, 1) := by decide +kernel
theorem dX7_whyNot_11 : decode cX7_whyNot 11 = .ok (.goto 16, 3) := by decide +kernel
theorem dX7_whyNot_14 : decode cX7_whyNot 14 = .ok (.aload_n 0, 1) := by decide +kernel
theorem dX7_whyNot_15 : decode cX7_whyNot 15 = .ok (.iload_n 2, 1) := by decide +kernel
theorem dX7_whyNot_16 : decode cX7_whyNot 16 = .ok (.invokevirtual 123, 3) := by decide +kernel
theorem dX7_whyNot_19 : decode cX7_whyNot 19 = .ok (.ifCond .eq 7, 3) := by decide +kernel
theorem dX7_whyNot_22 : decode cX7_whyNot 22 = .ok (.iconst (-1), 1) := by decide +kernel
theorem dX7_whyNot_23 : decode cX7_whyNot 23 = .ok (.goto 4, 3) := by decide +kernel
theorem dX7_whyNot_26 : decode cX7_whyNot 26 = .ok (.iconst 0, 1) := by decide +kernel
theorem dX7_whyNot_27 : decode cX7_whyNot 27 = .ok (.ireturn, 1) := by decide +kernel
theorem dX7_isTold_0 : decode cX7_isTold 0 = .ok (.iconst 1, 1) := by decide +kernel
theorem dX7_isTold_1 : decode cX7_isTold 1 = .ok (.istore_n 3, 1) := by decide +kernel
theorem dX7_isTold_2 : decode cX7_isTold 2 = .ok (.iconst 0, 1) := by decide +kernel
theorem dX7_isTold_3 : decode cX7_isTold 3 = .ok (.istore 4, 2) := by decide +kernel
theorem dX7_isTold_5 : decode cX7_isTold 5 = .ok (.iload 4, 2) := by decide +kernel
theorem dX7_isTold_7 : decode cX7_isTold 7 = .ok (.aload_n 0, 1) := by decide +kernel
theorem dX7_isTold_8 : decode cX7_isTold 8 = .ok (.getfield 32, 3) := by decide +kernel
theorem dX7_isTold_11 : decode cX7_isTold 11 = .ok (.iload_n 1, 1) := by decide +kernel
theorem dX7_isTold_12 : decode cX7_isTold 12 = .ok (.iaload, 1) := by decide +kernel
theorem dX7_isTold_13 : decode cX7_isTold 13 = .ok (.if_icmp .ge 54, 3) := by decide +kernel
theorem dX7_isTold_16 : decode cX7_isTold 16 = .ok (.iload_n 3, 1) := by decide +kernel
theorem dX7_isTold_17 : decode cX7_isTold 17 = .ok (.ifCond .eq 50, 3) := by decide +kernel
theorem dX7_isTold_20 : decode cX7_isTold 20 = .ok (.aload_n 0, 1) := by decide +kernel
theorem dX7_isTold_21 : decode cX7_isTold 21 = .ok (.getfield 35, 3) := by decide +kernel
theorem dX7_isTold_24 : decode cX7_isTold 24 = .ok (.bipush 40, 2) := by decide +kernel
theorem dX7_isTold_26 : decode cX7_isTold 26 = .ok (.iload_n 1, 1) := by decide +kernel
theorem dX7_isTold_27 : decode cX7_isTold 27 = .ok (.imul, 1) := by decide +kernel
theorem dX7_isTold_28 : decode cX7_isTold 28 = .ok (.iload 4, 2) := by decide +kernel
theorem dX7_isTold_30 : decode cX7_isTold 30 = .ok (.iadd, 1) := by decide +kernel
theorem dX7_isTold_31 : decode cX7_isTold 31 = .ok (.iaload, 1) := by decide +kernel
theorem dX7_isTold_32 : decode cX7_isTold 32 = .ok (.istore 5, 2) := by decide +kernel
theorem dX7_isTold_34 : decode cX7_isTold 34 = .ok (.iload 5, 2) := by decide +kernel
theorem dX7_isTold_36 : decode cX7_isTold 36 = .ok (.iconst (-1), 1) := by decide +kernel
theorem dX7_isTold_37 : decode cX7_isTold 37 = .ok (.if_icmp .eq 14, 3) := by decide +kernel
theorem dX7_isTold_40 : decode cX7_isTold 40 = .ok (.iload 5, 2) := by decide +kernel
theorem dX7_isTold_42 : decode cX7_isTold 42 = .ok (.aload_n 0, 1) := by decide +kernel
theorem dX7_isTold_43 : decode cX7_isTold 43 = .ok (.iload_n 2, 1) := by decide +kernel
theorem dX7_isTold_44 : decode cX7_isTold 44 = .ok (.iconst 1, 1) := by decide +kernel
theorem dX7_isTold_45 : decode cX7_isTold 45 = .ok (.invokevirtual 54, 3) := by decide +kernel
theorem dX7_isTold_48 : decode cX7_isTold 48 = .ok (.if_icmp .ne 7, 3) := by decide +kernel
theorem dX7_isTold_51 : decode cX7_isTold 51 = .ok (.iconst 1, 1) := by decide +kernel
theorem dX7_isTold_52 : decode cX7_isTold 52 = .ok (.goto 4, 3) := by decide +kernel
theorem dX7_isTold_55 : decode cX7_isTold 55 = .ok (.iconst 0, 1) := by decide +kernel
theorem dX7_isTold_56 : decode cX7_isTold 56 = .ok (.istore_n 3, 1) := by decide +kernel
theorem dX7_isTold_57 : decode cX7_isTold 57 = .ok (.aload_n 0, 1) := by decide +kernel
theorem dX7_isTold_58 : decode cX7_isTold 58 = .ok (.invokevirtual 98, 3) := by decide +kernel
theorem dX7_isTold_61 : decode cX7_isTold 61 = .ok (.iinc 4 1, 3) := by decide +kernel
theorem dX7_isTold_64 : decode cX7_isTold 64 = .ok (.goto (-59), 3) := by decide +kernel
theorem dX7_isTold_67 : decode cX7_isTold 67 = .ok (.aload_n 0, 1) := by decide +kernel
theorem dX7_isTold_68 : decode cX7_isTold 68 = .ok (.getfield 16, 3) := by decide +kernel
theorem dX7_isTold_71 : decode cX7_isTold 71 = .ok (.aload_n 0, 1) := by decide +kernel
theorem dX7_isTold_72 : decode cX7_isTold 72 = .ok (.getfield 7, 3) := by decide +kernel
theorem dX7_isTold_75 : decode cX7_isTold 75 = .ok (.invokestatic 146, 3) := by decide +kernel
theorem dX7_isTold_78 : decode cX7_isTold 78 = .ok (.iload_n 3, 1) := by decide +kernel
theorem dX7_isTold_79 : decode cX7_isTold 79 = .ok (.ireturn, 1) := by decide +kernel
theorem dX7_isOf_0 : decode cX7_isOf 0 = .ok (.aload_n 0, 1) := by decide +kernel
theorem dX7_isOf_1 : decode cX7_isOf 1 = .ok (.getfield 7, 3) := by decide +kernel
theorem dX7_isOf_4 : decode cX7_isOf 4 = .ok (.aload_n 0, 1) := by decide +kernel
theorem dX7_isOf_5 : decode cX7_isOf 5 = .ok (.invokevirtual 83, 3) := by decide +kernel
theorem dX7_isOf_8 : decode cX7_isOf 8 = .ok (.dup2, 1) := by decide +kernel
theorem dX7_isOf_9 : decode cX7_isOf 9 = .ok (.iaload, 1) := by decide +kernel
theorem dX7_isOf_10 : decode cX7_isOf 10 = .ok (.iload_n 3, 1) := by decide +kernel
theorem dX7_isOf_11 : decode cX7_isOf 11 = .ok (.aload_n 0, 1) := by decide +kernel
theorem dX7_isOf_12 : decode cX7_isOf 12 = .ok (.getfield 7, 3) := by decide +kernel
theorem dX7_isOf_15 : decode cX7_isOf 15 = .ok (.aload_n 0, 1) := by decide +kernel
theorem dX7_isOf_16 : decode cX7_isOf 16 = .ok (.invokevirtual 83, 3) := by decide +kernel
theorem dX7_isOf_19 : decode cX7_isOf 19 = .ok (.iaload, 1) := by decide +kernel
theorem dX7_isOf_20 : decode cX7_isOf 20 = .ok (.bipush 100, 2) := by decide +kernel
theorem dX7_isOf_22 : decode cX7_isOf 22 = .ok (.irem, 1) := by decide +kernel
theorem dX7_isOf_23 : decode cX7_isOf 23 = .ok (.isub, 1) := by decide +kernel
theorem dX7_isOf_24 : decode cX7_isOf 24 = .ok (.iadd, 1) := by decide +kernel
theorem dX7_isOf_25 : decode cX7_isOf 25 = .ok (.iastore, 1) := by decide +kernel
theorem dX7_isOf_26 : decode cX7_isOf 26 = .ok (.aload_n 0, 1) := by decide +kernel
theorem dX7_isOf_27 : decode cX7_isOf 27 = .ok (.iload_n 1, 1) := by decide +kernel
theorem dX7_isOf_28 : decode cX7_isOf 28 = .ok (.iload_n 2, 1) := by decide +kernel
theorem dX7_isOf_29 : decode cX7_isOf 29 = .ok (.invokevirtual 174, 3) := by decide +kernel
theorem dX7_isOf_32 : decode cX7_isOf 32 = .ok (.ireturn, 1) := by decide +kernel
theorem dX7_fits_0 : decode cX7_fits 0 = .ok (.aload_n 0, 1) := by decide +kernel
theorem dX7_fits_1 : decode cX7_fits 1 = .ok (.iload_n 1, 1) := by decide +kernel
theorem dX7_fits_2 : decode cX7_fits 2 = .ok (.iload_n 2, 1) := by decide +kernel
theorem dX7_fits_3 : decode cX7_fits 3 = .ok (.invokevirtual 178, 3) := by decide +kernel
theorem dX7_fits_6 : decode cX7_fits 6 = .ok (.istore_n 3, 1) := by decide +kernel
theorem dX7_fits_7 : decode cX7_fits 7 = .ok (.iload_n 3, 1) := by decide +kernel
theorem dX7_fits_8 : decode cX7_fits 8 = .ok (.ifCond .lt 9, 3) := by decide +kernel
theorem dX7_fits_11 : decode cX7_fits 11 = .ok (.aload_n 0, 1) := by decide +kernel
theorem dX7_fits_12 : decode cX7_fits 12 = .ok (.iload_n 3, 1) := by decide +kernel
theorem dX7_fits_13 : decode cX7_fits 13 = .ok (.invokevirtual 109, 3) := by decide +kernel
theorem dX7_fits_16 : decode cX7_fits 16 = .ok (.ireturn, 1) := by decide +kernel
theorem dX7_fits_17 : decode cX7_fits 17 = .ok (.aload_n 0, 1) := by decide +kernel
theorem dX7_fits_18 : decode cX7_fits 18 = .ok (.getfield 7, 3) := by decide +kernel
theorem dX7_fits_21 : decode cX7_fits 21 = .ok (.aload_n 0, 1) := by decide +kernel
theorem dX7_fits_22 : decode cX7_fits 22 = .ok (.getfield 16, 3) := by decide +kernel
theorem dX7_fits_25 : decode cX7_fits 25 = .ok (.invokestatic 146, 3) := by decide +kernel
theorem dX7_fits_28 : decode cX7_fits 28 = .ok (.iconst 0, 1) := by decide +kernel
theorem dX7_fits_29 : decode cX7_fits 29 = .ok (.istore 4, 2) := by decide +kernel
theorem dX7_fits_31 : decode cX7_fits 31 = .ok (.iconst 0, 1) := by decide +kernel
theorem dX7_fits_32 : decode cX7_fits 32 = .ok (.istore 5, 2) := by decide +kernel
theorem dX7_fits_34 : decode cX7_fits 34 = .ok (.iload 5, 2) := by decide +kernel
theorem dX7_fits_36 : decode cX7_fits 36 = .ok (.bipush 40, 2) := by decide +kernel
theorem dX7_fits_38 : decode cX7_fits 38 = .ok (.if_icmp .gt 30, 3) := by decide +kernel
theorem dX7_fits_41 : decode cX7_fits 41 = .ok (.iload 4, 2) := by decide +kernel
theorem dX7_fits_43 : decode cX7_fits 43 = .ok (.aload_n 0, 1) := by decide +kernel
