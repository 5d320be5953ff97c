theorem dX3_makeFast_28 : decode cX3_makeFast 28 = .ok (.ishr, 1) := by decide +kernel
theorem dX3_makeFast_29 : decode cX3_makeFast 29 = .ok (.iconst 1, 1) := by decide +kernel
theorem dX3_makeFast_30 : decode cX3_makeFast 30 = .ok (.iand, 1) := by decide +kernel
theorem dX3_makeFast_31 : decode cX3_makeFast 31 = .ok (.ifCond .eq 8, 3) := by decide +kernel
theorem dX3_makeFast_34 : decode cX3_makeFast 34 = .ok (.aload_n 3, 1) := by decide +kernel
theorem dX3_makeFast_35 : decode cX3_makeFast 35 = .ok (.iconst 0, 1) := by decide +kernel
theorem dX3_makeFast_36 : decode cX3_makeFast 36 = .ok (.putfield 83, 3) := by decide +kernel
theorem dX3_makeFast_39 : decode cX3_makeFast 39 = .ok (.iinc 2 1, 3) := by decide +kernel
theorem dX3_makeFast_42 : decode cX3_makeFast 42 = .ok (.goto (-40), 3) := by decide +kernel
theorem dX3_makeFast_45 : decode cX3_makeFast 45 = .ok (.return_, 1) := by decide +kernel
theorem dX3_fewestFasting_0 : decode cX3_fewestFasting 0 = .ok (.iconst 0, 1) := by decide +kernel
theorem dX3_fewestFasting_1 : decode cX3_fewestFasting 1 = .ok (.istore_n 3, 1) := by decide +kernel
theorem dX3_fewestFasting_2 : decode cX3_fewestFasting 2 = .ok (.iload_n 3, 1) := by decide +kernel
theorem dX3_fewestFasting_3 : decode cX3_fewestFasting 3 = .ok (.aload_n 1, 1) := by decide +kernel
theorem dX3_fewestFasting_4 : decode cX3_fewestFasting 4 = .ok (.getfield 90, 3) := by decide +kernel
theorem dX3_fewestFasting_7 : decode cX3_fewestFasting 7 = .ok (.if_icmp .gt 63, 3) := by decide +kernel
theorem dX3_fewestFasting_10 : decode cX3_fewestFasting 10 = .ok (.iconst 0, 1) := by decide +kernel
theorem dX3_fewestFasting_11 : decode cX3_fewestFasting 11 = .ok (.istore 4, 2) := by decide +kernel
theorem dX3_fewestFasting_13 : decode cX3_fewestFasting 13 = .ok (.iload 4, 2) := by decide +kernel
theorem dX3_fewestFasting_15 : decode cX3_fewestFasting 15 = .ok (.iconst 1, 1) := by decide +kernel
theorem dX3_fewestFasting_16 : decode cX3_fewestFasting 16 = .ok (.aload_n 1, 1) := by decide +kernel
theorem dX3_fewestFasting_17 : decode cX3_fewestFasting 17 = .ok (.getfield 90, 3) := by decide +kernel
theorem dX3_fewestFasting_20 : decode cX3_fewestFasting 20 = .ok (.ishl, 1) := by decide +kernel
theorem dX3_fewestFasting_21 : decode cX3_fewestFasting 21 = .ok (.if_icmp .ge 43, 3) := by decide +kernel
theorem dX3_fewestFasting_24 : decode cX3_fewestFasting 24 = .ok (.iload 4, 2) := by decide +kernel
theorem dX3_fewestFasting_26 : decode cX3_fewestFasting 26 = .ok (.invokestatic 49, 3) := by decide +kernel
theorem dX3_fewestFasting_29 : decode cX3_fewestFasting 29 = .ok (.iload_n 3, 1) := by decide +kernel
theorem dX3_fewestFasting_30 : decode cX3_fewestFasting 30 = .ok (.if_icmp .ne 28, 3) := by decide +kernel
theorem dX3_fewestFasting_33 : decode cX3_fewestFasting 33 = .ok (.aload_n 0, 1) := by decide +kernel
theorem dX3_fewestFasting_34 : decode cX3_fewestFasting 34 = .ok (.getfield 12, 3) := by decide +kernel
theorem dX3_fewestFasting_37 : decode cX3_fewestFasting 37 = .ok (.aload_n 1, 1) := by decide +kernel
theorem dX3_fewestFasting_38 : decode cX3_fewestFasting 38 = .ok (.invokevirtual 18, 3) := by decide +kernel
theorem dX3_fewestFasting_41 : decode cX3_fewestFasting 41 = .ok (.aload_n 0, 1) := by decide +kernel
theorem dX3_fewestFasting_42 : decode cX3_fewestFasting 42 = .ok (.iload 4, 2) := by decide +kernel
theorem dX3_fewestFasting_44 : decode cX3_fewestFasting 44 = .ok (.invokevirtual 93, 3) := by decide +kernel
theorem dX3_fewestFasting_47 : decode cX3_fewestFasting 47 = .ok (.aload_n 0, 1) := by decide +kernel
theorem dX3_fewestFasting_48 : decode cX3_fewestFasting 48 = .ok (.iload_n 2, 1) := by decide +kernel
theorem dX3_fewestFasting_49 : decode cX3_fewestFasting 49 = .ok (.invokevirtual 79, 3) := by decide +kernel
theorem dX3_fewestFasting_52 : decode cX3_fewestFasting 52 = .ok (.ifCond .eq 6, 3) := by decide +kernel
theorem dX3_fewestFasting_55 : decode cX3_fewestFasting 55 = .ok (.iload 4, 2) := by decide +kernel
theorem dX3_fewestFasting_57 : decode cX3_fewestFasting 57 = .ok (.ireturn, 1) := by decide +kernel
theorem dX3_fewestFasting_58 : decode cX3_fewestFasting 58 = .ok (.iinc 4 1, 3) := by decide +kernel
theorem dX3_fewestFasting_61 : decode cX3_fewestFasting 61 = .ok (.goto (-48), 3) := by decide +kernel
theorem dX3_fewestFasting_64 : decode cX3_fewestFasting 64 = .ok (.iinc 3 1, 3) := by decide +kernel
theorem dX3_fewestFasting_67 : decode cX3_fewestFasting 67 = .ok (.goto (-65), 3) := by decide +kernel
theorem dX3_fewestFasting_70 : decode cX3_fewestFasting 70 = .ok (.iconst (-1), 1) := by decide +kernel
theorem dX3_fewestFasting_71 : decode cX3_fewestFasting 71 = .ok (.ireturn, 1) := by decide +kernel
theorem dX3_dreamsAsTold_0 : decode cX3_dreamsAsTold 0 = .ok (.aload_n 0, 1) := by decide +kernel
theorem dX3_dreamsAsTold_1 : decode cX3_dreamsAsTold 1 = .ok (.getfield 12, 3) := by decide +kernel
theorem dX3_dreamsAsTold_4 : decode cX3_dreamsAsTold 4 = .ok (.iload_n 1, 1) := by decide +kernel
theorem dX3_dreamsAsTold_5 : decode cX3_dreamsAsTold 5 = .ok (.invokevirtual 26, 3) := by decide +kernel
theorem dX3_dreamsAsTold_8 : decode cX3_dreamsAsTold 8 = .ok (.astore_n 3, 1) := by decide +kernel
theorem dX3_dreamsAsTold_9 : decode cX3_dreamsAsTold 9 = .ok (.iconst 0, 1) := by decide +kernel
theorem dX3_dreamsAsTold_10 : decode cX3_dreamsAsTold 10 = .ok (.istore 4, 2) := by decide +kernel
theorem dX3_dreamsAsTold_12 : decode cX3_dreamsAsTold 12 = .ok (.aload_n 3, 1) := by decide +kernel
theorem dX3_dreamsAsTold_13 : decode cX3_dreamsAsTold 13 = .ok (.ifnull 60, 3) := by decide +kernel
theorem dX3_dreamsAsTold_16 : decode cX3_dreamsAsTold 16 = .ok (.aload_n 2, 1) := by decide +kernel
theorem dX3_dreamsAsTold_17 : decode cX3_dreamsAsTold 17 = .ok (.ifnull 56, 3) := by decide +kernel
theorem dX3_dreamsAsTold_20 : decode cX3_dreamsAsTold 20 = .ok (.iload 4, 2) := by decide +kernel
theorem dX3_dreamsAsTold_22 : decode cX3_dreamsAsTold 22 = .ok (.aload_n 2, 1) := by decide +kernel
theorem dX3_dreamsAsTold_23 : decode cX3_dreamsAsTold 23 = .ok (.getfield 96, 3) := by decide +kernel
theorem dX3_dreamsAsTold_26 : decode cX3_dreamsAsTold 26 = .ok (.if_icmp .ge 47, 3) := by decide +kernel
theorem dX3_dreamsAsTold_29 : decode cX3_dreamsAsTold 29 = .ok (.iload 4, 2) := by decide +kernel
theorem dX3_dreamsAsTold_31 : decode cX3_dreamsAsTold 31 = .ok (.ifCond .le 10, 3) := by decide +kernel
theorem dX3_dreamsAsTold_34 : decode cX3_dreamsAsTold 34 = .ok (.aload_n 0, 1) := by decide +kernel
theorem dX3_dreamsAsTold_35 : decode cX3_dreamsAsTold 35 = .ok (.getfield 12, 3) := by decide +kernel
theorem dX3_dreamsAsTold_38 : decode cX3_dreamsAsTold 38 = .ok (.invokevirtual 40, 3) := by decide +kernel
theorem dX3_dreamsAsTold_41 : decode cX3_dreamsAsTold 41 = .ok (.aload_n 2, 1) := by decide +kernel
theorem dX3_dreamsAsTold_42 : decode cX3_dreamsAsTold 42 = .ok (.getfield 101, 3) := by decide +kernel
theorem dX3_dreamsAsTold_45 : decode cX3_dreamsAsTold 45 = .ok (.iload 4, 2) := by decide +kernel
theorem dX3_dreamsAsTold_47 : decode cX3_dreamsAsTold 47 = .ok (.iaload, 1) := by decide +kernel
theorem dX3_dreamsAsTold_48 : decode cX3_dreamsAsTold 48 = .ok (.istore 5, 2) := by decide +kernel
theorem dX3_dreamsAsTold_50 : decode cX3_dreamsAsTold 50 = .ok (.iload 5, 2) := by decide +kernel
theorem dX3_dreamsAsTold_52 : decode cX3_dreamsAsTold 52 = .ok (.iconst (-1), 1) := by decide +kernel
theorem dX3_dreamsAsTold_53 : decode cX3_dreamsAsTold 53 = .ok (.if_icmp .eq 14, 3) := by decide +kernel
theorem dX3_dreamsAsTold_56 : decode cX3_dreamsAsTold 56 = .ok (.iload 5, 2) := by decide +kernel
theorem dX3_dreamsAsTold_58 : decode cX3_dreamsAsTold 58 = .ok (.aload_n 3, 1) := by decide +kernel
theorem dX3_dreamsAsTold_59 : decode cX3_dreamsAsTold 59 = .ok (.getfield 55, 3) := by decide +kernel
theorem dX3_dreamsAsTold_62 : decode cX3_dreamsAsTold 62 = .ok (.if_icmp .eq 5, 3) := by decide +kernel
theorem dX3_dreamsAsTold_65 : decode cX3_dreamsAsTold 65 = .ok (.iconst 0, 1) := by decide +kernel
theorem dX3_dreamsAsTold_66 : decode cX3_dreamsAsTold 66 = .ok (.ireturn, 1) := by decide +kernel
theorem dX3_dreamsAsTold_67 : decode cX3_dreamsAsTold 67 = .ok (.iinc 4 1, 3) := by decide +kernel
theorem dX3_dreamsAsTold_70 : decode cX3_dreamsAsTold 70 = .ok (.goto (-58), 3) := by decide +kernel
theorem dX3_dreamsAsTold_73 : decode cX3_dreamsAsTold 73 = .ok (.iconst 1, 1) := by decide +kernel
theorem dX3_dreamsAsTold_74 : decode cX3_dreamsAsTold 74 = .ok (.ireturn, 1) := by decide +kernel
theorem dX3_fittingWords_0 : decode cX3_fittingWords 0 = .ok (.lconst 0, 1) := by decide +kernel
theorem dX3_fittingWords_1 : decode cX3_fittingWords 1 = .ok (.lstore 4, 2) := by decide +kernel
theorem dX3_fittingWords_3 : decode cX3_fittingWords 3 = .ok (.aload_n 1, 1) := by decide +kernel
theorem dX3_fittingWords_4 : decode cX3_fittingWords 4 = .ok (.invokevirtual 104, 3) := by decide +kernel
theorem dX3_fittingWords_7 : decode cX3_fittingWords 7 = .ok (.istore 6, 2) := by decide +kernel
theorem dX3_fittingWords_9 : decode cX3_fittingWords 9 = .ok (.aload_n 1, 1) := by decide +kernel
theorem dX3_fittingWords_10 : decode cX3_fittingWords 10 = .ok (.getfield 62, 3) := by decide +kernel
theorem dX3_fittingWords_13 : decode cX3_fittingWords 13 = .ok (.iload 6, 2) := by decide +kernel
theorem dX3_fittingWords_15 : decode cX3_fittingWords 15 = .ok (.iaload, 1) := by decide +kernel
theorem dX3_fittingWords_16 : decode cX3_fittingWords 16 = .ok (.invokestatic 66, 3) := by decide +kernel
theorem dX3_fittingWords_19 : decode cX3_fittingWords 19 = .ok (.istore 7, 2) := by decide +kernel
theorem dX3_fittingWords_21 : decode cX3_fittingWords 21 = .ok (.iconst 0, 1) := by decide +kernel
theorem dX3_fittingWords_22 : decode cX3_fittingWords 22 = .ok (.istore 8, 2) := by decide +kernel
theorem dX3_fittingWords_24 : decode cX3_fittingWords 24 = .ok (.iload 8, 2) := by decide +kernel
theorem dX3_fittingWords_26 : decode cX3_fittingWords 26 = .ok (.bipush 40, 2) := by decide +kernel
theorem dX3_fittingWords_28 : decode cX3_fittingWords 28 = .ok (.if_icmp .gt 52, 3) := by decide +kernel
theorem dX3_fittingWords_31 : decode cX3_fittingWords 31 = .ok (.aload_n 0, 1) := by decide +kernel
theorem dX3_fittingWords_32 : decode cX3_fittingWords 32 = .ok (.getfield 12, 3) := by decide +kernel
theorem dX3_fittingWords_35 : decode cX3_fittingWords 35 = .ok (.aload_n 1, 1) := by decide +kernel
theorem dX3_fittingWords_36 : decode cX3_fittingWords 36 = .ok (.invokevirtual 18, 3) := by decide +kernel
theorem dX3_fittingWords_39 : decode cX3_fittingWords 39 = .ok (.aload_n 0, 1) := by decide +kernel
theorem dX3_fittingWords_40 : decode cX3_fittingWords 40 = .ok (.getfield 12, 3) := by decide +kernel
theorem dX3_fittingWords_43 : decode cX3_fittingWords 43 = .ok (.getfield 62, 3) := by decide +kernel
theorem dX3_fittingWords_46 : decode cX3_fittingWords 46 = .ok (.iload 6, 2) := by decide +kernel
theorem dX3_fittingWords_48 : decode cX3_fittingWords 48 = .ok (.iload 7, 2) := by decide +kernel
theorem dX3_fittingWords_50 : decode cX3_fittingWords 50 = .ok (.iload 8, 2) := by decide +kernel
theorem dX3_fittingWords_52 : decode cX3_fittingWords 52 = .ok (.invokestatic 72, 3) := by decide +kernel
theorem dX3_fittingWords_55 : decode cX3_fittingWords 55 = .ok (.iastore, 1) := by decide +kernel
theorem dX3_fittingWords_56 : decode cX3_fittingWords 56 = .ok (.aload_n 0, 1) := by decide +kernel
theorem dX3_fittingWords_57 : decode cX3_fittingWords 57 = .ok (.iload_n 2, 1) := by decide +kernel
theorem dX3_fittingWords_58 : decode cX3_fittingWords 58 = .ok (.aload_n 3, 1) := by decide +kernel
theorem dX3_fittingWords_59 : decode cX3_fittingWords 59 = .ok (.invokevirtual 108, 3) := by decide +kernel
theorem dX3_fittingWords_62 : decode cX3_fittingWords 62 = .ok (.ifCond .eq 12, 3) := by decide +kernel
theorem dX3_fittingWords_65 : decode cX3_fittingWords 65 = .ok (.lload 4, 2) := by decide +kernel
theorem dX3_fittingWords_67 : decode cX3_fittingWords 67 = .ok (.lconst 1, 1) := by decide +kernel
theorem dX3_fittingWords_68 : decode cX3_fittingWords 68 = .ok (.iload 8, 2) := by decide +kernel
theorem dX3_fittingWords_70 : decode cX3_fittingWords 70 = .ok (.lshl, 1) := by decide +kernel
theorem dX3_fittingWords_71 : decode cX3_fittingWords 71 = .ok (.lor, 1) := by decide +kernel
theorem dX3_fittingWords_72 : decode cX3_fittingWords 72 = .ok (.lstore 4, 2) := by decide +kernel
theorem dX3_fittingWords_74 : decode cX3_fittingWords 74 = .ok (.iinc 8 1, 3) := by decide +kernel
theorem dX3_fittingWords_77 : decode cX3_fittingWords 77 = .ok (.goto (-53), 3) := by decide +kernel
theorem dX3_fittingWords_80 : decode cX3_fittingWords 80 = .ok (.lload 4, 2) := by decide +kernel
theorem dX3_fittingWords_82 : decode cX3_fittingWords 82 = .ok (.lreturn, 1) := by decide +kernel
theorem dX3_fittingKinds_0 : decode cX3_fittingKinds 0 = .ok (.iconst 0, 1) := by decide +kernel
theorem dX3_fittingKinds_1 : decode cX3_fittingKinds 1 = .ok (.istore 4, 2) := by decide +kernel
theorem dX3_fittingKinds_3 : decode cX3_fittingKinds 3 = .ok (.iconst 0, 1) := by decide +kernel
theorem dX3_fittingKinds_4 : decode cX3_fittingKinds 4 = .ok (.istore 5, 2) := by decide +kernel
theorem dX3_fittingKinds_6 : decode cX3_fittingKinds 6 = .ok (.iload 5, 2) := by decide +kernel
theorem dX3_fittingKinds_8 : decode cX3_fittingKinds 8 = .ok (.bipush 7, 2) := by decide +kernel
theorem dX3_fittingKinds_10 : decode cX3_fittingKinds 10 = .ok (.if_icmp .ge 57, 3) := by decide +kernel
theorem dX3_fittingKinds_13 : decode cX3_fittingKinds 13 = .ok (.aload_n 0, 1) := by decide +kernel
theorem dX3_fittingKinds_14 : decode cX3_fittingKinds 14 = .ok (.getfield 12, 3) := by decide +kernel
theorem dX3_fittingKinds_17 : decode cX3_fittingKinds 17 = .ok (.aload_n 1, 1) := by decide +kernel
theorem dX3_fittingKinds_18 : decode cX3_fittingKinds 18 = .ok (.invokevirtual 18, 3) := by decide +kernel
theorem dX3_fittingKinds_21 : decode cX3_fittingKinds 21 = .ok (.aload_n 0, 1) := by decide +kernel
theorem dX3_fittingKinds_22 : decode cX3_fittingKinds 22 = .ok (.getfield 12, 3) := by decide +kernel
theorem dX3_fittingKinds_25 : decode cX3_fittingKinds 25 = .ok (.iload_n 2, 1) := by decide +kernel
theorem dX3_fittingKinds_26 : decode cX3_fittingKinds 26 = .ok (.invokevirtual 26, 3) := by decide +kernel
theorem dX3_fittingKinds_29 : decode cX3_fittingKinds 29 = .ok (.astore 6, 2) := by decide +kernel
theorem dX3_fittingKinds_31 : decode cX3_fittingKinds 31 = .ok (.aload 6, 2) := by decide +kernel
theorem dX3_fittingKinds_33 : decode cX3_fittingKinds 33 = .ok (.ifnull 28, 3) := by decide +kernel
theorem dX3_fittingKinds_36 : decode cX3_fittingKinds 36 = .ok (.aload 6, 2) := by decide +kernel
theorem dX3_fittingKinds_38 : decode cX3_fittingKinds 38 = .ok (.iload 5, 2) := by decide +kernel
theorem dX3_fittingKinds_40 : decode cX3_fittingKinds 40 = .ok (.putfield 87, 3) := by decide +kernel
theorem dX3_fittingKinds_43 : decode cX3_fittingKinds 43 = .ok (.aload_n 0, 1) := by decide +kernel
theorem dX3_fittingKinds_44 : decode cX3_fittingKinds 44 = .ok (.iload_n 2, 1) := by decide +kernel
theorem dX3_fittingKinds_45 : decode cX3_fittingKinds 45 = .ok (.aload_n 3, 1) := by decide +kernel
theorem dX3_fittingKinds_46 : decode cX3_fittingKinds 46 = .ok (.invokevirtual 108, 3) := by decide +kernel
theorem dX3_fittingKinds_49 : decode cX3_fittingKinds 49 = .ok (.ifCond .eq 12, 3) := by decide +kernel
theorem dX3_fittingKinds_52 : decode cX3_fittingKinds 52 = .ok (.iload 4, 2) := by decide +kernel
theorem dX3_fittingKinds_54 : decode cX3_fittingKinds 54 = .ok (.iconst 1, 1) := by decide +kernel
theorem dX3_fittingKinds_55 : decode cX3_fittingKinds 55 = .ok (.iload 5, 2) := by decide +kernel
theorem dX3_fittingKinds_57 : decode cX3_fittingKinds 57 = .ok (.ishl, 1) := by decide +kernel
theorem dX3_fittingKinds_58 : decode cX3_fittingKinds 58 = .ok (.ior, 1) := by decide +kernel
theorem dX3_fittingKinds_59 : decode cX3_fittingKinds 59 = .ok (.istore 4, 2) := by decide +kernel
theorem dX3_fittingKinds_61 : decode cX3_fittingKinds 61 = .ok (.iinc 5 1, 3) := by decide +kernel
theorem dX3_fittingKinds_64 : decode cX3_fittingKinds 64 = .ok (.goto (-58), 3) := by decide +kernel
theorem dX3_fittingKinds_67 : decode cX3_fittingKinds 67 = .ok (.iload 4, 2) := by decide +kernel
theorem dX3_fittingKinds_69 : decode cX3_fittingKinds 69 = .ok (.ireturn, 1) := by decide +kernel
theorem dX4_init_0 : decode cX4_init 0 = .ok (.aload_n 0, 1) := by decide +kernel
theorem dX4_init_1 : decode cX4_init 1 = .ok (.invokespecial 3, 3) := by decide +kernel
theorem dX4_init_4 : decode cX4_init 4 = .ok (.aload_n 0, 1) := by decide +kernel
theorem dX4_init_5 : decode cX4_init 5 = .ok (.iconst 0, 1) := by decide +kernel
theorem dX4_init_6 : decode cX4_init 6 = .ok (.putfield 9, 3) := by decide +kernel
theorem dX4_init_9 : decode cX4_init 9 = .ok (.aload_n 0, 1) := by decide +kernel
theorem dX4_init_10 : decode cX4_init 10 = .ok (.iconst 0, 1) := by decide +kernel
theorem dX4_init_11 : decode cX4_init 11 = .ok (.putfield 15, 3) := by decide +kernel
theorem dX4_init_14 : decode cX4_init 14 = .ok (.aload_n 0, 1) := by decide +kernel
theorem dX4_init_15 : decode cX4_init 15 = .ok (.bipush 40, 2) := by decide +kernel
theorem dX4_init_17 : decode cX4_init 17 = .ok (.newarray .int, 2) := by decide +kernel
theorem dX4_init_19 : decode cX4_init 19 = .ok (.putfield 18, 3) := by decide +kernel
theorem dX4_init_22 : decode cX4_init 22 = .ok (.return_, 1) := by decide +kernel
theorem dX4_mayHaveBits_0 : decode cX4_mayHaveBits 0 = .ok (.iload_n 0, 1) := by decide +kernel
theorem dX4_mayHaveBits_1 : decode cX4_mayHaveBits 1 = .ok (.ifCond .eq 21, 3) := by decide +kernel
theorem dX4_mayHaveBits_4 : decode cX4_mayHaveBits 4 = .ok (.iload_n 0, 1) := by decide +kernel
theorem dX4_mayHaveBits_5 : decode cX4_mayHaveBits 5 = .ok (.bipush 8, 2) := by decide +kernel
theorem dX4_mayHaveBits_7 : decode cX4_mayHaveBits 7 = .ok (.if_icmp .eq 15, 3) := by decide +kernel
theorem dX4_mayHaveBits_10 : decode cX4_mayHaveBits 10 = .ok (.iload_n 0, 1) := by decide +kernel
theorem dX4_mayHaveBits_11 : decode cX4_mayHaveBits 11 = .ok (.bipush 16, 2) := by decide +kernel
theorem dX4_mayHaveBits_13 : decode cX4_mayHaveBits 13 = .ok (.if_icmp .eq 9, 3) := by decide +kernel
theorem dX4_mayHaveBits_16 : decode cX4_mayHaveBits 16 = .ok (.iload_n 0, 1) := by decide +kernel
theorem dX4_mayHaveBits_17 : decode cX4_mayHaveBits 17 = .ok (.bipush 32, 2) := by decide +kernel
theorem dX4_mayHaveBits_19 : decode cX4_mayHaveBits 19 = .ok (.if_icmp .ne 7, 3) := by decide +kernel
theorem dX4_mayHaveBits_22 : decode cX4_mayHaveBits 22 = .ok (.iconst 1, 1) := by decide +kernel
theorem dX4_mayHaveBits_23 : decode cX4_mayHaveBits 23 = .ok (.goto 4, 3) := by decide +kernel
theorem dX4_mayHaveBits_26 : decode cX4_mayHaveBits 26 = .ok (.iconst 0, 1) := by decide +kernel
theorem dX4_mayHaveBits_27 : decode cX4_mayHaveBits 27 = .ok (.ireturn, 1) := by decide +kernel
theorem dX4_isMissing_0 : decode cX4_isMissing 0 = .ok (.aload_n 0, 1) := by decide +kernel
theorem dX4_isMissing_1 : decode cX4_isMissing 1 = .ok (.getfield 9, 3) := by decide +kernel
theorem dX4_isMissing_4 : decode cX4_isMissing 4 = .ok (.ifCond .ne 7, 3) := by decide +kernel
theorem dX4_isMissing_7 : decode cX4_isMissing 7 = .ok (.iconst 1, 1) := by decide +kernel
theorem dX4_isMissing_8 : decode cX4_isMissing 8 = .ok (.goto 4, 3) := by decide +kernel
theorem dX4_isMissing_11 : decode cX4_isMissing 11 = .ok (.iconst 0, 1) := by decide +kernel
theorem dX4_isMissing_12 : decode cX4_isMissing 12 = .ok (.ireturn, 1) := by decide +kernel
theorem dX4_begin_0 : decode cX4_begin 0 = .ok (.aload_n 0, 1) := by decide +kernel
theorem dX4_begin_1 : decode cX4_begin 1 = .ok (.iload_n 1, 1) := by decide +kernel
theorem dX4_begin_2 : decode cX4_begin 2 = .ok (.putfield 9, 3) := by decide +kernel
theorem dX4_begin_5 : decode cX4_begin 5 = .ok (.aload_n 0, 1) := by decide +kernel
theorem dX4_begin_6 : decode cX4_begin 6 = .ok (.iload_n 1, 1) := by decide +kernel
theorem dX4_begin_7 : decode cX4_begin 7 = .ok (.ifCond .ne 7, 3) := by decide +kernel
theorem dX4_begin_10 : decode cX4_begin 10 = .ok (.iconst 0, 1) := by decide +kernel
theorem dX4_begin_11 : decode cX4_begin 11 = .ok (.goto 13, 3) := by decide +kernel
theorem dX4_begin_14 : decode cX4_begin 14 = .ok (.iload_n 2, 1) := by decide +kernel
theorem dX4_begin_15 : decode cX4_begin 15 = .ok (.iconst 0, 1) := by decide +kernel
theorem dX4_begin_16 : decode cX4_begin 16 = .ok (.invokestatic 22, 3) := by decide +kernel
theorem dX4_begin_19 : decode cX4_begin 19 = .ok (.bipush 40, 2) := by decide +kernel
theorem dX4_begin_21 : decode cX4_begin 21 = .ok (.invokestatic 28, 3) := by decide +kernel
theorem dX4_begin_24 : decode cX4_begin 24 = .ok (.putfield 15, 3) := by decide +kernel
theorem dX4_begin_27 : decode cX4_begin 27 = .ok (.iconst 0, 1) := by decide +kernel
theorem dX4_begin_28 : decode cX4_begin 28 = .ok (.istore_n 3, 1) := by decide +kernel
theorem dX4_begin_29 : decode cX4_begin 29 = .ok (.iload_n 3, 1) := by decide +kernel
theorem dX4_begin_30 : decode cX4_begin 30 = .ok (.bipush 40, 2) := by decide +kernel
theorem dX4_begin_32 : decode cX4_begin 32 = .ok (.if_icmp .ge 16, 3) := by decide +kernel
theorem dX4_begin_35 : decode cX4_begin 35 = .ok (.aload_n 0, 1) := by decide +kernel
theorem dX4_begin_36 : decode cX4_begin 36 = .ok (.getfield 18, 3) := by decide +kernel
theorem dX4_begin_39 : decode cX4_begin 39 = .ok (.iload_n 3, 1) := by decide +kernel
theorem dX4_begin_40 : decode cX4_begin 40 = .ok (.iconst 0, 1) := by decide +kernel
theorem dX4_begin_41 : decode cX4_begin 41 = .ok (.iastore, 1) := by decide +kernel
theorem dX4_begin_42 : decode cX4_begin 42 = .ok (.iinc 3 1, 3) := by decide +kernel
theorem dX4_begin_45 : decode cX4_begin 45 = .ok (.goto (-16), 3) := by decide +kernel
theorem dX4_begin_48 : decode cX4_begin 48 = .ok (.return_, 1) := by decide +kernel
theorem dX4_put_0 : decode cX4_put 0 = .ok (.iload_n 1, 1) := by decide +kernel
theorem dX4_put_1 : decode cX4_put 1 = .ok (.ifCond .lt 11, 3) := by decide +kernel
theorem dX4_put_4 : decode cX4_put 4 = .ok (.iload_n 1, 1) := by decide +kernel
theorem dX4_put_5 : decode cX4_put 5 = .ok (.aload_n 0, 1) := by decide +kernel
theorem dX4_put_6 : decode cX4_put 6 = .ok (.getfield 15, 3) := by decide +kernel
theorem dX4_put_9 : decode cX4_put 9 = .ok (.if_icmp .lt 5, 3) := by decide +kernel
theorem dX4_put_12 : decode cX4_put 12 = .ok (.iconst 0, 1) := by decide +kernel
theorem dX4_put_13 : decode cX4_put 13 = .ok (.ireturn, 1) := by decide +kernel
theorem dX4_put_14 : decode cX4_put 14 = .ok (.aload_n 0, 1) := by decide +kernel
theorem dX4_put_15 : decode cX4_put 15 = .ok (.getfield 18, 3) := by decide +kernel
theorem dX4_put_18 : decode cX4_put 18 = .ok (.iload_n 1, 1) := by decide +kernel
theorem dX4_put_19 : decode cX4_put 19 = .ok (.aload_n 0, 1) := by decide +kernel
theorem dX4_put_20 : decode cX4_put 20 = .ok (.iload_n 2, 1) := by decide +kernel
theorem dX4_put_21 : decode cX4_put 21 = .ok (.invokevirtual 31, 3) := by decide +kernel
theorem dX4_put_24 : decode cX4_put 24 = .ok (.iastore, 1) := by decide +kernel
theorem dX4_put_25 : decode cX4_put 25 = .ok (.iconst 1, 1) := by decide +kernel
theorem dX4_put_26 : decode cX4_put 26 = .ok (.ireturn, 1) := by decide +kernel
theorem dX4_cut_0 : decode cX4_cut 0 = .ok (.aload_n 0, 1) := by decide +kernel
theorem dX4_cut_1 : decode cX4_cut 1 = .ok (.getfield 9, 3) := by decide +kernel
theorem dX4_cut_4 : decode cX4_cut 4 = .ok (.lookupswitch 34 #[(8, 28), (16, 31)], 28) := by decide +kernel
theorem dX4_cut_32 : decode cX4_cut 32 = .ok (.iload_n 1, 1) := by decide +kernel
theorem dX4_cut_33 : decode cX4_cut 33 = .ok (.i2b, 1) := by decide +kernel
theorem dX4_cut_34 : decode cX4_cut 34 = .ok (.ireturn, 1) := by decide +kernel
theorem dX4_cut_35 : decode cX4_cut 35 = .ok (.iload_n 1, 1) := by decide +kernel
theorem dX4_cut_36 : decode cX4_cut 36 = .ok (.i2s, 1) := by decide +kernel
theorem dX4_cut_37 : decode cX4_cut 37 = .ok (.ireturn, 1) := by decide +kernel
theorem dX4_cut_38 : decode cX4_cut 38 = .ok (.iload_n 1, 1) := by decide +kernel
theorem dX4_cut_39 : decode cX4_cut 39 = .ok (.ireturn, 1) := by decide +kernel
theorem dX4_has_0 : decode cX4_has 0 = .ok (.iload_n 1, 1) := by decide +kernel
theorem dX4_has_1 : decode cX4_has 1 = .ok (.ifCond .lt 29, 3) := by decide +kernel
theorem dX4_has_4 : decode cX4_has 4 = .ok (.iload_n 2, 1) := by decide +kernel
theorem dX4_has_5 : decode cX4_has 5 = .ok (.ifCond .lt 25, 3) := by decide +kernel
theorem dX4_has_8 : decode cX4_has 8 = .ok (.iload_n 2, 1) := by decide +kernel
theorem dX4_has_9 : decode cX4_has 9 = .ok (.aload_n 0, 1) := by decide +kernel
theorem dX4_has_10 : decode cX4_has 10 = .ok (.getfield 15, 3) := by decide +kernel
theorem dX4_has_13 : decode cX4_has 13 = .ok (.if_icmp .gt 17, 3) := by decide +kernel
theorem dX4_has_16 : decode cX4_has 16 = .ok (.iload_n 1, 1) := by decide +kernel
theorem dX4_has_17 : decode cX4_has 17 = .ok (.aload_n 0, 1) := by decide +kernel
theorem dX4_has_18 : decode cX4_has 18 = .ok (.getfield 15, 3) := by decide +kernel
theorem dX4_has_21 : decode cX4_has 21 = .ok (.iload_n 2, 1) := by decide +kernel
theorem dX4_has_22 : decode cX4_has 22 = .ok (.isub, 1) := by decide +kernel
theorem dX4_has_23 : decode cX4_has 23 = .ok (.if_icmp .gt 7, 3) := by decide +kernel
theorem dX4_has_26 : decode cX4_has 26 = .ok (.iconst 1, 1) := by decide +kernel
theorem dX4_has_27 : decode cX4_has 27 = .ok (.goto 4, 3) := by decide +kernel
theorem dX4_has_30 : decode cX4_has 30 = .ok (.iconst 0, 1) := by decide +kernel
theorem dX4_has_31 : decode cX4_has 31 = .ok (.ireturn, 1) := by decide +kernel
theorem dX5_init_0 : decode cX5_init 0 = .ok (.aload_n 0, 1) := by decide +kernel
theorem dX5_init_1 : decode cX5_init 1 = .ok (.invokespecial 3, 3) := by decide +kernel
theorem dX5_init_4 : decode cX5_init 4 = .ok (.aload_n 0, 1) := by decide +kernel
theorem dX5_init_5 : decode cX5_init 5 = .ok (.bipush 120, 2) := by decide +kernel
theorem dX5_init_7 : decode cX5_init 7 = .ok (.newarray .byte, 2) := by decide +kernel
theorem dX5_init_9 : decode cX5_init 9 = .ok (.putfield 9, 3) := by decide +kernel
theorem dX5_init_12 : decode cX5_init 12 = .ok (.aload_n 0, 1) := by decide +kernel
theorem dX5_init_13 : decode cX5_init 13 = .ok (.iconst 0, 1) := by decide +kernel
theorem dX5_init_14 : decode cX5_init 14 = .ok (.putfield 15, 3) := by decide +kernel
theorem dX5_init_17 : decode cX5_init 17 = .ok (.return_, 1) := by decide +kernel
theorem dX5_append_0 : decode cX5_append 0 = .ok (.iload_n 2, 1) := by decide +kernel
theorem dX5_append_1 : decode cX5_append 1 = .ok (.ifCond .lt 14, 3) := by decide +kernel
theorem dX5_append_4 : decode cX5_append 4 = .ok (.iload_n 2, 1) := by decide +kernel
theorem dX5_append_5 : decode cX5_append 5 = .ok (.bipush 120, 2) := by decide +kernel
theorem dX5_append_7 : decode cX5_append 7 = .ok (.aload_n 0, 1) := by decide +kernel
theorem dX5_append_8 : decode cX5_append 8 = .ok (.getfield 15, 3) := by decide +kernel
theorem dX5_append_11 : decode cX5_append 11 = .ok (.isub, 1) := by decide +kernel
theorem dX5_append_12 : decode cX5_append 12 = .ok (.if_icmp .le 5, 3) := by decide +kernel
theorem dX5_append_15 : decode cX5_append 15 = .ok (.iconst 0, 1) := by decide +kernel
theorem dX5_append_16 : decode cX5_append 16 = .ok (.ireturn, 1) := by decide +kernel
theorem dX5_append_17 : decode cX5_append 17 = .ok (.iload_n 2, 1) := by decide +kernel
theorem dX5_append_18 : decode cX5_append 18 = .ok (.iconst 1, 1) := by decide +kernel
theorem dX5_append_19 : decode cX5_append 19 = .ok (.isub, 1) := by decide +kernel
theorem dX5_append_20 : decode cX5_append 20 = .ok (.istore_n 3, 1) := by decide +kernel
theorem dX5_append_21 : decode cX5_append 21 = .ok (.iload_n 3, 1) := by decide +kernel
theorem dX5_append_22 : decode cX5_append 22 = .ok (.ifCond .lt 35, 3) := by decide +kernel
theorem dX5_append_25 : decode cX5_append 25 = .ok (.aload_n 0, 1) := by decide +kernel
theorem dX5_append_26 : decode cX5_append 26 = .ok (.getfield 9, 3) := by decide +kernel
theorem dX5_append_29 : decode cX5_append 29 = .ok (.aload_n 0, 1) := by decide +kernel
theorem dX5_append_30 : decode cX5_append 30 = .ok (.getfield 15, 3) := by decide +kernel
theorem dX5_append_33 : decode cX5_append 33 = .ok (.iload_n 1, 1) := by decide +kernel
theorem dX5_append_34 : decode cX5_append 34 = .ok (.bipush 8, 2) := by decide +kernel
theorem dX5_append_36 : decode cX5_append 36 = .ok (.iload_n 3, 1) := by decide +kernel
theorem dX5_append_37 : decode cX5_append 37 = .ok (.imul, 1) := by decide +kernel
theorem dX5_append_38 : decode cX5_append 38 = .ok (.iushr, 1) := by decide +kernel
theorem dX5_append_39 : decode cX5_append 39 = .ok (.i2b, 1) := by decide +kernel
theorem dX5_append_40 : decode cX5_append 40 = .ok (.bastore, 1) := by decide +kernel
theorem dX5_append_41 : decode cX5_append 41 = .ok (.aload_n 0, 1) := by decide +kernel
theorem dX5_append_42 : decode cX5_append 42 = .ok (.dup, 1) := by decide +kernel
theorem dX5_append_43 : decode cX5_append 43 = .ok (.getfield 15, 3) := by decide +kernel
theorem dX5_append_46 : decode cX5_append 46 = .ok (.iconst 1, 1) := by decide +kernel
theorem dX5_append_47 : decode cX5_append 47 = .ok (.iadd, 1) := by decide +kernel
theorem dX5_append_48 : decode cX5_append 48 = .ok (.putfield 15, 3) := by decide +kernel
theorem dX5_append_51 : decode cX5_append 51 = .ok (.iinc 3 (-1), 3) := by decide +kernel
theorem dX5_append_54 : decode cX5_append 54 = .ok (.goto (-33), 3) := by decide +kernel
theorem dX5_append_57 : decode cX5_append 57 = .ok (.iconst 1, 1) := by decide +kernel
theorem dX5_append_58 : decode cX5_append 58 = .ok (.ireturn, 1) := by decide +kernel
theorem dX5_empty_0 : decode cX5_empty 0 = .ok (.aload_n 0, 1) := by decide +kernel
theorem dX5_empty_1 : decode cX5_empty 1 = .ok (.getfield 15, 3) := by decide +kernel
theorem dX5_empty_4 : decode cX5_empty 4 = .ok (.istore_n 1, 1) := by decide +kernel
theorem dX5_empty_5 : decode cX5_empty 5 = .ok (.aload_n 0, 1) := by decide +kernel
theorem dX5_empty_6 : decode cX5_empty 6 = .ok (.iconst 0, 1) := by decide +kernel
theorem dX5_empty_7 : decode cX5_empty 7 = .ok (.putfield 15, 3) := by decide +kernel
theorem dX5_empty_10 : decode cX5_empty 10 = .ok (.iload_n 1, 1) := by decide +kernel
theorem dX5_empty_11 : decode cX5_empty 11 = .ok (.ireturn, 1) := by decide +kernel
theorem dX5_byteAt_0 : decode cX5_byteAt 0 = .ok (.iload_n 1, 1) := by decide +kernel
theorem dX5_byteAt_1 : decode cX5_byteAt 1 = .ok (.ifCond .lt 30, 3) := by decide +kernel
theorem dX5_byteAt_4 : decode cX5_byteAt 4 = .ok (.iload_n 1, 1) := by decide +kernel
theorem dX5_byteAt_5 : decode cX5_byteAt 5 = .ok (.aload_n 0, 1) := by decide +kernel
theorem dX5_byteAt_6 : decode cX5_byteAt 6 = .ok (.getfield 15, 3) := by decide +kernel
theorem dX5_byteAt_9 : decode cX5_byteAt 9 = .ok (.if_icmp .ge 22, 3) := by decide +kernel
theorem dX5_byteAt_12 : decode cX5_byteAt 12 = .ok (.iload_n 1, 1) := by decide +kernel
theorem dX5_byteAt_13 : decode cX5_byteAt 13 = .ok (.bipush 120, 2) := by decide +kernel
theorem dX5_byteAt_15 : decode cX5_byteAt 15 = .ok (.if_icmp .ge 16, 3) := by decide +kernel
theorem dX5_byteAt_18 : decode cX5_byteAt 18 = .ok (.aload_n 0, 1) := by decide +kernel
theorem dX5_byteAt_19 : decode cX5_byteAt 19 = .ok (.getfield 9, 3) := by decide +kernel
theorem dX5_byteAt_22 : decode cX5_byteAt 22 = .ok (.iload_n 1, 1) := by decide +kernel
theorem dX5_byteAt_23 : decode cX5_byteAt 23 = .ok (.baload, 1) := by decide +kernel
theorem dX5_byteAt_24 : decode cX5_byteAt 24 = .ok (.sipush 255, 3) := by decide +kernel
theorem dX5_byteAt_27 : decode cX5_byteAt 27 = .ok (.iand, 1) := by decide +kernel
theorem dX5_byteAt_28 : decode cX5_byteAt 28 = .ok (.goto 4, 3) := by decide +kernel
theorem dX5_byteAt_31 : decode cX5_byteAt 31 = .ok (.iconst (-1), 1) := by decide +kernel
theorem dX5_byteAt_32 : decode cX5_byteAt 32 = .ok (.ireturn, 1) := by decide +kernel
theorem dX6_init_0 : decode cX6_init 0 = .ok (.aload_n 0, 1) := by decide +kernel
theorem dX6_init_1 : decode cX6_init 1 = .ok (.invokespecial 3, 3) := by decide +kernel
theorem dX6_init_4 : decode cX6_init 4 = .ok (.aload_n 0, 1) := by decide +kernel
theorem dX6_init_5 : decode cX6_init 5 = .ok (.new 9, 3) := by decide +kernel
theorem dX6_init_8 : decode cX6_init 8 = .ok (.dup, 1) := by decide +kernel
theorem dX6_init_9 : decode cX6_init 9 = .ok (.invokespecial 11, 3) := by decide +kernel
theorem dX6_init_12 : decode cX6_init 12 = .ok (.putfield 12, 3) := by decide +kernel
theorem dX6_init_15 : decode cX6_init 15 = .ok (.aload_n 0, 1) := by decide +kernel
theorem dX6_init_16 : decode cX6_init 16 = .ok (.new 9, 3) := by decide +kernel
theorem dX6_init_19 : decode cX6_init 19 = .ok (.dup, 1) := by decide +kernel
theorem dX6_init_20 : decode cX6_init 20 = .ok (.invokespecial 11, 3) := by decide +kernel
theorem dX6_init_23 : decode cX6_init 23 = .ok (.putfield 16, 3) := by decide +kernel
theorem dX6_init_26 : decode cX6_init 26 = .ok (.aload_n 0, 1) := by decide +kernel
theorem dX6_init_27 : decode cX6_init 27 = .ok (.iconst 0, 1) := by decide +kernel
theorem dX6_init_28 : decode cX6_init 28 = .ok (.putfield 19, 3) := by decide +kernel
theorem dX6_init_31 : decode cX6_init 31 = .ok (.aload_n 0, 1) := by decide +kernel
theorem dX6_init_32 : decode cX6_init 32 = .ok (.new 23, 3) := by decide +kernel
theorem dX6_init_35 : decode cX6_init 35 = .ok (.dup, 1) := by decide +kernel
theorem dX6_init_36 : decode cX6_init 36 = .ok (.invokespecial 25, 3) := by decide +kernel
theorem dX6_init_39 : decode cX6_init 39 = .ok (.putfield 26, 3) := by decide +kernel
theorem dX6_init_42 : decode cX6_init 42 = .ok (.aload_n 0, 1) := by decide +kernel
theorem dX6_init_43 : decode cX6_init 43 = .ok (.new 30, 3) := by decide +kernel
theorem dX6_init_46 : decode cX6_init 46 = .ok (.dup, 1) := by decide +kernel
theorem dX6_init_47 : decode cX6_init 47 = .ok (.invokespecial 32, 3) := by decide +kernel
theorem dX6_init_50 : decode cX6_init 50 = .ok (.putfield 33, 3) := by decide +kernel
theorem dX6_init_53 : decode cX6_init 53 = .ok (.aload_n 0, 1) := by decide +kernel
theorem dX6_init_54 : decode cX6_init 54 = .ok (.iconst 4, 1) := by decide +kernel
theorem dX6_init_55 : decode cX6_init 55 = .ok (.anewarray 37, 3) := by decide +kernel
theorem dX6_init_58 : decode cX6_init 58 = .ok (.putfield 39, 3) := by decide +kernel
theorem dX6_init_61 : decode cX6_init 61 = .ok (.aload_n 0, 1) := by decide +kernel
theorem dX6_init_62 : decode cX6_init 62 = .ok (.bipush 7, 2) := by decide +kernel
theorem dX6_init_64 : decode cX6_init 64 = .ok (.newarray .int, 2) := by decide +kernel
theorem dX6_init_66 : decode cX6_init 66 = .ok (.putfield 43, 3) := by decide +kernel
theorem dX6_init_69 : decode cX6_init 69 = .ok (.iconst 0, 1) := by decide +kernel
theorem dX6_init_70 : decode cX6_init 70 = .ok (.istore_n 1, 1) := by decide +kernel
theorem dX6_init_71 : decode cX6_init 71 = .ok (.iload_n 1, 1) := by decide +kernel
theorem dX6_init_72 : decode cX6_init 72 = .ok (.iconst 4, 1) := by decide +kernel
theorem dX6_init_73 : decode cX6_init 73 = .ok (.if_icmp .ge 22, 3) := by decide +kernel
theorem dX6_init_76 : decode cX6_init 76 = .ok (.aload_n 0, 1) := by decide +kernel
theorem dX6_init_77 : decode cX6_init 77 = .ok (.getfield 39, 3) := by decide +kernel
theorem dX6_init_80 : decode cX6_init 80 = .ok (.iload_n 1, 1) := by decide +kernel
theorem dX6_init_81 : decode cX6_init 81 = .ok (.new 37, 3) := by decide +kernel
theorem dX6_init_84 : decode cX6_init 84 = .ok (.dup, 1) := by decide +kernel
theorem dX6_init_85 : decode cX6_init 85 = .ok (.invokespecial 47, 3) := by decide +kernel
theorem dX6_init_88 : decode cX6_init 88 = .ok (.aastore, 1) := by decide +kernel
theorem dX6_init_89 : decode cX6_init 89 = .ok (.iinc 1 1, 3) := by decide +kernel
theorem dX6_init_92 : decode cX6_init 92 = .ok (.goto (-21), 3) := by decide +kernel
theorem dX6_init_95 : decode cX6_init 95 = .ok (.return_, 1) := by decide +kernel
theorem dX6_set_0 : decode cX6_set 0 = .ok (.iload_n 1, 1) := by decide +kernel
theorem dX6_set_1 : decode cX6_set 1 = .ok (.ifCond .ne 30, 3) := by decide +kernel
theorem dX6_set_4 : decode cX6_set 4 = .ok (.iload_n 2, 1) := by decide +kernel
theorem dX6_set_5 : decode cX6_set 5 = .ok (.bipush 9, 2) := by decide +kernel
theorem dX6_set_7 : decode cX6_set 7 = .ok (.invokestatic 48, 3) := by decide +kernel
theorem dX6_set_10 : decode cX6_set 10 = .ok (.ifCond .eq 21, 3) := by decide +kernel
theorem dX6_set_13 : decode cX6_set 13 = .ok (.aload_n 0, 1) := by decide +kernel
theorem dX6_set_14 : decode cX6_set 14 = .ok (.getfield 12, 3) := by decide +kernel
theorem dX6_set_17 : decode cX6_set 17 = .ok (.getfield 52, 3) := by decide +kernel
theorem dX6_set_20 : decode cX6_set 20 = .ok (.istore_n 3, 1) := by decide +kernel
theorem dX6_set_21 : decode cX6_set 21 = .ok (.aload_n 0, 1) := by decide +kernel
theorem dX6_set_22 : decode cX6_set 22 = .ok (.getfield 12, 3) := by decide +kernel
theorem dX6_set_25 : decode cX6_set 25 = .ok (.iload_n 2, 1) := by decide +kernel
theorem dX6_set_26 : decode cX6_set 26 = .ok (.putfield 52, 3) := by decide +kernel
theorem dX6_set_29 : decode cX6_set 29 = .ok (.iload_n 3, 1) := by decide +kernel
theorem dX6_set_30 : decode cX6_set 30 = .ok (.ireturn, 1) := by decide +kernel
theorem dX6_set_31 : decode cX6_set 31 = .ok (.iload_n 1, 1) := by decide +kernel
theorem dX6_set_32 : decode cX6_set 32 = .ok (.iconst 1, 1) := by decide +kernel
theorem dX6_set_33 : decode cX6_set 33 = .ok (.if_icmp .ne 31, 3) := by decide +kernel
theorem dX6_set_36 : decode cX6_set 36 = .ok (.iload_n 2, 1) := by decide +kernel
theorem dX6_set_37 : decode cX6_set 37 = .ok (.sipush 255, 3) := by decide +kernel
theorem dX6_set_40 : decode cX6_set 40 = .ok (.invokestatic 48, 3) := by decide +kernel
theorem dX6_set_43 : decode cX6_set 43 = .ok (.ifCond .eq 21, 3) := by decide +kernel
theorem dX6_set_46 : decode cX6_set 46 = .ok (.aload_n 0, 1) := by decide +kernel
theorem dX6_set_47 : decode cX6_set 47 = .ok (.getfield 12, 3) := by decide +kernel
theorem dX6_set_50 : decode cX6_set 50 = .ok (.getfield 56, 3) := by decide +kernel
theorem dX6_set_53 : decode cX6_set 53 = .ok (.istore_n 3, 1) := by decide +kernel
theorem dX6_set_54 : decode cX6_set 54 = .ok (.aload_n 0, 1) := by decide +kernel
theorem dX6_set_55 : decode cX6_set 55 = .ok (.getfield 12, 3) := by decide +kernel
theorem dX6_set_58 : decode cX6_set 58 = .ok (.iload_n 2, 1) := by decide +kernel
theorem dX6_set_59 : decode cX6_set 59 = .ok (.putfield 56, 3) := by decide +kernel
theorem dX6_set_62 : decode cX6_set 62 = .ok (.iload_n 3, 1) := by decide +kernel
theorem dX6_set_63 : decode cX6_set 63 = .ok (.ireturn, 1) := by decide +kernel
theorem dX6_set_64 : decode cX6_set 64 = .ok (.aload_n 0, 1) := by decide +kernel
theorem dX6_set_65 : decode cX6_set 65 = .ok (.ldc 59, 2) := by decide +kernel
theorem dX6_set_67 : decode cX6_set 67 = .ok (.invokevirtual 60, 3) := by decide +kernel
theorem dX6_set_70 : decode cX6_set 70 = .ok (.ireturn, 1) := by decide +kernel
theorem dX6_list_0 : decode cX6_list 0 = .ok (.iload_n 1, 1) := by decide +kernel
theorem dX6_list_1 : decode cX6_list 1 = .ok (.iconst 5, 1) := by decide +kernel
theorem dX6_list_2 : decode cX6_list 2 = .ok (.invokestatic 48, 3) := by decide +kernel
theorem dX6_list_5 : decode cX6_list 5 = .ok (.ifCond .eq 10, 3) := by decide +kernel
theorem dX6_list_8 : decode cX6_list 8 = .ok (.iload_n 2, 1) := by decide +kernel
theorem dX6_list_9 : decode cX6_list 9 = .ok (.invokestatic 64, 3) := by decide +kernel
theorem dX6_list_12 : decode cX6_list 12 = .ok (.ifCond .ne 10, 3) := by decide +kernel
theorem dX6_list_15 : decode cX6_list 15 = .ok (.aload_n 0, 1) := by decide +kernel
theorem dX6_list_16 : decode cX6_list 16 = .ok (.ldc 59, 2) := by decide +kernel
theorem dX6_list_18 : decode cX6_list 18 = .ok (.invokevirtual 60, 3) := by decide +kernel
theorem dX6_list_21 : decode cX6_list 21 = .ok (.ireturn, 1) := by decide +kernel
theorem dX6_list_22 : decode cX6_list 22 = .ok (.aload_n 0, 1) := by decide +kernel
theorem dX6_list_23 : decode cX6_list 23 = .ok (.getfield 12, 3) := by decide +kernel
theorem dX6_list_26 : decode cX6_list 26 = .ok (.getfield 68, 3) := by decide +kernel
theorem dX6_list_29 : decode cX6_list 29 = .ok (.iload_n 1, 1) := by decide +kernel
theorem dX6_list_30 : decode cX6_list 30 = .ok (.iaload, 1) := by decide +kernel
theorem dX6_list_31 : decode cX6_list 31 = .ok (.istore_n 3, 1) := by decide +kernel
theorem dX6_list_32 : decode cX6_list 32 = .ok (.aload_n 0, 1) := by decide +kernel
theorem dX6_list_33 : decode cX6_list 33 = .ok (.getfield 12, 3) := by decide +kernel
theorem dX6_list_36 : decode cX6_list 36 = .ok (.getfield 68, 3) := by decide +kernel
theorem dX6_list_39 : decode cX6_list 39 = .ok (.iload_n 1, 1) := by decide +kernel
theorem dX6_list_40 : decode cX6_list 40 = .ok (.iload_n 2, 1) := by decide +kernel
theorem dX6_list_41 : decode cX6_list 41 = .ok (.iastore, 1) := by decide +kernel
theorem dX6_list_42 : decode cX6_list 42 = .ok (.iload_n 3, 1) := by decide +kernel
theorem dX6_list_43 : decode cX6_list 43 = .ok (.ireturn, 1) := by decide +kernel
theorem dX6_listed_0 : decode cX6_listed 0 = .ok (.iload_n 1, 1) := by decide +kernel
theorem dX6_listed_1 : decode cX6_listed 1 = .ok (.iconst 5, 1) := by decide +kernel
theorem dX6_listed_2 : decode cX6_listed 2 = .ok (.invokestatic 48, 3) := by decide +kernel
theorem dX6_listed_5 : decode cX6_listed 5 = .ok (.ifCond .eq 15, 3) := by decide +kernel
theorem dX6_listed_8 : decode cX6_listed 8 = .ok (.aload_n 0, 1) := by decide +kernel
theorem dX6_listed_9 : decode cX6_listed 9 = .ok (.getfield 12, 3) := by decide +kernel
theorem dX6_listed_12 : decode cX6_listed 12 = .ok (.getfield 68, 3) := by decide +kernel
theorem dX6_listed_15 : decode cX6_listed 15 = .ok (.iload_n 1, 1) := by decide +kernel
theorem dX6_listed_16 : decode cX6_listed 16 = .ok (.iaload, 1) := by decide +kernel
theorem dX6_listed_17 : decode cX6_listed 17 = .ok (.goto 9, 3) := by decide +kernel
theorem dX6_listed_20 : decode cX6_listed 20 = .ok (.aload_n 0, 1) := by decide +kernel
theorem dX6_listed_21 : decode cX6_listed 21 = .ok (.ldc 59, 2) := by decide +kernel
theorem dX6_listed_23 : decode cX6_listed 23 = .ok (.invokevirtual 60, 3) := by decide +kernel
theorem dX6_listed_26 : decode cX6_listed 26 = .ok (.ireturn, 1) := by decide +kernel
theorem dX6_priest_0 : decode cX6_priest 0 = .ok (.iload_n 1, 1) := by decide +kernel
theorem dX6_priest_1 : decode cX6_priest 1 = .ok (.invokestatic 71, 3) := by decide +kernel
theorem dX6_priest_4 : decode cX6_priest 4 = .ok (.ifCond .eq 13, 3) := by decide +kernel
theorem dX6_priest_7 : decode cX6_priest 7 = .ok (.iload_n 2, 1) := by decide +kernel
theorem dX6_priest_8 : decode cX6_priest 8 = .ok (.sipush 255, 3) := by decide +kernel
theorem dX6_priest_11 : decode cX6_priest 11 = .ok (.invokestatic 48, 3) := by decide +kernel
theorem dX6_priest_14 : decode cX6_priest 14 = .ok (.ifCond .ne 10, 3) := by decide +kernel
theorem dX6_priest_17 : decode cX6_priest 17 = .ok (.aload_n 0, 1) := by decide +kernel
theorem dX6_priest_18 : decode cX6_priest 18 = .ok (.ldc 59, 2) := by decide +kernel
theorem dX6_priest_20 : decode cX6_priest 20 = .ok (.invokevirtual 60, 3) := by decide +kernel
theorem dX6_priest_23 : decode cX6_priest 23 = .ok (.ireturn, 1) := by decide +kernel
theorem dX6_priest_24 : decode cX6_priest 24 = .ok (.aload_n 0, 1) := by decide +kernel
theorem dX6_priest_25 : decode cX6_priest 25 = .ok (.getfield 12, 3) := by decide +kernel
theorem dX6_priest_28 : decode cX6_priest 28 = .ok (.iload_n 1, 1) := by decide +kernel
theorem dX6_priest_29 : decode cX6_priest 29 = .ok (.iload_n 2, 1) := by decide +kernel
theorem dX6_priest_30 : decode cX6_priest 30 = .ok (.invokevirtual 76, 3) := by decide +kernel
theorem dX6_priest_33 : decode cX6_priest 33 = .ok (.istore_n 3, 1) := by decide +kernel
theorem dX6_priest_34 : decode cX6_priest 34 = .ok (.iload_n 3, 1) := by decide +kernel
theorem dX6_priest_35 : decode cX6_priest 35 = .ok (.ifCond .ge 12, 3) := by decide +kernel
theorem dX6_priest_38 : decode cX6_priest 38 = .ok (.aload_n 0, 1) := by decide +kernel
theorem dX6_priest_39 : decode cX6_priest 39 = .ok (.ldc 80, 2) := by decide +kernel
theorem dX6_priest_41 : decode cX6_priest 41 = .ok (.invokevirtual 60, 3) := by decide +kernel
theorem dX6_priest_44 : decode cX6_priest 44 = .ok (.goto 4, 3) := by decide +kernel
theorem dX6_priest_47 : decode cX6_priest 47 = .ok (.iload_n 3, 1) := by decide +kernel
theorem dX6_priest_48 : decode cX6_priest 48 = .ok (.ireturn, 1) := by decide +kernel
theorem dX6_of_0 : decode cX6_of 0 = .ok (.aload_n 0, 1) := by decide +kernel
theorem dX6_of_1 : decode cX6_of 1 = .ok (.getfield 12, 3) := by decide +kernel
theorem dX6_of_4 : decode cX6_of 4 = .ok (.iload_n 1, 1) := by decide +kernel
theorem dX6_of_5 : decode cX6_of 5 = .ok (.invokevirtual 81, 3) := by decide +kernel
theorem dX6_of_8 : decode cX6_of 8 = .ok (.astore_n 3, 1) := by decide +kernel
theorem dX6_of_9 : decode cX6_of 9 = .ok (.aload_n 3, 1) := by decide +kernel
theorem dX6_of_10 : decode cX6_of 10 = .ok (.ifnull 24, 3) := by decide +kernel
theorem dX6_of_13 : decode cX6_of 13 = .ok (.iload_n 2, 1) := by decide +kernel
theorem dX6_of_14 : decode cX6_of 14 = .ok (.bipush 9, 2) := by decide +kernel
theorem dX6_of_16 : decode cX6_of 16 = .ok (.invokestatic 48, 3) := by decide +kernel
theorem dX6_of_19 : decode cX6_of 19 = .ok (.ifCond .eq 15, 3) := by decide +kernel
theorem dX6_of_22 : decode cX6_of 22 = .ok (.aload_n 0, 1) := by decide +kernel
theorem dX6_of_23 : decode cX6_of 23 = .ok (.getfield 12, 3) := by decide +kernel
theorem dX6_of_26 : decode cX6_of 26 = .ok (.aload_n 3, 1) := by decide +kernel
theorem dX6_of_27 : decode cX6_of 27 = .ok (.iload_n 2, 1) := by decide +kernel
theorem dX6_of_28 : decode cX6_of 28 = .ok (.invokevirtual 85, 3) := by decide +kernel
theorem dX6_of_31 : decode cX6_of 31 = .ok (.goto 9, 3) := by decide +kernel
theorem dX6_of_34 : decode cX6_of 34 = .ok (.aload_n 0, 1) := by decide +kernel
theorem dX6_of_35 : decode cX6_of 35 = .ok (.ldc 59, 2) := by decide +kernel
theorem dX6_of_37 : decode cX6_of 37 = .ok (.invokevirtual 60, 3) := by decide +kernel
theorem dX6_of_40 : decode cX6_of 40 = .ok (.ireturn, 1) := by decide +kernel
theorem dX6_change_0 : decode cX6_change 0 = .ok (.aload_n 0, 1) := by decide +kernel
theorem dX6_change_1 : decode cX6_change 1 = .ok (.getfield 12, 3) := by decide +kernel
theorem dX6_change_4 : decode cX6_change 4 = .ok (.iload_n 1, 1) := by decide +kernel
theorem dX6_change_5 : decode cX6_change 5 = .ok (.invokevirtual 81, 3) := by decide +kernel
theorem dX6_change_8 : decode cX6_change 8 = .ok (.astore 4, 2) := by decide +kernel
theorem dX6_change_10 : decode cX6_change 10 = .ok (.aload 4, 2) := by decide +kernel
theorem dX6_change_12 : decode cX6_change 12 = .ok (.ifnull 11, 3) := by decide +kernel
theorem dX6_change_15 : decode cX6_change 15 = .ok (.iload_n 2, 1) := by decide +kernel
theorem dX6_change_16 : decode cX6_change 16 = .ok (.iload_n 3, 1) := by decide +kernel
theorem dX6_change_17 : decode cX6_change 17 = .ok (.invokestatic 89, 3) := by decide +kernel
theorem dX6_change_20 : decode cX6_change 20 = .ok (.ifCond .ne 10, 3) := by decide +kernel
theorem dX6_change_23 : decode cX6_change 23 = .ok (.aload_n 0, 1) := by decide +kernel
theorem dX6_change_24 : decode cX6_change 24 = .ok (.ldc 59, 2) := by decide +kernel
theorem dX6_change_26 : decode cX6_change 26 = .ok (.invokevirtual 60, 3) := by decide +kernel
theorem dX6_change_29 : decode cX6_change 29 = .ok (.ireturn, 1) := by decide +kernel
theorem dX6_change_30 : decode cX6_change 30 = .ok (.aload_n 0, 1) := by decide +kernel
theorem dX6_change_31 : decode cX6_change 31 = .ok (.getfield 12, 3) := by decide +kernel
theorem dX6_change_34 : decode cX6_change 34 = .ok (.aload 4, 2) := by decide +kernel
theorem dX6_change_36 : decode cX6_change 36 = .ok (.iload_n 2, 1) := by decide +kernel
theorem dX6_change_37 : decode cX6_change 37 = .ok (.invokevirtual 85, 3) := by decide +kernel
theorem dX6_change_40 : decode cX6_change 40 = .ok (.istore 5, 2) := by decide +kernel
theorem dX6_change_42 : decode cX6_change 42 = .ok (.aload 4, 2) := by decide +kernel
theorem dX6_change_44 : decode cX6_change 44 = .ok (.iload_n 2, 1) := by decide +kernel
theorem dX6_change_45 : decode cX6_change 45 = .ok (.iload_n 3, 1) := by decide +kernel
theorem dX6_change_46 : decode cX6_change 46 = .ok (.invokevirtual 92, 3) := by decide +kernel
theorem dX6_change_49 : decode cX6_change 49 = .ok (.iload 5, 2) := by decide +kernel
theorem dX6_change_51 : decode cX6_change 51 = .ok (.ireturn, 1) := by decide +kernel
theorem dX6_swells_0 : decode cX6_swells 0 = .ok (.aload_n 0, 1) := by decide +kernel
theorem dX6_swells_1 : decode cX6_swells 1 = .ok (.getfield 12, 3) := by decide +kernel
theorem dX6_swells_4 : decode cX6_swells 4 = .ok (.iload_n 1, 1) := by decide +kernel
theorem dX6_swells_5 : decode cX6_swells 5 = .ok (.invokevirtual 81, 3) := by decide +kernel
theorem dX6_swells_8 : decode cX6_swells 8 = .ok (.astore_n 3, 1) := by decide +kernel
theorem dX6_swells_9 : decode cX6_swells 9 = .ok (.aload_n 3, 1) := by decide +kernel
theorem dX6_swells_10 : decode cX6_swells 10 = .ok (.ifnull 10, 3) := by decide +kernel
theorem dX6_swells_13 : decode cX6_swells 13 = .ok (.iload_n 2, 1) := by decide +kernel
theorem dX6_swells_14 : decode cX6_swells 14 = .ok (.invokestatic 64, 3) := by decide +kernel
theorem dX6_swells_17 : decode cX6_swells 17 = .ok (.ifCond .ne 10, 3) := by decide +kernel
theorem dX6_swells_20 : decode cX6_swells 20 = .ok (.aload_n 0, 1) := by decide +kernel
theorem dX6_swells_21 : decode cX6_swells 21 = .ok (.ldc 59, 2) := by decide +kernel
theorem dX6_swells_23 : decode cX6_swells 23 = .ok (.invokevirtual 60, 3) := by decide +kernel
theorem dX6_swells_26 : decode cX6_swells 26 = .ok (.ireturn, 1) := by decide +kernel
theorem dX6_swells_27 : decode cX6_swells 27 = .ok (.aload_n 3, 1) := by decide +kernel
theorem dX6_swells_28 : decode cX6_swells 28 = .ok (.iload_n 2, 1) := by decide +kernel
theorem dX6_swells_29 : decode cX6_swells 29 = .ok (.invokestatic 96, 3) := by decide +kernel
theorem dX6_swells_32 : decode cX6_swells 32 = .ok (.iload_n 2, 1) := by decide +kernel
theorem dX6_swells_33 : decode cX6_swells 33 = .ok (.invokestatic 99, 3) := by decide +kernel
theorem dX6_swells_36 : decode cX6_swells 36 = .ok (.aload_n 0, 1) := by decide +kernel
theorem dX6_swells_37 : decode cX6_swells 37 = .ok (.getfield 12, 3) := by decide +kernel
theorem dX6_swells_40 : decode cX6_swells 40 = .ok (.getfield 52, 3) := by decide +kernel
theorem dX6_swells_43 : decode cX6_swells 43 = .ok (.invokevirtual 102, 3) := by decide +kernel
theorem dX6_swells_46 : decode cX6_swells 46 = .ok (.ireturn, 1) := by decide +kernel
theorem dX6_goes_0 : decode cX6_goes 0 = .ok (.iload_n 1, 1) := by decide +kernel
theorem dX6_goes_1 : decode cX6_goes 1 = .ok (.bipush 7, 2) := by decide +kernel
theorem dX6_goes_3 : decode cX6_goes 3 = .ok (.invokestatic 48, 3) := by decide +kernel
theorem dX6_goes_6 : decode cX6_goes 6 = .ok (.ifCond .eq 25, 3) := by decide +kernel
theorem dX6_goes_9 : decode cX6_goes 9 = .ok (.aload_n 0, 1) := by decide +kernel
theorem dX6_goes_10 : decode cX6_goes 10 = .ok (.aload_n 0, 1) := by decide +kernel
theorem dX6_goes_11 : decode cX6_goes 11 = .ok (.getfield 12, 3) := by decide +kernel
theorem dX6_goes_14 : decode cX6_goes 14 = .ok (.aload_n 0, 1) := by decide +kernel
theorem dX6_goes_15 : decode cX6_goes 15 = .ok (.getfield 12, 3) := by decide +kernel
theorem dX6_goes_18 : decode cX6_goes 18 = .ok (.iload_n 1, 1) := by decide +kernel
theorem dX6_goes_19 : decode cX6_goes 19 = .ok (.invokevirtual 106, 3) := by decide +kernel
theorem dX6_goes_22 : decode cX6_goes 22 = .ok (.invokevirtual 109, 3) := by decide +kernel
theorem dX6_goes_25 : decode cX6_goes 25 = .ok (.invokevirtual 112, 3) := by decide +kernel
theorem dX6_goes_28 : decode cX6_goes 28 = .ok (.goto 9, 3) := by decide +kernel
theorem dX6_goes_31 : decode cX6_goes 31 = .ok (.aload_n 0, 1) := by decide +kernel
theorem dX6_goes_32 : decode cX6_goes 32 = .ok (.ldc 59, 2) := by decide +kernel
theorem dX6_goes_34 : decode cX6_goes 34 = .ok (.invokevirtual 60, 3) := by decide +kernel
theorem dX6_goes_37 : decode cX6_goes 37 = .ok (.ireturn, 1) := by decide +kernel
theorem dX6_dies_0 : decode cX6_dies 0 = .ok (.aload_n 0, 1) := by decide +kernel
theorem dX6_dies_1 : decode cX6_dies 1 = .ok (.getfield 12, 3) := by decide +kernel
theorem dX6_dies_4 : decode cX6_dies 4 = .ok (.iload_n 1, 1) := by decide +kernel
theorem dX6_dies_5 : decode cX6_dies 5 = .ok (.invokevirtual 81, 3) := by decide +kernel
theorem dX6_dies_8 : decode cX6_dies 8 = .ok (.astore_n 2, 1) := by decide +kernel
theorem dX6_dies_9 : decode cX6_dies 9 = .ok (.aload_n 2, 1) := by decide +kernel
theorem dX6_dies_10 : decode cX6_dies 10 = .ok (.ifnull 19, 3) := by decide +kernel
theorem dX6_dies_13 : decode cX6_dies 13 = .ok (.aload_n 0, 1) := by decide +kernel
theorem dX6_dies_14 : decode cX6_dies 14 = .ok (.aload_n 0, 1) := by decide +kernel
theorem dX6_dies_15 : decode cX6_dies 15 = .ok (.getfield 12, 3) := by decide +kernel
theorem dX6_dies_18 : decode cX6_dies 18 = .ok (.iload_n 1, 1) := by decide +kernel
theorem dX6_dies_19 : decode cX6_dies 19 = .ok (.aload_n 2, 1) := by decide +kernel
theorem dX6_dies_20 : decode cX6_dies 20 = .ok (.invokevirtual 115, 3) := by decide +kernel
theorem dX6_dies_23 : decode cX6_dies 23 = .ok (.invokevirtual 112, 3) := by decide +kernel
theorem dX6_dies_26 : decode cX6_dies 26 = .ok (.goto 9, 3) := by decide +kernel
theorem dX6_dies_29 : decode cX6_dies 29 = .ok (.aload_n 0, 1) := by decide +kernel
theorem dX6_dies_30 : decode cX6_dies 30 = .ok (.ldc 59, 2) := by decide +kernel
theorem dX6_dies_32 : decode cX6_dies 32 = .ok (.invokevirtual 60, 3) := by decide +kernel
theorem dX6_dies_35 : decode cX6_dies 35 = .ok (.ireturn, 1) := by decide +kernel
theorem dX6_go_0 : decode cX6_go 0 = .ok (.iload_n 1, 1) := by decide +kernel
theorem dX6_go_1 : decode cX6_go 1 = .ok (.iconst 1, 1) := by decide +kernel
theorem dX6_go_2 : decode cX6_go 2 = .ok (.if_icmp .lt 9, 3) := by decide +kernel
theorem dX6_go_5 : decode cX6_go 5 = .ok (.iload_n 1, 1) := by decide +kernel
theorem dX6_go_6 : decode cX6_go 6 = .ok (.bipush 60, 2) := by decide +kernel
theorem dX6_go_8 : decode cX6_go 8 = .ok (.if_icmp .le 10, 3) := by decide +kernel
theorem dX6_go_11 : decode cX6_go 11 = .ok (.aload_n 0, 1) := by decide +kernel
theorem dX6_go_12 : decode cX6_go 12 = .ok (.ldc 59, 2) := by decide +kernel
theorem dX6_go_14 : decode cX6_go 14 = .ok (.invokevirtual 60, 3) := by decide +kernel
theorem dX6_go_17 : decode cX6_go 17 = .ok (.ireturn, 1) := by decide +kernel
theorem dX6_go_18 : decode cX6_go 18 = .ok (.aload_n 0, 1) := by decide +kernel
theorem dX6_go_19 : decode cX6_go 19 = .ok (.getfield 12, 3) := by decide +kernel
theorem dX6_go_22 : decode cX6_go 22 = .ok (.getfield 119, 3) := by decide +kernel
theorem dX6_go_25 : decode cX6_go 25 = .ok (.iload_n 1, 1) := by decide +kernel
theorem dX6_go_26 : decode cX6_go 26 = .ok (.iadd, 1) := by decide +kernel
theorem dX6_go_27 : decode cX6_go 27 = .ok (.ldc 122, 2) := by decide +kernel
theorem dX6_go_29 : decode cX6_go 29 = .ok (.if_icmp .le 10, 3) := by decide +kernel
theorem dX6_go_32 : decode cX6_go 32 = .ok (.aload_n 0, 1) := by decide +kernel
theorem dX6_go_33 : decode cX6_go 33 = .ok (.ldc 123, 2) := by decide +kernel
theorem dX6_go_35 : decode cX6_go 35 = .ok (.invokevirtual 60, 3) := by decide +kernel
theorem dX6_go_38 : decode cX6_go 38 = .ok (.ireturn, 1) := by decide +kernel
theorem dX6_go_39 : decode cX6_go 39 = .ok (.aload_n 0, 1) := by decide +kernel
theorem dX6_go_40 : decode cX6_go 40 = .ok (.getfield 12, 3) := by decide +kernel
theorem dX6_go_43 : decode cX6_go 43 = .ok (.iload_n 1, 1) := by decide +kernel
theorem dX6_go_44 : decode cX6_go 44 = .ok (.invokevirtual 124, 3) := by decide +kernel
theorem dX6_go_47 : decode cX6_go 47 = .ok (.aload_n 0, 1) := by decide +kernel
theorem dX6_go_48 : decode cX6_go 48 = .ok (.getfield 12, 3) := by decide +kernel
theorem dX6_go_51 : decode cX6_go 51 = .ok (.getfield 56, 3) := by decide +kernel
theorem dX6_go_54 : decode cX6_go 54 = .ok (.ireturn, 1) := by decide +kernel
theorem dX6_now_0 : decode cX6_now 0 = .ok (.iload_n 1, 1) := by decide +kernel
theorem dX6_now_1 : decode cX6_now 1 = .ok (.tableswitch 121 0 7 #[47, 55, 63, 71, 80, 89, 97, 106], 47) := by decide +kernel
theorem dX6_now_48 : decode cX6_now 48 = .ok (.aload_n 0, 1) := by decide +kernel
theorem dX6_now_49 : decode cX6_now 49 = .ok (.getfield 12, 3) := by decide +kernel
theorem dX6_now_52 : decode cX6_now 52 = .ok (.getfield 119, 3) := by decide +kernel
theorem dX6_now_55 : decode cX6_now 55 = .ok (.ireturn, 1) := by decide +kernel
theorem dX6_now_56 : decode cX6_now 56 = .ok (.aload_n 0, 1) := by decide +kernel
theorem dX6_now_57 : decode cX6_now 57 = .ok (.getfield 12, 3) := by decide +kernel
theorem dX6_now_60 : decode cX6_now 60 = .ok (.getfield 56, 3) := by decide +kernel
theorem dX6_now_63 : decode cX6_now 63 = .ok (.ireturn, 1) := by decide +kernel
theorem dX6_now_64 : decode cX6_now 64 = .ok (.aload_n 0, 1) := by decide +kernel
theorem dX6_now_65 : decode cX6_now 65 = .ok (.getfield 12, 3) := by decide +kernel
theorem dX6_now_68 : decode cX6_now 68 = .ok (.getfield 128, 3) := by decide +kernel
theorem dX6_now_71 : decode cX6_now 71 = .ok (.ireturn, 1) := by decide +kernel
theorem dX6_now_72 : decode cX6_now 72 = .ok (.aload_n 0, 1) := by decide +kernel
theorem dX6_now_73 : decode cX6_now 73 = .ok (.getfield 12, 3) := by decide +kernel
theorem dX6_now_76 : decode cX6_now 76 = .ok (.iconst 3, 1) := by decide +kernel
theorem dX6_now_77 : decode cX6_now 77 = .ok (.invokevirtual 131, 3) := by decide +kernel
theorem dX6_now_80 : decode cX6_now 80 = .ok (.ireturn, 1) := by decide +kernel
theorem dX6_now_81 : decode cX6_now 81 = .ok (.aload_n 0, 1) := by decide +kernel
theorem dX6_now_82 : decode cX6_now 82 = .ok (.getfield 12, 3) := by decide +kernel
theorem dX6_now_85 : decode cX6_now 85 = .ok (.iconst 1, 1) := by decide +kernel
theorem dX6_now_86 : decode cX6_now 86 = .ok (.invokevirtual 134, 3) := by decide +kernel
theorem dX6_now_89 : decode cX6_now 89 = .ok (.ireturn, 1) := by decide +kernel
theorem dX6_now_90 : decode cX6_now 90 = .ok (.aload_n 0, 1) := by decide +kernel
theorem dX6_now_91 : decode cX6_now 91 = .ok (.getfield 12, 3) := by decide +kernel
theorem dX6_now_94 : decode cX6_now 94 = .ok (.invokevirtual 137, 3) := by decide +kernel
theorem dX6_now_97 : decode cX6_now 97 = .ok (.ireturn, 1) := by decide +kernel
theorem dX6_now_98 : decode cX6_now 98 = .ok (.aload_n 0, 1) := by decide +kernel
theorem dX6_now_99 : decode cX6_now 99 = .ok (.getfield 12, 3) := by decide +kernel
theorem dX6_now_102 : decode cX6_now 102 = .ok (.iconst 5, 1) := by decide +kernel
theorem dX6_now_103 : decode cX6_now 103 = .ok (.invokevirtual 134, 3) := by decide +kernel
theorem dX6_now_106 : decode cX6_now 106 = .ok (.ireturn, 1) := by decide +kernel
theorem dX6_now_107 : decode cX6_now 107 = .ok (.sipush 255, 3) := by decide +kernel
theorem dX6_now_110 : decode cX6_now 110 = .ok (.aload_n 0, 1) := by decide +kernel
theorem dX6_now_111 : decode cX6_now 111 = .ok (.getfield 12, 3) := by decide +kernel
theorem dX6_now_114 : decode cX6_now 114 = .ok (.iconst 2, 1) := by decide +kernel
theorem dX6_now_115 : decode cX6_now 115 = .ok (.invokevirtual 131, 3) := by decide +kernel
theorem dX6_now_118 : decode cX6_now 118 = .ok (.iconst (-1), 1) := by decide +kernel
theorem dX6_now_119 : decode cX6_now 119 = .ok (.ixor, 1) := by decide +kernel
theorem dX6_now_120 : decode cX6_now 120 = .ok (.iand, 1) := by decide +kernel
theorem dX6_now_121 : decode cX6_now 121 = .ok (.ireturn, 1) := by decide +kernel
theorem dX6_now_122 : decode cX6_now 122 = .ok (.aload_n 0, 1) := by decide +kernel
theorem dX6_now_123 : decode cX6_now 123 = .ok (.ldc 59, 2) := by decide +kernel
theorem dX6_now_125 : decode cX6_now 125 = .ok (.invokevirtual 60, 3) := by decide +kernel
theorem dX6_now_128 : decode cX6_now 128 = .ok (.ireturn, 1) := by decide +kernel
theorem dX6_ahead_0 : decode cX6_ahead 0 = .ok (.aload_n 0, 1) := by decide +kernel
theorem dX6_ahead_1 : decode cX6_ahead 1 = .ok (.getfield 12, 3) := by decide +kernel
theorem dX6_ahead_4 : decode cX6_ahead 4 = .ok (.iload_n 1, 1) := by decide +kernel
theorem dX6_ahead_5 : decode cX6_ahead 5 = .ok (.invokevirtual 81, 3) := by decide +kernel
theorem dX6_ahead_8 : decode cX6_ahead 8 = .ok (.ifnull 19, 3) := by decide +kernel
theorem dX6_ahead_11 : decode cX6_ahead 11 = .ok (.iload_n 2, 1) := by decide +kernel
theorem dX6_ahead_12 : decode cX6_ahead 12 = .ok (.invokestatic 141, 3) := by decide +kernel
theorem dX6_ahead_15 : decode cX6_ahead 15 = .ok (.ifCond .eq 12, 3) := by decide +kernel
theorem dX6_ahead_18 : decode cX6_ahead 18 = .ok (.iload_n 3, 1) := by decide +kernel
theorem dX6_ahead_19 : decode cX6_ahead 19 = .ok (.bipush 100, 2) := by decide +kernel
theorem dX6_ahead_21 : decode cX6_ahead 21 = .ok (.invokestatic 48, 3) := by decide +kernel
theorem dX6_ahead_24 : decode cX6_ahead 24 = .ok (.ifCond .ne 10, 3) := by decide +kernel
theorem dX6_ahead_27 : decode cX6_ahead 27 = .ok (.aload_n 0, 1) := by decide +kernel
theorem dX6_ahead_28 : decode cX6_ahead 28 = .ok (.ldc 59, 2) := by decide +kernel
theorem dX6_ahead_30 : decode cX6_ahead 30 = .ok (.invokevirtual 60, 3) := by decide +kernel
theorem dX6_ahead_33 : decode cX6_ahead 33 = .ok (.ireturn, 1) := by decide +kernel
theorem dX6_ahead_34 : decode cX6_ahead 34 = .ok (.aload_n 0, 1) := by decide +kernel
theorem dX6_ahead_35 : decode cX6_ahead 35 = .ok (.getfield 26, 3) := by decide +kernel
theorem dX6_ahead_38 : decode cX6_ahead 38 = .ok (.aload_n 0, 1) := by decide +kernel
theorem dX6_ahead_39 : decode cX6_ahead 39 = .ok (.getfield 12, 3) := by decide +kernel
theorem dX6_ahead_42 : decode cX6_ahead 42 = .ok (.iload_n 1, 1) := by decide +kernel
theorem dX6_ahead_43 : decode cX6_ahead 43 = .ok (.iload_n 2, 1) := by decide +kernel
theorem dX6_ahead_44 : decode cX6_ahead 44 = .ok (.iload_n 3, 1) := by decide +kernel
theorem dX6_ahead_45 : decode cX6_ahead 45 = .ok (.invokevirtual 144, 3) := by decide +kernel
theorem dX6_ahead_48 : decode cX6_ahead 48 = .ok (.ireturn, 1) := by decide +kernel
theorem dX6_ill_0 : decode cX6_ill 0 = .ok (.aload_n 0, 1) := by decide +kernel
theorem dX6_ill_1 : decode cX6_ill 1 = .ok (.getfield 12, 3) := by decide +kernel
theorem dX6_ill_4 : decode cX6_ill 4 = .ok (.iload_n 1, 1) := by decide +kernel
theorem dX6_ill_5 : decode cX6_ill 5 = .ok (.invokevirtual 81, 3) := by decide +kernel
theorem dX6_ill_8 : decode cX6_ill 8 = .ok (.ifnull 22, 3) := by decide +kernel
theorem dX6_ill_11 : decode cX6_ill 11 = .ok (.aload_n 0, 1) := by decide +kernel
theorem dX6_ill_12 : decode cX6_ill 12 = .ok (.aload_n 0, 1) := by decide +kernel
theorem dX6_ill_13 : decode cX6_ill 13 = .ok (.getfield 26, 3) := by decide +kernel
theorem dX6_ill_16 : decode cX6_ill 16 = .ok (.aload_n 0, 1) := by decide +kernel
theorem dX6_ill_17 : decode cX6_ill 17 = .ok (.getfield 12, 3) := by decide +kernel
theorem dX6_ill_20 : decode cX6_ill 20 = .ok (.iload_n 1, 1) := by decide +kernel
theorem dX6_ill_21 : decode cX6_ill 21 = .ok (.invokevirtual 148, 3) := by decide +kernel
theorem dX6_ill_24 : decode cX6_ill 24 = .ok (.invokevirtual 112, 3) := by decide +kernel
theorem dX6_ill_27 : decode cX6_ill 27 = .ok (.goto 9, 3) := by decide +kernel
theorem dX6_ill_30 : decode cX6_ill 30 = .ok (.aload_n 0, 1) := by decide +kernel
theorem dX6_ill_31 : decode cX6_ill 31 = .ok (.ldc 59, 2) := by decide +kernel
theorem dX6_ill_33 : decode cX6_ill 33 = .ok (.invokevirtual 60, 3) := by decide +kernel
theorem dX6_ill_36 : decode cX6_ill 36 = .ok (.ireturn, 1) := by decide +kernel
theorem dX6_out_0 : decode cX6_out 0 = .ok (.iload_n 1, 1) := by decide +kernel
theorem dX6_out_1 : decode cX6_out 1 = .ok (.bipush 7, 2) := by decide +kernel
theorem dX6_out_3 : decode cX6_out 3 = .ok (.invokestatic 48, 3) := by decide +kernel
theorem dX6_out_6 : decode cX6_out 6 = .ok (.ifCond .eq 22, 3) := by decide +kernel
theorem dX6_out_9 : decode cX6_out 9 = .ok (.aload_n 0, 1) := by decide +kernel
theorem dX6_out_10 : decode cX6_out 10 = .ok (.aload_n 0, 1) := by decide +kernel
theorem dX6_out_11 : decode cX6_out 11 = .ok (.getfield 26, 3) := by decide +kernel
theorem dX6_out_14 : decode cX6_out 14 = .ok (.aload_n 0, 1) := by decide +kernel
theorem dX6_out_15 : decode cX6_out 15 = .ok (.getfield 12, 3) := by decide +kernel
theorem dX6_out_18 : decode cX6_out 18 = .ok (.iload_n 1, 1) := by decide +kernel
theorem dX6_out_19 : decode cX6_out 19 = .ok (.invokevirtual 152, 3) := by decide +kernel
theorem dX6_out_22 : decode cX6_out 22 = .ok (.invokevirtual 112, 3) := by decide +kernel
theorem dX6_out_25 : decode cX6_out 25 = .ok (.goto 9, 3) := by decide +kernel
theorem dX6_out_28 : decode cX6_out 28 = .ok (.aload_n 0, 1) := by decide +kernel
theorem dX6_out_29 : decode cX6_out 29 = .ok (.ldc 59, 2) := by decide +kernel
theorem dX6_out_31 : decode cX6_out 31 = .ok (.invokevirtual 60, 3) := by decide +kernel
theorem dX6_out_34 : decode cX6_out 34 = .ok (.ireturn, 1) := by decide +kernel
theorem dX6_wise_0 : decode cX6_wise 0 = .ok (.aload_n 0, 1) := by decide +kernel
theorem dX6_wise_1 : decode cX6_wise 1 = .ok (.getfield 12, 3) := by decide +kernel
theorem dX6_wise_4 : decode cX6_wise 4 = .ok (.iload_n 1, 1) := by decide +kernel
theorem dX6_wise_5 : decode cX6_wise 5 = .ok (.invokevirtual 81, 3) := by decide +kernel
theorem dX6_wise_8 : decode cX6_wise 8 = .ok (.ifnull 12, 3) := by decide +kernel
theorem dX6_wise_11 : decode cX6_wise 11 = .ok (.iload_n 2, 1) := by decide +kernel
theorem dX6_wise_12 : decode cX6_wise 12 = .ok (.bipush 8, 2) := by decide +kernel
theorem dX6_wise_14 : decode cX6_wise 14 = .ok (.invokestatic 48, 3) := by decide +kernel
theorem dX6_wise_17 : decode cX6_wise 17 = .ok (.ifCond .ne 10, 3) := by decide +kernel
theorem dX6_wise_20 : decode cX6_wise 20 = .ok (.aload_n 0, 1) := by decide +kernel
theorem dX6_wise_21 : decode cX6_wise 21 = .ok (.ldc 59, 2) := by decide +kernel
theorem dX6_wise_23 : decode cX6_wise 23 = .ok (.invokevirtual 60, 3) := by decide +kernel
theorem dX6_wise_26 : decode cX6_wise 26 = .ok (.ireturn, 1) := by decide +kernel
theorem dX6_wise_27 : decode cX6_wise 27 = .ok (.aload_n 0, 1) := by decide +kernel
theorem dX6_wise_28 : decode cX6_wise 28 = .ok (.aload_n 0, 1) := by decide +kernel
theorem dX6_wise_29 : decode cX6_wise 29 = .ok (.getfield 26, 3) := by decide +kernel
theorem dX6_wise_32 : decode cX6_wise 32 = .ok (.aload_n 0, 1) := by decide +kernel
theorem dX6_wise_33 : decode cX6_wise 33 = .ok (.getfield 12, 3) := by decide +kernel
theorem dX6_wise_36 : decode cX6_wise 36 = .ok (.iload_n 1, 1) := by decide +kernel
theorem dX6_wise_37 : decode cX6_wise 37 = .ok (.iload_n 2, 1) := by decide +kernel
theorem dX6_wise_38 : decode cX6_wise 38 = .ok (.invokevirtual 155, 3) := by decide +kernel
theorem dX6_wise_41 : decode cX6_wise 41 = .ok (.invokevirtual 112, 3) := by decide +kernel
theorem dX6_wise_44 : decode cX6_wise 44 = .ok (.ireturn, 1) := by decide +kernel
theorem dX6_when_0 : decode cX6_when 0 = .ok (.aload_n 0, 1) := by decide +kernel
theorem dX6_when_1 : decode cX6_when 1 = .ok (.getfield 12, 3) := by decide +kernel
theorem dX6_when_4 : decode cX6_when 4 = .ok (.iload_n 1, 1) := by decide +kernel
theorem dX6_when_5 : decode cX6_when 5 = .ok (.invokevirtual 81, 3) := by decide +kernel
theorem dX6_when_8 : decode cX6_when 8 = .ok (.ifnull 13, 3) := by decide +kernel
theorem dX6_when_11 : decode cX6_when 11 = .ok (.iload_n 2, 1) := by decide +kernel
theorem dX6_when_12 : decode cX6_when 12 = .ok (.sipush 999, 3) := by decide +kernel
theorem dX6_when_15 : decode cX6_when 15 = .ok (.invokestatic 48, 3) := by decide +kernel
theorem dX6_when_18 : decode cX6_when 18 = .ok (.ifCond .ne 10, 3) := by decide +kernel
theorem dX6_when_21 : decode cX6_when 21 = .ok (.aload_n 0, 1) := by decide +kernel
theorem dX6_when_22 : decode cX6_when 22 = .ok (.ldc 59, 2) := by decide +kernel
theorem dX6_when_24 : decode cX6_when 24 = .ok (.invokevirtual 60, 3) := by decide +kernel
theorem dX6_when_27 : decode cX6_when 27 = .ok (.ireturn, 1) := by decide +kernel
theorem dX6_when_28 : decode cX6_when 28 = .ok (.aload_n 0, 1) := by decide +kernel
theorem dX6_when_29 : decode cX6_when 29 = .ok (.aload_n 0, 1) := by decide +kernel
theorem dX6_when_30 : decode cX6_when 30 = .ok (.getfield 26, 3) := by decide +kernel
theorem dX6_when_33 : decode cX6_when 33 = .ok (.aload_n 0, 1) := by decide +kernel
theorem dX6_when_34 : decode cX6_when 34 = .ok (.getfield 12, 3) := by decide +kernel
theorem dX6_when_37 : decode cX6_when 37 = .ok (.iload_n 1, 1) := by decide +kernel
theorem dX6_when_38 : decode cX6_when 38 = .ok (.iload_n 2, 1) := by decide +kernel
theorem dX6_when_39 : decode cX6_when 39 = .ok (.invokevirtual 159, 3) := by decide +kernel
theorem dX6_when_42 : decode cX6_when 42 = .ok (.invokevirtual 112, 3) := by decide +kernel
theorem dX6_when_45 : decode cX6_when 45 = .ok (.ireturn, 1) := by decide +kernel
theorem dX6_wordsFor_0 : decode cX6_wordsFor 0 = .ok (.iload_n 1, 1) := by decide +kernel
theorem dX6_wordsFor_1 : decode cX6_wordsFor 1 = .ok (.iconst 5, 1) := by decide +kernel
theorem dX6_wordsFor_2 : decode cX6_wordsFor 2 = .ok (.invokestatic 48, 3) := by decide +kernel
theorem dX6_wordsFor_5 : decode cX6_wordsFor 5 = .ok (.ifCond .eq 12, 3) := by decide +kernel
theorem dX6_wordsFor_8 : decode cX6_wordsFor 8 = .ok (.iload_n 2, 1) := by decide +kernel
theorem dX6_wordsFor_9 : decode cX6_wordsFor 9 = .ok (.bipush 60, 2) := by decide +kernel
theorem dX6_wordsFor_11 : decode cX6_wordsFor 11 = .ok (.invokestatic 48, 3) := by decide +kernel
theorem dX6_wordsFor_14 : decode cX6_wordsFor 14 = .ok (.ifCond .ne 10, 3) := by decide +kernel
theorem dX6_wordsFor_17 : decode cX6_wordsFor 17 = .ok (.aload_n 0, 1) := by decide +kernel
theorem dX6_wordsFor_18 : decode cX6_wordsFor 18 = .ok (.ldc 59, 2) := by decide +kernel
theorem dX6_wordsFor_20 : decode cX6_wordsFor 20 = .ok (.invokevirtual 60, 3) := by decide +kernel
theorem dX6_wordsFor_23 : decode cX6_wordsFor 23 = .ok (.ireturn, 1) := by decide +kernel
theorem dX6_wordsFor_24 : decode cX6_wordsFor 24 = .ok (.aload_n 0, 1) := by decide +kernel
theorem dX6_wordsFor_25 : decode cX6_wordsFor 25 = .ok (.aload_n 0, 1) := by decide +kernel
theorem dX6_wordsFor_26 : decode cX6_wordsFor 26 = .ok (.getfield 26, 3) := by decide +kernel
theorem dX6_wordsFor_29 : decode cX6_wordsFor 29 = .ok (.aload_n 0, 1) := by decide +kernel
theorem dX6_wordsFor_30 : decode cX6_wordsFor 30 = .ok (.getfield 12, 3) := by decide +kernel
theorem dX6_wordsFor_33 : decode cX6_wordsFor 33 = .ok (.iload_n 1, 1) := by decide +kernel
theorem dX6_wordsFor_34 : decode cX6_wordsFor 34 = .ok (.iload_n 2, 1) := by decide +kernel
theorem dX6_wordsFor_35 : decode cX6_wordsFor 35 = .ok (.invokevirtual 162, 3) := by decide +kernel
theorem dX6_wordsFor_38 : decode cX6_wordsFor 38 = .ok (.invokevirtual 112, 3) := by decide +kernel
theorem dX6_wordsFor_41 : decode cX6_wordsFor 41 = .ok (.ireturn, 1) := by decide +kernel
theorem dX6_waterFor_0 : decode cX6_waterFor 0 = .ok (.iload_n 1, 1) := by decide +kernel
theorem dX6_waterFor_1 : decode cX6_waterFor 1 = .ok (.bipush 60, 2) := by decide +kernel
theorem dX6_waterFor_3 : decode cX6_waterFor 3 = .ok (.invokestatic 48, 3) := by decide +kernel
theorem dX6_waterFor_6 : decode cX6_waterFor 6 = .ok (.ifCond .eq 22, 3) := by decide +kernel
theorem dX6_waterFor_9 : decode cX6_waterFor 9 = .ok (.aload_n 0, 1) := by decide +kernel
theorem dX6_waterFor_10 : decode cX6_waterFor 10 = .ok (.aload_n 0, 1) := by decide +kernel
theorem dX6_waterFor_11 : decode cX6_waterFor 11 = .ok (.getfield 26, 3) := by decide +kernel
theorem dX6_waterFor_14 : decode cX6_waterFor 14 = .ok (.aload_n 0, 1) := by decide +kernel
theorem dX6_waterFor_15 : decode cX6_waterFor 15 = .ok (.getfield 12, 3) := by decide +kernel
theorem dX6_waterFor_18 : decode cX6_waterFor 18 = .ok (.iload_n 1, 1) := by decide +kernel
theorem dX6_waterFor_19 : decode cX6_waterFor 19 = .ok (.invokevirtual 165, 3) := by decide +kernel
theorem dX6_waterFor_22 : decode cX6_waterFor 22 = .ok (.invokevirtual 112, 3) := by decide +kernel
theorem dX6_waterFor_25 : decode cX6_waterFor 25 = .ok (.goto 9, 3) := by decide +kernel
theorem dX6_waterFor_28 : decode cX6_waterFor 28 = .ok (.aload_n 0, 1) := by decide +kernel
theorem dX6_waterFor_29 : decode cX6_waterFor 29 = .ok (.ldc 59, 2) := by decide +kernel
theorem dX6_waterFor_31 : decode cX6_waterFor 31 = .ok (.invokevirtual 60, 3) := by decide +kernel
theorem dX6_waterFor_34 : decode cX6_waterFor 34 = .ok (.ireturn, 1) := by decide +kernel
theorem dX6_spare_0 : decode cX6_spare 0 = .ok (.aload_n 0, 1) := by decide +kernel
theorem dX6_spare_1 : decode cX6_spare 1 = .ok (.getfield 12, 3) := by decide +kernel
theorem dX6_spare_4 : decode cX6_spare 4 = .ok (.iload_n 1, 1) := by decide +kernel
theorem dX6_spare_5 : decode cX6_spare 5 = .ok (.invokevirtual 81, 3) := by decide +kernel
theorem dX6_spare_8 : decode cX6_spare 8 = .ok (.ifnull 12, 3) := by decide +kernel
theorem dX6_spare_11 : decode cX6_spare 11 = .ok (.iload_n 2, 1) := by decide +kernel
theorem dX6_spare_12 : decode cX6_spare 12 = .ok (.bipush 60, 2) := by decide +kernel
theorem dX6_spare_14 : decode cX6_spare 14 = .ok (.invokestatic 48, 3) := by decide +kernel
theorem dX6_spare_17 : decode cX6_spare 17 = .ok (.ifCond .ne 10, 3) := by decide +kernel
theorem dX6_spare_20 : decode cX6_spare 20 = .ok (.aload_n 0, 1) := by decide +kernel
theorem dX6_spare_21 : decode cX6_spare 21 = .ok (.ldc 59, 2) := by decide +kernel
theorem dX6_spare_23 : decode cX6_spare 23 = .ok (.invokevirtual 60, 3) := by decide +kernel
theorem dX6_spare_26 : decode cX6_spare 26 = .ok (.ireturn, 1) := by decide +kernel
theorem dX6_spare_27 : decode cX6_spare 27 = .ok (.aload_n 0, 1) := by decide +kernel
theorem dX6_spare_28 : decode cX6_spare 28 = .ok (.getfield 26, 3) := by decide +kernel
theorem dX6_spare_31 : decode cX6_spare 31 = .ok (.aload_n 0, 1) := by decide +kernel
theorem dX6_spare_32 : decode cX6_spare 32 = .ok (.getfield 12, 3) := by decide +kernel
theorem dX6_spare_35 : decode cX6_spare 35 = .ok (.iload_n 1, 1) := by decide +kernel
theorem dX6_spare_36 : decode cX6_spare 36 = .ok (.iload_n 2, 1) := by decide +kernel
theorem dX6_spare_37 : decode cX6_spare 37 = .ok (.invokevirtual 168, 3) := by decide +kernel
theorem dX6_spare_40 : decode cX6_spare 40 = .ok (.ireturn, 1) := by decide +kernel
theorem dX6_kindFor_0 : decode cX6_kindFor 0 = .ok (.aload_n 0, 1) := by decide +kernel
theorem dX6_kindFor_1 : decode cX6_kindFor 1 = .ok (.getfield 12, 3) := by decide +kernel
theorem dX6_kindFor_4 : decode cX6_kindFor 4 = .ok (.iload_n 1, 1) := by decide +kernel
theorem dX6_kindFor_5 : decode cX6_kindFor 5 = .ok (.invokevirtual 81, 3) := by decide +kernel
theorem dX6_kindFor_8 : decode cX6_kindFor 8 = .ok (.ifnull 12, 3) := by decide +kernel
theorem dX6_kindFor_11 : decode cX6_kindFor 11 = .ok (.iload_n 2, 1) := by decide +kernel
theorem dX6_kindFor_12 : decode cX6_kindFor 12 = .ok (.bipush 60, 2) := by decide +kernel
theorem dX6_kindFor_14 : decode cX6_kindFor 14 = .ok (.invokestatic 48, 3) := by decide +kernel
theorem dX6_kindFor_17 : decode cX6_kindFor 17 = .ok (.ifCond .ne 10, 3) := by decide +kernel
theorem dX6_kindFor_20 : decode cX6_kindFor 20 = .ok (.aload_n 0, 1) := by decide +kernel
theorem dX6_kindFor_21 : decode cX6_kindFor 21 = .ok (.ldc 59, 2) := by decide +kernel
theorem dX6_kindFor_23 : decode cX6_kindFor 23 = .ok (.invokevirtual 60, 3) := by decide +kernel
theorem dX6_kindFor_26 : decode cX6_kindFor 26 = .ok (.ireturn, 1) := by decide +kernel
theorem dX6_kindFor_27 : decode cX6_kindFor 27 = .ok (.aload_n 0, 1) := by decide +kernel
theorem dX6_kindFor_28 : decode cX6_kindFor 28 = .ok (.getfield 26, 3) := by decide +kernel
theorem dX6_kindFor_31 : decode cX6_kindFor 31 = .ok (.aload_n 0, 1) := by decide +kernel
theorem dX6_kindFor_32 : decode cX6_kindFor 32 = .ok (.getfield 12, 3) := by decide +kernel
theorem dX6_kindFor_35 : decode cX6_kindFor 35 = .ok (.iload_n 1, 1) := by decide +kernel
theorem dX6_kindFor_36 : decode cX6_kindFor 36 = .ok (.iload_n 2, 1) := by decide +kernel
theorem dX6_kindFor_37 : decode cX6_kindFor 37 = .ok (.invokevirtual 171, 3) := by decide +kernel
theorem dX6_kindFor_40 : decode cX6_kindFor 40 = .ok (.ireturn, 1) := by decide +kernel
theorem dX6_fast_0 : decode cX6_fast 0 = .ok (.iload_n 1, 1) := by decide +kernel
theorem dX6_fast_1 : decode cX6_fast 1 = .ok (.bipush 20, 2) := by decide +kernel
theorem dX6_fast_3 : decode cX6_fast 3 = .ok (.invokestatic 48, 3) := by decide +kernel
theorem dX6_fast_6 : decode cX6_fast 6 = .ok (.ifCond .eq 22, 3) := by decide +kernel
theorem dX6_fast_9 : decode cX6_fast 9 = .ok (.aload_n 0, 1) := by decide +kernel
theorem dX6_fast_10 : decode cX6_fast 10 = .ok (.aload_n 0, 1) := by decide +kernel
theorem dX6_fast_11 : decode cX6_fast 11 = .ok (.getfield 26, 3) := by decide +kernel
theorem dX6_fast_14 : decode cX6_fast 14 = .ok (.aload_n 0, 1) := by decide +kernel
theorem dX6_fast_15 : decode cX6_fast 15 = .ok (.getfield 12, 3) := by decide +kernel
theorem dX6_fast_18 : decode cX6_fast 18 = .ok (.iload_n 1, 1) := by decide +kernel
theorem dX6_fast_19 : decode cX6_fast 19 = .ok (.invokevirtual 174, 3) := by decide +kernel
theorem dX6_fast_22 : decode cX6_fast 22 = .ok (.invokevirtual 112, 3) := by decide +kernel
theorem dX6_fast_25 : decode cX6_fast 25 = .ok (.goto 9, 3) := by decide +kernel
theorem dX6_fast_28 : decode cX6_fast 28 = .ok (.aload_n 0, 1) := by decide +kernel
theorem dX6_fast_29 : decode cX6_fast 29 = .ok (.ldc 59, 2) := by decide +kernel
theorem dX6_fast_31 : decode cX6_fast 31 = .ok (.invokevirtual 60, 3) := by decide +kernel
theorem dX6_fast_34 : decode cX6_fast 34 = .ok (.ireturn, 1) := by decide +kernel
theorem dX6_cover_0 : decode cX6_cover 0 = .ok (.iload_n 1, 1) := by decide +kernel
theorem dX6_cover_1 : decode cX6_cover 1 = .ok (.sipush 255, 3) := by decide +kernel
theorem dX6_cover_4 : decode cX6_cover 4 = .ok (.invokestatic 48, 3) := by decide +kernel
theorem dX6_cover_7 : decode cX6_cover 7 = .ok (.ifCond .eq 18, 3) := by decide +kernel
theorem dX6_cover_10 : decode cX6_cover 10 = .ok (.aload_n 0, 1) := by decide +kernel
theorem dX6_cover_11 : decode cX6_cover 11 = .ok (.aload_n 0, 1) := by decide +kernel
theorem dX6_cover_12 : decode cX6_cover 12 = .ok (.getfield 12, 3) := by decide +kernel
theorem dX6_cover_15 : decode cX6_cover 15 = .ok (.iload_n 1, 1) := by decide +kernel
theorem dX6_cover_16 : decode cX6_cover 16 = .ok (.invokevirtual 177, 3) := by decide +kernel
theorem dX6_cover_19 : decode cX6_cover 19 = .ok (.invokevirtual 112, 3) := by decide +kernel
theorem dX6_cover_22 : decode cX6_cover 22 = .ok (.goto 9, 3) := by decide +kernel
theorem dX6_cover_25 : decode cX6_cover 25 = .ok (.aload_n 0, 1) := by decide +kernel
theorem dX6_cover_26 : decode cX6_cover 26 = .ok (.ldc 59, 2) := by decide +kernel
theorem dX6_cover_28 : decode cX6_cover 28 = .ok (.invokevirtual 60, 3) := by decide +kernel
theorem dX6_cover_31 : decode cX6_cover 31 = .ok (.ireturn, 1) := by decide +kernel
theorem dX6_fits_0 : decode cX6_fits 0 = .ok (.aload_n 0, 1) := by decide +kernel
theorem dX6_fits_1 : decode cX6_fits 1 = .ok (.iload_n 1, 1) := by decide +kernel
theorem dX6_fits_2 : decode cX6_fits 2 = .ok (.invokevirtual 180, 3) := by decide +kernel
theorem dX6_fits_5 : decode cX6_fits 5 = .ok (.astore_n 3, 1) := by decide +kernel
theorem dX6_fits_6 : decode cX6_fits 6 = .ok (.aload_n 0, 1) := by decide +kernel
theorem dX6_fits_7 : decode cX6_fits 7 = .ok (.aload_n 3, 1) := by decide +kernel
theorem dX6_fits_8 : decode cX6_fits 8 = .ok (.iload_n 2, 1) := by decide +kernel
theorem dX6_fits_9 : decode cX6_fits 9 = .ok (.invokevirtual 184, 3) := by decide +kernel
theorem dX6_fits_12 : decode cX6_fits 12 = .ok (.istore 4, 2) := by decide +kernel
theorem dX6_fits_14 : decode cX6_fits 14 = .ok (.iload 4, 2) := by decide +kernel
theorem dX6_fits_16 : decode cX6_fits 16 = .ok (.ifCond .ne 22, 3) := by decide +kernel
theorem dX6_fits_19 : decode cX6_fits 19 = .ok (.aload_n 0, 1) := by decide +kernel
theorem dX6_fits_20 : decode cX6_fits 20 = .ok (.getfield 26, 3) := by decide +kernel
theorem dX6_fits_23 : decode cX6_fits 23 = .ok (.aload_n 0, 1) := by decide +kernel
theorem dX6_fits_24 : decode cX6_fits 24 = .ok (.getfield 12, 3) := by decide +kernel
theorem dX6_fits_27 : decode cX6_fits 27 = .ok (.iload_n 2, 1) := by decide +kernel
theorem dX6_fits_28 : decode cX6_fits 28 = .ok (.aload_n 3, 1) := by decide +kernel
theorem dX6_fits_29 : decode cX6_fits 29 = .ok (.invokevirtual 188, 3) := by decide +kernel
theorem dX6_fits_32 : decode cX6_fits 32 = .ok (.invokestatic 192, 3) := by decide +kernel
theorem dX6_fits_35 : decode cX6_fits 35 = .ok (.goto 9, 3) := by decide +kernel
theorem dX6_fits_38 : decode cX6_fits 38 = .ok (.aload_n 0, 1) := by decide +kernel
theorem dX6_fits_39 : decode cX6_fits 39 = .ok (.iload 4, 2) := by decide +kernel
theorem dX6_fits_41 : decode cX6_fits 41 = .ok (.invokevirtual 60, 3) := by decide +kernel
theorem dX6_fits_44 : decode cX6_fits 44 = .ok (.ireturn, 1) := by decide +kernel
theorem dX6_words_0 : decode cX6_words 0 = .ok (.aload_n 0, 1) := by decide +kernel
theorem dX6_words_1 : decode cX6_words 1 = .ok (.iload_n 1, 1) := by decide +kernel
theorem dX6_words_2 : decode cX6_words 2 = .ok (.invokevirtual 180, 3) := by decide +kernel
theorem dX6_words_5 : decode cX6_words 5 = .ok (.astore_n 3, 1) := by decide +kernel
theorem dX6_words_6 : decode cX6_words 6 = .ok (.aload_n 0, 1) := by decide +kernel
theorem dX6_words_7 : decode cX6_words 7 = .ok (.aload_n 3, 1) := by decide +kernel
theorem dX6_words_8 : decode cX6_words 8 = .ok (.iload_n 2, 1) := by decide +kernel
theorem dX6_words_9 : decode cX6_words 9 = .ok (.invokevirtual 184, 3) := by decide +kernel
theorem dX6_words_12 : decode cX6_words 12 = .ok (.istore 4, 2) := by decide +kernel
theorem dX6_words_14 : decode cX6_words 14 = .ok (.iload 4, 2) := by decide +kernel
theorem dX6_words_16 : decode cX6_words 16 = .ok (.ifCond .eq 10, 3) := by decide +kernel
theorem dX6_words_19 : decode cX6_words 19 = .ok (.aload_n 0, 1) := by decide +kernel
theorem dX6_words_20 : decode cX6_words 20 = .ok (.iload 4, 2) := by decide +kernel
theorem dX6_words_22 : decode cX6_words 22 = .ok (.invokevirtual 60, 3) := by decide +kernel
theorem dX6_words_25 : decode cX6_words 25 = .ok (.ireturn, 1) := by decide +kernel
theorem dX6_words_26 : decode cX6_words 26 = .ok (.aload_n 0, 1) := by decide +kernel
theorem dX6_words_27 : decode cX6_words 27 = .ok (.getfield 26, 3) := by decide +kernel
theorem dX6_words_30 : decode cX6_words 30 = .ok (.aload_n 0, 1) := by decide +kernel
theorem dX6_words_31 : decode cX6_words 31 = .ok (.getfield 12, 3) := by decide +kernel
theorem dX6_words_34 : decode cX6_words 34 = .ok (.iload_n 2, 1) := by decide +kernel
theorem dX6_words_35 : decode cX6_words 35 = .ok (.aload_n 3, 1) := by decide +kernel
theorem dX6_words_36 : decode cX6_words 36 = .ok (.invokevirtual 188, 3) := by decide +kernel
theorem dX6_words_39 : decode cX6_words 39 = .ok (.lstore 5, 2) := by decide +kernel
theorem dX6_words_41 : decode cX6_words 41 = .ok (.iconst 0, 1) := by decide +kernel
theorem dX6_words_42 : decode cX6_words 42 = .ok (.istore 7, 2) := by decide +kernel
theorem dX6_words_44 : decode cX6_words 44 = .ok (.iload 7, 2) := by decide +kernel
theorem dX6_words_46 : decode cX6_words 46 = .ok (.bipush 40, 2) := by decide +kernel
theorem dX6_words_48 : decode cX6_words 48 = .ok (.if_icmp .gt 24, 3) := by decide +kernel
theorem dX6_words_51 : decode cX6_words 51 = .ok (.lload 5, 2) := by decide +kernel
theorem dX6_words_53 : decode cX6_words 53 = .ok (.iload 7, 2) := by decide +kernel
theorem dX6_words_55 : decode cX6_words 55 = .ok (.lshr, 1) := by decide +kernel
theorem dX6_words_56 : decode cX6_words 56 = .ok (.lconst 1, 1) := by decide +kernel
theorem dX6_words_57 : decode cX6_words 57 = .ok (.land, 1) := by decide +kernel
theorem dX6_words_58 : decode cX6_words 58 = .ok (.lconst 0, 1) := by decide +kernel
theorem dX6_words_59 : decode cX6_words 59 = .ok (.lcmp, 1) := by decide +kernel
theorem dX6_words_60 : decode cX6_words 60 = .ok (.ifCond .eq 6, 3) := by decide +kernel
theorem dX6_words_63 : decode cX6_words 63 = .ok (.iload 7, 2) := by decide +kernel
theorem dX6_words_65 : decode cX6_words 65 = .ok (.ireturn, 1) := by decide +kernel
theorem dX6_words_66 : decode cX6_words 66 = .ok (.iinc 7 1, 3) := by decide +kernel
theorem dX6_words_69 : decode cX6_words 69 = .ok (.goto (-25), 3) := by decide +kernel
theorem dX6_words_72 : decode cX6_words 72 = .ok (.aload_n 0, 1) := by decide +kernel
theorem dX6_words_73 : decode cX6_words 73 = .ok (.ldc 198, 2) := by decide +kernel
theorem dX6_words_75 : decode cX6_words 75 = .ok (.invokevirtual 60, 3) := by decide +kernel
theorem dX6_words_78 : decode cX6_words 78 = .ok (.ireturn, 1) := by decide +kernel
theorem dX6_kinds_0 : decode cX6_kinds 0 = .ok (.aload_n 0, 1) := by decide +kernel
theorem dX6_kinds_1 : decode cX6_kinds 1 = .ok (.iload_n 1, 1) := by decide +kernel
theorem dX6_kinds_2 : decode cX6_kinds 2 = .ok (.invokevirtual 180, 3) := by decide +kernel
theorem dX6_kinds_5 : decode cX6_kinds 5 = .ok (.astore_n 3, 1) := by decide +kernel
theorem dX6_kinds_6 : decode cX6_kinds 6 = .ok (.aload_n 0, 1) := by decide +kernel
theorem dX6_kinds_7 : decode cX6_kinds 7 = .ok (.aload_n 3, 1) := by decide +kernel
theorem dX6_kinds_8 : decode cX6_kinds 8 = .ok (.iload_n 2, 1) := by decide +kernel
theorem dX6_kinds_9 : decode cX6_kinds 9 = .ok (.invokevirtual 184, 3) := by decide +kernel
theorem dX6_kinds_12 : decode cX6_kinds 12 = .ok (.istore 4, 2) := by decide +kernel
theorem dX6_kinds_14 : decode cX6_kinds 14 = .ok (.iload 4, 2) := by decide +kernel
theorem dX6_kinds_16 : decode cX6_kinds 16 = .ok (.ifCond .ne 19, 3) := by decide +kernel
theorem dX6_kinds_19 : decode cX6_kinds 19 = .ok (.aload_n 0, 1) := by decide +kernel
theorem dX6_kinds_20 : decode cX6_kinds 20 = .ok (.getfield 26, 3) := by decide +kernel
theorem dX6_kinds_23 : decode cX6_kinds 23 = .ok (.aload_n 0, 1) := by decide +kernel
theorem dX6_kinds_24 : decode cX6_kinds 24 = .ok (.getfield 12, 3) := by decide +kernel
theorem dX6_kinds_27 : decode cX6_kinds 27 = .ok (.iload_n 2, 1) := by decide +kernel
theorem dX6_kinds_28 : decode cX6_kinds 28 = .ok (.aload_n 3, 1) := by decide +kernel
theorem dX6_kinds_29 : decode cX6_kinds 29 = .ok (.invokevirtual 199, 3) := by decide +kernel
theorem dX6_kinds_32 : decode cX6_kinds 32 = .ok (.goto 9, 3) := by decide +kernel
theorem dX6_kinds_35 : decode cX6_kinds 35 = .ok (.aload_n 0, 1) := by decide +kernel
theorem dX6_kinds_36 : decode cX6_kinds 36 = .ok (.iload 4, 2) := by decide +kernel
theorem dX6_kinds_38 : decode cX6_kinds 38 = .ok (.invokevirtual 60, 3) := by decide +kernel
theorem dX6_kinds_41 : decode cX6_kinds 41 = .ok (.ireturn, 1) := by decide +kernel
theorem dX6_come_0 : decode cX6_come 0 = .ok (.iload_n 1, 1) := by decide +kernel
theorem dX6_come_1 : decode cX6_come 1 = .ok (.iconst 1, 1) := by decide +kernel
theorem dX6_come_2 : decode cX6_come 2 = .ok (.if_icmp .lt 9, 3) := by decide +kernel
theorem dX6_come_5 : decode cX6_come 5 = .ok (.iload_n 1, 1) := by decide +kernel
theorem dX6_come_6 : decode cX6_come 6 = .ok (.bipush 20, 2) := by decide +kernel
theorem dX6_come_8 : decode cX6_come 8 = .ok (.if_icmp .le 10, 3) := by decide +kernel
theorem dX6_come_11 : decode cX6_come 11 = .ok (.aload_n 0, 1) := by decide +kernel
theorem dX6_come_12 : decode cX6_come 12 = .ok (.ldc 59, 2) := by decide +kernel
theorem dX6_come_14 : decode cX6_come 14 = .ok (.invokevirtual 60, 3) := by decide +kernel
theorem dX6_come_17 : decode cX6_come 17 = .ok (.ireturn, 1) := by decide +kernel
theorem dX6_come_18 : decode cX6_come 18 = .ok (.aload_n 0, 1) := by decide +kernel
theorem dX6_come_19 : decode cX6_come 19 = .ok (.getfield 12, 3) := by decide +kernel
theorem dX6_come_22 : decode cX6_come 22 = .ok (.getfield 119, 3) := by decide +kernel
theorem dX6_come_25 : decode cX6_come 25 = .ok (.iload_n 1, 1) := by decide +kernel
theorem dX6_come_26 : decode cX6_come 26 = .ok (.iadd, 1) := by decide +kernel
theorem dX6_come_27 : decode cX6_come 27 = .ok (.ldc 122, 2) := by decide +kernel
theorem dX6_come_29 : decode cX6_come 29 = .ok (.if_icmp .le 10, 3) := by decide +kernel
theorem dX6_come_32 : decode cX6_come 32 = .ok (.aload_n 0, 1) := by decide +kernel
theorem dX6_come_33 : decode cX6_come 33 = .ok (.ldc 123, 2) := by decide +kernel
theorem dX6_come_35 : decode cX6_come 35 = .ok (.invokevirtual 60, 3) := by decide +kernel
theorem dX6_come_38 : decode cX6_come 38 = .ok (.ireturn, 1) := by decide +kernel
theorem dX6_come_39 : decode cX6_come 39 = .ok (.iconst 0, 1) := by decide +kernel
theorem dX6_come_40 : decode cX6_come 40 = .ok (.istore_n 2, 1) := by decide +kernel
theorem dX6_come_41 : decode cX6_come 41 = .ok (.iload_n 2, 1) := by decide +kernel
theorem dX6_come_42 : decode cX6_come 42 = .ok (.iload_n 1, 1) := by decide +kernel
theorem dX6_come_43 : decode cX6_come 43 = .ok (.if_icmp .ge 60, 3) := by decide +kernel
theorem dX6_come_46 : decode cX6_come 46 = .ok (.aload_n 0, 1) := by decide +kernel
theorem dX6_come_47 : decode cX6_come 47 = .ok (.getfield 12, 3) := by decide +kernel
theorem dX6_come_50 : decode cX6_come 50 = .ok (.invokevirtual 203, 3) := by decide +kernel
theorem dX6_come_53 : decode cX6_come 53 = .ok (.bipush 8, 2) := by decide +kernel
theorem dX6_come_55 : decode cX6_come 55 = .ok (.irem, 1) := by decide +kernel
theorem dX6_come_56 : decode cX6_come 56 = .ok (.istore_n 3, 1) := by decide +kernel
theorem dX6_come_57 : decode cX6_come 57 = .ok (.aload_n 0, 1) := by decide +kernel
theorem dX6_come_58 : decode cX6_come 58 = .ok (.getfield 12, 3) := by decide +kernel
theorem dX6_come_61 : decode cX6_come 61 = .ok (.invokevirtual 203, 3) := by decide +kernel
theorem dX6_come_64 : decode cX6_come 64 = .ok (.bipush 41, 2) := by decide +kernel
theorem dX6_come_66 : decode cX6_come 66 = .ok (.irem, 1) := by decide +kernel
theorem dX6_come_67 : decode cX6_come 67 = .ok (.istore 4, 2) := by decide +kernel
theorem dX6_come_69 : decode cX6_come 69 = .ok (.aload_n 0, 1) := by decide +kernel
theorem dX6_come_70 : decode cX6_come 70 = .ok (.getfield 12, 3) := by decide +kernel
theorem dX6_come_73 : decode cX6_come 73 = .ok (.getfield 68, 3) := by decide +kernel
theorem dX6_come_76 : decode cX6_come 76 = .ok (.aload_n 0, 1) := by decide +kernel
theorem dX6_come_77 : decode cX6_come 77 = .ok (.getfield 12, 3) := by decide +kernel
theorem dX6_come_80 : decode cX6_come 80 = .ok (.invokevirtual 206, 3) := by decide +kernel
theorem dX6_come_83 : decode cX6_come 83 = .ok (.iload_n 3, 1) := by decide +kernel
theorem dX6_come_84 : decode cX6_come 84 = .ok (.iload 4, 2) := by decide +kernel
theorem dX6_come_86 : decode cX6_come 86 = .ok (.invokestatic 209, 3) := by decide +kernel
theorem dX6_come_89 : decode cX6_come 89 = .ok (.iastore, 1) := by decide +kernel
theorem dX6_come_90 : decode cX6_come 90 = .ok (.aload_n 0, 1) := by decide +kernel
theorem dX6_come_91 : decode cX6_come 91 = .ok (.getfield 12, 3) := by decide +kernel
theorem dX6_come_94 : decode cX6_come 94 = .ok (.invokevirtual 212, 3) := by decide +kernel
theorem dX6_come_97 : decode cX6_come 97 = .ok (.iinc 2 1, 3) := by decide +kernel
theorem dX6_come_100 : decode cX6_come 100 = .ok (.goto (-59), 3) := by decide +kernel
theorem dX6_come_103 : decode cX6_come 103 = .ok (.aload_n 0, 1) := by decide +kernel
theorem dX6_come_104 : decode cX6_come 104 = .ok (.getfield 12, 3) := by decide +kernel
theorem dX6_come_107 : decode cX6_come 107 = .ok (.getfield 56, 3) := by decide +kernel
theorem dX6_come_110 : decode cX6_come 110 = .ok (.ireturn, 1) := by decide +kernel
theorem dX6_odds_0 : decode cX6_odds 0 = .ok (.aload_n 0, 1) := by decide +kernel
theorem dX6_odds_1 : decode cX6_odds 1 = .ok (.getfield 12, 3) := by decide +kernel
theorem dX6_odds_4 : decode cX6_odds 4 = .ok (.iload_n 1, 1) := by decide +kernel
theorem dX6_odds_5 : decode cX6_odds 5 = .ok (.invokevirtual 81, 3) := by decide +kernel
theorem dX6_odds_8 : decode cX6_odds 8 = .ok (.astore 4, 2) := by decide +kernel
theorem dX6_odds_10 : decode cX6_odds 10 = .ok (.aload 4, 2) := by decide +kernel
theorem dX6_odds_12 : decode cX6_odds 12 = .ok (.ifnull 20, 3) := by decide +kernel
theorem dX6_odds_15 : decode cX6_odds 15 = .ok (.iload_n 2, 1) := by decide +kernel
theorem dX6_odds_16 : decode cX6_odds 16 = .ok (.bipush 20, 2) := by decide +kernel
theorem dX6_odds_18 : decode cX6_odds 18 = .ok (.invokestatic 48, 3) := by decide +kernel
theorem dX6_odds_21 : decode cX6_odds 21 = .ok (.ifCond .eq 11, 3) := by decide +kernel
theorem dX6_odds_24 : decode cX6_odds 24 = .ok (.iload_n 3, 1) := by decide +kernel
theorem dX6_odds_25 : decode cX6_odds 25 = .ok (.iconst 1, 1) := by decide +kernel
theorem dX6_odds_26 : decode cX6_odds 26 = .ok (.invokestatic 48, 3) := by decide +kernel
theorem dX6_odds_29 : decode cX6_odds 29 = .ok (.ifCond .ne 11, 3) := by decide +kernel
theorem dX6_odds_32 : decode cX6_odds 32 = .ok (.aload_n 0, 1) := by decide +kernel
theorem dX6_odds_33 : decode cX6_odds 33 = .ok (.ldc 59, 2) := by decide +kernel
theorem dX6_odds_35 : decode cX6_odds 35 = .ok (.invokevirtual 60, 3) := by decide +kernel
theorem dX6_odds_38 : decode cX6_odds 38 = .ok (.i2l, 1) := by decide +kernel
theorem dX6_odds_39 : decode cX6_odds 39 = .ok (.lreturn, 1) := by decide +kernel
theorem dX6_odds_40 : decode cX6_odds 40 = .ok (.aload 4, 2) := by decide +kernel
theorem dX6_odds_42 : decode cX6_odds 42 = .ok (.getfield 215, 3) := by decide +kernel
theorem dX6_odds_45 : decode cX6_odds 45 = .ok (.invokestatic 218, 3) := by decide +kernel
theorem dX6_odds_48 : decode cX6_odds 48 = .ok (.istore 5, 2) := by decide +kernel
theorem dX6_odds_50 : decode cX6_odds 50 = .ok (.bipush 8, 2) := by decide +kernel
theorem dX6_odds_52 : decode cX6_odds 52 = .ok (.istore 6, 2) := by decide +kernel
theorem dX6_odds_54 : decode cX6_odds 54 = .ok (.iconst 0, 1) := by decide +kernel
theorem dX6_odds_55 : decode cX6_odds 55 = .ok (.istore 7, 2) := by decide +kernel
theorem dX6_odds_57 : decode cX6_odds 57 = .ok (.iload 7, 2) := by decide +kernel
theorem dX6_odds_59 : decode cX6_odds 59 = .ok (.bipush 8, 2) := by decide +kernel
theorem dX6_odds_61 : decode cX6_odds 61 = .ok (.if_icmp .ge 35, 3) := by decide +kernel
theorem dX6_odds_64 : decode cX6_odds 64 = .ok (.iload 5, 2) := by decide +kernel
theorem dX6_odds_66 : decode cX6_odds 66 = .ok (.iconst 2, 1) := by decide +kernel
theorem dX6_odds_67 : decode cX6_odds 67 = .ok (.irem, 1) := by decide +kernel
theorem dX6_odds_68 : decode cX6_odds 68 = .ok (.ifCond .ne 28, 3) := by decide +kernel
theorem dX6_odds_71 : decode cX6_odds 71 = .ok (.iload 6, 2) := by decide +kernel
theorem dX6_odds_73 : decode cX6_odds 73 = .ok (.iconst 2, 1) := by decide +kernel
theorem dX6_odds_74 : decode cX6_odds 74 = .ok (.irem, 1) := by decide +kernel
theorem dX6_odds_75 : decode cX6_odds 75 = .ok (.ifCond .ne 21, 3) := by decide +kernel
theorem dX6_odds_78 : decode cX6_odds 78 = .ok (.iload 5, 2) := by decide +kernel
theorem dX6_odds_80 : decode cX6_odds 80 = .ok (.iconst 2, 1) := by decide +kernel
theorem dX6_odds_81 : decode cX6_odds 81 = .ok (.idiv, 1) := by decide +kernel
theorem dX6_odds_82 : decode cX6_odds 82 = .ok (.istore 5, 2) := by decide +kernel
theorem dX6_odds_84 : decode cX6_odds 84 = .ok (.iload 6, 2) := by decide +kernel
theorem dX6_odds_86 : decode cX6_odds 86 = .ok (.iconst 2, 1) := by decide +kernel
theorem dX6_odds_87 : decode cX6_odds 87 = .ok (.idiv, 1) := by decide +kernel
theorem dX6_odds_88 : decode cX6_odds 88 = .ok (.istore 6, 2) := by decide +kernel
theorem dX6_odds_90 : decode cX6_odds 90 = .ok (.iinc 7 1, 3) := by decide +kernel
theorem dX6_odds_93 : decode cX6_odds 93 = .ok (.goto (-36), 3) := by decide +kernel
theorem dX6_odds_96 : decode cX6_odds 96 = .ok (.iload_n 3, 1) := by decide +kernel
theorem dX6_odds_97 : decode cX6_odds 97 = .ok (.ifCond .ne 8, 3) := by decide +kernel
theorem dX6_odds_100 : decode cX6_odds 100 = .ok (.iload 5, 2) := by decide +kernel
theorem dX6_odds_102 : decode cX6_odds 102 = .ok (.goto 5, 3) := by decide +kernel
theorem dX6_odds_105 : decode cX6_odds 105 = .ok (.iload 6, 2) := by decide +kernel
theorem dX6_odds_107 : decode cX6_odds 107 = .ok (.iload_n 2, 1) := by decide +kernel
theorem dX6_odds_108 : decode cX6_odds 108 = .ok (.invokestatic 222, 3) := by decide +kernel
theorem dX6_odds_111 : decode cX6_odds 111 = .ok (.lreturn, 1) := by decide +kernel
theorem dX6_seed_0 : decode cX6_seed 0 = .ok (.aload_n 0, 1) := by decide +kernel
theorem dX6_seed_1 : decode cX6_seed 1 = .ok (.getfield 12, 3) := by decide +kernel
theorem dX6_seed_4 : decode cX6_seed 4 = .ok (.getfield 226, 3) := by decide +kernel
theorem dX6_seed_7 : decode cX6_seed 7 = .ok (.istore_n 2, 1) := by decide +kernel
theorem dX6_seed_8 : decode cX6_seed 8 = .ok (.aload_n 0, 1) := by decide +kernel
theorem dX6_seed_9 : decode cX6_seed 9 = .ok (.getfield 12, 3) := by decide +kernel
theorem dX6_seed_12 : decode cX6_seed 12 = .ok (.iload_n 1, 1) := by decide +kernel
theorem dX6_seed_13 : decode cX6_seed 13 = .ok (.putfield 226, 3) := by decide +kernel
theorem dX6_seed_16 : decode cX6_seed 16 = .ok (.iload_n 2, 1) := by decide +kernel
theorem dX6_seed_17 : decode cX6_seed 17 = .ok (.ireturn, 1) := by decide +kernel
theorem dX6_feed_0 : decode cX6_feed 0 = .ok (.iload_n 2, 1) := by decide +kernel
theorem dX6_feed_1 : decode cX6_feed 1 = .ok (.iconst 1, 1) := by decide +kernel
theorem dX6_feed_2 : decode cX6_feed 2 = .ok (.if_icmp .lt 8, 3) := by decide +kernel
theorem dX6_feed_5 : decode cX6_feed 5 = .ok (.iload_n 2, 1) := by decide +kernel
theorem dX6_feed_6 : decode cX6_feed 6 = .ok (.iconst 4, 1) := by decide +kernel
theorem dX6_feed_7 : decode cX6_feed 7 = .ok (.if_icmp .le 10, 3) := by decide +kernel
theorem dX6_feed_10 : decode cX6_feed 10 = .ok (.aload_n 0, 1) := by decide +kernel
theorem dX6_feed_11 : decode cX6_feed 11 = .ok (.ldc 59, 2) := by decide +kernel
theorem dX6_feed_13 : decode cX6_feed 13 = .ok (.invokevirtual 60, 3) := by decide +kernel
theorem dX6_feed_16 : decode cX6_feed 16 = .ok (.ireturn, 1) := by decide +kernel
theorem dX6_feed_17 : decode cX6_feed 17 = .ok (.aload_n 0, 1) := by decide +kernel
theorem dX6_feed_18 : decode cX6_feed 18 = .ok (.getfield 33, 3) := by decide +kernel
theorem dX6_feed_21 : decode cX6_feed 21 = .ok (.getfield 229, 3) := by decide +kernel
theorem dX6_feed_24 : decode cX6_feed 24 = .ok (.iload_n 1, 1) := by decide +kernel
theorem dX6_feed_25 : decode cX6_feed 25 = .ok (.iload_n 2, 1) := by decide +kernel
theorem dX6_feed_26 : decode cX6_feed 26 = .ok (.invokevirtual 233, 3) := by decide +kernel
theorem dX6_feed_29 : decode cX6_feed 29 = .ok (.ifCond .eq 16, 3) := by decide +kernel
theorem dX6_feed_32 : decode cX6_feed 32 = .ok (.aload_n 0, 1) := by decide +kernel
theorem dX6_feed_33 : decode cX6_feed 33 = .ok (.getfield 33, 3) := by decide +kernel
theorem dX6_feed_36 : decode cX6_feed 36 = .ok (.getfield 229, 3) := by decide +kernel
theorem dX6_feed_39 : decode cX6_feed 39 = .ok (.getfield 238, 3) := by decide +kernel
theorem dX6_feed_42 : decode cX6_feed 42 = .ok (.goto 9, 3) := by decide +kernel
theorem dX6_feed_45 : decode cX6_feed 45 = .ok (.aload_n 0, 1) := by decide +kernel
theorem dX6_feed_46 : decode cX6_feed 46 = .ok (.ldc 80, 2) := by decide +kernel
theorem dX6_feed_48 : decode cX6_feed 48 = .ok (.invokevirtual 60, 3) := by decide +kernel
theorem dX6_feed_51 : decode cX6_feed 51 = .ok (.ireturn, 1) := by decide +kernel
theorem dX6_wipe_0 : decode cX6_wipe 0 = .ok (.aload_n 0, 1) := by decide +kernel
theorem dX6_wipe_1 : decode cX6_wipe 1 = .ok (.getfield 33, 3) := by decide +kernel
theorem dX6_wipe_4 : decode cX6_wipe 4 = .ok (.getfield 229, 3) := by decide +kernel
theorem dX6_wipe_7 : decode cX6_wipe 7 = .ok (.invokevirtual 241, 3) := by decide +kernel
theorem dX6_wipe_10 : decode cX6_wipe 10 = .ok (.ireturn, 1) := by decide +kernel
theorem dX6_text_0 : decode cX6_text 0 = .ok (.aload_n 0, 1) := by decide +kernel
theorem dX6_text_1 : decode cX6_text 1 = .ok (.getfield 33, 3) := by decide +kernel
theorem dX6_text_4 : decode cX6_text 4 = .ok (.aload_n 0, 1) := by decide +kernel
theorem dX6_text_5 : decode cX6_text 5 = .ok (.getfield 26, 3) := by decide +kernel
theorem dX6_text_8 : decode cX6_text 8 = .ok (.aload_n 0, 1) := by decide +kernel
theorem dX6_text_9 : decode cX6_text 9 = .ok (.getfield 12, 3) := by decide +kernel
theorem dX6_text_12 : decode cX6_text 12 = .ok (.invokevirtual 244, 3) := by decide +kernel
theorem dX6_text_15 : decode cX6_text 15 = .ok (.invokevirtual 248, 3) := by decide +kernel
theorem dX6_text_18 : decode cX6_text 18 = .ok (.istore_n 1, 1) := by decide +kernel
theorem dX6_text_19 : decode cX6_text 19 = .ok (.iload_n 1, 1) := by decide +kernel
theorem dX6_text_20 : decode cX6_text 20 = .ok (.ifCond .le 17, 3) := by decide +kernel
theorem dX6_text_23 : decode cX6_text 23 = .ok (.aload_n 0, 1) := by decide +kernel
theorem dX6_text_24 : decode cX6_text 24 = .ok (.getfield 12, 3) := by decide +kernel
theorem dX6_text_27 : decode cX6_text 27 = .ok (.aload_n 0, 1) := by decide +kernel
theorem dX6_text_28 : decode cX6_text 28 = .ok (.getfield 26, 3) := by decide +kernel
theorem dX6_text_31 : decode cX6_text 31 = .ok (.getfield 252, 3) := by decide +kernel
theorem dX6_text_34 : decode cX6_text 34 = .ok (.invokevirtual 255, 3) := by decide +kernel
theorem dX6_text_37 : decode cX6_text 37 = .ok (.aload_n 0, 1) := by decide +kernel
theorem dX6_text_38 : decode cX6_text 38 = .ok (.getfield 33, 3) := by decide +kernel
theorem dX6_text_41 : decode cX6_text 41 = .ok (.getfield 229, 3) := by decide +kernel
theorem dX6_text_44 : decode cX6_text 44 = .ok (.invokevirtual 241, 3) := by decide +kernel
theorem dX6_text_47 : decode cX6_text 47 = .ok (.pop, 1) := by decide +kernel
theorem dX6_text_48 : decode cX6_text 48 = .ok (.iload_n 1, 1) := by decide +kernel
theorem dX6_text_49 : decode cX6_text 49 = .ok (.ireturn, 1) := by decide +kernel
theorem dX6_hold_0 : decode cX6_hold 0 = .ok (.iload_n 1, 1) := by decide +kernel
theorem dX6_hold_1 : decode cX6_hold 1 = .ok (.bipush 9, 2) := by decide +kernel
theorem dX6_hold_3 : decode cX6_hold 3 = .ok (.invokestatic 48, 3) := by decide +kernel
theorem dX6_hold_6 : decode cX6_hold 6 = .ok (.ifCond .eq 19, 3) := by decide +kernel
theorem dX6_hold_9 : decode cX6_hold 9 = .ok (.iload_n 2, 1) := by decide +kernel
theorem dX6_hold_10 : decode cX6_hold 10 = .ok (.iconst (-1), 1) := by decide +kernel
theorem dX6_hold_11 : decode cX6_hold 11 = .ok (.if_icmp .lt 14, 3) := by decide +kernel
theorem dX6_hold_14 : decode cX6_hold 14 = .ok (.iload_n 2, 1) := by decide +kernel
theorem dX6_hold_15 : decode cX6_hold 15 = .ok (.aload_n 0, 1) := by decide +kernel
theorem dX6_hold_16 : decode cX6_hold 16 = .ok (.getfield 12, 3) := by decide +kernel
theorem dX6_hold_19 : decode cX6_hold 19 = .ok (.getfield 259, 3) := by decide +kernel
theorem dX6_hold_22 : decode cX6_hold 22 = .ok (.if_icmp .lt 10, 3) := by decide +kernel
theorem dX6_hold_25 : decode cX6_hold 25 = .ok (.aload_n 0, 1) := by decide +kernel
theorem dX6_hold_26 : decode cX6_hold 26 = .ok (.ldc 59, 2) := by decide +kernel
theorem dX6_hold_28 : decode cX6_hold 28 = .ok (.invokevirtual 60, 3) := by decide +kernel
theorem dX6_hold_31 : decode cX6_hold 31 = .ok (.ireturn, 1) := by decide +kernel
theorem dX6_hold_32 : decode cX6_hold 32 = .ok (.aload_n 0, 1) := by decide +kernel
theorem dX6_hold_33 : decode cX6_hold 33 = .ok (.getfield 12, 3) := by decide +kernel
theorem dX6_hold_36 : decode cX6_hold 36 = .ok (.getfield 262, 3) := by decide +kernel
theorem dX6_hold_39 : decode cX6_hold 39 = .ok (.iload_n 1, 1) := by decide +kernel
theorem dX6_hold_40 : decode cX6_hold 40 = .ok (.iload_n 2, 1) := by decide +kernel
theorem dX6_hold_41 : decode cX6_hold 41 = .ok (.iastore, 1) := by decide +kernel
theorem dX6_hold_42 : decode cX6_hold 42 = .ok (.iconst 1, 1) := by decide +kernel
theorem dX6_hold_43 : decode cX6_hold 43 = .ok (.ireturn, 1) := by decide +kernel
theorem dX6_as_0 : decode cX6_as 0 = .ok (.iload_n 1, 1) := by decide +kernel
theorem dX6_as_1 : decode cX6_as 1 = .ok (.bipush 9, 2) := by decide +kernel
theorem dX6_as_3 : decode cX6_as 3 = .ok (.invokestatic 48, 3) := by decide +kernel
theorem dX6_as_6 : decode cX6_as 6 = .ok (.ifCond .eq 10, 3) := by decide +kernel
theorem dX6_as_9 : decode cX6_as 9 = .ok (.iload_n 2, 1) := by decide +kernel
theorem dX6_as_10 : decode cX6_as 10 = .ok (.invokestatic 71, 3) := by decide +kernel
theorem dX6_as_13 : decode cX6_as 13 = .ok (.ifCond .ne 10, 3) := by decide +kernel
theorem dX6_as_16 : decode cX6_as 16 = .ok (.aload_n 0, 1) := by decide +kernel
theorem dX6_as_17 : decode cX6_as 17 = .ok (.ldc 59, 2) := by decide +kernel
theorem dX6_as_19 : decode cX6_as 19 = .ok (.invokevirtual 60, 3) := by decide +kernel
theorem dX6_as_22 : decode cX6_as 22 = .ok (.ireturn, 1) := by decide +kernel
theorem dX6_as_23 : decode cX6_as 23 = .ok (.aload_n 0, 1) := by decide +kernel
theorem dX6_as_24 : decode cX6_as 24 = .ok (.getfield 12, 3) := by decide +kernel
theorem dX6_as_27 : decode cX6_as 27 = .ok (.getfield 262, 3) := by decide +kernel
theorem dX6_as_30 : decode cX6_as 30 = .ok (.iload_n 1, 1) := by decide +kernel
theorem dX6_as_31 : decode cX6_as 31 = .ok (.iaload, 1) := by decide +kernel
theorem dX6_as_32 : decode cX6_as 32 = .ok (.istore_n 3, 1) := by decide +kernel
theorem dX6_as_33 : decode cX6_as 33 = .ok (.aload_n 0, 1) := by decide +kernel
theorem dX6_as_34 : decode cX6_as 34 = .ok (.getfield 12, 3) := by decide +kernel
theorem dX6_as_37 : decode cX6_as 37 = .ok (.iload_n 3, 1) := by decide +kernel
theorem dX6_as_38 : decode cX6_as 38 = .ok (.invokevirtual 81, 3) := by decide +kernel
theorem dX6_as_41 : decode cX6_as 41 = .ok (.astore 4, 2) := by decide +kernel
theorem dX6_as_43 : decode cX6_as 43 = .ok (.aload 4, 2) := by decide +kernel
theorem dX6_as_45 : decode cX6_as 45 = .ok (.ifnonnull 11, 3) := by decide +kernel
theorem dX6_as_48 : decode cX6_as 48 = .ok (.aload_n 0, 1) := by decide +kernel
theorem dX6_as_49 : decode cX6_as 49 = .ok (.ldc_w 265, 3) := by decide +kernel
theorem dX6_as_52 : decode cX6_as 52 = .ok (.invokevirtual 60, 3) := by decide +kernel
theorem dX6_as_55 : decode cX6_as 55 = .ok (.ireturn, 1) := by decide +kernel
theorem dX6_as_56 : decode cX6_as 56 = .ok (.aload 4, 2) := by decide +kernel
theorem dX6_as_58 : decode cX6_as 58 = .ok (.iload_n 2, 1) := by decide +kernel
theorem dX6_as_59 : decode cX6_as 59 = .ok (.invokevirtual 266, 3) := by decide +kernel
theorem dX6_as_62 : decode cX6_as 62 = .ok (.ifCond .eq 7, 3) := by decide +kernel
theorem dX6_as_65 : decode cX6_as 65 = .ok (.iload_n 3, 1) := by decide +kernel
theorem dX6_as_66 : decode cX6_as 66 = .ok (.goto 10, 3) := by decide +kernel
theorem dX6_as_69 : decode cX6_as 69 = .ok (.aload_n 0, 1) := by decide +kernel
theorem dX6_as_70 : decode cX6_as 70 = .ok (.ldc_w 269, 3) := by decide +kernel
theorem dX6_as_73 : decode cX6_as 73 = .ok (.invokevirtual 60, 3) := by decide +kernel
theorem dX6_as_76 : decode cX6_as 76 = .ok (.ireturn, 1) := by decide +kernel
theorem dX6_sheet_0 : decode cX6_sheet 0 = .ok (.aload_n 0, 1) := by decide +kernel
theorem dX6_sheet_1 : decode cX6_sheet 1 = .ok (.iload_n 1, 1) := by decide +kernel
theorem dX6_sheet_2 : decode cX6_sheet 2 = .ok (.invokevirtual 180, 3) := by decide +kernel
theorem dX6_sheet_5 : decode cX6_sheet 5 = .ok (.astore 4, 2) := by decide +kernel
theorem dX6_sheet_7 : decode cX6_sheet 7 = .ok (.aload 4, 2) := by decide +kernel
theorem dX6_sheet_9 : decode cX6_sheet 9 = .ok (.ifnull 10, 3) := by decide +kernel
theorem dX6_sheet_12 : decode cX6_sheet 12 = .ok (.iload_n 2, 1) := by decide +kernel
theorem dX6_sheet_13 : decode cX6_sheet 13 = .ok (.invokestatic 270, 3) := by decide +kernel
theorem dX6_sheet_16 : decode cX6_sheet 16 = .ok (.ifCond .ne 10, 3) := by decide +kernel
theorem dX6_sheet_19 : decode cX6_sheet 19 = .ok (.aload_n 0, 1) := by decide +kernel
theorem dX6_sheet_20 : decode cX6_sheet 20 = .ok (.ldc 59, 2) := by decide +kernel
theorem dX6_sheet_22 : decode cX6_sheet 22 = .ok (.invokevirtual 60, 3) := by decide +kernel
theorem dX6_sheet_25 : decode cX6_sheet 25 = .ok (.ireturn, 1) := by decide +kernel
theorem dX6_sheet_26 : decode cX6_sheet 26 = .ok (.iload_n 3, 1) := by decide +kernel
theorem dX6_sheet_27 : decode cX6_sheet 27 = .ok (.ifCond .ge 11, 3) := by decide +kernel
theorem dX6_sheet_30 : decode cX6_sheet 30 = .ok (.aload_n 0, 1) := by decide +kernel
theorem dX6_sheet_31 : decode cX6_sheet 31 = .ok (.ldc_w 273, 3) := by decide +kernel
theorem dX6_sheet_34 : decode cX6_sheet 34 = .ok (.invokevirtual 60, 3) := by decide +kernel
theorem dX6_sheet_37 : decode cX6_sheet 37 = .ok (.ireturn, 1) := by decide +kernel
theorem dX6_sheet_38 : decode cX6_sheet 38 = .ok (.iload_n 3, 1) := by decide +kernel
theorem dX6_sheet_39 : decode cX6_sheet 39 = .ok (.bipush 40, 2) := by decide +kernel
theorem dX6_sheet_41 : decode cX6_sheet 41 = .ok (.if_icmp .le 10, 3) := by decide +kernel
theorem dX6_sheet_44 : decode cX6_sheet 44 = .ok (.aload_n 0, 1) := by decide +kernel
theorem dX6_sheet_45 : decode cX6_sheet 45 = .ok (.ldc 59, 2) := by decide +kernel
theorem dX6_sheet_47 : decode cX6_sheet 47 = .ok (.invokevirtual 60, 3) := by decide +kernel
theorem dX6_sheet_50 : decode cX6_sheet 50 = .ok (.ireturn, 1) := by decide +kernel
theorem dX6_sheet_51 : decode cX6_sheet 51 = .ok (.aload 4, 2) := by decide +kernel
theorem dX6_sheet_53 : decode cX6_sheet 53 = .ok (.iload_n 2, 1) := by decide +kernel
theorem dX6_sheet_54 : decode cX6_sheet 54 = .ok (.iload_n 3, 1) := by decide +kernel
theorem dX6_sheet_55 : decode cX6_sheet 55 = .ok (.invokevirtual 274, 3) := by decide +kernel
theorem dX6_sheet_58 : decode cX6_sheet 58 = .ok (.aload 4, 2) := by decide +kernel
theorem dX6_sheet_60 : decode cX6_sheet 60 = .ok (.getfield 277, 3) := by decide +kernel
theorem dX6_sheet_63 : decode cX6_sheet 63 = .ok (.ireturn, 1) := by decide +kernel
theorem dX6_write_0 : decode cX6_write 0 = .ok (.aload_n 0, 1) := by decide +kernel
theorem dX6_write_1 : decode cX6_write 1 = .ok (.iload_n 1, 1) := by decide +kernel
theorem dX6_write_2 : decode cX6_write 2 = .ok (.invokevirtual 180, 3) := by decide +kernel
theorem dX6_write_5 : decode cX6_write 5 = .ok (.astore 4, 2) := by decide +kernel
theorem dX6_write_7 : decode cX6_write 7 = .ok (.aload 4, 2) := by decide +kernel
theorem dX6_write_9 : decode cX6_write 9 = .ok (.invokestatic 280, 3) := by decide +kernel
theorem dX6_write_12 : decode cX6_write 12 = .ok (.istore 5, 2) := by decide +kernel
theorem dX6_write_14 : decode cX6_write 14 = .ok (.aload 4, 2) := by decide +kernel
theorem dX6_write_16 : decode cX6_write 16 = .ok (.ifnull 8, 3) := by decide +kernel
theorem dX6_write_19 : decode cX6_write 19 = .ok (.iload 5, 2) := by decide +kernel
theorem dX6_write_21 : decode cX6_write 21 = .ok (.ifCond .eq 10, 3) := by decide +kernel
theorem dX6_write_24 : decode cX6_write 24 = .ok (.aload_n 0, 1) := by decide +kernel
theorem dX6_write_25 : decode cX6_write 25 = .ok (.iload 5, 2) := by decide +kernel
theorem dX6_write_27 : decode cX6_write 27 = .ok (.invokevirtual 60, 3) := by decide +kernel
theorem dX6_write_30 : decode cX6_write 30 = .ok (.ireturn, 1) := by decide +kernel
theorem dX6_write_31 : decode cX6_write 31 = .ok (.aload 4, 2) := by decide +kernel
theorem dX6_write_33 : decode cX6_write 33 = .ok (.iload_n 2, 1) := by decide +kernel
theorem dX6_write_34 : decode cX6_write 34 = .ok (.iload_n 3, 1) := by decide +kernel
theorem dX6_write_35 : decode cX6_write 35 = .ok (.invokevirtual 284, 3) := by decide +kernel
theorem dX6_write_38 : decode cX6_write 38 = .ok (.ifCond .eq 7, 3) := by decide +kernel
theorem dX6_write_41 : decode cX6_write 41 = .ok (.iconst 1, 1) := by decide +kernel
theorem dX6_write_42 : decode cX6_write 42 = .ok (.goto 9, 3) := by decide +kernel
theorem dX6_write_45 : decode cX6_write 45 = .ok (.aload_n 0, 1) := by decide +kernel
theorem dX6_write_46 : decode cX6_write 46 = .ok (.ldc 59, 2) := by decide +kernel
theorem dX6_write_48 : decode cX6_write 48 = .ok (.invokevirtual 60, 3) := by decide +kernel
theorem dX6_write_51 : decode cX6_write 51 = .ok (.ireturn, 1) := by decide +kernel
theorem dX6_copy_0 : decode cX6_copy 0 = .ok (.aload_n 0, 1) := by decide +kernel
theorem dX6_copy_1 : decode cX6_copy 1 = .ok (.iload_n 1, 1) := by decide +kernel
theorem dX6_copy_2 : decode cX6_copy 2 = .ok (.invokevirtual 180, 3) := by decide +kernel
theorem dX6_copy_5 : decode cX6_copy 5 = .ok (.astore 6, 2) := by decide +kernel
theorem dX6_copy_7 : decode cX6_copy 7 = .ok (.aload_n 0, 1) := by decide +kernel
theorem dX6_copy_8 : decode cX6_copy 8 = .ok (.iload_n 3, 1) := by decide +kernel
theorem dX6_copy_9 : decode cX6_copy 9 = .ok (.invokevirtual 180, 3) := by decide +kernel
theorem dX6_copy_12 : decode cX6_copy 12 = .ok (.astore 7, 2) := by decide +kernel
theorem dX6_copy_14 : decode cX6_copy 14 = .ok (.aload 6, 2) := by decide +kernel
theorem dX6_copy_16 : decode cX6_copy 16 = .ok (.ifnull 8, 3) := by decide +kernel
theorem dX6_copy_19 : decode cX6_copy 19 = .ok (.aload 7, 2) := by decide +kernel
theorem dX6_copy_21 : decode cX6_copy 21 = .ok (.ifnonnull 10, 3) := by decide +kernel
theorem dX6_copy_24 : decode cX6_copy 24 = .ok (.aload_n 0, 1) := by decide +kernel
theorem dX6_copy_25 : decode cX6_copy 25 = .ok (.ldc 59, 2) := by decide +kernel
theorem dX6_copy_27 : decode cX6_copy 27 = .ok (.invokevirtual 60, 3) := by decide +kernel
theorem dX6_copy_30 : decode cX6_copy 30 = .ok (.ireturn, 1) := by decide +kernel
theorem dX6_copy_31 : decode cX6_copy 31 = .ok (.aload 6, 2) := by decide +kernel
theorem dX6_copy_33 : decode cX6_copy 33 = .ok (.invokevirtual 286, 3) := by decide +kernel
theorem dX6_copy_36 : decode cX6_copy 36 = .ok (.ifCond .ne 11, 3) := by decide +kernel
theorem dX6_copy_39 : decode cX6_copy 39 = .ok (.aload 7, 2) := by decide +kernel
theorem dX6_copy_41 : decode cX6_copy 41 = .ok (.invokevirtual 286, 3) := by decide +kernel
theorem dX6_copy_44 : decode cX6_copy 44 = .ok (.ifCond .eq 11, 3) := by decide +kernel
theorem dX6_copy_47 : decode cX6_copy 47 = .ok (.aload_n 0, 1) := by decide +kernel
theorem dX6_copy_48 : decode cX6_copy 48 = .ok (.ldc_w 265, 3) := by decide +kernel
theorem dX6_copy_51 : decode cX6_copy 51 = .ok (.invokevirtual 60, 3) := by decide +kernel
theorem dX6_copy_54 : decode cX6_copy 54 = .ok (.ireturn, 1) := by decide +kernel
theorem dX6_copy_55 : decode cX6_copy 55 = .ok (.aload 6, 2) := by decide +kernel
theorem dX6_copy_57 : decode cX6_copy 57 = .ok (.getfield 290, 3) := by decide +kernel
theorem dX6_copy_60 : decode cX6_copy 60 = .ok (.aload 7, 2) := by decide +kernel
theorem dX6_copy_62 : decode cX6_copy 62 = .ok (.getfield 290, 3) := by decide +kernel
theorem dX6_copy_65 : decode cX6_copy 65 = .ok (.if_icmp .eq 11, 3) := by decide +kernel
theorem dX6_copy_68 : decode cX6_copy 68 = .ok (.aload_n 0, 1) := by decide +kernel
theorem dX6_copy_69 : decode cX6_copy 69 = .ok (.ldc_w 269, 3) := by decide +kernel
theorem dX6_copy_72 : decode cX6_copy 72 = .ok (.invokevirtual 60, 3) := by decide +kernel
theorem dX6_copy_75 : decode cX6_copy 75 = .ok (.ireturn, 1) := by decide +kernel
theorem dX6_copy_76 : decode cX6_copy 76 = .ok (.aload 6, 2) := by decide +kernel
theorem dX6_copy_78 : decode cX6_copy 78 = .ok (.iload_n 2, 1) := by decide +kernel
theorem dX6_copy_79 : decode cX6_copy 79 = .ok (.iload 5, 2) := by decide +kernel
theorem dX6_copy_81 : decode cX6_copy 81 = .ok (.invokevirtual 293, 3) := by decide +kernel
theorem dX6_copy_84 : decode cX6_copy 84 = .ok (.ifCond .eq 15, 3) := by decide +kernel
theorem dX6_copy_87 : decode cX6_copy 87 = .ok (.aload 7, 2) := by decide +kernel
theorem dX6_copy_89 : decode cX6_copy 89 = .ok (.iload 4, 2) := by decide +kernel
theorem dX6_copy_91 : decode cX6_copy 91 = .ok (.iload 5, 2) := by decide +kernel
theorem dX6_copy_93 : decode cX6_copy 93 = .ok (.invokevirtual 293, 3) := by decide +kernel
theorem dX6_copy_96 : decode cX6_copy 96 = .ok (.ifCond .ne 10, 3) := by decide +kernel
theorem dX6_copy_99 : decode cX6_copy 99 = .ok (.aload_n 0, 1) := by decide +kernel
theorem dX6_copy_100 : decode cX6_copy 100 = .ok (.ldc 59, 2) := by decide +kernel
theorem dX6_copy_102 : decode cX6_copy 102 = .ok (.invokevirtual 60, 3) := by decide +kernel
theorem dX6_copy_105 : decode cX6_copy 105 = .ok (.ireturn, 1) := by decide +kernel
theorem dX6_copy_106 : decode cX6_copy 106 = .ok (.aload 6, 2) := by decide +kernel
theorem dX6_copy_108 : decode cX6_copy 108 = .ok (.getfield 296, 3) := by decide +kernel
theorem dX6_copy_111 : decode cX6_copy 111 = .ok (.iload_n 2, 1) := by decide +kernel
theorem dX6_copy_112 : decode cX6_copy 112 = .ok (.aload 7, 2) := by decide +kernel
theorem dX6_copy_114 : decode cX6_copy 114 = .ok (.getfield 296, 3) := by decide +kernel
theorem dX6_copy_117 : decode cX6_copy 117 = .ok (.iload 4, 2) := by decide +kernel
theorem dX6_copy_119 : decode cX6_copy 119 = .ok (.iload 5, 2) := by decide +kernel
theorem dX6_copy_121 : decode cX6_copy 121 = .ok (.invokestatic 299, 3) := by decide +kernel
theorem dX6_copy_124 : decode cX6_copy 124 = .ok (.iload 5, 2) := by decide +kernel
theorem dX6_copy_126 : decode cX6_copy 126 = .ok (.ireturn, 1) := by decide +kernel
theorem dX6_load_0 : decode cX6_load 0 = .ok (.aload_n 0, 1) := by decide +kernel
theorem dX6_load_1 : decode cX6_load 1 = .ok (.iload_n 1, 1) := by decide +kernel
theorem dX6_load_2 : decode cX6_load 2 = .ok (.invokevirtual 180, 3) := by decide +kernel
theorem dX6_load_5 : decode cX6_load 5 = .ok (.astore_n 2, 1) := by decide +kernel
theorem dX6_load_6 : decode cX6_load 6 = .ok (.aload_n 2, 1) := by decide +kernel
theorem dX6_load_7 : decode cX6_load 7 = .ok (.invokestatic 280, 3) := by decide +kernel
theorem dX6_load_10 : decode cX6_load 10 = .ok (.istore_n 3, 1) := by decide +kernel
theorem dX6_load_11 : decode cX6_load 11 = .ok (.aload_n 2, 1) := by decide +kernel
theorem dX6_load_12 : decode cX6_load 12 = .ok (.ifnull 7, 3) := by decide +kernel
theorem dX6_load_15 : decode cX6_load 15 = .ok (.iload_n 3, 1) := by decide +kernel
theorem dX6_load_16 : decode cX6_load 16 = .ok (.ifCond .eq 9, 3) := by decide +kernel
theorem dX6_load_19 : decode cX6_load 19 = .ok (.aload_n 0, 1) := by decide +kernel
theorem dX6_load_20 : decode cX6_load 20 = .ok (.iload_n 3, 1) := by decide +kernel
theorem dX6_load_21 : decode cX6_load 21 = .ok (.invokevirtual 60, 3) := by decide +kernel
theorem dX6_load_24 : decode cX6_load 24 = .ok (.ireturn, 1) := by decide +kernel
theorem dX6_load_25 : decode cX6_load 25 = .ok (.iconst 0, 1) := by decide +kernel
theorem dX6_load_26 : decode cX6_load 26 = .ok (.istore 4, 2) := by decide +kernel
theorem dX6_load_28 : decode cX6_load 28 = .ok (.iload 4, 2) := by decide +kernel
theorem dX6_load_30 : decode cX6_load 30 = .ok (.bipush 6, 2) := by decide +kernel
theorem dX6_load_32 : decode cX6_load 32 = .ok (.if_icmp .ge 48, 3) := by decide +kernel
theorem dX6_load_35 : decode cX6_load 35 = .ok (.iload 4, 2) := by decide +kernel
theorem dX6_load_37 : decode cX6_load 37 = .ok (.aload_n 2, 1) := by decide +kernel
theorem dX6_load_38 : decode cX6_load 38 = .ok (.getfield 277, 3) := by decide +kernel
theorem dX6_load_41 : decode cX6_load 41 = .ok (.if_icmp .ge 39, 3) := by decide +kernel
theorem dX6_load_44 : decode cX6_load 44 = .ok (.aload_n 2, 1) := by decide +kernel
theorem dX6_load_45 : decode cX6_load 45 = .ok (.getfield 296, 3) := by decide +kernel
theorem dX6_load_48 : decode cX6_load 48 = .ok (.iload 4, 2) := by decide +kernel
theorem dX6_load_50 : decode cX6_load 50 = .ok (.iaload, 1) := by decide +kernel
theorem dX6_load_51 : decode cX6_load 51 = .ok (.invokestatic 64, 3) := by decide +kernel
theorem dX6_load_54 : decode cX6_load 54 = .ok (.ifCond .eq 26, 3) := by decide +kernel
theorem dX6_load_57 : decode cX6_load 57 = .ok (.aload_n 0, 1) := by decide +kernel
theorem dX6_load_58 : decode cX6_load 58 = .ok (.getfield 12, 3) := by decide +kernel
theorem dX6_load_61 : decode cX6_load 61 = .ok (.getfield 68, 3) := by decide +kernel
theorem dX6_load_64 : decode cX6_load 64 = .ok (.iload 4, 2) := by decide +kernel
theorem dX6_load_66 : decode cX6_load 66 = .ok (.aload_n 2, 1) := by decide +kernel
theorem dX6_load_67 : decode cX6_load 67 = .ok (.getfield 296, 3) := by decide +kernel
theorem dX6_load_70 : decode cX6_load 70 = .ok (.iload 4, 2) := by decide +kernel
theorem dX6_load_72 : decode cX6_load 72 = .ok (.iaload, 1) := by decide +kernel
theorem dX6_load_73 : decode cX6_load 73 = .ok (.iastore, 1) := by decide +kernel
theorem dX6_load_74 : decode cX6_load 74 = .ok (.iinc 4 1, 3) := by decide +kernel
theorem dX6_load_77 : decode cX6_load 77 = .ok (.goto (-49), 3) := by decide +kernel
theorem dX6_load_80 : decode cX6_load 80 = .ok (.iload 4, 2) := by decide +kernel
theorem dX6_load_82 : decode cX6_load 82 = .ok (.ireturn, 1) := by decide +kernel
theorem dX6_judge_0 : decode cX6_judge 0 = .ok (.aload_n 0, 1) := by decide +kernel
theorem dX6_judge_1 : decode cX6_judge 1 = .ok (.iload_n 1, 1) := by decide +kernel
theorem dX6_judge_2 : decode cX6_judge 2 = .ok (.invokevirtual 180, 3) := by decide +kernel
theorem dX6_judge_5 : decode cX6_judge 5 = .ok (.astore_n 2, 1) := by decide +kernel
theorem dX6_judge_6 : decode cX6_judge 6 = .ok (.aload_n 2, 1) := by decide +kernel
theorem dX6_judge_7 : decode cX6_judge 7 = .ok (.invokestatic 280, 3) := by decide +kernel
theorem dX6_judge_10 : decode cX6_judge 10 = .ok (.istore_n 3, 1) := by decide +kernel
theorem dX6_judge_11 : decode cX6_judge 11 = .ok (.aload_n 2, 1) := by decide +kernel
theorem dX6_judge_12 : decode cX6_judge 12 = .ok (.ifnull 7, 3) := by decide +kernel
theorem dX6_judge_15 : decode cX6_judge 15 = .ok (.iload_n 3, 1) := by decide +kernel
theorem dX6_judge_16 : decode cX6_judge 16 = .ok (.ifCond .eq 9, 3) := by decide +kernel
theorem dX6_judge_19 : decode cX6_judge 19 = .ok (.aload_n 0, 1) := by decide +kernel
theorem dX6_judge_20 : decode cX6_judge 20 = .ok (.iload_n 3, 1) := by decide +kernel
theorem dX6_judge_21 : decode cX6_judge 21 = .ok (.invokevirtual 60, 3) := by decide +kernel
theorem dX6_judge_24 : decode cX6_judge 24 = .ok (.ireturn, 1) := by decide +kernel
theorem dX6_judge_25 : decode cX6_judge 25 = .ok (.iconst 0, 1) := by decide +kernel
theorem dX6_judge_26 : decode cX6_judge 26 = .ok (.istore 4, 2) := by decide +kernel
theorem dX6_judge_28 : decode cX6_judge 28 = .ok (.iload 4, 2) := by decide +kernel
theorem dX6_judge_30 : decode cX6_judge 30 = .ok (.aload_n 2, 1) := by decide +kernel
theorem dX6_judge_31 : decode cX6_judge 31 = .ok (.getfield 277, 3) := by decide +kernel
theorem dX6_judge_34 : decode cX6_judge 34 = .ok (.if_icmp .ge 45, 3) := by decide +kernel
theorem dX6_judge_37 : decode cX6_judge 37 = .ok (.aload_n 0, 1) := by decide +kernel
theorem dX6_judge_38 : decode cX6_judge 38 = .ok (.getfield 12, 3) := by decide +kernel
theorem dX6_judge_41 : decode cX6_judge 41 = .ok (.iload 4, 2) := by decide +kernel
theorem dX6_judge_43 : decode cX6_judge 43 = .ok (.invokevirtual 81, 3) := by decide +kernel
theorem dX6_judge_46 : decode cX6_judge 46 = .ok (.astore 5, 2) := by decide +kernel
theorem dX6_judge_48 : decode cX6_judge 48 = .ok (.aload 5, 2) := by decide +kernel
theorem dX6_judge_50 : decode cX6_judge 50 = .ok (.ifnull 18, 3) := by decide +kernel
theorem dX6_judge_53 : decode cX6_judge 53 = .ok (.aload_n 2, 1) := by decide +kernel
theorem dX6_judge_54 : decode cX6_judge 54 = .ok (.getfield 296, 3) := by decide +kernel
theorem dX6_judge_57 : decode cX6_judge 57 = .ok (.iload 4, 2) := by decide +kernel
theorem dX6_judge_59 : decode cX6_judge 59 = .ok (.iaload, 1) := by decide +kernel
theorem dX6_judge_60 : decode cX6_judge 60 = .ok (.aload 5, 2) := by decide +kernel
theorem dX6_judge_62 : decode cX6_judge 62 = .ok (.getfield 305, 3) := by decide +kernel
theorem dX6_judge_65 : decode cX6_judge 65 = .ok (.if_icmp .eq 8, 3) := by decide +kernel
theorem dX6_judge_68 : decode cX6_judge 68 = .ok (.iconst 1, 1) := by decide +kernel
theorem dX6_judge_69 : decode cX6_judge 69 = .ok (.iload 4, 2) := by decide +kernel
theorem dX6_judge_71 : decode cX6_judge 71 = .ok (.iadd, 1) := by decide +kernel
theorem dX6_judge_72 : decode cX6_judge 72 = .ok (.ireturn, 1) := by decide +kernel
theorem dX6_judge_73 : decode cX6_judge 73 = .ok (.iinc 4 1, 3) := by decide +kernel
theorem dX6_judge_76 : decode cX6_judge 76 = .ok (.goto (-48), 3) := by decide +kernel
theorem dX6_judge_79 : decode cX6_judge 79 = .ok (.iconst 0, 1) := by decide +kernel
theorem dX6_judge_80 : decode cX6_judge 80 = .ok (.ireturn, 1) := by decide +kernel
theorem dX6_image_0 : decode cX6_image 0 = .ok (.aload_n 0, 1) := by decide +kernel
theorem dX6_image_1 : decode cX6_image 1 = .ok (.getfield 16, 3) := by decide +kernel
theorem dX6_image_4 : decode cX6_image 4 = .ok (.aload_n 0, 1) := by decide +kernel
theorem dX6_image_5 : decode cX6_image 5 = .ok (.getfield 12, 3) := by decide +kernel
theorem dX6_image_8 : decode cX6_image 8 = .ok (.invokevirtual 255, 3) := by decide +kernel
theorem dX6_image_11 : decode cX6_image 11 = .ok (.aload_n 0, 1) := by decide +kernel
theorem dX6_image_12 : decode cX6_image 12 = .ok (.iconst 1, 1) := by decide +kernel
theorem dX6_image_13 : decode cX6_image 13 = .ok (.putfield 19, 3) := by decide +kernel
theorem dX6_image_16 : decode cX6_image 16 = .ok (.iconst 1, 1) := by decide +kernel
theorem dX6_image_17 : decode cX6_image 17 = .ok (.ireturn, 1) := by decide +kernel
theorem dX6_undo_0 : decode cX6_undo 0 = .ok (.aload_n 0, 1) := by decide +kernel
theorem dX6_undo_1 : decode cX6_undo 1 = .ok (.getfield 19, 3) := by decide +kernel
theorem dX6_undo_4 : decode cX6_undo 4 = .ok (.ifCond .ne 10, 3) := by decide +kernel
theorem dX6_undo_7 : decode cX6_undo 7 = .ok (.aload_n 0, 1) := by decide +kernel
theorem dX6_undo_8 : decode cX6_undo 8 = .ok (.ldc 198, 2) := by decide +kernel
theorem dX6_undo_10 : decode cX6_undo 10 = .ok (.invokevirtual 60, 3) := by decide +kernel
theorem dX6_undo_13 : decode cX6_undo 13 = .ok (.ireturn, 1) := by decide +kernel
theorem dX6_undo_14 : decode cX6_undo 14 = .ok (.aload_n 0, 1) := by decide +kernel
theorem dX6_undo_15 : decode cX6_undo 15 = .ok (.getfield 12, 3) := by decide +kernel
theorem dX6_undo_18 : decode cX6_undo 18 = .ok (.aload_n 0, 1) := by decide +kernel
theorem dX6_undo_19 : decode cX6_undo 19 = .ok (.getfield 16, 3) := by decide +kernel
theorem dX6_undo_22 : decode cX6_undo 22 = .ok (.invokevirtual 255, 3) := by decide +kernel
theorem dX6_undo_25 : decode cX6_undo 25 = .ok (.aload_n 0, 1) := by decide +kernel
theorem dX6_undo_26 : decode cX6_undo 26 = .ok (.getfield 12, 3) := by decide +kernel
theorem dX6_undo_29 : decode cX6_undo 29 = .ok (.getfield 119, 3) := by decide +kernel
theorem dX6_undo_32 : decode cX6_undo 32 = .ok (.ireturn, 1) := by decide +kernel
theorem dX6_tear_0 : decode cX6_tear 0 = .ok (.aload_n 0, 1) := by decide +kernel
theorem dX6_tear_1 : decode cX6_tear 1 = .ok (.getfield 19, 3) := by decide +kernel
theorem dX6_tear_4 : decode cX6_tear 4 = .ok (.ifCond .eq 7, 3) := by decide +kernel
theorem dX6_tear_7 : decode cX6_tear 7 = .ok (.iconst 1, 1) := by decide +kernel
theorem dX6_tear_8 : decode cX6_tear 8 = .ok (.goto 4, 3) := by decide +kernel
theorem dX6_tear_11 : decode cX6_tear 11 = .ok (.iconst 0, 1) := by decide +kernel
theorem dX6_tear_12 : decode cX6_tear 12 = .ok (.istore_n 1, 1) := by decide +kernel
theorem dX6_tear_13 : decode cX6_tear 13 = .ok (.aload_n 0, 1) := by decide +kernel
theorem dX6_tear_14 : decode cX6_tear 14 = .ok (.iconst 0, 1) := by decide +kernel
theorem dX6_tear_15 : decode cX6_tear 15 = .ok (.putfield 19, 3) := by decide +kernel
theorem dX6_tear_18 : decode cX6_tear 18 = .ok (.iload_n 1, 1) := by decide +kernel
theorem dX6_tear_19 : decode cX6_tear 19 = .ok (.ireturn, 1) := by decide +kernel
theorem dX6_count_0 : decode cX6_count 0 = .ok (.iload_n 1, 1) := by decide +kernel
theorem dX6_count_1 : decode cX6_count 1 = .ok (.tableswitch 118 0 7 #[47, 55, 63, 74, 82, 91, 102, 110], 47) := by decide +kernel
theorem dX6_count_48 : decode cX6_count 48 = .ok (.aload_n 0, 1) := by decide +kernel
theorem dX6_count_49 : decode cX6_count 49 = .ok (.getfield 12, 3) := by decide +kernel
theorem dX6_count_52 : decode cX6_count 52 = .ok (.getfield 119, 3) := by decide +kernel
theorem dX6_count_55 : decode cX6_count 55 = .ok (.ireturn, 1) := by decide +kernel
theorem dX6_count_56 : decode cX6_count 56 = .ok (.aload_n 0, 1) := by decide +kernel
theorem dX6_count_57 : decode cX6_count 57 = .ok (.getfield 12, 3) := by decide +kernel
theorem dX6_count_60 : decode cX6_count 60 = .ok (.getfield 259, 3) := by decide +kernel
theorem dX6_count_63 : decode cX6_count 63 = .ok (.ireturn, 1) := by decide +kernel
theorem dX6_count_64 : decode cX6_count 64 = .ok (.aload_n 0, 1) := by decide +kernel
theorem dX6_count_65 : decode cX6_count 65 = .ok (.getfield 12, 3) := by decide +kernel
theorem dX6_count_68 : decode cX6_count 68 = .ok (.getfield 56, 3) := by decide +kernel
theorem dX6_count_71 : decode cX6_count 71 = .ok (.invokestatic 218, 3) := by decide +kernel
theorem dX6_count_74 : decode cX6_count 74 = .ok (.ireturn, 1) := by decide +kernel
theorem dX6_count_75 : decode cX6_count 75 = .ok (.aload_n 0, 1) := by decide +kernel
theorem dX6_count_76 : decode cX6_count 76 = .ok (.getfield 12, 3) := by decide +kernel
theorem dX6_count_79 : decode cX6_count 79 = .ok (.getfield 128, 3) := by decide +kernel
theorem dX6_count_82 : decode cX6_count 82 = .ok (.ireturn, 1) := by decide +kernel
theorem dX6_count_83 : decode cX6_count 83 = .ok (.aload_n 0, 1) := by decide +kernel
theorem dX6_count_84 : decode cX6_count 84 = .ok (.getfield 12, 3) := by decide +kernel
theorem dX6_count_87 : decode cX6_count 87 = .ok (.iconst 5, 1) := by decide +kernel
theorem dX6_count_88 : decode cX6_count 88 = .ok (.invokevirtual 134, 3) := by decide +kernel
theorem dX6_count_91 : decode cX6_count 91 = .ok (.ireturn, 1) := by decide +kernel
theorem dX6_count_92 : decode cX6_count 92 = .ok (.aload_n 0, 1) := by decide +kernel
theorem dX6_count_93 : decode cX6_count 93 = .ok (.getfield 33, 3) := by decide +kernel
theorem dX6_count_96 : decode cX6_count 96 = .ok (.getfield 229, 3) := by decide +kernel
theorem dX6_count_99 : decode cX6_count 99 = .ok (.getfield 238, 3) := by decide +kernel
theorem dX6_count_102 : decode cX6_count 102 = .ok (.ireturn, 1) := by decide +kernel
theorem dX6_count_103 : decode cX6_count 103 = .ok (.aload_n 0, 1) := by decide +kernel
theorem dX6_count_104 : decode cX6_count 104 = .ok (.getfield 12, 3) := by decide +kernel
theorem dX6_count_107 : decode cX6_count 107 = .ok (.getfield 226, 3) := by decide +kernel
theorem dX6_count_110 : decode cX6_count 110 = .ok (.ireturn, 1) := by decide +kernel
theorem dX6_count_111 : decode cX6_count 111 = .ok (.aload_n 0, 1) := by decide +kernel
theorem dX6_count_112 : decode cX6_count 112 = .ok (.getfield 12, 3) := by decide +kernel
theorem dX6_count_115 : decode cX6_count 115 = .ok (.invokevirtual 308, 3) := by decide +kernel
theorem dX6_count_118 : decode cX6_count 118 = .ok (.ireturn, 1) := by decide +kernel
theorem dX6_count_119 : decode cX6_count 119 = .ok (.aload_n 0, 1) := by decide +kernel
theorem dX6_count_120 : decode cX6_count 120 = .ok (.ldc 59, 2) := by decide +kernel
theorem dX6_count_122 : decode cX6_count 122 = .ok (.invokevirtual 60, 3) := by decide +kernel
theorem dX6_count_125 : decode cX6_count 125 = .ok (.ireturn, 1) := by decide +kernel
theorem dX6_status_0 : decode cX6_status 0 = .ok (.iload_n 1, 1) := by decide +kernel
theorem dX6_status_1 : decode cX6_status 1 = .ok (.iconst (-1), 1) := by decide +kernel
theorem dX6_status_2 : decode cX6_status 2 = .ok (.if_icmp .ne 30, 3) := by decide +kernel
theorem dX6_status_5 : decode cX6_status 5 = .ok (.iconst 0, 1) := by decide +kernel
theorem dX6_status_6 : decode cX6_status 6 = .ok (.istore_n 2, 1) := by decide +kernel
theorem dX6_status_7 : decode cX6_status 7 = .ok (.iconst 0, 1) := by decide +kernel
theorem dX6_status_8 : decode cX6_status 8 = .ok (.istore_n 3, 1) := by decide +kernel
theorem dX6_status_9 : decode cX6_status 9 = .ok (.iload_n 3, 1) := by decide +kernel
theorem dX6_status_10 : decode cX6_status 10 = .ok (.bipush 7, 2) := by decide +kernel
theorem dX6_status_12 : decode cX6_status 12 = .ok (.if_icmp .ge 18, 3) := by decide +kernel
theorem dX6_status_15 : decode cX6_status 15 = .ok (.iload_n 2, 1) := by decide +kernel
theorem dX6_status_16 : decode cX6_status 16 = .ok (.aload_n 0, 1) := by decide +kernel
theorem dX6_status_17 : decode cX6_status 17 = .ok (.getfield 43, 3) := by decide +kernel
theorem dX6_status_20 : decode cX6_status 20 = .ok (.iload_n 3, 1) := by decide +kernel
theorem dX6_status_21 : decode cX6_status 21 = .ok (.iaload, 1) := by decide +kernel
theorem dX6_status_22 : decode cX6_status 22 = .ok (.iadd, 1) := by decide +kernel
theorem dX6_status_23 : decode cX6_status 23 = .ok (.istore_n 2, 1) := by decide +kernel
theorem dX6_status_24 : decode cX6_status 24 = .ok (.iinc 3 1, 3) := by decide +kernel
theorem dX6_status_27 : decode cX6_status 27 = .ok (.goto (-18), 3) := by decide +kernel
theorem dX6_status_30 : decode cX6_status 30 = .ok (.iload_n 2, 1) := by decide +kernel
theorem dX6_status_31 : decode cX6_status 31 = .ok (.ireturn, 1) := by decide +kernel
theorem dX6_status_32 : decode cX6_status 32 = .ok (.iload_n 1, 1) := by decide +kernel
theorem dX6_status_33 : decode cX6_status 33 = .ok (.bipush 6, 2) := by decide +kernel
theorem dX6_status_35 : decode cX6_status 35 = .ok (.invokestatic 48, 3) := by decide +kernel
theorem dX6_status_38 : decode cX6_status 38 = .ok (.ifCond .eq 12, 3) := by decide +kernel
theorem dX6_status_41 : decode cX6_status 41 = .ok (.aload_n 0, 1) := by decide +kernel
theorem dX6_status_42 : decode cX6_status 42 = .ok (.getfield 43, 3) := by decide +kernel
theorem dX6_status_45 : decode cX6_status 45 = .ok (.iload_n 1, 1) := by decide +kernel
theorem dX6_status_46 : decode cX6_status 46 = .ok (.iaload, 1) := by decide +kernel
theorem dX6_status_47 : decode cX6_status 47 = .ok (.goto 9, 3) := by decide +kernel
theorem dX6_status_50 : decode cX6_status 50 = .ok (.aload_n 0, 1) := by decide +kernel
theorem dX6_status_51 : decode cX6_status 51 = .ok (.ldc 59, 2) := by decide +kernel
theorem dX6_status_53 : decode cX6_status 53 = .ok (.invokevirtual 60, 3) := by decide +kernel
theorem dX6_status_56 : decode cX6_status 56 = .ok (.ireturn, 1) := by decide +kernel
theorem dX6_tell_0 : decode cX6_tell 0 = .ok (.ldc 59, 2) := by decide +kernel
theorem dX6_tell_2 : decode cX6_tell 2 = .ok (.iload_n 1, 1) := by decide +kernel
theorem dX6_tell_3 : decode cX6_tell 3 = .ok (.isub, 1) := by decide +kernel
theorem dX6_tell_4 : decode cX6_tell 4 = .ok (.istore_n 2, 1) := by decide +kernel
theorem dX6_tell_5 : decode cX6_tell 5 = .ok (.iload_n 2, 1) := by decide +kernel
theorem dX6_tell_6 : decode cX6_tell 6 = .ok (.bipush 6, 2) := by decide +kernel
theorem dX6_tell_8 : decode cX6_tell 8 = .ok (.invokestatic 48, 3) := by decide +kernel
theorem dX6_tell_11 : decode cX6_tell 11 = .ok (.ifCond .eq 13, 3) := by decide +kernel
theorem dX6_tell_14 : decode cX6_tell 14 = .ok (.aload_n 0, 1) := by decide +kernel
theorem dX6_tell_15 : decode cX6_tell 15 = .ok (.getfield 43, 3) := by decide +kernel
theorem dX6_tell_18 : decode cX6_tell 18 = .ok (.iload_n 2, 1) := by decide +kernel
theorem dX6_tell_19 : decode cX6_tell 19 = .ok (.dup2, 1) := by decide +kernel
theorem dX6_tell_20 : decode cX6_tell 20 = .ok (.iaload, 1) := by decide +kernel
theorem dX6_tell_21 : decode cX6_tell 21 = .ok (.iconst 1, 1) := by decide +kernel
theorem dX6_tell_22 : decode cX6_tell 22 = .ok (.iadd, 1) := by decide +kernel
theorem dX6_tell_23 : decode cX6_tell 23 = .ok (.iastore, 1) := by decide +kernel
theorem dX6_tell_24 : decode cX6_tell 24 = .ok (.iload_n 1, 1) := by decide +kernel
theorem dX6_tell_25 : decode cX6_tell 25 = .ok (.ireturn, 1) := by decide +kernel
theorem dX6_orNone_0 : decode cX6_orNone 0 = .ok (.iload_n 1, 1) := by decide +kernel
theorem dX6_orNone_1 : decode cX6_orNone 1 = .ok (.ifCond .ge 12, 3) := by decide +kernel
theorem dX6_orNone_4 : decode cX6_orNone 4 = .ok (.aload_n 0, 1) := by decide +kernel
theorem dX6_orNone_5 : decode cX6_orNone 5 = .ok (.ldc 198, 2) := by decide +kernel
theorem dX6_orNone_7 : decode cX6_orNone 7 = .ok (.invokevirtual 60, 3) := by decide +kernel
theorem dX6_orNone_10 : decode cX6_orNone 10 = .ok (.goto 4, 3) := by decide +kernel
theorem dX6_orNone_13 : decode cX6_orNone 13 = .ok (.iload_n 1, 1) := by decide +kernel
theorem dX6_orNone_14 : decode cX6_orNone 14 = .ok (.ireturn, 1) := by decide +kernel
theorem dX6_sheetAt_0 : decode cX6_sheetAt 0 = .ok (.iload_n 1, 1) := by decide +kernel
theorem dX6_sheetAt_1 : decode cX6_sheetAt 1 = .ok (.iconst 3, 1) := by decide +kernel
theorem dX6_sheetAt_2 : decode cX6_sheetAt 2 = .ok (.invokestatic 48, 3) := by decide +kernel
theorem dX6_sheetAt_5 : decode cX6_sheetAt 5 = .ok (.ifCond .eq 12, 3) := by decide +kernel
theorem dX6_sheetAt_8 : decode cX6_sheetAt 8 = .ok (.aload_n 0, 1) := by decide +kernel
theorem dX6_sheetAt_9 : decode cX6_sheetAt 9 = .ok (.getfield 39, 3) := by decide +kernel
theorem dX6_sheetAt_12 : decode cX6_sheetAt 12 = .ok (.iload_n 1, 1) := by decide +kernel
theorem dX6_sheetAt_13 : decode cX6_sheetAt 13 = .ok (.aaload, 1) := by decide +kernel
theorem dX6_sheetAt_14 : decode cX6_sheetAt 14 = .ok (.goto 4, 3) := by decide +kernel
theorem dX6_sheetAt_17 : decode cX6_sheetAt 17 = .ok (.aconst_null, 1) := by decide +kernel
theorem dX6_sheetAt_18 : decode cX6_sheetAt 18 = .ok (.areturn, 1) := by decide +kernel
theorem dX6_wrongSheet_0 : decode cX6_wrongSheet 0 = .ok (.aload_n 0, 1) := by decide +kernel
theorem dX6_wrongSheet_1 : decode cX6_wrongSheet 1 = .ok (.ifnonnull 6, 3) := by decide +kernel
theorem dX6_wrongSheet_4 : decode cX6_wrongSheet 4 = .ok (.ldc 59, 2) := by decide +kernel
theorem dX6_wrongSheet_6 : decode cX6_wrongSheet 6 = .ok (.ireturn, 1) := by decide +kernel
theorem dX6_wrongSheet_7 : decode cX6_wrongSheet 7 = .ok (.aload_n 0, 1) := by decide +kernel
theorem dX6_wrongSheet_8 : decode cX6_wrongSheet 8 = .ok (.invokevirtual 286, 3) := by decide +kernel
theorem dX6_wrongSheet_11 : decode cX6_wrongSheet 11 = .ok (.ifCond .eq 9, 3) := by decide +kernel
theorem dX6_wrongSheet_14 : decode cX6_wrongSheet 14 = .ok (.ldc_w 265, 3) := by decide +kernel
theorem dX6_wrongSheet_17 : decode cX6_wrongSheet 17 = .ok (.goto 4, 3) := by decide +kernel
theorem dX6_wrongSheet_20 : decode cX6_wrongSheet 20 = .ok (.iconst 0, 1) := by decide +kernel
theorem dX6_wrongSheet_21 : decode cX6_wrongSheet 21 = .ok (.ireturn, 1) := by decide +kernel
theorem dX6_wrongFulness_0 : decode cX6_wrongFulness 0 = .ok (.aload_n 1, 1) := by decide +kernel
theorem dX6_wrongFulness_1 : decode cX6_wrongFulness 1 = .ok (.invokestatic 280, 3) := by decide +kernel
theorem dX6_wrongFulness_4 : decode cX6_wrongFulness 4 = .ok (.istore_n 3, 1) := by decide +kernel
theorem dX6_wrongFulness_5 : decode cX6_wrongFulness 5 = .ok (.iload_n 3, 1) := by decide +kernel
theorem dX6_wrongFulness_6 : decode cX6_wrongFulness 6 = .ok (.ifCond .eq 5, 3) := by decide +kernel
theorem dX6_wrongFulness_9 : decode cX6_wrongFulness 9 = .ok (.iload_n 3, 1) := by decide +kernel
theorem dX6_wrongFulness_10 : decode cX6_wrongFulness 10 = .ok (.ireturn, 1) := by decide +kernel
theorem dX6_wrongFulness_11 : decode cX6_wrongFulness 11 = .ok (.aload_n 0, 1) := by decide +kernel
theorem dX6_wrongFulness_12 : decode cX6_wrongFulness 12 = .ok (.getfield 12, 3) := by decide +kernel
theorem dX6_wrongFulness_15 : decode cX6_wrongFulness 15 = .ok (.iload_n 2, 1) := by decide +kernel
theorem dX6_wrongFulness_16 : decode cX6_wrongFulness 16 = .ok (.invokevirtual 81, 3) := by decide +kernel
theorem dX6_wrongFulness_19 : decode cX6_wrongFulness 19 = .ok (.ifnonnull 8, 3) := by decide +kernel
theorem dX6_wrongFulness_22 : decode cX6_wrongFulness 22 = .ok (.ldc 59, 2) := by decide +kernel
theorem dX6_wrongFulness_24 : decode cX6_wrongFulness 24 = .ok (.goto 4, 3) := by decide +kernel
theorem dX6_wrongFulness_27 : decode cX6_wrongFulness 27 = .ok (.iconst 0, 1) := by decide +kernel
theorem dX6_wrongFulness_28 : decode cX6_wrongFulness 28 = .ok (.ireturn, 1) := by decide +kernel
theorem dX6_within_0 : decode cX6_within 0 = .ok (.iload_n 0, 1) := by decide +kernel
theorem dX6_within_1 : decode cX6_within 1 = .ok (.ifCond .lt 12, 3) := by decide +kernel
theorem dX6_within_4 : decode cX6_within 4 = .ok (.iload_n 0, 1) := by decide +kernel
theorem dX6_within_5 : decode cX6_within 5 = .ok (.iload_n 1, 1) := by decide +kernel
theorem dX6_within_6 : decode cX6_within 6 = .ok (.if_icmp .gt 7, 3) := by decide +kernel
theorem dX6_within_9 : decode cX6_within 9 = .ok (.iconst 1, 1) := by decide +kernel
theorem dX6_within_10 : decode cX6_within 10 = .ok (.goto 4, 3) := by decide +kernel
theorem dX6_within_13 : decode cX6_within 13 = .ok (.iconst 0, 1) := by decide +kernel
theorem dX6_within_14 : decode cX6_within 14 = .ok (.ireturn, 1) := by decide +kernel
theorem dX6_isConfession_0 : decode cX6_isConfession 0 = .ok (.iload_n 0, 1) := by decide +kernel
theorem dX6_isConfession_1 : decode cX6_isConfession 1 = .ok (.ifCond .lt 25, 3) := by decide +kernel
theorem dX6_isConfession_4 : decode cX6_isConfession 4 = .ok (.iload_n 0, 1) := by decide +kernel
theorem dX6_isConfession_5 : decode cX6_isConfession 5 = .ok (.invokestatic 96, 3) := by decide +kernel
theorem dX6_isConfession_8 : decode cX6_isConfession 8 = .ok (.bipush 8, 2) := by decide +kernel
theorem dX6_isConfession_10 : decode cX6_isConfession 10 = .ok (.if_icmp .ge 16, 3) := by decide +kernel
theorem dX6_isConfession_13 : decode cX6_isConfession 13 = .ok (.iload_n 0, 1) := by decide +kernel
theorem dX6_isConfession_14 : decode cX6_isConfession 14 = .ok (.invokestatic 99, 3) := by decide +kernel
theorem dX6_isConfession_17 : decode cX6_isConfession 17 = .ok (.bipush 40, 2) := by decide +kernel
theorem dX6_isConfession_19 : decode cX6_isConfession 19 = .ok (.if_icmp .gt 7, 3) := by decide +kernel
theorem dX6_isConfession_22 : decode cX6_isConfession 22 = .ok (.iconst 1, 1) := by decide +kernel
theorem dX6_isConfession_23 : decode cX6_isConfession 23 = .ok (.goto 4, 3) := by decide +kernel
theorem dX6_isConfession_26 : decode cX6_isConfession 26 = .ok (.iconst 0, 1) := by decide +kernel
theorem dX6_isConfession_27 : decode cX6_isConfession 27 = .ok (.ireturn, 1) := by decide +kernel
theorem dX6_confessionOf_0 : decode cX6_confessionOf 0 = .ok (.bipush 100, 2) := by decide +kernel
theorem dX6_confessionOf_2 : decode cX6_confessionOf 2 = .ok (.iload_n 0, 1) := by decide +kernel
theorem dX6_confessionOf_3 : decode cX6_confessionOf 3 = .ok (.imul, 1) := by decide +kernel
theorem dX6_confessionOf_4 : decode cX6_confessionOf 4 = .ok (.iload_n 1, 1) := by decide +kernel
theorem dX6_confessionOf_5 : decode cX6_confessionOf 5 = .ok (.iadd, 1) := by decide +kernel
theorem dX6_confessionOf_6 : decode cX6_confessionOf 6 = .ok (.ireturn, 1) := by decide +kernel
theorem dX6_sinOf_0 : decode cX6_sinOf 0 = .ok (.iload_n 0, 1) := by decide +kernel
theorem dX6_sinOf_1 : decode cX6_sinOf 1 = .ok (.bipush 100, 2) := by decide +kernel
theorem dX6_sinOf_3 : decode cX6_sinOf 3 = .ok (.idiv, 1) := by decide +kernel
theorem dX6_sinOf_4 : decode cX6_sinOf 4 = .ok (.ireturn, 1) := by decide +kernel
theorem dX6_wordsOf_0 : decode cX6_wordsOf 0 = .ok (.iload_n 0, 1) := by decide +kernel
theorem dX6_wordsOf_1 : decode cX6_wordsOf 1 = .ok (.bipush 100, 2) := by decide +kernel
theorem dX6_wordsOf_3 : decode cX6_wordsOf 3 = .ok (.irem, 1) := by decide +kernel
theorem dX6_wordsOf_4 : decode cX6_wordsOf 4 = .ok (.ireturn, 1) := by decide +kernel
theorem dX6_changesByDays_0 : decode cX6_changesByDays 0 = .ok (.iload_n 0, 1) := by decide +kernel
theorem dX6_changesByDays_1 : decode cX6_changesByDays 1 = .ok (.iconst 1, 1) := by decide +kernel
theorem dX6_changesByDays_2 : decode cX6_changesByDays 2 = .ok (.if_icmp .eq 24, 3) := by decide +kernel
theorem dX6_changesByDays_5 : decode cX6_changesByDays 5 = .ok (.iload_n 0, 1) := by decide +kernel
theorem dX6_changesByDays_6 : decode cX6_changesByDays 6 = .ok (.iconst 3, 1) := by decide +kernel
theorem dX6_changesByDays_7 : decode cX6_changesByDays 7 = .ok (.if_icmp .eq 19, 3) := by decide +kernel
theorem dX6_changesByDays_10 : decode cX6_changesByDays 10 = .ok (.iload_n 0, 1) := by decide +kernel
theorem dX6_changesByDays_11 : decode cX6_changesByDays 11 = .ok (.iconst 4, 1) := by decide +kernel
theorem dX6_changesByDays_12 : decode cX6_changesByDays 12 = .ok (.if_icmp .eq 14, 3) := by decide +kernel
theorem dX6_changesByDays_15 : decode cX6_changesByDays 15 = .ok (.iload_n 0, 1) := by decide +kernel
theorem dX6_changesByDays_16 : decode cX6_changesByDays 16 = .ok (.iconst 5, 1) := by decide +kernel
theorem dX6_changesByDays_17 : decode cX6_changesByDays 17 = .ok (.if_icmp .eq 9, 3) := by decide +kernel
theorem dX6_changesByDays_20 : decode cX6_changesByDays 20 = .ok (.iload_n 0, 1) := by decide +kernel
theorem dX6_changesByDays_21 : decode cX6_changesByDays 21 = .ok (.bipush 6, 2) := by decide +kernel
theorem dX6_changesByDays_23 : decode cX6_changesByDays 23 = .ok (.if_icmp .ne 7, 3) := by decide +kernel
theorem dX6_changesByDays_26 : decode cX6_changesByDays 26 = .ok (.iconst 1, 1) := by decide +kernel
theorem dX6_changesByDays_27 : decode cX6_changesByDays 27 = .ok (.goto 4, 3) := by decide +kernel
theorem dX6_changesByDays_30 : decode cX6_changesByDays 30 = .ok (.iconst 0, 1) := by decide +kernel
theorem dX6_changesByDays_31 : decode cX6_changesByDays 31 = .ok (.ireturn, 1) := by decide +kernel
theorem dX6_power_0 : decode cX6_power 0 = .ok (.lconst 1, 1) := by decide +kernel
theorem dX6_power_1 : decode cX6_power 1 = .ok (.lstore_n 2, 1) := by decide +kernel
theorem dX6_power_2 : decode cX6_power 2 = .ok (.iconst 0, 1) := by decide +kernel
theorem dX6_power_3 : decode cX6_power 3 = .ok (.istore 4, 2) := by decide +kernel
theorem dX6_power_5 : decode cX6_power 5 = .ok (.iload 4, 2) := by decide +kernel
theorem dX6_power_7 : decode cX6_power 7 = .ok (.iload_n 1, 1) := by decide +kernel
theorem dX6_power_8 : decode cX6_power 8 = .ok (.if_icmp .ge 14, 3) := by decide +kernel
theorem dX6_power_11 : decode cX6_power 11 = .ok (.lload_n 2, 1) := by decide +kernel
theorem dX6_power_12 : decode cX6_power 12 = .ok (.iload_n 0, 1) := by decide +kernel
theorem dX6_power_13 : decode cX6_power 13 = .ok (.i2l, 1) := by decide +kernel
theorem dX6_power_14 : decode cX6_power 14 = .ok (.lmul, 1) := by decide +kernel
theorem dX6_power_15 : decode cX6_power 15 = .ok (.lstore_n 2, 1) := by decide +kernel
theorem dX6_power_16 : decode cX6_power 16 = .ok (.iinc 4 1, 3) := by decide +kernel
theorem dX6_power_19 : decode cX6_power 19 = .ok (.goto (-14), 3) := by decide +kernel
theorem dX6_power_22 : decode cX6_power 22 = .ok (.lload_n 2, 1) := by decide +kernel
theorem dX6_power_23 : decode cX6_power 23 = .ok (.lreturn, 1) := by decide +kernel
theorem dX7_init_0 : decode cX7_init 0 = .ok (.aload_n 0, 1) := by decide +kernel
theorem dX7_init_1 : decode cX7_init 1 = .ok (.invokespecial 1, 3) := by decide +kernel
theorem dX7_init_4 : decode cX7_init 4 = .ok (.aload_n 0, 1) := by decide +kernel
theorem dX7_init_5 : decode cX7_init 5 = .ok (.bipush 70, 2) := by decide +kernel
theorem dX7_init_7 : decode cX7_init 7 = .ok (.newarray .int, 2) := by decide +kernel
theorem dX7_init_9 : decode cX7_init 9 = .ok (.putfield 7, 3) := by decide +kernel
theorem dX7_init_12 : decode cX7_init 12 = .ok (.aload_n 0, 1) := by decide +kernel
theorem dX7_init_13 : decode cX7_init 13 = .ok (.bipush 70, 2) := by decide +kernel
theorem dX7_init_15 : decode cX7_init 15 = .ok (.newarray .int, 2) := by decide +kernel
theorem dX7_init_17 : decode cX7_init 17 = .ok (.putfield 13, 3) := by decide +kernel
theorem dX7_init_20 : decode cX7_init 20 = .ok (.aload_n 0, 1) := by decide +kernel
theorem dX7_init_21 : decode cX7_init 21 = .ok (.bipush 70, 2) := by decide +kernel
theorem dX7_init_23 : decode cX7_init 23 = .ok (.newarray .int, 2) := by decide +kernel
theorem dX7_init_25 : decode cX7_init 25 = .ok (.putfield 16, 3) := by decide +kernel
theorem dX7_init_28 : decode cX7_init 28 = .ok (.aload_n 0, 1) := by decide +kernel
theorem dX7_init_29 : decode cX7_init 29 = .ok (.bipush 70, 2) := by decide +kernel
theorem dX7_init_31 : decode cX7_init 31 = .ok (.newarray .int, 2) := by decide +kernel
theorem dX7_init_33 : decode cX7_init 33 = .ok (.putfield 19, 3) := by decide +kernel
theorem dX7_init_36 : decode cX7_init 36 = .ok (.aload_n 0, 1) := by decide +kernel
theorem dX7_init_37 : decode cX7_init 37 = .ok (.bipush 7, 2) := by decide +kernel
theorem dX7_init_39 : decode cX7_init 39 = .ok (.newarray .int, 2) := by decide +kernel
theorem dX7_init_41 : decode cX7_init 41 = .ok (.putfield 22, 3) := by decide +kernel
theorem dX7_init_44 : decode cX7_init 44 = .ok (.aload_n 0, 1) := by decide +kernel
theorem dX7_init_45 : decode cX7_init 45 = .ok (.bipush 120, 2) := by decide +kernel
theorem dX7_init_47 : decode cX7_init 47 = .ok (.newarray .byte, 2) := by decide +kernel
theorem dX7_init_49 : decode cX7_init 49 = .ok (.putfield 25, 3) := by decide +kernel
theorem dX7_init_52 : decode cX7_init 52 = .ok (.aload_n 0, 1) := by decide +kernel
theorem dX7_init_53 : decode cX7_init 53 = .ok (.iconst 4, 1) := by decide +kernel
theorem dX7_init_54 : decode cX7_init 54 = .ok (.newarray .int, 2) := by decide +kernel
theorem dX7_init_56 : decode cX7_init 56 = .ok (.putfield 29, 3) := by decide +kernel
theorem dX7_init_59 : decode cX7_init 59 = .ok (.aload_n 0, 1) := by decide +kernel
theorem dX7_init_60 : decode cX7_init 60 = .ok (.iconst 4, 1) := by decide +kernel
theorem dX7_init_61 : decode cX7_init 61 = .ok (.newarray .int, 2) := by decide +kernel
theorem dX7_init_63 : decode cX7_init 63 = .ok (.putfield 32, 3) := by decide +kernel
theorem dX7_init_66 : decode cX7_init 66 = .ok (.aload_n 0, 1) := by decide +kernel
theorem dX7_init_67 : decode cX7_init 67 = .ok (.sipush 160, 3) := by decide +kernel
theorem dX7_init_70 : decode cX7_init 70 = .ok (.newarray .int, 2) := by decide +kernel
theorem dX7_init_72 : decode cX7_init 72 = .ok (.putfield 35, 3) := by decide +kernel
theorem dX7_init_75 : decode cX7_init 75 = .ok (.aload_n 0, 1) := by decide +kernel
theorem dX7_init_76 : decode cX7_init 76 = .ok (.bipush 40, 2) := by decide +kernel
theorem dX7_init_78 : decode cX7_init 78 = .ok (.newarray .int, 2) := by decide +kernel
theorem dX7_init_80 : decode cX7_init 80 = .ok (.putfield 38, 3) := by decide +kernel
theorem dX7_init_83 : decode cX7_init 83 = .ok (.aload_n 0, 1) := by decide +kernel
theorem dX7_init_84 : decode cX7_init 84 = .ok (.getfield 7, 3) := by decide +kernel
theorem dX7_init_87 : decode cX7_init 87 = .ok (.iconst 2, 1) := by decide +kernel
theorem dX7_init_88 : decode cX7_init 88 = .ok (.iconst 1, 1) := by decide +kernel
theorem dX7_init_89 : decode cX7_init 89 = .ok (.iastore, 1) := by decide +kernel
theorem dX7_init_90 : decode cX7_init 90 = .ok (.aload_n 0, 1) := by decide +kernel
theorem dX7_init_91 : decode cX7_init 91 = .ok (.getfield 7, 3) := by decide +kernel
theorem dX7_init_94 : decode cX7_init 94 = .ok (.iconst 3, 1) := by decide +kernel
theorem dX7_init_95 : decode cX7_init 95 = .ok (.iconst 2, 1) := by decide +kernel
theorem dX7_init_96 : decode cX7_init 96 = .ok (.iastore, 1) := by decide +kernel
theorem dX7_init_97 : decode cX7_init 97 = .ok (.return_, 1) := by decide +kernel
theorem dX7_finds_0 : decode cX7_finds 0 = .ok (.aload_n 0, 1) := by decide +kernel
theorem dX7_finds_1 : decode cX7_finds 1 = .ok (.getfield 22, 3) := by decide +kernel
theorem dX7_finds_4 : decode cX7_finds 4 = .ok (.iload_n 1, 1) := by decide +kernel
theorem dX7_finds_5 : decode cX7_finds 5 = .ok (.dup2, 1) := by decide +kernel
theorem dX7_finds_6 : decode cX7_finds 6 = .ok (.iaload, 1) := by decide +kernel
theorem dX7_finds_7 : decode cX7_finds 7 = .ok (.iconst 1, 1) := by decide +kernel
theorem dX7_finds_8 : decode cX7_finds 8 = .ok (.iadd, 1) := by decide +kernel
theorem dX7_finds_9 : decode cX7_finds 9 = .ok (.iastore, 1) := by decide +kernel
theorem dX7_finds_10 : decode cX7_finds 10 = .ok (.ldc 41, 2) := by decide +kernel
theorem dX7_finds_12 : decode cX7_finds 12 = .ok (.iload_n 1, 1) := by decide +kernel
theorem dX7_finds_13 : decode cX7_finds 13 = .ok (.isub, 1) := by decide +kernel
theorem dX7_finds_14 : decode cX7_finds 14 = .ok (.ireturn, 1) := by decide +kernel
theorem dX7_in_0 : decode cX7_in 0 = .ok (.lload_n 0, 1) := by decide +kernel
theorem dX7_in_1 : decode cX7_in 1 = .ok (.lload_n 2, 1) := by decide +kernel
theorem dX7_in_2 : decode cX7_in 2 = .ok (.lcmp, 1) := by decide +kernel
