theorem dX0_init_0 : decode cX0_init 0 = .ok (.aload_n 0, 1) := by decide +kernel
theorem dX0_init_1 : decode cX0_init 1 = .ok (.invokespecial 3, 3) := by decide +kernel
theorem dX0_init_4 : decode cX0_init 4 = .ok (.aload_n 0, 1) := by decide +kernel
theorem dX0_init_5 : decode cX0_init 5 = .ok (.iconst 0, 1) := by decide +kernel
theorem dX0_init_6 : decode cX0_init 6 = .ok (.putfield 9, 3) := by decide +kernel
theorem dX0_init_9 : decode cX0_init 9 = .ok (.aload_n 0, 1) := by decide +kernel
theorem dX0_init_10 : decode cX0_init 10 = .ok (.iconst 2, 1) := by decide +kernel
theorem dX0_init_11 : decode cX0_init 11 = .ok (.putfield 15, 3) := by decide +kernel
theorem dX0_init_14 : decode cX0_init 14 = .ok (.aload_n 0, 1) := by decide +kernel
theorem dX0_init_15 : decode cX0_init 15 = .ok (.iconst 0, 1) := by decide +kernel
theorem dX0_init_16 : decode cX0_init 16 = .ok (.putfield 18, 3) := by decide +kernel
theorem dX0_init_19 : decode cX0_init 19 = .ok (.aload_n 0, 1) := by decide +kernel
theorem dX0_init_20 : decode cX0_init 20 = .ok (.iconst 0, 1) := by decide +kernel
theorem dX0_init_21 : decode cX0_init 21 = .ok (.putfield 21, 3) := by decide +kernel
theorem dX0_init_24 : decode cX0_init 24 = .ok (.aload_n 0, 1) := by decide +kernel
theorem dX0_init_25 : decode cX0_init 25 = .ok (.iconst 1, 1) := by decide +kernel
theorem dX0_init_26 : decode cX0_init 26 = .ok (.putfield 24, 3) := by decide +kernel
theorem dX0_init_29 : decode cX0_init 29 = .ok (.aload_n 0, 1) := by decide +kernel
theorem dX0_init_30 : decode cX0_init 30 = .ok (.iconst 0, 1) := by decide +kernel
theorem dX0_init_31 : decode cX0_init 31 = .ok (.putfield 27, 3) := by decide +kernel
theorem dX0_init_34 : decode cX0_init 34 = .ok (.aload_n 0, 1) := by decide +kernel
theorem dX0_init_35 : decode cX0_init 35 = .ok (.bipush 6, 2) := by decide +kernel
theorem dX0_init_37 : decode cX0_init 37 = .ok (.newarray .int, 2) := by decide +kernel
theorem dX0_init_39 : decode cX0_init 39 = .ok (.putfield 30, 3) := by decide +kernel
theorem dX0_init_42 : decode cX0_init 42 = .ok (.aload_n 0, 1) := by decide +kernel
theorem dX0_init_43 : decode cX0_init 43 = .ok (.bipush 10, 2) := by decide +kernel
theorem dX0_init_45 : decode cX0_init 45 = .ok (.newarray .int, 2) := by decide +kernel
theorem dX0_init_47 : decode cX0_init 47 = .ok (.putfield 34, 3) := by decide +kernel
theorem dX0_init_50 : decode cX0_init 50 = .ok (.aload_n 0, 1) := by decide +kernel
theorem dX0_init_51 : decode cX0_init 51 = .ok (.bipush 8, 2) := by decide +kernel
theorem dX0_init_53 : decode cX0_init 53 = .ok (.anewarray 37, 3) := by decide +kernel
theorem dX0_init_56 : decode cX0_init 56 = .ok (.putfield 39, 3) := by decide +kernel
theorem dX0_init_59 : decode cX0_init 59 = .ok (.iconst 0, 1) := by decide +kernel
theorem dX0_init_60 : decode cX0_init 60 = .ok (.istore_n 1, 1) := by decide +kernel
theorem dX0_init_61 : decode cX0_init 61 = .ok (.iload_n 1, 1) := by decide +kernel
theorem dX0_init_62 : decode cX0_init 62 = .ok (.bipush 10, 2) := by decide +kernel
theorem dX0_init_64 : decode cX0_init 64 = .ok (.if_icmp .ge 16, 3) := by decide +kernel
theorem dX0_init_67 : decode cX0_init 67 = .ok (.aload_n 0, 1) := by decide +kernel
theorem dX0_init_68 : decode cX0_init 68 = .ok (.getfield 34, 3) := by decide +kernel
theorem dX0_init_71 : decode cX0_init 71 = .ok (.iload_n 1, 1) := by decide +kernel
theorem dX0_init_72 : decode cX0_init 72 = .ok (.iconst (-1), 1) := by decide +kernel
theorem dX0_init_73 : decode cX0_init 73 = .ok (.iastore, 1) := by decide +kernel
theorem dX0_init_74 : decode cX0_init 74 = .ok (.iinc 1 1, 3) := by decide +kernel
theorem dX0_init_77 : decode cX0_init 77 = .ok (.goto (-16), 3) := by decide +kernel
theorem dX0_init_80 : decode cX0_init 80 = .ok (.iconst 0, 1) := by decide +kernel
theorem dX0_init_81 : decode cX0_init 81 = .ok (.istore_n 1, 1) := by decide +kernel
theorem dX0_init_82 : decode cX0_init 82 = .ok (.iload_n 1, 1) := by decide +kernel
theorem dX0_init_83 : decode cX0_init 83 = .ok (.bipush 8, 2) := by decide +kernel
theorem dX0_init_85 : decode cX0_init 85 = .ok (.if_icmp .ge 22, 3) := by decide +kernel
theorem dX0_init_88 : decode cX0_init 88 = .ok (.aload_n 0, 1) := by decide +kernel
theorem dX0_init_89 : decode cX0_init 89 = .ok (.getfield 39, 3) := by decide +kernel
theorem dX0_init_92 : decode cX0_init 92 = .ok (.iload_n 1, 1) := by decide +kernel
theorem dX0_init_93 : decode cX0_init 93 = .ok (.new 37, 3) := by decide +kernel
theorem dX0_init_96 : decode cX0_init 96 = .ok (.dup, 1) := by decide +kernel
theorem dX0_init_97 : decode cX0_init 97 = .ok (.invokespecial 43, 3) := by decide +kernel
theorem dX0_init_100 : decode cX0_init 100 = .ok (.aastore, 1) := by decide +kernel
theorem dX0_init_101 : decode cX0_init 101 = .ok (.iinc 1 1, 3) := by decide +kernel
theorem dX0_init_104 : decode cX0_init 104 = .ok (.goto (-22), 3) := by decide +kernel
theorem dX0_init_107 : decode cX0_init 107 = .ok (.return_, 1) := by decide +kernel
theorem dX0_becomeLike_0 : decode cX0_becomeLike 0 = .ok (.aload_n 0, 1) := by decide +kernel
theorem dX0_becomeLike_1 : decode cX0_becomeLike 1 = .ok (.aload_n 1, 1) := by decide +kernel
theorem dX0_becomeLike_2 : decode cX0_becomeLike 2 = .ok (.getfield 9, 3) := by decide +kernel
theorem dX0_becomeLike_5 : decode cX0_becomeLike 5 = .ok (.putfield 9, 3) := by decide +kernel
theorem dX0_becomeLike_8 : decode cX0_becomeLike 8 = .ok (.aload_n 0, 1) := by decide +kernel
theorem dX0_becomeLike_9 : decode cX0_becomeLike 9 = .ok (.aload_n 1, 1) := by decide +kernel
theorem dX0_becomeLike_10 : decode cX0_becomeLike 10 = .ok (.getfield 15, 3) := by decide +kernel
theorem dX0_becomeLike_13 : decode cX0_becomeLike 13 = .ok (.putfield 15, 3) := by decide +kernel
theorem dX0_becomeLike_16 : decode cX0_becomeLike 16 = .ok (.aload_n 0, 1) := by decide +kernel
theorem dX0_becomeLike_17 : decode cX0_becomeLike 17 = .ok (.aload_n 1, 1) := by decide +kernel
theorem dX0_becomeLike_18 : decode cX0_becomeLike 18 = .ok (.getfield 18, 3) := by decide +kernel
theorem dX0_becomeLike_21 : decode cX0_becomeLike 21 = .ok (.putfield 18, 3) := by decide +kernel
theorem dX0_becomeLike_24 : decode cX0_becomeLike 24 = .ok (.aload_n 0, 1) := by decide +kernel
theorem dX0_becomeLike_25 : decode cX0_becomeLike 25 = .ok (.aload_n 1, 1) := by decide +kernel
theorem dX0_becomeLike_26 : decode cX0_becomeLike 26 = .ok (.getfield 21, 3) := by decide +kernel
theorem dX0_becomeLike_29 : decode cX0_becomeLike 29 = .ok (.putfield 21, 3) := by decide +kernel
theorem dX0_becomeLike_32 : decode cX0_becomeLike 32 = .ok (.aload_n 0, 1) := by decide +kernel
theorem dX0_becomeLike_33 : decode cX0_becomeLike 33 = .ok (.aload_n 1, 1) := by decide +kernel
theorem dX0_becomeLike_34 : decode cX0_becomeLike 34 = .ok (.getfield 24, 3) := by decide +kernel
theorem dX0_becomeLike_37 : decode cX0_becomeLike 37 = .ok (.putfield 24, 3) := by decide +kernel
theorem dX0_becomeLike_40 : decode cX0_becomeLike 40 = .ok (.aload_n 0, 1) := by decide +kernel
theorem dX0_becomeLike_41 : decode cX0_becomeLike 41 = .ok (.aload_n 1, 1) := by decide +kernel
theorem dX0_becomeLike_42 : decode cX0_becomeLike 42 = .ok (.getfield 27, 3) := by decide +kernel
theorem dX0_becomeLike_45 : decode cX0_becomeLike 45 = .ok (.putfield 27, 3) := by decide +kernel
theorem dX0_becomeLike_48 : decode cX0_becomeLike 48 = .ok (.aload_n 1, 1) := by decide +kernel
theorem dX0_becomeLike_49 : decode cX0_becomeLike 49 = .ok (.getfield 30, 3) := by decide +kernel
theorem dX0_becomeLike_52 : decode cX0_becomeLike 52 = .ok (.iconst 0, 1) := by decide +kernel
theorem dX0_becomeLike_53 : decode cX0_becomeLike 53 = .ok (.aload_n 0, 1) := by decide +kernel
theorem dX0_becomeLike_54 : decode cX0_becomeLike 54 = .ok (.getfield 30, 3) := by decide +kernel
theorem dX0_becomeLike_57 : decode cX0_becomeLike 57 = .ok (.iconst 0, 1) := by decide +kernel
theorem dX0_becomeLike_58 : decode cX0_becomeLike 58 = .ok (.bipush 6, 2) := by decide +kernel
theorem dX0_becomeLike_60 : decode cX0_becomeLike 60 = .ok (.invokestatic 44, 3) := by decide +kernel
theorem dX0_becomeLike_63 : decode cX0_becomeLike 63 = .ok (.aload_n 1, 1) := by decide +kernel
theorem dX0_becomeLike_64 : decode cX0_becomeLike 64 = .ok (.getfield 34, 3) := by decide +kernel
theorem dX0_becomeLike_67 : decode cX0_becomeLike 67 = .ok (.iconst 0, 1) := by decide +kernel
theorem dX0_becomeLike_68 : decode cX0_becomeLike 68 = .ok (.aload_n 0, 1) := by decide +kernel
theorem dX0_becomeLike_69 : decode cX0_becomeLike 69 = .ok (.getfield 34, 3) := by decide +kernel
theorem dX0_becomeLike_72 : decode cX0_becomeLike 72 = .ok (.iconst 0, 1) := by decide +kernel
theorem dX0_becomeLike_73 : decode cX0_becomeLike 73 = .ok (.bipush 10, 2) := by decide +kernel
theorem dX0_becomeLike_75 : decode cX0_becomeLike 75 = .ok (.invokestatic 44, 3) := by decide +kernel
theorem dX0_becomeLike_78 : decode cX0_becomeLike 78 = .ok (.iconst 0, 1) := by decide +kernel
theorem dX0_becomeLike_79 : decode cX0_becomeLike 79 = .ok (.istore_n 2, 1) := by decide +kernel
theorem dX0_becomeLike_80 : decode cX0_becomeLike 80 = .ok (.iload_n 2, 1) := by decide +kernel
theorem dX0_becomeLike_81 : decode cX0_becomeLike 81 = .ok (.aload_n 0, 1) := by decide +kernel
theorem dX0_becomeLike_82 : decode cX0_becomeLike 82 = .ok (.getfield 27, 3) := by decide +kernel
theorem dX0_becomeLike_85 : decode cX0_becomeLike 85 = .ok (.if_icmp .ge 37, 3) := by decide +kernel
theorem dX0_becomeLike_88 : decode cX0_becomeLike 88 = .ok (.aload_n 1, 1) := by decide +kernel
theorem dX0_becomeLike_89 : decode cX0_becomeLike 89 = .ok (.iload_n 2, 1) := by decide +kernel
theorem dX0_becomeLike_90 : decode cX0_becomeLike 90 = .ok (.invokevirtual 50, 3) := by decide +kernel
theorem dX0_becomeLike_93 : decode cX0_becomeLike 93 = .ok (.astore_n 3, 1) := by decide +kernel
theorem dX0_becomeLike_94 : decode cX0_becomeLike 94 = .ok (.aload_n 0, 1) := by decide +kernel
theorem dX0_becomeLike_95 : decode cX0_becomeLike 95 = .ok (.iload_n 2, 1) := by decide +kernel
theorem dX0_becomeLike_96 : decode cX0_becomeLike 96 = .ok (.invokevirtual 50, 3) := by decide +kernel
theorem dX0_becomeLike_99 : decode cX0_becomeLike 99 = .ok (.astore 4, 2) := by decide +kernel
theorem dX0_becomeLike_101 : decode cX0_becomeLike 101 = .ok (.aload_n 3, 1) := by decide +kernel
theorem dX0_becomeLike_102 : decode cX0_becomeLike 102 = .ok (.ifnull 14, 3) := by decide +kernel
theorem dX0_becomeLike_105 : decode cX0_becomeLike 105 = .ok (.aload 4, 2) := by decide +kernel
theorem dX0_becomeLike_107 : decode cX0_becomeLike 107 = .ok (.ifnull 9, 3) := by decide +kernel
theorem dX0_becomeLike_110 : decode cX0_becomeLike 110 = .ok (.aload 4, 2) := by decide +kernel
theorem dX0_becomeLike_112 : decode cX0_becomeLike 112 = .ok (.aload_n 3, 1) := by decide +kernel
theorem dX0_becomeLike_113 : decode cX0_becomeLike 113 = .ok (.invokevirtual 54, 3) := by decide +kernel
theorem dX0_becomeLike_116 : decode cX0_becomeLike 116 = .ok (.iinc 2 1, 3) := by decide +kernel
theorem dX0_becomeLike_119 : decode cX0_becomeLike 119 = .ok (.goto (-39), 3) := by decide +kernel
theorem dX0_becomeLike_122 : decode cX0_becomeLike 122 = .ok (.return_, 1) := by decide +kernel
theorem dX0_at_0 : decode cX0_at 0 = .ok (.iload_n 1, 1) := by decide +kernel
theorem dX0_at_1 : decode cX0_at 1 = .ok (.ifCond .lt 26, 3) := by decide +kernel
theorem dX0_at_4 : decode cX0_at 4 = .ok (.iload_n 1, 1) := by decide +kernel
theorem dX0_at_5 : decode cX0_at 5 = .ok (.aload_n 0, 1) := by decide +kernel
theorem dX0_at_6 : decode cX0_at 6 = .ok (.getfield 27, 3) := by decide +kernel
theorem dX0_at_9 : decode cX0_at 9 = .ok (.if_icmp .ge 18, 3) := by decide +kernel
theorem dX0_at_12 : decode cX0_at 12 = .ok (.iload_n 1, 1) := by decide +kernel
theorem dX0_at_13 : decode cX0_at 13 = .ok (.bipush 8, 2) := by decide +kernel
theorem dX0_at_15 : decode cX0_at 15 = .ok (.if_icmp .ge 12, 3) := by decide +kernel
theorem dX0_at_18 : decode cX0_at 18 = .ok (.aload_n 0, 1) := by decide +kernel
theorem dX0_at_19 : decode cX0_at 19 = .ok (.getfield 39, 3) := by decide +kernel
theorem dX0_at_22 : decode cX0_at 22 = .ok (.iload_n 1, 1) := by decide +kernel
theorem dX0_at_23 : decode cX0_at 23 = .ok (.aaload, 1) := by decide +kernel
theorem dX0_at_24 : decode cX0_at 24 = .ok (.goto 4, 3) := by decide +kernel
theorem dX0_at_27 : decode cX0_at 27 = .ok (.aconst_null, 1) := by decide +kernel
theorem dX0_at_28 : decode cX0_at 28 = .ok (.areturn, 1) := by decide +kernel
theorem dX0_welcome_0 : decode cX0_welcome 0 = .ok (.aload_n 0, 1) := by decide +kernel
theorem dX0_welcome_1 : decode cX0_welcome 1 = .ok (.getfield 27, 3) := by decide +kernel
theorem dX0_welcome_4 : decode cX0_welcome 4 = .ok (.bipush 8, 2) := by decide +kernel
theorem dX0_welcome_6 : decode cX0_welcome 6 = .ok (.if_icmp .lt 5, 3) := by decide +kernel
theorem dX0_welcome_9 : decode cX0_welcome 9 = .ok (.iconst (-1), 1) := by decide +kernel
theorem dX0_welcome_10 : decode cX0_welcome 10 = .ok (.ireturn, 1) := by decide +kernel
theorem dX0_welcome_11 : decode cX0_welcome 11 = .ok (.aload_n 0, 1) := by decide +kernel
theorem dX0_welcome_12 : decode cX0_welcome 12 = .ok (.getfield 27, 3) := by decide +kernel
theorem dX0_welcome_15 : decode cX0_welcome 15 = .ok (.istore_n 3, 1) := by decide +kernel
theorem dX0_welcome_16 : decode cX0_welcome 16 = .ok (.aload_n 0, 1) := by decide +kernel
theorem dX0_welcome_17 : decode cX0_welcome 17 = .ok (.dup, 1) := by decide +kernel
theorem dX0_welcome_18 : decode cX0_welcome 18 = .ok (.getfield 27, 3) := by decide +kernel
theorem dX0_welcome_21 : decode cX0_welcome 21 = .ok (.iconst 1, 1) := by decide +kernel
theorem dX0_welcome_22 : decode cX0_welcome 22 = .ok (.iadd, 1) := by decide +kernel
theorem dX0_welcome_23 : decode cX0_welcome 23 = .ok (.putfield 27, 3) := by decide +kernel
theorem dX0_welcome_26 : decode cX0_welcome 26 = .ok (.aload_n 0, 1) := by decide +kernel
theorem dX0_welcome_27 : decode cX0_welcome 27 = .ok (.iload_n 3, 1) := by decide +kernel
theorem dX0_welcome_28 : decode cX0_welcome 28 = .ok (.invokevirtual 50, 3) := by decide +kernel
theorem dX0_welcome_31 : decode cX0_welcome 31 = .ok (.astore 4, 2) := by decide +kernel
theorem dX0_welcome_33 : decode cX0_welcome 33 = .ok (.aload 4, 2) := by decide +kernel
theorem dX0_welcome_35 : decode cX0_welcome 35 = .ok (.ifnull 10, 3) := by decide +kernel
theorem dX0_welcome_38 : decode cX0_welcome 38 = .ok (.aload 4, 2) := by decide +kernel
theorem dX0_welcome_40 : decode cX0_welcome 40 = .ok (.iload_n 1, 1) := by decide +kernel
theorem dX0_welcome_41 : decode cX0_welcome 41 = .ok (.iload_n 2, 1) := by decide +kernel
theorem dX0_welcome_42 : decode cX0_welcome 42 = .ok (.invokevirtual 58, 3) := by decide +kernel
theorem dX0_welcome_45 : decode cX0_welcome 45 = .ok (.iload_n 3, 1) := by decide +kernel
theorem dX0_welcome_46 : decode cX0_welcome 46 = .ok (.ireturn, 1) := by decide +kernel
theorem dX0_tellOf_0 : decode cX0_tellOf 0 = .ok (.iload_n 2, 1) := by decide +kernel
theorem dX0_tellOf_1 : decode cX0_tellOf 1 = .ok (.tableswitch 109 0 8 #[51, 56, 61, 66, 71, 76, 81, 86, 96], 51) := by decide +kernel
theorem dX0_tellOf_52 : decode cX0_tellOf 52 = .ok (.aload_n 1, 1) := by decide +kernel
theorem dX0_tellOf_53 : decode cX0_tellOf 53 = .ok (.getfield 62, 3) := by decide +kernel
theorem dX0_tellOf_56 : decode cX0_tellOf 56 = .ok (.ireturn, 1) := by decide +kernel
theorem dX0_tellOf_57 : decode cX0_tellOf 57 = .ok (.aload_n 1, 1) := by decide +kernel
theorem dX0_tellOf_58 : decode cX0_tellOf 58 = .ok (.getfield 65, 3) := by decide +kernel
theorem dX0_tellOf_61 : decode cX0_tellOf 61 = .ok (.ireturn, 1) := by decide +kernel
theorem dX0_tellOf_62 : decode cX0_tellOf 62 = .ok (.aload_n 1, 1) := by decide +kernel
theorem dX0_tellOf_63 : decode cX0_tellOf 63 = .ok (.getfield 68, 3) := by decide +kernel
theorem dX0_tellOf_66 : decode cX0_tellOf 66 = .ok (.ireturn, 1) := by decide +kernel
theorem dX0_tellOf_67 : decode cX0_tellOf 67 = .ok (.aload_n 1, 1) := by decide +kernel
theorem dX0_tellOf_68 : decode cX0_tellOf 68 = .ok (.getfield 71, 3) := by decide +kernel
theorem dX0_tellOf_71 : decode cX0_tellOf 71 = .ok (.ireturn, 1) := by decide +kernel
theorem dX0_tellOf_72 : decode cX0_tellOf 72 = .ok (.aload_n 1, 1) := by decide +kernel
theorem dX0_tellOf_73 : decode cX0_tellOf 73 = .ok (.getfield 74, 3) := by decide +kernel
theorem dX0_tellOf_76 : decode cX0_tellOf 76 = .ok (.ireturn, 1) := by decide +kernel
theorem dX0_tellOf_77 : decode cX0_tellOf 77 = .ok (.aload_n 1, 1) := by decide +kernel
theorem dX0_tellOf_78 : decode cX0_tellOf 78 = .ok (.getfield 77, 3) := by decide +kernel
theorem dX0_tellOf_81 : decode cX0_tellOf 81 = .ok (.ireturn, 1) := by decide +kernel
theorem dX0_tellOf_82 : decode cX0_tellOf 82 = .ok (.aload_n 1, 1) := by decide +kernel
theorem dX0_tellOf_83 : decode cX0_tellOf 83 = .ok (.invokevirtual 80, 3) := by decide +kernel
theorem dX0_tellOf_86 : decode cX0_tellOf 86 = .ok (.ireturn, 1) := by decide +kernel
theorem dX0_tellOf_87 : decode cX0_tellOf 87 = .ok (.aload_n 1, 1) := by decide +kernel
theorem dX0_tellOf_88 : decode cX0_tellOf 88 = .ok (.invokevirtual 80, 3) := by decide +kernel
theorem dX0_tellOf_91 : decode cX0_tellOf 91 = .ok (.aload_n 1, 1) := by decide +kernel
theorem dX0_tellOf_92 : decode cX0_tellOf 92 = .ok (.getfield 65, 3) := by decide +kernel
theorem dX0_tellOf_95 : decode cX0_tellOf 95 = .ok (.isub, 1) := by decide +kernel
theorem dX0_tellOf_96 : decode cX0_tellOf 96 = .ok (.ireturn, 1) := by decide +kernel
theorem dX0_tellOf_97 : decode cX0_tellOf 97 = .ok (.aload_n 1, 1) := by decide +kernel
theorem dX0_tellOf_98 : decode cX0_tellOf 98 = .ok (.aload_n 0, 1) := by decide +kernel
theorem dX0_tellOf_99 : decode cX0_tellOf 99 = .ok (.getfield 15, 3) := by decide +kernel
theorem dX0_tellOf_102 : decode cX0_tellOf 102 = .ok (.aload_n 0, 1) := by decide +kernel
theorem dX0_tellOf_103 : decode cX0_tellOf 103 = .ok (.getfield 9, 3) := by decide +kernel
theorem dX0_tellOf_106 : decode cX0_tellOf 106 = .ok (.invokevirtual 84, 3) := by decide +kernel
theorem dX0_tellOf_109 : decode cX0_tellOf 109 = .ok (.ireturn, 1) := by decide +kernel
theorem dX0_tellOf_110 : decode cX0_tellOf 110 = .ok (.aload_n 1, 1) := by decide +kernel
theorem dX0_tellOf_111 : decode cX0_tellOf 111 = .ok (.invokevirtual 88, 3) := by decide +kernel
theorem dX0_tellOf_114 : decode cX0_tellOf 114 = .ok (.ifCond .eq 7, 3) := by decide +kernel
theorem dX0_tellOf_117 : decode cX0_tellOf 117 = .ok (.iconst 1, 1) := by decide +kernel
theorem dX0_tellOf_118 : decode cX0_tellOf 118 = .ok (.goto 4, 3) := by decide +kernel
theorem dX0_tellOf_121 : decode cX0_tellOf 121 = .ok (.iconst 0, 1) := by decide +kernel
theorem dX0_tellOf_122 : decode cX0_tellOf 122 = .ok (.ireturn, 1) := by decide +kernel
theorem dX0_placeToday_0 : decode cX0_placeToday 0 = .ok (.aload_n 0, 1) := by decide +kernel
theorem dX0_placeToday_1 : decode cX0_placeToday 1 = .ok (.getfield 9, 3) := by decide +kernel
theorem dX0_placeToday_4 : decode cX0_placeToday 4 = .ok (.bipush 6, 2) := by decide +kernel
theorem dX0_placeToday_6 : decode cX0_placeToday 6 = .ok (.invokestatic 92, 3) := by decide +kernel
theorem dX0_placeToday_9 : decode cX0_placeToday 9 = .ok (.ireturn, 1) := by decide +kernel
theorem dX0_draw_0 : decode cX0_draw 0 = .ok (.aload_n 0, 1) := by decide +kernel
theorem dX0_draw_1 : decode cX0_draw 1 = .ok (.aload_n 0, 1) := by decide +kernel
theorem dX0_draw_2 : decode cX0_draw 2 = .ok (.getfield 24, 3) := by decide +kernel
theorem dX0_draw_5 : decode cX0_draw 5 = .ok (.ldc 97, 2) := by decide +kernel
theorem dX0_draw_7 : decode cX0_draw 7 = .ok (.imul, 1) := by decide +kernel
theorem dX0_draw_8 : decode cX0_draw 8 = .ok (.sipush 12345, 3) := by decide +kernel
theorem dX0_draw_11 : decode cX0_draw 11 = .ok (.iadd, 1) := by decide +kernel
theorem dX0_draw_12 : decode cX0_draw 12 = .ok (.putfield 24, 3) := by decide +kernel
theorem dX0_draw_15 : decode cX0_draw 15 = .ok (.aload_n 0, 1) := by decide +kernel
theorem dX0_draw_16 : decode cX0_draw 16 = .ok (.getfield 24, 3) := by decide +kernel
theorem dX0_draw_19 : decode cX0_draw 19 = .ok (.bipush 8, 2) := by decide +kernel
theorem dX0_draw_21 : decode cX0_draw 21 = .ok (.iushr, 1) := by decide +kernel
theorem dX0_draw_22 : decode cX0_draw 22 = .ok (.ireturn, 1) := by decide +kernel
theorem dX0_takersOf_0 : decode cX0_takersOf 0 = .ok (.iconst 0, 1) := by decide +kernel
theorem dX0_takersOf_1 : decode cX0_takersOf 1 = .ok (.istore_n 2, 1) := by decide +kernel
theorem dX0_takersOf_2 : decode cX0_takersOf 2 = .ok (.iconst 0, 1) := by decide +kernel
theorem dX0_takersOf_3 : decode cX0_takersOf 3 = .ok (.istore_n 3, 1) := by decide +kernel
theorem dX0_takersOf_4 : decode cX0_takersOf 4 = .ok (.iload_n 3, 1) := by decide +kernel
theorem dX0_takersOf_5 : decode cX0_takersOf 5 = .ok (.aload_n 0, 1) := by decide +kernel
theorem dX0_takersOf_6 : decode cX0_takersOf 6 = .ok (.getfield 27, 3) := by decide +kernel
theorem dX0_takersOf_9 : decode cX0_takersOf 9 = .ok (.if_icmp .ge 39, 3) := by decide +kernel
theorem dX0_takersOf_12 : decode cX0_takersOf 12 = .ok (.aload_n 0, 1) := by decide +kernel
theorem dX0_takersOf_13 : decode cX0_takersOf 13 = .ok (.iload_n 3, 1) := by decide +kernel
theorem dX0_takersOf_14 : decode cX0_takersOf 14 = .ok (.invokevirtual 50, 3) := by decide +kernel
theorem dX0_takersOf_17 : decode cX0_takersOf 17 = .ok (.astore 4, 2) := by decide +kernel
theorem dX0_takersOf_19 : decode cX0_takersOf 19 = .ok (.aload 4, 2) := by decide +kernel
theorem dX0_takersOf_21 : decode cX0_takersOf 21 = .ok (.ifnull 21, 3) := by decide +kernel
theorem dX0_takersOf_24 : decode cX0_takersOf 24 = .ok (.aload 4, 2) := by decide +kernel
theorem dX0_takersOf_26 : decode cX0_takersOf 26 = .ok (.getfield 68, 3) := by decide +kernel
theorem dX0_takersOf_29 : decode cX0_takersOf 29 = .ok (.iload_n 1, 1) := by decide +kernel
theorem dX0_takersOf_30 : decode cX0_takersOf 30 = .ok (.ishr, 1) := by decide +kernel
theorem dX0_takersOf_31 : decode cX0_takersOf 31 = .ok (.iconst 1, 1) := by decide +kernel
theorem dX0_takersOf_32 : decode cX0_takersOf 32 = .ok (.iand, 1) := by decide +kernel
theorem dX0_takersOf_33 : decode cX0_takersOf 33 = .ok (.ifCond .eq 9, 3) := by decide +kernel
theorem dX0_takersOf_36 : decode cX0_takersOf 36 = .ok (.iload_n 2, 1) := by decide +kernel
theorem dX0_takersOf_37 : decode cX0_takersOf 37 = .ok (.iconst 1, 1) := by decide +kernel
theorem dX0_takersOf_38 : decode cX0_takersOf 38 = .ok (.iload_n 3, 1) := by decide +kernel
theorem dX0_takersOf_39 : decode cX0_takersOf 39 = .ok (.ishl, 1) := by decide +kernel
theorem dX0_takersOf_40 : decode cX0_takersOf 40 = .ok (.ior, 1) := by decide +kernel
theorem dX0_takersOf_41 : decode cX0_takersOf 41 = .ok (.istore_n 2, 1) := by decide +kernel
theorem dX0_takersOf_42 : decode cX0_takersOf 42 = .ok (.iinc 3 1, 3) := by decide +kernel
theorem dX0_takersOf_45 : decode cX0_takersOf 45 = .ok (.goto (-41), 3) := by decide +kernel
theorem dX0_takersOf_48 : decode cX0_takersOf 48 = .ok (.iload_n 2, 1) := by decide +kernel
theorem dX0_takersOf_49 : decode cX0_takersOf 49 = .ok (.ireturn, 1) := by decide +kernel
theorem dX0_hungriestOf_0 : decode cX0_hungriestOf 0 = .ok (.iconst (-1), 1) := by decide +kernel
theorem dX0_hungriestOf_1 : decode cX0_hungriestOf 1 = .ok (.istore_n 2, 1) := by decide +kernel
theorem dX0_hungriestOf_2 : decode cX0_hungriestOf 2 = .ok (.iconst 0, 1) := by decide +kernel
theorem dX0_hungriestOf_3 : decode cX0_hungriestOf 3 = .ok (.istore_n 3, 1) := by decide +kernel
theorem dX0_hungriestOf_4 : decode cX0_hungriestOf 4 = .ok (.iconst 0, 1) := by decide +kernel
theorem dX0_hungriestOf_5 : decode cX0_hungriestOf 5 = .ok (.istore 4, 2) := by decide +kernel
theorem dX0_hungriestOf_7 : decode cX0_hungriestOf 7 = .ok (.iload 4, 2) := by decide +kernel
theorem dX0_hungriestOf_9 : decode cX0_hungriestOf 9 = .ok (.aload_n 0, 1) := by decide +kernel
theorem dX0_hungriestOf_10 : decode cX0_hungriestOf 10 = .ok (.getfield 27, 3) := by decide +kernel
theorem dX0_hungriestOf_13 : decode cX0_hungriestOf 13 = .ok (.if_icmp .ge 61, 3) := by decide +kernel
theorem dX0_hungriestOf_16 : decode cX0_hungriestOf 16 = .ok (.aload_n 0, 1) := by decide +kernel
theorem dX0_hungriestOf_17 : decode cX0_hungriestOf 17 = .ok (.iload 4, 2) := by decide +kernel
theorem dX0_hungriestOf_19 : decode cX0_hungriestOf 19 = .ok (.invokevirtual 50, 3) := by decide +kernel
theorem dX0_hungriestOf_22 : decode cX0_hungriestOf 22 = .ok (.astore 5, 2) := by decide +kernel
theorem dX0_hungriestOf_24 : decode cX0_hungriestOf 24 = .ok (.aload 5, 2) := by decide +kernel
theorem dX0_hungriestOf_26 : decode cX0_hungriestOf 26 = .ok (.ifnull 42, 3) := by decide +kernel
theorem dX0_hungriestOf_29 : decode cX0_hungriestOf 29 = .ok (.iload_n 1, 1) := by decide +kernel
theorem dX0_hungriestOf_30 : decode cX0_hungriestOf 30 = .ok (.iload 4, 2) := by decide +kernel
theorem dX0_hungriestOf_32 : decode cX0_hungriestOf 32 = .ok (.ishr, 1) := by decide +kernel
theorem dX0_hungriestOf_33 : decode cX0_hungriestOf 33 = .ok (.iconst 1, 1) := by decide +kernel
theorem dX0_hungriestOf_34 : decode cX0_hungriestOf 34 = .ok (.iand, 1) := by decide +kernel
theorem dX0_hungriestOf_35 : decode cX0_hungriestOf 35 = .ok (.ifCond .eq 33, 3) := by decide +kernel
theorem dX0_hungriestOf_38 : decode cX0_hungriestOf 38 = .ok (.aload 5, 2) := by decide +kernel
theorem dX0_hungriestOf_40 : decode cX0_hungriestOf 40 = .ok (.invokevirtual 80, 3) := by decide +kernel
theorem dX0_hungriestOf_43 : decode cX0_hungriestOf 43 = .ok (.aload 5, 2) := by decide +kernel
theorem dX0_hungriestOf_45 : decode cX0_hungriestOf 45 = .ok (.getfield 65, 3) := by decide +kernel
theorem dX0_hungriestOf_48 : decode cX0_hungriestOf 48 = .ok (.isub, 1) := by decide +kernel
theorem dX0_hungriestOf_49 : decode cX0_hungriestOf 49 = .ok (.istore 6, 2) := by decide +kernel
theorem dX0_hungriestOf_51 : decode cX0_hungriestOf 51 = .ok (.iload_n 2, 1) := by decide +kernel
theorem dX0_hungriestOf_52 : decode cX0_hungriestOf 52 = .ok (.iconst (-1), 1) := by decide +kernel
theorem dX0_hungriestOf_53 : decode cX0_hungriestOf 53 = .ok (.if_icmp .eq 9, 3) := by decide +kernel
theorem dX0_hungriestOf_56 : decode cX0_hungriestOf 56 = .ok (.iload 6, 2) := by decide +kernel
theorem dX0_hungriestOf_58 : decode cX0_hungriestOf 58 = .ok (.iload_n 3, 1) := by decide +kernel
theorem dX0_hungriestOf_59 : decode cX0_hungriestOf 59 = .ok (.if_icmp .le 9, 3) := by decide +kernel
theorem dX0_hungriestOf_62 : decode cX0_hungriestOf 62 = .ok (.iload 4, 2) := by decide +kernel
theorem dX0_hungriestOf_64 : decode cX0_hungriestOf 64 = .ok (.istore_n 2, 1) := by decide +kernel
theorem dX0_hungriestOf_65 : decode cX0_hungriestOf 65 = .ok (.iload 6, 2) := by decide +kernel
theorem dX0_hungriestOf_67 : decode cX0_hungriestOf 67 = .ok (.istore_n 3, 1) := by decide +kernel
theorem dX0_hungriestOf_68 : decode cX0_hungriestOf 68 = .ok (.iinc 4 1, 3) := by decide +kernel
theorem dX0_hungriestOf_71 : decode cX0_hungriestOf 71 = .ok (.goto (-64), 3) := by decide +kernel
theorem dX0_hungriestOf_74 : decode cX0_hungriestOf 74 = .ok (.iload_n 2, 1) := by decide +kernel
theorem dX0_hungriestOf_75 : decode cX0_hungriestOf 75 = .ok (.ireturn, 1) := by decide +kernel
theorem dX0_bury_0 : decode cX0_bury 0 = .ok (.aload_n 0, 1) := by decide +kernel
theorem dX0_bury_1 : decode cX0_bury 1 = .ok (.iconst 1, 1) := by decide +kernel
theorem dX0_bury_2 : decode cX0_bury 2 = .ok (.iload_n 1, 1) := by decide +kernel
theorem dX0_bury_3 : decode cX0_bury 3 = .ok (.ishl, 1) := by decide +kernel
theorem dX0_bury_4 : decode cX0_bury 4 = .ok (.iconst (-1), 1) := by decide +kernel
theorem dX0_bury_5 : decode cX0_bury 5 = .ok (.ixor, 1) := by decide +kernel
theorem dX0_bury_6 : decode cX0_bury 6 = .ok (.invokevirtual 98, 3) := by decide +kernel
theorem dX0_bury_9 : decode cX0_bury 9 = .ok (.istore_n 3, 1) := by decide +kernel
theorem dX0_bury_10 : decode cX0_bury 10 = .ok (.aload_n 0, 1) := by decide +kernel
theorem dX0_bury_11 : decode cX0_bury 11 = .ok (.iload_n 3, 1) := by decide +kernel
theorem dX0_bury_12 : decode cX0_bury 12 = .ok (.invokevirtual 50, 3) := by decide +kernel
theorem dX0_bury_15 : decode cX0_bury 15 = .ok (.astore 4, 2) := by decide +kernel
theorem dX0_bury_17 : decode cX0_bury 17 = .ok (.aload 4, 2) := by decide +kernel
theorem dX0_bury_19 : decode cX0_bury 19 = .ok (.ifnonnull 5, 3) := by decide +kernel
theorem dX0_bury_22 : decode cX0_bury 22 = .ok (.iconst (-1), 1) := by decide +kernel
theorem dX0_bury_23 : decode cX0_bury 23 = .ok (.ireturn, 1) := by decide +kernel
theorem dX0_bury_24 : decode cX0_bury 24 = .ok (.aload 4, 2) := by decide +kernel
theorem dX0_bury_26 : decode cX0_bury 26 = .ok (.dup, 1) := by decide +kernel
theorem dX0_bury_27 : decode cX0_bury 27 = .ok (.getfield 71, 3) := by decide +kernel
theorem dX0_bury_30 : decode cX0_bury 30 = .ok (.aload_n 2, 1) := by decide +kernel
theorem dX0_bury_31 : decode cX0_bury 31 = .ok (.getfield 71, 3) := by decide +kernel
theorem dX0_bury_34 : decode cX0_bury 34 = .ok (.ior, 1) := by decide +kernel
theorem dX0_bury_35 : decode cX0_bury 35 = .ok (.putfield 71, 3) := by decide +kernel
theorem dX0_bury_38 : decode cX0_bury 38 = .ok (.aload_n 2, 1) := by decide +kernel
theorem dX0_bury_39 : decode cX0_bury 39 = .ok (.iconst 0, 1) := by decide +kernel
theorem dX0_bury_40 : decode cX0_bury 40 = .ok (.putfield 71, 3) := by decide +kernel
theorem dX0_bury_43 : decode cX0_bury 43 = .ok (.aload_n 2, 1) := by decide +kernel
theorem dX0_bury_44 : decode cX0_bury 44 = .ok (.iconst 0, 1) := by decide +kernel
theorem dX0_bury_45 : decode cX0_bury 45 = .ok (.putfield 65, 3) := by decide +kernel
theorem dX0_bury_48 : decode cX0_bury 48 = .ok (.aload_n 2, 1) := by decide +kernel
theorem dX0_bury_49 : decode cX0_bury 49 = .ok (.iconst 0, 1) := by decide +kernel
theorem dX0_bury_50 : decode cX0_bury 50 = .ok (.putfield 68, 3) := by decide +kernel
theorem dX0_bury_53 : decode cX0_bury 53 = .ok (.iload_n 3, 1) := by decide +kernel
theorem dX0_bury_54 : decode cX0_bury 54 = .ok (.ireturn, 1) := by decide +kernel
theorem dX0_passDays_0 : decode cX0_passDays 0 = .ok (.iconst 0, 1) := by decide +kernel
theorem dX0_passDays_1 : decode cX0_passDays 1 = .ok (.istore_n 2, 1) := by decide +kernel
theorem dX0_passDays_2 : decode cX0_passDays 2 = .ok (.iload_n 2, 1) := by decide +kernel
theorem dX0_passDays_3 : decode cX0_passDays 3 = .ok (.iload_n 1, 1) := by decide +kernel
theorem dX0_passDays_4 : decode cX0_passDays 4 = .ok (.if_icmp .ge 13, 3) := by decide +kernel
theorem dX0_passDays_7 : decode cX0_passDays 7 = .ok (.aload_n 0, 1) := by decide +kernel
theorem dX0_passDays_8 : decode cX0_passDays 8 = .ok (.invokevirtual 102, 3) := by decide +kernel
theorem dX0_passDays_11 : decode cX0_passDays 11 = .ok (.iinc 2 1, 3) := by decide +kernel
theorem dX0_passDays_14 : decode cX0_passDays 14 = .ok (.goto (-12), 3) := by decide +kernel
theorem dX0_passDays_17 : decode cX0_passDays 17 = .ok (.return_, 1) := by decide +kernel
theorem dX0_passDay_0 : decode cX0_passDay 0 = .ok (.aload_n 0, 1) := by decide +kernel
theorem dX0_passDay_1 : decode cX0_passDay 1 = .ok (.getfield 30, 3) := by decide +kernel
theorem dX0_passDay_4 : decode cX0_passDay 4 = .ok (.aload_n 0, 1) := by decide +kernel
theorem dX0_passDay_5 : decode cX0_passDay 5 = .ok (.invokevirtual 105, 3) := by decide +kernel
theorem dX0_passDay_8 : decode cX0_passDay 8 = .ok (.iaload, 1) := by decide +kernel
theorem dX0_passDay_9 : decode cX0_passDay 9 = .ok (.istore_n 1, 1) := by decide +kernel
theorem dX0_passDay_10 : decode cX0_passDay 10 = .ok (.iload_n 1, 1) := by decide +kernel
theorem dX0_passDay_11 : decode cX0_passDay 11 = .ok (.invokestatic 108, 3) := by decide +kernel
theorem dX0_passDay_14 : decode cX0_passDay 14 = .ok (.istore_n 2, 1) := by decide +kernel
theorem dX0_passDay_15 : decode cX0_passDay 15 = .ok (.iload_n 1, 1) := by decide +kernel
theorem dX0_passDay_16 : decode cX0_passDay 16 = .ok (.invokestatic 111, 3) := by decide +kernel
theorem dX0_passDay_19 : decode cX0_passDay 19 = .ok (.istore_n 3, 1) := by decide +kernel
theorem dX0_passDay_20 : decode cX0_passDay 20 = .ok (.iload_n 3, 1) := by decide +kernel
theorem dX0_passDay_21 : decode cX0_passDay 21 = .ok (.ifCond .le 19, 3) := by decide +kernel
theorem dX0_passDay_24 : decode cX0_passDay 24 = .ok (.aload_n 0, 1) := by decide +kernel
theorem dX0_passDay_25 : decode cX0_passDay 25 = .ok (.aload_n 0, 1) := by decide +kernel
theorem dX0_passDay_26 : decode cX0_passDay 26 = .ok (.aload_n 0, 1) := by decide +kernel
theorem dX0_passDay_27 : decode cX0_passDay 27 = .ok (.iload_n 2, 1) := by decide +kernel
theorem dX0_passDay_28 : decode cX0_passDay 28 = .ok (.invokevirtual 114, 3) := by decide +kernel
theorem dX0_passDay_31 : decode cX0_passDay 31 = .ok (.invokevirtual 98, 3) := by decide +kernel
theorem dX0_passDay_34 : decode cX0_passDay 34 = .ok (.invokevirtual 50, 3) := by decide +kernel
theorem dX0_passDay_37 : decode cX0_passDay 37 = .ok (.goto 4, 3) := by decide +kernel
theorem dX0_passDay_40 : decode cX0_passDay 40 = .ok (.aconst_null, 1) := by decide +kernel
theorem dX0_passDay_41 : decode cX0_passDay 41 = .ok (.astore 4, 2) := by decide +kernel
theorem dX0_passDay_43 : decode cX0_passDay 43 = .ok (.aload 4, 2) := by decide +kernel
theorem dX0_passDay_45 : decode cX0_passDay 45 = .ok (.ifnull 17, 3) := by decide +kernel
theorem dX0_passDay_48 : decode cX0_passDay 48 = .ok (.aload 4, 2) := by decide +kernel
theorem dX0_passDay_50 : decode cX0_passDay 50 = .ok (.iload_n 2, 1) := by decide +kernel
theorem dX0_passDay_51 : decode cX0_passDay 51 = .ok (.iload_n 3, 1) := by decide +kernel
theorem dX0_passDay_52 : decode cX0_passDay 52 = .ok (.aload_n 0, 1) := by decide +kernel
theorem dX0_passDay_53 : decode cX0_passDay 53 = .ok (.getfield 15, 3) := by decide +kernel
theorem dX0_passDay_56 : decode cX0_passDay 56 = .ok (.invokevirtual 117, 3) := by decide +kernel
theorem dX0_passDay_59 : decode cX0_passDay 59 = .ok (.goto 22, 3) := by decide +kernel
theorem dX0_passDay_62 : decode cX0_passDay 62 = .ok (.iload_n 3, 1) := by decide +kernel
theorem dX0_passDay_63 : decode cX0_passDay 63 = .ok (.ifCond .le 18, 3) := by decide +kernel
theorem dX0_passDay_66 : decode cX0_passDay 66 = .ok (.aload_n 0, 1) := by decide +kernel
theorem dX0_passDay_67 : decode cX0_passDay 67 = .ok (.aload_n 0, 1) := by decide +kernel
theorem dX0_passDay_68 : decode cX0_passDay 68 = .ok (.getfield 21, 3) := by decide +kernel
theorem dX0_passDay_71 : decode cX0_passDay 71 = .ok (.iconst 1, 1) := by decide +kernel
theorem dX0_passDay_72 : decode cX0_passDay 72 = .ok (.iadd, 1) := by decide +kernel
theorem dX0_passDay_73 : decode cX0_passDay 73 = .ok (.ldc 121, 2) := by decide +kernel
theorem dX0_passDay_75 : decode cX0_passDay 75 = .ok (.invokestatic 122, 3) := by decide +kernel
theorem dX0_passDay_78 : decode cX0_passDay 78 = .ok (.putfield 21, 3) := by decide +kernel
theorem dX0_passDay_81 : decode cX0_passDay 81 = .ok (.aload_n 0, 1) := by decide +kernel
theorem dX0_passDay_82 : decode cX0_passDay 82 = .ok (.invokevirtual 125, 3) := by decide +kernel
theorem dX0_passDay_85 : decode cX0_passDay 85 = .ok (.aload_n 0, 1) := by decide +kernel
theorem dX0_passDay_86 : decode cX0_passDay 86 = .ok (.invokevirtual 128, 3) := by decide +kernel
theorem dX0_passDay_89 : decode cX0_passDay 89 = .ok (.aload_n 0, 1) := by decide +kernel
theorem dX0_passDay_90 : decode cX0_passDay 90 = .ok (.aload_n 0, 1) := by decide +kernel
theorem dX0_passDay_91 : decode cX0_passDay 91 = .ok (.getfield 9, 3) := by decide +kernel
theorem dX0_passDay_94 : decode cX0_passDay 94 = .ok (.iconst 1, 1) := by decide +kernel
theorem dX0_passDay_95 : decode cX0_passDay 95 = .ok (.iadd, 1) := by decide +kernel
theorem dX0_passDay_96 : decode cX0_passDay 96 = .ok (.ldc 121, 2) := by decide +kernel
theorem dX0_passDay_98 : decode cX0_passDay 98 = .ok (.invokestatic 122, 3) := by decide +kernel
theorem dX0_passDay_101 : decode cX0_passDay 101 = .ok (.putfield 9, 3) := by decide +kernel
theorem dX0_passDay_104 : decode cX0_passDay 104 = .ok (.return_, 1) := by decide +kernel
theorem dX0_letTheOverfullFallIll_0 : decode cX0_letTheOverfullFallIll 0 = .ok (.iconst 0, 1) := by decide +kernel
theorem dX0_letTheOverfullFallIll_1 : decode cX0_letTheOverfullFallIll 1 = .ok (.istore_n 1, 1) := by decide +kernel
theorem dX0_letTheOverfullFallIll_2 : decode cX0_letTheOverfullFallIll 2 = .ok (.iload_n 1, 1) := by decide +kernel
theorem dX0_letTheOverfullFallIll_3 : decode cX0_letTheOverfullFallIll 3 = .ok (.aload_n 0, 1) := by decide +kernel
theorem dX0_letTheOverfullFallIll_4 : decode cX0_letTheOverfullFallIll 4 = .ok (.getfield 27, 3) := by decide +kernel
theorem dX0_letTheOverfullFallIll_7 : decode cX0_letTheOverfullFallIll 7 = .ok (.if_icmp .ge 58, 3) := by decide +kernel
theorem dX0_letTheOverfullFallIll_10 : decode cX0_letTheOverfullFallIll 10 = .ok (.aload_n 0, 1) := by decide +kernel
theorem dX0_letTheOverfullFallIll_11 : decode cX0_letTheOverfullFallIll 11 = .ok (.iload_n 1, 1) := by decide +kernel
theorem dX0_letTheOverfullFallIll_12 : decode cX0_letTheOverfullFallIll 12 = .ok (.invokevirtual 50, 3) := by decide +kernel
theorem dX0_letTheOverfullFallIll_15 : decode cX0_letTheOverfullFallIll 15 = .ok (.astore_n 2, 1) := by decide +kernel
theorem dX0_letTheOverfullFallIll_16 : decode cX0_letTheOverfullFallIll 16 = .ok (.aload_n 2, 1) := by decide +kernel
theorem dX0_letTheOverfullFallIll_17 : decode cX0_letTheOverfullFallIll 17 = .ok (.ifnull 42, 3) := by decide +kernel
theorem dX0_letTheOverfullFallIll_20 : decode cX0_letTheOverfullFallIll 20 = .ok (.aload_n 2, 1) := by decide +kernel
theorem dX0_letTheOverfullFallIll_21 : decode cX0_letTheOverfullFallIll 21 = .ok (.getfield 65, 3) := by decide +kernel
theorem dX0_letTheOverfullFallIll_24 : decode cX0_letTheOverfullFallIll 24 = .ok (.aload_n 2, 1) := by decide +kernel
theorem dX0_letTheOverfullFallIll_25 : decode cX0_letTheOverfullFallIll 25 = .ok (.invokevirtual 80, 3) := by decide +kernel
theorem dX0_letTheOverfullFallIll_28 : decode cX0_letTheOverfullFallIll 28 = .ok (.if_icmp .le 31, 3) := by decide +kernel
theorem dX0_letTheOverfullFallIll_31 : decode cX0_letTheOverfullFallIll 31 = .ok (.aload_n 0, 1) := by decide +kernel
theorem dX0_letTheOverfullFallIll_32 : decode cX0_letTheOverfullFallIll 32 = .ok (.dup, 1) := by decide +kernel
theorem dX0_letTheOverfullFallIll_33 : decode cX0_letTheOverfullFallIll 33 = .ok (.getfield 18, 3) := by decide +kernel
theorem dX0_letTheOverfullFallIll_36 : decode cX0_letTheOverfullFallIll 36 = .ok (.aload_n 2, 1) := by decide +kernel
theorem dX0_letTheOverfullFallIll_37 : decode cX0_letTheOverfullFallIll 37 = .ok (.invokevirtual 88, 3) := by decide +kernel
theorem dX0_letTheOverfullFallIll_40 : decode cX0_letTheOverfullFallIll 40 = .ok (.ifCond .eq 7, 3) := by decide +kernel
theorem dX0_letTheOverfullFallIll_43 : decode cX0_letTheOverfullFallIll 43 = .ok (.iconst 0, 1) := by decide +kernel
theorem dX0_letTheOverfullFallIll_44 : decode cX0_letTheOverfullFallIll 44 = .ok (.goto 7, 3) := by decide +kernel
theorem dX0_letTheOverfullFallIll_47 : decode cX0_letTheOverfullFallIll 47 = .ok (.aload_n 2, 1) := by decide +kernel
theorem dX0_letTheOverfullFallIll_48 : decode cX0_letTheOverfullFallIll 48 = .ok (.getfield 71, 3) := by decide +kernel
theorem dX0_letTheOverfullFallIll_51 : decode cX0_letTheOverfullFallIll 51 = .ok (.ior, 1) := by decide +kernel
theorem dX0_letTheOverfullFallIll_52 : decode cX0_letTheOverfullFallIll 52 = .ok (.putfield 18, 3) := by decide +kernel
theorem dX0_letTheOverfullFallIll_55 : decode cX0_letTheOverfullFallIll 55 = .ok (.aload_n 2, 1) := by decide +kernel
theorem dX0_letTheOverfullFallIll_56 : decode cX0_letTheOverfullFallIll 56 = .ok (.invokevirtual 131, 3) := by decide +kernel
theorem dX0_letTheOverfullFallIll_59 : decode cX0_letTheOverfullFallIll 59 = .ok (.iinc 1 1, 3) := by decide +kernel
theorem dX0_letTheOverfullFallIll_62 : decode cX0_letTheOverfullFallIll 62 = .ok (.goto (-60), 3) := by decide +kernel
theorem dX0_letTheOverfullFallIll_65 : decode cX0_letTheOverfullFallIll 65 = .ok (.return_, 1) := by decide +kernel
theorem dX0_letAllDigest_0 : decode cX0_letAllDigest 0 = .ok (.iconst 0, 1) := by decide +kernel
theorem dX0_letAllDigest_1 : decode cX0_letAllDigest 1 = .ok (.istore_n 1, 1) := by decide +kernel
theorem dX0_letAllDigest_2 : decode cX0_letAllDigest 2 = .ok (.iload_n 1, 1) := by decide +kernel
theorem dX0_letAllDigest_3 : decode cX0_letAllDigest 3 = .ok (.aload_n 0, 1) := by decide +kernel
theorem dX0_letAllDigest_4 : decode cX0_letAllDigest 4 = .ok (.getfield 27, 3) := by decide +kernel
theorem dX0_letAllDigest_7 : decode cX0_letAllDigest 7 = .ok (.if_icmp .ge 44, 3) := by decide +kernel
theorem dX0_letAllDigest_10 : decode cX0_letAllDigest 10 = .ok (.aload_n 0, 1) := by decide +kernel
theorem dX0_letAllDigest_11 : decode cX0_letAllDigest 11 = .ok (.iload_n 1, 1) := by decide +kernel
theorem dX0_letAllDigest_12 : decode cX0_letAllDigest 12 = .ok (.invokevirtual 50, 3) := by decide +kernel
theorem dX0_letAllDigest_15 : decode cX0_letAllDigest 15 = .ok (.astore_n 2, 1) := by decide +kernel
theorem dX0_letAllDigest_16 : decode cX0_letAllDigest 16 = .ok (.aload_n 2, 1) := by decide +kernel
theorem dX0_letAllDigest_17 : decode cX0_letAllDigest 17 = .ok (.ifnull 28, 3) := by decide +kernel
theorem dX0_letAllDigest_20 : decode cX0_letAllDigest 20 = .ok (.aload_n 2, 1) := by decide +kernel
theorem dX0_letAllDigest_21 : decode cX0_letAllDigest 21 = .ok (.aload_n 2, 1) := by decide +kernel
theorem dX0_letAllDigest_22 : decode cX0_letAllDigest 22 = .ok (.getfield 65, 3) := by decide +kernel
theorem dX0_letAllDigest_25 : decode cX0_letAllDigest 25 = .ok (.aload_n 2, 1) := by decide +kernel
theorem dX0_letAllDigest_26 : decode cX0_letAllDigest 26 = .ok (.aload_n 0, 1) := by decide +kernel
theorem dX0_letAllDigest_27 : decode cX0_letAllDigest 27 = .ok (.getfield 15, 3) := by decide +kernel
theorem dX0_letAllDigest_30 : decode cX0_letAllDigest 30 = .ok (.aload_n 0, 1) := by decide +kernel
theorem dX0_letAllDigest_31 : decode cX0_letAllDigest 31 = .ok (.getfield 9, 3) := by decide +kernel
theorem dX0_letAllDigest_34 : decode cX0_letAllDigest 34 = .ok (.invokevirtual 84, 3) := by decide +kernel
theorem dX0_letAllDigest_37 : decode cX0_letAllDigest 37 = .ok (.isub, 1) := by decide +kernel
theorem dX0_letAllDigest_38 : decode cX0_letAllDigest 38 = .ok (.iconst 0, 1) := by decide +kernel
theorem dX0_letAllDigest_39 : decode cX0_letAllDigest 39 = .ok (.invokestatic 134, 3) := by decide +kernel
theorem dX0_letAllDigest_42 : decode cX0_letAllDigest 42 = .ok (.putfield 65, 3) := by decide +kernel
theorem dX0_letAllDigest_45 : decode cX0_letAllDigest 45 = .ok (.iinc 1 1, 3) := by decide +kernel
theorem dX0_letAllDigest_48 : decode cX0_letAllDigest 48 = .ok (.goto (-46), 3) := by decide +kernel
theorem dX0_letAllDigest_51 : decode cX0_letAllDigest 51 = .ok (.return_, 1) := by decide +kernel
theorem dX0_sinsTogether_0 : decode cX0_sinsTogether 0 = .ok (.iconst 0, 1) := by decide +kernel
theorem dX0_sinsTogether_1 : decode cX0_sinsTogether 1 = .ok (.istore_n 2, 1) := by decide +kernel
theorem dX0_sinsTogether_2 : decode cX0_sinsTogether 2 = .ok (.iconst 0, 1) := by decide +kernel
theorem dX0_sinsTogether_3 : decode cX0_sinsTogether 3 = .ok (.istore_n 3, 1) := by decide +kernel
theorem dX0_sinsTogether_4 : decode cX0_sinsTogether 4 = .ok (.iload_n 3, 1) := by decide +kernel
theorem dX0_sinsTogether_5 : decode cX0_sinsTogether 5 = .ok (.aload_n 0, 1) := by decide +kernel
theorem dX0_sinsTogether_6 : decode cX0_sinsTogether 6 = .ok (.getfield 27, 3) := by decide +kernel
theorem dX0_sinsTogether_9 : decode cX0_sinsTogether 9 = .ok (.if_icmp .ge 35, 3) := by decide +kernel
theorem dX0_sinsTogether_12 : decode cX0_sinsTogether 12 = .ok (.aload_n 0, 1) := by decide +kernel
theorem dX0_sinsTogether_13 : decode cX0_sinsTogether 13 = .ok (.iload_n 3, 1) := by decide +kernel
theorem dX0_sinsTogether_14 : decode cX0_sinsTogether 14 = .ok (.invokevirtual 50, 3) := by decide +kernel
theorem dX0_sinsTogether_17 : decode cX0_sinsTogether 17 = .ok (.astore 4, 2) := by decide +kernel
theorem dX0_sinsTogether_19 : decode cX0_sinsTogether 19 = .ok (.iload_n 2, 1) := by decide +kernel
theorem dX0_sinsTogether_20 : decode cX0_sinsTogether 20 = .ok (.aload 4, 2) := by decide +kernel
theorem dX0_sinsTogether_22 : decode cX0_sinsTogether 22 = .ok (.ifnonnull 7, 3) := by decide +kernel
theorem dX0_sinsTogether_25 : decode cX0_sinsTogether 25 = .ok (.iconst 0, 1) := by decide +kernel
theorem dX0_sinsTogether_26 : decode cX0_sinsTogether 26 = .ok (.goto 10, 3) := by decide +kernel
theorem dX0_sinsTogether_29 : decode cX0_sinsTogether 29 = .ok (.aload_n 0, 1) := by decide +kernel
theorem dX0_sinsTogether_30 : decode cX0_sinsTogether 30 = .ok (.aload 4, 2) := by decide +kernel
theorem dX0_sinsTogether_32 : decode cX0_sinsTogether 32 = .ok (.iload_n 1, 1) := by decide +kernel
theorem dX0_sinsTogether_33 : decode cX0_sinsTogether 33 = .ok (.invokevirtual 137, 3) := by decide +kernel
theorem dX0_sinsTogether_36 : decode cX0_sinsTogether 36 = .ok (.ior, 1) := by decide +kernel
theorem dX0_sinsTogether_37 : decode cX0_sinsTogether 37 = .ok (.istore_n 2, 1) := by decide +kernel
theorem dX0_sinsTogether_38 : decode cX0_sinsTogether 38 = .ok (.iinc 3 1, 3) := by decide +kernel
theorem dX0_sinsTogether_41 : decode cX0_sinsTogether 41 = .ok (.goto (-37), 3) := by decide +kernel
theorem dX0_sinsTogether_44 : decode cX0_sinsTogether 44 = .ok (.iload_n 2, 1) := by decide +kernel
theorem dX0_sinsTogether_45 : decode cX0_sinsTogether 45 = .ok (.ireturn, 1) := by decide +kernel
theorem dX0_sumTogether_0 : decode cX0_sumTogether 0 = .ok (.iconst 0, 1) := by decide +kernel
theorem dX0_sumTogether_1 : decode cX0_sumTogether 1 = .ok (.istore_n 2, 1) := by decide +kernel
theorem dX0_sumTogether_2 : decode cX0_sumTogether 2 = .ok (.iconst 0, 1) := by decide +kernel
theorem dX0_sumTogether_3 : decode cX0_sumTogether 3 = .ok (.istore_n 3, 1) := by decide +kernel
theorem dX0_sumTogether_4 : decode cX0_sumTogether 4 = .ok (.iload_n 3, 1) := by decide +kernel
theorem dX0_sumTogether_5 : decode cX0_sumTogether 5 = .ok (.aload_n 0, 1) := by decide +kernel
theorem dX0_sumTogether_6 : decode cX0_sumTogether 6 = .ok (.getfield 27, 3) := by decide +kernel
theorem dX0_sumTogether_9 : decode cX0_sumTogether 9 = .ok (.if_icmp .ge 35, 3) := by decide +kernel
theorem dX0_sumTogether_12 : decode cX0_sumTogether 12 = .ok (.aload_n 0, 1) := by decide +kernel
theorem dX0_sumTogether_13 : decode cX0_sumTogether 13 = .ok (.iload_n 3, 1) := by decide +kernel
theorem dX0_sumTogether_14 : decode cX0_sumTogether 14 = .ok (.invokevirtual 50, 3) := by decide +kernel
theorem dX0_sumTogether_17 : decode cX0_sumTogether 17 = .ok (.astore 4, 2) := by decide +kernel
theorem dX0_sumTogether_19 : decode cX0_sumTogether 19 = .ok (.iload_n 2, 1) := by decide +kernel
theorem dX0_sumTogether_20 : decode cX0_sumTogether 20 = .ok (.aload 4, 2) := by decide +kernel
theorem dX0_sumTogether_22 : decode cX0_sumTogether 22 = .ok (.ifnonnull 7, 3) := by decide +kernel
theorem dX0_sumTogether_25 : decode cX0_sumTogether 25 = .ok (.iconst 0, 1) := by decide +kernel
theorem dX0_sumTogether_26 : decode cX0_sumTogether 26 = .ok (.goto 10, 3) := by decide +kernel
theorem dX0_sumTogether_29 : decode cX0_sumTogether 29 = .ok (.aload_n 0, 1) := by decide +kernel
theorem dX0_sumTogether_30 : decode cX0_sumTogether 30 = .ok (.aload 4, 2) := by decide +kernel
theorem dX0_sumTogether_32 : decode cX0_sumTogether 32 = .ok (.iload_n 1, 1) := by decide +kernel
theorem dX0_sumTogether_33 : decode cX0_sumTogether 33 = .ok (.invokevirtual 137, 3) := by decide +kernel
theorem dX0_sumTogether_36 : decode cX0_sumTogether 36 = .ok (.iadd, 1) := by decide +kernel
theorem dX0_sumTogether_37 : decode cX0_sumTogether 37 = .ok (.istore_n 2, 1) := by decide +kernel
theorem dX0_sumTogether_38 : decode cX0_sumTogether 38 = .ok (.iinc 3 1, 3) := by decide +kernel
theorem dX0_sumTogether_41 : decode cX0_sumTogether 41 = .ok (.goto (-37), 3) := by decide +kernel
theorem dX0_sumTogether_44 : decode cX0_sumTogether 44 = .ok (.iload_n 2, 1) := by decide +kernel
theorem dX0_sumTogether_45 : decode cX0_sumTogether 45 = .ok (.ireturn, 1) := by decide +kernel
theorem dX0_fullest_0 : decode cX0_fullest 0 = .ok (.iconst (-1), 1) := by decide +kernel
theorem dX0_fullest_1 : decode cX0_fullest 1 = .ok (.istore_n 1, 1) := by decide +kernel
theorem dX0_fullest_2 : decode cX0_fullest 2 = .ok (.iconst (-1), 1) := by decide +kernel
theorem dX0_fullest_3 : decode cX0_fullest 3 = .ok (.istore_n 2, 1) := by decide +kernel
theorem dX0_fullest_4 : decode cX0_fullest 4 = .ok (.iconst 0, 1) := by decide +kernel
theorem dX0_fullest_5 : decode cX0_fullest 5 = .ok (.istore_n 3, 1) := by decide +kernel
theorem dX0_fullest_6 : decode cX0_fullest 6 = .ok (.iload_n 3, 1) := by decide +kernel
theorem dX0_fullest_7 : decode cX0_fullest 7 = .ok (.aload_n 0, 1) := by decide +kernel
theorem dX0_fullest_8 : decode cX0_fullest 8 = .ok (.getfield 27, 3) := by decide +kernel
theorem dX0_fullest_11 : decode cX0_fullest 11 = .ok (.if_icmp .ge 38, 3) := by decide +kernel
theorem dX0_fullest_14 : decode cX0_fullest 14 = .ok (.aload_n 0, 1) := by decide +kernel
theorem dX0_fullest_15 : decode cX0_fullest 15 = .ok (.iload_n 3, 1) := by decide +kernel
theorem dX0_fullest_16 : decode cX0_fullest 16 = .ok (.invokevirtual 50, 3) := by decide +kernel
theorem dX0_fullest_19 : decode cX0_fullest 19 = .ok (.astore 4, 2) := by decide +kernel
theorem dX0_fullest_21 : decode cX0_fullest 21 = .ok (.aload 4, 2) := by decide +kernel
theorem dX0_fullest_23 : decode cX0_fullest 23 = .ok (.ifnull 20, 3) := by decide +kernel
theorem dX0_fullest_26 : decode cX0_fullest 26 = .ok (.aload 4, 2) := by decide +kernel
theorem dX0_fullest_28 : decode cX0_fullest 28 = .ok (.getfield 65, 3) := by decide +kernel
theorem dX0_fullest_31 : decode cX0_fullest 31 = .ok (.iload_n 2, 1) := by decide +kernel
theorem dX0_fullest_32 : decode cX0_fullest 32 = .ok (.if_icmp .le 11, 3) := by decide +kernel
theorem dX0_fullest_35 : decode cX0_fullest 35 = .ok (.iload_n 3, 1) := by decide +kernel
theorem dX0_fullest_36 : decode cX0_fullest 36 = .ok (.istore_n 1, 1) := by decide +kernel
theorem dX0_fullest_37 : decode cX0_fullest 37 = .ok (.aload 4, 2) := by decide +kernel
theorem dX0_fullest_39 : decode cX0_fullest 39 = .ok (.getfield 65, 3) := by decide +kernel
theorem dX0_fullest_42 : decode cX0_fullest 42 = .ok (.istore_n 2, 1) := by decide +kernel
theorem dX0_fullest_43 : decode cX0_fullest 43 = .ok (.iinc 3 1, 3) := by decide +kernel
theorem dX0_fullest_46 : decode cX0_fullest 46 = .ok (.goto (-40), 3) := by decide +kernel
theorem dX0_fullest_49 : decode cX0_fullest 49 = .ok (.iload_n 1, 1) := by decide +kernel
theorem dX0_fullest_50 : decode cX0_fullest 50 = .ok (.ireturn, 1) := by decide +kernel
theorem dX0_spotsInUse_0 : decode cX0_spotsInUse 0 = .ok (.iconst 0, 1) := by decide +kernel
theorem dX0_spotsInUse_1 : decode cX0_spotsInUse 1 = .ok (.istore_n 1, 1) := by decide +kernel
theorem dX0_spotsInUse_2 : decode cX0_spotsInUse 2 = .ok (.iconst 0, 1) := by decide +kernel
theorem dX0_spotsInUse_3 : decode cX0_spotsInUse 3 = .ok (.istore_n 2, 1) := by decide +kernel
theorem dX0_spotsInUse_4 : decode cX0_spotsInUse 4 = .ok (.iload_n 2, 1) := by decide +kernel
theorem dX0_spotsInUse_5 : decode cX0_spotsInUse 5 = .ok (.bipush 10, 2) := by decide +kernel
theorem dX0_spotsInUse_7 : decode cX0_spotsInUse 7 = .ok (.if_icmp .ge 22, 3) := by decide +kernel
theorem dX0_spotsInUse_10 : decode cX0_spotsInUse 10 = .ok (.aload_n 0, 1) := by decide +kernel
theorem dX0_spotsInUse_11 : decode cX0_spotsInUse 11 = .ok (.getfield 34, 3) := by decide +kernel
theorem dX0_spotsInUse_14 : decode cX0_spotsInUse 14 = .ok (.iload_n 2, 1) := by decide +kernel
theorem dX0_spotsInUse_15 : decode cX0_spotsInUse 15 = .ok (.iaload, 1) := by decide +kernel
theorem dX0_spotsInUse_16 : decode cX0_spotsInUse 16 = .ok (.iconst (-1), 1) := by decide +kernel
theorem dX0_spotsInUse_17 : decode cX0_spotsInUse 17 = .ok (.if_icmp .eq 6, 3) := by decide +kernel
theorem dX0_spotsInUse_20 : decode cX0_spotsInUse 20 = .ok (.iinc 1 1, 3) := by decide +kernel
theorem dX0_spotsInUse_23 : decode cX0_spotsInUse 23 = .ok (.iinc 2 1, 3) := by decide +kernel
theorem dX0_spotsInUse_26 : decode cX0_spotsInUse 26 = .ok (.goto (-22), 3) := by decide +kernel
theorem dX0_spotsInUse_29 : decode cX0_spotsInUse 29 = .ok (.iload_n 1, 1) := by decide +kernel
theorem dX0_spotsInUse_30 : decode cX0_spotsInUse 30 = .ok (.ireturn, 1) := by decide +kernel
theorem dX0_takeTogether_0 : decode cX0_takeTogether 0 = .ok (.iconst 0, 1) := by decide +kernel
theorem dX0_takeTogether_1 : decode cX0_takeTogether 1 = .ok (.istore_n 3, 1) := by decide +kernel
theorem dX0_takeTogether_2 : decode cX0_takeTogether 2 = .ok (.iconst 0, 1) := by decide +kernel
theorem dX0_takeTogether_3 : decode cX0_takeTogether 3 = .ok (.istore 4, 2) := by decide +kernel
theorem dX0_takeTogether_5 : decode cX0_takeTogether 5 = .ok (.iload 4, 2) := by decide +kernel
theorem dX0_takeTogether_7 : decode cX0_takeTogether 7 = .ok (.aload_n 0, 1) := by decide +kernel
theorem dX0_takeTogether_8 : decode cX0_takeTogether 8 = .ok (.getfield 27, 3) := by decide +kernel
theorem dX0_takeTogether_11 : decode cX0_takeTogether 11 = .ok (.if_icmp .ge 39, 3) := by decide +kernel
theorem dX0_takeTogether_14 : decode cX0_takeTogether 14 = .ok (.aload_n 0, 1) := by decide +kernel
theorem dX0_takeTogether_15 : decode cX0_takeTogether 15 = .ok (.iload 4, 2) := by decide +kernel
theorem dX0_takeTogether_17 : decode cX0_takeTogether 17 = .ok (.invokevirtual 50, 3) := by decide +kernel
theorem dX0_takeTogether_20 : decode cX0_takeTogether 20 = .ok (.astore 5, 2) := by decide +kernel
theorem dX0_takeTogether_22 : decode cX0_takeTogether 22 = .ok (.aload 5, 2) := by decide +kernel
theorem dX0_takeTogether_24 : decode cX0_takeTogether 24 = .ok (.ifnull 20, 3) := by decide +kernel
theorem dX0_takeTogether_27 : decode cX0_takeTogether 27 = .ok (.iload_n 1, 1) := by decide +kernel
theorem dX0_takeTogether_28 : decode cX0_takeTogether 28 = .ok (.iload 4, 2) := by decide +kernel
theorem dX0_takeTogether_30 : decode cX0_takeTogether 30 = .ok (.ishr, 1) := by decide +kernel
theorem dX0_takeTogether_31 : decode cX0_takeTogether 31 = .ok (.iconst 1, 1) := by decide +kernel
theorem dX0_takeTogether_32 : decode cX0_takeTogether 32 = .ok (.iand, 1) := by decide +kernel
theorem dX0_takeTogether_33 : decode cX0_takeTogether 33 = .ok (.ifCond .eq 11, 3) := by decide +kernel
theorem dX0_takeTogether_36 : decode cX0_takeTogether 36 = .ok (.iload_n 3, 1) := by decide +kernel
theorem dX0_takeTogether_37 : decode cX0_takeTogether 37 = .ok (.aload 5, 2) := by decide +kernel
theorem dX0_takeTogether_39 : decode cX0_takeTogether 39 = .ok (.getfield 68, 3) := by decide +kernel
theorem dX0_takeTogether_42 : decode cX0_takeTogether 42 = .ok (.ior, 1) := by decide +kernel
theorem dX0_takeTogether_43 : decode cX0_takeTogether 43 = .ok (.istore_n 3, 1) := by decide +kernel
theorem dX0_takeTogether_44 : decode cX0_takeTogether 44 = .ok (.iinc 4 1, 3) := by decide +kernel
theorem dX0_takeTogether_47 : decode cX0_takeTogether 47 = .ok (.goto (-42), 3) := by decide +kernel
theorem dX0_takeTogether_50 : decode cX0_takeTogether 50 = .ok (.iload_n 2, 1) := by decide +kernel
theorem dX0_takeTogether_51 : decode cX0_takeTogether 51 = .ok (.iload_n 3, 1) := by decide +kernel
theorem dX0_takeTogether_52 : decode cX0_takeTogether 52 = .ok (.iconst (-1), 1) := by decide +kernel
theorem dX0_takeTogether_53 : decode cX0_takeTogether 53 = .ok (.ixor, 1) := by decide +kernel
theorem dX0_takeTogether_54 : decode cX0_takeTogether 54 = .ok (.iand, 1) := by decide +kernel
theorem dX0_takeTogether_55 : decode cX0_takeTogether 55 = .ok (.ifCond .ne 7, 3) := by decide +kernel
theorem dX0_takeTogether_58 : decode cX0_takeTogether 58 = .ok (.iconst 1, 1) := by decide +kernel
theorem dX0_takeTogether_59 : decode cX0_takeTogether 59 = .ok (.goto 4, 3) := by decide +kernel
theorem dX0_takeTogether_62 : decode cX0_takeTogether 62 = .ok (.iconst 0, 1) := by decide +kernel
theorem dX0_takeTogether_63 : decode cX0_takeTogether 63 = .ok (.ireturn, 1) := by decide +kernel
theorem dX0_fewestTaking_0 : decode cX0_fewestTaking 0 = .ok (.iconst 0, 1) := by decide +kernel
theorem dX0_fewestTaking_1 : decode cX0_fewestTaking 1 = .ok (.istore_n 2, 1) := by decide +kernel
theorem dX0_fewestTaking_2 : decode cX0_fewestTaking 2 = .ok (.iload_n 2, 1) := by decide +kernel
theorem dX0_fewestTaking_3 : decode cX0_fewestTaking 3 = .ok (.aload_n 0, 1) := by decide +kernel
theorem dX0_fewestTaking_4 : decode cX0_fewestTaking 4 = .ok (.getfield 27, 3) := by decide +kernel
theorem dX0_fewestTaking_7 : decode cX0_fewestTaking 7 = .ok (.if_icmp .gt 46, 3) := by decide +kernel
theorem dX0_fewestTaking_10 : decode cX0_fewestTaking 10 = .ok (.iconst 0, 1) := by decide +kernel
theorem dX0_fewestTaking_11 : decode cX0_fewestTaking 11 = .ok (.istore_n 3, 1) := by decide +kernel
theorem dX0_fewestTaking_12 : decode cX0_fewestTaking 12 = .ok (.iload_n 3, 1) := by decide +kernel
theorem dX0_fewestTaking_13 : decode cX0_fewestTaking 13 = .ok (.iconst 1, 1) := by decide +kernel
theorem dX0_fewestTaking_14 : decode cX0_fewestTaking 14 = .ok (.aload_n 0, 1) := by decide +kernel
theorem dX0_fewestTaking_15 : decode cX0_fewestTaking 15 = .ok (.getfield 27, 3) := by decide +kernel
theorem dX0_fewestTaking_18 : decode cX0_fewestTaking 18 = .ok (.ishl, 1) := by decide +kernel
theorem dX0_fewestTaking_19 : decode cX0_fewestTaking 19 = .ok (.if_icmp .ge 28, 3) := by decide +kernel
theorem dX0_fewestTaking_22 : decode cX0_fewestTaking 22 = .ok (.iload_n 3, 1) := by decide +kernel
theorem dX0_fewestTaking_23 : decode cX0_fewestTaking 23 = .ok (.invokestatic 141, 3) := by decide +kernel
theorem dX0_fewestTaking_26 : decode cX0_fewestTaking 26 = .ok (.iload_n 2, 1) := by decide +kernel
theorem dX0_fewestTaking_27 : decode cX0_fewestTaking 27 = .ok (.if_icmp .ne 14, 3) := by decide +kernel
theorem dX0_fewestTaking_30 : decode cX0_fewestTaking 30 = .ok (.aload_n 0, 1) := by decide +kernel
theorem dX0_fewestTaking_31 : decode cX0_fewestTaking 31 = .ok (.iload_n 3, 1) := by decide +kernel
theorem dX0_fewestTaking_32 : decode cX0_fewestTaking 32 = .ok (.iload_n 1, 1) := by decide +kernel
theorem dX0_fewestTaking_33 : decode cX0_fewestTaking 33 = .ok (.invokevirtual 146, 3) := by decide +kernel
theorem dX0_fewestTaking_36 : decode cX0_fewestTaking 36 = .ok (.ifCond .eq 5, 3) := by decide +kernel
theorem dX0_fewestTaking_39 : decode cX0_fewestTaking 39 = .ok (.iload_n 3, 1) := by decide +kernel
theorem dX0_fewestTaking_40 : decode cX0_fewestTaking 40 = .ok (.ireturn, 1) := by decide +kernel
theorem dX0_fewestTaking_41 : decode cX0_fewestTaking 41 = .ok (.iinc 3 1, 3) := by decide +kernel
theorem dX0_fewestTaking_44 : decode cX0_fewestTaking 44 = .ok (.goto (-32), 3) := by decide +kernel
theorem dX0_fewestTaking_47 : decode cX0_fewestTaking 47 = .ok (.iinc 2 1, 3) := by decide +kernel
theorem dX0_fewestTaking_50 : decode cX0_fewestTaking 50 = .ok (.goto (-48), 3) := by decide +kernel
theorem dX0_fewestTaking_53 : decode cX0_fewestTaking 53 = .ok (.iconst (-1), 1) := by decide +kernel
theorem dX0_fewestTaking_54 : decode cX0_fewestTaking 54 = .ok (.ireturn, 1) := by decide +kernel
theorem dX1_init_0 : decode cX1_init 0 = .ok (.aload_n 0, 1) := by decide +kernel
theorem dX1_init_1 : decode cX1_init 1 = .ok (.invokespecial 5, 3) := by decide +kernel
theorem dX1_init_4 : decode cX1_init 4 = .ok (.return_, 1) := by decide +kernel
theorem dX1_isKind_0 : decode cX1_isKind 0 = .ok (.iload_n 0, 1) := by decide +kernel
theorem dX1_isKind_1 : decode cX1_isKind 1 = .ok (.bipush 6, 2) := by decide +kernel
theorem dX1_isKind_3 : decode cX1_isKind 3 = .ok (.invokestatic 11, 3) := by decide +kernel
theorem dX1_isKind_6 : decode cX1_isKind 6 = .ok (.ireturn, 1) := by decide +kernel
theorem dX1_mayBe_0 : decode cX1_mayBe 0 = .ok (.iload_n 0, 1) := by decide +kernel
theorem dX1_mayBe_1 : decode cX1_mayBe 1 = .ok (.tableswitch 68 0 5 #[39, 44, 52, 52, 60, 60], 39) := by decide +kernel
theorem dX1_mayBe_40 : decode cX1_mayBe 40 = .ok (.iload_n 1, 1) := by decide +kernel
theorem dX1_mayBe_41 : decode cX1_mayBe 41 = .ok (.invokestatic 15, 3) := by decide +kernel
theorem dX1_mayBe_44 : decode cX1_mayBe 44 = .ok (.ireturn, 1) := by decide +kernel
theorem dX1_mayBe_45 : decode cX1_mayBe 45 = .ok (.iload_n 1, 1) := by decide +kernel
theorem dX1_mayBe_46 : decode cX1_mayBe 46 = .ok (.sipush 999, 3) := by decide +kernel
theorem dX1_mayBe_49 : decode cX1_mayBe 49 = .ok (.invokestatic 11, 3) := by decide +kernel
theorem dX1_mayBe_52 : decode cX1_mayBe 52 = .ok (.ireturn, 1) := by decide +kernel
theorem dX1_mayBe_53 : decode cX1_mayBe 53 = .ok (.iload_n 1, 1) := by decide +kernel
theorem dX1_mayBe_54 : decode cX1_mayBe 54 = .ok (.sipush 255, 3) := by decide +kernel
theorem dX1_mayBe_57 : decode cX1_mayBe 57 = .ok (.invokestatic 11, 3) := by decide +kernel
theorem dX1_mayBe_60 : decode cX1_mayBe 60 = .ok (.ireturn, 1) := by decide +kernel
theorem dX1_mayBe_61 : decode cX1_mayBe 61 = .ok (.iload_n 1, 1) := by decide +kernel
theorem dX1_mayBe_62 : decode cX1_mayBe 62 = .ok (.sipush 9999, 3) := by decide +kernel
theorem dX1_mayBe_65 : decode cX1_mayBe 65 = .ok (.invokestatic 11, 3) := by decide +kernel
theorem dX1_mayBe_68 : decode cX1_mayBe 68 = .ok (.ireturn, 1) := by decide +kernel
theorem dX1_mayBe_69 : decode cX1_mayBe 69 = .ok (.iconst 0, 1) := by decide +kernel
theorem dX1_mayBe_70 : decode cX1_mayBe 70 = .ok (.ireturn, 1) := by decide +kernel
theorem dX1_begin_0 : decode cX1_begin 0 = .ok (.aload_n 0, 1) := by decide +kernel
theorem dX1_begin_1 : decode cX1_begin 1 = .ok (.iload_n 1, 1) := by decide +kernel
theorem dX1_begin_2 : decode cX1_begin 2 = .ok (.putfield 19, 3) := by decide +kernel
theorem dX1_begin_5 : decode cX1_begin 5 = .ok (.aload_n 0, 1) := by decide +kernel
theorem dX1_begin_6 : decode cX1_begin 6 = .ok (.iconst 0, 1) := by decide +kernel
theorem dX1_begin_7 : decode cX1_begin 7 = .ok (.putfield 23, 3) := by decide +kernel
theorem dX1_begin_10 : decode cX1_begin 10 = .ok (.aload_n 0, 1) := by decide +kernel
theorem dX1_begin_11 : decode cX1_begin 11 = .ok (.iload_n 2, 1) := by decide +kernel
theorem dX1_begin_12 : decode cX1_begin 12 = .ok (.putfield 26, 3) := by decide +kernel
theorem dX1_begin_15 : decode cX1_begin 15 = .ok (.aload_n 0, 1) := by decide +kernel
theorem dX1_begin_16 : decode cX1_begin 16 = .ok (.iconst 0, 1) := by decide +kernel
theorem dX1_begin_17 : decode cX1_begin 17 = .ok (.putfield 29, 3) := by decide +kernel
theorem dX1_begin_20 : decode cX1_begin 20 = .ok (.aload_n 0, 1) := by decide +kernel
theorem dX1_begin_21 : decode cX1_begin 21 = .ok (.iconst 0, 1) := by decide +kernel
theorem dX1_begin_22 : decode cX1_begin 22 = .ok (.putfield 32, 3) := by decide +kernel
theorem dX1_begin_25 : decode cX1_begin 25 = .ok (.aload_n 0, 1) := by decide +kernel
theorem dX1_begin_26 : decode cX1_begin 26 = .ok (.iconst 0, 1) := by decide +kernel
theorem dX1_begin_27 : decode cX1_begin 27 = .ok (.putfield 35, 3) := by decide +kernel
theorem dX1_begin_30 : decode cX1_begin 30 = .ok (.return_, 1) := by decide +kernel
theorem dX1_becomeLike_0 : decode cX1_becomeLike 0 = .ok (.aload_n 0, 1) := by decide +kernel
theorem dX1_becomeLike_1 : decode cX1_becomeLike 1 = .ok (.aload_n 1, 1) := by decide +kernel
theorem dX1_becomeLike_2 : decode cX1_becomeLike 2 = .ok (.getfield 19, 3) := by decide +kernel
theorem dX1_becomeLike_5 : decode cX1_becomeLike 5 = .ok (.putfield 19, 3) := by decide +kernel
theorem dX1_becomeLike_8 : decode cX1_becomeLike 8 = .ok (.aload_n 0, 1) := by decide +kernel
theorem dX1_becomeLike_9 : decode cX1_becomeLike 9 = .ok (.aload_n 1, 1) := by decide +kernel
theorem dX1_becomeLike_10 : decode cX1_becomeLike 10 = .ok (.getfield 23, 3) := by decide +kernel
theorem dX1_becomeLike_13 : decode cX1_becomeLike 13 = .ok (.putfield 23, 3) := by decide +kernel
theorem dX1_becomeLike_16 : decode cX1_becomeLike 16 = .ok (.aload_n 0, 1) := by decide +kernel
theorem dX1_becomeLike_17 : decode cX1_becomeLike 17 = .ok (.aload_n 1, 1) := by decide +kernel
theorem dX1_becomeLike_18 : decode cX1_becomeLike 18 = .ok (.getfield 26, 3) := by decide +kernel
theorem dX1_becomeLike_21 : decode cX1_becomeLike 21 = .ok (.putfield 26, 3) := by decide +kernel
theorem dX1_becomeLike_24 : decode cX1_becomeLike 24 = .ok (.aload_n 0, 1) := by decide +kernel
theorem dX1_becomeLike_25 : decode cX1_becomeLike 25 = .ok (.aload_n 1, 1) := by decide +kernel
theorem dX1_becomeLike_26 : decode cX1_becomeLike 26 = .ok (.getfield 29, 3) := by decide +kernel
theorem dX1_becomeLike_29 : decode cX1_becomeLike 29 = .ok (.putfield 29, 3) := by decide +kernel
theorem dX1_becomeLike_32 : decode cX1_becomeLike 32 = .ok (.aload_n 0, 1) := by decide +kernel
theorem dX1_becomeLike_33 : decode cX1_becomeLike 33 = .ok (.aload_n 1, 1) := by decide +kernel
theorem dX1_becomeLike_34 : decode cX1_becomeLike 34 = .ok (.getfield 32, 3) := by decide +kernel
theorem dX1_becomeLike_37 : decode cX1_becomeLike 37 = .ok (.putfield 32, 3) := by decide +kernel
theorem dX1_becomeLike_40 : decode cX1_becomeLike 40 = .ok (.aload_n 0, 1) := by decide +kernel
theorem dX1_becomeLike_41 : decode cX1_becomeLike 41 = .ok (.aload_n 1, 1) := by decide +kernel
theorem dX1_becomeLike_42 : decode cX1_becomeLike 42 = .ok (.getfield 35, 3) := by decide +kernel
theorem dX1_becomeLike_45 : decode cX1_becomeLike 45 = .ok (.putfield 35, 3) := by decide +kernel
theorem dX1_becomeLike_48 : decode cX1_becomeLike 48 = .ok (.return_, 1) := by decide +kernel
theorem dX1_put_0 : decode cX1_put 0 = .ok (.iload_n 1, 1) := by decide +kernel
theorem dX1_put_1 : decode cX1_put 1 = .ok (.tableswitch 87 0 5 #[39, 47, 55, 63, 71, 79], 39) := by decide +kernel
theorem dX1_put_40 : decode cX1_put 40 = .ok (.aload_n 0, 1) := by decide +kernel
theorem dX1_put_41 : decode cX1_put 41 = .ok (.iload_n 2, 1) := by decide +kernel
theorem dX1_put_42 : decode cX1_put 42 = .ok (.putfield 19, 3) := by decide +kernel
theorem dX1_put_45 : decode cX1_put 45 = .ok (.goto 43, 3) := by decide +kernel
theorem dX1_put_48 : decode cX1_put 48 = .ok (.aload_n 0, 1) := by decide +kernel
theorem dX1_put_49 : decode cX1_put 49 = .ok (.iload_n 2, 1) := by decide +kernel
theorem dX1_put_50 : decode cX1_put 50 = .ok (.putfield 23, 3) := by decide +kernel
theorem dX1_put_53 : decode cX1_put 53 = .ok (.goto 35, 3) := by decide +kernel
theorem dX1_put_56 : decode cX1_put 56 = .ok (.aload_n 0, 1) := by decide +kernel
theorem dX1_put_57 : decode cX1_put 57 = .ok (.iload_n 2, 1) := by decide +kernel
theorem dX1_put_58 : decode cX1_put 58 = .ok (.putfield 26, 3) := by decide +kernel
theorem dX1_put_61 : decode cX1_put 61 = .ok (.goto 27, 3) := by decide +kernel
theorem dX1_put_64 : decode cX1_put 64 = .ok (.aload_n 0, 1) := by decide +kernel
theorem dX1_put_65 : decode cX1_put 65 = .ok (.iload_n 2, 1) := by decide +kernel
theorem dX1_put_66 : decode cX1_put 66 = .ok (.putfield 29, 3) := by decide +kernel
theorem dX1_put_69 : decode cX1_put 69 = .ok (.goto 19, 3) := by decide +kernel
theorem dX1_put_72 : decode cX1_put 72 = .ok (.aload_n 0, 1) := by decide +kernel
theorem dX1_put_73 : decode cX1_put 73 = .ok (.iload_n 2, 1) := by decide +kernel
theorem dX1_put_74 : decode cX1_put 74 = .ok (.putfield 32, 3) := by decide +kernel
theorem dX1_put_77 : decode cX1_put 77 = .ok (.goto 11, 3) := by decide +kernel
theorem dX1_put_80 : decode cX1_put 80 = .ok (.aload_n 0, 1) := by decide +kernel
theorem dX1_put_81 : decode cX1_put 81 = .ok (.iload_n 2, 1) := by decide +kernel
theorem dX1_put_82 : decode cX1_put 82 = .ok (.putfield 35, 3) := by decide +kernel
theorem dX1_put_85 : decode cX1_put 85 = .ok (.goto 3, 3) := by decide +kernel
theorem dX1_put_88 : decode cX1_put 88 = .ok (.return_, 1) := by decide +kernel
theorem dX1_isOneOf_0 : decode cX1_isOneOf 0 = .ok (.aload_n 0, 1) := by decide +kernel
theorem dX1_isOneOf_1 : decode cX1_isOneOf 1 = .ok (.getfield 19, 3) := by decide +kernel
theorem dX1_isOneOf_4 : decode cX1_isOneOf 4 = .ok (.istore_n 2, 1) := by decide +kernel
theorem dX1_isOneOf_5 : decode cX1_isOneOf 5 = .ok (.iconst 0, 1) := by decide +kernel
theorem dX1_isOneOf_6 : decode cX1_isOneOf 6 = .ok (.istore_n 3, 1) := by decide +kernel
theorem dX1_isOneOf_7 : decode cX1_isOneOf 7 = .ok (.iload_n 3, 1) := by decide +kernel
theorem dX1_isOneOf_8 : decode cX1_isOneOf 8 = .ok (.bipush 7, 2) := by decide +kernel
theorem dX1_isOneOf_10 : decode cX1_isOneOf 10 = .ok (.if_icmp .ge 29, 3) := by decide +kernel
theorem dX1_isOneOf_13 : decode cX1_isOneOf 13 = .ok (.iload_n 2, 1) := by decide +kernel
theorem dX1_isOneOf_14 : decode cX1_isOneOf 14 = .ok (.invokestatic 15, 3) := by decide +kernel
theorem dX1_isOneOf_17 : decode cX1_isOneOf 17 = .ok (.ifCond .eq 22, 3) := by decide +kernel
theorem dX1_isOneOf_20 : decode cX1_isOneOf 20 = .ok (.iload_n 2, 1) := by decide +kernel
theorem dX1_isOneOf_21 : decode cX1_isOneOf 21 = .ok (.iload_n 1, 1) := by decide +kernel
theorem dX1_isOneOf_22 : decode cX1_isOneOf 22 = .ok (.if_icmp .ne 5, 3) := by decide +kernel
theorem dX1_isOneOf_25 : decode cX1_isOneOf 25 = .ok (.iconst 1, 1) := by decide +kernel
theorem dX1_isOneOf_26 : decode cX1_isOneOf 26 = .ok (.ireturn, 1) := by decide +kernel
theorem dX1_isOneOf_27 : decode cX1_isOneOf 27 = .ok (.getstatic 38, 3) := by decide +kernel
theorem dX1_isOneOf_30 : decode cX1_isOneOf 30 = .ok (.iload_n 2, 1) := by decide +kernel
theorem dX1_isOneOf_31 : decode cX1_isOneOf 31 = .ok (.iaload, 1) := by decide +kernel
theorem dX1_isOneOf_32 : decode cX1_isOneOf 32 = .ok (.istore_n 2, 1) := by decide +kernel
theorem dX1_isOneOf_33 : decode cX1_isOneOf 33 = .ok (.iinc 3 1, 3) := by decide +kernel
theorem dX1_isOneOf_36 : decode cX1_isOneOf 36 = .ok (.goto (-29), 3) := by decide +kernel
theorem dX1_isOneOf_39 : decode cX1_isOneOf 39 = .ok (.iconst 0, 1) := by decide +kernel
theorem dX1_isOneOf_40 : decode cX1_isOneOf 40 = .ok (.ireturn, 1) := by decide +kernel
theorem dX1_holding_0 : decode cX1_holding 0 = .ok (.bipush 40, 2) := by decide +kernel
theorem dX1_holding_2 : decode cX1_holding 2 = .ok (.iconst 5, 1) := by decide +kernel
theorem dX1_holding_3 : decode cX1_holding 3 = .ok (.aload_n 0, 1) := by decide +kernel
theorem dX1_holding_4 : decode cX1_holding 4 = .ok (.getfield 29, 3) := by decide +kernel
theorem dX1_holding_7 : decode cX1_holding 7 = .ok (.invokestatic 42, 3) := by decide +kernel
theorem dX1_holding_10 : decode cX1_holding 10 = .ok (.imul, 1) := by decide +kernel
theorem dX1_holding_11 : decode cX1_holding 11 = .ok (.iadd, 1) := by decide +kernel
theorem dX1_holding_12 : decode cX1_holding 12 = .ok (.istore_n 1, 1) := by decide +kernel
theorem dX1_holding_13 : decode cX1_holding 13 = .ok (.aload_n 0, 1) := by decide +kernel
theorem dX1_holding_14 : decode cX1_holding 14 = .ok (.getfield 29, 3) := by decide +kernel
theorem dX1_holding_17 : decode cX1_holding 17 = .ok (.ifCond .ne 8, 3) := by decide +kernel
theorem dX1_holding_20 : decode cX1_holding 20 = .ok (.bipush 30, 2) := by decide +kernel
theorem dX1_holding_22 : decode cX1_holding 22 = .ok (.goto 5, 3) := by decide +kernel
theorem dX1_holding_25 : decode cX1_holding 25 = .ok (.bipush 60, 2) := by decide +kernel
theorem dX1_holding_27 : decode cX1_holding 27 = .ok (.istore_n 2, 1) := by decide +kernel
theorem dX1_holding_28 : decode cX1_holding 28 = .ok (.aload_n 0, 1) := by decide +kernel
theorem dX1_holding_29 : decode cX1_holding 29 = .ok (.getfield 19, 3) := by decide +kernel
theorem dX1_holding_32 : decode cX1_holding 32 = .ok (.tableswitch 69 1 6 #[40, 49, 43, 45, 56, 51], 40) := by decide +kernel
theorem dX1_holding_72 : decode cX1_holding 72 = .ok (.bipush 40, 2) := by decide +kernel
theorem dX1_holding_74 : decode cX1_holding 74 = .ok (.ireturn, 1) := by decide +kernel
theorem dX1_holding_75 : decode cX1_holding 75 = .ok (.iload_n 1, 1) := by decide +kernel
theorem dX1_holding_76 : decode cX1_holding 76 = .ok (.ireturn, 1) := by decide +kernel
theorem dX1_holding_77 : decode cX1_holding 77 = .ok (.iconst 2, 1) := by decide +kernel
theorem dX1_holding_78 : decode cX1_holding 78 = .ok (.iload_n 1, 1) := by decide +kernel
theorem dX1_holding_79 : decode cX1_holding 79 = .ok (.imul, 1) := by decide +kernel
theorem dX1_holding_80 : decode cX1_holding 80 = .ok (.ireturn, 1) := by decide +kernel
theorem dX1_holding_81 : decode cX1_holding 81 = .ok (.iload_n 2, 1) := by decide +kernel
theorem dX1_holding_82 : decode cX1_holding 82 = .ok (.ireturn, 1) := by decide +kernel
theorem dX1_holding_83 : decode cX1_holding 83 = .ok (.iload_n 2, 1) := by decide +kernel
theorem dX1_holding_84 : decode cX1_holding 84 = .ok (.bipush 40, 2) := by decide +kernel
theorem dX1_holding_86 : decode cX1_holding 86 = .ok (.iadd, 1) := by decide +kernel
theorem dX1_holding_87 : decode cX1_holding 87 = .ok (.ireturn, 1) := by decide +kernel
theorem dX1_holding_88 : decode cX1_holding 88 = .ok (.bipush 60, 2) := by decide +kernel
theorem dX1_holding_90 : decode cX1_holding 90 = .ok (.aload_n 0, 1) := by decide +kernel
theorem dX1_holding_91 : decode cX1_holding 91 = .ok (.getfield 32, 3) := by decide +kernel
theorem dX1_holding_94 : decode cX1_holding 94 = .ok (.iadd, 1) := by decide +kernel
theorem dX1_holding_95 : decode cX1_holding 95 = .ok (.bipush 99, 2) := by decide +kernel
theorem dX1_holding_97 : decode cX1_holding 97 = .ok (.invokestatic 48, 3) := by decide +kernel
theorem dX1_holding_100 : decode cX1_holding 100 = .ok (.ireturn, 1) := by decide +kernel
theorem dX1_holding_101 : decode cX1_holding 101 = .ok (.bipush 60, 2) := by decide +kernel
theorem dX1_holding_103 : decode cX1_holding 103 = .ok (.ireturn, 1) := by decide +kernel
theorem dX1_swelling_0 : decode cX1_swelling 0 = .ok (.iload_n 2, 1) := by decide +kernel
theorem dX1_swelling_1 : decode cX1_swelling 1 = .ok (.iload_n 3, 1) := by decide +kernel
theorem dX1_swelling_2 : decode cX1_swelling 2 = .ok (.isub, 1) := by decide +kernel
theorem dX1_swelling_3 : decode cX1_swelling 3 = .ok (.iconst 0, 1) := by decide +kernel
theorem dX1_swelling_4 : decode cX1_swelling 4 = .ok (.invokestatic 54, 3) := by decide +kernel
theorem dX1_swelling_7 : decode cX1_swelling 7 = .ok (.istore 4, 2) := by decide +kernel
theorem dX1_swelling_9 : decode cX1_swelling 9 = .ok (.iload_n 1, 1) := by decide +kernel
theorem dX1_swelling_10 : decode cX1_swelling 10 = .ok (.iconst 3, 1) := by decide +kernel
theorem dX1_swelling_11 : decode cX1_swelling 11 = .ok (.if_icmp .ne 9, 3) := by decide +kernel
theorem dX1_swelling_14 : decode cX1_swelling 14 = .ok (.iload_n 2, 1) := by decide +kernel
theorem dX1_swelling_15 : decode cX1_swelling 15 = .ok (.iconst 3, 1) := by decide +kernel
theorem dX1_swelling_16 : decode cX1_swelling 16 = .ok (.idiv, 1) := by decide +kernel
theorem dX1_swelling_17 : decode cX1_swelling 17 = .ok (.goto 4, 3) := by decide +kernel
theorem dX1_swelling_20 : decode cX1_swelling 20 = .ok (.iload_n 2, 1) := by decide +kernel
theorem dX1_swelling_21 : decode cX1_swelling 21 = .ok (.istore 5, 2) := by decide +kernel
theorem dX1_swelling_23 : decode cX1_swelling 23 = .ok (.aload_n 0, 1) := by decide +kernel
theorem dX1_swelling_24 : decode cX1_swelling 24 = .ok (.getfield 19, 3) := by decide +kernel
theorem dX1_swelling_27 : decode cX1_swelling 27 = .ok (.tableswitch 84 1 6 #[37, 56, 40, 40, 64, 59], 37) := by decide +kernel
theorem dX1_swelling_64 : decode cX1_swelling 64 = .ok (.iload 4, 2) := by decide +kernel
theorem dX1_swelling_66 : decode cX1_swelling 66 = .ok (.ireturn, 1) := by decide +kernel
theorem dX1_swelling_67 : decode cX1_swelling 67 = .ok (.iload_n 1, 1) := by decide +kernel
theorem dX1_swelling_68 : decode cX1_swelling 68 = .ok (.iconst 2, 1) := by decide +kernel
theorem dX1_swelling_69 : decode cX1_swelling 69 = .ok (.irem, 1) := by decide +kernel
theorem dX1_swelling_70 : decode cX1_swelling 70 = .ok (.ifCond .ne 10, 3) := by decide +kernel
theorem dX1_swelling_73 : decode cX1_swelling 73 = .ok (.iload 4, 2) := by decide +kernel
theorem dX1_swelling_75 : decode cX1_swelling 75 = .ok (.iconst 5, 1) := by decide +kernel
theorem dX1_swelling_76 : decode cX1_swelling 76 = .ok (.iadd, 1) := by decide +kernel
theorem dX1_swelling_77 : decode cX1_swelling 77 = .ok (.goto 5, 3) := by decide +kernel
theorem dX1_swelling_80 : decode cX1_swelling 80 = .ok (.iload 4, 2) := by decide +kernel
theorem dX1_swelling_82 : decode cX1_swelling 82 = .ok (.ireturn, 1) := by decide +kernel
theorem dX1_swelling_83 : decode cX1_swelling 83 = .ok (.iload 5, 2) := by decide +kernel
theorem dX1_swelling_85 : decode cX1_swelling 85 = .ok (.ireturn, 1) := by decide +kernel
theorem dX1_swelling_86 : decode cX1_swelling 86 = .ok (.iload 5, 2) := by decide +kernel
theorem dX1_swelling_88 : decode cX1_swelling 88 = .ok (.iconst 2, 1) := by decide +kernel
theorem dX1_swelling_89 : decode cX1_swelling 89 = .ok (.idiv, 1) := by decide +kernel
theorem dX1_swelling_90 : decode cX1_swelling 90 = .ok (.ireturn, 1) := by decide +kernel
theorem dX1_swelling_91 : decode cX1_swelling 91 = .ok (.aload_n 0, 1) := by decide +kernel
theorem dX1_swelling_92 : decode cX1_swelling 92 = .ok (.getfield 29, 3) := by decide +kernel
theorem dX1_swelling_95 : decode cX1_swelling 95 = .ok (.iload_n 1, 1) := by decide +kernel
theorem dX1_swelling_96 : decode cX1_swelling 96 = .ok (.ishr, 1) := by decide +kernel
theorem dX1_swelling_97 : decode cX1_swelling 97 = .ok (.iconst 1, 1) := by decide +kernel
theorem dX1_swelling_98 : decode cX1_swelling 98 = .ok (.iand, 1) := by decide +kernel
theorem dX1_swelling_99 : decode cX1_swelling 99 = .ok (.ifCond .eq 10, 3) := by decide +kernel
theorem dX1_swelling_102 : decode cX1_swelling 102 = .ok (.iload_n 2, 1) := by decide +kernel
theorem dX1_swelling_103 : decode cX1_swelling 103 = .ok (.bipush 10, 2) := by decide +kernel
theorem dX1_swelling_105 : decode cX1_swelling 105 = .ok (.iadd, 1) := by decide +kernel
theorem dX1_swelling_106 : decode cX1_swelling 106 = .ok (.goto 4, 3) := by decide +kernel
theorem dX1_swelling_109 : decode cX1_swelling 109 = .ok (.iload_n 2, 1) := by decide +kernel
theorem dX1_swelling_110 : decode cX1_swelling 110 = .ok (.ireturn, 1) := by decide +kernel
theorem dX1_swelling_111 : decode cX1_swelling 111 = .ok (.iload_n 2, 1) := by decide +kernel
theorem dX1_swelling_112 : decode cX1_swelling 112 = .ok (.ireturn, 1) := by decide +kernel
theorem dX1_digesting_0 : decode cX1_digesting 0 = .ok (.aload_n 0, 1) := by decide +kernel
theorem dX1_digesting_1 : decode cX1_digesting 1 = .ok (.getfield 19, 3) := by decide +kernel
theorem dX1_digesting_4 : decode cX1_digesting 4 = .ok (.tableswitch 77 1 6 #[40, 56, 44, 54, 62, 59], 40) := by decide +kernel
theorem dX1_digesting_44 : decode cX1_digesting 44 = .ok (.iconst 5, 1) := by decide +kernel
theorem dX1_digesting_45 : decode cX1_digesting 45 = .ok (.iload_n 1, 1) := by decide +kernel
theorem dX1_digesting_46 : decode cX1_digesting 46 = .ok (.iadd, 1) := by decide +kernel
theorem dX1_digesting_47 : decode cX1_digesting 47 = .ok (.ireturn, 1) := by decide +kernel
theorem dX1_digesting_48 : decode cX1_digesting 48 = .ok (.iconst 5, 1) := by decide +kernel
theorem dX1_digesting_49 : decode cX1_digesting 49 = .ok (.iload_n 1, 1) := by decide +kernel
theorem dX1_digesting_50 : decode cX1_digesting 50 = .ok (.iadd, 1) := by decide +kernel
theorem dX1_digesting_51 : decode cX1_digesting 51 = .ok (.iconst 3, 1) := by decide +kernel
theorem dX1_digesting_52 : decode cX1_digesting 52 = .ok (.isub, 1) := by decide +kernel
theorem dX1_digesting_53 : decode cX1_digesting 53 = .ok (.iconst 0, 1) := by decide +kernel
theorem dX1_digesting_54 : decode cX1_digesting 54 = .ok (.invokestatic 54, 3) := by decide +kernel
theorem dX1_digesting_57 : decode cX1_digesting 57 = .ok (.ireturn, 1) := by decide +kernel
theorem dX1_digesting_58 : decode cX1_digesting 58 = .ok (.iconst 1, 1) := by decide +kernel
theorem dX1_digesting_59 : decode cX1_digesting 59 = .ok (.ireturn, 1) := by decide +kernel
theorem dX1_digesting_60 : decode cX1_digesting 60 = .ok (.bipush 8, 2) := by decide +kernel
theorem dX1_digesting_62 : decode cX1_digesting 62 = .ok (.ireturn, 1) := by decide +kernel
theorem dX1_digesting_63 : decode cX1_digesting 63 = .ok (.bipush 16, 2) := by decide +kernel
theorem dX1_digesting_65 : decode cX1_digesting 65 = .ok (.ireturn, 1) := by decide +kernel
theorem dX1_digesting_66 : decode cX1_digesting 66 = .ok (.iload_n 2, 1) := by decide +kernel
theorem dX1_digesting_67 : decode cX1_digesting 67 = .ok (.bipush 7, 2) := by decide +kernel
theorem dX1_digesting_69 : decode cX1_digesting 69 = .ok (.irem, 1) := by decide +kernel
theorem dX1_digesting_70 : decode cX1_digesting 70 = .ok (.bipush 6, 2) := by decide +kernel
theorem dX1_digesting_72 : decode cX1_digesting 72 = .ok (.if_icmp .ne 7, 3) := by decide +kernel
theorem dX1_digesting_75 : decode cX1_digesting 75 = .ok (.iconst 0, 1) := by decide +kernel
theorem dX1_digesting_76 : decode cX1_digesting 76 = .ok (.goto 4, 3) := by decide +kernel
theorem dX1_digesting_79 : decode cX1_digesting 79 = .ok (.iconst 5, 1) := by decide +kernel
theorem dX1_digesting_80 : decode cX1_digesting 80 = .ok (.ireturn, 1) := by decide +kernel
theorem dX1_digesting_81 : decode cX1_digesting 81 = .ok (.iconst 5, 1) := by decide +kernel
theorem dX1_digesting_82 : decode cX1_digesting 82 = .ok (.ireturn, 1) := by decide +kernel
theorem dX1_keepsSilent_0 : decode cX1_keepsSilent 0 = .ok (.aload_n 0, 1) := by decide +kernel
theorem dX1_keepsSilent_1 : decode cX1_keepsSilent 1 = .ok (.getfield 19, 3) := by decide +kernel
theorem dX1_keepsSilent_4 : decode cX1_keepsSilent 4 = .ok (.iconst 4, 1) := by decide +kernel
theorem dX1_keepsSilent_5 : decode cX1_keepsSilent 5 = .ok (.if_icmp .eq 22, 3) := by decide +kernel
theorem dX1_keepsSilent_8 : decode cX1_keepsSilent 8 = .ok (.aload_n 0, 1) := by decide +kernel
theorem dX1_keepsSilent_9 : decode cX1_keepsSilent 9 = .ok (.getfield 19, 3) := by decide +kernel
theorem dX1_keepsSilent_12 : decode cX1_keepsSilent 12 = .ok (.iconst 5, 1) := by decide +kernel
theorem dX1_keepsSilent_13 : decode cX1_keepsSilent 13 = .ok (.if_icmp .ne 18, 3) := by decide +kernel
theorem dX1_keepsSilent_16 : decode cX1_keepsSilent 16 = .ok (.aload_n 0, 1) := by decide +kernel
theorem dX1_keepsSilent_17 : decode cX1_keepsSilent 17 = .ok (.getfield 29, 3) := by decide +kernel
theorem dX1_keepsSilent_20 : decode cX1_keepsSilent 20 = .ok (.invokestatic 42, 3) := by decide +kernel
theorem dX1_keepsSilent_23 : decode cX1_keepsSilent 23 = .ok (.iconst 4, 1) := by decide +kernel
theorem dX1_keepsSilent_24 : decode cX1_keepsSilent 24 = .ok (.if_icmp .ge 7, 3) := by decide +kernel
theorem dX1_keepsSilent_27 : decode cX1_keepsSilent 27 = .ok (.iconst 1, 1) := by decide +kernel
theorem dX1_keepsSilent_28 : decode cX1_keepsSilent 28 = .ok (.goto 4, 3) := by decide +kernel
theorem dX1_keepsSilent_31 : decode cX1_keepsSilent 31 = .ok (.iconst 0, 1) := by decide +kernel
theorem dX1_keepsSilent_32 : decode cX1_keepsSilent 32 = .ok (.ireturn, 1) := by decide +kernel
theorem dX1_eat_0 : decode cX1_eat 0 = .ok (.aload_n 0, 1) := by decide +kernel
theorem dX1_eat_1 : decode cX1_eat 1 = .ok (.aload_n 0, 1) := by decide +kernel
theorem dX1_eat_2 : decode cX1_eat 2 = .ok (.getfield 23, 3) := by decide +kernel
theorem dX1_eat_5 : decode cX1_eat 5 = .ok (.aload_n 0, 1) := by decide +kernel
theorem dX1_eat_6 : decode cX1_eat 6 = .ok (.iload_n 1, 1) := by decide +kernel
theorem dX1_eat_7 : decode cX1_eat 7 = .ok (.iload_n 2, 1) := by decide +kernel
theorem dX1_eat_8 : decode cX1_eat 8 = .ok (.iload_n 3, 1) := by decide +kernel
theorem dX1_eat_9 : decode cX1_eat 9 = .ok (.invokevirtual 57, 3) := by decide +kernel
theorem dX1_eat_12 : decode cX1_eat 12 = .ok (.iadd, 1) := by decide +kernel
theorem dX1_eat_13 : decode cX1_eat 13 = .ok (.sipush 999, 3) := by decide +kernel
theorem dX1_eat_16 : decode cX1_eat 16 = .ok (.invokestatic 48, 3) := by decide +kernel
theorem dX1_eat_19 : decode cX1_eat 19 = .ok (.putfield 23, 3) := by decide +kernel
theorem dX1_eat_22 : decode cX1_eat 22 = .ok (.aload_n 0, 1) := by decide +kernel
theorem dX1_eat_23 : decode cX1_eat 23 = .ok (.dup, 1) := by decide +kernel
theorem dX1_eat_24 : decode cX1_eat 24 = .ok (.getfield 29, 3) := by decide +kernel
theorem dX1_eat_27 : decode cX1_eat 27 = .ok (.iconst 1, 1) := by decide +kernel
theorem dX1_eat_28 : decode cX1_eat 28 = .ok (.iload_n 1, 1) := by decide +kernel
theorem dX1_eat_29 : decode cX1_eat 29 = .ok (.ishl, 1) := by decide +kernel
theorem dX1_eat_30 : decode cX1_eat 30 = .ok (.ior, 1) := by decide +kernel
theorem dX1_eat_31 : decode cX1_eat 31 = .ok (.putfield 29, 3) := by decide +kernel
theorem dX1_eat_34 : decode cX1_eat 34 = .ok (.aload_n 0, 1) := by decide +kernel
theorem dX1_eat_35 : decode cX1_eat 35 = .ok (.aload_n 0, 1) := by decide +kernel
theorem dX1_eat_36 : decode cX1_eat 36 = .ok (.getfield 32, 3) := by decide +kernel
theorem dX1_eat_39 : decode cX1_eat 39 = .ok (.iconst 1, 1) := by decide +kernel
theorem dX1_eat_40 : decode cX1_eat 40 = .ok (.iadd, 1) := by decide +kernel
theorem dX1_eat_41 : decode cX1_eat 41 = .ok (.sipush 9999, 3) := by decide +kernel
theorem dX1_eat_44 : decode cX1_eat 44 = .ok (.invokestatic 48, 3) := by decide +kernel
theorem dX1_eat_47 : decode cX1_eat 47 = .ok (.putfield 32, 3) := by decide +kernel
theorem dX1_eat_50 : decode cX1_eat 50 = .ok (.return_, 1) := by decide +kernel
theorem dX1_fallIll_0 : decode cX1_fallIll 0 = .ok (.aload_n 0, 1) := by decide +kernel
theorem dX1_fallIll_1 : decode cX1_fallIll 1 = .ok (.iconst 0, 1) := by decide +kernel
theorem dX1_fallIll_2 : decode cX1_fallIll 2 = .ok (.putfield 29, 3) := by decide +kernel
theorem dX1_fallIll_5 : decode cX1_fallIll 5 = .ok (.aload_n 0, 1) := by decide +kernel
theorem dX1_fallIll_6 : decode cX1_fallIll 6 = .ok (.iconst 0, 1) := by decide +kernel
theorem dX1_fallIll_7 : decode cX1_fallIll 7 = .ok (.putfield 23, 3) := by decide +kernel
theorem dX1_fallIll_10 : decode cX1_fallIll 10 = .ok (.aload_n 0, 1) := by decide +kernel
theorem dX1_fallIll_11 : decode cX1_fallIll 11 = .ok (.aload_n 0, 1) := by decide +kernel
theorem dX1_fallIll_12 : decode cX1_fallIll 12 = .ok (.getfield 35, 3) := by decide +kernel
theorem dX1_fallIll_15 : decode cX1_fallIll 15 = .ok (.iconst 1, 1) := by decide +kernel
theorem dX1_fallIll_16 : decode cX1_fallIll 16 = .ok (.iadd, 1) := by decide +kernel
theorem dX1_fallIll_17 : decode cX1_fallIll 17 = .ok (.sipush 9999, 3) := by decide +kernel
theorem dX1_fallIll_20 : decode cX1_fallIll 20 = .ok (.invokestatic 48, 3) := by decide +kernel
theorem dX1_fallIll_23 : decode cX1_fallIll 23 = .ok (.putfield 35, 3) := by decide +kernel
theorem dX1_fallIll_26 : decode cX1_fallIll 26 = .ok (.return_, 1) := by decide +kernel
theorem dX2_init_0 : decode cX2_init 0 = .ok (.aload_n 0, 1) := by decide +kernel
theorem dX2_init_1 : decode cX2_init 1 = .ok (.invokespecial 3, 3) := by decide +kernel
theorem dX2_init_4 : decode cX2_init 4 = .ok (.aload_n 0, 1) := by decide +kernel
theorem dX2_init_5 : decode cX2_init 5 = .ok (.new 9, 3) := by decide +kernel
theorem dX2_init_8 : decode cX2_init 8 = .ok (.dup, 1) := by decide +kernel
theorem dX2_init_9 : decode cX2_init 9 = .ok (.invokespecial 11, 3) := by decide +kernel
theorem dX2_init_12 : decode cX2_init 12 = .ok (.putfield 12, 3) := by decide +kernel
theorem dX2_init_15 : decode cX2_init 15 = .ok (.aload_n 0, 1) := by decide +kernel
theorem dX2_init_16 : decode cX2_init 16 = .ok (.iconst 0, 1) := by decide +kernel
theorem dX2_init_17 : decode cX2_init 17 = .ok (.putfield 18, 3) := by decide +kernel
theorem dX2_init_20 : decode cX2_init 20 = .ok (.aload_n 0, 1) := by decide +kernel
theorem dX2_init_21 : decode cX2_init 21 = .ok (.iconst 0, 1) := by decide +kernel
theorem dX2_init_22 : decode cX2_init 22 = .ok (.putfield 22, 3) := by decide +kernel
theorem dX2_init_25 : decode cX2_init 25 = .ok (.aload_n 0, 1) := by decide +kernel
theorem dX2_init_26 : decode cX2_init 26 = .ok (.iconst 0, 1) := by decide +kernel
theorem dX2_init_27 : decode cX2_init 27 = .ok (.putfield 25, 3) := by decide +kernel
theorem dX2_init_30 : decode cX2_init 30 = .ok (.aload_n 0, 1) := by decide +kernel
theorem dX2_init_31 : decode cX2_init 31 = .ok (.iconst 0, 1) := by decide +kernel
theorem dX2_init_32 : decode cX2_init 32 = .ok (.putfield 28, 3) := by decide +kernel
theorem dX2_init_35 : decode cX2_init 35 = .ok (.aload_n 0, 1) := by decide +kernel
theorem dX2_init_36 : decode cX2_init 36 = .ok (.iconst 0, 1) := by decide +kernel
theorem dX2_init_37 : decode cX2_init 37 = .ok (.putfield 31, 3) := by decide +kernel
theorem dX2_init_40 : decode cX2_init 40 = .ok (.return_, 1) := by decide +kernel
theorem dX2_readInto_0 : decode cX2_readInto 0 = .ok (.aload_n 0, 1) := by decide +kernel
theorem dX2_readInto_1 : decode cX2_readInto 1 = .ok (.iconst 0, 1) := by decide +kernel
theorem dX2_readInto_2 : decode cX2_readInto 2 = .ok (.putfield 25, 3) := by decide +kernel
theorem dX2_readInto_5 : decode cX2_readInto 5 = .ok (.aload_n 0, 1) := by decide +kernel
theorem dX2_readInto_6 : decode cX2_readInto 6 = .ok (.invokevirtual 34, 3) := by decide +kernel
theorem dX2_readInto_9 : decode cX2_readInto 9 = .ok (.iconst 1, 1) := by decide +kernel
theorem dX2_readInto_10 : decode cX2_readInto 10 = .ok (.istore_n 2, 1) := by decide +kernel
theorem dX2_readInto_11 : decode cX2_readInto 11 = .ok (.iload_n 2, 1) := by decide +kernel
theorem dX2_readInto_12 : decode cX2_readInto 12 = .ok (.bipush 120, 2) := by decide +kernel
theorem dX2_readInto_14 : decode cX2_readInto 14 = .ok (.if_icmp .gt 52, 3) := by decide +kernel
theorem dX2_readInto_17 : decode cX2_readInto 17 = .ok (.aload_n 0, 1) := by decide +kernel
theorem dX2_readInto_18 : decode cX2_readInto 18 = .ok (.aload_n 1, 1) := by decide +kernel
theorem dX2_readInto_19 : decode cX2_readInto 19 = .ok (.invokevirtual 37, 3) := by decide +kernel
theorem dX2_readInto_22 : decode cX2_readInto 22 = .ok (.ifCond .ne 10, 3) := by decide +kernel
theorem dX2_readInto_25 : decode cX2_readInto 25 = .ok (.iconst (-1), 1) := by decide +kernel
theorem dX2_readInto_26 : decode cX2_readInto 26 = .ok (.aload_n 0, 1) := by decide +kernel
theorem dX2_readInto_27 : decode cX2_readInto 27 = .ok (.getfield 22, 3) := by decide +kernel
theorem dX2_readInto_30 : decode cX2_readInto 30 = .ok (.isub, 1) := by decide +kernel
theorem dX2_readInto_31 : decode cX2_readInto 31 = .ok (.ireturn, 1) := by decide +kernel
theorem dX2_readInto_32 : decode cX2_readInto 32 = .ok (.aload_n 0, 1) := by decide +kernel
theorem dX2_readInto_33 : decode cX2_readInto 33 = .ok (.getfield 18, 3) := by decide +kernel
theorem dX2_readInto_36 : decode cX2_readInto 36 = .ok (.ifCond .ne 5, 3) := by decide +kernel
theorem dX2_readInto_39 : decode cX2_readInto 39 = .ok (.iload_n 2, 1) := by decide +kernel
theorem dX2_readInto_40 : decode cX2_readInto 40 = .ok (.ireturn, 1) := by decide +kernel
theorem dX2_readInto_41 : decode cX2_readInto 41 = .ok (.aload_n 0, 1) := by decide +kernel
theorem dX2_readInto_42 : decode cX2_readInto 42 = .ok (.getfield 18, 3) := by decide +kernel
theorem dX2_readInto_45 : decode cX2_readInto 45 = .ok (.iconst 3, 1) := by decide +kernel
theorem dX2_readInto_46 : decode cX2_readInto 46 = .ok (.if_icmp .eq 10, 3) := by decide +kernel
theorem dX2_readInto_49 : decode cX2_readInto 49 = .ok (.iconst (-1), 1) := by decide +kernel
theorem dX2_readInto_50 : decode cX2_readInto 50 = .ok (.aload_n 0, 1) := by decide +kernel
theorem dX2_readInto_51 : decode cX2_readInto 51 = .ok (.getfield 22, 3) := by decide +kernel
theorem dX2_readInto_54 : decode cX2_readInto 54 = .ok (.isub, 1) := by decide +kernel
theorem dX2_readInto_55 : decode cX2_readInto 55 = .ok (.ireturn, 1) := by decide +kernel
theorem dX2_readInto_56 : decode cX2_readInto 56 = .ok (.aload_n 0, 1) := by decide +kernel
theorem dX2_readInto_57 : decode cX2_readInto 57 = .ok (.invokevirtual 34, 3) := by decide +kernel
theorem dX2_readInto_60 : decode cX2_readInto 60 = .ok (.iinc 2 1, 3) := by decide +kernel
theorem dX2_readInto_63 : decode cX2_readInto 63 = .ok (.goto (-52), 3) := by decide +kernel
theorem dX2_readInto_66 : decode cX2_readInto 66 = .ok (.iconst (-1), 1) := by decide +kernel
theorem dX2_readInto_67 : decode cX2_readInto 67 = .ok (.aload_n 0, 1) := by decide +kernel
theorem dX2_readInto_68 : decode cX2_readInto 68 = .ok (.getfield 22, 3) := by decide +kernel
theorem dX2_readInto_71 : decode cX2_readInto 71 = .ok (.isub, 1) := by decide +kernel
theorem dX2_readInto_72 : decode cX2_readInto 72 = .ok (.ireturn, 1) := by decide +kernel
theorem dX2_readItem_0 : decode cX2_readItem 0 = .ok (.aload_n 0, 1) := by decide +kernel
theorem dX2_readItem_1 : decode cX2_readItem 1 = .ok (.ldc 41, 2) := by decide +kernel
theorem dX2_readItem_3 : decode cX2_readItem 3 = .ok (.invokevirtual 43, 3) := by decide +kernel
theorem dX2_readItem_6 : decode cX2_readItem 6 = .ok (.ifCond .eq 9, 3) := by decide +kernel
theorem dX2_readItem_9 : decode cX2_readItem 9 = .ok (.aload_n 0, 1) := by decide +kernel
theorem dX2_readItem_10 : decode cX2_readItem 10 = .ok (.aload_n 1, 1) := by decide +kernel
theorem dX2_readItem_11 : decode cX2_readItem 11 = .ok (.invokevirtual 47, 3) := by decide +kernel
theorem dX2_readItem_14 : decode cX2_readItem 14 = .ok (.ireturn, 1) := by decide +kernel
theorem dX2_readItem_15 : decode cX2_readItem 15 = .ok (.aload_n 0, 1) := by decide +kernel
theorem dX2_readItem_16 : decode cX2_readItem 16 = .ok (.ldc 50, 2) := by decide +kernel
theorem dX2_readItem_18 : decode cX2_readItem 18 = .ok (.invokevirtual 43, 3) := by decide +kernel
theorem dX2_readItem_21 : decode cX2_readItem 21 = .ok (.ifCond .eq 9, 3) := by decide +kernel
theorem dX2_readItem_24 : decode cX2_readItem 24 = .ok (.aload_n 0, 1) := by decide +kernel
theorem dX2_readItem_25 : decode cX2_readItem 25 = .ok (.aload_n 1, 1) := by decide +kernel
theorem dX2_readItem_26 : decode cX2_readItem 26 = .ok (.invokevirtual 52, 3) := by decide +kernel
theorem dX2_readItem_29 : decode cX2_readItem 29 = .ok (.ireturn, 1) := by decide +kernel
theorem dX2_readItem_30 : decode cX2_readItem 30 = .ok (.aload_n 0, 1) := by decide +kernel
theorem dX2_readItem_31 : decode cX2_readItem 31 = .ok (.ldc 55, 2) := by decide +kernel
theorem dX2_readItem_33 : decode cX2_readItem 33 = .ok (.invokevirtual 43, 3) := by decide +kernel
theorem dX2_readItem_36 : decode cX2_readItem 36 = .ok (.ifCond .eq 11, 3) := by decide +kernel
theorem dX2_readItem_39 : decode cX2_readItem 39 = .ok (.aload_n 0, 1) := by decide +kernel
theorem dX2_readItem_40 : decode cX2_readItem 40 = .ok (.aload_n 1, 1) := by decide +kernel
theorem dX2_readItem_41 : decode cX2_readItem 41 = .ok (.invokevirtual 57, 3) := by decide +kernel
theorem dX2_readItem_44 : decode cX2_readItem 44 = .ok (.goto 8, 3) := by decide +kernel
theorem dX2_readItem_47 : decode cX2_readItem 47 = .ok (.aload_n 0, 1) := by decide +kernel
theorem dX2_readItem_48 : decode cX2_readItem 48 = .ok (.aload_n 1, 1) := by decide +kernel
theorem dX2_readItem_49 : decode cX2_readItem 49 = .ok (.invokevirtual 60, 3) := by decide +kernel
theorem dX2_readItem_52 : decode cX2_readItem 52 = .ok (.ireturn, 1) := by decide +kernel
theorem dX2_readWater_0 : decode cX2_readWater 0 = .ok (.aload_n 0, 1) := by decide +kernel
theorem dX2_readWater_1 : decode cX2_readWater 1 = .ok (.invokevirtual 34, 3) := by decide +kernel
theorem dX2_readWater_4 : decode cX2_readWater 4 = .ok (.aload_n 0, 1) := by decide +kernel
theorem dX2_readWater_5 : decode cX2_readWater 5 = .ok (.bipush 9, 2) := by decide +kernel
theorem dX2_readWater_7 : decode cX2_readWater 7 = .ok (.invokevirtual 63, 3) := by decide +kernel
theorem dX2_readWater_10 : decode cX2_readWater 10 = .ok (.ifCond .ne 5, 3) := by decide +kernel
theorem dX2_readWater_13 : decode cX2_readWater 13 = .ok (.iconst 0, 1) := by decide +kernel
theorem dX2_readWater_14 : decode cX2_readWater 14 = .ok (.ireturn, 1) := by decide +kernel
theorem dX2_readWater_15 : decode cX2_readWater 15 = .ok (.aload_n 1, 1) := by decide +kernel
theorem dX2_readWater_16 : decode cX2_readWater 16 = .ok (.aload_n 0, 1) := by decide +kernel
theorem dX2_readWater_17 : decode cX2_readWater 17 = .ok (.getfield 31, 3) := by decide +kernel
theorem dX2_readWater_20 : decode cX2_readWater 20 = .ok (.putfield 67, 3) := by decide +kernel
theorem dX2_readWater_23 : decode cX2_readWater 23 = .ok (.iconst 1, 1) := by decide +kernel
theorem dX2_readWater_24 : decode cX2_readWater 24 = .ok (.ireturn, 1) := by decide +kernel
theorem dX2_readOut_0 : decode cX2_readOut 0 = .ok (.aload_n 0, 1) := by decide +kernel
theorem dX2_readOut_1 : decode cX2_readOut 1 = .ok (.invokevirtual 34, 3) := by decide +kernel
theorem dX2_readOut_4 : decode cX2_readOut 4 = .ok (.aload_n 0, 1) := by decide +kernel
theorem dX2_readOut_5 : decode cX2_readOut 5 = .ok (.sipush 255, 3) := by decide +kernel
theorem dX2_readOut_8 : decode cX2_readOut 8 = .ok (.invokevirtual 63, 3) := by decide +kernel
theorem dX2_readOut_11 : decode cX2_readOut 11 = .ok (.ifCond .ne 5, 3) := by decide +kernel
theorem dX2_readOut_14 : decode cX2_readOut 14 = .ok (.iconst 0, 1) := by decide +kernel
theorem dX2_readOut_15 : decode cX2_readOut 15 = .ok (.ireturn, 1) := by decide +kernel
theorem dX2_readOut_16 : decode cX2_readOut 16 = .ok (.aload_n 1, 1) := by decide +kernel
theorem dX2_readOut_17 : decode cX2_readOut 17 = .ok (.aload_n 0, 1) := by decide +kernel
theorem dX2_readOut_18 : decode cX2_readOut 18 = .ok (.getfield 31, 3) := by decide +kernel
theorem dX2_readOut_21 : decode cX2_readOut 21 = .ok (.putfield 71, 3) := by decide +kernel
theorem dX2_readOut_24 : decode cX2_readOut 24 = .ok (.iconst 1, 1) := by decide +kernel
theorem dX2_readOut_25 : decode cX2_readOut 25 = .ok (.ireturn, 1) := by decide +kernel
theorem dX2_readTold_0 : decode cX2_readTold 0 = .ok (.aload_n 0, 1) := by decide +kernel
theorem dX2_readTold_1 : decode cX2_readTold 1 = .ok (.invokevirtual 34, 3) := by decide +kernel
theorem dX2_readTold_4 : decode cX2_readTold 4 = .ok (.aload_n 0, 1) := by decide +kernel
theorem dX2_readTold_5 : decode cX2_readTold 5 = .ok (.iconst 5, 1) := by decide +kernel
theorem dX2_readTold_6 : decode cX2_readTold 6 = .ok (.invokevirtual 63, 3) := by decide +kernel
theorem dX2_readTold_9 : decode cX2_readTold 9 = .ok (.ifCond .ne 5, 3) := by decide +kernel
theorem dX2_readTold_12 : decode cX2_readTold 12 = .ok (.iconst 0, 1) := by decide +kernel
theorem dX2_readTold_13 : decode cX2_readTold 13 = .ok (.ireturn, 1) := by decide +kernel
theorem dX2_readTold_14 : decode cX2_readTold 14 = .ok (.aload_n 0, 1) := by decide +kernel
theorem dX2_readTold_15 : decode cX2_readTold 15 = .ok (.getfield 31, 3) := by decide +kernel
theorem dX2_readTold_18 : decode cX2_readTold 18 = .ok (.istore_n 2, 1) := by decide +kernel
theorem dX2_readTold_19 : decode cX2_readTold 19 = .ok (.aload_n 0, 1) := by decide +kernel
theorem dX2_readTold_20 : decode cX2_readTold 20 = .ok (.bipush 7, 2) := by decide +kernel
theorem dX2_readTold_22 : decode cX2_readTold 22 = .ok (.invokevirtual 63, 3) := by decide +kernel
theorem dX2_readTold_25 : decode cX2_readTold 25 = .ok (.ifCond .ne 5, 3) := by decide +kernel
theorem dX2_readTold_28 : decode cX2_readTold 28 = .ok (.iconst 0, 1) := by decide +kernel
theorem dX2_readTold_29 : decode cX2_readTold 29 = .ok (.ireturn, 1) := by decide +kernel
theorem dX2_readTold_30 : decode cX2_readTold 30 = .ok (.aload_n 0, 1) := by decide +kernel
theorem dX2_readTold_31 : decode cX2_readTold 31 = .ok (.getfield 31, 3) := by decide +kernel
theorem dX2_readTold_34 : decode cX2_readTold 34 = .ok (.istore_n 3, 1) := by decide +kernel
theorem dX2_readTold_35 : decode cX2_readTold 35 = .ok (.aload_n 0, 1) := by decide +kernel
theorem dX2_readTold_36 : decode cX2_readTold 36 = .ok (.bipush 40, 2) := by decide +kernel
theorem dX2_readTold_38 : decode cX2_readTold 38 = .ok (.invokevirtual 63, 3) := by decide +kernel
theorem dX2_readTold_41 : decode cX2_readTold 41 = .ok (.ifCond .eq 11, 3) := by decide +kernel
theorem dX2_readTold_44 : decode cX2_readTold 44 = .ok (.iload_n 2, 1) := by decide +kernel
theorem dX2_readTold_45 : decode cX2_readTold 45 = .ok (.iconst 5, 1) := by decide +kernel
theorem dX2_readTold_46 : decode cX2_readTold 46 = .ok (.invokestatic 73, 3) := by decide +kernel
theorem dX2_readTold_49 : decode cX2_readTold 49 = .ok (.ifCond .ne 5, 3) := by decide +kernel
theorem dX2_readTold_52 : decode cX2_readTold 52 = .ok (.iconst 0, 1) := by decide +kernel
theorem dX2_readTold_53 : decode cX2_readTold 53 = .ok (.ireturn, 1) := by decide +kernel
theorem dX2_readTold_54 : decode cX2_readTold 54 = .ok (.aload_n 1, 1) := by decide +kernel
theorem dX2_readTold_55 : decode cX2_readTold 55 = .ok (.getfield 77, 3) := by decide +kernel
theorem dX2_readTold_58 : decode cX2_readTold 58 = .ok (.iload_n 2, 1) := by decide +kernel
theorem dX2_readTold_59 : decode cX2_readTold 59 = .ok (.iload_n 3, 1) := by decide +kernel
theorem dX2_readTold_60 : decode cX2_readTold 60 = .ok (.aload_n 0, 1) := by decide +kernel
theorem dX2_readTold_61 : decode cX2_readTold 61 = .ok (.getfield 31, 3) := by decide +kernel
theorem dX2_readTold_64 : decode cX2_readTold 64 = .ok (.invokestatic 81, 3) := by decide +kernel
theorem dX2_readTold_67 : decode cX2_readTold 67 = .ok (.iastore, 1) := by decide +kernel
theorem dX2_readTold_68 : decode cX2_readTold 68 = .ok (.iconst 1, 1) := by decide +kernel
theorem dX2_readTold_69 : decode cX2_readTold 69 = .ok (.ireturn, 1) := by decide +kernel
theorem dX2_readPriest_0 : decode cX2_readPriest 0 = .ok (.aload_n 0, 1) := by decide +kernel
theorem dX2_readPriest_1 : decode cX2_readPriest 1 = .ok (.invokevirtual 85, 3) := by decide +kernel
theorem dX2_readPriest_4 : decode cX2_readPriest 4 = .ok (.istore_n 2, 1) := by decide +kernel
theorem dX2_readPriest_5 : decode cX2_readPriest 5 = .ok (.iload_n 2, 1) := by decide +kernel
theorem dX2_readPriest_6 : decode cX2_readPriest 6 = .ok (.ifCond .ge 7, 3) := by decide +kernel
theorem dX2_readPriest_9 : decode cX2_readPriest 9 = .ok (.aconst_null, 1) := by decide +kernel
theorem dX2_readPriest_10 : decode cX2_readPriest 10 = .ok (.goto 15, 3) := by decide +kernel
theorem dX2_readPriest_13 : decode cX2_readPriest 13 = .ok (.aload_n 1, 1) := by decide +kernel
theorem dX2_readPriest_14 : decode cX2_readPriest 14 = .ok (.aload_n 1, 1) := by decide +kernel
theorem dX2_readPriest_15 : decode cX2_readPriest 15 = .ok (.iload_n 2, 1) := by decide +kernel
theorem dX2_readPriest_16 : decode cX2_readPriest 16 = .ok (.sipush 255, 3) := by decide +kernel
theorem dX2_readPriest_19 : decode cX2_readPriest 19 = .ok (.invokevirtual 89, 3) := by decide +kernel
theorem dX2_readPriest_22 : decode cX2_readPriest 22 = .ok (.invokevirtual 92, 3) := by decide +kernel
theorem dX2_readPriest_25 : decode cX2_readPriest 25 = .ok (.astore_n 3, 1) := by decide +kernel
theorem dX2_readPriest_26 : decode cX2_readPriest 26 = .ok (.aload_n 3, 1) := by decide +kernel
theorem dX2_readPriest_27 : decode cX2_readPriest 27 = .ok (.ifnonnull 5, 3) := by decide +kernel
theorem dX2_readPriest_30 : decode cX2_readPriest 30 = .ok (.iconst 0, 1) := by decide +kernel
theorem dX2_readPriest_31 : decode cX2_readPriest 31 = .ok (.ireturn, 1) := by decide +kernel
theorem dX2_readPriest_32 : decode cX2_readPriest 32 = .ok (.aload_n 0, 1) := by decide +kernel
theorem dX2_readPriest_33 : decode cX2_readPriest 33 = .ok (.invokevirtual 34, 3) := by decide +kernel
theorem dX2_readPriest_36 : decode cX2_readPriest 36 = .ok (.aload_n 0, 1) := by decide +kernel
theorem dX2_readPriest_37 : decode cX2_readPriest 37 = .ok (.ldc 96, 2) := by decide +kernel
theorem dX2_readPriest_39 : decode cX2_readPriest 39 = .ok (.aload_n 3, 1) := by decide +kernel
theorem dX2_readPriest_40 : decode cX2_readPriest 40 = .ok (.iconst 2, 1) := by decide +kernel
theorem dX2_readPriest_41 : decode cX2_readPriest 41 = .ok (.invokevirtual 100, 3) := by decide +kernel
theorem dX2_readPriest_44 : decode cX2_readPriest 44 = .ok (.ifCond .eq 29, 3) := by decide +kernel
theorem dX2_readPriest_47 : decode cX2_readPriest 47 = .ok (.aload_n 0, 1) := by decide +kernel
theorem dX2_readPriest_48 : decode cX2_readPriest 48 = .ok (.ldc 104, 2) := by decide +kernel
theorem dX2_readPriest_50 : decode cX2_readPriest 50 = .ok (.aload_n 3, 1) := by decide +kernel
theorem dX2_readPriest_51 : decode cX2_readPriest 51 = .ok (.iconst 3, 1) := by decide +kernel
theorem dX2_readPriest_52 : decode cX2_readPriest 52 = .ok (.invokevirtual 100, 3) := by decide +kernel
theorem dX2_readPriest_55 : decode cX2_readPriest 55 = .ok (.ifCond .eq 18, 3) := by decide +kernel
theorem dX2_readPriest_58 : decode cX2_readPriest 58 = .ok (.aload_n 0, 1) := by decide +kernel
theorem dX2_readPriest_59 : decode cX2_readPriest 59 = .ok (.ldc 106, 2) := by decide +kernel
theorem dX2_readPriest_61 : decode cX2_readPriest 61 = .ok (.aload_n 3, 1) := by decide +kernel
theorem dX2_readPriest_62 : decode cX2_readPriest 62 = .ok (.iconst 1, 1) := by decide +kernel
theorem dX2_readPriest_63 : decode cX2_readPriest 63 = .ok (.invokevirtual 100, 3) := by decide +kernel
theorem dX2_readPriest_66 : decode cX2_readPriest 66 = .ok (.ifCond .eq 7, 3) := by decide +kernel
theorem dX2_readPriest_69 : decode cX2_readPriest 69 = .ok (.iconst 1, 1) := by decide +kernel
theorem dX2_readPriest_70 : decode cX2_readPriest 70 = .ok (.goto 4, 3) := by decide +kernel
theorem dX2_readPriest_73 : decode cX2_readPriest 73 = .ok (.iconst 0, 1) := by decide +kernel
theorem dX2_readPriest_74 : decode cX2_readPriest 74 = .ok (.ireturn, 1) := by decide +kernel
theorem dX2_readPerhaps_0 : decode cX2_readPerhaps 0 = .ok (.aload_n 0, 1) := by decide +kernel
theorem dX2_readPerhaps_1 : decode cX2_readPerhaps 1 = .ok (.aload_n 1, 1) := by decide +kernel
theorem dX2_readPerhaps_2 : decode cX2_readPerhaps 2 = .ok (.invokevirtual 43, 3) := by decide +kernel
theorem dX2_readPerhaps_5 : decode cX2_readPerhaps 5 = .ok (.ifCond .ne 5, 3) := by decide +kernel
theorem dX2_readPerhaps_8 : decode cX2_readPerhaps 8 = .ok (.iconst 1, 1) := by decide +kernel
theorem dX2_readPerhaps_9 : decode cX2_readPerhaps 9 = .ok (.ireturn, 1) := by decide +kernel
theorem dX2_readPerhaps_10 : decode cX2_readPerhaps 10 = .ok (.aload_n 0, 1) := by decide +kernel
theorem dX2_readPerhaps_11 : decode cX2_readPerhaps 11 = .ok (.invokevirtual 34, 3) := by decide +kernel
theorem dX2_readPerhaps_14 : decode cX2_readPerhaps 14 = .ok (.aload_n 0, 1) := by decide +kernel
theorem dX2_readPerhaps_15 : decode cX2_readPerhaps 15 = .ok (.iload_n 3, 1) := by decide +kernel
theorem dX2_readPerhaps_16 : decode cX2_readPerhaps 16 = .ok (.iconst 1, 1) := by decide +kernel
theorem dX2_readPerhaps_17 : decode cX2_readPerhaps 17 = .ok (.if_icmp .ne 9, 3) := by decide +kernel
theorem dX2_readPerhaps_20 : decode cX2_readPerhaps 20 = .ok (.sipush 999, 3) := by decide +kernel
theorem dX2_readPerhaps_23 : decode cX2_readPerhaps 23 = .ok (.goto 6, 3) := by decide +kernel
theorem dX2_readPerhaps_26 : decode cX2_readPerhaps 26 = .ok (.sipush 255, 3) := by decide +kernel
theorem dX2_readPerhaps_29 : decode cX2_readPerhaps 29 = .ok (.invokevirtual 63, 3) := by decide +kernel
theorem dX2_readPerhaps_32 : decode cX2_readPerhaps 32 = .ok (.ifCond .ne 5, 3) := by decide +kernel
theorem dX2_readPerhaps_35 : decode cX2_readPerhaps 35 = .ok (.iconst 0, 1) := by decide +kernel
theorem dX2_readPerhaps_36 : decode cX2_readPerhaps 36 = .ok (.ireturn, 1) := by decide +kernel
theorem dX2_readPerhaps_37 : decode cX2_readPerhaps 37 = .ok (.aload_n 2, 1) := by decide +kernel
theorem dX2_readPerhaps_38 : decode cX2_readPerhaps 38 = .ok (.iload_n 3, 1) := by decide +kernel
theorem dX2_readPerhaps_39 : decode cX2_readPerhaps 39 = .ok (.aload_n 0, 1) := by decide +kernel
theorem dX2_readPerhaps_40 : decode cX2_readPerhaps 40 = .ok (.getfield 31, 3) := by decide +kernel
theorem dX2_readPerhaps_43 : decode cX2_readPerhaps 43 = .ok (.invokevirtual 108, 3) := by decide +kernel
theorem dX2_readPerhaps_46 : decode cX2_readPerhaps 46 = .ok (.iconst 1, 1) := by decide +kernel
theorem dX2_readPerhaps_47 : decode cX2_readPerhaps 47 = .ok (.ireturn, 1) := by decide +kernel
theorem dX2_kindAtHand_0 : decode cX2_kindAtHand 0 = .ok (.iconst 0, 1) := by decide +kernel
theorem dX2_kindAtHand_1 : decode cX2_kindAtHand 1 = .ok (.istore_n 1, 1) := by decide +kernel
theorem dX2_kindAtHand_2 : decode cX2_kindAtHand 2 = .ok (.iload_n 1, 1) := by decide +kernel
theorem dX2_kindAtHand_3 : decode cX2_kindAtHand 3 = .ok (.bipush 7, 2) := by decide +kernel
theorem dX2_kindAtHand_5 : decode cX2_kindAtHand 5 = .ok (.if_icmp .ge 22, 3) := by decide +kernel
theorem dX2_kindAtHand_8 : decode cX2_kindAtHand 8 = .ok (.aload_n 0, 1) := by decide +kernel
theorem dX2_kindAtHand_9 : decode cX2_kindAtHand 9 = .ok (.iload_n 1, 1) := by decide +kernel
theorem dX2_kindAtHand_10 : decode cX2_kindAtHand 10 = .ok (.invokestatic 112, 3) := by decide +kernel
theorem dX2_kindAtHand_13 : decode cX2_kindAtHand 13 = .ok (.invokevirtual 43, 3) := by decide +kernel
theorem dX2_kindAtHand_16 : decode cX2_kindAtHand 16 = .ok (.ifCond .eq 5, 3) := by decide +kernel
theorem dX2_kindAtHand_19 : decode cX2_kindAtHand 19 = .ok (.iload_n 1, 1) := by decide +kernel
theorem dX2_kindAtHand_20 : decode cX2_kindAtHand 20 = .ok (.ireturn, 1) := by decide +kernel
theorem dX2_kindAtHand_21 : decode cX2_kindAtHand 21 = .ok (.iinc 1 1, 3) := by decide +kernel
theorem dX2_kindAtHand_24 : decode cX2_kindAtHand 24 = .ok (.goto (-22), 3) := by decide +kernel
theorem dX2_kindAtHand_27 : decode cX2_kindAtHand 27 = .ok (.iconst (-1), 1) := by decide +kernel
theorem dX2_kindAtHand_28 : decode cX2_kindAtHand 28 = .ok (.ireturn, 1) := by decide +kernel
theorem dX2_wordOf_0 : decode cX2_wordOf 0 = .ok (.iload_n 0, 1) := by decide +kernel
theorem dX2_wordOf_1 : decode cX2_wordOf 1 = .ok (.tableswitch 57 1 6 #[39, 42, 45, 48, 51, 54], 39) := by decide +kernel
theorem dX2_wordOf_40 : decode cX2_wordOf 40 = .ok (.ldc 116, 2) := by decide +kernel
theorem dX2_wordOf_42 : decode cX2_wordOf 42 = .ok (.areturn, 1) := by decide +kernel
theorem dX2_wordOf_43 : decode cX2_wordOf 43 = .ok (.ldc 118, 2) := by decide +kernel
theorem dX2_wordOf_45 : decode cX2_wordOf 45 = .ok (.areturn, 1) := by decide +kernel
theorem dX2_wordOf_46 : decode cX2_wordOf 46 = .ok (.ldc 120, 2) := by decide +kernel
theorem dX2_wordOf_48 : decode cX2_wordOf 48 = .ok (.areturn, 1) := by decide +kernel
theorem dX2_wordOf_49 : decode cX2_wordOf 49 = .ok (.ldc 122, 2) := by decide +kernel
theorem dX2_wordOf_51 : decode cX2_wordOf 51 = .ok (.areturn, 1) := by decide +kernel
theorem dX2_wordOf_52 : decode cX2_wordOf 52 = .ok (.ldc 124, 2) := by decide +kernel
theorem dX2_wordOf_54 : decode cX2_wordOf 54 = .ok (.areturn, 1) := by decide +kernel
theorem dX2_wordOf_55 : decode cX2_wordOf 55 = .ok (.ldc 126, 2) := by decide +kernel
theorem dX2_wordOf_57 : decode cX2_wordOf 57 = .ok (.areturn, 1) := by decide +kernel
theorem dX2_wordOf_58 : decode cX2_wordOf 58 = .ok (.ldc 128, 2) := by decide +kernel
theorem dX2_wordOf_60 : decode cX2_wordOf 60 = .ok (.areturn, 1) := by decide +kernel
theorem dX2_isWord_0 : decode cX2_isWord 0 = .ok (.aload_n 0, 1) := by decide +kernel
theorem dX2_isWord_1 : decode cX2_isWord 1 = .ok (.getfield 18, 3) := by decide +kernel
theorem dX2_isWord_4 : decode cX2_isWord 4 = .ok (.iconst 1, 1) := by decide +kernel
theorem dX2_isWord_5 : decode cX2_isWord 5 = .ok (.if_icmp .ne 19, 3) := by decide +kernel
theorem dX2_isWord_8 : decode cX2_isWord 8 = .ok (.aload_n 1, 1) := by decide +kernel
theorem dX2_isWord_9 : decode cX2_isWord 9 = .ok (.invokevirtual 130, 3) := by decide +kernel
theorem dX2_isWord_12 : decode cX2_isWord 12 = .ok (.aload_n 0, 1) := by decide +kernel
theorem dX2_isWord_13 : decode cX2_isWord 13 = .ok (.getfield 25, 3) := by decide +kernel
theorem dX2_isWord_16 : decode cX2_isWord 16 = .ok (.aload_n 0, 1) := by decide +kernel
theorem dX2_isWord_17 : decode cX2_isWord 17 = .ok (.getfield 22, 3) := by decide +kernel
theorem dX2_isWord_20 : decode cX2_isWord 20 = .ok (.isub, 1) := by decide +kernel
theorem dX2_isWord_21 : decode cX2_isWord 21 = .ok (.if_icmp .eq 5, 3) := by decide +kernel
theorem dX2_isWord_24 : decode cX2_isWord 24 = .ok (.iconst 0, 1) := by decide +kernel
theorem dX2_isWord_25 : decode cX2_isWord 25 = .ok (.ireturn, 1) := by decide +kernel
theorem dX2_isWord_26 : decode cX2_isWord 26 = .ok (.iconst 0, 1) := by decide +kernel
theorem dX2_isWord_27 : decode cX2_isWord 27 = .ok (.istore_n 2, 1) := by decide +kernel
theorem dX2_isWord_28 : decode cX2_isWord 28 = .ok (.iload_n 2, 1) := by decide +kernel
theorem dX2_isWord_29 : decode cX2_isWord 29 = .ok (.aload_n 1, 1) := by decide +kernel
theorem dX2_isWord_30 : decode cX2_isWord 30 = .ok (.invokevirtual 130, 3) := by decide +kernel
theorem dX2_isWord_33 : decode cX2_isWord 33 = .ok (.if_icmp .ge 32, 3) := by decide +kernel
theorem dX2_isWord_36 : decode cX2_isWord 36 = .ok (.aload_n 0, 1) := by decide +kernel
theorem dX2_isWord_37 : decode cX2_isWord 37 = .ok (.getfield 12, 3) := by decide +kernel
theorem dX2_isWord_40 : decode cX2_isWord 40 = .ok (.aload_n 0, 1) := by decide +kernel
theorem dX2_isWord_41 : decode cX2_isWord 41 = .ok (.getfield 22, 3) := by decide +kernel
theorem dX2_isWord_44 : decode cX2_isWord 44 = .ok (.iload_n 2, 1) := by decide +kernel
theorem dX2_isWord_45 : decode cX2_isWord 45 = .ok (.iadd, 1) := by decide +kernel
theorem dX2_isWord_46 : decode cX2_isWord 46 = .ok (.invokevirtual 135, 3) := by decide +kernel
theorem dX2_isWord_49 : decode cX2_isWord 49 = .ok (.aload_n 1, 1) := by decide +kernel
theorem dX2_isWord_50 : decode cX2_isWord 50 = .ok (.iload_n 2, 1) := by decide +kernel
theorem dX2_isWord_51 : decode cX2_isWord 51 = .ok (.invokevirtual 139, 3) := by decide +kernel
theorem dX2_isWord_54 : decode cX2_isWord 54 = .ok (.if_icmp .eq 5, 3) := by decide +kernel
theorem dX2_isWord_57 : decode cX2_isWord 57 = .ok (.iconst 0, 1) := by decide +kernel
theorem dX2_isWord_58 : decode cX2_isWord 58 = .ok (.ireturn, 1) := by decide +kernel
theorem dX2_isWord_59 : decode cX2_isWord 59 = .ok (.iinc 2 1, 3) := by decide +kernel
theorem dX2_isWord_62 : decode cX2_isWord 62 = .ok (.goto (-34), 3) := by decide +kernel
theorem dX2_isWord_65 : decode cX2_isWord 65 = .ok (.iconst 1, 1) := by decide +kernel
theorem dX2_isWord_66 : decode cX2_isWord 66 = .ok (.ireturn, 1) := by decide +kernel
theorem dX2_readNumber_0 : decode cX2_readNumber 0 = .ok (.aload_n 0, 1) := by decide +kernel
theorem dX2_readNumber_1 : decode cX2_readNumber 1 = .ok (.getfield 18, 3) := by decide +kernel
theorem dX2_readNumber_4 : decode cX2_readNumber 4 = .ok (.iconst 2, 1) := by decide +kernel
theorem dX2_readNumber_5 : decode cX2_readNumber 5 = .ok (.if_icmp .ne 11, 3) := by decide +kernel
theorem dX2_readNumber_8 : decode cX2_readNumber 8 = .ok (.aload_n 0, 1) := by decide +kernel
theorem dX2_readNumber_9 : decode cX2_readNumber 9 = .ok (.getfield 28, 3) := by decide +kernel
theorem dX2_readNumber_12 : decode cX2_readNumber 12 = .ok (.iload_n 1, 1) := by decide +kernel
theorem dX2_readNumber_13 : decode cX2_readNumber 13 = .ok (.if_icmp .le 5, 3) := by decide +kernel
theorem dX2_readNumber_16 : decode cX2_readNumber 16 = .ok (.iconst 0, 1) := by decide +kernel
theorem dX2_readNumber_17 : decode cX2_readNumber 17 = .ok (.ireturn, 1) := by decide +kernel
theorem dX2_readNumber_18 : decode cX2_readNumber 18 = .ok (.aload_n 0, 1) := by decide +kernel
theorem dX2_readNumber_19 : decode cX2_readNumber 19 = .ok (.aload_n 0, 1) := by decide +kernel
theorem dX2_readNumber_20 : decode cX2_readNumber 20 = .ok (.getfield 28, 3) := by decide +kernel
theorem dX2_readNumber_23 : decode cX2_readNumber 23 = .ok (.putfield 31, 3) := by decide +kernel
theorem dX2_readNumber_26 : decode cX2_readNumber 26 = .ok (.aload_n 0, 1) := by decide +kernel
theorem dX2_readNumber_27 : decode cX2_readNumber 27 = .ok (.invokevirtual 34, 3) := by decide +kernel
theorem dX2_readNumber_30 : decode cX2_readNumber 30 = .ok (.iconst 1, 1) := by decide +kernel
theorem dX2_readNumber_31 : decode cX2_readNumber 31 = .ok (.ireturn, 1) := by decide +kernel
theorem dX2_advance_0 : decode cX2_advance 0 = .ok (.aload_n 0, 1) := by decide +kernel
theorem dX2_advance_1 : decode cX2_advance 1 = .ok (.aload_n 0, 1) := by decide +kernel
theorem dX2_advance_2 : decode cX2_advance 2 = .ok (.getfield 25, 3) := by decide +kernel
theorem dX2_advance_5 : decode cX2_advance 5 = .ok (.putfield 22, 3) := by decide +kernel
theorem dX2_advance_8 : decode cX2_advance 8 = .ok (.aload_n 0, 1) := by decide +kernel
theorem dX2_advance_9 : decode cX2_advance 9 = .ok (.getfield 22, 3) := by decide +kernel
theorem dX2_advance_12 : decode cX2_advance 12 = .ok (.bipush 120, 2) := by decide +kernel
theorem dX2_advance_14 : decode cX2_advance 14 = .ok (.if_icmp .ge 32, 3) := by decide +kernel
theorem dX2_advance_17 : decode cX2_advance 17 = .ok (.aload_n 0, 1) := by decide +kernel
theorem dX2_advance_18 : decode cX2_advance 18 = .ok (.getfield 12, 3) := by decide +kernel
theorem dX2_advance_21 : decode cX2_advance 21 = .ok (.aload_n 0, 1) := by decide +kernel
theorem dX2_advance_22 : decode cX2_advance 22 = .ok (.getfield 22, 3) := by decide +kernel
theorem dX2_advance_25 : decode cX2_advance 25 = .ok (.invokevirtual 135, 3) := by decide +kernel
theorem dX2_advance_28 : decode cX2_advance 28 = .ok (.bipush 32, 2) := by decide +kernel
theorem dX2_advance_30 : decode cX2_advance 30 = .ok (.if_icmp .ne 16, 3) := by decide +kernel
theorem dX2_advance_33 : decode cX2_advance 33 = .ok (.aload_n 0, 1) := by decide +kernel
theorem dX2_advance_34 : decode cX2_advance 34 = .ok (.dup, 1) := by decide +kernel
theorem dX2_advance_35 : decode cX2_advance 35 = .ok (.getfield 22, 3) := by decide +kernel
theorem dX2_advance_38 : decode cX2_advance 38 = .ok (.iconst 1, 1) := by decide +kernel
theorem dX2_advance_39 : decode cX2_advance 39 = .ok (.iadd, 1) := by decide +kernel
theorem dX2_advance_40 : decode cX2_advance 40 = .ok (.putfield 22, 3) := by decide +kernel
theorem dX2_advance_43 : decode cX2_advance 43 = .ok (.goto (-35), 3) := by decide +kernel
theorem dX2_advance_46 : decode cX2_advance 46 = .ok (.aload_n 0, 1) := by decide +kernel
theorem dX2_advance_47 : decode cX2_advance 47 = .ok (.aload_n 0, 1) := by decide +kernel
theorem dX2_advance_48 : decode cX2_advance 48 = .ok (.getfield 22, 3) := by decide +kernel
theorem dX2_advance_51 : decode cX2_advance 51 = .ok (.putfield 25, 3) := by decide +kernel
theorem dX2_advance_54 : decode cX2_advance 54 = .ok (.aload_n 0, 1) := by decide +kernel
theorem dX2_advance_55 : decode cX2_advance 55 = .ok (.getfield 12, 3) := by decide +kernel
theorem dX2_advance_58 : decode cX2_advance 58 = .ok (.aload_n 0, 1) := by decide +kernel
theorem dX2_advance_59 : decode cX2_advance 59 = .ok (.getfield 22, 3) := by decide +kernel
theorem dX2_advance_62 : decode cX2_advance 62 = .ok (.invokevirtual 135, 3) := by decide +kernel
theorem dX2_advance_65 : decode cX2_advance 65 = .ok (.istore_n 1, 1) := by decide +kernel
theorem dX2_advance_66 : decode cX2_advance 66 = .ok (.iload_n 1, 1) := by decide +kernel
theorem dX2_advance_67 : decode cX2_advance 67 = .ok (.ifCond .ge 11, 3) := by decide +kernel
theorem dX2_advance_70 : decode cX2_advance 70 = .ok (.aload_n 0, 1) := by decide +kernel
theorem dX2_advance_71 : decode cX2_advance 71 = .ok (.iconst 0, 1) := by decide +kernel
theorem dX2_advance_72 : decode cX2_advance 72 = .ok (.putfield 18, 3) := by decide +kernel
theorem dX2_advance_75 : decode cX2_advance 75 = .ok (.goto 167, 3) := by decide +kernel
theorem dX2_advance_78 : decode cX2_advance 78 = .ok (.iload_n 1, 1) := by decide +kernel
theorem dX2_advance_79 : decode cX2_advance 79 = .ok (.invokestatic 143, 3) := by decide +kernel
theorem dX2_advance_82 : decode cX2_advance 82 = .ok (.ifCond .eq 47, 3) := by decide +kernel
theorem dX2_advance_85 : decode cX2_advance 85 = .ok (.aload_n 0, 1) := by decide +kernel
theorem dX2_advance_86 : decode cX2_advance 86 = .ok (.iconst 1, 1) := by decide +kernel
theorem dX2_advance_87 : decode cX2_advance 87 = .ok (.putfield 18, 3) := by decide +kernel
theorem dX2_advance_90 : decode cX2_advance 90 = .ok (.aload_n 0, 1) := by decide +kernel
theorem dX2_advance_91 : decode cX2_advance 91 = .ok (.getfield 25, 3) := by decide +kernel
theorem dX2_advance_94 : decode cX2_advance 94 = .ok (.bipush 120, 2) := by decide +kernel
theorem dX2_advance_96 : decode cX2_advance 96 = .ok (.if_icmp .ge 146, 3) := by decide +kernel
theorem dX2_advance_99 : decode cX2_advance 99 = .ok (.aload_n 0, 1) := by decide +kernel
theorem dX2_advance_100 : decode cX2_advance 100 = .ok (.getfield 12, 3) := by decide +kernel
theorem dX2_advance_103 : decode cX2_advance 103 = .ok (.aload_n 0, 1) := by decide +kernel
theorem dX2_advance_104 : decode cX2_advance 104 = .ok (.getfield 25, 3) := by decide +kernel
theorem dX2_advance_107 : decode cX2_advance 107 = .ok (.invokevirtual 135, 3) := by decide +kernel
theorem dX2_advance_110 : decode cX2_advance 110 = .ok (.invokestatic 143, 3) := by decide +kernel
theorem dX2_advance_113 : decode cX2_advance 113 = .ok (.ifCond .eq 129, 3) := by decide +kernel
theorem dX2_advance_116 : decode cX2_advance 116 = .ok (.aload_n 0, 1) := by decide +kernel
theorem dX2_advance_117 : decode cX2_advance 117 = .ok (.dup, 1) := by decide +kernel
theorem dX2_advance_118 : decode cX2_advance 118 = .ok (.getfield 25, 3) := by decide +kernel
theorem dX2_advance_121 : decode cX2_advance 121 = .ok (.iconst 1, 1) := by decide +kernel
theorem dX2_advance_122 : decode cX2_advance 122 = .ok (.iadd, 1) := by decide +kernel
theorem dX2_advance_123 : decode cX2_advance 123 = .ok (.putfield 25, 3) := by decide +kernel
theorem dX2_advance_126 : decode cX2_advance 126 = .ok (.goto (-36), 3) := by decide +kernel
theorem dX2_advance_129 : decode cX2_advance 129 = .ok (.iload_n 1, 1) := by decide +kernel
theorem dX2_advance_130 : decode cX2_advance 130 = .ok (.invokestatic 146, 3) := by decide +kernel
theorem dX2_advance_133 : decode cX2_advance 133 = .ok (.ifCond .eq 84, 3) := by decide +kernel
theorem dX2_advance_136 : decode cX2_advance 136 = .ok (.aload_n 0, 1) := by decide +kernel
theorem dX2_advance_137 : decode cX2_advance 137 = .ok (.iconst 2, 1) := by decide +kernel
theorem dX2_advance_138 : decode cX2_advance 138 = .ok (.putfield 18, 3) := by decide +kernel
theorem dX2_advance_141 : decode cX2_advance 141 = .ok (.aload_n 0, 1) := by decide +kernel
theorem dX2_advance_142 : decode cX2_advance 142 = .ok (.iconst 0, 1) := by decide +kernel
theorem dX2_advance_143 : decode cX2_advance 143 = .ok (.putfield 28, 3) := by decide +kernel
theorem dX2_advance_146 : decode cX2_advance 146 = .ok (.aload_n 0, 1) := by decide +kernel
theorem dX2_advance_147 : decode cX2_advance 147 = .ok (.getfield 25, 3) := by decide +kernel
theorem dX2_advance_150 : decode cX2_advance 150 = .ok (.bipush 120, 2) := by decide +kernel
theorem dX2_advance_152 : decode cX2_advance 152 = .ok (.if_icmp .ge 90, 3) := by decide +kernel
theorem dX2_advance_155 : decode cX2_advance 155 = .ok (.aload_n 0, 1) := by decide +kernel
theorem dX2_advance_156 : decode cX2_advance 156 = .ok (.getfield 12, 3) := by decide +kernel
theorem dX2_advance_159 : decode cX2_advance 159 = .ok (.aload_n 0, 1) := by decide +kernel
theorem dX2_advance_160 : decode cX2_advance 160 = .ok (.getfield 25, 3) := by decide +kernel
theorem dX2_advance_163 : decode cX2_advance 163 = .ok (.invokevirtual 135, 3) := by decide +kernel
theorem dX2_advance_166 : decode cX2_advance 166 = .ok (.invokestatic 146, 3) := by decide +kernel
theorem dX2_advance_169 : decode cX2_advance 169 = .ok (.ifCond .eq 73, 3) := by decide +kernel
theorem dX2_advance_172 : decode cX2_advance 172 = .ok (.aload_n 0, 1) := by decide +kernel
theorem dX2_advance_173 : decode cX2_advance 173 = .ok (.bipush 10, 2) := by decide +kernel
theorem dX2_advance_175 : decode cX2_advance 175 = .ok (.aload_n 0, 1) := by decide +kernel
theorem dX2_advance_176 : decode cX2_advance 176 = .ok (.getfield 28, 3) := by decide +kernel
theorem dX2_advance_179 : decode cX2_advance 179 = .ok (.imul, 1) := by decide +kernel
theorem dX2_advance_180 : decode cX2_advance 180 = .ok (.aload_n 0, 1) := by decide +kernel
theorem dX2_advance_181 : decode cX2_advance 181 = .ok (.getfield 12, 3) := by decide +kernel
theorem dX2_advance_184 : decode cX2_advance 184 = .ok (.aload_n 0, 1) := by decide +kernel
theorem dX2_advance_185 : decode cX2_advance 185 = .ok (.getfield 25, 3) := by decide +kernel
theorem dX2_advance_188 : decode cX2_advance 188 = .ok (.invokevirtual 135, 3) := by decide +kernel
theorem dX2_advance_191 : decode cX2_advance 191 = .ok (.iadd, 1) := by decide +kernel
theorem dX2_advance_192 : decode cX2_advance 192 = .ok (.bipush 48, 2) := by decide +kernel
theorem dX2_advance_194 : decode cX2_advance 194 = .ok (.isub, 1) := by decide +kernel
theorem dX2_advance_195 : decode cX2_advance 195 = .ok (.sipush 10000, 3) := by decide +kernel
theorem dX2_advance_198 : decode cX2_advance 198 = .ok (.invokestatic 149, 3) := by decide +kernel
theorem dX2_advance_201 : decode cX2_advance 201 = .ok (.putfield 28, 3) := by decide +kernel
theorem dX2_advance_204 : decode cX2_advance 204 = .ok (.aload_n 0, 1) := by decide +kernel
theorem dX2_advance_205 : decode cX2_advance 205 = .ok (.dup, 1) := by decide +kernel
theorem dX2_advance_206 : decode cX2_advance 206 = .ok (.getfield 25, 3) := by decide +kernel
theorem dX2_advance_209 : decode cX2_advance 209 = .ok (.iconst 1, 1) := by decide +kernel
theorem dX2_advance_210 : decode cX2_advance 210 = .ok (.iadd, 1) := by decide +kernel
theorem dX2_advance_211 : decode cX2_advance 211 = .ok (.putfield 25, 3) := by decide +kernel
theorem dX2_advance_214 : decode cX2_advance 214 = .ok (.goto (-68), 3) := by decide +kernel
theorem dX2_advance_217 : decode cX2_advance 217 = .ok (.aload_n 0, 1) := by decide +kernel
theorem dX2_advance_218 : decode cX2_advance 218 = .ok (.iload_n 1, 1) := by decide +kernel
theorem dX2_advance_219 : decode cX2_advance 219 = .ok (.bipush 59, 2) := by decide +kernel
theorem dX2_advance_221 : decode cX2_advance 221 = .ok (.if_icmp .ne 7, 3) := by decide +kernel
theorem dX2_advance_224 : decode cX2_advance 224 = .ok (.iconst 3, 1) := by decide +kernel
theorem dX2_advance_225 : decode cX2_advance 225 = .ok (.goto 4, 3) := by decide +kernel
theorem dX2_advance_228 : decode cX2_advance 228 = .ok (.iconst 4, 1) := by decide +kernel
theorem dX2_advance_229 : decode cX2_advance 229 = .ok (.putfield 18, 3) := by decide +kernel
theorem dX2_advance_232 : decode cX2_advance 232 = .ok (.aload_n 0, 1) := by decide +kernel
theorem dX2_advance_233 : decode cX2_advance 233 = .ok (.dup, 1) := by decide +kernel
theorem dX2_advance_234 : decode cX2_advance 234 = .ok (.getfield 25, 3) := by decide +kernel
theorem dX2_advance_237 : decode cX2_advance 237 = .ok (.iconst 1, 1) := by decide +kernel
theorem dX2_advance_238 : decode cX2_advance 238 = .ok (.iadd, 1) := by decide +kernel
theorem dX2_advance_239 : decode cX2_advance 239 = .ok (.putfield 25, 3) := by decide +kernel
theorem dX2_advance_242 : decode cX2_advance 242 = .ok (.return_, 1) := by decide +kernel
theorem dX2_isLetter_0 : decode cX2_isLetter 0 = .ok (.iload_n 0, 1) := by decide +kernel
theorem dX2_isLetter_1 : decode cX2_isLetter 1 = .ok (.bipush 97, 2) := by decide +kernel
theorem dX2_isLetter_3 : decode cX2_isLetter 3 = .ok (.if_icmp .lt 13, 3) := by decide +kernel
theorem dX2_isLetter_6 : decode cX2_isLetter 6 = .ok (.iload_n 0, 1) := by decide +kernel
theorem dX2_isLetter_7 : decode cX2_isLetter 7 = .ok (.bipush 122, 2) := by decide +kernel
theorem dX2_isLetter_9 : decode cX2_isLetter 9 = .ok (.if_icmp .gt 7, 3) := by decide +kernel
theorem dX2_isLetter_12 : decode cX2_isLetter 12 = .ok (.iconst 1, 1) := by decide +kernel
theorem dX2_isLetter_13 : decode cX2_isLetter 13 = .ok (.goto 4, 3) := by decide +kernel
theorem dX2_isLetter_16 : decode cX2_isLetter 16 = .ok (.iconst 0, 1) := by decide +kernel
theorem dX2_isLetter_17 : decode cX2_isLetter 17 = .ok (.ireturn, 1) := by decide +kernel
theorem dX2_isDigit_0 : decode cX2_isDigit 0 = .ok (.iload_n 0, 1) := by decide +kernel
theorem dX2_isDigit_1 : decode cX2_isDigit 1 = .ok (.bipush 48, 2) := by decide +kernel
theorem dX2_isDigit_3 : decode cX2_isDigit 3 = .ok (.if_icmp .lt 13, 3) := by decide +kernel
theorem dX2_isDigit_6 : decode cX2_isDigit 6 = .ok (.iload_n 0, 1) := by decide +kernel
theorem dX2_isDigit_7 : decode cX2_isDigit 7 = .ok (.bipush 57, 2) := by decide +kernel
theorem dX2_isDigit_9 : decode cX2_isDigit 9 = .ok (.if_icmp .gt 7, 3) := by decide +kernel
theorem dX2_isDigit_12 : decode cX2_isDigit 12 = .ok (.iconst 1, 1) := by decide +kernel
theorem dX2_isDigit_13 : decode cX2_isDigit 13 = .ok (.goto 4, 3) := by decide +kernel
theorem dX2_isDigit_16 : decode cX2_isDigit 16 = .ok (.iconst 0, 1) := by decide +kernel
theorem dX2_isDigit_17 : decode cX2_isDigit 17 = .ok (.ireturn, 1) := by decide +kernel
theorem dX3_init_0 : decode cX3_init 0 = .ok (.aload_n 0, 1) := by decide +kernel
theorem dX3_init_1 : decode cX3_init 1 = .ok (.invokespecial 3, 3) := by decide +kernel
theorem dX3_init_4 : decode cX3_init 4 = .ok (.aload_n 0, 1) := by decide +kernel
theorem dX3_init_5 : decode cX3_init 5 = .ok (.new 9, 3) := by decide +kernel
theorem dX3_init_8 : decode cX3_init 8 = .ok (.dup, 1) := by decide +kernel
theorem dX3_init_9 : decode cX3_init 9 = .ok (.invokespecial 11, 3) := by decide +kernel
theorem dX3_init_12 : decode cX3_init 12 = .ok (.putfield 12, 3) := by decide +kernel
theorem dX3_init_15 : decode cX3_init 15 = .ok (.return_, 1) := by decide +kernel
theorem dX3_dreamOf_0 : decode cX3_dreamOf 0 = .ok (.aload_n 0, 1) := by decide +kernel
theorem dX3_dreamOf_1 : decode cX3_dreamOf 1 = .ok (.getfield 12, 3) := by decide +kernel
theorem dX3_dreamOf_4 : decode cX3_dreamOf 4 = .ok (.aload_n 1, 1) := by decide +kernel
theorem dX3_dreamOf_5 : decode cX3_dreamOf 5 = .ok (.invokevirtual 18, 3) := by decide +kernel
theorem dX3_dreamOf_8 : decode cX3_dreamOf 8 = .ok (.aload_n 0, 1) := by decide +kernel
theorem dX3_dreamOf_9 : decode cX3_dreamOf 9 = .ok (.getfield 12, 3) := by decide +kernel
theorem dX3_dreamOf_12 : decode cX3_dreamOf 12 = .ok (.areturn, 1) := by decide +kernel
theorem dX3_tellBehind_0 : decode cX3_tellBehind 0 = .ok (.aload_n 0, 1) := by decide +kernel
theorem dX3_tellBehind_1 : decode cX3_tellBehind 1 = .ok (.getfield 12, 3) := by decide +kernel
theorem dX3_tellBehind_4 : decode cX3_tellBehind 4 = .ok (.aload_n 1, 1) := by decide +kernel
theorem dX3_tellBehind_5 : decode cX3_tellBehind 5 = .ok (.invokevirtual 18, 3) := by decide +kernel
theorem dX3_tellBehind_8 : decode cX3_tellBehind 8 = .ok (.aload_n 0, 1) := by decide +kernel
theorem dX3_tellBehind_9 : decode cX3_tellBehind 9 = .ok (.getfield 12, 3) := by decide +kernel
theorem dX3_tellBehind_12 : decode cX3_tellBehind 12 = .ok (.iload 4, 2) := by decide +kernel
theorem dX3_tellBehind_14 : decode cX3_tellBehind 14 = .ok (.invokevirtual 22, 3) := by decide +kernel
theorem dX3_tellBehind_17 : decode cX3_tellBehind 17 = .ok (.aload_n 0, 1) := by decide +kernel
theorem dX3_tellBehind_18 : decode cX3_tellBehind 18 = .ok (.getfield 12, 3) := by decide +kernel
theorem dX3_tellBehind_21 : decode cX3_tellBehind 21 = .ok (.iload_n 2, 1) := by decide +kernel
theorem dX3_tellBehind_22 : decode cX3_tellBehind 22 = .ok (.invokevirtual 26, 3) := by decide +kernel
theorem dX3_tellBehind_25 : decode cX3_tellBehind 25 = .ok (.astore 5, 2) := by decide +kernel
theorem dX3_tellBehind_27 : decode cX3_tellBehind 27 = .ok (.aload 5, 2) := by decide +kernel
theorem dX3_tellBehind_29 : decode cX3_tellBehind 29 = .ok (.ifnonnull 7, 3) := by decide +kernel
theorem dX3_tellBehind_32 : decode cX3_tellBehind 32 = .ok (.iconst (-1), 1) := by decide +kernel
theorem dX3_tellBehind_33 : decode cX3_tellBehind 33 = .ok (.goto 13, 3) := by decide +kernel
theorem dX3_tellBehind_36 : decode cX3_tellBehind 36 = .ok (.aload_n 0, 1) := by decide +kernel
theorem dX3_tellBehind_37 : decode cX3_tellBehind 37 = .ok (.getfield 12, 3) := by decide +kernel
theorem dX3_tellBehind_40 : decode cX3_tellBehind 40 = .ok (.aload 5, 2) := by decide +kernel
theorem dX3_tellBehind_42 : decode cX3_tellBehind 42 = .ok (.iload_n 3, 1) := by decide +kernel
theorem dX3_tellBehind_43 : decode cX3_tellBehind 43 = .ok (.invokevirtual 30, 3) := by decide +kernel
theorem dX3_tellBehind_46 : decode cX3_tellBehind 46 = .ok (.ireturn, 1) := by decide +kernel
theorem dX3_daysTillIll_0 : decode cX3_daysTillIll 0 = .ok (.aload_n 0, 1) := by decide +kernel
theorem dX3_daysTillIll_1 : decode cX3_daysTillIll 1 = .ok (.getfield 12, 3) := by decide +kernel
theorem dX3_daysTillIll_4 : decode cX3_daysTillIll 4 = .ok (.aload_n 1, 1) := by decide +kernel
theorem dX3_daysTillIll_5 : decode cX3_daysTillIll 5 = .ok (.invokevirtual 18, 3) := by decide +kernel
theorem dX3_daysTillIll_8 : decode cX3_daysTillIll 8 = .ok (.aload_n 0, 1) := by decide +kernel
theorem dX3_daysTillIll_9 : decode cX3_daysTillIll 9 = .ok (.getfield 12, 3) := by decide +kernel
theorem dX3_daysTillIll_12 : decode cX3_daysTillIll 12 = .ok (.iload_n 2, 1) := by decide +kernel
theorem dX3_daysTillIll_13 : decode cX3_daysTillIll 13 = .ok (.invokevirtual 26, 3) := by decide +kernel
theorem dX3_daysTillIll_16 : decode cX3_daysTillIll 16 = .ok (.astore_n 3, 1) := by decide +kernel
theorem dX3_daysTillIll_17 : decode cX3_daysTillIll 17 = .ok (.aload_n 3, 1) := by decide +kernel
theorem dX3_daysTillIll_18 : decode cX3_daysTillIll 18 = .ok (.ifnonnull 5, 3) := by decide +kernel
theorem dX3_daysTillIll_21 : decode cX3_daysTillIll 21 = .ok (.iconst (-1), 1) := by decide +kernel
theorem dX3_daysTillIll_22 : decode cX3_daysTillIll 22 = .ok (.ireturn, 1) := by decide +kernel
theorem dX3_daysTillIll_23 : decode cX3_daysTillIll 23 = .ok (.aload_n 3, 1) := by decide +kernel
theorem dX3_daysTillIll_24 : decode cX3_daysTillIll 24 = .ok (.getfield 34, 3) := by decide +kernel
theorem dX3_daysTillIll_27 : decode cX3_daysTillIll 27 = .ok (.istore 4, 2) := by decide +kernel
theorem dX3_daysTillIll_29 : decode cX3_daysTillIll 29 = .ok (.iconst 1, 1) := by decide +kernel
theorem dX3_daysTillIll_30 : decode cX3_daysTillIll 30 = .ok (.istore 5, 2) := by decide +kernel
theorem dX3_daysTillIll_32 : decode cX3_daysTillIll 32 = .ok (.iload 5, 2) := by decide +kernel
theorem dX3_daysTillIll_34 : decode cX3_daysTillIll 34 = .ok (.sipush 200, 3) := by decide +kernel
theorem dX3_daysTillIll_37 : decode cX3_daysTillIll 37 = .ok (.if_icmp .gt 28, 3) := by decide +kernel
theorem dX3_daysTillIll_40 : decode cX3_daysTillIll 40 = .ok (.aload_n 0, 1) := by decide +kernel
theorem dX3_daysTillIll_41 : decode cX3_daysTillIll 41 = .ok (.getfield 12, 3) := by decide +kernel
theorem dX3_daysTillIll_44 : decode cX3_daysTillIll 44 = .ok (.invokevirtual 40, 3) := by decide +kernel
theorem dX3_daysTillIll_47 : decode cX3_daysTillIll 47 = .ok (.aload_n 3, 1) := by decide +kernel
theorem dX3_daysTillIll_48 : decode cX3_daysTillIll 48 = .ok (.getfield 34, 3) := by decide +kernel
theorem dX3_daysTillIll_51 : decode cX3_daysTillIll 51 = .ok (.iload 4, 2) := by decide +kernel
theorem dX3_daysTillIll_53 : decode cX3_daysTillIll 53 = .ok (.if_icmp .le 6, 3) := by decide +kernel
theorem dX3_daysTillIll_56 : decode cX3_daysTillIll 56 = .ok (.iload 5, 2) := by decide +kernel
theorem dX3_daysTillIll_58 : decode cX3_daysTillIll 58 = .ok (.ireturn, 1) := by decide +kernel
theorem dX3_daysTillIll_59 : decode cX3_daysTillIll 59 = .ok (.iinc 5 1, 3) := by decide +kernel
theorem dX3_daysTillIll_62 : decode cX3_daysTillIll 62 = .ok (.goto (-30), 3) := by decide +kernel
theorem dX3_daysTillIll_65 : decode cX3_daysTillIll 65 = .ok (.iconst (-1), 1) := by decide +kernel
theorem dX3_daysTillIll_66 : decode cX3_daysTillIll 66 = .ok (.ireturn, 1) := by decide +kernel
theorem dX3_daysTillOut_0 : decode cX3_daysTillOut 0 = .ok (.aload_n 0, 1) := by decide +kernel
theorem dX3_daysTillOut_1 : decode cX3_daysTillOut 1 = .ok (.getfield 12, 3) := by decide +kernel
theorem dX3_daysTillOut_4 : decode cX3_daysTillOut 4 = .ok (.aload_n 1, 1) := by decide +kernel
theorem dX3_daysTillOut_5 : decode cX3_daysTillOut 5 = .ok (.invokevirtual 18, 3) := by decide +kernel
theorem dX3_daysTillOut_8 : decode cX3_daysTillOut 8 = .ok (.iconst 0, 1) := by decide +kernel
theorem dX3_daysTillOut_9 : decode cX3_daysTillOut 9 = .ok (.istore_n 3, 1) := by decide +kernel
theorem dX3_daysTillOut_10 : decode cX3_daysTillOut 10 = .ok (.iload_n 3, 1) := by decide +kernel
theorem dX3_daysTillOut_11 : decode cX3_daysTillOut 11 = .ok (.sipush 200, 3) := by decide +kernel
theorem dX3_daysTillOut_14 : decode cX3_daysTillOut 14 = .ok (.if_icmp .gt 32, 3) := by decide +kernel
theorem dX3_daysTillOut_17 : decode cX3_daysTillOut 17 = .ok (.aload_n 0, 1) := by decide +kernel
theorem dX3_daysTillOut_18 : decode cX3_daysTillOut 18 = .ok (.getfield 12, 3) := by decide +kernel
theorem dX3_daysTillOut_21 : decode cX3_daysTillOut 21 = .ok (.getfield 43, 3) := by decide +kernel
theorem dX3_daysTillOut_24 : decode cX3_daysTillOut 24 = .ok (.iload_n 2, 1) := by decide +kernel
theorem dX3_daysTillOut_25 : decode cX3_daysTillOut 25 = .ok (.ishr, 1) := by decide +kernel
theorem dX3_daysTillOut_26 : decode cX3_daysTillOut 26 = .ok (.iconst 1, 1) := by decide +kernel
theorem dX3_daysTillOut_27 : decode cX3_daysTillOut 27 = .ok (.iand, 1) := by decide +kernel
theorem dX3_daysTillOut_28 : decode cX3_daysTillOut 28 = .ok (.ifCond .eq 5, 3) := by decide +kernel
theorem dX3_daysTillOut_31 : decode cX3_daysTillOut 31 = .ok (.iload_n 3, 1) := by decide +kernel
theorem dX3_daysTillOut_32 : decode cX3_daysTillOut 32 = .ok (.ireturn, 1) := by decide +kernel
theorem dX3_daysTillOut_33 : decode cX3_daysTillOut 33 = .ok (.aload_n 0, 1) := by decide +kernel
theorem dX3_daysTillOut_34 : decode cX3_daysTillOut 34 = .ok (.getfield 12, 3) := by decide +kernel
theorem dX3_daysTillOut_37 : decode cX3_daysTillOut 37 = .ok (.invokevirtual 40, 3) := by decide +kernel
theorem dX3_daysTillOut_40 : decode cX3_daysTillOut 40 = .ok (.iinc 3 1, 3) := by decide +kernel
theorem dX3_daysTillOut_43 : decode cX3_daysTillOut 43 = .ok (.goto (-33), 3) := by decide +kernel
theorem dX3_daysTillOut_46 : decode cX3_daysTillOut 46 = .ok (.iconst (-1), 1) := by decide +kernel
theorem dX3_daysTillOut_47 : decode cX3_daysTillOut 47 = .ok (.ireturn, 1) := by decide +kernel
theorem dX3_daysTillWise_0 : decode cX3_daysTillWise 0 = .ok (.aload_n 0, 1) := by decide +kernel
theorem dX3_daysTillWise_1 : decode cX3_daysTillWise 1 = .ok (.getfield 12, 3) := by decide +kernel
theorem dX3_daysTillWise_4 : decode cX3_daysTillWise 4 = .ok (.aload_n 1, 1) := by decide +kernel
theorem dX3_daysTillWise_5 : decode cX3_daysTillWise 5 = .ok (.invokevirtual 18, 3) := by decide +kernel
theorem dX3_daysTillWise_8 : decode cX3_daysTillWise 8 = .ok (.aload_n 0, 1) := by decide +kernel
theorem dX3_daysTillWise_9 : decode cX3_daysTillWise 9 = .ok (.getfield 12, 3) := by decide +kernel
theorem dX3_daysTillWise_12 : decode cX3_daysTillWise 12 = .ok (.iload_n 2, 1) := by decide +kernel
theorem dX3_daysTillWise_13 : decode cX3_daysTillWise 13 = .ok (.invokevirtual 26, 3) := by decide +kernel
theorem dX3_daysTillWise_16 : decode cX3_daysTillWise 16 = .ok (.astore 4, 2) := by decide +kernel
theorem dX3_daysTillWise_18 : decode cX3_daysTillWise 18 = .ok (.iconst 0, 1) := by decide +kernel
theorem dX3_daysTillWise_19 : decode cX3_daysTillWise 19 = .ok (.istore 5, 2) := by decide +kernel
theorem dX3_daysTillWise_21 : decode cX3_daysTillWise 21 = .ok (.aload 4, 2) := by decide +kernel
theorem dX3_daysTillWise_23 : decode cX3_daysTillWise 23 = .ok (.ifnull 39, 3) := by decide +kernel
theorem dX3_daysTillWise_26 : decode cX3_daysTillWise 26 = .ok (.iload 5, 2) := by decide +kernel
theorem dX3_daysTillWise_28 : decode cX3_daysTillWise 28 = .ok (.sipush 200, 3) := by decide +kernel
theorem dX3_daysTillWise_31 : decode cX3_daysTillWise 31 = .ok (.if_icmp .gt 31, 3) := by decide +kernel
theorem dX3_daysTillWise_34 : decode cX3_daysTillWise 34 = .ok (.aload 4, 2) := by decide +kernel
theorem dX3_daysTillWise_36 : decode cX3_daysTillWise 36 = .ok (.getfield 46, 3) := by decide +kernel
theorem dX3_daysTillWise_39 : decode cX3_daysTillWise 39 = .ok (.invokestatic 49, 3) := by decide +kernel
theorem dX3_daysTillWise_42 : decode cX3_daysTillWise 42 = .ok (.iload_n 3, 1) := by decide +kernel
theorem dX3_daysTillWise_43 : decode cX3_daysTillWise 43 = .ok (.if_icmp .lt 6, 3) := by decide +kernel
theorem dX3_daysTillWise_46 : decode cX3_daysTillWise 46 = .ok (.iload 5, 2) := by decide +kernel
theorem dX3_daysTillWise_48 : decode cX3_daysTillWise 48 = .ok (.ireturn, 1) := by decide +kernel
theorem dX3_daysTillWise_49 : decode cX3_daysTillWise 49 = .ok (.aload_n 0, 1) := by decide +kernel
theorem dX3_daysTillWise_50 : decode cX3_daysTillWise 50 = .ok (.getfield 12, 3) := by decide +kernel
theorem dX3_daysTillWise_53 : decode cX3_daysTillWise 53 = .ok (.invokevirtual 40, 3) := by decide +kernel
theorem dX3_daysTillWise_56 : decode cX3_daysTillWise 56 = .ok (.iinc 5 1, 3) := by decide +kernel
theorem dX3_daysTillWise_59 : decode cX3_daysTillWise 59 = .ok (.goto (-38), 3) := by decide +kernel
theorem dX3_daysTillWise_62 : decode cX3_daysTillWise 62 = .ok (.iconst (-1), 1) := by decide +kernel
theorem dX3_daysTillWise_63 : decode cX3_daysTillWise 63 = .ok (.ireturn, 1) := by decide +kernel
theorem dX3_daysTillStuffed_0 : decode cX3_daysTillStuffed 0 = .ok (.aload_n 0, 1) := by decide +kernel
theorem dX3_daysTillStuffed_1 : decode cX3_daysTillStuffed 1 = .ok (.getfield 12, 3) := by decide +kernel
theorem dX3_daysTillStuffed_4 : decode cX3_daysTillStuffed 4 = .ok (.aload_n 1, 1) := by decide +kernel
theorem dX3_daysTillStuffed_5 : decode cX3_daysTillStuffed 5 = .ok (.invokevirtual 18, 3) := by decide +kernel
theorem dX3_daysTillStuffed_8 : decode cX3_daysTillStuffed 8 = .ok (.aload_n 0, 1) := by decide +kernel
theorem dX3_daysTillStuffed_9 : decode cX3_daysTillStuffed 9 = .ok (.getfield 12, 3) := by decide +kernel
theorem dX3_daysTillStuffed_12 : decode cX3_daysTillStuffed 12 = .ok (.iload_n 2, 1) := by decide +kernel
theorem dX3_daysTillStuffed_13 : decode cX3_daysTillStuffed 13 = .ok (.invokevirtual 26, 3) := by decide +kernel
theorem dX3_daysTillStuffed_16 : decode cX3_daysTillStuffed 16 = .ok (.astore 4, 2) := by decide +kernel
theorem dX3_daysTillStuffed_18 : decode cX3_daysTillStuffed 18 = .ok (.iconst 0, 1) := by decide +kernel
theorem dX3_daysTillStuffed_19 : decode cX3_daysTillStuffed 19 = .ok (.istore 5, 2) := by decide +kernel
theorem dX3_daysTillStuffed_21 : decode cX3_daysTillStuffed 21 = .ok (.aload 4, 2) := by decide +kernel
theorem dX3_daysTillStuffed_23 : decode cX3_daysTillStuffed 23 = .ok (.ifnull 36, 3) := by decide +kernel
theorem dX3_daysTillStuffed_26 : decode cX3_daysTillStuffed 26 = .ok (.iload 5, 2) := by decide +kernel
theorem dX3_daysTillStuffed_28 : decode cX3_daysTillStuffed 28 = .ok (.sipush 200, 3) := by decide +kernel
theorem dX3_daysTillStuffed_31 : decode cX3_daysTillStuffed 31 = .ok (.if_icmp .gt 28, 3) := by decide +kernel
theorem dX3_daysTillStuffed_34 : decode cX3_daysTillStuffed 34 = .ok (.aload 4, 2) := by decide +kernel
theorem dX3_daysTillStuffed_36 : decode cX3_daysTillStuffed 36 = .ok (.getfield 55, 3) := by decide +kernel
theorem dX3_daysTillStuffed_39 : decode cX3_daysTillStuffed 39 = .ok (.iload_n 3, 1) := by decide +kernel
theorem dX3_daysTillStuffed_40 : decode cX3_daysTillStuffed 40 = .ok (.if_icmp .lt 6, 3) := by decide +kernel
theorem dX3_daysTillStuffed_43 : decode cX3_daysTillStuffed 43 = .ok (.iload 5, 2) := by decide +kernel
theorem dX3_daysTillStuffed_45 : decode cX3_daysTillStuffed 45 = .ok (.ireturn, 1) := by decide +kernel
theorem dX3_daysTillStuffed_46 : decode cX3_daysTillStuffed 46 = .ok (.aload_n 0, 1) := by decide +kernel
theorem dX3_daysTillStuffed_47 : decode cX3_daysTillStuffed 47 = .ok (.getfield 12, 3) := by decide +kernel
theorem dX3_daysTillStuffed_50 : decode cX3_daysTillStuffed 50 = .ok (.invokevirtual 40, 3) := by decide +kernel
theorem dX3_daysTillStuffed_53 : decode cX3_daysTillStuffed 53 = .ok (.iinc 5 1, 3) := by decide +kernel
theorem dX3_daysTillStuffed_56 : decode cX3_daysTillStuffed 56 = .ok (.goto (-35), 3) := by decide +kernel
theorem dX3_daysTillStuffed_59 : decode cX3_daysTillStuffed 59 = .ok (.iconst (-1), 1) := by decide +kernel
theorem dX3_daysTillStuffed_60 : decode cX3_daysTillStuffed 60 = .ok (.ireturn, 1) := by decide +kernel
theorem dX3_mostHarmlessWords_0 : decode cX3_mostHarmlessWords 0 = .ok (.iload_n 2, 1) := by decide +kernel
theorem dX3_mostHarmlessWords_1 : decode cX3_mostHarmlessWords 1 = .ok (.iconst 5, 1) := by decide +kernel
theorem dX3_mostHarmlessWords_2 : decode cX3_mostHarmlessWords 2 = .ok (.invokestatic 58, 3) := by decide +kernel
theorem dX3_mostHarmlessWords_5 : decode cX3_mostHarmlessWords 5 = .ok (.ifCond .ne 5, 3) := by decide +kernel
theorem dX3_mostHarmlessWords_8 : decode cX3_mostHarmlessWords 8 = .ok (.iconst (-1), 1) := by decide +kernel
theorem dX3_mostHarmlessWords_9 : decode cX3_mostHarmlessWords 9 = .ok (.ireturn, 1) := by decide +kernel
theorem dX3_mostHarmlessWords_10 : decode cX3_mostHarmlessWords 10 = .ok (.aload_n 1, 1) := by decide +kernel
theorem dX3_mostHarmlessWords_11 : decode cX3_mostHarmlessWords 11 = .ok (.getfield 62, 3) := by decide +kernel
theorem dX3_mostHarmlessWords_14 : decode cX3_mostHarmlessWords 14 = .ok (.iload_n 2, 1) := by decide +kernel
theorem dX3_mostHarmlessWords_15 : decode cX3_mostHarmlessWords 15 = .ok (.iaload, 1) := by decide +kernel
theorem dX3_mostHarmlessWords_16 : decode cX3_mostHarmlessWords 16 = .ok (.invokestatic 66, 3) := by decide +kernel
theorem dX3_mostHarmlessWords_19 : decode cX3_mostHarmlessWords 19 = .ok (.istore 4, 2) := by decide +kernel
theorem dX3_mostHarmlessWords_21 : decode cX3_mostHarmlessWords 21 = .ok (.aload_n 1, 1) := by decide +kernel
theorem dX3_mostHarmlessWords_22 : decode cX3_mostHarmlessWords 22 = .ok (.iconst 5, 1) := by decide +kernel
theorem dX3_mostHarmlessWords_23 : decode cX3_mostHarmlessWords 23 = .ok (.invokevirtual 69, 3) := by decide +kernel
theorem dX3_mostHarmlessWords_26 : decode cX3_mostHarmlessWords 26 = .ok (.istore 5, 2) := by decide +kernel
theorem dX3_mostHarmlessWords_28 : decode cX3_mostHarmlessWords 28 = .ok (.bipush 40, 2) := by decide +kernel
theorem dX3_mostHarmlessWords_30 : decode cX3_mostHarmlessWords 30 = .ok (.istore 6, 2) := by decide +kernel
theorem dX3_mostHarmlessWords_32 : decode cX3_mostHarmlessWords 32 = .ok (.iload 6, 2) := by decide +kernel
theorem dX3_mostHarmlessWords_34 : decode cX3_mostHarmlessWords 34 = .ok (.ifCond .lt 57, 3) := by decide +kernel
theorem dX3_mostHarmlessWords_37 : decode cX3_mostHarmlessWords 37 = .ok (.aload_n 0, 1) := by decide +kernel
theorem dX3_mostHarmlessWords_38 : decode cX3_mostHarmlessWords 38 = .ok (.getfield 12, 3) := by decide +kernel
theorem dX3_mostHarmlessWords_41 : decode cX3_mostHarmlessWords 41 = .ok (.aload_n 1, 1) := by decide +kernel
theorem dX3_mostHarmlessWords_42 : decode cX3_mostHarmlessWords 42 = .ok (.invokevirtual 18, 3) := by decide +kernel
theorem dX3_mostHarmlessWords_45 : decode cX3_mostHarmlessWords 45 = .ok (.aload_n 0, 1) := by decide +kernel
theorem dX3_mostHarmlessWords_46 : decode cX3_mostHarmlessWords 46 = .ok (.getfield 12, 3) := by decide +kernel
theorem dX3_mostHarmlessWords_49 : decode cX3_mostHarmlessWords 49 = .ok (.getfield 62, 3) := by decide +kernel
theorem dX3_mostHarmlessWords_52 : decode cX3_mostHarmlessWords 52 = .ok (.iload_n 2, 1) := by decide +kernel
theorem dX3_mostHarmlessWords_53 : decode cX3_mostHarmlessWords 53 = .ok (.iload 4, 2) := by decide +kernel
theorem dX3_mostHarmlessWords_55 : decode cX3_mostHarmlessWords 55 = .ok (.iload 6, 2) := by decide +kernel
theorem dX3_mostHarmlessWords_57 : decode cX3_mostHarmlessWords 57 = .ok (.invokestatic 72, 3) := by decide +kernel
theorem dX3_mostHarmlessWords_60 : decode cX3_mostHarmlessWords 60 = .ok (.iastore, 1) := by decide +kernel
theorem dX3_mostHarmlessWords_61 : decode cX3_mostHarmlessWords 61 = .ok (.aload_n 0, 1) := by decide +kernel
theorem dX3_mostHarmlessWords_62 : decode cX3_mostHarmlessWords 62 = .ok (.getfield 12, 3) := by decide +kernel
theorem dX3_mostHarmlessWords_65 : decode cX3_mostHarmlessWords 65 = .ok (.iload_n 3, 1) := by decide +kernel
theorem dX3_mostHarmlessWords_66 : decode cX3_mostHarmlessWords 66 = .ok (.invokevirtual 22, 3) := by decide +kernel
theorem dX3_mostHarmlessWords_69 : decode cX3_mostHarmlessWords 69 = .ok (.aload_n 0, 1) := by decide +kernel
theorem dX3_mostHarmlessWords_70 : decode cX3_mostHarmlessWords 70 = .ok (.getfield 12, 3) := by decide +kernel
theorem dX3_mostHarmlessWords_73 : decode cX3_mostHarmlessWords 73 = .ok (.iconst 5, 1) := by decide +kernel
theorem dX3_mostHarmlessWords_74 : decode cX3_mostHarmlessWords 74 = .ok (.invokevirtual 69, 3) := by decide +kernel
theorem dX3_mostHarmlessWords_77 : decode cX3_mostHarmlessWords 77 = .ok (.iload 5, 2) := by decide +kernel
theorem dX3_mostHarmlessWords_79 : decode cX3_mostHarmlessWords 79 = .ok (.if_icmp .ne 6, 3) := by decide +kernel
theorem dX3_mostHarmlessWords_82 : decode cX3_mostHarmlessWords 82 = .ok (.iload 6, 2) := by decide +kernel
theorem dX3_mostHarmlessWords_84 : decode cX3_mostHarmlessWords 84 = .ok (.ireturn, 1) := by decide +kernel
theorem dX3_mostHarmlessWords_85 : decode cX3_mostHarmlessWords 85 = .ok (.iinc 6 (-1), 3) := by decide +kernel
theorem dX3_mostHarmlessWords_88 : decode cX3_mostHarmlessWords 88 = .ok (.goto (-56), 3) := by decide +kernel
theorem dX3_mostHarmlessWords_91 : decode cX3_mostHarmlessWords 91 = .ok (.iconst (-1), 1) := by decide +kernel
theorem dX3_mostHarmlessWords_92 : decode cX3_mostHarmlessWords 92 = .ok (.ireturn, 1) := by decide +kernel
theorem dX3_staysQuiet_0 : decode cX3_staysQuiet 0 = .ok (.aload_n 0, 1) := by decide +kernel
theorem dX3_staysQuiet_1 : decode cX3_staysQuiet 1 = .ok (.getfield 12, 3) := by decide +kernel
theorem dX3_staysQuiet_4 : decode cX3_staysQuiet 4 = .ok (.getfield 43, 3) := by decide +kernel
theorem dX3_staysQuiet_7 : decode cX3_staysQuiet 7 = .ok (.istore_n 2, 1) := by decide +kernel
theorem dX3_staysQuiet_8 : decode cX3_staysQuiet 8 = .ok (.iconst 0, 1) := by decide +kernel
theorem dX3_staysQuiet_9 : decode cX3_staysQuiet 9 = .ok (.istore_n 3, 1) := by decide +kernel
theorem dX3_staysQuiet_10 : decode cX3_staysQuiet 10 = .ok (.iload_n 3, 1) := by decide +kernel
theorem dX3_staysQuiet_11 : decode cX3_staysQuiet 11 = .ok (.iload_n 1, 1) := by decide +kernel
theorem dX3_staysQuiet_12 : decode cX3_staysQuiet 12 = .ok (.if_icmp .ge 29, 3) := by decide +kernel
theorem dX3_staysQuiet_15 : decode cX3_staysQuiet 15 = .ok (.aload_n 0, 1) := by decide +kernel
theorem dX3_staysQuiet_16 : decode cX3_staysQuiet 16 = .ok (.getfield 12, 3) := by decide +kernel
theorem dX3_staysQuiet_19 : decode cX3_staysQuiet 19 = .ok (.invokevirtual 40, 3) := by decide +kernel
theorem dX3_staysQuiet_22 : decode cX3_staysQuiet 22 = .ok (.aload_n 0, 1) := by decide +kernel
theorem dX3_staysQuiet_23 : decode cX3_staysQuiet 23 = .ok (.getfield 12, 3) := by decide +kernel
theorem dX3_staysQuiet_26 : decode cX3_staysQuiet 26 = .ok (.getfield 43, 3) := by decide +kernel
theorem dX3_staysQuiet_29 : decode cX3_staysQuiet 29 = .ok (.iload_n 2, 1) := by decide +kernel
theorem dX3_staysQuiet_30 : decode cX3_staysQuiet 30 = .ok (.if_icmp .eq 5, 3) := by decide +kernel
theorem dX3_staysQuiet_33 : decode cX3_staysQuiet 33 = .ok (.iconst 0, 1) := by decide +kernel
theorem dX3_staysQuiet_34 : decode cX3_staysQuiet 34 = .ok (.ireturn, 1) := by decide +kernel
theorem dX3_staysQuiet_35 : decode cX3_staysQuiet 35 = .ok (.iinc 3 1, 3) := by decide +kernel
theorem dX3_staysQuiet_38 : decode cX3_staysQuiet 38 = .ok (.goto (-28), 3) := by decide +kernel
theorem dX3_staysQuiet_41 : decode cX3_staysQuiet 41 = .ok (.iconst 1, 1) := by decide +kernel
theorem dX3_staysQuiet_42 : decode cX3_staysQuiet 42 = .ok (.ireturn, 1) := by decide +kernel
theorem dX3_leastQuietWater_0 : decode cX3_leastQuietWater 0 = .ok (.iconst 0, 1) := by decide +kernel
theorem dX3_leastQuietWater_1 : decode cX3_leastQuietWater 1 = .ok (.istore_n 3, 1) := by decide +kernel
theorem dX3_leastQuietWater_2 : decode cX3_leastQuietWater 2 = .ok (.iload_n 3, 1) := by decide +kernel
theorem dX3_leastQuietWater_3 : decode cX3_leastQuietWater 3 = .ok (.bipush 9, 2) := by decide +kernel
theorem dX3_leastQuietWater_5 : decode cX3_leastQuietWater 5 = .ok (.if_icmp .gt 35, 3) := by decide +kernel
theorem dX3_leastQuietWater_8 : decode cX3_leastQuietWater 8 = .ok (.aload_n 0, 1) := by decide +kernel
theorem dX3_leastQuietWater_9 : decode cX3_leastQuietWater 9 = .ok (.getfield 12, 3) := by decide +kernel
theorem dX3_leastQuietWater_12 : decode cX3_leastQuietWater 12 = .ok (.aload_n 1, 1) := by decide +kernel
theorem dX3_leastQuietWater_13 : decode cX3_leastQuietWater 13 = .ok (.invokevirtual 18, 3) := by decide +kernel
theorem dX3_leastQuietWater_16 : decode cX3_leastQuietWater 16 = .ok (.aload_n 0, 1) := by decide +kernel
theorem dX3_leastQuietWater_17 : decode cX3_leastQuietWater 17 = .ok (.getfield 12, 3) := by decide +kernel
theorem dX3_leastQuietWater_20 : decode cX3_leastQuietWater 20 = .ok (.iload_n 3, 1) := by decide +kernel
theorem dX3_leastQuietWater_21 : decode cX3_leastQuietWater 21 = .ok (.putfield 76, 3) := by decide +kernel
theorem dX3_leastQuietWater_24 : decode cX3_leastQuietWater 24 = .ok (.aload_n 0, 1) := by decide +kernel
theorem dX3_leastQuietWater_25 : decode cX3_leastQuietWater 25 = .ok (.iload_n 2, 1) := by decide +kernel
theorem dX3_leastQuietWater_26 : decode cX3_leastQuietWater 26 = .ok (.invokevirtual 79, 3) := by decide +kernel
theorem dX3_leastQuietWater_29 : decode cX3_leastQuietWater 29 = .ok (.ifCond .eq 5, 3) := by decide +kernel
theorem dX3_leastQuietWater_32 : decode cX3_leastQuietWater 32 = .ok (.iload_n 3, 1) := by decide +kernel
theorem dX3_leastQuietWater_33 : decode cX3_leastQuietWater 33 = .ok (.ireturn, 1) := by decide +kernel
theorem dX3_leastQuietWater_34 : decode cX3_leastQuietWater 34 = .ok (.iinc 3 1, 3) := by decide +kernel
theorem dX3_leastQuietWater_37 : decode cX3_leastQuietWater 37 = .ok (.goto (-35), 3) := by decide +kernel
theorem dX3_leastQuietWater_40 : decode cX3_leastQuietWater 40 = .ok (.iconst (-1), 1) := by decide +kernel
theorem dX3_leastQuietWater_41 : decode cX3_leastQuietWater 41 = .ok (.ireturn, 1) := by decide +kernel
theorem dX3_sinToSpare_0 : decode cX3_sinToSpare 0 = .ok (.iconst 0, 1) := by decide +kernel
theorem dX3_sinToSpare_1 : decode cX3_sinToSpare 1 = .ok (.istore 4, 2) := by decide +kernel
theorem dX3_sinToSpare_3 : decode cX3_sinToSpare 3 = .ok (.sipush 1000, 3) := by decide +kernel
theorem dX3_sinToSpare_6 : decode cX3_sinToSpare 6 = .ok (.istore 5, 2) := by decide +kernel
theorem dX3_sinToSpare_8 : decode cX3_sinToSpare 8 = .ok (.iconst 0, 1) := by decide +kernel
theorem dX3_sinToSpare_9 : decode cX3_sinToSpare 9 = .ok (.istore 6, 2) := by decide +kernel
theorem dX3_sinToSpare_11 : decode cX3_sinToSpare 11 = .ok (.iload 6, 2) := by decide +kernel
theorem dX3_sinToSpare_13 : decode cX3_sinToSpare 13 = .ok (.bipush 8, 2) := by decide +kernel
theorem dX3_sinToSpare_15 : decode cX3_sinToSpare 15 = .ok (.if_icmp .ge 77, 3) := by decide +kernel
theorem dX3_sinToSpare_18 : decode cX3_sinToSpare 18 = .ok (.aload_n 0, 1) := by decide +kernel
theorem dX3_sinToSpare_19 : decode cX3_sinToSpare 19 = .ok (.getfield 12, 3) := by decide +kernel
theorem dX3_sinToSpare_22 : decode cX3_sinToSpare 22 = .ok (.aload_n 1, 1) := by decide +kernel
theorem dX3_sinToSpare_23 : decode cX3_sinToSpare 23 = .ok (.invokevirtual 18, 3) := by decide +kernel
theorem dX3_sinToSpare_26 : decode cX3_sinToSpare 26 = .ok (.aload_n 0, 1) := by decide +kernel
theorem dX3_sinToSpare_27 : decode cX3_sinToSpare 27 = .ok (.getfield 12, 3) := by decide +kernel
theorem dX3_sinToSpare_30 : decode cX3_sinToSpare 30 = .ok (.iload_n 2, 1) := by decide +kernel
theorem dX3_sinToSpare_31 : decode cX3_sinToSpare 31 = .ok (.invokevirtual 26, 3) := by decide +kernel
theorem dX3_sinToSpare_34 : decode cX3_sinToSpare 34 = .ok (.astore 7, 2) := by decide +kernel
theorem dX3_sinToSpare_36 : decode cX3_sinToSpare 36 = .ok (.aload 7, 2) := by decide +kernel
theorem dX3_sinToSpare_38 : decode cX3_sinToSpare 38 = .ok (.ifnull 48, 3) := by decide +kernel
theorem dX3_sinToSpare_41 : decode cX3_sinToSpare 41 = .ok (.aload 7, 2) := by decide +kernel
theorem dX3_sinToSpare_43 : decode cX3_sinToSpare 43 = .ok (.dup, 1) := by decide +kernel
theorem dX3_sinToSpare_44 : decode cX3_sinToSpare 44 = .ok (.getfield 83, 3) := by decide +kernel
theorem dX3_sinToSpare_47 : decode cX3_sinToSpare 47 = .ok (.iconst 1, 1) := by decide +kernel
theorem dX3_sinToSpare_48 : decode cX3_sinToSpare 48 = .ok (.iload 6, 2) := by decide +kernel
theorem dX3_sinToSpare_50 : decode cX3_sinToSpare 50 = .ok (.ishl, 1) := by decide +kernel
theorem dX3_sinToSpare_51 : decode cX3_sinToSpare 51 = .ok (.iconst (-1), 1) := by decide +kernel
theorem dX3_sinToSpare_52 : decode cX3_sinToSpare 52 = .ok (.ixor, 1) := by decide +kernel
theorem dX3_sinToSpare_53 : decode cX3_sinToSpare 53 = .ok (.iand, 1) := by decide +kernel
theorem dX3_sinToSpare_54 : decode cX3_sinToSpare 54 = .ok (.putfield 83, 3) := by decide +kernel
theorem dX3_sinToSpare_57 : decode cX3_sinToSpare 57 = .ok (.aload_n 0, 1) := by decide +kernel
theorem dX3_sinToSpare_58 : decode cX3_sinToSpare 58 = .ok (.getfield 12, 3) := by decide +kernel
theorem dX3_sinToSpare_61 : decode cX3_sinToSpare 61 = .ok (.iload_n 3, 1) := by decide +kernel
theorem dX3_sinToSpare_62 : decode cX3_sinToSpare 62 = .ok (.invokevirtual 22, 3) := by decide +kernel
theorem dX3_sinToSpare_65 : decode cX3_sinToSpare 65 = .ok (.aload 7, 2) := by decide +kernel
theorem dX3_sinToSpare_67 : decode cX3_sinToSpare 67 = .ok (.getfield 55, 3) := by decide +kernel
theorem dX3_sinToSpare_70 : decode cX3_sinToSpare 70 = .ok (.iload 5, 2) := by decide +kernel
theorem dX3_sinToSpare_72 : decode cX3_sinToSpare 72 = .ok (.if_icmp .ge 14, 3) := by decide +kernel
theorem dX3_sinToSpare_75 : decode cX3_sinToSpare 75 = .ok (.iload 6, 2) := by decide +kernel
theorem dX3_sinToSpare_77 : decode cX3_sinToSpare 77 = .ok (.istore 4, 2) := by decide +kernel
theorem dX3_sinToSpare_79 : decode cX3_sinToSpare 79 = .ok (.aload 7, 2) := by decide +kernel
theorem dX3_sinToSpare_81 : decode cX3_sinToSpare 81 = .ok (.getfield 55, 3) := by decide +kernel
theorem dX3_sinToSpare_84 : decode cX3_sinToSpare 84 = .ok (.istore 5, 2) := by decide +kernel
theorem dX3_sinToSpare_86 : decode cX3_sinToSpare 86 = .ok (.iinc 6 1, 3) := by decide +kernel
theorem dX3_sinToSpare_89 : decode cX3_sinToSpare 89 = .ok (.goto (-78), 3) := by decide +kernel
theorem dX3_sinToSpare_92 : decode cX3_sinToSpare 92 = .ok (.iload 4, 2) := by decide +kernel
theorem dX3_sinToSpare_94 : decode cX3_sinToSpare 94 = .ok (.ireturn, 1) := by decide +kernel
theorem dX3_healthiestKind_0 : decode cX3_healthiestKind 0 = .ok (.iconst 0, 1) := by decide +kernel
theorem dX3_healthiestKind_1 : decode cX3_healthiestKind 1 = .ok (.istore 4, 2) := by decide +kernel
theorem dX3_healthiestKind_3 : decode cX3_healthiestKind 3 = .ok (.ldc 86, 2) := by decide +kernel
theorem dX3_healthiestKind_5 : decode cX3_healthiestKind 5 = .ok (.istore 5, 2) := by decide +kernel
theorem dX3_healthiestKind_7 : decode cX3_healthiestKind 7 = .ok (.iconst 0, 1) := by decide +kernel
theorem dX3_healthiestKind_8 : decode cX3_healthiestKind 8 = .ok (.istore 6, 2) := by decide +kernel
theorem dX3_healthiestKind_10 : decode cX3_healthiestKind 10 = .ok (.iload 6, 2) := by decide +kernel
theorem dX3_healthiestKind_12 : decode cX3_healthiestKind 12 = .ok (.bipush 7, 2) := by decide +kernel
theorem dX3_healthiestKind_14 : decode cX3_healthiestKind 14 = .ok (.if_icmp .ge 72, 3) := by decide +kernel
theorem dX3_healthiestKind_17 : decode cX3_healthiestKind 17 = .ok (.aload_n 0, 1) := by decide +kernel
theorem dX3_healthiestKind_18 : decode cX3_healthiestKind 18 = .ok (.getfield 12, 3) := by decide +kernel
theorem dX3_healthiestKind_21 : decode cX3_healthiestKind 21 = .ok (.aload_n 1, 1) := by decide +kernel
theorem dX3_healthiestKind_22 : decode cX3_healthiestKind 22 = .ok (.invokevirtual 18, 3) := by decide +kernel
theorem dX3_healthiestKind_25 : decode cX3_healthiestKind 25 = .ok (.aload_n 0, 1) := by decide +kernel
theorem dX3_healthiestKind_26 : decode cX3_healthiestKind 26 = .ok (.getfield 12, 3) := by decide +kernel
theorem dX3_healthiestKind_29 : decode cX3_healthiestKind 29 = .ok (.iload_n 2, 1) := by decide +kernel
theorem dX3_healthiestKind_30 : decode cX3_healthiestKind 30 = .ok (.invokevirtual 26, 3) := by decide +kernel
theorem dX3_healthiestKind_33 : decode cX3_healthiestKind 33 = .ok (.astore 7, 2) := by decide +kernel
theorem dX3_healthiestKind_35 : decode cX3_healthiestKind 35 = .ok (.aload 7, 2) := by decide +kernel
theorem dX3_healthiestKind_37 : decode cX3_healthiestKind 37 = .ok (.ifnull 43, 3) := by decide +kernel
theorem dX3_healthiestKind_40 : decode cX3_healthiestKind 40 = .ok (.aload 7, 2) := by decide +kernel
theorem dX3_healthiestKind_42 : decode cX3_healthiestKind 42 = .ok (.iload 6, 2) := by decide +kernel
theorem dX3_healthiestKind_44 : decode cX3_healthiestKind 44 = .ok (.putfield 87, 3) := by decide +kernel
theorem dX3_healthiestKind_47 : decode cX3_healthiestKind 47 = .ok (.aload_n 0, 1) := by decide +kernel
theorem dX3_healthiestKind_48 : decode cX3_healthiestKind 48 = .ok (.getfield 12, 3) := by decide +kernel
theorem dX3_healthiestKind_51 : decode cX3_healthiestKind 51 = .ok (.iload_n 3, 1) := by decide +kernel
theorem dX3_healthiestKind_52 : decode cX3_healthiestKind 52 = .ok (.invokevirtual 22, 3) := by decide +kernel
theorem dX3_healthiestKind_55 : decode cX3_healthiestKind 55 = .ok (.aload_n 0, 1) := by decide +kernel
theorem dX3_healthiestKind_56 : decode cX3_healthiestKind 56 = .ok (.getfield 12, 3) := by decide +kernel
theorem dX3_healthiestKind_59 : decode cX3_healthiestKind 59 = .ok (.iconst 5, 1) := by decide +kernel
theorem dX3_healthiestKind_60 : decode cX3_healthiestKind 60 = .ok (.invokevirtual 69, 3) := by decide +kernel
theorem dX3_healthiestKind_63 : decode cX3_healthiestKind 63 = .ok (.istore 8, 2) := by decide +kernel
theorem dX3_healthiestKind_65 : decode cX3_healthiestKind 65 = .ok (.iload 8, 2) := by decide +kernel
theorem dX3_healthiestKind_67 : decode cX3_healthiestKind 67 = .ok (.iload 5, 2) := by decide +kernel
theorem dX3_healthiestKind_69 : decode cX3_healthiestKind 69 = .ok (.if_icmp .ge 11, 3) := by decide +kernel
theorem dX3_healthiestKind_72 : decode cX3_healthiestKind 72 = .ok (.iload 6, 2) := by decide +kernel
theorem dX3_healthiestKind_74 : decode cX3_healthiestKind 74 = .ok (.istore 4, 2) := by decide +kernel
theorem dX3_healthiestKind_76 : decode cX3_healthiestKind 76 = .ok (.iload 8, 2) := by decide +kernel
theorem dX3_healthiestKind_78 : decode cX3_healthiestKind 78 = .ok (.istore 5, 2) := by decide +kernel
theorem dX3_healthiestKind_80 : decode cX3_healthiestKind 80 = .ok (.iinc 6 1, 3) := by decide +kernel
theorem dX3_healthiestKind_83 : decode cX3_healthiestKind 83 = .ok (.goto (-73), 3) := by decide +kernel
theorem dX3_healthiestKind_86 : decode cX3_healthiestKind 86 = .ok (.iload 4, 2) := by decide +kernel
theorem dX3_healthiestKind_88 : decode cX3_healthiestKind 88 = .ok (.ireturn, 1) := by decide +kernel
theorem dX3_makeFast_0 : decode cX3_makeFast 0 = .ok (.iconst 0, 1) := by decide +kernel
theorem dX3_makeFast_1 : decode cX3_makeFast 1 = .ok (.istore_n 2, 1) := by decide +kernel
theorem dX3_makeFast_2 : decode cX3_makeFast 2 = .ok (.iload_n 2, 1) := by decide +kernel
theorem dX3_makeFast_3 : decode cX3_makeFast 3 = .ok (.aload_n 0, 1) := by decide +kernel
theorem dX3_makeFast_4 : decode cX3_makeFast 4 = .ok (.getfield 12, 3) := by decide +kernel
theorem dX3_makeFast_7 : decode cX3_makeFast 7 = .ok (.getfield 90, 3) := by decide +kernel
theorem dX3_makeFast_10 : decode cX3_makeFast 10 = .ok (.if_icmp .ge 35, 3) := by decide +kernel
theorem dX3_makeFast_13 : decode cX3_makeFast 13 = .ok (.aload_n 0, 1) := by decide +kernel
theorem dX3_makeFast_14 : decode cX3_makeFast 14 = .ok (.getfield 12, 3) := by decide +kernel
theorem dX3_makeFast_17 : decode cX3_makeFast 17 = .ok (.iload_n 2, 1) := by decide +kernel
theorem dX3_makeFast_18 : decode cX3_makeFast 18 = .ok (.invokevirtual 26, 3) := by decide +kernel
theorem dX3_makeFast_21 : decode cX3_makeFast 21 = .ok (.astore_n 3, 1) := by decide +kernel
theorem dX3_makeFast_22 : decode cX3_makeFast 22 = .ok (.aload_n 3, 1) := by decide +kernel
theorem dX3_makeFast_23 : decode cX3_makeFast 23 = .ok (.ifnull 16, 3) := by decide +kernel
theorem dX3_makeFast_26 : decode cX3_makeFast 26 = .ok (.iload_n 1, 1) := by decide +kernel
theorem dX3_makeFast_27 : decode cX3_makeFast 27 = .ok (.iload_n 2, 1) := by decide +kernel
