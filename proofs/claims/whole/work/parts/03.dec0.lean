theorem dX0_init_0 : decode cX0_init 0 = .ok (.aload_n 0, 1) := by decide +kernel
theorem dX0_init_1 : decode cX0_init 1 = .ok (.invokespecial 3, 3) := by decide +kernel
theorem dX0_init_4 : decode cX0_init 4 = .ok (.aload_n 0, 1) := by decide +kernel
theorem dX0_init_5 : decode cX0_init 5 = .ok (.iconst 4, 1) := by decide +kernel
theorem dX0_init_6 : decode cX0_init 6 = .ok (.bipush 75, 2) := by decide +kernel
theorem dX0_init_8 : decode cX0_init 8 = .ok (.multianewarray 9 2, 4) := by decide +kernel
theorem dX0_init_12 : decode cX0_init 12 = .ok (.putfield 11, 3) := by decide +kernel
theorem dX0_init_15 : decode cX0_init 15 = .ok (.aload_n 0, 1) := by decide +kernel
theorem dX0_init_16 : decode cX0_init 16 = .ok (.iconst 4, 1) := by decide +kernel
theorem dX0_init_17 : decode cX0_init 17 = .ok (.newarray .int, 2) := by decide +kernel
theorem dX0_init_19 : decode cX0_init 19 = .ok (.putfield 16, 3) := by decide +kernel
theorem dX0_init_22 : decode cX0_init 22 = .ok (.aload_n 0, 1) := by decide +kernel
theorem dX0_init_23 : decode cX0_init 23 = .ok (.iconst (-1), 1) := by decide +kernel
theorem dX0_init_24 : decode cX0_init 24 = .ok (.putfield 20, 3) := by decide +kernel
theorem dX0_init_27 : decode cX0_init 27 = .ok (.aload_n 0, 1) := by decide +kernel
theorem dX0_init_28 : decode cX0_init 28 = .ok (.iconst 0, 1) := by decide +kernel
theorem dX0_init_29 : decode cX0_init 29 = .ok (.putfield 24, 3) := by decide +kernel
theorem dX0_init_32 : decode cX0_init 32 = .ok (.aload_n 0, 1) := by decide +kernel
theorem dX0_init_33 : decode cX0_init 33 = .ok (.iconst (-1), 1) := by decide +kernel
theorem dX0_init_34 : decode cX0_init 34 = .ok (.putfield 28, 3) := by decide +kernel
theorem dX0_init_37 : decode cX0_init 37 = .ok (.aload_n 0, 1) := by decide +kernel
theorem dX0_init_38 : decode cX0_init 38 = .ok (.iconst 0, 1) := by decide +kernel
theorem dX0_init_39 : decode cX0_init 39 = .ok (.putfield 31, 3) := by decide +kernel
theorem dX0_init_42 : decode cX0_init 42 = .ok (.aload_n 0, 1) := by decide +kernel
theorem dX0_init_43 : decode cX0_init 43 = .ok (.iconst 0, 1) := by decide +kernel
theorem dX0_init_44 : decode cX0_init 44 = .ok (.putfield 34, 3) := by decide +kernel
theorem dX0_init_47 : decode cX0_init 47 = .ok (.aload_n 0, 1) := by decide +kernel
theorem dX0_init_48 : decode cX0_init 48 = .ok (.iconst 0, 1) := by decide +kernel
theorem dX0_init_49 : decode cX0_init 49 = .ok (.putfield 37, 3) := by decide +kernel
theorem dX0_init_52 : decode cX0_init 52 = .ok (.aload_n 0, 1) := by decide +kernel
theorem dX0_init_53 : decode cX0_init 53 = .ok (.iconst 0, 1) := by decide +kernel
theorem dX0_init_54 : decode cX0_init 54 = .ok (.putfield 40, 3) := by decide +kernel
theorem dX0_init_57 : decode cX0_init 57 = .ok (.return_, 1) := by decide +kernel
theorem dX0_begin_0 : decode cX0_begin 0 = .ok (.aload_n 0, 1) := by decide +kernel
theorem dX0_begin_1 : decode cX0_begin 1 = .ok (.iload_n 1, 1) := by decide +kernel
theorem dX0_begin_2 : decode cX0_begin 2 = .ok (.putfield 20, 3) := by decide +kernel
theorem dX0_begin_5 : decode cX0_begin 5 = .ok (.aload_n 0, 1) := by decide +kernel
theorem dX0_begin_6 : decode cX0_begin 6 = .ok (.iconst 1, 1) := by decide +kernel
theorem dX0_begin_7 : decode cX0_begin 7 = .ok (.putfield 24, 3) := by decide +kernel
theorem dX0_begin_10 : decode cX0_begin 10 = .ok (.aload_n 0, 1) := by decide +kernel
theorem dX0_begin_11 : decode cX0_begin 11 = .ok (.iconst (-1), 1) := by decide +kernel
theorem dX0_begin_12 : decode cX0_begin 12 = .ok (.putfield 28, 3) := by decide +kernel
theorem dX0_begin_15 : decode cX0_begin 15 = .ok (.aload_n 0, 1) := by decide +kernel
theorem dX0_begin_16 : decode cX0_begin 16 = .ok (.iload_n 2, 1) := by decide +kernel
theorem dX0_begin_17 : decode cX0_begin 17 = .ok (.putfield 31, 3) := by decide +kernel
theorem dX0_begin_20 : decode cX0_begin 20 = .ok (.aload_n 0, 1) := by decide +kernel
theorem dX0_begin_21 : decode cX0_begin 21 = .ok (.iconst 0, 1) := by decide +kernel
theorem dX0_begin_22 : decode cX0_begin 22 = .ok (.putfield 37, 3) := by decide +kernel
theorem dX0_begin_25 : decode cX0_begin 25 = .ok (.return_, 1) := by decide +kernel
theorem dX0_partCount_0 : decode cX0_partCount 0 = .ok (.iconst 0, 1) := by decide +kernel
theorem dX0_partCount_1 : decode cX0_partCount 1 = .ok (.istore_n 1, 1) := by decide +kernel
theorem dX0_partCount_2 : decode cX0_partCount 2 = .ok (.iconst 0, 1) := by decide +kernel
theorem dX0_partCount_3 : decode cX0_partCount 3 = .ok (.istore_n 2, 1) := by decide +kernel
theorem dX0_partCount_4 : decode cX0_partCount 4 = .ok (.iload_n 2, 1) := by decide +kernel
theorem dX0_partCount_5 : decode cX0_partCount 5 = .ok (.aload_n 0, 1) := by decide +kernel
theorem dX0_partCount_6 : decode cX0_partCount 6 = .ok (.getfield 31, 3) := by decide +kernel
theorem dX0_partCount_9 : decode cX0_partCount 9 = .ok (.if_icmp .ge 18, 3) := by decide +kernel
theorem dX0_partCount_12 : decode cX0_partCount 12 = .ok (.iload_n 1, 1) := by decide +kernel
theorem dX0_partCount_13 : decode cX0_partCount 13 = .ok (.aload_n 0, 1) := by decide +kernel
theorem dX0_partCount_14 : decode cX0_partCount 14 = .ok (.getfield 16, 3) := by decide +kernel
theorem dX0_partCount_17 : decode cX0_partCount 17 = .ok (.iload_n 2, 1) := by decide +kernel
theorem dX0_partCount_18 : decode cX0_partCount 18 = .ok (.iaload, 1) := by decide +kernel
theorem dX0_partCount_19 : decode cX0_partCount 19 = .ok (.iadd, 1) := by decide +kernel
theorem dX0_partCount_20 : decode cX0_partCount 20 = .ok (.istore_n 1, 1) := by decide +kernel
theorem dX0_partCount_21 : decode cX0_partCount 21 = .ok (.iinc 2 1, 3) := by decide +kernel
theorem dX0_partCount_24 : decode cX0_partCount 24 = .ok (.goto (-20), 3) := by decide +kernel
theorem dX0_partCount_27 : decode cX0_partCount 27 = .ok (.iload_n 1, 1) := by decide +kernel
theorem dX0_partCount_28 : decode cX0_partCount 28 = .ok (.ireturn, 1) := by decide +kernel
theorem dX0_growUpon_0 : decode cX0_growUpon 0 = .ok (.aload_n 0, 1) := by decide +kernel
theorem dX0_growUpon_1 : decode cX0_growUpon 1 = .ok (.aload_n 0, 1) := by decide +kernel
theorem dX0_growUpon_2 : decode cX0_growUpon 2 = .ok (.invokevirtual 43, 3) := by decide +kernel
theorem dX0_growUpon_5 : decode cX0_growUpon 5 = .ok (.putfield 34, 3) := by decide +kernel
theorem dX0_growUpon_8 : decode cX0_growUpon 8 = .ok (.aload_n 1, 1) := by decide +kernel
theorem dX0_growUpon_9 : decode cX0_growUpon 9 = .ok (.ifnonnull 4, 3) := by decide +kernel
theorem dX0_growUpon_12 : decode cX0_growUpon 12 = .ok (.return_, 1) := by decide +kernel
theorem dX0_growUpon_13 : decode cX0_growUpon 13 = .ok (.aload_n 0, 1) := by decide +kernel
theorem dX0_growUpon_14 : decode cX0_growUpon 14 = .ok (.aload_n 1, 1) := by decide +kernel
theorem dX0_growUpon_15 : decode cX0_growUpon 15 = .ok (.getfield 20, 3) := by decide +kernel
theorem dX0_growUpon_18 : decode cX0_growUpon 18 = .ok (.putfield 28, 3) := by decide +kernel
theorem dX0_growUpon_21 : decode cX0_growUpon 21 = .ok (.iconst 0, 1) := by decide +kernel
theorem dX0_growUpon_22 : decode cX0_growUpon 22 = .ok (.istore_n 2, 1) := by decide +kernel
theorem dX0_growUpon_23 : decode cX0_growUpon 23 = .ok (.iload_n 2, 1) := by decide +kernel
theorem dX0_growUpon_24 : decode cX0_growUpon 24 = .ok (.aload_n 0, 1) := by decide +kernel
theorem dX0_growUpon_25 : decode cX0_growUpon 25 = .ok (.getfield 31, 3) := by decide +kernel
theorem dX0_growUpon_28 : decode cX0_growUpon 28 = .ok (.if_icmp .ge 32, 3) := by decide +kernel
theorem dX0_growUpon_31 : decode cX0_growUpon 31 = .ok (.iload_n 2, 1) := by decide +kernel
theorem dX0_growUpon_32 : decode cX0_growUpon 32 = .ok (.aload_n 1, 1) := by decide +kernel
theorem dX0_growUpon_33 : decode cX0_growUpon 33 = .ok (.getfield 31, 3) := by decide +kernel
theorem dX0_growUpon_36 : decode cX0_growUpon 36 = .ok (.if_icmp .ge 24, 3) := by decide +kernel
theorem dX0_growUpon_39 : decode cX0_growUpon 39 = .ok (.aload_n 0, 1) := by decide +kernel
theorem dX0_growUpon_40 : decode cX0_growUpon 40 = .ok (.dup, 1) := by decide +kernel
theorem dX0_growUpon_41 : decode cX0_growUpon 41 = .ok (.getfield 34, 3) := by decide +kernel
theorem dX0_growUpon_44 : decode cX0_growUpon 44 = .ok (.aload_n 0, 1) := by decide +kernel
theorem dX0_growUpon_45 : decode cX0_growUpon 45 = .ok (.aload_n 1, 1) := by decide +kernel
theorem dX0_growUpon_46 : decode cX0_growUpon 46 = .ok (.iload_n 2, 1) := by decide +kernel
theorem dX0_growUpon_47 : decode cX0_growUpon 47 = .ok (.invokevirtual 47, 3) := by decide +kernel
theorem dX0_growUpon_50 : decode cX0_growUpon 50 = .ok (.isub, 1) := by decide +kernel
theorem dX0_growUpon_51 : decode cX0_growUpon 51 = .ok (.putfield 34, 3) := by decide +kernel
theorem dX0_growUpon_54 : decode cX0_growUpon 54 = .ok (.iinc 2 1, 3) := by decide +kernel
theorem dX0_growUpon_57 : decode cX0_growUpon 57 = .ok (.goto (-34), 3) := by decide +kernel
theorem dX0_growUpon_60 : decode cX0_growUpon 60 = .ok (.return_, 1) := by decide +kernel
theorem dX0_sharedParts_0 : decode cX0_sharedParts 0 = .ok (.aload_n 0, 1) := by decide +kernel
theorem dX0_sharedParts_1 : decode cX0_sharedParts 1 = .ok (.getfield 16, 3) := by decide +kernel
theorem dX0_sharedParts_4 : decode cX0_sharedParts 4 = .ok (.iload_n 2, 1) := by decide +kernel
theorem dX0_sharedParts_5 : decode cX0_sharedParts 5 = .ok (.iaload, 1) := by decide +kernel
theorem dX0_sharedParts_6 : decode cX0_sharedParts 6 = .ok (.aload_n 1, 1) := by decide +kernel
theorem dX0_sharedParts_7 : decode cX0_sharedParts 7 = .ok (.getfield 16, 3) := by decide +kernel
theorem dX0_sharedParts_10 : decode cX0_sharedParts 10 = .ok (.iload_n 2, 1) := by decide +kernel
theorem dX0_sharedParts_11 : decode cX0_sharedParts 11 = .ok (.iaload, 1) := by decide +kernel
theorem dX0_sharedParts_12 : decode cX0_sharedParts 12 = .ok (.invokestatic 51, 3) := by decide +kernel
theorem dX0_sharedParts_15 : decode cX0_sharedParts 15 = .ok (.istore_n 3, 1) := by decide +kernel
theorem dX0_sharedParts_16 : decode cX0_sharedParts 16 = .ok (.iconst 0, 1) := by decide +kernel
theorem dX0_sharedParts_17 : decode cX0_sharedParts 17 = .ok (.istore 4, 2) := by decide +kernel
theorem dX0_sharedParts_19 : decode cX0_sharedParts 19 = .ok (.iload 4, 2) := by decide +kernel
theorem dX0_sharedParts_21 : decode cX0_sharedParts 21 = .ok (.iload_n 3, 1) := by decide +kernel
theorem dX0_sharedParts_22 : decode cX0_sharedParts 22 = .ok (.if_icmp .ge 30, 3) := by decide +kernel
theorem dX0_sharedParts_25 : decode cX0_sharedParts 25 = .ok (.aload_n 0, 1) := by decide +kernel
theorem dX0_sharedParts_26 : decode cX0_sharedParts 26 = .ok (.getfield 11, 3) := by decide +kernel
theorem dX0_sharedParts_29 : decode cX0_sharedParts 29 = .ok (.iload_n 2, 1) := by decide +kernel
theorem dX0_sharedParts_30 : decode cX0_sharedParts 30 = .ok (.aaload, 1) := by decide +kernel
theorem dX0_sharedParts_31 : decode cX0_sharedParts 31 = .ok (.iload 4, 2) := by decide +kernel
theorem dX0_sharedParts_33 : decode cX0_sharedParts 33 = .ok (.iaload, 1) := by decide +kernel
theorem dX0_sharedParts_34 : decode cX0_sharedParts 34 = .ok (.aload_n 1, 1) := by decide +kernel
theorem dX0_sharedParts_35 : decode cX0_sharedParts 35 = .ok (.getfield 11, 3) := by decide +kernel
theorem dX0_sharedParts_38 : decode cX0_sharedParts 38 = .ok (.iload_n 2, 1) := by decide +kernel
theorem dX0_sharedParts_39 : decode cX0_sharedParts 39 = .ok (.aaload, 1) := by decide +kernel
theorem dX0_sharedParts_40 : decode cX0_sharedParts 40 = .ok (.iload 4, 2) := by decide +kernel
theorem dX0_sharedParts_42 : decode cX0_sharedParts 42 = .ok (.iaload, 1) := by decide +kernel
theorem dX0_sharedParts_43 : decode cX0_sharedParts 43 = .ok (.if_icmp .ne 9, 3) := by decide +kernel
theorem dX0_sharedParts_46 : decode cX0_sharedParts 46 = .ok (.iinc 4 1, 3) := by decide +kernel
theorem dX0_sharedParts_49 : decode cX0_sharedParts 49 = .ok (.goto (-30), 3) := by decide +kernel
theorem dX0_sharedParts_52 : decode cX0_sharedParts 52 = .ok (.iconst 0, 1) := by decide +kernel
theorem dX0_sharedParts_53 : decode cX0_sharedParts 53 = .ok (.istore 5, 2) := by decide +kernel
theorem dX0_sharedParts_55 : decode cX0_sharedParts 55 = .ok (.iload 5, 2) := by decide +kernel
theorem dX0_sharedParts_57 : decode cX0_sharedParts 57 = .ok (.iload_n 3, 1) := by decide +kernel
theorem dX0_sharedParts_58 : decode cX0_sharedParts 58 = .ok (.iload 4, 2) := by decide +kernel
theorem dX0_sharedParts_60 : decode cX0_sharedParts 60 = .ok (.isub, 1) := by decide +kernel
theorem dX0_sharedParts_61 : decode cX0_sharedParts 61 = .ok (.if_icmp .ge 48, 3) := by decide +kernel
theorem dX0_sharedParts_64 : decode cX0_sharedParts 64 = .ok (.aload_n 0, 1) := by decide +kernel
theorem dX0_sharedParts_65 : decode cX0_sharedParts 65 = .ok (.getfield 11, 3) := by decide +kernel
theorem dX0_sharedParts_68 : decode cX0_sharedParts 68 = .ok (.iload_n 2, 1) := by decide +kernel
theorem dX0_sharedParts_69 : decode cX0_sharedParts 69 = .ok (.aaload, 1) := by decide +kernel
theorem dX0_sharedParts_70 : decode cX0_sharedParts 70 = .ok (.aload_n 0, 1) := by decide +kernel
theorem dX0_sharedParts_71 : decode cX0_sharedParts 71 = .ok (.getfield 16, 3) := by decide +kernel
theorem dX0_sharedParts_74 : decode cX0_sharedParts 74 = .ok (.iload_n 2, 1) := by decide +kernel
theorem dX0_sharedParts_75 : decode cX0_sharedParts 75 = .ok (.iaload, 1) := by decide +kernel
theorem dX0_sharedParts_76 : decode cX0_sharedParts 76 = .ok (.iconst 1, 1) := by decide +kernel
theorem dX0_sharedParts_77 : decode cX0_sharedParts 77 = .ok (.isub, 1) := by decide +kernel
theorem dX0_sharedParts_78 : decode cX0_sharedParts 78 = .ok (.iload 5, 2) := by decide +kernel
theorem dX0_sharedParts_80 : decode cX0_sharedParts 80 = .ok (.isub, 1) := by decide +kernel
theorem dX0_sharedParts_81 : decode cX0_sharedParts 81 = .ok (.iaload, 1) := by decide +kernel
theorem dX0_sharedParts_82 : decode cX0_sharedParts 82 = .ok (.aload_n 1, 1) := by decide +kernel
theorem dX0_sharedParts_83 : decode cX0_sharedParts 83 = .ok (.getfield 11, 3) := by decide +kernel
theorem dX0_sharedParts_86 : decode cX0_sharedParts 86 = .ok (.iload_n 2, 1) := by decide +kernel
theorem dX0_sharedParts_87 : decode cX0_sharedParts 87 = .ok (.aaload, 1) := by decide +kernel
theorem dX0_sharedParts_88 : decode cX0_sharedParts 88 = .ok (.aload_n 1, 1) := by decide +kernel
theorem dX0_sharedParts_89 : decode cX0_sharedParts 89 = .ok (.getfield 16, 3) := by decide +kernel
theorem dX0_sharedParts_92 : decode cX0_sharedParts 92 = .ok (.iload_n 2, 1) := by decide +kernel
theorem dX0_sharedParts_93 : decode cX0_sharedParts 93 = .ok (.iaload, 1) := by decide +kernel
theorem dX0_sharedParts_94 : decode cX0_sharedParts 94 = .ok (.iconst 1, 1) := by decide +kernel
theorem dX0_sharedParts_95 : decode cX0_sharedParts 95 = .ok (.isub, 1) := by decide +kernel
theorem dX0_sharedParts_96 : decode cX0_sharedParts 96 = .ok (.iload 5, 2) := by decide +kernel
theorem dX0_sharedParts_98 : decode cX0_sharedParts 98 = .ok (.isub, 1) := by decide +kernel
theorem dX0_sharedParts_99 : decode cX0_sharedParts 99 = .ok (.iaload, 1) := by decide +kernel
theorem dX0_sharedParts_100 : decode cX0_sharedParts 100 = .ok (.if_icmp .ne 9, 3) := by decide +kernel
theorem dX0_sharedParts_103 : decode cX0_sharedParts 103 = .ok (.iinc 5 1, 3) := by decide +kernel
theorem dX0_sharedParts_106 : decode cX0_sharedParts 106 = .ok (.goto (-51), 3) := by decide +kernel
theorem dX0_sharedParts_109 : decode cX0_sharedParts 109 = .ok (.iload 4, 2) := by decide +kernel
theorem dX0_sharedParts_111 : decode cX0_sharedParts 111 = .ok (.iload 5, 2) := by decide +kernel
theorem dX0_sharedParts_113 : decode cX0_sharedParts 113 = .ok (.iadd, 1) := by decide +kernel
theorem dX0_sharedParts_114 : decode cX0_sharedParts 114 = .ok (.ireturn, 1) := by decide +kernel
theorem dX0_isAlike_0 : decode cX0_isAlike 0 = .ok (.aload_n 0, 1) := by decide +kernel
theorem dX0_isAlike_1 : decode cX0_isAlike 1 = .ok (.getfield 31, 3) := by decide +kernel
theorem dX0_isAlike_4 : decode cX0_isAlike 4 = .ok (.aload_n 1, 1) := by decide +kernel
theorem dX0_isAlike_5 : decode cX0_isAlike 5 = .ok (.getfield 31, 3) := by decide +kernel
theorem dX0_isAlike_8 : decode cX0_isAlike 8 = .ok (.if_icmp .eq 5, 3) := by decide +kernel
theorem dX0_isAlike_11 : decode cX0_isAlike 11 = .ok (.iconst 0, 1) := by decide +kernel
theorem dX0_isAlike_12 : decode cX0_isAlike 12 = .ok (.ireturn, 1) := by decide +kernel
theorem dX0_isAlike_13 : decode cX0_isAlike 13 = .ok (.iconst 0, 1) := by decide +kernel
theorem dX0_isAlike_14 : decode cX0_isAlike 14 = .ok (.istore_n 2, 1) := by decide +kernel
theorem dX0_isAlike_15 : decode cX0_isAlike 15 = .ok (.iload_n 2, 1) := by decide +kernel
theorem dX0_isAlike_16 : decode cX0_isAlike 16 = .ok (.aload_n 0, 1) := by decide +kernel
theorem dX0_isAlike_17 : decode cX0_isAlike 17 = .ok (.getfield 31, 3) := by decide +kernel
theorem dX0_isAlike_20 : decode cX0_isAlike 20 = .ok (.if_icmp .ge 20, 3) := by decide +kernel
theorem dX0_isAlike_23 : decode cX0_isAlike 23 = .ok (.aload_n 0, 1) := by decide +kernel
theorem dX0_isAlike_24 : decode cX0_isAlike 24 = .ok (.aload_n 1, 1) := by decide +kernel
theorem dX0_isAlike_25 : decode cX0_isAlike 25 = .ok (.iload_n 2, 1) := by decide +kernel
theorem dX0_isAlike_26 : decode cX0_isAlike 26 = .ok (.invokevirtual 57, 3) := by decide +kernel
theorem dX0_isAlike_29 : decode cX0_isAlike 29 = .ok (.ifCond .ne 5, 3) := by decide +kernel
theorem dX0_isAlike_32 : decode cX0_isAlike 32 = .ok (.iconst 0, 1) := by decide +kernel
theorem dX0_isAlike_33 : decode cX0_isAlike 33 = .ok (.ireturn, 1) := by decide +kernel
theorem dX0_isAlike_34 : decode cX0_isAlike 34 = .ok (.iinc 2 1, 3) := by decide +kernel
theorem dX0_isAlike_37 : decode cX0_isAlike 37 = .ok (.goto (-22), 3) := by decide +kernel
theorem dX0_isAlike_40 : decode cX0_isAlike 40 = .ok (.iconst 1, 1) := by decide +kernel
theorem dX0_isAlike_41 : decode cX0_isAlike 41 = .ok (.ireturn, 1) := by decide +kernel
theorem dX0_hasAlikeList_0 : decode cX0_hasAlikeList 0 = .ok (.aload_n 0, 1) := by decide +kernel
theorem dX0_hasAlikeList_1 : decode cX0_hasAlikeList 1 = .ok (.getfield 16, 3) := by decide +kernel
theorem dX0_hasAlikeList_4 : decode cX0_hasAlikeList 4 = .ok (.iload_n 2, 1) := by decide +kernel
theorem dX0_hasAlikeList_5 : decode cX0_hasAlikeList 5 = .ok (.iaload, 1) := by decide +kernel
theorem dX0_hasAlikeList_6 : decode cX0_hasAlikeList 6 = .ok (.aload_n 1, 1) := by decide +kernel
theorem dX0_hasAlikeList_7 : decode cX0_hasAlikeList 7 = .ok (.getfield 16, 3) := by decide +kernel
theorem dX0_hasAlikeList_10 : decode cX0_hasAlikeList 10 = .ok (.iload_n 2, 1) := by decide +kernel
theorem dX0_hasAlikeList_11 : decode cX0_hasAlikeList 11 = .ok (.iaload, 1) := by decide +kernel
theorem dX0_hasAlikeList_12 : decode cX0_hasAlikeList 12 = .ok (.if_icmp .eq 5, 3) := by decide +kernel
theorem dX0_hasAlikeList_15 : decode cX0_hasAlikeList 15 = .ok (.iconst 0, 1) := by decide +kernel
theorem dX0_hasAlikeList_16 : decode cX0_hasAlikeList 16 = .ok (.ireturn, 1) := by decide +kernel
theorem dX0_hasAlikeList_17 : decode cX0_hasAlikeList 17 = .ok (.iconst 0, 1) := by decide +kernel
theorem dX0_hasAlikeList_18 : decode cX0_hasAlikeList 18 = .ok (.istore_n 3, 1) := by decide +kernel
theorem dX0_hasAlikeList_19 : decode cX0_hasAlikeList 19 = .ok (.iload_n 3, 1) := by decide +kernel
theorem dX0_hasAlikeList_20 : decode cX0_hasAlikeList 20 = .ok (.aload_n 0, 1) := by decide +kernel
theorem dX0_hasAlikeList_21 : decode cX0_hasAlikeList 21 = .ok (.getfield 16, 3) := by decide +kernel
theorem dX0_hasAlikeList_24 : decode cX0_hasAlikeList 24 = .ok (.iload_n 2, 1) := by decide +kernel
theorem dX0_hasAlikeList_25 : decode cX0_hasAlikeList 25 = .ok (.iaload, 1) := by decide +kernel
theorem dX0_hasAlikeList_26 : decode cX0_hasAlikeList 26 = .ok (.if_icmp .ge 30, 3) := by decide +kernel
theorem dX0_hasAlikeList_29 : decode cX0_hasAlikeList 29 = .ok (.aload_n 0, 1) := by decide +kernel
theorem dX0_hasAlikeList_30 : decode cX0_hasAlikeList 30 = .ok (.getfield 11, 3) := by decide +kernel
theorem dX0_hasAlikeList_33 : decode cX0_hasAlikeList 33 = .ok (.iload_n 2, 1) := by decide +kernel
theorem dX0_hasAlikeList_34 : decode cX0_hasAlikeList 34 = .ok (.aaload, 1) := by decide +kernel
theorem dX0_hasAlikeList_35 : decode cX0_hasAlikeList 35 = .ok (.iload_n 3, 1) := by decide +kernel
theorem dX0_hasAlikeList_36 : decode cX0_hasAlikeList 36 = .ok (.iaload, 1) := by decide +kernel
theorem dX0_hasAlikeList_37 : decode cX0_hasAlikeList 37 = .ok (.aload_n 1, 1) := by decide +kernel
theorem dX0_hasAlikeList_38 : decode cX0_hasAlikeList 38 = .ok (.getfield 11, 3) := by decide +kernel
theorem dX0_hasAlikeList_41 : decode cX0_hasAlikeList 41 = .ok (.iload_n 2, 1) := by decide +kernel
theorem dX0_hasAlikeList_42 : decode cX0_hasAlikeList 42 = .ok (.aaload, 1) := by decide +kernel
theorem dX0_hasAlikeList_43 : decode cX0_hasAlikeList 43 = .ok (.iload_n 3, 1) := by decide +kernel
theorem dX0_hasAlikeList_44 : decode cX0_hasAlikeList 44 = .ok (.iaload, 1) := by decide +kernel
theorem dX0_hasAlikeList_45 : decode cX0_hasAlikeList 45 = .ok (.if_icmp .eq 5, 3) := by decide +kernel
theorem dX0_hasAlikeList_48 : decode cX0_hasAlikeList 48 = .ok (.iconst 0, 1) := by decide +kernel
theorem dX0_hasAlikeList_49 : decode cX0_hasAlikeList 49 = .ok (.ireturn, 1) := by decide +kernel
theorem dX0_hasAlikeList_50 : decode cX0_hasAlikeList 50 = .ok (.iinc 3 1, 3) := by decide +kernel
theorem dX0_hasAlikeList_53 : decode cX0_hasAlikeList 53 = .ok (.goto (-34), 3) := by decide +kernel
theorem dX0_hasAlikeList_56 : decode cX0_hasAlikeList 56 = .ok (.iconst 1, 1) := by decide +kernel
theorem dX0_hasAlikeList_57 : decode cX0_hasAlikeList 57 = .ok (.ireturn, 1) := by decide +kernel
theorem dX0_names_0 : decode cX0_names 0 = .ok (.iconst 0, 1) := by decide +kernel
theorem dX0_names_1 : decode cX0_names 1 = .ok (.istore_n 2, 1) := by decide +kernel
theorem dX0_names_2 : decode cX0_names 2 = .ok (.iload_n 2, 1) := by decide +kernel
theorem dX0_names_3 : decode cX0_names 3 = .ok (.aload_n 0, 1) := by decide +kernel
theorem dX0_names_4 : decode cX0_names 4 = .ok (.getfield 31, 3) := by decide +kernel
theorem dX0_names_7 : decode cX0_names 7 = .ok (.if_icmp .ge 41, 3) := by decide +kernel
theorem dX0_names_10 : decode cX0_names 10 = .ok (.iconst 0, 1) := by decide +kernel
theorem dX0_names_11 : decode cX0_names 11 = .ok (.istore_n 3, 1) := by decide +kernel
theorem dX0_names_12 : decode cX0_names 12 = .ok (.iload_n 3, 1) := by decide +kernel
theorem dX0_names_13 : decode cX0_names 13 = .ok (.aload_n 0, 1) := by decide +kernel
theorem dX0_names_14 : decode cX0_names 14 = .ok (.getfield 16, 3) := by decide +kernel
theorem dX0_names_17 : decode cX0_names 17 = .ok (.iload_n 2, 1) := by decide +kernel
theorem dX0_names_18 : decode cX0_names 18 = .ok (.iaload, 1) := by decide +kernel
theorem dX0_names_19 : decode cX0_names 19 = .ok (.if_icmp .ge 23, 3) := by decide +kernel
theorem dX0_names_22 : decode cX0_names 22 = .ok (.aload_n 0, 1) := by decide +kernel
theorem dX0_names_23 : decode cX0_names 23 = .ok (.getfield 11, 3) := by decide +kernel
theorem dX0_names_26 : decode cX0_names 26 = .ok (.iload_n 2, 1) := by decide +kernel
theorem dX0_names_27 : decode cX0_names 27 = .ok (.aaload, 1) := by decide +kernel
theorem dX0_names_28 : decode cX0_names 28 = .ok (.iload_n 3, 1) := by decide +kernel
theorem dX0_names_29 : decode cX0_names 29 = .ok (.iaload, 1) := by decide +kernel
theorem dX0_names_30 : decode cX0_names 30 = .ok (.iload_n 1, 1) := by decide +kernel
theorem dX0_names_31 : decode cX0_names 31 = .ok (.if_icmp .ne 5, 3) := by decide +kernel
theorem dX0_names_34 : decode cX0_names 34 = .ok (.iconst 1, 1) := by decide +kernel
theorem dX0_names_35 : decode cX0_names 35 = .ok (.ireturn, 1) := by decide +kernel
theorem dX0_names_36 : decode cX0_names 36 = .ok (.iinc 3 1, 3) := by decide +kernel
theorem dX0_names_39 : decode cX0_names 39 = .ok (.goto (-27), 3) := by decide +kernel
theorem dX0_names_42 : decode cX0_names 42 = .ok (.iinc 2 1, 3) := by decide +kernel
theorem dX0_names_45 : decode cX0_names 45 = .ok (.goto (-43), 3) := by decide +kernel
theorem dX0_names_48 : decode cX0_names 48 = .ok (.iconst 0, 1) := by decide +kernel
theorem dX0_names_49 : decode cX0_names 49 = .ok (.ireturn, 1) := by decide +kernel
theorem dX0_addNames_0 : decode cX0_addNames 0 = .ok (.iconst 0, 1) := by decide +kernel
theorem dX0_addNames_1 : decode cX0_addNames 1 = .ok (.istore_n 2, 1) := by decide +kernel
theorem dX0_addNames_2 : decode cX0_addNames 2 = .ok (.iload_n 2, 1) := by decide +kernel
theorem dX0_addNames_3 : decode cX0_addNames 3 = .ok (.aload_n 0, 1) := by decide +kernel
theorem dX0_addNames_4 : decode cX0_addNames 4 = .ok (.getfield 31, 3) := by decide +kernel
theorem dX0_addNames_7 : decode cX0_addNames 7 = .ok (.if_icmp .ge 38, 3) := by decide +kernel
theorem dX0_addNames_10 : decode cX0_addNames 10 = .ok (.iconst 0, 1) := by decide +kernel
theorem dX0_addNames_11 : decode cX0_addNames 11 = .ok (.istore_n 3, 1) := by decide +kernel
theorem dX0_addNames_12 : decode cX0_addNames 12 = .ok (.iload_n 3, 1) := by decide +kernel
theorem dX0_addNames_13 : decode cX0_addNames 13 = .ok (.aload_n 0, 1) := by decide +kernel
theorem dX0_addNames_14 : decode cX0_addNames 14 = .ok (.getfield 16, 3) := by decide +kernel
theorem dX0_addNames_17 : decode cX0_addNames 17 = .ok (.iload_n 2, 1) := by decide +kernel
theorem dX0_addNames_18 : decode cX0_addNames 18 = .ok (.iaload, 1) := by decide +kernel
theorem dX0_addNames_19 : decode cX0_addNames 19 = .ok (.if_icmp .ge 20, 3) := by decide +kernel
theorem dX0_addNames_22 : decode cX0_addNames 22 = .ok (.aload_n 1, 1) := by decide +kernel
theorem dX0_addNames_23 : decode cX0_addNames 23 = .ok (.aload_n 0, 1) := by decide +kernel
theorem dX0_addNames_24 : decode cX0_addNames 24 = .ok (.getfield 11, 3) := by decide +kernel
theorem dX0_addNames_27 : decode cX0_addNames 27 = .ok (.iload_n 2, 1) := by decide +kernel
theorem dX0_addNames_28 : decode cX0_addNames 28 = .ok (.aaload, 1) := by decide +kernel
theorem dX0_addNames_29 : decode cX0_addNames 29 = .ok (.iload_n 3, 1) := by decide +kernel
theorem dX0_addNames_30 : decode cX0_addNames 30 = .ok (.iaload, 1) := by decide +kernel
theorem dX0_addNames_31 : decode cX0_addNames 31 = .ok (.iconst 1, 1) := by decide +kernel
theorem dX0_addNames_32 : decode cX0_addNames 32 = .ok (.bastore, 1) := by decide +kernel
theorem dX0_addNames_33 : decode cX0_addNames 33 = .ok (.iinc 3 1, 3) := by decide +kernel
theorem dX0_addNames_36 : decode cX0_addNames 36 = .ok (.goto (-24), 3) := by decide +kernel
theorem dX0_addNames_39 : decode cX0_addNames 39 = .ok (.iinc 2 1, 3) := by decide +kernel
theorem dX0_addNames_42 : decode cX0_addNames 42 = .ok (.goto (-40), 3) := by decide +kernel
theorem dX0_addNames_45 : decode cX0_addNames 45 = .ok (.return_, 1) := by decide +kernel
theorem dX1_init_0 : decode cX1_init 0 = .ok (.aload_n 0, 1) := by decide +kernel
theorem dX1_init_1 : decode cX1_init 1 = .ok (.invokespecial 3, 3) := by decide +kernel
theorem dX1_init_4 : decode cX1_init 4 = .ok (.aload_n 0, 1) := by decide +kernel
theorem dX1_init_5 : decode cX1_init 5 = .ok (.bipush 120, 2) := by decide +kernel
theorem dX1_init_7 : decode cX1_init 7 = .ok (.newarray .boolean, 2) := by decide +kernel
theorem dX1_init_9 : decode cX1_init 9 = .ok (.putfield 9, 3) := by decide +kernel
theorem dX1_init_12 : decode cX1_init 12 = .ok (.aload_n 0, 1) := by decide +kernel
theorem dX1_init_13 : decode cX1_init 13 = .ok (.sipush 3840, 3) := by decide +kernel
theorem dX1_init_16 : decode cX1_init 16 = .ok (.newarray .int, 2) := by decide +kernel
theorem dX1_init_18 : decode cX1_init 18 = .ok (.putfield 15, 3) := by decide +kernel
theorem dX1_init_21 : decode cX1_init 21 = .ok (.return_, 1) := by decide +kernel
theorem dX1_put_0 : decode cX1_put 0 = .ok (.aload_n 2, 1) := by decide +kernel
theorem dX1_put_1 : decode cX1_put 1 = .ok (.iload_n 3, 1) := by decide +kernel
theorem dX1_put_2 : decode cX1_put 2 = .ok (.aload_n 0, 1) := by decide +kernel
theorem dX1_put_3 : decode cX1_put 3 = .ok (.getfield 15, 3) := by decide +kernel
theorem dX1_put_6 : decode cX1_put 6 = .ok (.iload_n 1, 1) := by decide +kernel
theorem dX1_put_7 : decode cX1_put 7 = .ok (.bipush 32, 2) := by decide +kernel
theorem dX1_put_9 : decode cX1_put 9 = .ok (.imul, 1) := by decide +kernel
theorem dX1_put_10 : decode cX1_put 10 = .ok (.iload 4, 2) := by decide +kernel
theorem dX1_put_12 : decode cX1_put 12 = .ok (.invokestatic 19, 3) := by decide +kernel
theorem dX1_put_15 : decode cX1_put 15 = .ok (.aload_n 0, 1) := by decide +kernel
theorem dX1_put_16 : decode cX1_put 16 = .ok (.getfield 9, 3) := by decide +kernel
theorem dX1_put_19 : decode cX1_put 19 = .ok (.iload_n 1, 1) := by decide +kernel
theorem dX1_put_20 : decode cX1_put 20 = .ok (.iconst 1, 1) := by decide +kernel
theorem dX1_put_21 : decode cX1_put 21 = .ok (.bastore, 1) := by decide +kernel
theorem dX1_put_22 : decode cX1_put 22 = .ok (.return_, 1) := by decide +kernel
theorem dX1_holds_0 : decode cX1_holds 0 = .ok (.aload_n 0, 1) := by decide +kernel
theorem dX1_holds_1 : decode cX1_holds 1 = .ok (.getfield 9, 3) := by decide +kernel
theorem dX1_holds_4 : decode cX1_holds 4 = .ok (.iload_n 1, 1) := by decide +kernel
theorem dX1_holds_5 : decode cX1_holds 5 = .ok (.baload, 1) := by decide +kernel
theorem dX1_holds_6 : decode cX1_holds 6 = .ok (.ifCond .ne 5, 3) := by decide +kernel
theorem dX1_holds_9 : decode cX1_holds 9 = .ok (.iconst 0, 1) := by decide +kernel
theorem dX1_holds_10 : decode cX1_holds 10 = .ok (.ireturn, 1) := by decide +kernel
theorem dX1_holds_11 : decode cX1_holds 11 = .ok (.iconst 0, 1) := by decide +kernel
theorem dX1_holds_12 : decode cX1_holds 12 = .ok (.istore 5, 2) := by decide +kernel
theorem dX1_holds_14 : decode cX1_holds 14 = .ok (.iload 5, 2) := by decide +kernel
theorem dX1_holds_16 : decode cX1_holds 16 = .ok (.iload 4, 2) := by decide +kernel
theorem dX1_holds_18 : decode cX1_holds 18 = .ok (.if_icmp .ge 32, 3) := by decide +kernel
theorem dX1_holds_21 : decode cX1_holds 21 = .ok (.aload_n 0, 1) := by decide +kernel
theorem dX1_holds_22 : decode cX1_holds 22 = .ok (.getfield 15, 3) := by decide +kernel
theorem dX1_holds_25 : decode cX1_holds 25 = .ok (.iload_n 1, 1) := by decide +kernel
theorem dX1_holds_26 : decode cX1_holds 26 = .ok (.bipush 32, 2) := by decide +kernel
theorem dX1_holds_28 : decode cX1_holds 28 = .ok (.imul, 1) := by decide +kernel
theorem dX1_holds_29 : decode cX1_holds 29 = .ok (.iload 5, 2) := by decide +kernel
theorem dX1_holds_31 : decode cX1_holds 31 = .ok (.iadd, 1) := by decide +kernel
theorem dX1_holds_32 : decode cX1_holds 32 = .ok (.iaload, 1) := by decide +kernel
theorem dX1_holds_33 : decode cX1_holds 33 = .ok (.aload_n 2, 1) := by decide +kernel
theorem dX1_holds_34 : decode cX1_holds 34 = .ok (.iload_n 3, 1) := by decide +kernel
theorem dX1_holds_35 : decode cX1_holds 35 = .ok (.iload 5, 2) := by decide +kernel
theorem dX1_holds_37 : decode cX1_holds 37 = .ok (.iadd, 1) := by decide +kernel
theorem dX1_holds_38 : decode cX1_holds 38 = .ok (.iaload, 1) := by decide +kernel
theorem dX1_holds_39 : decode cX1_holds 39 = .ok (.if_icmp .eq 5, 3) := by decide +kernel
theorem dX1_holds_42 : decode cX1_holds 42 = .ok (.iconst 0, 1) := by decide +kernel
theorem dX1_holds_43 : decode cX1_holds 43 = .ok (.ireturn, 1) := by decide +kernel
theorem dX1_holds_44 : decode cX1_holds 44 = .ok (.iinc 5 1, 3) := by decide +kernel
theorem dX1_holds_47 : decode cX1_holds 47 = .ok (.goto (-33), 3) := by decide +kernel
theorem dX1_holds_50 : decode cX1_holds 50 = .ok (.iconst 1, 1) := by decide +kernel
theorem dX1_holds_51 : decode cX1_holds 51 = .ok (.ireturn, 1) := by decide +kernel
theorem dX1_clear_0 : decode cX1_clear 0 = .ok (.iconst 0, 1) := by decide +kernel
theorem dX1_clear_1 : decode cX1_clear 1 = .ok (.istore_n 1, 1) := by decide +kernel
theorem dX1_clear_2 : decode cX1_clear 2 = .ok (.iload_n 1, 1) := by decide +kernel
theorem dX1_clear_3 : decode cX1_clear 3 = .ok (.bipush 120, 2) := by decide +kernel
theorem dX1_clear_5 : decode cX1_clear 5 = .ok (.if_icmp .ge 16, 3) := by decide +kernel
theorem dX1_clear_8 : decode cX1_clear 8 = .ok (.aload_n 0, 1) := by decide +kernel
theorem dX1_clear_9 : decode cX1_clear 9 = .ok (.getfield 9, 3) := by decide +kernel
theorem dX1_clear_12 : decode cX1_clear 12 = .ok (.iload_n 1, 1) := by decide +kernel
theorem dX1_clear_13 : decode cX1_clear 13 = .ok (.iconst 0, 1) := by decide +kernel
theorem dX1_clear_14 : decode cX1_clear 14 = .ok (.bastore, 1) := by decide +kernel
theorem dX1_clear_15 : decode cX1_clear 15 = .ok (.iinc 1 1, 3) := by decide +kernel
theorem dX1_clear_18 : decode cX1_clear 18 = .ok (.goto (-16), 3) := by decide +kernel
theorem dX1_clear_21 : decode cX1_clear 21 = .ok (.return_, 1) := by decide +kernel
theorem dX2_init_0 : decode cX2_init 0 = .ok (.aload_n 0, 1) := by decide +kernel
theorem dX2_init_1 : decode cX2_init 1 = .ok (.invokespecial 3, 3) := by decide +kernel
theorem dX2_init_4 : decode cX2_init 4 = .ok (.aload_n 0, 1) := by decide +kernel
theorem dX2_init_5 : decode cX2_init 5 = .ok (.sipush 300, 3) := by decide +kernel
theorem dX2_init_8 : decode cX2_init 8 = .ok (.newarray .int, 2) := by decide +kernel
theorem dX2_init_10 : decode cX2_init 10 = .ok (.putfield 9, 3) := by decide +kernel
theorem dX2_init_13 : decode cX2_init 13 = .ok (.aload_n 0, 1) := by decide +kernel
theorem dX2_init_14 : decode cX2_init 14 = .ok (.bipush 75, 2) := by decide +kernel
theorem dX2_init_16 : decode cX2_init 16 = .ok (.newarray .int, 2) := by decide +kernel
theorem dX2_init_18 : decode cX2_init 18 = .ok (.putfield 15, 3) := by decide +kernel
theorem dX2_init_21 : decode cX2_init 21 = .ok (.aload_n 0, 1) := by decide +kernel
theorem dX2_init_22 : decode cX2_init 22 = .ok (.iconst 0, 1) := by decide +kernel
theorem dX2_init_23 : decode cX2_init 23 = .ok (.putfield 18, 3) := by decide +kernel
theorem dX2_init_26 : decode cX2_init 26 = .ok (.return_, 1) := by decide +kernel
theorem dX2_open_0 : decode cX2_open 0 = .ok (.aload_n 0, 1) := by decide +kernel
theorem dX2_open_1 : decode cX2_open 1 = .ok (.getfield 9, 3) := by decide +kernel
theorem dX2_open_4 : decode cX2_open 4 = .ok (.iload_n 1, 1) := by decide +kernel
theorem dX2_open_5 : decode cX2_open 5 = .ok (.aload_n 0, 1) := by decide +kernel
theorem dX2_open_6 : decode cX2_open 6 = .ok (.getfield 9, 3) := by decide +kernel
theorem dX2_open_9 : decode cX2_open 9 = .ok (.iload_n 1, 1) := by decide +kernel
theorem dX2_open_10 : decode cX2_open 10 = .ok (.iload_n 2, 1) := by decide +kernel
theorem dX2_open_11 : decode cX2_open 11 = .ok (.iadd, 1) := by decide +kernel
theorem dX2_open_12 : decode cX2_open 12 = .ok (.aload_n 0, 1) := by decide +kernel
theorem dX2_open_13 : decode cX2_open 13 = .ok (.getfield 18, 3) := by decide +kernel
theorem dX2_open_16 : decode cX2_open 16 = .ok (.iload_n 1, 1) := by decide +kernel
theorem dX2_open_17 : decode cX2_open 17 = .ok (.isub, 1) := by decide +kernel
theorem dX2_open_18 : decode cX2_open 18 = .ok (.invokestatic 22, 3) := by decide +kernel
theorem dX2_open_21 : decode cX2_open 21 = .ok (.aload_n 0, 1) := by decide +kernel
theorem dX2_open_22 : decode cX2_open 22 = .ok (.dup, 1) := by decide +kernel
theorem dX2_open_23 : decode cX2_open 23 = .ok (.getfield 18, 3) := by decide +kernel
theorem dX2_open_26 : decode cX2_open 26 = .ok (.iload_n 2, 1) := by decide +kernel
theorem dX2_open_27 : decode cX2_open 27 = .ok (.iadd, 1) := by decide +kernel
theorem dX2_open_28 : decode cX2_open 28 = .ok (.putfield 18, 3) := by decide +kernel
theorem dX2_open_31 : decode cX2_open 31 = .ok (.return_, 1) := by decide +kernel
theorem dX2_close_0 : decode cX2_close 0 = .ok (.aload_n 0, 1) := by decide +kernel
theorem dX2_close_1 : decode cX2_close 1 = .ok (.getfield 9, 3) := by decide +kernel
theorem dX2_close_4 : decode cX2_close 4 = .ok (.iload_n 1, 1) := by decide +kernel
theorem dX2_close_5 : decode cX2_close 5 = .ok (.iload_n 2, 1) := by decide +kernel
theorem dX2_close_6 : decode cX2_close 6 = .ok (.iadd, 1) := by decide +kernel
theorem dX2_close_7 : decode cX2_close 7 = .ok (.aload_n 0, 1) := by decide +kernel
theorem dX2_close_8 : decode cX2_close 8 = .ok (.getfield 9, 3) := by decide +kernel
theorem dX2_close_11 : decode cX2_close 11 = .ok (.iload_n 1, 1) := by decide +kernel
theorem dX2_close_12 : decode cX2_close 12 = .ok (.aload_n 0, 1) := by decide +kernel
theorem dX2_close_13 : decode cX2_close 13 = .ok (.getfield 18, 3) := by decide +kernel
theorem dX2_close_16 : decode cX2_close 16 = .ok (.iload_n 1, 1) := by decide +kernel
theorem dX2_close_17 : decode cX2_close 17 = .ok (.isub, 1) := by decide +kernel
theorem dX2_close_18 : decode cX2_close 18 = .ok (.iload_n 2, 1) := by decide +kernel
theorem dX2_close_19 : decode cX2_close 19 = .ok (.isub, 1) := by decide +kernel
theorem dX2_close_20 : decode cX2_close 20 = .ok (.invokestatic 22, 3) := by decide +kernel
theorem dX2_close_23 : decode cX2_close 23 = .ok (.aload_n 0, 1) := by decide +kernel
theorem dX2_close_24 : decode cX2_close 24 = .ok (.dup, 1) := by decide +kernel
theorem dX2_close_25 : decode cX2_close 25 = .ok (.getfield 18, 3) := by decide +kernel
theorem dX2_close_28 : decode cX2_close 28 = .ok (.iload_n 2, 1) := by decide +kernel
theorem dX2_close_29 : decode cX2_close 29 = .ok (.isub, 1) := by decide +kernel
theorem dX2_close_30 : decode cX2_close 30 = .ok (.putfield 18, 3) := by decide +kernel
theorem dX2_close_33 : decode cX2_close 33 = .ok (.return_, 1) := by decide +kernel
theorem dX2_append_0 : decode cX2_append 0 = .ok (.aload_n 1, 1) := by decide +kernel
theorem dX2_append_1 : decode cX2_append 1 = .ok (.iload_n 2, 1) := by decide +kernel
theorem dX2_append_2 : decode cX2_append 2 = .ok (.aload_n 0, 1) := by decide +kernel
theorem dX2_append_3 : decode cX2_append 3 = .ok (.getfield 9, 3) := by decide +kernel
theorem dX2_append_6 : decode cX2_append 6 = .ok (.aload_n 0, 1) := by decide +kernel
theorem dX2_append_7 : decode cX2_append 7 = .ok (.getfield 18, 3) := by decide +kernel
theorem dX2_append_10 : decode cX2_append 10 = .ok (.iload_n 3, 1) := by decide +kernel
theorem dX2_append_11 : decode cX2_append 11 = .ok (.invokestatic 22, 3) := by decide +kernel
theorem dX2_append_14 : decode cX2_append 14 = .ok (.aload_n 0, 1) := by decide +kernel
theorem dX2_append_15 : decode cX2_append 15 = .ok (.dup, 1) := by decide +kernel
theorem dX2_append_16 : decode cX2_append 16 = .ok (.getfield 18, 3) := by decide +kernel
theorem dX2_append_19 : decode cX2_append 19 = .ok (.iload_n 3, 1) := by decide +kernel
theorem dX2_append_20 : decode cX2_append 20 = .ok (.iadd, 1) := by decide +kernel
theorem dX2_append_21 : decode cX2_append 21 = .ok (.putfield 18, 3) := by decide +kernel
theorem dX2_append_24 : decode cX2_append 24 = .ok (.return_, 1) := by decide +kernel
theorem dX2_cut_0 : decode cX2_cut 0 = .ok (.iconst 0, 1) := by decide +kernel
theorem dX2_cut_1 : decode cX2_cut 1 = .ok (.istore_n 1, 1) := by decide +kernel
theorem dX2_cut_2 : decode cX2_cut 2 = .ok (.iconst 0, 1) := by decide +kernel
theorem dX2_cut_3 : decode cX2_cut 3 = .ok (.istore_n 2, 1) := by decide +kernel
theorem dX2_cut_4 : decode cX2_cut 4 = .ok (.iconst 1, 1) := by decide +kernel
theorem dX2_cut_5 : decode cX2_cut 5 = .ok (.istore_n 3, 1) := by decide +kernel
theorem dX2_cut_6 : decode cX2_cut 6 = .ok (.iload_n 3, 1) := by decide +kernel
theorem dX2_cut_7 : decode cX2_cut 7 = .ok (.aload_n 0, 1) := by decide +kernel
theorem dX2_cut_8 : decode cX2_cut 8 = .ok (.getfield 18, 3) := by decide +kernel
theorem dX2_cut_11 : decode cX2_cut 11 = .ok (.if_icmp .gt 38, 3) := by decide +kernel
theorem dX2_cut_14 : decode cX2_cut 14 = .ok (.iload_n 3, 1) := by decide +kernel
theorem dX2_cut_15 : decode cX2_cut 15 = .ok (.aload_n 0, 1) := by decide +kernel
theorem dX2_cut_16 : decode cX2_cut 16 = .ok (.getfield 18, 3) := by decide +kernel
theorem dX2_cut_19 : decode cX2_cut 19 = .ok (.if_icmp .eq 12, 3) := by decide +kernel
theorem dX2_cut_22 : decode cX2_cut 22 = .ok (.aload_n 0, 1) := by decide +kernel
theorem dX2_cut_23 : decode cX2_cut 23 = .ok (.iload_n 2, 1) := by decide +kernel
theorem dX2_cut_24 : decode cX2_cut 24 = .ok (.iload_n 3, 1) := by decide +kernel
theorem dX2_cut_25 : decode cX2_cut 25 = .ok (.invokevirtual 28, 3) := by decide +kernel
theorem dX2_cut_28 : decode cX2_cut 28 = .ok (.ifCond .eq 15, 3) := by decide +kernel
theorem dX2_cut_31 : decode cX2_cut 31 = .ok (.aload_n 0, 1) := by decide +kernel
theorem dX2_cut_32 : decode cX2_cut 32 = .ok (.getfield 15, 3) := by decide +kernel
theorem dX2_cut_35 : decode cX2_cut 35 = .ok (.iload_n 1, 1) := by decide +kernel
theorem dX2_cut_36 : decode cX2_cut 36 = .ok (.iload_n 3, 1) := by decide +kernel
theorem dX2_cut_37 : decode cX2_cut 37 = .ok (.iastore, 1) := by decide +kernel
theorem dX2_cut_38 : decode cX2_cut 38 = .ok (.iinc 1 1, 3) := by decide +kernel
theorem dX2_cut_41 : decode cX2_cut 41 = .ok (.iload_n 3, 1) := by decide +kernel
theorem dX2_cut_42 : decode cX2_cut 42 = .ok (.istore_n 2, 1) := by decide +kernel
theorem dX2_cut_43 : decode cX2_cut 43 = .ok (.iinc 3 1, 3) := by decide +kernel
theorem dX2_cut_46 : decode cX2_cut 46 = .ok (.goto (-40), 3) := by decide +kernel
theorem dX2_cut_49 : decode cX2_cut 49 = .ok (.iload_n 1, 1) := by decide +kernel
theorem dX2_cut_50 : decode cX2_cut 50 = .ok (.ireturn, 1) := by decide +kernel
theorem dX2_endsChunk_0 : decode cX2_endsChunk 0 = .ok (.iload_n 2, 1) := by decide +kernel
theorem dX2_endsChunk_1 : decode cX2_endsChunk 1 = .ok (.iload_n 1, 1) := by decide +kernel
theorem dX2_endsChunk_2 : decode cX2_endsChunk 2 = .ok (.isub, 1) := by decide +kernel
theorem dX2_endsChunk_3 : decode cX2_endsChunk 3 = .ok (.bipush 32, 2) := by decide +kernel
theorem dX2_endsChunk_5 : decode cX2_endsChunk 5 = .ok (.if_icmp .lt 5, 3) := by decide +kernel
theorem dX2_endsChunk_8 : decode cX2_endsChunk 8 = .ok (.iconst 1, 1) := by decide +kernel
theorem dX2_endsChunk_9 : decode cX2_endsChunk 9 = .ok (.ireturn, 1) := by decide +kernel
theorem dX2_endsChunk_10 : decode cX2_endsChunk 10 = .ok (.iload_n 2, 1) := by decide +kernel
theorem dX2_endsChunk_11 : decode cX2_endsChunk 11 = .ok (.iload_n 1, 1) := by decide +kernel
theorem dX2_endsChunk_12 : decode cX2_endsChunk 12 = .ok (.isub, 1) := by decide +kernel
theorem dX2_endsChunk_13 : decode cX2_endsChunk 13 = .ok (.iconst 4, 1) := by decide +kernel
theorem dX2_endsChunk_14 : decode cX2_endsChunk 14 = .ok (.if_icmp .ge 5, 3) := by decide +kernel
theorem dX2_endsChunk_17 : decode cX2_endsChunk 17 = .ok (.iconst 0, 1) := by decide +kernel
theorem dX2_endsChunk_18 : decode cX2_endsChunk 18 = .ok (.ireturn, 1) := by decide +kernel
theorem dX2_endsChunk_19 : decode cX2_endsChunk 19 = .ok (.iconst 3, 1) := by decide +kernel
theorem dX2_endsChunk_20 : decode cX2_endsChunk 20 = .ok (.aload_n 0, 1) := by decide +kernel
theorem dX2_endsChunk_21 : decode cX2_endsChunk 21 = .ok (.getfield 9, 3) := by decide +kernel
theorem dX2_endsChunk_24 : decode cX2_endsChunk 24 = .ok (.iload_n 2, 1) := by decide +kernel
theorem dX2_endsChunk_25 : decode cX2_endsChunk 25 = .ok (.iconst 3, 1) := by decide +kernel
theorem dX2_endsChunk_26 : decode cX2_endsChunk 26 = .ok (.isub, 1) := by decide +kernel
theorem dX2_endsChunk_27 : decode cX2_endsChunk 27 = .ok (.iaload, 1) := by decide +kernel
theorem dX2_endsChunk_28 : decode cX2_endsChunk 28 = .ok (.imul, 1) := by decide +kernel
theorem dX2_endsChunk_29 : decode cX2_endsChunk 29 = .ok (.iconst 5, 1) := by decide +kernel
theorem dX2_endsChunk_30 : decode cX2_endsChunk 30 = .ok (.aload_n 0, 1) := by decide +kernel
theorem dX2_endsChunk_31 : decode cX2_endsChunk 31 = .ok (.getfield 9, 3) := by decide +kernel
theorem dX2_endsChunk_34 : decode cX2_endsChunk 34 = .ok (.iload_n 2, 1) := by decide +kernel
theorem dX2_endsChunk_35 : decode cX2_endsChunk 35 = .ok (.iconst 2, 1) := by decide +kernel
theorem dX2_endsChunk_36 : decode cX2_endsChunk 36 = .ok (.isub, 1) := by decide +kernel
theorem dX2_endsChunk_37 : decode cX2_endsChunk 37 = .ok (.iaload, 1) := by decide +kernel
theorem dX2_endsChunk_38 : decode cX2_endsChunk 38 = .ok (.imul, 1) := by decide +kernel
theorem dX2_endsChunk_39 : decode cX2_endsChunk 39 = .ok (.iadd, 1) := by decide +kernel
theorem dX2_endsChunk_40 : decode cX2_endsChunk 40 = .ok (.bipush 7, 2) := by decide +kernel
theorem dX2_endsChunk_42 : decode cX2_endsChunk 42 = .ok (.aload_n 0, 1) := by decide +kernel
theorem dX2_endsChunk_43 : decode cX2_endsChunk 43 = .ok (.getfield 9, 3) := by decide +kernel
theorem dX2_endsChunk_46 : decode cX2_endsChunk 46 = .ok (.iload_n 2, 1) := by decide +kernel
theorem dX2_endsChunk_47 : decode cX2_endsChunk 47 = .ok (.iconst 1, 1) := by decide +kernel
theorem dX2_endsChunk_48 : decode cX2_endsChunk 48 = .ok (.isub, 1) := by decide +kernel
theorem dX2_endsChunk_49 : decode cX2_endsChunk 49 = .ok (.iaload, 1) := by decide +kernel
theorem dX2_endsChunk_50 : decode cX2_endsChunk 50 = .ok (.imul, 1) := by decide +kernel
theorem dX2_endsChunk_51 : decode cX2_endsChunk 51 = .ok (.iadd, 1) := by decide +kernel
theorem dX2_endsChunk_52 : decode cX2_endsChunk 52 = .ok (.bipush 11, 2) := by decide +kernel
theorem dX2_endsChunk_54 : decode cX2_endsChunk 54 = .ok (.irem, 1) := by decide +kernel
theorem dX2_endsChunk_55 : decode cX2_endsChunk 55 = .ok (.ifCond .ne 7, 3) := by decide +kernel
theorem dX2_endsChunk_58 : decode cX2_endsChunk 58 = .ok (.iconst 1, 1) := by decide +kernel
theorem dX2_endsChunk_59 : decode cX2_endsChunk 59 = .ok (.goto 4, 3) := by decide +kernel
theorem dX2_endsChunk_62 : decode cX2_endsChunk 62 = .ok (.iconst 0, 1) := by decide +kernel
theorem dX2_endsChunk_63 : decode cX2_endsChunk 63 = .ok (.ireturn, 1) := by decide +kernel
theorem dX2_chunkStart_0 : decode cX2_chunkStart 0 = .ok (.iload_n 1, 1) := by decide +kernel
theorem dX2_chunkStart_1 : decode cX2_chunkStart 1 = .ok (.ifCond .ne 7, 3) := by decide +kernel
theorem dX2_chunkStart_4 : decode cX2_chunkStart 4 = .ok (.iconst 0, 1) := by decide +kernel
theorem dX2_chunkStart_5 : decode cX2_chunkStart 5 = .ok (.goto 11, 3) := by decide +kernel
theorem dX2_chunkStart_8 : decode cX2_chunkStart 8 = .ok (.aload_n 0, 1) := by decide +kernel
theorem dX2_chunkStart_9 : decode cX2_chunkStart 9 = .ok (.getfield 15, 3) := by decide +kernel
theorem dX2_chunkStart_12 : decode cX2_chunkStart 12 = .ok (.iload_n 1, 1) := by decide +kernel
theorem dX2_chunkStart_13 : decode cX2_chunkStart 13 = .ok (.iconst 1, 1) := by decide +kernel
theorem dX2_chunkStart_14 : decode cX2_chunkStart 14 = .ok (.isub, 1) := by decide +kernel
theorem dX2_chunkStart_15 : decode cX2_chunkStart 15 = .ok (.iaload, 1) := by decide +kernel
theorem dX2_chunkStart_16 : decode cX2_chunkStart 16 = .ok (.ireturn, 1) := by decide +kernel
theorem dX2_chunkSize_0 : decode cX2_chunkSize 0 = .ok (.aload_n 0, 1) := by decide +kernel
theorem dX2_chunkSize_1 : decode cX2_chunkSize 1 = .ok (.getfield 15, 3) := by decide +kernel
theorem dX2_chunkSize_4 : decode cX2_chunkSize 4 = .ok (.iload_n 1, 1) := by decide +kernel
theorem dX2_chunkSize_5 : decode cX2_chunkSize 5 = .ok (.iaload, 1) := by decide +kernel
theorem dX2_chunkSize_6 : decode cX2_chunkSize 6 = .ok (.aload_n 0, 1) := by decide +kernel
theorem dX2_chunkSize_7 : decode cX2_chunkSize 7 = .ok (.iload_n 1, 1) := by decide +kernel
theorem dX2_chunkSize_8 : decode cX2_chunkSize 8 = .ok (.invokevirtual 32, 3) := by decide +kernel
theorem dX2_chunkSize_11 : decode cX2_chunkSize 11 = .ok (.isub, 1) := by decide +kernel
theorem dX2_chunkSize_12 : decode cX2_chunkSize 12 = .ok (.ireturn, 1) := by decide +kernel
theorem dX3_init_0 : decode cX3_init 0 = .ok (.aload_n 0, 1) := by decide +kernel
theorem dX3_init_1 : decode cX3_init 1 = .ok (.invokespecial 3, 3) := by decide +kernel
theorem dX3_init_4 : decode cX3_init 4 = .ok (.aload_n 0, 1) := by decide +kernel
theorem dX3_init_5 : decode cX3_init 5 = .ok (.new 9, 3) := by decide +kernel
theorem dX3_init_8 : decode cX3_init 8 = .ok (.dup, 1) := by decide +kernel
theorem dX3_init_9 : decode cX3_init 9 = .ok (.invokespecial 11, 3) := by decide +kernel
theorem dX3_init_12 : decode cX3_init 12 = .ok (.putfield 12, 3) := by decide +kernel
theorem dX3_init_15 : decode cX3_init 15 = .ok (.aload_n 0, 1) := by decide +kernel
theorem dX3_init_16 : decode cX3_init 16 = .ok (.bipush 120, 2) := by decide +kernel
theorem dX3_init_18 : decode cX3_init 18 = .ok (.newarray .int, 2) := by decide +kernel
theorem dX3_init_20 : decode cX3_init 20 = .ok (.putfield 18, 3) := by decide +kernel
theorem dX3_init_23 : decode cX3_init 23 = .ok (.aload_n 0, 1) := by decide +kernel
theorem dX3_init_24 : decode cX3_init 24 = .ok (.bipush 120, 2) := by decide +kernel
theorem dX3_init_26 : decode cX3_init 26 = .ok (.newarray .int, 2) := by decide +kernel
theorem dX3_init_28 : decode cX3_init 28 = .ok (.putfield 22, 3) := by decide +kernel
theorem dX3_init_31 : decode cX3_init 31 = .ok (.aload_n 0, 1) := by decide +kernel
theorem dX3_init_32 : decode cX3_init 32 = .ok (.bipush 120, 2) := by decide +kernel
theorem dX3_init_34 : decode cX3_init 34 = .ok (.newarray .int, 2) := by decide +kernel
theorem dX3_init_36 : decode cX3_init 36 = .ok (.putfield 25, 3) := by decide +kernel
theorem dX3_init_39 : decode cX3_init 39 = .ok (.aload_n 0, 1) := by decide +kernel
theorem dX3_init_40 : decode cX3_init 40 = .ok (.iconst 0, 1) := by decide +kernel
theorem dX3_init_41 : decode cX3_init 41 = .ok (.putfield 28, 3) := by decide +kernel
theorem dX3_init_44 : decode cX3_init 44 = .ok (.aload_n 0, 1) := by decide +kernel
theorem dX3_init_45 : decode cX3_init 45 = .ok (.iconst 0, 1) := by decide +kernel
theorem dX3_init_46 : decode cX3_init 46 = .ok (.putfield 32, 3) := by decide +kernel
theorem dX3_init_49 : decode cX3_init 49 = .ok (.aload_n 0, 1) := by decide +kernel
theorem dX3_init_50 : decode cX3_init 50 = .ok (.iconst 0, 1) := by decide +kernel
theorem dX3_init_51 : decode cX3_init 51 = .ok (.putfield 35, 3) := by decide +kernel
theorem dX3_init_54 : decode cX3_init 54 = .ok (.aload_n 0, 1) := by decide +kernel
theorem dX3_init_55 : decode cX3_init 55 = .ok (.iconst 0, 1) := by decide +kernel
theorem dX3_init_56 : decode cX3_init 56 = .ok (.putfield 38, 3) := by decide +kernel
theorem dX3_init_59 : decode cX3_init 59 = .ok (.return_, 1) := by decide +kernel
theorem dX3_isThere_0 : decode cX3_isThere 0 = .ok (.iload_n 1, 1) := by decide +kernel
theorem dX3_isThere_1 : decode cX3_isThere 1 = .ok (.ifCond .lt 22, 3) := by decide +kernel
theorem dX3_isThere_4 : decode cX3_isThere 4 = .ok (.iload_n 1, 1) := by decide +kernel
theorem dX3_isThere_5 : decode cX3_isThere 5 = .ok (.bipush 120, 2) := by decide +kernel
theorem dX3_isThere_7 : decode cX3_isThere 7 = .ok (.if_icmp .ge 16, 3) := by decide +kernel
theorem dX3_isThere_10 : decode cX3_isThere 10 = .ok (.aload_n 0, 1) := by decide +kernel
theorem dX3_isThere_11 : decode cX3_isThere 11 = .ok (.getfield 18, 3) := by decide +kernel
theorem dX3_isThere_14 : decode cX3_isThere 14 = .ok (.iload_n 1, 1) := by decide +kernel
theorem dX3_isThere_15 : decode cX3_isThere 15 = .ok (.iaload, 1) := by decide +kernel
theorem dX3_isThere_16 : decode cX3_isThere 16 = .ok (.ifCond .le 7, 3) := by decide +kernel
theorem dX3_isThere_19 : decode cX3_isThere 19 = .ok (.iconst 1, 1) := by decide +kernel
theorem dX3_isThere_20 : decode cX3_isThere 20 = .ok (.goto 4, 3) := by decide +kernel
theorem dX3_isThere_23 : decode cX3_isThere 23 = .ok (.iconst 0, 1) := by decide +kernel
theorem dX3_isThere_24 : decode cX3_isThere 24 = .ok (.ireturn, 1) := by decide +kernel
theorem dX3_isSound_0 : decode cX3_isSound 0 = .ok (.aload_n 2, 1) := by decide +kernel
theorem dX3_isSound_1 : decode cX3_isSound 1 = .ok (.getfield 41, 3) := by decide +kernel
theorem dX3_isSound_4 : decode cX3_isSound 4 = .ok (.iload_n 1, 1) := by decide +kernel
theorem dX3_isSound_5 : decode cX3_isSound 5 = .ok (.baload, 1) := by decide +kernel
theorem dX3_isSound_6 : decode cX3_isSound 6 = .ok (.ifCond .eq 33, 3) := by decide +kernel
theorem dX3_isSound_9 : decode cX3_isSound 9 = .ok (.aload_n 2, 1) := by decide +kernel
theorem dX3_isSound_10 : decode cX3_isSound 10 = .ok (.getfield 45, 3) := by decide +kernel
theorem dX3_isSound_13 : decode cX3_isSound 13 = .ok (.iload_n 1, 1) := by decide +kernel
theorem dX3_isSound_14 : decode cX3_isSound 14 = .ok (.bipush 32, 2) := by decide +kernel
theorem dX3_isSound_16 : decode cX3_isSound 16 = .ok (.imul, 1) := by decide +kernel
theorem dX3_isSound_17 : decode cX3_isSound 17 = .ok (.aload_n 0, 1) := by decide +kernel
theorem dX3_isSound_18 : decode cX3_isSound 18 = .ok (.getfield 18, 3) := by decide +kernel
theorem dX3_isSound_21 : decode cX3_isSound 21 = .ok (.iload_n 1, 1) := by decide +kernel
theorem dX3_isSound_22 : decode cX3_isSound 22 = .ok (.iaload, 1) := by decide +kernel
theorem dX3_isSound_23 : decode cX3_isSound 23 = .ok (.invokestatic 48, 3) := by decide +kernel
theorem dX3_isSound_26 : decode cX3_isSound 26 = .ok (.aload_n 0, 1) := by decide +kernel
theorem dX3_isSound_27 : decode cX3_isSound 27 = .ok (.getfield 22, 3) := by decide +kernel
theorem dX3_isSound_30 : decode cX3_isSound 30 = .ok (.iload_n 1, 1) := by decide +kernel
theorem dX3_isSound_31 : decode cX3_isSound 31 = .ok (.iaload, 1) := by decide +kernel
theorem dX3_isSound_32 : decode cX3_isSound 32 = .ok (.if_icmp .ne 7, 3) := by decide +kernel
theorem dX3_isSound_35 : decode cX3_isSound 35 = .ok (.iconst 1, 1) := by decide +kernel
theorem dX3_isSound_36 : decode cX3_isSound 36 = .ok (.goto 4, 3) := by decide +kernel
theorem dX3_isSound_39 : decode cX3_isSound 39 = .ok (.iconst 0, 1) := by decide +kernel
theorem dX3_isSound_40 : decode cX3_isSound 40 = .ok (.ireturn, 1) := by decide +kernel
theorem dX3_hasByte_0 : decode cX3_hasByte 0 = .ok (.aload_n 0, 1) := by decide +kernel
theorem dX3_hasByte_1 : decode cX3_hasByte 1 = .ok (.iload_n 1, 1) := by decide +kernel
theorem dX3_hasByte_2 : decode cX3_hasByte 2 = .ok (.invokevirtual 52, 3) := by decide +kernel
theorem dX3_hasByte_5 : decode cX3_hasByte 5 = .ok (.ifCond .eq 30, 3) := by decide +kernel
theorem dX3_hasByte_8 : decode cX3_hasByte 8 = .ok (.aload_n 2, 1) := by decide +kernel
theorem dX3_hasByte_9 : decode cX3_hasByte 9 = .ok (.getfield 41, 3) := by decide +kernel
theorem dX3_hasByte_12 : decode cX3_hasByte 12 = .ok (.iload_n 1, 1) := by decide +kernel
theorem dX3_hasByte_13 : decode cX3_hasByte 13 = .ok (.baload, 1) := by decide +kernel
theorem dX3_hasByte_14 : decode cX3_hasByte 14 = .ok (.ifCond .eq 21, 3) := by decide +kernel
theorem dX3_hasByte_17 : decode cX3_hasByte 17 = .ok (.iload_n 3, 1) := by decide +kernel
theorem dX3_hasByte_18 : decode cX3_hasByte 18 = .ok (.ifCond .lt 17, 3) := by decide +kernel
theorem dX3_hasByte_21 : decode cX3_hasByte 21 = .ok (.iload_n 3, 1) := by decide +kernel
theorem dX3_hasByte_22 : decode cX3_hasByte 22 = .ok (.aload_n 0, 1) := by decide +kernel
theorem dX3_hasByte_23 : decode cX3_hasByte 23 = .ok (.getfield 18, 3) := by decide +kernel
theorem dX3_hasByte_26 : decode cX3_hasByte 26 = .ok (.iload_n 1, 1) := by decide +kernel
theorem dX3_hasByte_27 : decode cX3_hasByte 27 = .ok (.iaload, 1) := by decide +kernel
theorem dX3_hasByte_28 : decode cX3_hasByte 28 = .ok (.if_icmp .ge 7, 3) := by decide +kernel
theorem dX3_hasByte_31 : decode cX3_hasByte 31 = .ok (.iconst 1, 1) := by decide +kernel
theorem dX3_hasByte_32 : decode cX3_hasByte 32 = .ok (.goto 4, 3) := by decide +kernel
theorem dX3_hasByte_35 : decode cX3_hasByte 35 = .ok (.iconst 0, 1) := by decide +kernel
theorem dX3_hasByte_36 : decode cX3_hasByte 36 = .ok (.ireturn, 1) := by decide +kernel
theorem dX3_brokenCount_0 : decode cX3_brokenCount 0 = .ok (.iconst 0, 1) := by decide +kernel
theorem dX3_brokenCount_1 : decode cX3_brokenCount 1 = .ok (.istore_n 1, 1) := by decide +kernel
theorem dX3_brokenCount_2 : decode cX3_brokenCount 2 = .ok (.iconst 0, 1) := by decide +kernel
theorem dX3_brokenCount_3 : decode cX3_brokenCount 3 = .ok (.istore_n 2, 1) := by decide +kernel
theorem dX3_brokenCount_4 : decode cX3_brokenCount 4 = .ok (.iload_n 2, 1) := by decide +kernel
theorem dX3_brokenCount_5 : decode cX3_brokenCount 5 = .ok (.bipush 120, 2) := by decide +kernel
theorem dX3_brokenCount_7 : decode cX3_brokenCount 7 = .ok (.if_icmp .ge 32, 3) := by decide +kernel
theorem dX3_brokenCount_10 : decode cX3_brokenCount 10 = .ok (.aload_n 0, 1) := by decide +kernel
theorem dX3_brokenCount_11 : decode cX3_brokenCount 11 = .ok (.iload_n 2, 1) := by decide +kernel
theorem dX3_brokenCount_12 : decode cX3_brokenCount 12 = .ok (.invokevirtual 52, 3) := by decide +kernel
theorem dX3_brokenCount_15 : decode cX3_brokenCount 15 = .ok (.ifCond .eq 18, 3) := by decide +kernel
theorem dX3_brokenCount_18 : decode cX3_brokenCount 18 = .ok (.aload_n 0, 1) := by decide +kernel
theorem dX3_brokenCount_19 : decode cX3_brokenCount 19 = .ok (.iload_n 2, 1) := by decide +kernel
theorem dX3_brokenCount_20 : decode cX3_brokenCount 20 = .ok (.aload_n 0, 1) := by decide +kernel
theorem dX3_brokenCount_21 : decode cX3_brokenCount 21 = .ok (.getfield 12, 3) := by decide +kernel
theorem dX3_brokenCount_24 : decode cX3_brokenCount 24 = .ok (.invokevirtual 56, 3) := by decide +kernel
theorem dX3_brokenCount_27 : decode cX3_brokenCount 27 = .ok (.ifCond .ne 6, 3) := by decide +kernel
theorem dX3_brokenCount_30 : decode cX3_brokenCount 30 = .ok (.iinc 1 1, 3) := by decide +kernel
theorem dX3_brokenCount_33 : decode cX3_brokenCount 33 = .ok (.iinc 2 1, 3) := by decide +kernel
theorem dX3_brokenCount_36 : decode cX3_brokenCount 36 = .ok (.goto (-32), 3) := by decide +kernel
theorem dX3_brokenCount_39 : decode cX3_brokenCount 39 = .ok (.iload_n 1, 1) := by decide +kernel
theorem dX3_brokenCount_40 : decode cX3_brokenCount 40 = .ok (.ireturn, 1) := by decide +kernel
theorem dX3_beginMarking_0 : decode cX3_beginMarking 0 = .ok (.aload_n 0, 1) := by decide +kernel
theorem dX3_beginMarking_1 : decode cX3_beginMarking 1 = .ok (.iconst 0, 1) := by decide +kernel
theorem dX3_beginMarking_2 : decode cX3_beginMarking 2 = .ok (.putfield 28, 3) := by decide +kernel
theorem dX3_beginMarking_5 : decode cX3_beginMarking 5 = .ok (.aload_n 0, 1) := by decide +kernel
theorem dX3_beginMarking_6 : decode cX3_beginMarking 6 = .ok (.iconst 0, 1) := by decide +kernel
theorem dX3_beginMarking_7 : decode cX3_beginMarking 7 = .ok (.putfield 32, 3) := by decide +kernel
theorem dX3_beginMarking_10 : decode cX3_beginMarking 10 = .ok (.return_, 1) := by decide +kernel
theorem dX3_undoMarking_0 : decode cX3_undoMarking 0 = .ok (.iconst 0, 1) := by decide +kernel
theorem dX3_undoMarking_1 : decode cX3_undoMarking 1 = .ok (.istore_n 1, 1) := by decide +kernel
theorem dX3_undoMarking_2 : decode cX3_undoMarking 2 = .ok (.iload_n 1, 1) := by decide +kernel
theorem dX3_undoMarking_3 : decode cX3_undoMarking 3 = .ok (.aload_n 0, 1) := by decide +kernel
theorem dX3_undoMarking_4 : decode cX3_undoMarking 4 = .ok (.getfield 28, 3) := by decide +kernel
theorem dX3_undoMarking_7 : decode cX3_undoMarking 7 = .ok (.if_icmp .ge 19, 3) := by decide +kernel
theorem dX3_undoMarking_10 : decode cX3_undoMarking 10 = .ok (.aload_n 0, 1) := by decide +kernel
theorem dX3_undoMarking_11 : decode cX3_undoMarking 11 = .ok (.aload_n 0, 1) := by decide +kernel
theorem dX3_undoMarking_12 : decode cX3_undoMarking 12 = .ok (.getfield 25, 3) := by decide +kernel
theorem dX3_undoMarking_15 : decode cX3_undoMarking 15 = .ok (.iload_n 1, 1) := by decide +kernel
theorem dX3_undoMarking_16 : decode cX3_undoMarking 16 = .ok (.iaload, 1) := by decide +kernel
theorem dX3_undoMarking_17 : decode cX3_undoMarking 17 = .ok (.invokevirtual 60, 3) := by decide +kernel
theorem dX3_undoMarking_20 : decode cX3_undoMarking 20 = .ok (.iinc 1 1, 3) := by decide +kernel
theorem dX3_undoMarking_23 : decode cX3_undoMarking 23 = .ok (.goto (-21), 3) := by decide +kernel
theorem dX3_undoMarking_26 : decode cX3_undoMarking 26 = .ok (.return_, 1) := by decide +kernel
theorem dX3_partOf_0 : decode cX3_partOf 0 = .ok (.aload_n 1, 1) := by decide +kernel
theorem dX3_partOf_1 : decode cX3_partOf 1 = .ok (.iload_n 2, 1) := by decide +kernel
theorem dX3_partOf_2 : decode cX3_partOf 2 = .ok (.iload_n 3, 1) := by decide +kernel
theorem dX3_partOf_3 : decode cX3_partOf 3 = .ok (.invokestatic 48, 3) := by decide +kernel
theorem dX3_partOf_6 : decode cX3_partOf 6 = .ok (.istore 4, 2) := by decide +kernel
theorem dX3_partOf_8 : decode cX3_partOf 8 = .ok (.aload_n 0, 1) := by decide +kernel
theorem dX3_partOf_9 : decode cX3_partOf 9 = .ok (.aload_n 1, 1) := by decide +kernel
theorem dX3_partOf_10 : decode cX3_partOf 10 = .ok (.iload_n 2, 1) := by decide +kernel
theorem dX3_partOf_11 : decode cX3_partOf 11 = .ok (.iload_n 3, 1) := by decide +kernel
theorem dX3_partOf_12 : decode cX3_partOf 12 = .ok (.iload 4, 2) := by decide +kernel
theorem dX3_partOf_14 : decode cX3_partOf 14 = .ok (.invokevirtual 64, 3) := by decide +kernel
theorem dX3_partOf_17 : decode cX3_partOf 17 = .ok (.istore 5, 2) := by decide +kernel
theorem dX3_partOf_19 : decode cX3_partOf 19 = .ok (.iload 5, 2) := by decide +kernel
theorem dX3_partOf_21 : decode cX3_partOf 21 = .ok (.iconst (-1), 1) := by decide +kernel
theorem dX3_partOf_22 : decode cX3_partOf 22 = .ok (.if_icmp .ne 15, 3) := by decide +kernel
theorem dX3_partOf_25 : decode cX3_partOf 25 = .ok (.aload_n 0, 1) := by decide +kernel
theorem dX3_partOf_26 : decode cX3_partOf 26 = .ok (.aload_n 1, 1) := by decide +kernel
theorem dX3_partOf_27 : decode cX3_partOf 27 = .ok (.iload_n 2, 1) := by decide +kernel
theorem dX3_partOf_28 : decode cX3_partOf 28 = .ok (.iload_n 3, 1) := by decide +kernel
theorem dX3_partOf_29 : decode cX3_partOf 29 = .ok (.iload 4, 2) := by decide +kernel
theorem dX3_partOf_31 : decode cX3_partOf 31 = .ok (.invokevirtual 68, 3) := by decide +kernel
theorem dX3_partOf_34 : decode cX3_partOf 34 = .ok (.goto 5, 3) := by decide +kernel
theorem dX3_partOf_37 : decode cX3_partOf 37 = .ok (.iload 5, 2) := by decide +kernel
theorem dX3_partOf_39 : decode cX3_partOf 39 = .ok (.ireturn, 1) := by decide +kernel
theorem dX3_findPart_0 : decode cX3_findPart 0 = .ok (.iconst 0, 1) := by decide +kernel
theorem dX3_findPart_1 : decode cX3_findPart 1 = .ok (.istore 5, 2) := by decide +kernel
theorem dX3_findPart_3 : decode cX3_findPart 3 = .ok (.iload 5, 2) := by decide +kernel
theorem dX3_findPart_5 : decode cX3_findPart 5 = .ok (.bipush 120, 2) := by decide +kernel
theorem dX3_findPart_7 : decode cX3_findPart 7 = .ok (.if_icmp .ge 50, 3) := by decide +kernel
theorem dX3_findPart_10 : decode cX3_findPart 10 = .ok (.aload_n 0, 1) := by decide +kernel
theorem dX3_findPart_11 : decode cX3_findPart 11 = .ok (.getfield 18, 3) := by decide +kernel
theorem dX3_findPart_14 : decode cX3_findPart 14 = .ok (.iload 5, 2) := by decide +kernel
theorem dX3_findPart_16 : decode cX3_findPart 16 = .ok (.iaload, 1) := by decide +kernel
theorem dX3_findPart_17 : decode cX3_findPart 17 = .ok (.iload_n 3, 1) := by decide +kernel
theorem dX3_findPart_18 : decode cX3_findPart 18 = .ok (.if_icmp .ne 33, 3) := by decide +kernel
theorem dX3_findPart_21 : decode cX3_findPart 21 = .ok (.aload_n 0, 1) := by decide +kernel
theorem dX3_findPart_22 : decode cX3_findPart 22 = .ok (.getfield 22, 3) := by decide +kernel
theorem dX3_findPart_25 : decode cX3_findPart 25 = .ok (.iload 5, 2) := by decide +kernel
theorem dX3_findPart_27 : decode cX3_findPart 27 = .ok (.iaload, 1) := by decide +kernel
theorem dX3_findPart_28 : decode cX3_findPart 28 = .ok (.iload 4, 2) := by decide +kernel
theorem dX3_findPart_30 : decode cX3_findPart 30 = .ok (.if_icmp .ne 21, 3) := by decide +kernel
theorem dX3_findPart_33 : decode cX3_findPart 33 = .ok (.aload_n 0, 1) := by decide +kernel
theorem dX3_findPart_34 : decode cX3_findPart 34 = .ok (.getfield 12, 3) := by decide +kernel
theorem dX3_findPart_37 : decode cX3_findPart 37 = .ok (.iload 5, 2) := by decide +kernel
theorem dX3_findPart_39 : decode cX3_findPart 39 = .ok (.aload_n 1, 1) := by decide +kernel
theorem dX3_findPart_40 : decode cX3_findPart 40 = .ok (.iload_n 2, 1) := by decide +kernel
theorem dX3_findPart_41 : decode cX3_findPart 41 = .ok (.iload_n 3, 1) := by decide +kernel
theorem dX3_findPart_42 : decode cX3_findPart 42 = .ok (.invokevirtual 71, 3) := by decide +kernel
theorem dX3_findPart_45 : decode cX3_findPart 45 = .ok (.ifCond .eq 6, 3) := by decide +kernel
theorem dX3_findPart_48 : decode cX3_findPart 48 = .ok (.iload 5, 2) := by decide +kernel
theorem dX3_findPart_50 : decode cX3_findPart 50 = .ok (.ireturn, 1) := by decide +kernel
theorem dX3_findPart_51 : decode cX3_findPart 51 = .ok (.iinc 5 1, 3) := by decide +kernel
theorem dX3_findPart_54 : decode cX3_findPart 54 = .ok (.goto (-51), 3) := by decide +kernel
theorem dX3_findPart_57 : decode cX3_findPart 57 = .ok (.iconst (-1), 1) := by decide +kernel
theorem dX3_findPart_58 : decode cX3_findPart 58 = .ok (.ireturn, 1) := by decide +kernel
theorem dX3_makePart_0 : decode cX3_makePart 0 = .ok (.aload_n 0, 1) := by decide +kernel
theorem dX3_makePart_1 : decode cX3_makePart 1 = .ok (.invokevirtual 75, 3) := by decide +kernel
theorem dX3_makePart_4 : decode cX3_makePart 4 = .ok (.istore 5, 2) := by decide +kernel
theorem dX3_makePart_6 : decode cX3_makePart 6 = .ok (.iload 5, 2) := by decide +kernel
theorem dX3_makePart_8 : decode cX3_makePart 8 = .ok (.iconst (-1), 1) := by decide +kernel
theorem dX3_makePart_9 : decode cX3_makePart 9 = .ok (.if_icmp .eq 15, 3) := by decide +kernel
theorem dX3_makePart_12 : decode cX3_makePart 12 = .ok (.aload_n 0, 1) := by decide +kernel
theorem dX3_makePart_13 : decode cX3_makePart 13 = .ok (.getfield 38, 3) := by decide +kernel
theorem dX3_makePart_16 : decode cX3_makePart 16 = .ok (.iload_n 3, 1) := by decide +kernel
theorem dX3_makePart_17 : decode cX3_makePart 17 = .ok (.iadd, 1) := by decide +kernel
theorem dX3_makePart_18 : decode cX3_makePart 18 = .ok (.sipush 2400, 3) := by decide +kernel
theorem dX3_makePart_21 : decode cX3_makePart 21 = .ok (.if_icmp .le 5, 3) := by decide +kernel
theorem dX3_makePart_24 : decode cX3_makePart 24 = .ok (.iconst (-1), 1) := by decide +kernel
theorem dX3_makePart_25 : decode cX3_makePart 25 = .ok (.ireturn, 1) := by decide +kernel
theorem dX3_makePart_26 : decode cX3_makePart 26 = .ok (.aload_n 0, 1) := by decide +kernel
theorem dX3_makePart_27 : decode cX3_makePart 27 = .ok (.getfield 12, 3) := by decide +kernel
theorem dX3_makePart_30 : decode cX3_makePart 30 = .ok (.iload 5, 2) := by decide +kernel
theorem dX3_makePart_32 : decode cX3_makePart 32 = .ok (.aload_n 1, 1) := by decide +kernel
theorem dX3_makePart_33 : decode cX3_makePart 33 = .ok (.iload_n 2, 1) := by decide +kernel
theorem dX3_makePart_34 : decode cX3_makePart 34 = .ok (.iload_n 3, 1) := by decide +kernel
theorem dX3_makePart_35 : decode cX3_makePart 35 = .ok (.invokevirtual 79, 3) := by decide +kernel
theorem dX3_makePart_38 : decode cX3_makePart 38 = .ok (.aload_n 0, 1) := by decide +kernel
theorem dX3_makePart_39 : decode cX3_makePart 39 = .ok (.getfield 18, 3) := by decide +kernel
theorem dX3_makePart_42 : decode cX3_makePart 42 = .ok (.iload 5, 2) := by decide +kernel
theorem dX3_makePart_44 : decode cX3_makePart 44 = .ok (.iload_n 3, 1) := by decide +kernel
theorem dX3_makePart_45 : decode cX3_makePart 45 = .ok (.iastore, 1) := by decide +kernel
theorem dX3_makePart_46 : decode cX3_makePart 46 = .ok (.aload_n 0, 1) := by decide +kernel
theorem dX3_makePart_47 : decode cX3_makePart 47 = .ok (.getfield 22, 3) := by decide +kernel
theorem dX3_makePart_50 : decode cX3_makePart 50 = .ok (.iload 5, 2) := by decide +kernel
theorem dX3_makePart_52 : decode cX3_makePart 52 = .ok (.iload 4, 2) := by decide +kernel
theorem dX3_makePart_54 : decode cX3_makePart 54 = .ok (.iastore, 1) := by decide +kernel
theorem dX3_makePart_55 : decode cX3_makePart 55 = .ok (.aload_n 0, 1) := by decide +kernel
theorem dX3_makePart_56 : decode cX3_makePart 56 = .ok (.dup, 1) := by decide +kernel
theorem dX3_makePart_57 : decode cX3_makePart 57 = .ok (.getfield 35, 3) := by decide +kernel
theorem dX3_makePart_60 : decode cX3_makePart 60 = .ok (.iconst 1, 1) := by decide +kernel
theorem dX3_makePart_61 : decode cX3_makePart 61 = .ok (.iadd, 1) := by decide +kernel
theorem dX3_makePart_62 : decode cX3_makePart 62 = .ok (.putfield 35, 3) := by decide +kernel
theorem dX3_makePart_65 : decode cX3_makePart 65 = .ok (.aload_n 0, 1) := by decide +kernel
theorem dX3_makePart_66 : decode cX3_makePart 66 = .ok (.dup, 1) := by decide +kernel
theorem dX3_makePart_67 : decode cX3_makePart 67 = .ok (.getfield 38, 3) := by decide +kernel
theorem dX3_makePart_70 : decode cX3_makePart 70 = .ok (.iload_n 3, 1) := by decide +kernel
theorem dX3_makePart_71 : decode cX3_makePart 71 = .ok (.iadd, 1) := by decide +kernel
theorem dX3_makePart_72 : decode cX3_makePart 72 = .ok (.putfield 38, 3) := by decide +kernel
theorem dX3_makePart_75 : decode cX3_makePart 75 = .ok (.aload_n 0, 1) := by decide +kernel
theorem dX3_makePart_76 : decode cX3_makePart 76 = .ok (.getfield 25, 3) := by decide +kernel
theorem dX3_makePart_79 : decode cX3_makePart 79 = .ok (.aload_n 0, 1) := by decide +kernel
theorem dX3_makePart_80 : decode cX3_makePart 80 = .ok (.getfield 28, 3) := by decide +kernel
theorem dX3_makePart_83 : decode cX3_makePart 83 = .ok (.iload 5, 2) := by decide +kernel
theorem dX3_makePart_85 : decode cX3_makePart 85 = .ok (.iastore, 1) := by decide +kernel
theorem dX3_makePart_86 : decode cX3_makePart 86 = .ok (.aload_n 0, 1) := by decide +kernel
theorem dX3_makePart_87 : decode cX3_makePart 87 = .ok (.dup, 1) := by decide +kernel
theorem dX3_makePart_88 : decode cX3_makePart 88 = .ok (.getfield 28, 3) := by decide +kernel
theorem dX3_makePart_91 : decode cX3_makePart 91 = .ok (.iconst 1, 1) := by decide +kernel
theorem dX3_makePart_92 : decode cX3_makePart 92 = .ok (.iadd, 1) := by decide +kernel
theorem dX3_makePart_93 : decode cX3_makePart 93 = .ok (.putfield 28, 3) := by decide +kernel
theorem dX3_makePart_96 : decode cX3_makePart 96 = .ok (.aload_n 0, 1) := by decide +kernel
theorem dX3_makePart_97 : decode cX3_makePart 97 = .ok (.dup, 1) := by decide +kernel
theorem dX3_makePart_98 : decode cX3_makePart 98 = .ok (.getfield 32, 3) := by decide +kernel
theorem dX3_makePart_101 : decode cX3_makePart 101 = .ok (.iload_n 3, 1) := by decide +kernel
theorem dX3_makePart_102 : decode cX3_makePart 102 = .ok (.iadd, 1) := by decide +kernel
theorem dX3_makePart_103 : decode cX3_makePart 103 = .ok (.putfield 32, 3) := by decide +kernel
theorem dX3_makePart_106 : decode cX3_makePart 106 = .ok (.iload 5, 2) := by decide +kernel
theorem dX3_makePart_108 : decode cX3_makePart 108 = .ok (.ireturn, 1) := by decide +kernel
theorem dX3_leastUnused_0 : decode cX3_leastUnused 0 = .ok (.iconst 0, 1) := by decide +kernel
theorem dX3_leastUnused_1 : decode cX3_leastUnused 1 = .ok (.istore_n 1, 1) := by decide +kernel
theorem dX3_leastUnused_2 : decode cX3_leastUnused 2 = .ok (.iload_n 1, 1) := by decide +kernel
theorem dX3_leastUnused_3 : decode cX3_leastUnused 3 = .ok (.bipush 120, 2) := by decide +kernel
theorem dX3_leastUnused_5 : decode cX3_leastUnused 5 = .ok (.if_icmp .ge 20, 3) := by decide +kernel
theorem dX3_leastUnused_8 : decode cX3_leastUnused 8 = .ok (.aload_n 0, 1) := by decide +kernel
theorem dX3_leastUnused_9 : decode cX3_leastUnused 9 = .ok (.getfield 18, 3) := by decide +kernel
theorem dX3_leastUnused_12 : decode cX3_leastUnused 12 = .ok (.iload_n 1, 1) := by decide +kernel
theorem dX3_leastUnused_13 : decode cX3_leastUnused 13 = .ok (.iaload, 1) := by decide +kernel
theorem dX3_leastUnused_14 : decode cX3_leastUnused 14 = .ok (.ifCond .ne 5, 3) := by decide +kernel
theorem dX3_leastUnused_17 : decode cX3_leastUnused 17 = .ok (.iload_n 1, 1) := by decide +kernel
theorem dX3_leastUnused_18 : decode cX3_leastUnused 18 = .ok (.ireturn, 1) := by decide +kernel
theorem dX3_leastUnused_19 : decode cX3_leastUnused 19 = .ok (.iinc 1 1, 3) := by decide +kernel
theorem dX3_leastUnused_22 : decode cX3_leastUnused 22 = .ok (.goto (-20), 3) := by decide +kernel
theorem dX3_leastUnused_25 : decode cX3_leastUnused 25 = .ok (.iconst (-1), 1) := by decide +kernel
theorem dX3_leastUnused_26 : decode cX3_leastUnused 26 = .ok (.ireturn, 1) := by decide +kernel
theorem dX3_takeAway_0 : decode cX3_takeAway 0 = .ok (.aload_n 0, 1) := by decide +kernel
theorem dX3_takeAway_1 : decode cX3_takeAway 1 = .ok (.dup, 1) := by decide +kernel
theorem dX3_takeAway_2 : decode cX3_takeAway 2 = .ok (.getfield 35, 3) := by decide +kernel
theorem dX3_takeAway_5 : decode cX3_takeAway 5 = .ok (.iconst 1, 1) := by decide +kernel
theorem dX3_takeAway_6 : decode cX3_takeAway 6 = .ok (.isub, 1) := by decide +kernel
theorem dX3_takeAway_7 : decode cX3_takeAway 7 = .ok (.putfield 35, 3) := by decide +kernel
theorem dX3_takeAway_10 : decode cX3_takeAway 10 = .ok (.aload_n 0, 1) := by decide +kernel
theorem dX3_takeAway_11 : decode cX3_takeAway 11 = .ok (.dup, 1) := by decide +kernel
theorem dX3_takeAway_12 : decode cX3_takeAway 12 = .ok (.getfield 38, 3) := by decide +kernel
theorem dX3_takeAway_15 : decode cX3_takeAway 15 = .ok (.aload_n 0, 1) := by decide +kernel
theorem dX3_takeAway_16 : decode cX3_takeAway 16 = .ok (.getfield 18, 3) := by decide +kernel
theorem dX3_takeAway_19 : decode cX3_takeAway 19 = .ok (.iload_n 1, 1) := by decide +kernel
theorem dX3_takeAway_20 : decode cX3_takeAway 20 = .ok (.iaload, 1) := by decide +kernel
theorem dX3_takeAway_21 : decode cX3_takeAway 21 = .ok (.isub, 1) := by decide +kernel
theorem dX3_takeAway_22 : decode cX3_takeAway 22 = .ok (.putfield 38, 3) := by decide +kernel
theorem dX3_takeAway_25 : decode cX3_takeAway 25 = .ok (.aload_n 0, 1) := by decide +kernel
theorem dX3_takeAway_26 : decode cX3_takeAway 26 = .ok (.getfield 18, 3) := by decide +kernel
theorem dX3_takeAway_29 : decode cX3_takeAway 29 = .ok (.iload_n 1, 1) := by decide +kernel
theorem dX3_takeAway_30 : decode cX3_takeAway 30 = .ok (.iconst 0, 1) := by decide +kernel
theorem dX3_takeAway_31 : decode cX3_takeAway 31 = .ok (.iastore, 1) := by decide +kernel
theorem dX3_takeAway_32 : decode cX3_takeAway 32 = .ok (.aload_n 0, 1) := by decide +kernel
theorem dX3_takeAway_33 : decode cX3_takeAway 33 = .ok (.getfield 12, 3) := by decide +kernel
theorem dX3_takeAway_36 : decode cX3_takeAway 36 = .ok (.getfield 41, 3) := by decide +kernel
theorem dX3_takeAway_39 : decode cX3_takeAway 39 = .ok (.iload_n 1, 1) := by decide +kernel
theorem dX3_takeAway_40 : decode cX3_takeAway 40 = .ok (.iconst 0, 1) := by decide +kernel
theorem dX3_takeAway_41 : decode cX3_takeAway 41 = .ok (.bastore, 1) := by decide +kernel
theorem dX3_takeAway_42 : decode cX3_takeAway 42 = .ok (.return_, 1) := by decide +kernel
theorem dX4_init_0 : decode cX4_init 0 = .ok (.aload_n 0, 1) := by decide +kernel
theorem dX4_init_1 : decode cX4_init 1 = .ok (.invokespecial 3, 3) := by decide +kernel
theorem dX4_init_4 : decode cX4_init 4 = .ok (.aload_n 0, 1) := by decide +kernel
theorem dX4_init_5 : decode cX4_init 5 = .ok (.iconst 4, 1) := by decide +kernel
theorem dX4_init_6 : decode cX4_init 6 = .ok (.anewarray 9, 3) := by decide +kernel
theorem dX4_init_9 : decode cX4_init 9 = .ok (.putfield 11, 3) := by decide +kernel
theorem dX4_init_12 : decode cX4_init 12 = .ok (.aload_n 0, 1) := by decide +kernel
theorem dX4_init_13 : decode cX4_init 13 = .ok (.iconst 4, 1) := by decide +kernel
theorem dX4_init_14 : decode cX4_init 14 = .ok (.anewarray 15, 3) := by decide +kernel
theorem dX4_init_17 : decode cX4_init 17 = .ok (.putfield 17, 3) := by decide +kernel
theorem dX4_init_20 : decode cX4_init 20 = .ok (.aload_n 0, 1) := by decide +kernel
theorem dX4_init_21 : decode cX4_init 21 = .ok (.new 21, 3) := by decide +kernel
theorem dX4_init_24 : decode cX4_init 24 = .ok (.dup, 1) := by decide +kernel
theorem dX4_init_25 : decode cX4_init 25 = .ok (.invokespecial 23, 3) := by decide +kernel
theorem dX4_init_28 : decode cX4_init 28 = .ok (.putfield 24, 3) := by decide +kernel
theorem dX4_init_31 : decode cX4_init 31 = .ok (.aload_n 0, 1) := by decide +kernel
theorem dX4_init_32 : decode cX4_init 32 = .ok (.bipush 12, 2) := by decide +kernel
theorem dX4_init_34 : decode cX4_init 34 = .ok (.anewarray 28, 3) := by decide +kernel
theorem dX4_init_37 : decode cX4_init 37 = .ok (.putfield 30, 3) := by decide +kernel
theorem dX4_init_40 : decode cX4_init 40 = .ok (.aload_n 0, 1) := by decide +kernel
theorem dX4_init_41 : decode cX4_init 41 = .ok (.sipush 1200, 3) := by decide +kernel
theorem dX4_init_44 : decode cX4_init 44 = .ok (.newarray .int, 2) := by decide +kernel
theorem dX4_init_46 : decode cX4_init 46 = .ok (.putfield 34, 3) := by decide +kernel
theorem dX4_init_49 : decode cX4_init 49 = .ok (.aload_n 0, 1) := by decide +kernel
theorem dX4_init_50 : decode cX4_init 50 = .ok (.bipush 120, 2) := by decide +kernel
theorem dX4_init_52 : decode cX4_init 52 = .ok (.newarray .boolean, 2) := by decide +kernel
theorem dX4_init_54 : decode cX4_init 54 = .ok (.putfield 38, 3) := by decide +kernel
theorem dX4_init_57 : decode cX4_init 57 = .ok (.aload_n 0, 1) := by decide +kernel
theorem dX4_init_58 : decode cX4_init 58 = .ok (.iconst 2, 1) := by decide +kernel
theorem dX4_init_59 : decode cX4_init 59 = .ok (.putfield 42, 3) := by decide +kernel
theorem dX4_init_62 : decode cX4_init 62 = .ok (.aload_n 0, 1) := by decide +kernel
theorem dX4_init_63 : decode cX4_init 63 = .ok (.iconst 0, 1) := by decide +kernel
theorem dX4_init_64 : decode cX4_init 64 = .ok (.putfield 46, 3) := by decide +kernel
theorem dX4_init_67 : decode cX4_init 67 = .ok (.aload_n 0, 1) := by decide +kernel
theorem dX4_init_68 : decode cX4_init 68 = .ok (.iconst 0, 1) := by decide +kernel
theorem dX4_init_69 : decode cX4_init 69 = .ok (.putfield 49, 3) := by decide +kernel
theorem dX4_init_72 : decode cX4_init 72 = .ok (.iconst 0, 1) := by decide +kernel
theorem dX4_init_73 : decode cX4_init 73 = .ok (.istore_n 1, 1) := by decide +kernel
theorem dX4_init_74 : decode cX4_init 74 = .ok (.iload_n 1, 1) := by decide +kernel
theorem dX4_init_75 : decode cX4_init 75 = .ok (.iconst 4, 1) := by decide +kernel
theorem dX4_init_76 : decode cX4_init 76 = .ok (.if_icmp .ge 35, 3) := by decide +kernel
theorem dX4_init_79 : decode cX4_init 79 = .ok (.aload_n 0, 1) := by decide +kernel
theorem dX4_init_80 : decode cX4_init 80 = .ok (.getfield 11, 3) := by decide +kernel
theorem dX4_init_83 : decode cX4_init 83 = .ok (.iload_n 1, 1) := by decide +kernel
theorem dX4_init_84 : decode cX4_init 84 = .ok (.new 9, 3) := by decide +kernel
theorem dX4_init_87 : decode cX4_init 87 = .ok (.dup, 1) := by decide +kernel
theorem dX4_init_88 : decode cX4_init 88 = .ok (.invokespecial 52, 3) := by decide +kernel
theorem dX4_init_91 : decode cX4_init 91 = .ok (.aastore, 1) := by decide +kernel
theorem dX4_init_92 : decode cX4_init 92 = .ok (.aload_n 0, 1) := by decide +kernel
theorem dX4_init_93 : decode cX4_init 93 = .ok (.getfield 17, 3) := by decide +kernel
theorem dX4_init_96 : decode cX4_init 96 = .ok (.iload_n 1, 1) := by decide +kernel
theorem dX4_init_97 : decode cX4_init 97 = .ok (.new 15, 3) := by decide +kernel
theorem dX4_init_100 : decode cX4_init 100 = .ok (.dup, 1) := by decide +kernel
theorem dX4_init_101 : decode cX4_init 101 = .ok (.invokespecial 53, 3) := by decide +kernel
theorem dX4_init_104 : decode cX4_init 104 = .ok (.aastore, 1) := by decide +kernel
theorem dX4_init_105 : decode cX4_init 105 = .ok (.iinc 1 1, 3) := by decide +kernel
theorem dX4_init_108 : decode cX4_init 108 = .ok (.goto (-34), 3) := by decide +kernel
theorem dX4_init_111 : decode cX4_init 111 = .ok (.iconst 0, 1) := by decide +kernel
theorem dX4_init_112 : decode cX4_init 112 = .ok (.istore_n 1, 1) := by decide +kernel
theorem dX4_init_113 : decode cX4_init 113 = .ok (.iload_n 1, 1) := by decide +kernel
theorem dX4_init_114 : decode cX4_init 114 = .ok (.bipush 12, 2) := by decide +kernel
theorem dX4_init_116 : decode cX4_init 116 = .ok (.if_icmp .ge 22, 3) := by decide +kernel
theorem dX4_init_119 : decode cX4_init 119 = .ok (.aload_n 0, 1) := by decide +kernel
theorem dX4_init_120 : decode cX4_init 120 = .ok (.getfield 30, 3) := by decide +kernel
theorem dX4_init_123 : decode cX4_init 123 = .ok (.iload_n 1, 1) := by decide +kernel
theorem dX4_init_124 : decode cX4_init 124 = .ok (.new 28, 3) := by decide +kernel
theorem dX4_init_127 : decode cX4_init 127 = .ok (.dup, 1) := by decide +kernel
theorem dX4_init_128 : decode cX4_init 128 = .ok (.invokespecial 54, 3) := by decide +kernel
theorem dX4_init_131 : decode cX4_init 131 = .ok (.aastore, 1) := by decide +kernel
theorem dX4_init_132 : decode cX4_init 132 = .ok (.iinc 1 1, 3) := by decide +kernel
theorem dX4_init_135 : decode cX4_init 135 = .ok (.goto (-22), 3) := by decide +kernel
theorem dX4_init_138 : decode cX4_init 138 = .ok (.return_, 1) := by decide +kernel
theorem dX4_insert_0 : decode cX4_insert 0 = .ok (.aload_n 0, 1) := by decide +kernel
