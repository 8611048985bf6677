theorem dX4_insert_1 : decode cX4_insert 1 = .ok (.iload_n 1, 1) := by decide +kernel
theorem dX4_insert_2 : decode cX4_insert 2 = .ok (.invokevirtual 55, 3) := by decide +kernel
theorem dX4_insert_5 : decode cX4_insert 5 = .ok (.ifCond .eq 13, 3) := by decide +kernel
theorem dX4_insert_8 : decode cX4_insert 8 = .ok (.iload_n 3, 1) := by decide +kernel
theorem dX4_insert_9 : decode cX4_insert 9 = .ok (.ifCond .lt 9, 3) := by decide +kernel
theorem dX4_insert_12 : decode cX4_insert 12 = .ok (.iload_n 3, 1) := by decide +kernel
theorem dX4_insert_13 : decode cX4_insert 13 = .ok (.bipush 8, 2) := by decide +kernel
theorem dX4_insert_15 : decode cX4_insert 15 = .ok (.if_icmp .le 6, 3) := by decide +kernel
theorem dX4_insert_18 : decode cX4_insert 18 = .ok (.bipush (-2), 2) := by decide +kernel
theorem dX4_insert_20 : decode cX4_insert 20 = .ok (.ireturn, 1) := by decide +kernel
theorem dX4_insert_21 : decode cX4_insert 21 = .ok (.aload_n 0, 1) := by decide +kernel
theorem dX4_insert_22 : decode cX4_insert 22 = .ok (.getfield 11, 3) := by decide +kernel
theorem dX4_insert_25 : decode cX4_insert 25 = .ok (.iload_n 1, 1) := by decide +kernel
theorem dX4_insert_26 : decode cX4_insert 26 = .ok (.aaload, 1) := by decide +kernel
theorem dX4_insert_27 : decode cX4_insert 27 = .ok (.astore 6, 2) := by decide +kernel
theorem dX4_insert_29 : decode cX4_insert 29 = .ok (.iload_n 2, 1) := by decide +kernel
theorem dX4_insert_30 : decode cX4_insert 30 = .ok (.ifCond .lt 12, 3) := by decide +kernel
theorem dX4_insert_33 : decode cX4_insert 33 = .ok (.iload_n 2, 1) := by decide +kernel
theorem dX4_insert_34 : decode cX4_insert 34 = .ok (.aload 6, 2) := by decide +kernel
theorem dX4_insert_36 : decode cX4_insert 36 = .ok (.getfield 59, 3) := by decide +kernel
theorem dX4_insert_39 : decode cX4_insert 39 = .ok (.if_icmp .le 6, 3) := by decide +kernel
theorem dX4_insert_42 : decode cX4_insert 42 = .ok (.bipush (-2), 2) := by decide +kernel
theorem dX4_insert_44 : decode cX4_insert 44 = .ok (.ireturn, 1) := by decide +kernel
theorem dX4_insert_45 : decode cX4_insert 45 = .ok (.aload 6, 2) := by decide +kernel
theorem dX4_insert_47 : decode cX4_insert 47 = .ok (.getfield 59, 3) := by decide +kernel
theorem dX4_insert_50 : decode cX4_insert 50 = .ok (.iload_n 3, 1) := by decide +kernel
theorem dX4_insert_51 : decode cX4_insert 51 = .ok (.iadd, 1) := by decide +kernel
theorem dX4_insert_52 : decode cX4_insert 52 = .ok (.sipush 300, 3) := by decide +kernel
theorem dX4_insert_55 : decode cX4_insert 55 = .ok (.if_icmp .le 6, 3) := by decide +kernel
theorem dX4_insert_58 : decode cX4_insert 58 = .ok (.bipush (-3), 2) := by decide +kernel
theorem dX4_insert_60 : decode cX4_insert 60 = .ok (.ireturn, 1) := by decide +kernel
theorem dX4_insert_61 : decode cX4_insert 61 = .ok (.aload 6, 2) := by decide +kernel
theorem dX4_insert_63 : decode cX4_insert 63 = .ok (.iload_n 2, 1) := by decide +kernel
theorem dX4_insert_64 : decode cX4_insert 64 = .ok (.iload_n 3, 1) := by decide +kernel
theorem dX4_insert_65 : decode cX4_insert 65 = .ok (.invokevirtual 62, 3) := by decide +kernel
theorem dX4_insert_68 : decode cX4_insert 68 = .ok (.iconst 0, 1) := by decide +kernel
theorem dX4_insert_69 : decode cX4_insert 69 = .ok (.istore 7, 2) := by decide +kernel
theorem dX4_insert_71 : decode cX4_insert 71 = .ok (.iload 7, 2) := by decide +kernel
theorem dX4_insert_73 : decode cX4_insert 73 = .ok (.iload_n 3, 1) := by decide +kernel
theorem dX4_insert_74 : decode cX4_insert 74 = .ok (.if_icmp .ge 36, 3) := by decide +kernel
theorem dX4_insert_77 : decode cX4_insert 77 = .ok (.aload 6, 2) := by decide +kernel
theorem dX4_insert_79 : decode cX4_insert 79 = .ok (.getfield 66, 3) := by decide +kernel
theorem dX4_insert_82 : decode cX4_insert 82 = .ok (.iload_n 2, 1) := by decide +kernel
theorem dX4_insert_83 : decode cX4_insert 83 = .ok (.iload 7, 2) := by decide +kernel
theorem dX4_insert_85 : decode cX4_insert 85 = .ok (.iadd, 1) := by decide +kernel
theorem dX4_insert_86 : decode cX4_insert 86 = .ok (.lload 4, 2) := by decide +kernel
theorem dX4_insert_88 : decode cX4_insert 88 = .ok (.bipush 8, 2) := by decide +kernel
theorem dX4_insert_90 : decode cX4_insert 90 = .ok (.iload_n 3, 1) := by decide +kernel
theorem dX4_insert_91 : decode cX4_insert 91 = .ok (.iconst 1, 1) := by decide +kernel
theorem dX4_insert_92 : decode cX4_insert 92 = .ok (.isub, 1) := by decide +kernel
theorem dX4_insert_93 : decode cX4_insert 93 = .ok (.iload 7, 2) := by decide +kernel
theorem dX4_insert_95 : decode cX4_insert 95 = .ok (.isub, 1) := by decide +kernel
theorem dX4_insert_96 : decode cX4_insert 96 = .ok (.imul, 1) := by decide +kernel
theorem dX4_insert_97 : decode cX4_insert 97 = .ok (.lushr, 1) := by decide +kernel
theorem dX4_insert_98 : decode cX4_insert 98 = .ok (.l2i, 1) := by decide +kernel
theorem dX4_insert_99 : decode cX4_insert 99 = .ok (.sipush 255, 3) := by decide +kernel
theorem dX4_insert_102 : decode cX4_insert 102 = .ok (.iand, 1) := by decide +kernel
theorem dX4_insert_103 : decode cX4_insert 103 = .ok (.iastore, 1) := by decide +kernel
theorem dX4_insert_104 : decode cX4_insert 104 = .ok (.iinc 7 1, 3) := by decide +kernel
theorem dX4_insert_107 : decode cX4_insert 107 = .ok (.goto (-36), 3) := by decide +kernel
theorem dX4_insert_110 : decode cX4_insert 110 = .ok (.aload 6, 2) := by decide +kernel
theorem dX4_insert_112 : decode cX4_insert 112 = .ok (.getfield 59, 3) := by decide +kernel
theorem dX4_insert_115 : decode cX4_insert 115 = .ok (.ireturn, 1) := by decide +kernel
theorem dX4_remove_0 : decode cX4_remove 0 = .ok (.aload_n 0, 1) := by decide +kernel
theorem dX4_remove_1 : decode cX4_remove 1 = .ok (.iload_n 1, 1) := by decide +kernel
theorem dX4_remove_2 : decode cX4_remove 2 = .ok (.invokevirtual 55, 3) := by decide +kernel
theorem dX4_remove_5 : decode cX4_remove 5 = .ok (.ifCond .eq 11, 3) := by decide +kernel
theorem dX4_remove_8 : decode cX4_remove 8 = .ok (.iload_n 2, 1) := by decide +kernel
theorem dX4_remove_9 : decode cX4_remove 9 = .ok (.ifCond .lt 7, 3) := by decide +kernel
theorem dX4_remove_12 : decode cX4_remove 12 = .ok (.iload_n 3, 1) := by decide +kernel
theorem dX4_remove_13 : decode cX4_remove 13 = .ok (.ifCond .ge 6, 3) := by decide +kernel
theorem dX4_remove_16 : decode cX4_remove 16 = .ok (.bipush (-2), 2) := by decide +kernel
theorem dX4_remove_18 : decode cX4_remove 18 = .ok (.ireturn, 1) := by decide +kernel
theorem dX4_remove_19 : decode cX4_remove 19 = .ok (.aload_n 0, 1) := by decide +kernel
theorem dX4_remove_20 : decode cX4_remove 20 = .ok (.getfield 11, 3) := by decide +kernel
theorem dX4_remove_23 : decode cX4_remove 23 = .ok (.iload_n 1, 1) := by decide +kernel
theorem dX4_remove_24 : decode cX4_remove 24 = .ok (.aaload, 1) := by decide +kernel
theorem dX4_remove_25 : decode cX4_remove 25 = .ok (.astore 4, 2) := by decide +kernel
theorem dX4_remove_27 : decode cX4_remove 27 = .ok (.iload_n 2, 1) := by decide +kernel
theorem dX4_remove_28 : decode cX4_remove 28 = .ok (.aload 4, 2) := by decide +kernel
theorem dX4_remove_30 : decode cX4_remove 30 = .ok (.getfield 59, 3) := by decide +kernel
theorem dX4_remove_33 : decode cX4_remove 33 = .ok (.if_icmp .gt 14, 3) := by decide +kernel
theorem dX4_remove_36 : decode cX4_remove 36 = .ok (.iload_n 3, 1) := by decide +kernel
theorem dX4_remove_37 : decode cX4_remove 37 = .ok (.aload 4, 2) := by decide +kernel
theorem dX4_remove_39 : decode cX4_remove 39 = .ok (.getfield 59, 3) := by decide +kernel
theorem dX4_remove_42 : decode cX4_remove 42 = .ok (.iload_n 2, 1) := by decide +kernel
theorem dX4_remove_43 : decode cX4_remove 43 = .ok (.isub, 1) := by decide +kernel
theorem dX4_remove_44 : decode cX4_remove 44 = .ok (.if_icmp .le 6, 3) := by decide +kernel
theorem dX4_remove_47 : decode cX4_remove 47 = .ok (.bipush (-2), 2) := by decide +kernel
theorem dX4_remove_49 : decode cX4_remove 49 = .ok (.ireturn, 1) := by decide +kernel
theorem dX4_remove_50 : decode cX4_remove 50 = .ok (.aload 4, 2) := by decide +kernel
theorem dX4_remove_52 : decode cX4_remove 52 = .ok (.iload_n 2, 1) := by decide +kernel
theorem dX4_remove_53 : decode cX4_remove 53 = .ok (.iload_n 3, 1) := by decide +kernel
theorem dX4_remove_54 : decode cX4_remove 54 = .ok (.invokevirtual 69, 3) := by decide +kernel
theorem dX4_remove_57 : decode cX4_remove 57 = .ok (.aload 4, 2) := by decide +kernel
theorem dX4_remove_59 : decode cX4_remove 59 = .ok (.getfield 59, 3) := by decide +kernel
theorem dX4_remove_62 : decode cX4_remove 62 = .ok (.ireturn, 1) := by decide +kernel
theorem dX4_extend_0 : decode cX4_extend 0 = .ok (.aload_n 0, 1) := by decide +kernel
theorem dX4_extend_1 : decode cX4_extend 1 = .ok (.iload_n 1, 1) := by decide +kernel
theorem dX4_extend_2 : decode cX4_extend 2 = .ok (.invokevirtual 55, 3) := by decide +kernel
theorem dX4_extend_5 : decode cX4_extend 5 = .ok (.ifCond .eq 14, 3) := by decide +kernel
theorem dX4_extend_8 : decode cX4_extend 8 = .ok (.iload_n 2, 1) := by decide +kernel
theorem dX4_extend_9 : decode cX4_extend 9 = .ok (.ifCond .lt 10, 3) := by decide +kernel
theorem dX4_extend_12 : decode cX4_extend 12 = .ok (.iload_n 2, 1) := by decide +kernel
theorem dX4_extend_13 : decode cX4_extend 13 = .ok (.sipush 300, 3) := by decide +kernel
theorem dX4_extend_16 : decode cX4_extend 16 = .ok (.if_icmp .le 6, 3) := by decide +kernel
theorem dX4_extend_19 : decode cX4_extend 19 = .ok (.bipush (-2), 2) := by decide +kernel
theorem dX4_extend_21 : decode cX4_extend 21 = .ok (.ireturn, 1) := by decide +kernel
theorem dX4_extend_22 : decode cX4_extend 22 = .ok (.aload_n 0, 1) := by decide +kernel
theorem dX4_extend_23 : decode cX4_extend 23 = .ok (.getfield 11, 3) := by decide +kernel
theorem dX4_extend_26 : decode cX4_extend 26 = .ok (.iload_n 1, 1) := by decide +kernel
theorem dX4_extend_27 : decode cX4_extend 27 = .ok (.aaload, 1) := by decide +kernel
theorem dX4_extend_28 : decode cX4_extend 28 = .ok (.astore 5, 2) := by decide +kernel
theorem dX4_extend_30 : decode cX4_extend 30 = .ok (.aload 5, 2) := by decide +kernel
theorem dX4_extend_32 : decode cX4_extend 32 = .ok (.getfield 59, 3) := by decide +kernel
theorem dX4_extend_35 : decode cX4_extend 35 = .ok (.iload_n 2, 1) := by decide +kernel
theorem dX4_extend_36 : decode cX4_extend 36 = .ok (.iadd, 1) := by decide +kernel
theorem dX4_extend_37 : decode cX4_extend 37 = .ok (.sipush 300, 3) := by decide +kernel
theorem dX4_extend_40 : decode cX4_extend 40 = .ok (.if_icmp .le 6, 3) := by decide +kernel
theorem dX4_extend_43 : decode cX4_extend 43 = .ok (.bipush (-3), 2) := by decide +kernel
theorem dX4_extend_45 : decode cX4_extend 45 = .ok (.ireturn, 1) := by decide +kernel
theorem dX4_extend_46 : decode cX4_extend 46 = .ok (.aload 5, 2) := by decide +kernel
theorem dX4_extend_48 : decode cX4_extend 48 = .ok (.getfield 59, 3) := by decide +kernel
theorem dX4_extend_51 : decode cX4_extend 51 = .ok (.istore 6, 2) := by decide +kernel
theorem dX4_extend_53 : decode cX4_extend 53 = .ok (.aload 5, 2) := by decide +kernel
theorem dX4_extend_55 : decode cX4_extend 55 = .ok (.iload 6, 2) := by decide +kernel
theorem dX4_extend_57 : decode cX4_extend 57 = .ok (.iload_n 2, 1) := by decide +kernel
theorem dX4_extend_58 : decode cX4_extend 58 = .ok (.invokevirtual 62, 3) := by decide +kernel
theorem dX4_extend_61 : decode cX4_extend 61 = .ok (.iconst 0, 1) := by decide +kernel
theorem dX4_extend_62 : decode cX4_extend 62 = .ok (.istore 7, 2) := by decide +kernel
theorem dX4_extend_64 : decode cX4_extend 64 = .ok (.iload 7, 2) := by decide +kernel
theorem dX4_extend_66 : decode cX4_extend 66 = .ok (.iload_n 2, 1) := by decide +kernel
theorem dX4_extend_67 : decode cX4_extend 67 = .ok (.if_icmp .ge 31, 3) := by decide +kernel
theorem dX4_extend_70 : decode cX4_extend 70 = .ok (.aload 5, 2) := by decide +kernel
theorem dX4_extend_72 : decode cX4_extend 72 = .ok (.getfield 66, 3) := by decide +kernel
theorem dX4_extend_75 : decode cX4_extend 75 = .ok (.iload 6, 2) := by decide +kernel
theorem dX4_extend_77 : decode cX4_extend 77 = .ok (.iload 7, 2) := by decide +kernel
theorem dX4_extend_79 : decode cX4_extend 79 = .ok (.iadd, 1) := by decide +kernel
theorem dX4_extend_80 : decode cX4_extend 80 = .ok (.iload_n 3, 1) := by decide +kernel
theorem dX4_extend_81 : decode cX4_extend 81 = .ok (.iload 7, 2) := by decide +kernel
theorem dX4_extend_83 : decode cX4_extend 83 = .ok (.iload 4, 2) := by decide +kernel
theorem dX4_extend_85 : decode cX4_extend 85 = .ok (.imul, 1) := by decide +kernel
theorem dX4_extend_86 : decode cX4_extend 86 = .ok (.iadd, 1) := by decide +kernel
theorem dX4_extend_87 : decode cX4_extend 87 = .ok (.sipush 255, 3) := by decide +kernel
theorem dX4_extend_90 : decode cX4_extend 90 = .ok (.iand, 1) := by decide +kernel
theorem dX4_extend_91 : decode cX4_extend 91 = .ok (.iastore, 1) := by decide +kernel
theorem dX4_extend_92 : decode cX4_extend 92 = .ok (.iinc 7 1, 3) := by decide +kernel
theorem dX4_extend_95 : decode cX4_extend 95 = .ok (.goto (-31), 3) := by decide +kernel
theorem dX4_extend_98 : decode cX4_extend 98 = .ok (.aload 5, 2) := by decide +kernel
theorem dX4_extend_100 : decode cX4_extend 100 = .ok (.getfield 59, 3) := by decide +kernel
theorem dX4_extend_103 : decode cX4_extend 103 = .ok (.ireturn, 1) := by decide +kernel
theorem dX4_state_0 : decode cX4_state 0 = .ok (.aload_n 0, 1) := by decide +kernel
theorem dX4_state_1 : decode cX4_state 1 = .ok (.iload_n 1, 1) := by decide +kernel
theorem dX4_state_2 : decode cX4_state 2 = .ok (.invokevirtual 55, 3) := by decide +kernel
theorem dX4_state_5 : decode cX4_state 5 = .ok (.ifCond .eq 20, 3) := by decide +kernel
theorem dX4_state_8 : decode cX4_state 8 = .ok (.iload_n 2, 1) := by decide +kernel
theorem dX4_state_9 : decode cX4_state 9 = .ok (.ifCond .lt 16, 3) := by decide +kernel
theorem dX4_state_12 : decode cX4_state 12 = .ok (.iload_n 2, 1) := by decide +kernel
theorem dX4_state_13 : decode cX4_state 13 = .ok (.aload_n 0, 1) := by decide +kernel
theorem dX4_state_14 : decode cX4_state 14 = .ok (.getfield 11, 3) := by decide +kernel
theorem dX4_state_17 : decode cX4_state 17 = .ok (.iload_n 1, 1) := by decide +kernel
theorem dX4_state_18 : decode cX4_state 18 = .ok (.aaload, 1) := by decide +kernel
theorem dX4_state_19 : decode cX4_state 19 = .ok (.getfield 59, 3) := by decide +kernel
theorem dX4_state_22 : decode cX4_state 22 = .ok (.if_icmp .lt 6, 3) := by decide +kernel
theorem dX4_state_25 : decode cX4_state 25 = .ok (.bipush (-2), 2) := by decide +kernel
theorem dX4_state_27 : decode cX4_state 27 = .ok (.ireturn, 1) := by decide +kernel
theorem dX4_state_28 : decode cX4_state 28 = .ok (.aload_n 0, 1) := by decide +kernel
theorem dX4_state_29 : decode cX4_state 29 = .ok (.getfield 11, 3) := by decide +kernel
theorem dX4_state_32 : decode cX4_state 32 = .ok (.iload_n 1, 1) := by decide +kernel
theorem dX4_state_33 : decode cX4_state 33 = .ok (.aaload, 1) := by decide +kernel
theorem dX4_state_34 : decode cX4_state 34 = .ok (.getfield 66, 3) := by decide +kernel
theorem dX4_state_37 : decode cX4_state 37 = .ok (.iload_n 2, 1) := by decide +kernel
theorem dX4_state_38 : decode cX4_state 38 = .ok (.iaload, 1) := by decide +kernel
theorem dX4_state_39 : decode cX4_state 39 = .ok (.ireturn, 1) := by decide +kernel
theorem dX4_chunk_0 : decode cX4_chunk 0 = .ok (.aload_n 0, 1) := by decide +kernel
theorem dX4_chunk_1 : decode cX4_chunk 1 = .ok (.iload_n 1, 1) := by decide +kernel
theorem dX4_chunk_2 : decode cX4_chunk 2 = .ok (.invokevirtual 55, 3) := by decide +kernel
theorem dX4_chunk_5 : decode cX4_chunk 5 = .ok (.ifCond .eq 8, 3) := by decide +kernel
theorem dX4_chunk_8 : decode cX4_chunk 8 = .ok (.iload_n 2, 1) := by decide +kernel
theorem dX4_chunk_9 : decode cX4_chunk 9 = .ok (.iconst (-1), 1) := by decide +kernel
theorem dX4_chunk_10 : decode cX4_chunk 10 = .ok (.if_icmp .ge 6, 3) := by decide +kernel
theorem dX4_chunk_13 : decode cX4_chunk 13 = .ok (.bipush (-2), 2) := by decide +kernel
theorem dX4_chunk_15 : decode cX4_chunk 15 = .ok (.ireturn, 1) := by decide +kernel
theorem dX4_chunk_16 : decode cX4_chunk 16 = .ok (.aload_n 0, 1) := by decide +kernel
theorem dX4_chunk_17 : decode cX4_chunk 17 = .ok (.getfield 11, 3) := by decide +kernel
theorem dX4_chunk_20 : decode cX4_chunk 20 = .ok (.iload_n 1, 1) := by decide +kernel
theorem dX4_chunk_21 : decode cX4_chunk 21 = .ok (.aaload, 1) := by decide +kernel
theorem dX4_chunk_22 : decode cX4_chunk 22 = .ok (.astore_n 3, 1) := by decide +kernel
theorem dX4_chunk_23 : decode cX4_chunk 23 = .ok (.aload_n 3, 1) := by decide +kernel
theorem dX4_chunk_24 : decode cX4_chunk 24 = .ok (.invokevirtual 72, 3) := by decide +kernel
theorem dX4_chunk_27 : decode cX4_chunk 27 = .ok (.istore 4, 2) := by decide +kernel
theorem dX4_chunk_29 : decode cX4_chunk 29 = .ok (.iload_n 2, 1) := by decide +kernel
theorem dX4_chunk_30 : decode cX4_chunk 30 = .ok (.iconst (-1), 1) := by decide +kernel
theorem dX4_chunk_31 : decode cX4_chunk 31 = .ok (.if_icmp .ne 6, 3) := by decide +kernel
theorem dX4_chunk_34 : decode cX4_chunk 34 = .ok (.iload 4, 2) := by decide +kernel
theorem dX4_chunk_36 : decode cX4_chunk 36 = .ok (.ireturn, 1) := by decide +kernel
theorem dX4_chunk_37 : decode cX4_chunk 37 = .ok (.iload_n 2, 1) := by decide +kernel
theorem dX4_chunk_38 : decode cX4_chunk 38 = .ok (.iload 4, 2) := by decide +kernel
theorem dX4_chunk_40 : decode cX4_chunk 40 = .ok (.if_icmp .ge 11, 3) := by decide +kernel
theorem dX4_chunk_43 : decode cX4_chunk 43 = .ok (.aload_n 3, 1) := by decide +kernel
theorem dX4_chunk_44 : decode cX4_chunk 44 = .ok (.iload_n 2, 1) := by decide +kernel
theorem dX4_chunk_45 : decode cX4_chunk 45 = .ok (.invokevirtual 76, 3) := by decide +kernel
theorem dX4_chunk_48 : decode cX4_chunk 48 = .ok (.goto 5, 3) := by decide +kernel
theorem dX4_chunk_51 : decode cX4_chunk 51 = .ok (.bipush (-2), 2) := by decide +kernel
theorem dX4_chunk_53 : decode cX4_chunk 53 = .ok (.ireturn, 1) := by decide +kernel
theorem dX4_rescale_0 : decode cX4_rescale 0 = .ok (.iload_n 1, 1) := by decide +kernel
theorem dX4_rescale_1 : decode cX4_rescale 1 = .ok (.iconst 1, 1) := by decide +kernel
theorem dX4_rescale_2 : decode cX4_rescale 2 = .ok (.if_icmp .lt 8, 3) := by decide +kernel
theorem dX4_rescale_5 : decode cX4_rescale 5 = .ok (.iload_n 1, 1) := by decide +kernel
theorem dX4_rescale_6 : decode cX4_rescale 6 = .ok (.iconst 4, 1) := by decide +kernel
theorem dX4_rescale_7 : decode cX4_rescale 7 = .ok (.if_icmp .le 6, 3) := by decide +kernel
theorem dX4_rescale_10 : decode cX4_rescale 10 = .ok (.bipush (-2), 2) := by decide +kernel
theorem dX4_rescale_12 : decode cX4_rescale 12 = .ok (.ireturn, 1) := by decide +kernel
theorem dX4_rescale_13 : decode cX4_rescale 13 = .ok (.aload_n 0, 1) := by decide +kernel
theorem dX4_rescale_14 : decode cX4_rescale 14 = .ok (.invokevirtual 80, 3) := by decide +kernel
theorem dX4_rescale_17 : decode cX4_rescale 17 = .ok (.istore_n 2, 1) := by decide +kernel
theorem dX4_rescale_18 : decode cX4_rescale 18 = .ok (.iconst 0, 1) := by decide +kernel
theorem dX4_rescale_19 : decode cX4_rescale 19 = .ok (.istore_n 3, 1) := by decide +kernel
theorem dX4_rescale_20 : decode cX4_rescale 20 = .ok (.iload_n 3, 1) := by decide +kernel
theorem dX4_rescale_21 : decode cX4_rescale 21 = .ok (.iload_n 1, 1) := by decide +kernel
theorem dX4_rescale_22 : decode cX4_rescale 22 = .ok (.if_icmp .ge 33, 3) := by decide +kernel
theorem dX4_rescale_25 : decode cX4_rescale 25 = .ok (.iload_n 2, 1) := by decide +kernel
theorem dX4_rescale_26 : decode cX4_rescale 26 = .ok (.iload_n 3, 1) := by decide +kernel
theorem dX4_rescale_27 : decode cX4_rescale 27 = .ok (.iconst 1, 1) := by decide +kernel
theorem dX4_rescale_28 : decode cX4_rescale 28 = .ok (.iadd, 1) := by decide +kernel
theorem dX4_rescale_29 : decode cX4_rescale 29 = .ok (.iload_n 1, 1) := by decide +kernel
theorem dX4_rescale_30 : decode cX4_rescale 30 = .ok (.invokestatic 83, 3) := by decide +kernel
theorem dX4_rescale_33 : decode cX4_rescale 33 = .ok (.iload_n 2, 1) := by decide +kernel
theorem dX4_rescale_34 : decode cX4_rescale 34 = .ok (.iload_n 3, 1) := by decide +kernel
theorem dX4_rescale_35 : decode cX4_rescale 35 = .ok (.iload_n 1, 1) := by decide +kernel
theorem dX4_rescale_36 : decode cX4_rescale 36 = .ok (.invokestatic 83, 3) := by decide +kernel
theorem dX4_rescale_39 : decode cX4_rescale 39 = .ok (.isub, 1) := by decide +kernel
theorem dX4_rescale_40 : decode cX4_rescale 40 = .ok (.sipush 300, 3) := by decide +kernel
theorem dX4_rescale_43 : decode cX4_rescale 43 = .ok (.if_icmp .le 6, 3) := by decide +kernel
theorem dX4_rescale_46 : decode cX4_rescale 46 = .ok (.bipush (-3), 2) := by decide +kernel
theorem dX4_rescale_48 : decode cX4_rescale 48 = .ok (.ireturn, 1) := by decide +kernel
theorem dX4_rescale_49 : decode cX4_rescale 49 = .ok (.iinc 3 1, 3) := by decide +kernel
theorem dX4_rescale_52 : decode cX4_rescale 52 = .ok (.goto (-32), 3) := by decide +kernel
theorem dX4_rescale_55 : decode cX4_rescale 55 = .ok (.aload_n 0, 1) := by decide +kernel
theorem dX4_rescale_56 : decode cX4_rescale 56 = .ok (.getfield 42, 3) := by decide +kernel
theorem dX4_rescale_59 : decode cX4_rescale 59 = .ok (.istore_n 3, 1) := by decide +kernel
theorem dX4_rescale_60 : decode cX4_rescale 60 = .ok (.aload_n 0, 1) := by decide +kernel
theorem dX4_rescale_61 : decode cX4_rescale 61 = .ok (.invokevirtual 87, 3) := by decide +kernel
theorem dX4_rescale_64 : decode cX4_rescale 64 = .ok (.aload_n 0, 1) := by decide +kernel
theorem dX4_rescale_65 : decode cX4_rescale 65 = .ok (.iload_n 1, 1) := by decide +kernel
theorem dX4_rescale_66 : decode cX4_rescale 66 = .ok (.invokevirtual 90, 3) := by decide +kernel
theorem dX4_rescale_69 : decode cX4_rescale 69 = .ok (.iconst 0, 1) := by decide +kernel
theorem dX4_rescale_70 : decode cX4_rescale 70 = .ok (.istore 4, 2) := by decide +kernel
theorem dX4_rescale_72 : decode cX4_rescale 72 = .ok (.iload 4, 2) := by decide +kernel
theorem dX4_rescale_74 : decode cX4_rescale 74 = .ok (.iload_n 1, 1) := by decide +kernel
theorem dX4_rescale_75 : decode cX4_rescale 75 = .ok (.if_icmp .ge 57, 3) := by decide +kernel
theorem dX4_rescale_78 : decode cX4_rescale 78 = .ok (.iload_n 2, 1) := by decide +kernel
theorem dX4_rescale_79 : decode cX4_rescale 79 = .ok (.iload 4, 2) := by decide +kernel
theorem dX4_rescale_81 : decode cX4_rescale 81 = .ok (.iload_n 1, 1) := by decide +kernel
theorem dX4_rescale_82 : decode cX4_rescale 82 = .ok (.invokestatic 83, 3) := by decide +kernel
theorem dX4_rescale_85 : decode cX4_rescale 85 = .ok (.istore 5, 2) := by decide +kernel
theorem dX4_rescale_87 : decode cX4_rescale 87 = .ok (.aload_n 0, 1) := by decide +kernel
theorem dX4_rescale_88 : decode cX4_rescale 88 = .ok (.getfield 11, 3) := by decide +kernel
theorem dX4_rescale_91 : decode cX4_rescale 91 = .ok (.iload 4, 2) := by decide +kernel
theorem dX4_rescale_93 : decode cX4_rescale 93 = .ok (.aaload, 1) := by decide +kernel
theorem dX4_rescale_94 : decode cX4_rescale 94 = .ok (.iconst 0, 1) := by decide +kernel
theorem dX4_rescale_95 : decode cX4_rescale 95 = .ok (.putfield 59, 3) := by decide +kernel
theorem dX4_rescale_98 : decode cX4_rescale 98 = .ok (.aload_n 0, 1) := by decide +kernel
theorem dX4_rescale_99 : decode cX4_rescale 99 = .ok (.getfield 11, 3) := by decide +kernel
theorem dX4_rescale_102 : decode cX4_rescale 102 = .ok (.iload 4, 2) := by decide +kernel
theorem dX4_rescale_104 : decode cX4_rescale 104 = .ok (.aaload, 1) := by decide +kernel
theorem dX4_rescale_105 : decode cX4_rescale 105 = .ok (.aload_n 0, 1) := by decide +kernel
theorem dX4_rescale_106 : decode cX4_rescale 106 = .ok (.getfield 34, 3) := by decide +kernel
theorem dX4_rescale_109 : decode cX4_rescale 109 = .ok (.iload 5, 2) := by decide +kernel
theorem dX4_rescale_111 : decode cX4_rescale 111 = .ok (.iload_n 2, 1) := by decide +kernel
theorem dX4_rescale_112 : decode cX4_rescale 112 = .ok (.iload 4, 2) := by decide +kernel
theorem dX4_rescale_114 : decode cX4_rescale 114 = .ok (.iconst 1, 1) := by decide +kernel
theorem dX4_rescale_115 : decode cX4_rescale 115 = .ok (.iadd, 1) := by decide +kernel
theorem dX4_rescale_116 : decode cX4_rescale 116 = .ok (.iload_n 1, 1) := by decide +kernel
theorem dX4_rescale_117 : decode cX4_rescale 117 = .ok (.invokestatic 83, 3) := by decide +kernel
theorem dX4_rescale_120 : decode cX4_rescale 120 = .ok (.iload 5, 2) := by decide +kernel
theorem dX4_rescale_122 : decode cX4_rescale 122 = .ok (.isub, 1) := by decide +kernel
theorem dX4_rescale_123 : decode cX4_rescale 123 = .ok (.invokevirtual 94, 3) := by decide +kernel
theorem dX4_rescale_126 : decode cX4_rescale 126 = .ok (.iinc 4 1, 3) := by decide +kernel
theorem dX4_rescale_129 : decode cX4_rescale 129 = .ok (.goto (-57), 3) := by decide +kernel
theorem dX4_rescale_132 : decode cX4_rescale 132 = .ok (.iload_n 3, 1) := by decide +kernel
theorem dX4_rescale_133 : decode cX4_rescale 133 = .ok (.ireturn, 1) := by decide +kernel
theorem dX4_mark_0 : decode cX4_mark 0 = .ok (.iload_n 1, 1) := by decide +kernel
theorem dX4_mark_1 : decode cX4_mark 1 = .ok (.ifCond .eq 11, 3) := by decide +kernel
theorem dX4_mark_4 : decode cX4_mark 4 = .ok (.iload_n 1, 1) := by decide +kernel
theorem dX4_mark_5 : decode cX4_mark 5 = .ok (.iconst 1, 1) := by decide +kernel
theorem dX4_mark_6 : decode cX4_mark 6 = .ok (.if_icmp .eq 6, 3) := by decide +kernel
theorem dX4_mark_9 : decode cX4_mark 9 = .ok (.bipush (-2), 2) := by decide +kernel
theorem dX4_mark_11 : decode cX4_mark 11 = .ok (.ireturn, 1) := by decide +kernel
theorem dX4_mark_12 : decode cX4_mark 12 = .ok (.aload_n 0, 1) := by decide +kernel
theorem dX4_mark_13 : decode cX4_mark 13 = .ok (.getfield 46, 3) := by decide +kernel
theorem dX4_mark_16 : decode cX4_mark 16 = .ok (.bipush 12, 2) := by decide +kernel
theorem dX4_mark_18 : decode cX4_mark 18 = .ok (.if_icmp .lt 6, 3) := by decide +kernel
theorem dX4_mark_21 : decode cX4_mark 21 = .ok (.bipush (-3), 2) := by decide +kernel
theorem dX4_mark_23 : decode cX4_mark 23 = .ok (.ireturn, 1) := by decide +kernel
theorem dX4_mark_24 : decode cX4_mark 24 = .ok (.aload_n 0, 1) := by decide +kernel
theorem dX4_mark_25 : decode cX4_mark 25 = .ok (.getfield 30, 3) := by decide +kernel
theorem dX4_mark_28 : decode cX4_mark 28 = .ok (.aload_n 0, 1) := by decide +kernel
theorem dX4_mark_29 : decode cX4_mark 29 = .ok (.getfield 46, 3) := by decide +kernel
theorem dX4_mark_32 : decode cX4_mark 32 = .ok (.aaload, 1) := by decide +kernel
theorem dX4_mark_33 : decode cX4_mark 33 = .ok (.astore_n 2, 1) := by decide +kernel
theorem dX4_mark_34 : decode cX4_mark 34 = .ok (.aload_n 2, 1) := by decide +kernel
theorem dX4_mark_35 : decode cX4_mark 35 = .ok (.aload_n 0, 1) := by decide +kernel
theorem dX4_mark_36 : decode cX4_mark 36 = .ok (.getfield 49, 3) := by decide +kernel
theorem dX4_mark_39 : decode cX4_mark 39 = .ok (.aload_n 0, 1) := by decide +kernel
theorem dX4_mark_40 : decode cX4_mark 40 = .ok (.getfield 42, 3) := by decide +kernel
theorem dX4_mark_43 : decode cX4_mark 43 = .ok (.invokevirtual 98, 3) := by decide +kernel
theorem dX4_mark_46 : decode cX4_mark 46 = .ok (.aload_n 0, 1) := by decide +kernel
theorem dX4_mark_47 : decode cX4_mark 47 = .ok (.aload_n 2, 1) := by decide +kernel
theorem dX4_mark_48 : decode cX4_mark 48 = .ok (.invokevirtual 101, 3) := by decide +kernel
theorem dX4_mark_51 : decode cX4_mark 51 = .ok (.ifCond .ne 6, 3) := by decide +kernel
theorem dX4_mark_54 : decode cX4_mark 54 = .ok (.bipush (-3), 2) := by decide +kernel
theorem dX4_mark_56 : decode cX4_mark 56 = .ok (.ireturn, 1) := by decide +kernel
theorem dX4_mark_57 : decode cX4_mark 57 = .ok (.aload_n 2, 1) := by decide +kernel
theorem dX4_mark_58 : decode cX4_mark 58 = .ok (.aload_n 0, 1) := by decide +kernel
theorem dX4_mark_59 : decode cX4_mark 59 = .ok (.getfield 24, 3) := by decide +kernel
theorem dX4_mark_62 : decode cX4_mark 62 = .ok (.getfield 105, 3) := by decide +kernel
theorem dX4_mark_65 : decode cX4_mark 65 = .ok (.putfield 108, 3) := by decide +kernel
theorem dX4_mark_68 : decode cX4_mark 68 = .ok (.aload_n 2, 1) := by decide +kernel
theorem dX4_mark_69 : decode cX4_mark 69 = .ok (.iload_n 1, 1) := by decide +kernel
theorem dX4_mark_70 : decode cX4_mark 70 = .ok (.iconst 1, 1) := by decide +kernel
theorem dX4_mark_71 : decode cX4_mark 71 = .ok (.if_icmp .ne 7, 3) := by decide +kernel
theorem dX4_mark_74 : decode cX4_mark 74 = .ok (.aconst_null, 1) := by decide +kernel
theorem dX4_mark_75 : decode cX4_mark 75 = .ok (.goto 7, 3) := by decide +kernel
theorem dX4_mark_78 : decode cX4_mark 78 = .ok (.aload_n 0, 1) := by decide +kernel
theorem dX4_mark_79 : decode cX4_mark 79 = .ok (.invokevirtual 111, 3) := by decide +kernel
theorem dX4_mark_82 : decode cX4_mark 82 = .ok (.invokevirtual 115, 3) := by decide +kernel
theorem dX4_mark_85 : decode cX4_mark 85 = .ok (.aload_n 0, 1) := by decide +kernel
theorem dX4_mark_86 : decode cX4_mark 86 = .ok (.aload_n 2, 1) := by decide +kernel
theorem dX4_mark_87 : decode cX4_mark 87 = .ok (.invokevirtual 119, 3) := by decide +kernel
theorem dX4_mark_90 : decode cX4_mark 90 = .ok (.aload_n 0, 1) := by decide +kernel
theorem dX4_mark_91 : decode cX4_mark 91 = .ok (.dup, 1) := by decide +kernel
theorem dX4_mark_92 : decode cX4_mark 92 = .ok (.getfield 46, 3) := by decide +kernel
theorem dX4_mark_95 : decode cX4_mark 95 = .ok (.iconst 1, 1) := by decide +kernel
theorem dX4_mark_96 : decode cX4_mark 96 = .ok (.iadd, 1) := by decide +kernel
theorem dX4_mark_97 : decode cX4_mark 97 = .ok (.putfield 46, 3) := by decide +kernel
theorem dX4_mark_100 : decode cX4_mark 100 = .ok (.aload_n 0, 1) := by decide +kernel
theorem dX4_mark_101 : decode cX4_mark 101 = .ok (.dup, 1) := by decide +kernel
theorem dX4_mark_102 : decode cX4_mark 102 = .ok (.getfield 49, 3) := by decide +kernel
theorem dX4_mark_105 : decode cX4_mark 105 = .ok (.iconst 1, 1) := by decide +kernel
theorem dX4_mark_106 : decode cX4_mark 106 = .ok (.iadd, 1) := by decide +kernel
theorem dX4_mark_107 : decode cX4_mark 107 = .ok (.putfield 49, 3) := by decide +kernel
theorem dX4_mark_110 : decode cX4_mark 110 = .ok (.aload_n 2, 1) := by decide +kernel
theorem dX4_mark_111 : decode cX4_mark 111 = .ok (.getfield 122, 3) := by decide +kernel
theorem dX4_mark_114 : decode cX4_mark 114 = .ok (.ireturn, 1) := by decide +kernel
theorem dX4_drop_0 : decode cX4_drop 0 = .ok (.aload_n 0, 1) := by decide +kernel
theorem dX4_drop_1 : decode cX4_drop 1 = .ok (.iload_n 1, 1) := by decide +kernel
theorem dX4_drop_2 : decode cX4_drop 2 = .ok (.invokevirtual 125, 3) := by decide +kernel
theorem dX4_drop_5 : decode cX4_drop 5 = .ok (.astore_n 2, 1) := by decide +kernel
theorem dX4_drop_6 : decode cX4_drop 6 = .ok (.aload_n 2, 1) := by decide +kernel
theorem dX4_drop_7 : decode cX4_drop 7 = .ok (.ifnonnull 6, 3) := by decide +kernel
theorem dX4_drop_10 : decode cX4_drop 10 = .ok (.bipush (-2), 2) := by decide +kernel
theorem dX4_drop_12 : decode cX4_drop 12 = .ok (.ireturn, 1) := by decide +kernel
theorem dX4_drop_13 : decode cX4_drop 13 = .ok (.aload_n 2, 1) := by decide +kernel
theorem dX4_drop_14 : decode cX4_drop 14 = .ok (.iconst 0, 1) := by decide +kernel
theorem dX4_drop_15 : decode cX4_drop 15 = .ok (.putfield 129, 3) := by decide +kernel
theorem dX4_drop_18 : decode cX4_drop 18 = .ok (.aload_n 0, 1) := by decide +kernel
theorem dX4_drop_19 : decode cX4_drop 19 = .ok (.invokevirtual 133, 3) := by decide +kernel
theorem dX4_drop_22 : decode cX4_drop 22 = .ok (.aload_n 0, 1) := by decide +kernel
theorem dX4_drop_23 : decode cX4_drop 23 = .ok (.invokevirtual 136, 3) := by decide +kernel
theorem dX4_drop_26 : decode cX4_drop 26 = .ok (.ireturn, 1) := by decide +kernel
theorem dX4_back_0 : decode cX4_back 0 = .ok (.iload_n 1, 1) := by decide +kernel
theorem dX4_back_1 : decode cX4_back 1 = .ok (.ifCond .lt 11, 3) := by decide +kernel
theorem dX4_back_4 : decode cX4_back 4 = .ok (.iload_n 1, 1) := by decide +kernel
theorem dX4_back_5 : decode cX4_back 5 = .ok (.aload_n 0, 1) := by decide +kernel
theorem dX4_back_6 : decode cX4_back 6 = .ok (.getfield 49, 3) := by decide +kernel
theorem dX4_back_9 : decode cX4_back 9 = .ok (.if_icmp .lt 6, 3) := by decide +kernel
theorem dX4_back_12 : decode cX4_back 12 = .ok (.bipush (-2), 2) := by decide +kernel
theorem dX4_back_14 : decode cX4_back 14 = .ok (.ireturn, 1) := by decide +kernel
theorem dX4_back_15 : decode cX4_back 15 = .ok (.aload_n 0, 1) := by decide +kernel
theorem dX4_back_16 : decode cX4_back 16 = .ok (.iload_n 1, 1) := by decide +kernel
theorem dX4_back_17 : decode cX4_back 17 = .ok (.invokevirtual 139, 3) := by decide +kernel
theorem dX4_back_20 : decode cX4_back 20 = .ok (.astore_n 2, 1) := by decide +kernel
theorem dX4_back_21 : decode cX4_back 21 = .ok (.aload_n 2, 1) := by decide +kernel
theorem dX4_back_22 : decode cX4_back 22 = .ok (.ifnonnull 5, 3) := by decide +kernel
theorem dX4_back_25 : decode cX4_back 25 = .ok (.iconst (-1), 1) := by decide +kernel
theorem dX4_back_26 : decode cX4_back 26 = .ok (.ireturn, 1) := by decide +kernel
theorem dX4_back_27 : decode cX4_back 27 = .ok (.aload_n 0, 1) := by decide +kernel
theorem dX4_back_28 : decode cX4_back 28 = .ok (.aload_n 2, 1) := by decide +kernel
theorem dX4_back_29 : decode cX4_back 29 = .ok (.getfield 142, 3) := by decide +kernel
theorem dX4_back_32 : decode cX4_back 32 = .ok (.invokevirtual 90, 3) := by decide +kernel
theorem dX4_back_35 : decode cX4_back 35 = .ok (.iconst 0, 1) := by decide +kernel
theorem dX4_back_36 : decode cX4_back 36 = .ok (.istore_n 3, 1) := by decide +kernel
theorem dX4_back_37 : decode cX4_back 37 = .ok (.iload_n 3, 1) := by decide +kernel
theorem dX4_back_38 : decode cX4_back 38 = .ok (.aload_n 2, 1) := by decide +kernel
theorem dX4_back_39 : decode cX4_back 39 = .ok (.getfield 142, 3) := by decide +kernel
theorem dX4_back_42 : decode cX4_back 42 = .ok (.if_icmp .ge 15, 3) := by decide +kernel
theorem dX4_back_45 : decode cX4_back 45 = .ok (.aload_n 0, 1) := by decide +kernel
theorem dX4_back_46 : decode cX4_back 46 = .ok (.aload_n 2, 1) := by decide +kernel
theorem dX4_back_47 : decode cX4_back 47 = .ok (.iload_n 3, 1) := by decide +kernel
theorem dX4_back_48 : decode cX4_back 48 = .ok (.invokevirtual 145, 3) := by decide +kernel
theorem dX4_back_51 : decode cX4_back 51 = .ok (.iinc 3 1, 3) := by decide +kernel
theorem dX4_back_54 : decode cX4_back 54 = .ok (.goto (-17), 3) := by decide +kernel
theorem dX4_back_57 : decode cX4_back 57 = .ok (.aload_n 2, 1) := by decide +kernel
theorem dX4_back_58 : decode cX4_back 58 = .ok (.getfield 122, 3) := by decide +kernel
theorem dX4_back_61 : decode cX4_back 61 = .ok (.ireturn, 1) := by decide +kernel
theorem dX4_usable_0 : decode cX4_usable 0 = .ok (.aload_n 0, 1) := by decide +kernel
theorem dX4_usable_1 : decode cX4_usable 1 = .ok (.iload_n 1, 1) := by decide +kernel
theorem dX4_usable_2 : decode cX4_usable 2 = .ok (.invokevirtual 125, 3) := by decide +kernel
theorem dX4_usable_5 : decode cX4_usable 5 = .ok (.astore_n 2, 1) := by decide +kernel
theorem dX4_usable_6 : decode cX4_usable 6 = .ok (.aload_n 2, 1) := by decide +kernel
theorem dX4_usable_7 : decode cX4_usable 7 = .ok (.ifnonnull 6, 3) := by decide +kernel
theorem dX4_usable_10 : decode cX4_usable 10 = .ok (.bipush (-2), 2) := by decide +kernel
theorem dX4_usable_12 : decode cX4_usable 12 = .ok (.ireturn, 1) := by decide +kernel
theorem dX4_usable_13 : decode cX4_usable 13 = .ok (.aload_n 0, 1) := by decide +kernel
theorem dX4_usable_14 : decode cX4_usable 14 = .ok (.aload_n 2, 1) := by decide +kernel
theorem dX4_usable_15 : decode cX4_usable 15 = .ok (.invokevirtual 149, 3) := by decide +kernel
theorem dX4_usable_18 : decode cX4_usable 18 = .ok (.ifCond .eq 7, 3) := by decide +kernel
theorem dX4_usable_21 : decode cX4_usable 21 = .ok (.iconst 1, 1) := by decide +kernel
theorem dX4_usable_22 : decode cX4_usable 22 = .ok (.goto 4, 3) := by decide +kernel
theorem dX4_usable_25 : decode cX4_usable 25 = .ok (.iconst 0, 1) := by decide +kernel
theorem dX4_usable_26 : decode cX4_usable 26 = .ok (.ireturn, 1) := by decide +kernel
theorem dX4_markTold_0 : decode cX4_markTold 0 = .ok (.aload_n 0, 1) := by decide +kernel
theorem dX4_markTold_1 : decode cX4_markTold 1 = .ok (.iload_n 1, 1) := by decide +kernel
theorem dX4_markTold_2 : decode cX4_markTold 2 = .ok (.invokevirtual 152, 3) := by decide +kernel
theorem dX4_markTold_5 : decode cX4_markTold 5 = .ok (.astore_n 3, 1) := by decide +kernel
theorem dX4_markTold_6 : decode cX4_markTold 6 = .ok (.aload_n 3, 1) := by decide +kernel
theorem dX4_markTold_7 : decode cX4_markTold 7 = .ok (.ifnonnull 6, 3) := by decide +kernel
theorem dX4_markTold_10 : decode cX4_markTold 10 = .ok (.bipush (-2), 2) := by decide +kernel
theorem dX4_markTold_12 : decode cX4_markTold 12 = .ok (.ireturn, 1) := by decide +kernel
theorem dX4_markTold_13 : decode cX4_markTold 13 = .ok (.iload_n 2, 1) := by decide +kernel
theorem dX4_markTold_14 : decode cX4_markTold 14 = .ok (.tableswitch 85 0 6 #[42, 55, 60, 65, 70, 75, 80], 42) := by decide +kernel
theorem dX4_markTold_56 : decode cX4_markTold 56 = .ok (.aload_n 3, 1) := by decide +kernel
theorem dX4_markTold_57 : decode cX4_markTold 57 = .ok (.getfield 129, 3) := by decide +kernel
theorem dX4_markTold_60 : decode cX4_markTold 60 = .ok (.ifCond .eq 7, 3) := by decide +kernel
theorem dX4_markTold_63 : decode cX4_markTold 63 = .ok (.iconst 1, 1) := by decide +kernel
theorem dX4_markTold_64 : decode cX4_markTold 64 = .ok (.goto 4, 3) := by decide +kernel
theorem dX4_markTold_67 : decode cX4_markTold 67 = .ok (.iconst 0, 1) := by decide +kernel
theorem dX4_markTold_68 : decode cX4_markTold 68 = .ok (.ireturn, 1) := by decide +kernel
theorem dX4_markTold_69 : decode cX4_markTold 69 = .ok (.aload_n 3, 1) := by decide +kernel
theorem dX4_markTold_70 : decode cX4_markTold 70 = .ok (.getfield 155, 3) := by decide +kernel
theorem dX4_markTold_73 : decode cX4_markTold 73 = .ok (.ireturn, 1) := by decide +kernel
theorem dX4_markTold_74 : decode cX4_markTold 74 = .ok (.aload_n 3, 1) := by decide +kernel
theorem dX4_markTold_75 : decode cX4_markTold 75 = .ok (.getfield 142, 3) := by decide +kernel
theorem dX4_markTold_78 : decode cX4_markTold 78 = .ok (.ireturn, 1) := by decide +kernel
theorem dX4_markTold_79 : decode cX4_markTold 79 = .ok (.aload_n 3, 1) := by decide +kernel
theorem dX4_markTold_80 : decode cX4_markTold 80 = .ok (.invokevirtual 158, 3) := by decide +kernel
theorem dX4_markTold_83 : decode cX4_markTold 83 = .ok (.ireturn, 1) := by decide +kernel
theorem dX4_markTold_84 : decode cX4_markTold 84 = .ok (.aload_n 3, 1) := by decide +kernel
theorem dX4_markTold_85 : decode cX4_markTold 85 = .ok (.getfield 161, 3) := by decide +kernel
theorem dX4_markTold_88 : decode cX4_markTold 88 = .ok (.ireturn, 1) := by decide +kernel
theorem dX4_markTold_89 : decode cX4_markTold 89 = .ok (.aload_n 3, 1) := by decide +kernel
theorem dX4_markTold_90 : decode cX4_markTold 90 = .ok (.getfield 164, 3) := by decide +kernel
theorem dX4_markTold_93 : decode cX4_markTold 93 = .ok (.ireturn, 1) := by decide +kernel
theorem dX4_markTold_94 : decode cX4_markTold 94 = .ok (.aload_n 3, 1) := by decide +kernel
theorem dX4_markTold_95 : decode cX4_markTold 95 = .ok (.getfield 108, 3) := by decide +kernel
theorem dX4_markTold_98 : decode cX4_markTold 98 = .ok (.ireturn, 1) := by decide +kernel
theorem dX4_markTold_99 : decode cX4_markTold 99 = .ok (.bipush (-2), 2) := by decide +kernel
theorem dX4_markTold_101 : decode cX4_markTold 101 = .ok (.ireturn, 1) := by decide +kernel
theorem dX4_list_0 : decode cX4_list 0 = .ok (.aload_n 0, 1) := by decide +kernel
theorem dX4_list_1 : decode cX4_list 1 = .ok (.iload_n 1, 1) := by decide +kernel
theorem dX4_list_2 : decode cX4_list 2 = .ok (.invokevirtual 125, 3) := by decide +kernel
theorem dX4_list_5 : decode cX4_list 5 = .ok (.astore 4, 2) := by decide +kernel
theorem dX4_list_7 : decode cX4_list 7 = .ok (.aload 4, 2) := by decide +kernel
theorem dX4_list_9 : decode cX4_list 9 = .ok (.ifnull 20, 3) := by decide +kernel
theorem dX4_list_12 : decode cX4_list 12 = .ok (.iload_n 2, 1) := by decide +kernel
theorem dX4_list_13 : decode cX4_list 13 = .ok (.ifCond .lt 16, 3) := by decide +kernel
theorem dX4_list_16 : decode cX4_list 16 = .ok (.iload_n 2, 1) := by decide +kernel
theorem dX4_list_17 : decode cX4_list 17 = .ok (.aload 4, 2) := by decide +kernel
theorem dX4_list_19 : decode cX4_list 19 = .ok (.getfield 142, 3) := by decide +kernel
theorem dX4_list_22 : decode cX4_list 22 = .ok (.if_icmp .ge 7, 3) := by decide +kernel
theorem dX4_list_25 : decode cX4_list 25 = .ok (.iload_n 3, 1) := by decide +kernel
theorem dX4_list_26 : decode cX4_list 26 = .ok (.ifCond .ge 6, 3) := by decide +kernel
theorem dX4_list_29 : decode cX4_list 29 = .ok (.bipush (-2), 2) := by decide +kernel
theorem dX4_list_31 : decode cX4_list 31 = .ok (.ireturn, 1) := by decide +kernel
theorem dX4_list_32 : decode cX4_list 32 = .ok (.iload_n 3, 1) := by decide +kernel
theorem dX4_list_33 : decode cX4_list 33 = .ok (.aload 4, 2) := by decide +kernel
theorem dX4_list_35 : decode cX4_list 35 = .ok (.getfield 167, 3) := by decide +kernel
theorem dX4_list_38 : decode cX4_list 38 = .ok (.iload_n 2, 1) := by decide +kernel
theorem dX4_list_39 : decode cX4_list 39 = .ok (.iaload, 1) := by decide +kernel
theorem dX4_list_40 : decode cX4_list 40 = .ok (.if_icmp .ge 15, 3) := by decide +kernel
theorem dX4_list_43 : decode cX4_list 43 = .ok (.aload 4, 2) := by decide +kernel
theorem dX4_list_45 : decode cX4_list 45 = .ok (.getfield 170, 3) := by decide +kernel
theorem dX4_list_48 : decode cX4_list 48 = .ok (.iload_n 2, 1) := by decide +kernel
theorem dX4_list_49 : decode cX4_list 49 = .ok (.aaload, 1) := by decide +kernel
theorem dX4_list_50 : decode cX4_list 50 = .ok (.iload_n 3, 1) := by decide +kernel
theorem dX4_list_51 : decode cX4_list 51 = .ok (.iaload, 1) := by decide +kernel
theorem dX4_list_52 : decode cX4_list 52 = .ok (.goto 4, 3) := by decide +kernel
theorem dX4_list_55 : decode cX4_list 55 = .ok (.iconst (-1), 1) := by decide +kernel
theorem dX4_list_56 : decode cX4_list 56 = .ok (.ireturn, 1) := by decide +kernel
theorem dX4_same_0 : decode cX4_same 0 = .ok (.aload_n 0, 1) := by decide +kernel
theorem dX4_same_1 : decode cX4_same 1 = .ok (.iload_n 1, 1) := by decide +kernel
theorem dX4_same_2 : decode cX4_same 2 = .ok (.invokevirtual 125, 3) := by decide +kernel
theorem dX4_same_5 : decode cX4_same 5 = .ok (.astore_n 3, 1) := by decide +kernel
theorem dX4_same_6 : decode cX4_same 6 = .ok (.aload_n 0, 1) := by decide +kernel
theorem dX4_same_7 : decode cX4_same 7 = .ok (.iload_n 2, 1) := by decide +kernel
theorem dX4_same_8 : decode cX4_same 8 = .ok (.invokevirtual 125, 3) := by decide +kernel
theorem dX4_same_11 : decode cX4_same 11 = .ok (.astore 4, 2) := by decide +kernel
theorem dX4_same_13 : decode cX4_same 13 = .ok (.aload_n 3, 1) := by decide +kernel
theorem dX4_same_14 : decode cX4_same 14 = .ok (.ifnull 21, 3) := by decide +kernel
theorem dX4_same_17 : decode cX4_same 17 = .ok (.aload 4, 2) := by decide +kernel
theorem dX4_same_19 : decode cX4_same 19 = .ok (.ifnull 16, 3) := by decide +kernel
theorem dX4_same_22 : decode cX4_same 22 = .ok (.aload_n 3, 1) := by decide +kernel
theorem dX4_same_23 : decode cX4_same 23 = .ok (.aload 4, 2) := by decide +kernel
theorem dX4_same_25 : decode cX4_same 25 = .ok (.invokevirtual 174, 3) := by decide +kernel
theorem dX4_same_28 : decode cX4_same 28 = .ok (.ifCond .eq 7, 3) := by decide +kernel
theorem dX4_same_31 : decode cX4_same 31 = .ok (.iconst 1, 1) := by decide +kernel
theorem dX4_same_32 : decode cX4_same 32 = .ok (.goto 4, 3) := by decide +kernel
theorem dX4_same_35 : decode cX4_same 35 = .ok (.iconst 0, 1) := by decide +kernel
theorem dX4_same_36 : decode cX4_same 36 = .ok (.ireturn, 1) := by decide +kernel
theorem dX4_partTold_0 : decode cX4_partTold 0 = .ok (.aload_n 0, 1) := by decide +kernel
theorem dX4_partTold_1 : decode cX4_partTold 1 = .ok (.getfield 24, 3) := by decide +kernel
theorem dX4_partTold_4 : decode cX4_partTold 4 = .ok (.iload_n 1, 1) := by decide +kernel
theorem dX4_partTold_5 : decode cX4_partTold 5 = .ok (.invokevirtual 177, 3) := by decide +kernel
theorem dX4_partTold_8 : decode cX4_partTold 8 = .ok (.ifCond .ne 6, 3) := by decide +kernel
theorem dX4_partTold_11 : decode cX4_partTold 11 = .ok (.bipush (-2), 2) := by decide +kernel
theorem dX4_partTold_13 : decode cX4_partTold 13 = .ok (.ireturn, 1) := by decide +kernel
theorem dX4_partTold_14 : decode cX4_partTold 14 = .ok (.iload_n 2, 1) := by decide +kernel
theorem dX4_partTold_15 : decode cX4_partTold 15 = .ok (.tableswitch 89 0 4 #[33, 43, 53, 59, 83], 33) := by decide +kernel
theorem dX4_partTold_48 : decode cX4_partTold 48 = .ok (.aload_n 0, 1) := by decide +kernel
theorem dX4_partTold_49 : decode cX4_partTold 49 = .ok (.getfield 24, 3) := by decide +kernel
theorem dX4_partTold_52 : decode cX4_partTold 52 = .ok (.getfield 180, 3) := by decide +kernel
theorem dX4_partTold_55 : decode cX4_partTold 55 = .ok (.iload_n 1, 1) := by decide +kernel
theorem dX4_partTold_56 : decode cX4_partTold 56 = .ok (.iaload, 1) := by decide +kernel
theorem dX4_partTold_57 : decode cX4_partTold 57 = .ok (.ireturn, 1) := by decide +kernel
theorem dX4_partTold_58 : decode cX4_partTold 58 = .ok (.aload_n 0, 1) := by decide +kernel
theorem dX4_partTold_59 : decode cX4_partTold 59 = .ok (.getfield 24, 3) := by decide +kernel
theorem dX4_partTold_62 : decode cX4_partTold 62 = .ok (.getfield 181, 3) := by decide +kernel
theorem dX4_partTold_65 : decode cX4_partTold 65 = .ok (.iload_n 1, 1) := by decide +kernel
theorem dX4_partTold_66 : decode cX4_partTold 66 = .ok (.iaload, 1) := by decide +kernel
theorem dX4_partTold_67 : decode cX4_partTold 67 = .ok (.ireturn, 1) := by decide +kernel
theorem dX4_partTold_68 : decode cX4_partTold 68 = .ok (.aload_n 0, 1) := by decide +kernel
theorem dX4_partTold_69 : decode cX4_partTold 69 = .ok (.iload_n 1, 1) := by decide +kernel
theorem dX4_partTold_70 : decode cX4_partTold 70 = .ok (.invokevirtual 184, 3) := by decide +kernel
theorem dX4_partTold_73 : decode cX4_partTold 73 = .ok (.ireturn, 1) := by decide +kernel
theorem dX4_partTold_74 : decode cX4_partTold 74 = .ok (.aload_n 0, 1) := by decide +kernel
theorem dX4_partTold_75 : decode cX4_partTold 75 = .ok (.getfield 24, 3) := by decide +kernel
theorem dX4_partTold_78 : decode cX4_partTold 78 = .ok (.iload_n 1, 1) := by decide +kernel
theorem dX4_partTold_79 : decode cX4_partTold 79 = .ok (.aload_n 0, 1) := by decide +kernel
theorem dX4_partTold_80 : decode cX4_partTold 80 = .ok (.getfield 24, 3) := by decide +kernel
theorem dX4_partTold_83 : decode cX4_partTold 83 = .ok (.getfield 187, 3) := by decide +kernel
theorem dX4_partTold_86 : decode cX4_partTold 86 = .ok (.invokevirtual 191, 3) := by decide +kernel
theorem dX4_partTold_89 : decode cX4_partTold 89 = .ok (.ifCond .eq 7, 3) := by decide +kernel
theorem dX4_partTold_92 : decode cX4_partTold 92 = .ok (.iconst 0, 1) := by decide +kernel
theorem dX4_partTold_93 : decode cX4_partTold 93 = .ok (.goto 4, 3) := by decide +kernel
theorem dX4_partTold_96 : decode cX4_partTold 96 = .ok (.iconst 1, 1) := by decide +kernel
theorem dX4_partTold_97 : decode cX4_partTold 97 = .ok (.ireturn, 1) := by decide +kernel
theorem dX4_partTold_98 : decode cX4_partTold 98 = .ok (.aload_n 0, 1) := by decide +kernel
theorem dX4_partTold_99 : decode cX4_partTold 99 = .ok (.iload_n 1, 1) := by decide +kernel
theorem dX4_partTold_100 : decode cX4_partTold 100 = .ok (.invokevirtual 195, 3) := by decide +kernel
theorem dX4_partTold_103 : decode cX4_partTold 103 = .ok (.ireturn, 1) := by decide +kernel
theorem dX4_partTold_104 : decode cX4_partTold 104 = .ok (.bipush (-2), 2) := by decide +kernel
theorem dX4_partTold_106 : decode cX4_partTold 106 = .ok (.ireturn, 1) := by decide +kernel
theorem dX4_partByte_0 : decode cX4_partByte 0 = .ok (.aload_n 0, 1) := by decide +kernel
theorem dX4_partByte_1 : decode cX4_partByte 1 = .ok (.iload_n 2, 1) := by decide +kernel
theorem dX4_partByte_2 : decode cX4_partByte 2 = .ok (.invokevirtual 198, 3) := by decide +kernel
theorem dX4_partByte_5 : decode cX4_partByte 5 = .ok (.astore 4, 2) := by decide +kernel
theorem dX4_partByte_7 : decode cX4_partByte 7 = .ok (.aload 4, 2) := by decide +kernel
theorem dX4_partByte_9 : decode cX4_partByte 9 = .ok (.ifnull 17, 3) := by decide +kernel
theorem dX4_partByte_12 : decode cX4_partByte 12 = .ok (.aload_n 0, 1) := by decide +kernel
theorem dX4_partByte_13 : decode cX4_partByte 13 = .ok (.getfield 24, 3) := by decide +kernel
theorem dX4_partByte_16 : decode cX4_partByte 16 = .ok (.iload_n 1, 1) := by decide +kernel
theorem dX4_partByte_17 : decode cX4_partByte 17 = .ok (.aload 4, 2) := by decide +kernel
theorem dX4_partByte_19 : decode cX4_partByte 19 = .ok (.iload_n 3, 1) := by decide +kernel
theorem dX4_partByte_20 : decode cX4_partByte 20 = .ok (.invokevirtual 202, 3) := by decide +kernel
theorem dX4_partByte_23 : decode cX4_partByte 23 = .ok (.ifCond .ne 6, 3) := by decide +kernel
theorem dX4_partByte_26 : decode cX4_partByte 26 = .ok (.bipush (-2), 2) := by decide +kernel
theorem dX4_partByte_28 : decode cX4_partByte 28 = .ok (.ireturn, 1) := by decide +kernel
theorem dX4_partByte_29 : decode cX4_partByte 29 = .ok (.aload 4, 2) := by decide +kernel
theorem dX4_partByte_31 : decode cX4_partByte 31 = .ok (.getfield 206, 3) := by decide +kernel
theorem dX4_partByte_34 : decode cX4_partByte 34 = .ok (.iload_n 1, 1) := by decide +kernel
theorem dX4_partByte_35 : decode cX4_partByte 35 = .ok (.bipush 32, 2) := by decide +kernel
theorem dX4_partByte_37 : decode cX4_partByte 37 = .ok (.imul, 1) := by decide +kernel
theorem dX4_partByte_38 : decode cX4_partByte 38 = .ok (.iload_n 3, 1) := by decide +kernel
theorem dX4_partByte_39 : decode cX4_partByte 39 = .ok (.iadd, 1) := by decide +kernel
theorem dX4_partByte_40 : decode cX4_partByte 40 = .ok (.iaload, 1) := by decide +kernel
theorem dX4_partByte_41 : decode cX4_partByte 41 = .ok (.ireturn, 1) := by decide +kernel
theorem dX4_alter_0 : decode cX4_alter 0 = .ok (.aload_n 0, 1) := by decide +kernel
theorem dX4_alter_1 : decode cX4_alter 1 = .ok (.iload_n 2, 1) := by decide +kernel
theorem dX4_alter_2 : decode cX4_alter 2 = .ok (.invokevirtual 198, 3) := by decide +kernel
theorem dX4_alter_5 : decode cX4_alter 5 = .ok (.astore 5, 2) := by decide +kernel
theorem dX4_alter_7 : decode cX4_alter 7 = .ok (.aload 5, 2) := by decide +kernel
theorem dX4_alter_9 : decode cX4_alter 9 = .ok (.ifnull 30, 3) := by decide +kernel
theorem dX4_alter_12 : decode cX4_alter 12 = .ok (.aload_n 0, 1) := by decide +kernel
theorem dX4_alter_13 : decode cX4_alter 13 = .ok (.getfield 24, 3) := by decide +kernel
theorem dX4_alter_16 : decode cX4_alter 16 = .ok (.iload_n 1, 1) := by decide +kernel
theorem dX4_alter_17 : decode cX4_alter 17 = .ok (.aload 5, 2) := by decide +kernel
theorem dX4_alter_19 : decode cX4_alter 19 = .ok (.iload_n 3, 1) := by decide +kernel
theorem dX4_alter_20 : decode cX4_alter 20 = .ok (.invokevirtual 202, 3) := by decide +kernel
theorem dX4_alter_23 : decode cX4_alter 23 = .ok (.ifCond .eq 16, 3) := by decide +kernel
theorem dX4_alter_26 : decode cX4_alter 26 = .ok (.iload 4, 2) := by decide +kernel
theorem dX4_alter_28 : decode cX4_alter 28 = .ok (.ifCond .lt 11, 3) := by decide +kernel
theorem dX4_alter_31 : decode cX4_alter 31 = .ok (.iload 4, 2) := by decide +kernel
theorem dX4_alter_33 : decode cX4_alter 33 = .ok (.sipush 255, 3) := by decide +kernel
theorem dX4_alter_36 : decode cX4_alter 36 = .ok (.if_icmp .le 6, 3) := by decide +kernel
theorem dX4_alter_39 : decode cX4_alter 39 = .ok (.bipush (-2), 2) := by decide +kernel
theorem dX4_alter_41 : decode cX4_alter 41 = .ok (.ireturn, 1) := by decide +kernel
theorem dX4_alter_42 : decode cX4_alter 42 = .ok (.aload 5, 2) := by decide +kernel
theorem dX4_alter_44 : decode cX4_alter 44 = .ok (.getfield 206, 3) := by decide +kernel
theorem dX4_alter_47 : decode cX4_alter 47 = .ok (.iload_n 1, 1) := by decide +kernel
theorem dX4_alter_48 : decode cX4_alter 48 = .ok (.bipush 32, 2) := by decide +kernel
theorem dX4_alter_50 : decode cX4_alter 50 = .ok (.imul, 1) := by decide +kernel
theorem dX4_alter_51 : decode cX4_alter 51 = .ok (.iload_n 3, 1) := by decide +kernel
theorem dX4_alter_52 : decode cX4_alter 52 = .ok (.iadd, 1) := by decide +kernel
theorem dX4_alter_53 : decode cX4_alter 53 = .ok (.dup2, 1) := by decide +kernel
theorem dX4_alter_54 : decode cX4_alter 54 = .ok (.iaload, 1) := by decide +kernel
theorem dX4_alter_55 : decode cX4_alter 55 = .ok (.iload 4, 2) := by decide +kernel
theorem dX4_alter_57 : decode cX4_alter 57 = .ok (.ixor, 1) := by decide +kernel
theorem dX4_alter_58 : decode cX4_alter 58 = .ok (.iastore, 1) := by decide +kernel
theorem dX4_alter_59 : decode cX4_alter 59 = .ok (.aload 5, 2) := by decide +kernel
theorem dX4_alter_61 : decode cX4_alter 61 = .ok (.getfield 206, 3) := by decide +kernel
theorem dX4_alter_64 : decode cX4_alter 64 = .ok (.iload_n 1, 1) := by decide +kernel
theorem dX4_alter_65 : decode cX4_alter 65 = .ok (.bipush 32, 2) := by decide +kernel
theorem dX4_alter_67 : decode cX4_alter 67 = .ok (.imul, 1) := by decide +kernel
theorem dX4_alter_68 : decode cX4_alter 68 = .ok (.iload_n 3, 1) := by decide +kernel
theorem dX4_alter_69 : decode cX4_alter 69 = .ok (.iadd, 1) := by decide +kernel
theorem dX4_alter_70 : decode cX4_alter 70 = .ok (.iaload, 1) := by decide +kernel
theorem dX4_alter_71 : decode cX4_alter 71 = .ok (.ireturn, 1) := by decide +kernel
theorem dX4_lose_0 : decode cX4_lose 0 = .ok (.aload_n 0, 1) := by decide +kernel
theorem dX4_lose_1 : decode cX4_lose 1 = .ok (.iload_n 2, 1) := by decide +kernel
theorem dX4_lose_2 : decode cX4_lose 2 = .ok (.invokevirtual 198, 3) := by decide +kernel
theorem dX4_lose_5 : decode cX4_lose 5 = .ok (.astore_n 3, 1) := by decide +kernel
theorem dX4_lose_6 : decode cX4_lose 6 = .ok (.aload_n 3, 1) := by decide +kernel
theorem dX4_lose_7 : decode cX4_lose 7 = .ok (.ifnull 23, 3) := by decide +kernel
theorem dX4_lose_10 : decode cX4_lose 10 = .ok (.aload_n 0, 1) := by decide +kernel
theorem dX4_lose_11 : decode cX4_lose 11 = .ok (.getfield 24, 3) := by decide +kernel
theorem dX4_lose_14 : decode cX4_lose 14 = .ok (.iload_n 1, 1) := by decide +kernel
theorem dX4_lose_15 : decode cX4_lose 15 = .ok (.invokevirtual 177, 3) := by decide +kernel
theorem dX4_lose_18 : decode cX4_lose 18 = .ok (.ifCond .eq 12, 3) := by decide +kernel
theorem dX4_lose_21 : decode cX4_lose 21 = .ok (.aload_n 3, 1) := by decide +kernel
theorem dX4_lose_22 : decode cX4_lose 22 = .ok (.getfield 207, 3) := by decide +kernel
theorem dX4_lose_25 : decode cX4_lose 25 = .ok (.iload_n 1, 1) := by decide +kernel
theorem dX4_lose_26 : decode cX4_lose 26 = .ok (.baload, 1) := by decide +kernel
theorem dX4_lose_27 : decode cX4_lose 27 = .ok (.ifCond .ne 6, 3) := by decide +kernel
theorem dX4_lose_30 : decode cX4_lose 30 = .ok (.bipush (-2), 2) := by decide +kernel
theorem dX4_lose_32 : decode cX4_lose 32 = .ok (.ireturn, 1) := by decide +kernel
theorem dX4_lose_33 : decode cX4_lose 33 = .ok (.aload_n 3, 1) := by decide +kernel
theorem dX4_lose_34 : decode cX4_lose 34 = .ok (.getfield 207, 3) := by decide +kernel
theorem dX4_lose_37 : decode cX4_lose 37 = .ok (.iload_n 1, 1) := by decide +kernel
theorem dX4_lose_38 : decode cX4_lose 38 = .ok (.iconst 0, 1) := by decide +kernel
theorem dX4_lose_39 : decode cX4_lose 39 = .ok (.bastore, 1) := by decide +kernel
theorem dX4_lose_40 : decode cX4_lose 40 = .ok (.iconst 1, 1) := by decide +kernel
theorem dX4_lose_41 : decode cX4_lose 41 = .ok (.ireturn, 1) := by decide +kernel
theorem dX4_told_0 : decode cX4_told 0 = .ok (.iload_n 1, 1) := by decide +kernel
theorem dX4_told_1 : decode cX4_told 1 = .ok (.tableswitch 105 0 8 #[51, 56, 61, 66, 74, 82, 87, 95, 100], 51) := by decide +kernel
theorem dX4_told_52 : decode cX4_told 52 = .ok (.aload_n 0, 1) := by decide +kernel
theorem dX4_told_53 : decode cX4_told 53 = .ok (.getfield 42, 3) := by decide +kernel
theorem dX4_told_56 : decode cX4_told 56 = .ok (.ireturn, 1) := by decide +kernel
theorem dX4_told_57 : decode cX4_told 57 = .ok (.aload_n 0, 1) := by decide +kernel
theorem dX4_told_58 : decode cX4_told 58 = .ok (.invokevirtual 210, 3) := by decide +kernel
theorem dX4_told_61 : decode cX4_told 61 = .ok (.ireturn, 1) := by decide +kernel
theorem dX4_told_62 : decode cX4_told 62 = .ok (.aload_n 0, 1) := by decide +kernel
theorem dX4_told_63 : decode cX4_told 63 = .ok (.getfield 46, 3) := by decide +kernel
theorem dX4_told_66 : decode cX4_told 66 = .ok (.ireturn, 1) := by decide +kernel
theorem dX4_told_67 : decode cX4_told 67 = .ok (.aload_n 0, 1) := by decide +kernel
theorem dX4_told_68 : decode cX4_told 68 = .ok (.getfield 24, 3) := by decide +kernel
theorem dX4_told_71 : decode cX4_told 71 = .ok (.getfield 213, 3) := by decide +kernel
theorem dX4_told_74 : decode cX4_told 74 = .ok (.ireturn, 1) := by decide +kernel
theorem dX4_told_75 : decode cX4_told 75 = .ok (.aload_n 0, 1) := by decide +kernel
theorem dX4_told_76 : decode cX4_told 76 = .ok (.getfield 24, 3) := by decide +kernel
theorem dX4_told_79 : decode cX4_told 79 = .ok (.getfield 216, 3) := by decide +kernel
theorem dX4_told_82 : decode cX4_told 82 = .ok (.ireturn, 1) := by decide +kernel
theorem dX4_told_83 : decode cX4_told 83 = .ok (.aload_n 0, 1) := by decide +kernel
theorem dX4_told_84 : decode cX4_told 84 = .ok (.getfield 49, 3) := by decide +kernel
theorem dX4_told_87 : decode cX4_told 87 = .ok (.ireturn, 1) := by decide +kernel
theorem dX4_told_88 : decode cX4_told 88 = .ok (.aload_n 0, 1) := by decide +kernel
theorem dX4_told_89 : decode cX4_told 89 = .ok (.getfield 24, 3) := by decide +kernel
theorem dX4_told_92 : decode cX4_told 92 = .ok (.invokevirtual 219, 3) := by decide +kernel
theorem dX4_told_95 : decode cX4_told 95 = .ok (.ireturn, 1) := by decide +kernel
theorem dX4_told_96 : decode cX4_told 96 = .ok (.aload_n 0, 1) := by decide +kernel
theorem dX4_told_97 : decode cX4_told 97 = .ok (.invokevirtual 222, 3) := by decide +kernel
theorem dX4_told_100 : decode cX4_told 100 = .ok (.ireturn, 1) := by decide +kernel
theorem dX4_told_101 : decode cX4_told 101 = .ok (.aload_n 0, 1) := by decide +kernel
theorem dX4_told_102 : decode cX4_told 102 = .ok (.invokevirtual 80, 3) := by decide +kernel
theorem dX4_told_105 : decode cX4_told 105 = .ok (.ireturn, 1) := by decide +kernel
theorem dX4_told_106 : decode cX4_told 106 = .ok (.bipush (-2), 2) := by decide +kernel
theorem dX4_told_108 : decode cX4_told 108 = .ok (.ireturn, 1) := by decide +kernel
theorem dX4_isTask_0 : decode cX4_isTask 0 = .ok (.iload_n 1, 1) := by decide +kernel
theorem dX4_isTask_1 : decode cX4_isTask 1 = .ok (.ifCond .lt 15, 3) := by decide +kernel
theorem dX4_isTask_4 : decode cX4_isTask 4 = .ok (.iload_n 1, 1) := by decide +kernel
theorem dX4_isTask_5 : decode cX4_isTask 5 = .ok (.aload_n 0, 1) := by decide +kernel
theorem dX4_isTask_6 : decode cX4_isTask 6 = .ok (.getfield 42, 3) := by decide +kernel
theorem dX4_isTask_9 : decode cX4_isTask 9 = .ok (.if_icmp .ge 7, 3) := by decide +kernel
theorem dX4_isTask_12 : decode cX4_isTask 12 = .ok (.iconst 1, 1) := by decide +kernel
theorem dX4_isTask_13 : decode cX4_isTask 13 = .ok (.goto 4, 3) := by decide +kernel
theorem dX4_isTask_16 : decode cX4_isTask 16 = .ok (.iconst 0, 1) := by decide +kernel
theorem dX4_isTask_17 : decode cX4_isTask 17 = .ok (.ireturn, 1) := by decide +kernel
theorem dX4_totalStateBytes_0 : decode cX4_totalStateBytes 0 = .ok (.iconst 0, 1) := by decide +kernel
theorem dX4_totalStateBytes_1 : decode cX4_totalStateBytes 1 = .ok (.istore_n 1, 1) := by decide +kernel
theorem dX4_totalStateBytes_2 : decode cX4_totalStateBytes 2 = .ok (.iconst 0, 1) := by decide +kernel
theorem dX4_totalStateBytes_3 : decode cX4_totalStateBytes 3 = .ok (.istore_n 2, 1) := by decide +kernel
theorem dX4_totalStateBytes_4 : decode cX4_totalStateBytes 4 = .ok (.iload_n 2, 1) := by decide +kernel
theorem dX4_totalStateBytes_5 : decode cX4_totalStateBytes 5 = .ok (.aload_n 0, 1) := by decide +kernel
theorem dX4_totalStateBytes_6 : decode cX4_totalStateBytes 6 = .ok (.getfield 42, 3) := by decide +kernel
theorem dX4_totalStateBytes_9 : decode cX4_totalStateBytes 9 = .ok (.if_icmp .ge 21, 3) := by decide +kernel
theorem dX4_totalStateBytes_12 : decode cX4_totalStateBytes 12 = .ok (.iload_n 1, 1) := by decide +kernel
theorem dX4_totalStateBytes_13 : decode cX4_totalStateBytes 13 = .ok (.aload_n 0, 1) := by decide +kernel
theorem dX4_totalStateBytes_14 : decode cX4_totalStateBytes 14 = .ok (.getfield 11, 3) := by decide +kernel
theorem dX4_totalStateBytes_17 : decode cX4_totalStateBytes 17 = .ok (.iload_n 2, 1) := by decide +kernel
theorem dX4_totalStateBytes_18 : decode cX4_totalStateBytes 18 = .ok (.aaload, 1) := by decide +kernel
theorem dX4_totalStateBytes_19 : decode cX4_totalStateBytes 19 = .ok (.getfield 59, 3) := by decide +kernel
theorem dX4_totalStateBytes_22 : decode cX4_totalStateBytes 22 = .ok (.iadd, 1) := by decide +kernel
theorem dX4_totalStateBytes_23 : decode cX4_totalStateBytes 23 = .ok (.istore_n 1, 1) := by decide +kernel
theorem dX4_totalStateBytes_24 : decode cX4_totalStateBytes 24 = .ok (.iinc 2 1, 3) := by decide +kernel
theorem dX4_totalStateBytes_27 : decode cX4_totalStateBytes 27 = .ok (.goto (-23), 3) := by decide +kernel
theorem dX4_totalStateBytes_30 : decode cX4_totalStateBytes 30 = .ok (.iload_n 1, 1) := by decide +kernel
theorem dX4_totalStateBytes_31 : decode cX4_totalStateBytes 31 = .ok (.ireturn, 1) := by decide +kernel
theorem dX4_joinStates_0 : decode cX4_joinStates 0 = .ok (.iconst 0, 1) := by decide +kernel
theorem dX4_joinStates_1 : decode cX4_joinStates 1 = .ok (.istore_n 1, 1) := by decide +kernel
theorem dX4_joinStates_2 : decode cX4_joinStates 2 = .ok (.iconst 0, 1) := by decide +kernel
theorem dX4_joinStates_3 : decode cX4_joinStates 3 = .ok (.istore_n 2, 1) := by decide +kernel
theorem dX4_joinStates_4 : decode cX4_joinStates 4 = .ok (.iload_n 2, 1) := by decide +kernel
theorem dX4_joinStates_5 : decode cX4_joinStates 5 = .ok (.aload_n 0, 1) := by decide +kernel
theorem dX4_joinStates_6 : decode cX4_joinStates 6 = .ok (.getfield 42, 3) := by decide +kernel
theorem dX4_joinStates_9 : decode cX4_joinStates 9 = .ok (.if_icmp .ge 48, 3) := by decide +kernel
theorem dX4_joinStates_12 : decode cX4_joinStates 12 = .ok (.aload_n 0, 1) := by decide +kernel
theorem dX4_joinStates_13 : decode cX4_joinStates 13 = .ok (.getfield 11, 3) := by decide +kernel
theorem dX4_joinStates_16 : decode cX4_joinStates 16 = .ok (.iload_n 2, 1) := by decide +kernel
theorem dX4_joinStates_17 : decode cX4_joinStates 17 = .ok (.aaload, 1) := by decide +kernel
theorem dX4_joinStates_18 : decode cX4_joinStates 18 = .ok (.getfield 66, 3) := by decide +kernel
theorem dX4_joinStates_21 : decode cX4_joinStates 21 = .ok (.iconst 0, 1) := by decide +kernel
theorem dX4_joinStates_22 : decode cX4_joinStates 22 = .ok (.aload_n 0, 1) := by decide +kernel
theorem dX4_joinStates_23 : decode cX4_joinStates 23 = .ok (.getfield 34, 3) := by decide +kernel
theorem dX4_joinStates_26 : decode cX4_joinStates 26 = .ok (.iload_n 1, 1) := by decide +kernel
theorem dX4_joinStates_27 : decode cX4_joinStates 27 = .ok (.aload_n 0, 1) := by decide +kernel
theorem dX4_joinStates_28 : decode cX4_joinStates 28 = .ok (.getfield 11, 3) := by decide +kernel
theorem dX4_joinStates_31 : decode cX4_joinStates 31 = .ok (.iload_n 2, 1) := by decide +kernel
theorem dX4_joinStates_32 : decode cX4_joinStates 32 = .ok (.aaload, 1) := by decide +kernel
theorem dX4_joinStates_33 : decode cX4_joinStates 33 = .ok (.getfield 59, 3) := by decide +kernel
theorem dX4_joinStates_36 : decode cX4_joinStates 36 = .ok (.invokestatic 225, 3) := by decide +kernel
theorem dX4_joinStates_39 : decode cX4_joinStates 39 = .ok (.iload_n 1, 1) := by decide +kernel
theorem dX4_joinStates_40 : decode cX4_joinStates 40 = .ok (.aload_n 0, 1) := by decide +kernel
theorem dX4_joinStates_41 : decode cX4_joinStates 41 = .ok (.getfield 11, 3) := by decide +kernel
theorem dX4_joinStates_44 : decode cX4_joinStates 44 = .ok (.iload_n 2, 1) := by decide +kernel
theorem dX4_joinStates_45 : decode cX4_joinStates 45 = .ok (.aaload, 1) := by decide +kernel
theorem dX4_joinStates_46 : decode cX4_joinStates 46 = .ok (.getfield 59, 3) := by decide +kernel
theorem dX4_joinStates_49 : decode cX4_joinStates 49 = .ok (.iadd, 1) := by decide +kernel
theorem dX4_joinStates_50 : decode cX4_joinStates 50 = .ok (.istore_n 1, 1) := by decide +kernel
theorem dX4_joinStates_51 : decode cX4_joinStates 51 = .ok (.iinc 2 1, 3) := by decide +kernel
theorem dX4_joinStates_54 : decode cX4_joinStates 54 = .ok (.goto (-50), 3) := by decide +kernel
theorem dX4_joinStates_57 : decode cX4_joinStates 57 = .ok (.return_, 1) := by decide +kernel
theorem dX4_becomeTasks_0 : decode cX4_becomeTasks 0 = .ok (.iload_n 1, 1) := by decide +kernel
theorem dX4_becomeTasks_1 : decode cX4_becomeTasks 1 = .ok (.istore_n 2, 1) := by decide +kernel
theorem dX4_becomeTasks_2 : decode cX4_becomeTasks 2 = .ok (.iload_n 2, 1) := by decide +kernel
theorem dX4_becomeTasks_3 : decode cX4_becomeTasks 3 = .ok (.aload_n 0, 1) := by decide +kernel
theorem dX4_becomeTasks_4 : decode cX4_becomeTasks 4 = .ok (.getfield 42, 3) := by decide +kernel
theorem dX4_becomeTasks_7 : decode cX4_becomeTasks 7 = .ok (.if_icmp .ge 18, 3) := by decide +kernel
theorem dX4_becomeTasks_10 : decode cX4_becomeTasks 10 = .ok (.aload_n 0, 1) := by decide +kernel
theorem dX4_becomeTasks_11 : decode cX4_becomeTasks 11 = .ok (.getfield 17, 3) := by decide +kernel
theorem dX4_becomeTasks_14 : decode cX4_becomeTasks 14 = .ok (.iload_n 2, 1) := by decide +kernel
theorem dX4_becomeTasks_15 : decode cX4_becomeTasks 15 = .ok (.aaload, 1) := by decide +kernel
theorem dX4_becomeTasks_16 : decode cX4_becomeTasks 16 = .ok (.invokevirtual 231, 3) := by decide +kernel
theorem dX4_becomeTasks_19 : decode cX4_becomeTasks 19 = .ok (.iinc 2 1, 3) := by decide +kernel
theorem dX4_becomeTasks_22 : decode cX4_becomeTasks 22 = .ok (.goto (-20), 3) := by decide +kernel
theorem dX4_becomeTasks_25 : decode cX4_becomeTasks 25 = .ok (.aload_n 0, 1) := by decide +kernel
theorem dX4_becomeTasks_26 : decode cX4_becomeTasks 26 = .ok (.iload_n 1, 1) := by decide +kernel
theorem dX4_becomeTasks_27 : decode cX4_becomeTasks 27 = .ok (.putfield 42, 3) := by decide +kernel
theorem dX4_becomeTasks_30 : decode cX4_becomeTasks 30 = .ok (.return_, 1) := by decide +kernel
theorem dX4_shareStart_0 : decode cX4_shareStart 0 = .ok (.iload_n 0, 1) := by decide +kernel
theorem dX4_shareStart_1 : decode cX4_shareStart 1 = .ok (.iload_n 1, 1) := by decide +kernel
theorem dX4_shareStart_2 : decode cX4_shareStart 2 = .ok (.imul, 1) := by decide +kernel
theorem dX4_shareStart_3 : decode cX4_shareStart 3 = .ok (.iload_n 2, 1) := by decide +kernel
theorem dX4_shareStart_4 : decode cX4_shareStart 4 = .ok (.idiv, 1) := by decide +kernel
theorem dX4_shareStart_5 : decode cX4_shareStart 5 = .ok (.ireturn, 1) := by decide +kernel
theorem dX4_storeStates_0 : decode cX4_storeStates 0 = .ok (.aload_n 0, 1) := by decide +kernel
theorem dX4_storeStates_1 : decode cX4_storeStates 1 = .ok (.getfield 24, 3) := by decide +kernel
theorem dX4_storeStates_4 : decode cX4_storeStates 4 = .ok (.invokevirtual 234, 3) := by decide +kernel
theorem dX4_storeStates_7 : decode cX4_storeStates 7 = .ok (.iconst 0, 1) := by decide +kernel
theorem dX4_storeStates_8 : decode cX4_storeStates 8 = .ok (.istore_n 2, 1) := by decide +kernel
theorem dX4_storeStates_9 : decode cX4_storeStates 9 = .ok (.iload_n 2, 1) := by decide +kernel
theorem dX4_storeStates_10 : decode cX4_storeStates 10 = .ok (.aload_n 0, 1) := by decide +kernel
theorem dX4_storeStates_11 : decode cX4_storeStates 11 = .ok (.getfield 42, 3) := by decide +kernel
theorem dX4_storeStates_14 : decode cX4_storeStates 14 = .ok (.if_icmp .ge 27, 3) := by decide +kernel
theorem dX4_storeStates_17 : decode cX4_storeStates 17 = .ok (.aload_n 0, 1) := by decide +kernel
theorem dX4_storeStates_18 : decode cX4_storeStates 18 = .ok (.aload_n 1, 1) := by decide +kernel
theorem dX4_storeStates_19 : decode cX4_storeStates 19 = .ok (.iload_n 2, 1) := by decide +kernel
theorem dX4_storeStates_20 : decode cX4_storeStates 20 = .ok (.invokevirtual 237, 3) := by decide +kernel
theorem dX4_storeStates_23 : decode cX4_storeStates 23 = .ok (.ifCond .ne 12, 3) := by decide +kernel
theorem dX4_storeStates_26 : decode cX4_storeStates 26 = .ok (.aload_n 0, 1) := by decide +kernel
theorem dX4_storeStates_27 : decode cX4_storeStates 27 = .ok (.getfield 24, 3) := by decide +kernel
theorem dX4_storeStates_30 : decode cX4_storeStates 30 = .ok (.invokevirtual 241, 3) := by decide +kernel
theorem dX4_storeStates_33 : decode cX4_storeStates 33 = .ok (.iconst 0, 1) := by decide +kernel
theorem dX4_storeStates_34 : decode cX4_storeStates 34 = .ok (.ireturn, 1) := by decide +kernel
theorem dX4_storeStates_35 : decode cX4_storeStates 35 = .ok (.iinc 2 1, 3) := by decide +kernel
theorem dX4_storeStates_38 : decode cX4_storeStates 38 = .ok (.goto (-29), 3) := by decide +kernel
theorem dX4_storeStates_41 : decode cX4_storeStates 41 = .ok (.iconst 1, 1) := by decide +kernel
theorem dX4_storeStates_42 : decode cX4_storeStates 42 = .ok (.ireturn, 1) := by decide +kernel
theorem dX4_storeState_0 : decode cX4_storeState 0 = .ok (.aload_n 0, 1) := by decide +kernel
theorem dX4_storeState_1 : decode cX4_storeState 1 = .ok (.getfield 11, 3) := by decide +kernel
theorem dX4_storeState_4 : decode cX4_storeState 4 = .ok (.iload_n 2, 1) := by decide +kernel
theorem dX4_storeState_5 : decode cX4_storeState 5 = .ok (.aaload, 1) := by decide +kernel
theorem dX4_storeState_6 : decode cX4_storeState 6 = .ok (.astore_n 3, 1) := by decide +kernel
theorem dX4_storeState_7 : decode cX4_storeState 7 = .ok (.aload_n 3, 1) := by decide +kernel
theorem dX4_storeState_8 : decode cX4_storeState 8 = .ok (.invokevirtual 72, 3) := by decide +kernel
theorem dX4_storeState_11 : decode cX4_storeState 11 = .ok (.istore 4, 2) := by decide +kernel
theorem dX4_storeState_13 : decode cX4_storeState 13 = .ok (.iconst 0, 1) := by decide +kernel
theorem dX4_storeState_14 : decode cX4_storeState 14 = .ok (.istore 5, 2) := by decide +kernel
theorem dX4_storeState_16 : decode cX4_storeState 16 = .ok (.iload 5, 2) := by decide +kernel
theorem dX4_storeState_18 : decode cX4_storeState 18 = .ok (.iload 4, 2) := by decide +kernel
theorem dX4_storeState_20 : decode cX4_storeState 20 = .ok (.if_icmp .ge 53, 3) := by decide +kernel
theorem dX4_storeState_23 : decode cX4_storeState 23 = .ok (.aload_n 0, 1) := by decide +kernel
theorem dX4_storeState_24 : decode cX4_storeState 24 = .ok (.getfield 24, 3) := by decide +kernel
theorem dX4_storeState_27 : decode cX4_storeState 27 = .ok (.aload_n 3, 1) := by decide +kernel
theorem dX4_storeState_28 : decode cX4_storeState 28 = .ok (.getfield 66, 3) := by decide +kernel
theorem dX4_storeState_31 : decode cX4_storeState 31 = .ok (.aload_n 3, 1) := by decide +kernel
theorem dX4_storeState_32 : decode cX4_storeState 32 = .ok (.iload 5, 2) := by decide +kernel
theorem dX4_storeState_34 : decode cX4_storeState 34 = .ok (.invokevirtual 244, 3) := by decide +kernel
theorem dX4_storeState_37 : decode cX4_storeState 37 = .ok (.aload_n 3, 1) := by decide +kernel
theorem dX4_storeState_38 : decode cX4_storeState 38 = .ok (.iload 5, 2) := by decide +kernel
theorem dX4_storeState_40 : decode cX4_storeState 40 = .ok (.invokevirtual 76, 3) := by decide +kernel
theorem dX4_storeState_43 : decode cX4_storeState 43 = .ok (.invokevirtual 247, 3) := by decide +kernel
theorem dX4_storeState_46 : decode cX4_storeState 46 = .ok (.istore 6, 2) := by decide +kernel
theorem dX4_storeState_48 : decode cX4_storeState 48 = .ok (.iload 6, 2) := by decide +kernel
theorem dX4_storeState_50 : decode cX4_storeState 50 = .ok (.iconst (-1), 1) := by decide +kernel
theorem dX4_storeState_51 : decode cX4_storeState 51 = .ok (.if_icmp .ne 5, 3) := by decide +kernel
theorem dX4_storeState_54 : decode cX4_storeState 54 = .ok (.iconst 0, 1) := by decide +kernel
theorem dX4_storeState_55 : decode cX4_storeState 55 = .ok (.ireturn, 1) := by decide +kernel
theorem dX4_storeState_56 : decode cX4_storeState 56 = .ok (.aload_n 1, 1) := by decide +kernel
theorem dX4_storeState_57 : decode cX4_storeState 57 = .ok (.getfield 170, 3) := by decide +kernel
theorem dX4_storeState_60 : decode cX4_storeState 60 = .ok (.iload_n 2, 1) := by decide +kernel
theorem dX4_storeState_61 : decode cX4_storeState 61 = .ok (.aaload, 1) := by decide +kernel
theorem dX4_storeState_62 : decode cX4_storeState 62 = .ok (.iload 5, 2) := by decide +kernel
theorem dX4_storeState_64 : decode cX4_storeState 64 = .ok (.iload 6, 2) := by decide +kernel
theorem dX4_storeState_66 : decode cX4_storeState 66 = .ok (.iastore, 1) := by decide +kernel
theorem dX4_storeState_67 : decode cX4_storeState 67 = .ok (.iinc 5 1, 3) := by decide +kernel
theorem dX4_storeState_70 : decode cX4_storeState 70 = .ok (.goto (-54), 3) := by decide +kernel
theorem dX4_storeState_73 : decode cX4_storeState 73 = .ok (.aload_n 1, 1) := by decide +kernel
theorem dX4_storeState_74 : decode cX4_storeState 74 = .ok (.getfield 167, 3) := by decide +kernel
theorem dX4_storeState_77 : decode cX4_storeState 77 = .ok (.iload_n 2, 1) := by decide +kernel
theorem dX4_storeState_78 : decode cX4_storeState 78 = .ok (.iload 4, 2) := by decide +kernel
theorem dX4_storeState_80 : decode cX4_storeState 80 = .ok (.iastore, 1) := by decide +kernel
theorem dX4_storeState_81 : decode cX4_storeState 81 = .ok (.aload_n 1, 1) := by decide +kernel
theorem dX4_storeState_82 : decode cX4_storeState 82 = .ok (.dup, 1) := by decide +kernel
theorem dX4_storeState_83 : decode cX4_storeState 83 = .ok (.getfield 164, 3) := by decide +kernel
theorem dX4_storeState_86 : decode cX4_storeState 86 = .ok (.aload_n 3, 1) := by decide +kernel
theorem dX4_storeState_87 : decode cX4_storeState 87 = .ok (.getfield 59, 3) := by decide +kernel
theorem dX4_storeState_90 : decode cX4_storeState 90 = .ok (.iadd, 1) := by decide +kernel
theorem dX4_storeState_91 : decode cX4_storeState 91 = .ok (.putfield 164, 3) := by decide +kernel
theorem dX4_storeState_94 : decode cX4_storeState 94 = .ok (.iconst 1, 1) := by decide +kernel
theorem dX4_storeState_95 : decode cX4_storeState 95 = .ok (.ireturn, 1) := by decide +kernel
theorem dX4_copyStates_0 : decode cX4_copyStates 0 = .ok (.iconst 0, 1) := by decide +kernel
theorem dX4_copyStates_1 : decode cX4_copyStates 1 = .ok (.istore_n 2, 1) := by decide +kernel
theorem dX4_copyStates_2 : decode cX4_copyStates 2 = .ok (.iload_n 2, 1) := by decide +kernel
theorem dX4_copyStates_3 : decode cX4_copyStates 3 = .ok (.aload_n 1, 1) := by decide +kernel
theorem dX4_copyStates_4 : decode cX4_copyStates 4 = .ok (.getfield 142, 3) := by decide +kernel
theorem dX4_copyStates_7 : decode cX4_copyStates 7 = .ok (.if_icmp .ge 86, 3) := by decide +kernel
theorem dX4_copyStates_10 : decode cX4_copyStates 10 = .ok (.iconst 0, 1) := by decide +kernel
theorem dX4_copyStates_11 : decode cX4_copyStates 11 = .ok (.istore_n 3, 1) := by decide +kernel
theorem dX4_copyStates_12 : decode cX4_copyStates 12 = .ok (.iconst 0, 1) := by decide +kernel
theorem dX4_copyStates_13 : decode cX4_copyStates 13 = .ok (.istore 4, 2) := by decide +kernel
theorem dX4_copyStates_15 : decode cX4_copyStates 15 = .ok (.iload 4, 2) := by decide +kernel
theorem dX4_copyStates_17 : decode cX4_copyStates 17 = .ok (.aload_n 1, 1) := by decide +kernel
theorem dX4_copyStates_18 : decode cX4_copyStates 18 = .ok (.getfield 167, 3) := by decide +kernel
theorem dX4_copyStates_21 : decode cX4_copyStates 21 = .ok (.iload_n 2, 1) := by decide +kernel
theorem dX4_copyStates_22 : decode cX4_copyStates 22 = .ok (.iaload, 1) := by decide +kernel
theorem dX4_copyStates_23 : decode cX4_copyStates 23 = .ok (.if_icmp .ge 64, 3) := by decide +kernel
theorem dX4_copyStates_26 : decode cX4_copyStates 26 = .ok (.aload_n 1, 1) := by decide +kernel
theorem dX4_copyStates_27 : decode cX4_copyStates 27 = .ok (.getfield 170, 3) := by decide +kernel
theorem dX4_copyStates_30 : decode cX4_copyStates 30 = .ok (.iload_n 2, 1) := by decide +kernel
theorem dX4_copyStates_31 : decode cX4_copyStates 31 = .ok (.aaload, 1) := by decide +kernel
theorem dX4_copyStates_32 : decode cX4_copyStates 32 = .ok (.iload 4, 2) := by decide +kernel
theorem dX4_copyStates_34 : decode cX4_copyStates 34 = .ok (.iaload, 1) := by decide +kernel
theorem dX4_copyStates_35 : decode cX4_copyStates 35 = .ok (.istore 5, 2) := by decide +kernel
theorem dX4_copyStates_37 : decode cX4_copyStates 37 = .ok (.aload_n 0, 1) := by decide +kernel
theorem dX4_copyStates_38 : decode cX4_copyStates 38 = .ok (.getfield 17, 3) := by decide +kernel
theorem dX4_copyStates_41 : decode cX4_copyStates 41 = .ok (.iload_n 2, 1) := by decide +kernel
theorem dX4_copyStates_42 : decode cX4_copyStates 42 = .ok (.aaload, 1) := by decide +kernel
theorem dX4_copyStates_43 : decode cX4_copyStates 43 = .ok (.iload 5, 2) := by decide +kernel
theorem dX4_copyStates_45 : decode cX4_copyStates 45 = .ok (.aload_n 0, 1) := by decide +kernel
theorem dX4_copyStates_46 : decode cX4_copyStates 46 = .ok (.getfield 11, 3) := by decide +kernel
theorem dX4_copyStates_49 : decode cX4_copyStates 49 = .ok (.iload_n 2, 1) := by decide +kernel
theorem dX4_copyStates_50 : decode cX4_copyStates 50 = .ok (.aaload, 1) := by decide +kernel
theorem dX4_copyStates_51 : decode cX4_copyStates 51 = .ok (.getfield 66, 3) := by decide +kernel
theorem dX4_copyStates_54 : decode cX4_copyStates 54 = .ok (.iload_n 3, 1) := by decide +kernel
theorem dX4_copyStates_55 : decode cX4_copyStates 55 = .ok (.aload_n 0, 1) := by decide +kernel
theorem dX4_copyStates_56 : decode cX4_copyStates 56 = .ok (.getfield 24, 3) := by decide +kernel
theorem dX4_copyStates_59 : decode cX4_copyStates 59 = .ok (.getfield 180, 3) := by decide +kernel
theorem dX4_copyStates_62 : decode cX4_copyStates 62 = .ok (.iload 5, 2) := by decide +kernel
theorem dX4_copyStates_64 : decode cX4_copyStates 64 = .ok (.iaload, 1) := by decide +kernel
theorem dX4_copyStates_65 : decode cX4_copyStates 65 = .ok (.invokevirtual 251, 3) := by decide +kernel
theorem dX4_copyStates_68 : decode cX4_copyStates 68 = .ok (.iload_n 3, 1) := by decide +kernel
theorem dX4_copyStates_69 : decode cX4_copyStates 69 = .ok (.aload_n 0, 1) := by decide +kernel
theorem dX4_copyStates_70 : decode cX4_copyStates 70 = .ok (.getfield 24, 3) := by decide +kernel
theorem dX4_copyStates_73 : decode cX4_copyStates 73 = .ok (.getfield 180, 3) := by decide +kernel
theorem dX4_copyStates_76 : decode cX4_copyStates 76 = .ok (.iload 5, 2) := by decide +kernel
theorem dX4_copyStates_78 : decode cX4_copyStates 78 = .ok (.iaload, 1) := by decide +kernel
theorem dX4_copyStates_79 : decode cX4_copyStates 79 = .ok (.iadd, 1) := by decide +kernel
theorem dX4_copyStates_80 : decode cX4_copyStates 80 = .ok (.istore_n 3, 1) := by decide +kernel
theorem dX4_copyStates_81 : decode cX4_copyStates 81 = .ok (.iinc 4 1, 3) := by decide +kernel
theorem dX4_copyStates_84 : decode cX4_copyStates 84 = .ok (.goto (-69), 3) := by decide +kernel
theorem dX4_copyStates_87 : decode cX4_copyStates 87 = .ok (.iinc 2 1, 3) := by decide +kernel
theorem dX4_copyStates_90 : decode cX4_copyStates 90 = .ok (.goto (-88), 3) := by decide +kernel
theorem dX4_copyStates_93 : decode cX4_copyStates 93 = .ok (.return_, 1) := by decide +kernel
theorem dX4_letGoUnheld_0 : decode cX4_letGoUnheld 0 = .ok (.aload_n 0, 1) := by decide +kernel
theorem dX4_letGoUnheld_1 : decode cX4_letGoUnheld 1 = .ok (.getfield 46, 3) := by decide +kernel
theorem dX4_letGoUnheld_4 : decode cX4_letGoUnheld 4 = .ok (.iconst 1, 1) := by decide +kernel
theorem dX4_letGoUnheld_5 : decode cX4_letGoUnheld 5 = .ok (.isub, 1) := by decide +kernel
theorem dX4_letGoUnheld_6 : decode cX4_letGoUnheld 6 = .ok (.istore_n 1, 1) := by decide +kernel
theorem dX4_letGoUnheld_7 : decode cX4_letGoUnheld 7 = .ok (.iload_n 1, 1) := by decide +kernel
theorem dX4_letGoUnheld_8 : decode cX4_letGoUnheld 8 = .ok (.ifCond .lt 42, 3) := by decide +kernel
theorem dX4_letGoUnheld_11 : decode cX4_letGoUnheld 11 = .ok (.aload_n 0, 1) := by decide +kernel
theorem dX4_letGoUnheld_12 : decode cX4_letGoUnheld 12 = .ok (.getfield 30, 3) := by decide +kernel
theorem dX4_letGoUnheld_15 : decode cX4_letGoUnheld 15 = .ok (.iload_n 1, 1) := by decide +kernel
theorem dX4_letGoUnheld_16 : decode cX4_letGoUnheld 16 = .ok (.aaload, 1) := by decide +kernel
theorem dX4_letGoUnheld_17 : decode cX4_letGoUnheld 17 = .ok (.getfield 129, 3) := by decide +kernel
theorem dX4_letGoUnheld_20 : decode cX4_letGoUnheld 20 = .ok (.ifCond .ne 24, 3) := by decide +kernel
theorem dX4_letGoUnheld_23 : decode cX4_letGoUnheld 23 = .ok (.aload_n 0, 1) := by decide +kernel
theorem dX4_letGoUnheld_24 : decode cX4_letGoUnheld 24 = .ok (.aload_n 0, 1) := by decide +kernel
theorem dX4_letGoUnheld_25 : decode cX4_letGoUnheld 25 = .ok (.getfield 30, 3) := by decide +kernel
theorem dX4_letGoUnheld_28 : decode cX4_letGoUnheld 28 = .ok (.iload_n 1, 1) := by decide +kernel
