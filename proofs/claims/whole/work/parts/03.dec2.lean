theorem dX4_letGoUnheld_29 : decode cX4_letGoUnheld 29 = .ok (.aaload, 1) := by decide +kernel
theorem dX4_letGoUnheld_30 : decode cX4_letGoUnheld 30 = .ok (.getfield 122, 3) := by decide +kernel
theorem dX4_letGoUnheld_33 : decode cX4_letGoUnheld 33 = .ok (.invokevirtual 255, 3) := by decide +kernel
theorem dX4_letGoUnheld_36 : decode cX4_letGoUnheld 36 = .ok (.ifCond .ne 8, 3) := by decide +kernel
theorem dX4_letGoUnheld_39 : decode cX4_letGoUnheld 39 = .ok (.aload_n 0, 1) := by decide +kernel
theorem dX4_letGoUnheld_40 : decode cX4_letGoUnheld 40 = .ok (.iload_n 1, 1) := by decide +kernel
theorem dX4_letGoUnheld_41 : decode cX4_letGoUnheld 41 = .ok (.invokevirtual 258, 3) := by decide +kernel
theorem dX4_letGoUnheld_44 : decode cX4_letGoUnheld 44 = .ok (.iinc 1 (-1), 3) := by decide +kernel
theorem dX4_letGoUnheld_47 : decode cX4_letGoUnheld 47 = .ok (.goto (-40), 3) := by decide +kernel
theorem dX4_letGoUnheld_50 : decode cX4_letGoUnheld 50 = .ok (.return_, 1) := by decide +kernel
theorem dX4_isBase_0 : decode cX4_isBase 0 = .ok (.iconst 0, 1) := by decide +kernel
theorem dX4_isBase_1 : decode cX4_isBase 1 = .ok (.istore_n 2, 1) := by decide +kernel
theorem dX4_isBase_2 : decode cX4_isBase 2 = .ok (.iload_n 2, 1) := by decide +kernel
theorem dX4_isBase_3 : decode cX4_isBase 3 = .ok (.aload_n 0, 1) := by decide +kernel
theorem dX4_isBase_4 : decode cX4_isBase 4 = .ok (.getfield 46, 3) := by decide +kernel
theorem dX4_isBase_7 : decode cX4_isBase 7 = .ok (.if_icmp .ge 24, 3) := by decide +kernel
theorem dX4_isBase_10 : decode cX4_isBase 10 = .ok (.aload_n 0, 1) := by decide +kernel
theorem dX4_isBase_11 : decode cX4_isBase 11 = .ok (.getfield 30, 3) := by decide +kernel
theorem dX4_isBase_14 : decode cX4_isBase 14 = .ok (.iload_n 2, 1) := by decide +kernel
theorem dX4_isBase_15 : decode cX4_isBase 15 = .ok (.aaload, 1) := by decide +kernel
theorem dX4_isBase_16 : decode cX4_isBase 16 = .ok (.getfield 155, 3) := by decide +kernel
theorem dX4_isBase_19 : decode cX4_isBase 19 = .ok (.iload_n 1, 1) := by decide +kernel
theorem dX4_isBase_20 : decode cX4_isBase 20 = .ok (.if_icmp .ne 5, 3) := by decide +kernel
theorem dX4_isBase_23 : decode cX4_isBase 23 = .ok (.iconst 1, 1) := by decide +kernel
theorem dX4_isBase_24 : decode cX4_isBase 24 = .ok (.ireturn, 1) := by decide +kernel
theorem dX4_isBase_25 : decode cX4_isBase 25 = .ok (.iinc 2 1, 3) := by decide +kernel
theorem dX4_isBase_28 : decode cX4_isBase 28 = .ok (.goto (-26), 3) := by decide +kernel
theorem dX4_isBase_31 : decode cX4_isBase 31 = .ok (.iconst 0, 1) := by decide +kernel
theorem dX4_isBase_32 : decode cX4_isBase 32 = .ok (.ireturn, 1) := by decide +kernel
theorem dX4_letGo_0 : decode cX4_letGo 0 = .ok (.aload_n 0, 1) := by decide +kernel
theorem dX4_letGo_1 : decode cX4_letGo 1 = .ok (.getfield 30, 3) := by decide +kernel
theorem dX4_letGo_4 : decode cX4_letGo 4 = .ok (.iload_n 1, 1) := by decide +kernel
theorem dX4_letGo_5 : decode cX4_letGo 5 = .ok (.aaload, 1) := by decide +kernel
theorem dX4_letGo_6 : decode cX4_letGo 6 = .ok (.astore_n 2, 1) := by decide +kernel
theorem dX4_letGo_7 : decode cX4_letGo 7 = .ok (.iload_n 1, 1) := by decide +kernel
theorem dX4_letGo_8 : decode cX4_letGo 8 = .ok (.istore_n 3, 1) := by decide +kernel
theorem dX4_letGo_9 : decode cX4_letGo 9 = .ok (.iload_n 3, 1) := by decide +kernel
theorem dX4_letGo_10 : decode cX4_letGo 10 = .ok (.iconst 1, 1) := by decide +kernel
theorem dX4_letGo_11 : decode cX4_letGo 11 = .ok (.iadd, 1) := by decide +kernel
theorem dX4_letGo_12 : decode cX4_letGo 12 = .ok (.aload_n 0, 1) := by decide +kernel
theorem dX4_letGo_13 : decode cX4_letGo 13 = .ok (.getfield 46, 3) := by decide +kernel
theorem dX4_letGo_16 : decode cX4_letGo 16 = .ok (.if_icmp .ge 23, 3) := by decide +kernel
theorem dX4_letGo_19 : decode cX4_letGo 19 = .ok (.aload_n 0, 1) := by decide +kernel
theorem dX4_letGo_20 : decode cX4_letGo 20 = .ok (.getfield 30, 3) := by decide +kernel
theorem dX4_letGo_23 : decode cX4_letGo 23 = .ok (.iload_n 3, 1) := by decide +kernel
theorem dX4_letGo_24 : decode cX4_letGo 24 = .ok (.aload_n 0, 1) := by decide +kernel
theorem dX4_letGo_25 : decode cX4_letGo 25 = .ok (.getfield 30, 3) := by decide +kernel
theorem dX4_letGo_28 : decode cX4_letGo 28 = .ok (.iload_n 3, 1) := by decide +kernel
theorem dX4_letGo_29 : decode cX4_letGo 29 = .ok (.iconst 1, 1) := by decide +kernel
theorem dX4_letGo_30 : decode cX4_letGo 30 = .ok (.iadd, 1) := by decide +kernel
theorem dX4_letGo_31 : decode cX4_letGo 31 = .ok (.aaload, 1) := by decide +kernel
theorem dX4_letGo_32 : decode cX4_letGo 32 = .ok (.aastore, 1) := by decide +kernel
theorem dX4_letGo_33 : decode cX4_letGo 33 = .ok (.iinc 3 1, 3) := by decide +kernel
theorem dX4_letGo_36 : decode cX4_letGo 36 = .ok (.goto (-27), 3) := by decide +kernel
theorem dX4_letGo_39 : decode cX4_letGo 39 = .ok (.aload_n 0, 1) := by decide +kernel
theorem dX4_letGo_40 : decode cX4_letGo 40 = .ok (.dup, 1) := by decide +kernel
theorem dX4_letGo_41 : decode cX4_letGo 41 = .ok (.getfield 46, 3) := by decide +kernel
theorem dX4_letGo_44 : decode cX4_letGo 44 = .ok (.iconst 1, 1) := by decide +kernel
theorem dX4_letGo_45 : decode cX4_letGo 45 = .ok (.isub, 1) := by decide +kernel
theorem dX4_letGo_46 : decode cX4_letGo 46 = .ok (.putfield 46, 3) := by decide +kernel
theorem dX4_letGo_49 : decode cX4_letGo 49 = .ok (.aload_n 0, 1) := by decide +kernel
theorem dX4_letGo_50 : decode cX4_letGo 50 = .ok (.getfield 30, 3) := by decide +kernel
theorem dX4_letGo_53 : decode cX4_letGo 53 = .ok (.aload_n 0, 1) := by decide +kernel
theorem dX4_letGo_54 : decode cX4_letGo 54 = .ok (.getfield 46, 3) := by decide +kernel
theorem dX4_letGo_57 : decode cX4_letGo 57 = .ok (.aload_n 2, 1) := by decide +kernel
theorem dX4_letGo_58 : decode cX4_letGo 58 = .ok (.aastore, 1) := by decide +kernel
theorem dX4_letGo_59 : decode cX4_letGo 59 = .ok (.return_, 1) := by decide +kernel
theorem dX4_freeUnnamed_0 : decode cX4_freeUnnamed 0 = .ok (.aload_n 0, 1) := by decide +kernel
theorem dX4_freeUnnamed_1 : decode cX4_freeUnnamed 1 = .ok (.invokevirtual 261, 3) := by decide +kernel
theorem dX4_freeUnnamed_4 : decode cX4_freeUnnamed 4 = .ok (.iconst 0, 1) := by decide +kernel
theorem dX4_freeUnnamed_5 : decode cX4_freeUnnamed 5 = .ok (.istore_n 1, 1) := by decide +kernel
theorem dX4_freeUnnamed_6 : decode cX4_freeUnnamed 6 = .ok (.iconst 0, 1) := by decide +kernel
theorem dX4_freeUnnamed_7 : decode cX4_freeUnnamed 7 = .ok (.istore_n 2, 1) := by decide +kernel
theorem dX4_freeUnnamed_8 : decode cX4_freeUnnamed 8 = .ok (.iload_n 2, 1) := by decide +kernel
theorem dX4_freeUnnamed_9 : decode cX4_freeUnnamed 9 = .ok (.bipush 120, 2) := by decide +kernel
theorem dX4_freeUnnamed_11 : decode cX4_freeUnnamed 11 = .ok (.if_icmp .ge 37, 3) := by decide +kernel
theorem dX4_freeUnnamed_14 : decode cX4_freeUnnamed 14 = .ok (.aload_n 0, 1) := by decide +kernel
theorem dX4_freeUnnamed_15 : decode cX4_freeUnnamed 15 = .ok (.getfield 24, 3) := by decide +kernel
theorem dX4_freeUnnamed_18 : decode cX4_freeUnnamed 18 = .ok (.iload_n 2, 1) := by decide +kernel
theorem dX4_freeUnnamed_19 : decode cX4_freeUnnamed 19 = .ok (.invokevirtual 177, 3) := by decide +kernel
theorem dX4_freeUnnamed_22 : decode cX4_freeUnnamed 22 = .ok (.ifCond .eq 20, 3) := by decide +kernel
theorem dX4_freeUnnamed_25 : decode cX4_freeUnnamed 25 = .ok (.aload_n 0, 1) := by decide +kernel
theorem dX4_freeUnnamed_26 : decode cX4_freeUnnamed 26 = .ok (.getfield 38, 3) := by decide +kernel
theorem dX4_freeUnnamed_29 : decode cX4_freeUnnamed 29 = .ok (.iload_n 2, 1) := by decide +kernel
theorem dX4_freeUnnamed_30 : decode cX4_freeUnnamed 30 = .ok (.baload, 1) := by decide +kernel
theorem dX4_freeUnnamed_31 : decode cX4_freeUnnamed 31 = .ok (.ifCond .ne 11, 3) := by decide +kernel
theorem dX4_freeUnnamed_34 : decode cX4_freeUnnamed 34 = .ok (.aload_n 0, 1) := by decide +kernel
theorem dX4_freeUnnamed_35 : decode cX4_freeUnnamed 35 = .ok (.iload_n 2, 1) := by decide +kernel
theorem dX4_freeUnnamed_36 : decode cX4_freeUnnamed 36 = .ok (.invokevirtual 264, 3) := by decide +kernel
theorem dX4_freeUnnamed_39 : decode cX4_freeUnnamed 39 = .ok (.iinc 1 1, 3) := by decide +kernel
theorem dX4_freeUnnamed_42 : decode cX4_freeUnnamed 42 = .ok (.iinc 2 1, 3) := by decide +kernel
theorem dX4_freeUnnamed_45 : decode cX4_freeUnnamed 45 = .ok (.goto (-37), 3) := by decide +kernel
theorem dX4_freeUnnamed_48 : decode cX4_freeUnnamed 48 = .ok (.iload_n 1, 1) := by decide +kernel
theorem dX4_freeUnnamed_49 : decode cX4_freeUnnamed 49 = .ok (.ireturn, 1) := by decide +kernel
theorem dX4_nameKeptParts_0 : decode cX4_nameKeptParts 0 = .ok (.iconst 0, 1) := by decide +kernel
theorem dX4_nameKeptParts_1 : decode cX4_nameKeptParts 1 = .ok (.istore_n 1, 1) := by decide +kernel
theorem dX4_nameKeptParts_2 : decode cX4_nameKeptParts 2 = .ok (.iload_n 1, 1) := by decide +kernel
theorem dX4_nameKeptParts_3 : decode cX4_nameKeptParts 3 = .ok (.bipush 120, 2) := by decide +kernel
theorem dX4_nameKeptParts_5 : decode cX4_nameKeptParts 5 = .ok (.if_icmp .ge 16, 3) := by decide +kernel
theorem dX4_nameKeptParts_8 : decode cX4_nameKeptParts 8 = .ok (.aload_n 0, 1) := by decide +kernel
theorem dX4_nameKeptParts_9 : decode cX4_nameKeptParts 9 = .ok (.getfield 38, 3) := by decide +kernel
theorem dX4_nameKeptParts_12 : decode cX4_nameKeptParts 12 = .ok (.iload_n 1, 1) := by decide +kernel
theorem dX4_nameKeptParts_13 : decode cX4_nameKeptParts 13 = .ok (.iconst 0, 1) := by decide +kernel
theorem dX4_nameKeptParts_14 : decode cX4_nameKeptParts 14 = .ok (.bastore, 1) := by decide +kernel
theorem dX4_nameKeptParts_15 : decode cX4_nameKeptParts 15 = .ok (.iinc 1 1, 3) := by decide +kernel
theorem dX4_nameKeptParts_18 : decode cX4_nameKeptParts 18 = .ok (.goto (-16), 3) := by decide +kernel
theorem dX4_nameKeptParts_21 : decode cX4_nameKeptParts 21 = .ok (.iconst 0, 1) := by decide +kernel
theorem dX4_nameKeptParts_22 : decode cX4_nameKeptParts 22 = .ok (.istore_n 1, 1) := by decide +kernel
theorem dX4_nameKeptParts_23 : decode cX4_nameKeptParts 23 = .ok (.iload_n 1, 1) := by decide +kernel
theorem dX4_nameKeptParts_24 : decode cX4_nameKeptParts 24 = .ok (.aload_n 0, 1) := by decide +kernel
theorem dX4_nameKeptParts_25 : decode cX4_nameKeptParts 25 = .ok (.getfield 46, 3) := by decide +kernel
theorem dX4_nameKeptParts_28 : decode cX4_nameKeptParts 28 = .ok (.if_icmp .ge 34, 3) := by decide +kernel
theorem dX4_nameKeptParts_31 : decode cX4_nameKeptParts 31 = .ok (.aload_n 0, 1) := by decide +kernel
theorem dX4_nameKeptParts_32 : decode cX4_nameKeptParts 32 = .ok (.getfield 30, 3) := by decide +kernel
theorem dX4_nameKeptParts_35 : decode cX4_nameKeptParts 35 = .ok (.iload_n 1, 1) := by decide +kernel
theorem dX4_nameKeptParts_36 : decode cX4_nameKeptParts 36 = .ok (.aaload, 1) := by decide +kernel
theorem dX4_nameKeptParts_37 : decode cX4_nameKeptParts 37 = .ok (.getfield 129, 3) := by decide +kernel
theorem dX4_nameKeptParts_40 : decode cX4_nameKeptParts 40 = .ok (.ifCond .eq 16, 3) := by decide +kernel
theorem dX4_nameKeptParts_43 : decode cX4_nameKeptParts 43 = .ok (.aload_n 0, 1) := by decide +kernel
theorem dX4_nameKeptParts_44 : decode cX4_nameKeptParts 44 = .ok (.getfield 30, 3) := by decide +kernel
theorem dX4_nameKeptParts_47 : decode cX4_nameKeptParts 47 = .ok (.iload_n 1, 1) := by decide +kernel
theorem dX4_nameKeptParts_48 : decode cX4_nameKeptParts 48 = .ok (.aaload, 1) := by decide +kernel
theorem dX4_nameKeptParts_49 : decode cX4_nameKeptParts 49 = .ok (.aload_n 0, 1) := by decide +kernel
theorem dX4_nameKeptParts_50 : decode cX4_nameKeptParts 50 = .ok (.getfield 38, 3) := by decide +kernel
theorem dX4_nameKeptParts_53 : decode cX4_nameKeptParts 53 = .ok (.invokevirtual 267, 3) := by decide +kernel
theorem dX4_nameKeptParts_56 : decode cX4_nameKeptParts 56 = .ok (.iinc 1 1, 3) := by decide +kernel
theorem dX4_nameKeptParts_59 : decode cX4_nameKeptParts 59 = .ok (.goto (-36), 3) := by decide +kernel
theorem dX4_nameKeptParts_62 : decode cX4_nameKeptParts 62 = .ok (.return_, 1) := by decide +kernel
theorem dX4_freePart_0 : decode cX4_freePart 0 = .ok (.aload_n 0, 1) := by decide +kernel
theorem dX4_freePart_1 : decode cX4_freePart 1 = .ok (.getfield 24, 3) := by decide +kernel
theorem dX4_freePart_4 : decode cX4_freePart 4 = .ok (.iload_n 1, 1) := by decide +kernel
theorem dX4_freePart_5 : decode cX4_freePart 5 = .ok (.invokevirtual 271, 3) := by decide +kernel
theorem dX4_freePart_8 : decode cX4_freePart 8 = .ok (.iconst 0, 1) := by decide +kernel
theorem dX4_freePart_9 : decode cX4_freePart 9 = .ok (.istore_n 2, 1) := by decide +kernel
theorem dX4_freePart_10 : decode cX4_freePart 10 = .ok (.iload_n 2, 1) := by decide +kernel
theorem dX4_freePart_11 : decode cX4_freePart 11 = .ok (.iconst 4, 1) := by decide +kernel
theorem dX4_freePart_12 : decode cX4_freePart 12 = .ok (.if_icmp .ge 21, 3) := by decide +kernel
theorem dX4_freePart_15 : decode cX4_freePart 15 = .ok (.aload_n 0, 1) := by decide +kernel
theorem dX4_freePart_16 : decode cX4_freePart 16 = .ok (.getfield 17, 3) := by decide +kernel
theorem dX4_freePart_19 : decode cX4_freePart 19 = .ok (.iload_n 2, 1) := by decide +kernel
theorem dX4_freePart_20 : decode cX4_freePart 20 = .ok (.aaload, 1) := by decide +kernel
theorem dX4_freePart_21 : decode cX4_freePart 21 = .ok (.getfield 207, 3) := by decide +kernel
theorem dX4_freePart_24 : decode cX4_freePart 24 = .ok (.iload_n 1, 1) := by decide +kernel
theorem dX4_freePart_25 : decode cX4_freePart 25 = .ok (.iconst 0, 1) := by decide +kernel
theorem dX4_freePart_26 : decode cX4_freePart 26 = .ok (.bastore, 1) := by decide +kernel
theorem dX4_freePart_27 : decode cX4_freePart 27 = .ok (.iinc 2 1, 3) := by decide +kernel
theorem dX4_freePart_30 : decode cX4_freePart 30 = .ok (.goto (-20), 3) := by decide +kernel
theorem dX4_freePart_33 : decode cX4_freePart 33 = .ok (.return_, 1) := by decide +kernel
theorem dX4_heldMark_0 : decode cX4_heldMark 0 = .ok (.iconst 0, 1) := by decide +kernel
theorem dX4_heldMark_1 : decode cX4_heldMark 1 = .ok (.istore_n 2, 1) := by decide +kernel
theorem dX4_heldMark_2 : decode cX4_heldMark 2 = .ok (.iload_n 2, 1) := by decide +kernel
theorem dX4_heldMark_3 : decode cX4_heldMark 3 = .ok (.aload_n 0, 1) := by decide +kernel
theorem dX4_heldMark_4 : decode cX4_heldMark 4 = .ok (.getfield 46, 3) := by decide +kernel
theorem dX4_heldMark_7 : decode cX4_heldMark 7 = .ok (.if_icmp .ge 29, 3) := by decide +kernel
theorem dX4_heldMark_10 : decode cX4_heldMark 10 = .ok (.aload_n 0, 1) := by decide +kernel
theorem dX4_heldMark_11 : decode cX4_heldMark 11 = .ok (.getfield 30, 3) := by decide +kernel
theorem dX4_heldMark_14 : decode cX4_heldMark 14 = .ok (.iload_n 2, 1) := by decide +kernel
theorem dX4_heldMark_15 : decode cX4_heldMark 15 = .ok (.aaload, 1) := by decide +kernel
theorem dX4_heldMark_16 : decode cX4_heldMark 16 = .ok (.getfield 122, 3) := by decide +kernel
theorem dX4_heldMark_19 : decode cX4_heldMark 19 = .ok (.iload_n 1, 1) := by decide +kernel
theorem dX4_heldMark_20 : decode cX4_heldMark 20 = .ok (.if_icmp .ne 10, 3) := by decide +kernel
theorem dX4_heldMark_23 : decode cX4_heldMark 23 = .ok (.aload_n 0, 1) := by decide +kernel
theorem dX4_heldMark_24 : decode cX4_heldMark 24 = .ok (.getfield 30, 3) := by decide +kernel
theorem dX4_heldMark_27 : decode cX4_heldMark 27 = .ok (.iload_n 2, 1) := by decide +kernel
theorem dX4_heldMark_28 : decode cX4_heldMark 28 = .ok (.aaload, 1) := by decide +kernel
theorem dX4_heldMark_29 : decode cX4_heldMark 29 = .ok (.areturn, 1) := by decide +kernel
theorem dX4_heldMark_30 : decode cX4_heldMark 30 = .ok (.iinc 2 1, 3) := by decide +kernel
theorem dX4_heldMark_33 : decode cX4_heldMark 33 = .ok (.goto (-31), 3) := by decide +kernel
theorem dX4_heldMark_36 : decode cX4_heldMark 36 = .ok (.aconst_null, 1) := by decide +kernel
theorem dX4_heldMark_37 : decode cX4_heldMark 37 = .ok (.areturn, 1) := by decide +kernel
theorem dX4_keptMark_0 : decode cX4_keptMark 0 = .ok (.aload_n 0, 1) := by decide +kernel
theorem dX4_keptMark_1 : decode cX4_keptMark 1 = .ok (.iload_n 1, 1) := by decide +kernel
theorem dX4_keptMark_2 : decode cX4_keptMark 2 = .ok (.invokevirtual 152, 3) := by decide +kernel
theorem dX4_keptMark_5 : decode cX4_keptMark 5 = .ok (.astore_n 2, 1) := by decide +kernel
theorem dX4_keptMark_6 : decode cX4_keptMark 6 = .ok (.aload_n 2, 1) := by decide +kernel
theorem dX4_keptMark_7 : decode cX4_keptMark 7 = .ok (.ifnull 14, 3) := by decide +kernel
theorem dX4_keptMark_10 : decode cX4_keptMark 10 = .ok (.aload_n 2, 1) := by decide +kernel
theorem dX4_keptMark_11 : decode cX4_keptMark 11 = .ok (.getfield 129, 3) := by decide +kernel
theorem dX4_keptMark_14 : decode cX4_keptMark 14 = .ok (.ifCond .eq 7, 3) := by decide +kernel
theorem dX4_keptMark_17 : decode cX4_keptMark 17 = .ok (.aload_n 2, 1) := by decide +kernel
theorem dX4_keptMark_18 : decode cX4_keptMark 18 = .ok (.goto 4, 3) := by decide +kernel
theorem dX4_keptMark_21 : decode cX4_keptMark 21 = .ok (.aconst_null, 1) := by decide +kernel
theorem dX4_keptMark_22 : decode cX4_keptMark 22 = .ok (.areturn, 1) := by decide +kernel
theorem dX4_latestKept_0 : decode cX4_latestKept 0 = .ok (.aload_n 0, 1) := by decide +kernel
theorem dX4_latestKept_1 : decode cX4_latestKept 1 = .ok (.getfield 46, 3) := by decide +kernel
theorem dX4_latestKept_4 : decode cX4_latestKept 4 = .ok (.iconst 1, 1) := by decide +kernel
theorem dX4_latestKept_5 : decode cX4_latestKept 5 = .ok (.isub, 1) := by decide +kernel
theorem dX4_latestKept_6 : decode cX4_latestKept 6 = .ok (.istore_n 1, 1) := by decide +kernel
theorem dX4_latestKept_7 : decode cX4_latestKept 7 = .ok (.iload_n 1, 1) := by decide +kernel
theorem dX4_latestKept_8 : decode cX4_latestKept 8 = .ok (.ifCond .lt 28, 3) := by decide +kernel
theorem dX4_latestKept_11 : decode cX4_latestKept 11 = .ok (.aload_n 0, 1) := by decide +kernel
theorem dX4_latestKept_12 : decode cX4_latestKept 12 = .ok (.getfield 30, 3) := by decide +kernel
theorem dX4_latestKept_15 : decode cX4_latestKept 15 = .ok (.iload_n 1, 1) := by decide +kernel
theorem dX4_latestKept_16 : decode cX4_latestKept 16 = .ok (.aaload, 1) := by decide +kernel
theorem dX4_latestKept_17 : decode cX4_latestKept 17 = .ok (.getfield 129, 3) := by decide +kernel
theorem dX4_latestKept_20 : decode cX4_latestKept 20 = .ok (.ifCond .eq 10, 3) := by decide +kernel
theorem dX4_latestKept_23 : decode cX4_latestKept 23 = .ok (.aload_n 0, 1) := by decide +kernel
theorem dX4_latestKept_24 : decode cX4_latestKept 24 = .ok (.getfield 30, 3) := by decide +kernel
theorem dX4_latestKept_27 : decode cX4_latestKept 27 = .ok (.iload_n 1, 1) := by decide +kernel
theorem dX4_latestKept_28 : decode cX4_latestKept 28 = .ok (.aaload, 1) := by decide +kernel
theorem dX4_latestKept_29 : decode cX4_latestKept 29 = .ok (.areturn, 1) := by decide +kernel
theorem dX4_latestKept_30 : decode cX4_latestKept 30 = .ok (.iinc 1 (-1), 3) := by decide +kernel
theorem dX4_latestKept_33 : decode cX4_latestKept 33 = .ok (.goto (-26), 3) := by decide +kernel
theorem dX4_latestKept_36 : decode cX4_latestKept 36 = .ok (.aconst_null, 1) := by decide +kernel
theorem dX4_latestKept_37 : decode cX4_latestKept 37 = .ok (.areturn, 1) := by decide +kernel
theorem dX4_latestUsable_0 : decode cX4_latestUsable 0 = .ok (.aload_n 0, 1) := by decide +kernel
theorem dX4_latestUsable_1 : decode cX4_latestUsable 1 = .ok (.getfield 46, 3) := by decide +kernel
theorem dX4_latestUsable_4 : decode cX4_latestUsable 4 = .ok (.iconst 1, 1) := by decide +kernel
theorem dX4_latestUsable_5 : decode cX4_latestUsable 5 = .ok (.isub, 1) := by decide +kernel
theorem dX4_latestUsable_6 : decode cX4_latestUsable 6 = .ok (.istore_n 2, 1) := by decide +kernel
theorem dX4_latestUsable_7 : decode cX4_latestUsable 7 = .ok (.iload_n 2, 1) := by decide +kernel
theorem dX4_latestUsable_8 : decode cX4_latestUsable 8 = .ok (.ifCond .lt 42, 3) := by decide +kernel
theorem dX4_latestUsable_11 : decode cX4_latestUsable 11 = .ok (.aload_n 0, 1) := by decide +kernel
theorem dX4_latestUsable_12 : decode cX4_latestUsable 12 = .ok (.getfield 30, 3) := by decide +kernel
theorem dX4_latestUsable_15 : decode cX4_latestUsable 15 = .ok (.iload_n 2, 1) := by decide +kernel
theorem dX4_latestUsable_16 : decode cX4_latestUsable 16 = .ok (.aaload, 1) := by decide +kernel
theorem dX4_latestUsable_17 : decode cX4_latestUsable 17 = .ok (.getfield 122, 3) := by decide +kernel
theorem dX4_latestUsable_20 : decode cX4_latestUsable 20 = .ok (.iload_n 1, 1) := by decide +kernel
theorem dX4_latestUsable_21 : decode cX4_latestUsable 21 = .ok (.if_icmp .gt 23, 3) := by decide +kernel
theorem dX4_latestUsable_24 : decode cX4_latestUsable 24 = .ok (.aload_n 0, 1) := by decide +kernel
theorem dX4_latestUsable_25 : decode cX4_latestUsable 25 = .ok (.aload_n 0, 1) := by decide +kernel
theorem dX4_latestUsable_26 : decode cX4_latestUsable 26 = .ok (.getfield 30, 3) := by decide +kernel
theorem dX4_latestUsable_29 : decode cX4_latestUsable 29 = .ok (.iload_n 2, 1) := by decide +kernel
theorem dX4_latestUsable_30 : decode cX4_latestUsable 30 = .ok (.aaload, 1) := by decide +kernel
theorem dX4_latestUsable_31 : decode cX4_latestUsable 31 = .ok (.invokevirtual 149, 3) := by decide +kernel
theorem dX4_latestUsable_34 : decode cX4_latestUsable 34 = .ok (.ifCond .eq 10, 3) := by decide +kernel
theorem dX4_latestUsable_37 : decode cX4_latestUsable 37 = .ok (.aload_n 0, 1) := by decide +kernel
theorem dX4_latestUsable_38 : decode cX4_latestUsable 38 = .ok (.getfield 30, 3) := by decide +kernel
theorem dX4_latestUsable_41 : decode cX4_latestUsable 41 = .ok (.iload_n 2, 1) := by decide +kernel
theorem dX4_latestUsable_42 : decode cX4_latestUsable 42 = .ok (.aaload, 1) := by decide +kernel
theorem dX4_latestUsable_43 : decode cX4_latestUsable 43 = .ok (.areturn, 1) := by decide +kernel
theorem dX4_latestUsable_44 : decode cX4_latestUsable 44 = .ok (.iinc 2 (-1), 3) := by decide +kernel
theorem dX4_latestUsable_47 : decode cX4_latestUsable 47 = .ok (.goto (-40), 3) := by decide +kernel
theorem dX4_latestUsable_50 : decode cX4_latestUsable 50 = .ok (.aconst_null, 1) := by decide +kernel
theorem dX4_latestUsable_51 : decode cX4_latestUsable 51 = .ok (.areturn, 1) := by decide +kernel
theorem dX4_keptCount_0 : decode cX4_keptCount 0 = .ok (.iconst 0, 1) := by decide +kernel
theorem dX4_keptCount_1 : decode cX4_keptCount 1 = .ok (.istore_n 1, 1) := by decide +kernel
theorem dX4_keptCount_2 : decode cX4_keptCount 2 = .ok (.iconst 0, 1) := by decide +kernel
theorem dX4_keptCount_3 : decode cX4_keptCount 3 = .ok (.istore_n 2, 1) := by decide +kernel
theorem dX4_keptCount_4 : decode cX4_keptCount 4 = .ok (.iload_n 2, 1) := by decide +kernel
theorem dX4_keptCount_5 : decode cX4_keptCount 5 = .ok (.aload_n 0, 1) := by decide +kernel
theorem dX4_keptCount_6 : decode cX4_keptCount 6 = .ok (.getfield 46, 3) := by decide +kernel
theorem dX4_keptCount_9 : decode cX4_keptCount 9 = .ok (.if_icmp .ge 24, 3) := by decide +kernel
theorem dX4_keptCount_12 : decode cX4_keptCount 12 = .ok (.aload_n 0, 1) := by decide +kernel
theorem dX4_keptCount_13 : decode cX4_keptCount 13 = .ok (.getfield 30, 3) := by decide +kernel
theorem dX4_keptCount_16 : decode cX4_keptCount 16 = .ok (.iload_n 2, 1) := by decide +kernel
theorem dX4_keptCount_17 : decode cX4_keptCount 17 = .ok (.aaload, 1) := by decide +kernel
theorem dX4_keptCount_18 : decode cX4_keptCount 18 = .ok (.getfield 129, 3) := by decide +kernel
theorem dX4_keptCount_21 : decode cX4_keptCount 21 = .ok (.ifCond .eq 6, 3) := by decide +kernel
theorem dX4_keptCount_24 : decode cX4_keptCount 24 = .ok (.iinc 1 1, 3) := by decide +kernel
theorem dX4_keptCount_27 : decode cX4_keptCount 27 = .ok (.iinc 2 1, 3) := by decide +kernel
theorem dX4_keptCount_30 : decode cX4_keptCount 30 = .ok (.goto (-26), 3) := by decide +kernel
theorem dX4_keptCount_33 : decode cX4_keptCount 33 = .ok (.iload_n 1, 1) := by decide +kernel
theorem dX4_keptCount_34 : decode cX4_keptCount 34 = .ok (.ireturn, 1) := by decide +kernel
theorem dX4_keptNaming_0 : decode cX4_keptNaming 0 = .ok (.iconst 0, 1) := by decide +kernel
theorem dX4_keptNaming_1 : decode cX4_keptNaming 1 = .ok (.istore_n 2, 1) := by decide +kernel
theorem dX4_keptNaming_2 : decode cX4_keptNaming 2 = .ok (.iconst 0, 1) := by decide +kernel
theorem dX4_keptNaming_3 : decode cX4_keptNaming 3 = .ok (.istore_n 3, 1) := by decide +kernel
theorem dX4_keptNaming_4 : decode cX4_keptNaming 4 = .ok (.iload_n 3, 1) := by decide +kernel
theorem dX4_keptNaming_5 : decode cX4_keptNaming 5 = .ok (.aload_n 0, 1) := by decide +kernel
theorem dX4_keptNaming_6 : decode cX4_keptNaming 6 = .ok (.getfield 46, 3) := by decide +kernel
theorem dX4_keptNaming_9 : decode cX4_keptNaming 9 = .ok (.if_icmp .ge 37, 3) := by decide +kernel
theorem dX4_keptNaming_12 : decode cX4_keptNaming 12 = .ok (.aload_n 0, 1) := by decide +kernel
theorem dX4_keptNaming_13 : decode cX4_keptNaming 13 = .ok (.getfield 30, 3) := by decide +kernel
theorem dX4_keptNaming_16 : decode cX4_keptNaming 16 = .ok (.iload_n 3, 1) := by decide +kernel
theorem dX4_keptNaming_17 : decode cX4_keptNaming 17 = .ok (.aaload, 1) := by decide +kernel
theorem dX4_keptNaming_18 : decode cX4_keptNaming 18 = .ok (.getfield 129, 3) := by decide +kernel
theorem dX4_keptNaming_21 : decode cX4_keptNaming 21 = .ok (.ifCond .eq 19, 3) := by decide +kernel
theorem dX4_keptNaming_24 : decode cX4_keptNaming 24 = .ok (.aload_n 0, 1) := by decide +kernel
theorem dX4_keptNaming_25 : decode cX4_keptNaming 25 = .ok (.getfield 30, 3) := by decide +kernel
theorem dX4_keptNaming_28 : decode cX4_keptNaming 28 = .ok (.iload_n 3, 1) := by decide +kernel
theorem dX4_keptNaming_29 : decode cX4_keptNaming 29 = .ok (.aaload, 1) := by decide +kernel
theorem dX4_keptNaming_30 : decode cX4_keptNaming 30 = .ok (.iload_n 1, 1) := by decide +kernel
theorem dX4_keptNaming_31 : decode cX4_keptNaming 31 = .ok (.invokevirtual 274, 3) := by decide +kernel
theorem dX4_keptNaming_34 : decode cX4_keptNaming 34 = .ok (.ifCond .eq 6, 3) := by decide +kernel
theorem dX4_keptNaming_37 : decode cX4_keptNaming 37 = .ok (.iinc 2 1, 3) := by decide +kernel
theorem dX4_keptNaming_40 : decode cX4_keptNaming 40 = .ok (.iinc 3 1, 3) := by decide +kernel
theorem dX4_keptNaming_43 : decode cX4_keptNaming 43 = .ok (.goto (-39), 3) := by decide +kernel
theorem dX4_keptNaming_46 : decode cX4_keptNaming 46 = .ok (.iload_n 2, 1) := by decide +kernel
theorem dX4_keptNaming_47 : decode cX4_keptNaming 47 = .ok (.ireturn, 1) := by decide +kernel
theorem dX4_isUsable_0 : decode cX4_isUsable 0 = .ok (.aload_n 1, 1) := by decide +kernel
theorem dX4_isUsable_1 : decode cX4_isUsable 1 = .ok (.getfield 129, 3) := by decide +kernel
theorem dX4_isUsable_4 : decode cX4_isUsable 4 = .ok (.ifCond .ne 5, 3) := by decide +kernel
theorem dX4_isUsable_7 : decode cX4_isUsable 7 = .ok (.iconst 0, 1) := by decide +kernel
theorem dX4_isUsable_8 : decode cX4_isUsable 8 = .ok (.ireturn, 1) := by decide +kernel
theorem dX4_isUsable_9 : decode cX4_isUsable 9 = .ok (.iconst 0, 1) := by decide +kernel
theorem dX4_isUsable_10 : decode cX4_isUsable 10 = .ok (.istore_n 2, 1) := by decide +kernel
theorem dX4_isUsable_11 : decode cX4_isUsable 11 = .ok (.iload_n 2, 1) := by decide +kernel
theorem dX4_isUsable_12 : decode cX4_isUsable 12 = .ok (.aload_n 1, 1) := by decide +kernel
theorem dX4_isUsable_13 : decode cX4_isUsable 13 = .ok (.getfield 142, 3) := by decide +kernel
theorem dX4_isUsable_16 : decode cX4_isUsable 16 = .ok (.if_icmp .ge 45, 3) := by decide +kernel
theorem dX4_isUsable_19 : decode cX4_isUsable 19 = .ok (.iconst 0, 1) := by decide +kernel
theorem dX4_isUsable_20 : decode cX4_isUsable 20 = .ok (.istore_n 3, 1) := by decide +kernel
theorem dX4_isUsable_21 : decode cX4_isUsable 21 = .ok (.iload_n 3, 1) := by decide +kernel
theorem dX4_isUsable_22 : decode cX4_isUsable 22 = .ok (.aload_n 1, 1) := by decide +kernel
theorem dX4_isUsable_23 : decode cX4_isUsable 23 = .ok (.getfield 167, 3) := by decide +kernel
theorem dX4_isUsable_26 : decode cX4_isUsable 26 = .ok (.iload_n 2, 1) := by decide +kernel
theorem dX4_isUsable_27 : decode cX4_isUsable 27 = .ok (.iaload, 1) := by decide +kernel
theorem dX4_isUsable_28 : decode cX4_isUsable 28 = .ok (.if_icmp .ge 27, 3) := by decide +kernel
theorem dX4_isUsable_31 : decode cX4_isUsable 31 = .ok (.aload_n 0, 1) := by decide +kernel
theorem dX4_isUsable_32 : decode cX4_isUsable 32 = .ok (.aload_n 1, 1) := by decide +kernel
theorem dX4_isUsable_33 : decode cX4_isUsable 33 = .ok (.getfield 170, 3) := by decide +kernel
theorem dX4_isUsable_36 : decode cX4_isUsable 36 = .ok (.iload_n 2, 1) := by decide +kernel
theorem dX4_isUsable_37 : decode cX4_isUsable 37 = .ok (.aaload, 1) := by decide +kernel
theorem dX4_isUsable_38 : decode cX4_isUsable 38 = .ok (.iload_n 3, 1) := by decide +kernel
theorem dX4_isUsable_39 : decode cX4_isUsable 39 = .ok (.iaload, 1) := by decide +kernel
theorem dX4_isUsable_40 : decode cX4_isUsable 40 = .ok (.iload_n 2, 1) := by decide +kernel
theorem dX4_isUsable_41 : decode cX4_isUsable 41 = .ok (.invokevirtual 277, 3) := by decide +kernel
theorem dX4_isUsable_44 : decode cX4_isUsable 44 = .ok (.ifCond .ne 5, 3) := by decide +kernel
theorem dX4_isUsable_47 : decode cX4_isUsable 47 = .ok (.iconst 0, 1) := by decide +kernel
theorem dX4_isUsable_48 : decode cX4_isUsable 48 = .ok (.ireturn, 1) := by decide +kernel
theorem dX4_isUsable_49 : decode cX4_isUsable 49 = .ok (.iinc 3 1, 3) := by decide +kernel
theorem dX4_isUsable_52 : decode cX4_isUsable 52 = .ok (.goto (-31), 3) := by decide +kernel
theorem dX4_isUsable_55 : decode cX4_isUsable 55 = .ok (.iinc 2 1, 3) := by decide +kernel
theorem dX4_isUsable_58 : decode cX4_isUsable 58 = .ok (.goto (-47), 3) := by decide +kernel
theorem dX4_isUsable_61 : decode cX4_isUsable 61 = .ok (.iconst 1, 1) := by decide +kernel
theorem dX4_isUsable_62 : decode cX4_isUsable 62 = .ok (.ireturn, 1) := by decide +kernel
theorem dX4_isReadable_0 : decode cX4_isReadable 0 = .ok (.aload_n 0, 1) := by decide +kernel
theorem dX4_isReadable_1 : decode cX4_isReadable 1 = .ok (.getfield 24, 3) := by decide +kernel
theorem dX4_isReadable_4 : decode cX4_isReadable 4 = .ok (.iload_n 1, 1) := by decide +kernel
theorem dX4_isReadable_5 : decode cX4_isReadable 5 = .ok (.aload_n 0, 1) := by decide +kernel
theorem dX4_isReadable_6 : decode cX4_isReadable 6 = .ok (.getfield 17, 3) := by decide +kernel
theorem dX4_isReadable_9 : decode cX4_isReadable 9 = .ok (.iload_n 2, 1) := by decide +kernel
theorem dX4_isReadable_10 : decode cX4_isReadable 10 = .ok (.aaload, 1) := by decide +kernel
theorem dX4_isReadable_11 : decode cX4_isReadable 11 = .ok (.invokevirtual 191, 3) := by decide +kernel
theorem dX4_isReadable_14 : decode cX4_isReadable 14 = .ok (.ifCond .ne 21, 3) := by decide +kernel
theorem dX4_isReadable_17 : decode cX4_isReadable 17 = .ok (.aload_n 0, 1) := by decide +kernel
theorem dX4_isReadable_18 : decode cX4_isReadable 18 = .ok (.getfield 24, 3) := by decide +kernel
theorem dX4_isReadable_21 : decode cX4_isReadable 21 = .ok (.iload_n 1, 1) := by decide +kernel
theorem dX4_isReadable_22 : decode cX4_isReadable 22 = .ok (.aload_n 0, 1) := by decide +kernel
theorem dX4_isReadable_23 : decode cX4_isReadable 23 = .ok (.getfield 24, 3) := by decide +kernel
theorem dX4_isReadable_26 : decode cX4_isReadable 26 = .ok (.getfield 187, 3) := by decide +kernel
theorem dX4_isReadable_29 : decode cX4_isReadable 29 = .ok (.invokevirtual 191, 3) := by decide +kernel
theorem dX4_isReadable_32 : decode cX4_isReadable 32 = .ok (.ifCond .eq 7, 3) := by decide +kernel
theorem dX4_isReadable_35 : decode cX4_isReadable 35 = .ok (.iconst 1, 1) := by decide +kernel
theorem dX4_isReadable_36 : decode cX4_isReadable 36 = .ok (.goto 4, 3) := by decide +kernel
theorem dX4_isReadable_39 : decode cX4_isReadable 39 = .ok (.iconst 0, 1) := by decide +kernel
theorem dX4_isReadable_40 : decode cX4_isReadable 40 = .ok (.ireturn, 1) := by decide +kernel
theorem dX4_readState_0 : decode cX4_readState 0 = .ok (.aload_n 0, 1) := by decide +kernel
theorem dX4_readState_1 : decode cX4_readState 1 = .ok (.getfield 11, 3) := by decide +kernel
theorem dX4_readState_4 : decode cX4_readState 4 = .ok (.iload_n 2, 1) := by decide +kernel
theorem dX4_readState_5 : decode cX4_readState 5 = .ok (.aaload, 1) := by decide +kernel
theorem dX4_readState_6 : decode cX4_readState 6 = .ok (.astore_n 3, 1) := by decide +kernel
theorem dX4_readState_7 : decode cX4_readState 7 = .ok (.aload_n 3, 1) := by decide +kernel
theorem dX4_readState_8 : decode cX4_readState 8 = .ok (.iconst 0, 1) := by decide +kernel
theorem dX4_readState_9 : decode cX4_readState 9 = .ok (.putfield 59, 3) := by decide +kernel
theorem dX4_readState_12 : decode cX4_readState 12 = .ok (.iconst 0, 1) := by decide +kernel
theorem dX4_readState_13 : decode cX4_readState 13 = .ok (.istore 4, 2) := by decide +kernel
theorem dX4_readState_15 : decode cX4_readState 15 = .ok (.iload 4, 2) := by decide +kernel
theorem dX4_readState_17 : decode cX4_readState 17 = .ok (.aload_n 1, 1) := by decide +kernel
theorem dX4_readState_18 : decode cX4_readState 18 = .ok (.getfield 167, 3) := by decide +kernel
theorem dX4_readState_21 : decode cX4_readState 21 = .ok (.iload_n 2, 1) := by decide +kernel
theorem dX4_readState_22 : decode cX4_readState 22 = .ok (.iaload, 1) := by decide +kernel
theorem dX4_readState_23 : decode cX4_readState 23 = .ok (.if_icmp .ge 55, 3) := by decide +kernel
theorem dX4_readState_26 : decode cX4_readState 26 = .ok (.aload_n 1, 1) := by decide +kernel
theorem dX4_readState_27 : decode cX4_readState 27 = .ok (.getfield 170, 3) := by decide +kernel
theorem dX4_readState_30 : decode cX4_readState 30 = .ok (.iload_n 2, 1) := by decide +kernel
theorem dX4_readState_31 : decode cX4_readState 31 = .ok (.aaload, 1) := by decide +kernel
theorem dX4_readState_32 : decode cX4_readState 32 = .ok (.iload 4, 2) := by decide +kernel
theorem dX4_readState_34 : decode cX4_readState 34 = .ok (.iaload, 1) := by decide +kernel
theorem dX4_readState_35 : decode cX4_readState 35 = .ok (.istore 5, 2) := by decide +kernel
theorem dX4_readState_37 : decode cX4_readState 37 = .ok (.aload_n 0, 1) := by decide +kernel
theorem dX4_readState_38 : decode cX4_readState 38 = .ok (.iload 5, 2) := by decide +kernel
theorem dX4_readState_40 : decode cX4_readState 40 = .ok (.iload_n 2, 1) := by decide +kernel
theorem dX4_readState_41 : decode cX4_readState 41 = .ok (.invokevirtual 281, 3) := by decide +kernel
theorem dX4_readState_44 : decode cX4_readState 44 = .ok (.aload_n 3, 1) := by decide +kernel
theorem dX4_readState_45 : decode cX4_readState 45 = .ok (.aload_n 0, 1) := by decide +kernel
theorem dX4_readState_46 : decode cX4_readState 46 = .ok (.getfield 17, 3) := by decide +kernel
theorem dX4_readState_49 : decode cX4_readState 49 = .ok (.iload_n 2, 1) := by decide +kernel
theorem dX4_readState_50 : decode cX4_readState 50 = .ok (.aaload, 1) := by decide +kernel
theorem dX4_readState_51 : decode cX4_readState 51 = .ok (.getfield 206, 3) := by decide +kernel
theorem dX4_readState_54 : decode cX4_readState 54 = .ok (.iload 5, 2) := by decide +kernel
theorem dX4_readState_56 : decode cX4_readState 56 = .ok (.bipush 32, 2) := by decide +kernel
theorem dX4_readState_58 : decode cX4_readState 58 = .ok (.imul, 1) := by decide +kernel
theorem dX4_readState_59 : decode cX4_readState 59 = .ok (.aload_n 0, 1) := by decide +kernel
theorem dX4_readState_60 : decode cX4_readState 60 = .ok (.getfield 24, 3) := by decide +kernel
theorem dX4_readState_63 : decode cX4_readState 63 = .ok (.getfield 180, 3) := by decide +kernel
theorem dX4_readState_66 : decode cX4_readState 66 = .ok (.iload 5, 2) := by decide +kernel
theorem dX4_readState_68 : decode cX4_readState 68 = .ok (.iaload, 1) := by decide +kernel
theorem dX4_readState_69 : decode cX4_readState 69 = .ok (.invokevirtual 94, 3) := by decide +kernel
theorem dX4_readState_72 : decode cX4_readState 72 = .ok (.iinc 4 1, 3) := by decide +kernel
theorem dX4_readState_75 : decode cX4_readState 75 = .ok (.goto (-60), 3) := by decide +kernel
theorem dX4_readState_78 : decode cX4_readState 78 = .ok (.return_, 1) := by decide +kernel
theorem dX4_readPart_0 : decode cX4_readPart 0 = .ok (.aload_n 0, 1) := by decide +kernel
theorem dX4_readPart_1 : decode cX4_readPart 1 = .ok (.getfield 24, 3) := by decide +kernel
theorem dX4_readPart_4 : decode cX4_readPart 4 = .ok (.iload_n 1, 1) := by decide +kernel
theorem dX4_readPart_5 : decode cX4_readPart 5 = .ok (.aload_n 0, 1) := by decide +kernel
theorem dX4_readPart_6 : decode cX4_readPart 6 = .ok (.getfield 17, 3) := by decide +kernel
theorem dX4_readPart_9 : decode cX4_readPart 9 = .ok (.iload_n 2, 1) := by decide +kernel
theorem dX4_readPart_10 : decode cX4_readPart 10 = .ok (.aaload, 1) := by decide +kernel
theorem dX4_readPart_11 : decode cX4_readPart 11 = .ok (.invokevirtual 191, 3) := by decide +kernel
theorem dX4_readPart_14 : decode cX4_readPart 14 = .ok (.ifCond .ne 36, 3) := by decide +kernel
theorem dX4_readPart_17 : decode cX4_readPart 17 = .ok (.aload_n 0, 1) := by decide +kernel
theorem dX4_readPart_18 : decode cX4_readPart 18 = .ok (.getfield 17, 3) := by decide +kernel
theorem dX4_readPart_21 : decode cX4_readPart 21 = .ok (.iload_n 2, 1) := by decide +kernel
theorem dX4_readPart_22 : decode cX4_readPart 22 = .ok (.aaload, 1) := by decide +kernel
theorem dX4_readPart_23 : decode cX4_readPart 23 = .ok (.iload_n 1, 1) := by decide +kernel
theorem dX4_readPart_24 : decode cX4_readPart 24 = .ok (.aload_n 0, 1) := by decide +kernel
theorem dX4_readPart_25 : decode cX4_readPart 25 = .ok (.getfield 24, 3) := by decide +kernel
theorem dX4_readPart_28 : decode cX4_readPart 28 = .ok (.getfield 187, 3) := by decide +kernel
theorem dX4_readPart_31 : decode cX4_readPart 31 = .ok (.getfield 206, 3) := by decide +kernel
theorem dX4_readPart_34 : decode cX4_readPart 34 = .ok (.iload_n 1, 1) := by decide +kernel
theorem dX4_readPart_35 : decode cX4_readPart 35 = .ok (.bipush 32, 2) := by decide +kernel
theorem dX4_readPart_37 : decode cX4_readPart 37 = .ok (.imul, 1) := by decide +kernel
theorem dX4_readPart_38 : decode cX4_readPart 38 = .ok (.aload_n 0, 1) := by decide +kernel
theorem dX4_readPart_39 : decode cX4_readPart 39 = .ok (.getfield 24, 3) := by decide +kernel
theorem dX4_readPart_42 : decode cX4_readPart 42 = .ok (.getfield 180, 3) := by decide +kernel
theorem dX4_readPart_45 : decode cX4_readPart 45 = .ok (.iload_n 1, 1) := by decide +kernel
theorem dX4_readPart_46 : decode cX4_readPart 46 = .ok (.iaload, 1) := by decide +kernel
theorem dX4_readPart_47 : decode cX4_readPart 47 = .ok (.invokevirtual 251, 3) := by decide +kernel
theorem dX4_readPart_50 : decode cX4_readPart 50 = .ok (.return_, 1) := by decide +kernel
theorem dX4_shelfOf_0 : decode cX4_shelfOf 0 = .ok (.iload_n 1, 1) := by decide +kernel
theorem dX4_shelfOf_1 : decode cX4_shelfOf 1 = .ok (.iconst (-1), 1) := by decide +kernel
theorem dX4_shelfOf_2 : decode cX4_shelfOf 2 = .ok (.if_icmp .ne 11, 3) := by decide +kernel
theorem dX4_shelfOf_5 : decode cX4_shelfOf 5 = .ok (.aload_n 0, 1) := by decide +kernel
theorem dX4_shelfOf_6 : decode cX4_shelfOf 6 = .ok (.getfield 24, 3) := by decide +kernel
theorem dX4_shelfOf_9 : decode cX4_shelfOf 9 = .ok (.getfield 187, 3) := by decide +kernel
theorem dX4_shelfOf_12 : decode cX4_shelfOf 12 = .ok (.areturn, 1) := by decide +kernel
theorem dX4_shelfOf_13 : decode cX4_shelfOf 13 = .ok (.aload_n 0, 1) := by decide +kernel
theorem dX4_shelfOf_14 : decode cX4_shelfOf 14 = .ok (.iload_n 1, 1) := by decide +kernel
theorem dX4_shelfOf_15 : decode cX4_shelfOf 15 = .ok (.invokevirtual 55, 3) := by decide +kernel
theorem dX4_shelfOf_18 : decode cX4_shelfOf 18 = .ok (.ifCond .eq 12, 3) := by decide +kernel
theorem dX4_shelfOf_21 : decode cX4_shelfOf 21 = .ok (.aload_n 0, 1) := by decide +kernel
theorem dX4_shelfOf_22 : decode cX4_shelfOf 22 = .ok (.getfield 17, 3) := by decide +kernel
theorem dX4_shelfOf_25 : decode cX4_shelfOf 25 = .ok (.iload_n 1, 1) := by decide +kernel
theorem dX4_shelfOf_26 : decode cX4_shelfOf 26 = .ok (.aaload, 1) := by decide +kernel
theorem dX4_shelfOf_27 : decode cX4_shelfOf 27 = .ok (.goto 4, 3) := by decide +kernel
theorem dX4_shelfOf_30 : decode cX4_shelfOf 30 = .ok (.aconst_null, 1) := by decide +kernel
theorem dX4_shelfOf_31 : decode cX4_shelfOf 31 = .ok (.areturn, 1) := by decide +kernel
theorem dX4_copyCount_0 : decode cX4_copyCount 0 = .ok (.iconst 0, 1) := by decide +kernel
theorem dX4_copyCount_1 : decode cX4_copyCount 1 = .ok (.istore_n 2, 1) := by decide +kernel
theorem dX4_copyCount_2 : decode cX4_copyCount 2 = .ok (.iconst 0, 1) := by decide +kernel
theorem dX4_copyCount_3 : decode cX4_copyCount 3 = .ok (.istore_n 3, 1) := by decide +kernel
theorem dX4_copyCount_4 : decode cX4_copyCount 4 = .ok (.iload_n 3, 1) := by decide +kernel
theorem dX4_copyCount_5 : decode cX4_copyCount 5 = .ok (.aload_n 0, 1) := by decide +kernel
theorem dX4_copyCount_6 : decode cX4_copyCount 6 = .ok (.getfield 42, 3) := by decide +kernel
theorem dX4_copyCount_9 : decode cX4_copyCount 9 = .ok (.if_icmp .ge 26, 3) := by decide +kernel
theorem dX4_copyCount_12 : decode cX4_copyCount 12 = .ok (.aload_n 0, 1) := by decide +kernel
theorem dX4_copyCount_13 : decode cX4_copyCount 13 = .ok (.getfield 17, 3) := by decide +kernel
theorem dX4_copyCount_16 : decode cX4_copyCount 16 = .ok (.iload_n 3, 1) := by decide +kernel
theorem dX4_copyCount_17 : decode cX4_copyCount 17 = .ok (.aaload, 1) := by decide +kernel
theorem dX4_copyCount_18 : decode cX4_copyCount 18 = .ok (.getfield 207, 3) := by decide +kernel
theorem dX4_copyCount_21 : decode cX4_copyCount 21 = .ok (.iload_n 1, 1) := by decide +kernel
theorem dX4_copyCount_22 : decode cX4_copyCount 22 = .ok (.baload, 1) := by decide +kernel
theorem dX4_copyCount_23 : decode cX4_copyCount 23 = .ok (.ifCond .eq 6, 3) := by decide +kernel
theorem dX4_copyCount_26 : decode cX4_copyCount 26 = .ok (.iinc 2 1, 3) := by decide +kernel
theorem dX4_copyCount_29 : decode cX4_copyCount 29 = .ok (.iinc 3 1, 3) := by decide +kernel
theorem dX4_copyCount_32 : decode cX4_copyCount 32 = .ok (.goto (-28), 3) := by decide +kernel
theorem dX4_copyCount_35 : decode cX4_copyCount 35 = .ok (.iload_n 2, 1) := by decide +kernel
theorem dX4_copyCount_36 : decode cX4_copyCount 36 = .ok (.ireturn, 1) := by decide +kernel
theorem dX4_allCopies_0 : decode cX4_allCopies 0 = .ok (.iconst 0, 1) := by decide +kernel
theorem dX4_allCopies_1 : decode cX4_allCopies 1 = .ok (.istore_n 1, 1) := by decide +kernel
theorem dX4_allCopies_2 : decode cX4_allCopies 2 = .ok (.iconst 0, 1) := by decide +kernel
theorem dX4_allCopies_3 : decode cX4_allCopies 3 = .ok (.istore_n 2, 1) := by decide +kernel
theorem dX4_allCopies_4 : decode cX4_allCopies 4 = .ok (.iload_n 2, 1) := by decide +kernel
theorem dX4_allCopies_5 : decode cX4_allCopies 5 = .ok (.bipush 120, 2) := by decide +kernel
theorem dX4_allCopies_7 : decode cX4_allCopies 7 = .ok (.if_icmp .ge 17, 3) := by decide +kernel
theorem dX4_allCopies_10 : decode cX4_allCopies 10 = .ok (.iload_n 1, 1) := by decide +kernel
theorem dX4_allCopies_11 : decode cX4_allCopies 11 = .ok (.aload_n 0, 1) := by decide +kernel
theorem dX4_allCopies_12 : decode cX4_allCopies 12 = .ok (.iload_n 2, 1) := by decide +kernel
theorem dX4_allCopies_13 : decode cX4_allCopies 13 = .ok (.invokevirtual 195, 3) := by decide +kernel
theorem dX4_allCopies_16 : decode cX4_allCopies 16 = .ok (.iadd, 1) := by decide +kernel
theorem dX4_allCopies_17 : decode cX4_allCopies 17 = .ok (.istore_n 1, 1) := by decide +kernel
theorem dX4_allCopies_18 : decode cX4_allCopies 18 = .ok (.iinc 2 1, 3) := by decide +kernel
theorem dX4_allCopies_21 : decode cX4_allCopies 21 = .ok (.goto (-17), 3) := by decide +kernel
theorem dX4_allCopies_24 : decode cX4_allCopies 24 = .ok (.iload_n 1, 1) := by decide +kernel
theorem dX4_allCopies_25 : decode cX4_allCopies 25 = .ok (.ireturn, 1) := by decide +kernel
theorem dX4_digestOf_0 : decode cX4_digestOf 0 = .ok (.iconst 1, 1) := by decide +kernel
theorem dX4_digestOf_1 : decode cX4_digestOf 1 = .ok (.istore_n 3, 1) := by decide +kernel
theorem dX4_digestOf_2 : decode cX4_digestOf 2 = .ok (.iconst 0, 1) := by decide +kernel
theorem dX4_digestOf_3 : decode cX4_digestOf 3 = .ok (.istore 4, 2) := by decide +kernel
theorem dX4_digestOf_5 : decode cX4_digestOf 5 = .ok (.iload 4, 2) := by decide +kernel
theorem dX4_digestOf_7 : decode cX4_digestOf 7 = .ok (.iload_n 2, 1) := by decide +kernel
theorem dX4_digestOf_8 : decode cX4_digestOf 8 = .ok (.if_icmp .ge 24, 3) := by decide +kernel
theorem dX4_digestOf_11 : decode cX4_digestOf 11 = .ok (.bipush 31, 2) := by decide +kernel
theorem dX4_digestOf_13 : decode cX4_digestOf 13 = .ok (.iload_n 3, 1) := by decide +kernel
theorem dX4_digestOf_14 : decode cX4_digestOf 14 = .ok (.imul, 1) := by decide +kernel
theorem dX4_digestOf_15 : decode cX4_digestOf 15 = .ok (.aload_n 0, 1) := by decide +kernel
theorem dX4_digestOf_16 : decode cX4_digestOf 16 = .ok (.iload_n 1, 1) := by decide +kernel
theorem dX4_digestOf_17 : decode cX4_digestOf 17 = .ok (.iload 4, 2) := by decide +kernel
theorem dX4_digestOf_19 : decode cX4_digestOf 19 = .ok (.iadd, 1) := by decide +kernel
theorem dX4_digestOf_20 : decode cX4_digestOf 20 = .ok (.iaload, 1) := by decide +kernel
theorem dX4_digestOf_21 : decode cX4_digestOf 21 = .ok (.iadd, 1) := by decide +kernel
theorem dX4_digestOf_22 : decode cX4_digestOf 22 = .ok (.bipush 61, 2) := by decide +kernel
theorem dX4_digestOf_24 : decode cX4_digestOf 24 = .ok (.irem, 1) := by decide +kernel
theorem dX4_digestOf_25 : decode cX4_digestOf 25 = .ok (.istore_n 3, 1) := by decide +kernel
theorem dX4_digestOf_26 : decode cX4_digestOf 26 = .ok (.iinc 4 1, 3) := by decide +kernel
theorem dX4_digestOf_29 : decode cX4_digestOf 29 = .ok (.goto (-24), 3) := by decide +kernel
theorem dX4_digestOf_32 : decode cX4_digestOf 32 = .ok (.iload_n 3, 1) := by decide +kernel
theorem dX4_digestOf_33 : decode cX4_digestOf 33 = .ok (.ireturn, 1) := by decide +kernel
theorem dX5_init_0 : decode cX5_init 0 = .ok (.aload_n 0, 1) := by decide +kernel
theorem dX5_init_1 : decode cX5_init 1 = .ok (.invokespecial 1, 3) := by decide +kernel
theorem dX5_init_4 : decode cX5_init 4 = .ok (.aload_n 0, 1) := by decide +kernel
theorem dX5_init_5 : decode cX5_init 5 = .ok (.iconst 2, 1) := by decide +kernel
theorem dX5_init_6 : decode cX5_init 6 = .ok (.putfield 7, 3) := by decide +kernel
theorem dX5_init_9 : decode cX5_init 9 = .ok (.aload_n 0, 1) := by decide +kernel
theorem dX5_init_10 : decode cX5_init 10 = .ok (.iconst 4, 1) := by decide +kernel
theorem dX5_init_11 : decode cX5_init 11 = .ok (.newarray .int, 2) := by decide +kernel
theorem dX5_init_13 : decode cX5_init 13 = .ok (.putfield 13, 3) := by decide +kernel
theorem dX5_init_16 : decode cX5_init 16 = .ok (.aload_n 0, 1) := by decide +kernel
theorem dX5_init_17 : decode cX5_init 17 = .ok (.sipush 1200, 3) := by decide +kernel
theorem dX5_init_20 : decode cX5_init 20 = .ok (.newarray .int, 2) := by decide +kernel
theorem dX5_init_22 : decode cX5_init 22 = .ok (.putfield 17, 3) := by decide +kernel
theorem dX5_init_25 : decode cX5_init 25 = .ok (.aload_n 0, 1) := by decide +kernel
theorem dX5_init_26 : decode cX5_init 26 = .ok (.sipush 1200, 3) := by decide +kernel
theorem dX5_init_29 : decode cX5_init 29 = .ok (.newarray .int, 2) := by decide +kernel
theorem dX5_init_31 : decode cX5_init 31 = .ok (.putfield 20, 3) := by decide +kernel
theorem dX5_init_34 : decode cX5_init 34 = .ok (.aload_n 0, 1) := by decide +kernel
theorem dX5_init_35 : decode cX5_init 35 = .ok (.bipush 120, 2) := by decide +kernel
theorem dX5_init_37 : decode cX5_init 37 = .ok (.newarray .int, 2) := by decide +kernel
theorem dX5_init_39 : decode cX5_init 39 = .ok (.putfield 23, 3) := by decide +kernel
theorem dX5_init_42 : decode cX5_init 42 = .ok (.aload_n 0, 1) := by decide +kernel
theorem dX5_init_43 : decode cX5_init 43 = .ok (.bipush 120, 2) := by decide +kernel
theorem dX5_init_45 : decode cX5_init 45 = .ok (.newarray .int, 2) := by decide +kernel
theorem dX5_init_47 : decode cX5_init 47 = .ok (.putfield 26, 3) := by decide +kernel
theorem dX5_init_50 : decode cX5_init 50 = .ok (.aload_n 0, 1) := by decide +kernel
theorem dX5_init_51 : decode cX5_init 51 = .ok (.bipush 120, 2) := by decide +kernel
theorem dX5_init_53 : decode cX5_init 53 = .ok (.newarray .boolean, 2) := by decide +kernel
theorem dX5_init_55 : decode cX5_init 55 = .ok (.putfield 29, 3) := by decide +kernel
theorem dX5_init_58 : decode cX5_init 58 = .ok (.aload_n 0, 1) := by decide +kernel
theorem dX5_init_59 : decode cX5_init 59 = .ok (.sipush 3840, 3) := by decide +kernel
theorem dX5_init_62 : decode cX5_init 62 = .ok (.newarray .int, 2) := by decide +kernel
theorem dX5_init_64 : decode cX5_init 64 = .ok (.putfield 33, 3) := by decide +kernel
theorem dX5_init_67 : decode cX5_init 67 = .ok (.aload_n 0, 1) := by decide +kernel
theorem dX5_init_68 : decode cX5_init 68 = .ok (.sipush 480, 3) := by decide +kernel
theorem dX5_init_71 : decode cX5_init 71 = .ok (.newarray .boolean, 2) := by decide +kernel
theorem dX5_init_73 : decode cX5_init 73 = .ok (.putfield 36, 3) := by decide +kernel
theorem dX5_init_76 : decode cX5_init 76 = .ok (.aload_n 0, 1) := by decide +kernel
theorem dX5_init_77 : decode cX5_init 77 = .ok (.sipush 15360, 3) := by decide +kernel
theorem dX5_init_80 : decode cX5_init 80 = .ok (.newarray .int, 2) := by decide +kernel
theorem dX5_init_82 : decode cX5_init 82 = .ok (.putfield 39, 3) := by decide +kernel
theorem dX5_init_85 : decode cX5_init 85 = .ok (.aload_n 0, 1) := by decide +kernel
theorem dX5_init_86 : decode cX5_init 86 = .ok (.bipush 12, 2) := by decide +kernel
theorem dX5_init_88 : decode cX5_init 88 = .ok (.newarray .int, 2) := by decide +kernel
theorem dX5_init_90 : decode cX5_init 90 = .ok (.putfield 42, 3) := by decide +kernel
theorem dX5_init_93 : decode cX5_init 93 = .ok (.aload_n 0, 1) := by decide +kernel
theorem dX5_init_94 : decode cX5_init 94 = .ok (.bipush 12, 2) := by decide +kernel
theorem dX5_init_96 : decode cX5_init 96 = .ok (.newarray .boolean, 2) := by decide +kernel
theorem dX5_init_98 : decode cX5_init 98 = .ok (.putfield 45, 3) := by decide +kernel
theorem dX5_init_101 : decode cX5_init 101 = .ok (.aload_n 0, 1) := by decide +kernel
theorem dX5_init_102 : decode cX5_init 102 = .ok (.bipush 12, 2) := by decide +kernel
theorem dX5_init_104 : decode cX5_init 104 = .ok (.newarray .int, 2) := by decide +kernel
theorem dX5_init_106 : decode cX5_init 106 = .ok (.putfield 48, 3) := by decide +kernel
theorem dX5_init_109 : decode cX5_init 109 = .ok (.aload_n 0, 1) := by decide +kernel
theorem dX5_init_110 : decode cX5_init 110 = .ok (.bipush 12, 2) := by decide +kernel
theorem dX5_init_112 : decode cX5_init 112 = .ok (.newarray .int, 2) := by decide +kernel
theorem dX5_init_114 : decode cX5_init 114 = .ok (.putfield 51, 3) := by decide +kernel
theorem dX5_init_117 : decode cX5_init 117 = .ok (.aload_n 0, 1) := by decide +kernel
theorem dX5_init_118 : decode cX5_init 118 = .ok (.bipush 48, 2) := by decide +kernel
theorem dX5_init_120 : decode cX5_init 120 = .ok (.newarray .int, 2) := by decide +kernel
theorem dX5_init_122 : decode cX5_init 122 = .ok (.putfield 54, 3) := by decide +kernel
theorem dX5_init_125 : decode cX5_init 125 = .ok (.aload_n 0, 1) := by decide +kernel
theorem dX5_init_126 : decode cX5_init 126 = .ok (.sipush 3840, 3) := by decide +kernel
theorem dX5_init_129 : decode cX5_init 129 = .ok (.newarray .int, 2) := by decide +kernel
theorem dX5_init_131 : decode cX5_init 131 = .ok (.putfield 57, 3) := by decide +kernel
theorem dX5_init_134 : decode cX5_init 134 = .ok (.aload_n 0, 1) := by decide +kernel
theorem dX5_init_135 : decode cX5_init 135 = .ok (.bipush 12, 2) := by decide +kernel
theorem dX5_init_137 : decode cX5_init 137 = .ok (.newarray .int, 2) := by decide +kernel
theorem dX5_init_139 : decode cX5_init 139 = .ok (.putfield 60, 3) := by decide +kernel
theorem dX5_init_142 : decode cX5_init 142 = .ok (.aload_n 0, 1) := by decide +kernel
theorem dX5_init_143 : decode cX5_init 143 = .ok (.bipush 12, 2) := by decide +kernel
theorem dX5_init_145 : decode cX5_init 145 = .ok (.newarray .int, 2) := by decide +kernel
theorem dX5_init_147 : decode cX5_init 147 = .ok (.putfield 63, 3) := by decide +kernel
theorem dX5_init_150 : decode cX5_init 150 = .ok (.aload_n 0, 1) := by decide +kernel
theorem dX5_init_151 : decode cX5_init 151 = .ok (.bipush 12, 2) := by decide +kernel
theorem dX5_init_153 : decode cX5_init 153 = .ok (.newarray .int, 2) := by decide +kernel
theorem dX5_init_155 : decode cX5_init 155 = .ok (.putfield 66, 3) := by decide +kernel
theorem dX5_init_158 : decode cX5_init 158 = .ok (.aload_n 0, 1) := by decide +kernel
theorem dX5_init_159 : decode cX5_init 159 = .ok (.bipush 120, 2) := by decide +kernel
theorem dX5_init_161 : decode cX5_init 161 = .ok (.newarray .boolean, 2) := by decide +kernel
theorem dX5_init_163 : decode cX5_init 163 = .ok (.putfield 69, 3) := by decide +kernel
theorem dX5_init_166 : decode cX5_init 166 = .ok (.iconst 0, 1) := by decide +kernel
theorem dX5_init_167 : decode cX5_init 167 = .ok (.istore_n 1, 1) := by decide +kernel
theorem dX5_init_168 : decode cX5_init 168 = .ok (.iload_n 1, 1) := by decide +kernel
theorem dX5_init_169 : decode cX5_init 169 = .ok (.bipush 12, 2) := by decide +kernel
theorem dX5_init_171 : decode cX5_init 171 = .ok (.if_icmp .ge 16, 3) := by decide +kernel
theorem dX5_init_174 : decode cX5_init 174 = .ok (.aload_n 0, 1) := by decide +kernel
theorem dX5_init_175 : decode cX5_init 175 = .ok (.getfield 42, 3) := by decide +kernel
theorem dX5_init_178 : decode cX5_init 178 = .ok (.iload_n 1, 1) := by decide +kernel
theorem dX5_init_179 : decode cX5_init 179 = .ok (.iconst (-1), 1) := by decide +kernel
theorem dX5_init_180 : decode cX5_init 180 = .ok (.iastore, 1) := by decide +kernel
theorem dX5_init_181 : decode cX5_init 181 = .ok (.iinc 1 1, 3) := by decide +kernel
theorem dX5_init_184 : decode cX5_init 184 = .ok (.goto (-16), 3) := by decide +kernel
theorem dX5_init_187 : decode cX5_init 187 = .ok (.return_, 1) := by decide +kernel
theorem dX5_in_0 : decode cX5_in 0 = .ok (.iload_n 0, 1) := by decide +kernel
theorem dX5_in_1 : decode cX5_in 1 = .ok (.iload_n 1, 1) := by decide +kernel
theorem dX5_in_2 : decode cX5_in 2 = .ok (.if_icmp .lt 12, 3) := by decide +kernel
theorem dX5_in_5 : decode cX5_in 5 = .ok (.iload_n 0, 1) := by decide +kernel
theorem dX5_in_6 : decode cX5_in 6 = .ok (.iload_n 2, 1) := by decide +kernel
theorem dX5_in_7 : decode cX5_in 7 = .ok (.if_icmp .gt 7, 3) := by decide +kernel
theorem dX5_in_10 : decode cX5_in 10 = .ok (.iconst 1, 1) := by decide +kernel
theorem dX5_in_11 : decode cX5_in 11 = .ok (.goto 4, 3) := by decide +kernel
theorem dX5_in_14 : decode cX5_in 14 = .ok (.iconst 0, 1) := by decide +kernel
theorem dX5_in_15 : decode cX5_in 15 = .ok (.ireturn, 1) := by decide +kernel
theorem dX5_isTask_0 : decode cX5_isTask 0 = .ok (.iload_n 1, 1) := by decide +kernel
theorem dX5_isTask_1 : decode cX5_isTask 1 = .ok (.iconst 0, 1) := by decide +kernel
theorem dX5_isTask_2 : decode cX5_isTask 2 = .ok (.aload_n 0, 1) := by decide +kernel
theorem dX5_isTask_3 : decode cX5_isTask 3 = .ok (.getfield 7, 3) := by decide +kernel
theorem dX5_isTask_6 : decode cX5_isTask 6 = .ok (.iconst 1, 1) := by decide +kernel
theorem dX5_isTask_7 : decode cX5_isTask 7 = .ok (.isub, 1) := by decide +kernel
theorem dX5_isTask_8 : decode cX5_isTask 8 = .ok (.invokestatic 72, 3) := by decide +kernel
theorem dX5_isTask_11 : decode cX5_isTask 11 = .ok (.ireturn, 1) := by decide +kernel
theorem dX5_insert_0 : decode cX5_insert 0 = .ok (.aload_n 0, 1) := by decide +kernel
theorem dX5_insert_1 : decode cX5_insert 1 = .ok (.iload_n 1, 1) := by decide +kernel
theorem dX5_insert_2 : decode cX5_insert 2 = .ok (.invokevirtual 76, 3) := by decide +kernel
theorem dX5_insert_5 : decode cX5_insert 5 = .ok (.ifCond .eq 27, 3) := by decide +kernel
theorem dX5_insert_8 : decode cX5_insert 8 = .ok (.iload_n 2, 1) := by decide +kernel
theorem dX5_insert_9 : decode cX5_insert 9 = .ok (.iconst 0, 1) := by decide +kernel
theorem dX5_insert_10 : decode cX5_insert 10 = .ok (.aload_n 0, 1) := by decide +kernel
theorem dX5_insert_11 : decode cX5_insert 11 = .ok (.getfield 13, 3) := by decide +kernel
theorem dX5_insert_14 : decode cX5_insert 14 = .ok (.iload_n 1, 1) := by decide +kernel
theorem dX5_insert_15 : decode cX5_insert 15 = .ok (.iaload, 1) := by decide +kernel
theorem dX5_insert_16 : decode cX5_insert 16 = .ok (.invokestatic 72, 3) := by decide +kernel
theorem dX5_insert_19 : decode cX5_insert 19 = .ok (.ifCond .eq 13, 3) := by decide +kernel
theorem dX5_insert_22 : decode cX5_insert 22 = .ok (.iload_n 3, 1) := by decide +kernel
theorem dX5_insert_23 : decode cX5_insert 23 = .ok (.iconst 0, 1) := by decide +kernel
theorem dX5_insert_24 : decode cX5_insert 24 = .ok (.bipush 8, 2) := by decide +kernel
theorem dX5_insert_26 : decode cX5_insert 26 = .ok (.invokestatic 72, 3) := by decide +kernel
theorem dX5_insert_29 : decode cX5_insert 29 = .ok (.ifCond .ne 6, 3) := by decide +kernel
theorem dX5_insert_32 : decode cX5_insert 32 = .ok (.bipush (-2), 2) := by decide +kernel
theorem dX5_insert_34 : decode cX5_insert 34 = .ok (.ireturn, 1) := by decide +kernel
theorem dX5_insert_35 : decode cX5_insert 35 = .ok (.aload_n 0, 1) := by decide +kernel
theorem dX5_insert_36 : decode cX5_insert 36 = .ok (.getfield 13, 3) := by decide +kernel
theorem dX5_insert_39 : decode cX5_insert 39 = .ok (.iload_n 1, 1) := by decide +kernel
theorem dX5_insert_40 : decode cX5_insert 40 = .ok (.iaload, 1) := by decide +kernel
theorem dX5_insert_41 : decode cX5_insert 41 = .ok (.iload_n 3, 1) := by decide +kernel
theorem dX5_insert_42 : decode cX5_insert 42 = .ok (.iadd, 1) := by decide +kernel
theorem dX5_insert_43 : decode cX5_insert 43 = .ok (.sipush 300, 3) := by decide +kernel
theorem dX5_insert_46 : decode cX5_insert 46 = .ok (.if_icmp .le 6, 3) := by decide +kernel
theorem dX5_insert_49 : decode cX5_insert 49 = .ok (.bipush (-3), 2) := by decide +kernel
theorem dX5_insert_51 : decode cX5_insert 51 = .ok (.ireturn, 1) := by decide +kernel
theorem dX5_insert_52 : decode cX5_insert 52 = .ok (.sipush 300, 3) := by decide +kernel
theorem dX5_insert_55 : decode cX5_insert 55 = .ok (.iload_n 1, 1) := by decide +kernel
theorem dX5_insert_56 : decode cX5_insert 56 = .ok (.imul, 1) := by decide +kernel
theorem dX5_insert_57 : decode cX5_insert 57 = .ok (.istore 6, 2) := by decide +kernel
theorem dX5_insert_59 : decode cX5_insert 59 = .ok (.aload_n 0, 1) := by decide +kernel
theorem dX5_insert_60 : decode cX5_insert 60 = .ok (.getfield 13, 3) := by decide +kernel
theorem dX5_insert_63 : decode cX5_insert 63 = .ok (.iload_n 1, 1) := by decide +kernel
theorem dX5_insert_64 : decode cX5_insert 64 = .ok (.iaload, 1) := by decide +kernel
theorem dX5_insert_65 : decode cX5_insert 65 = .ok (.iconst 1, 1) := by decide +kernel
theorem dX5_insert_66 : decode cX5_insert 66 = .ok (.isub, 1) := by decide +kernel
theorem dX5_insert_67 : decode cX5_insert 67 = .ok (.istore 7, 2) := by decide +kernel
theorem dX5_insert_69 : decode cX5_insert 69 = .ok (.iload 7, 2) := by decide +kernel
theorem dX5_insert_71 : decode cX5_insert 71 = .ok (.iload_n 2, 1) := by decide +kernel
theorem dX5_insert_72 : decode cX5_insert 72 = .ok (.if_icmp .lt 31, 3) := by decide +kernel
theorem dX5_insert_75 : decode cX5_insert 75 = .ok (.aload_n 0, 1) := by decide +kernel
theorem dX5_insert_76 : decode cX5_insert 76 = .ok (.getfield 17, 3) := by decide +kernel
theorem dX5_insert_79 : decode cX5_insert 79 = .ok (.iload 6, 2) := by decide +kernel
theorem dX5_insert_81 : decode cX5_insert 81 = .ok (.iload 7, 2) := by decide +kernel
theorem dX5_insert_83 : decode cX5_insert 83 = .ok (.iadd, 1) := by decide +kernel
theorem dX5_insert_84 : decode cX5_insert 84 = .ok (.iload_n 3, 1) := by decide +kernel
theorem dX5_insert_85 : decode cX5_insert 85 = .ok (.iadd, 1) := by decide +kernel
theorem dX5_insert_86 : decode cX5_insert 86 = .ok (.aload_n 0, 1) := by decide +kernel
theorem dX5_insert_87 : decode cX5_insert 87 = .ok (.getfield 17, 3) := by decide +kernel
theorem dX5_insert_90 : decode cX5_insert 90 = .ok (.iload 6, 2) := by decide +kernel
theorem dX5_insert_92 : decode cX5_insert 92 = .ok (.iload 7, 2) := by decide +kernel
theorem dX5_insert_94 : decode cX5_insert 94 = .ok (.iadd, 1) := by decide +kernel
theorem dX5_insert_95 : decode cX5_insert 95 = .ok (.iaload, 1) := by decide +kernel
theorem dX5_insert_96 : decode cX5_insert 96 = .ok (.iastore, 1) := by decide +kernel
theorem dX5_insert_97 : decode cX5_insert 97 = .ok (.iinc 7 (-1), 3) := by decide +kernel
theorem dX5_insert_100 : decode cX5_insert 100 = .ok (.goto (-31), 3) := by decide +kernel
theorem dX5_insert_103 : decode cX5_insert 103 = .ok (.iconst 0, 1) := by decide +kernel
theorem dX5_insert_104 : decode cX5_insert 104 = .ok (.istore 7, 2) := by decide +kernel
theorem dX5_insert_106 : decode cX5_insert 106 = .ok (.iload 7, 2) := by decide +kernel
theorem dX5_insert_108 : decode cX5_insert 108 = .ok (.iload_n 3, 1) := by decide +kernel
theorem dX5_insert_109 : decode cX5_insert 109 = .ok (.if_icmp .ge 38, 3) := by decide +kernel
theorem dX5_insert_112 : decode cX5_insert 112 = .ok (.aload_n 0, 1) := by decide +kernel
theorem dX5_insert_113 : decode cX5_insert 113 = .ok (.getfield 17, 3) := by decide +kernel
theorem dX5_insert_116 : decode cX5_insert 116 = .ok (.iload 6, 2) := by decide +kernel
theorem dX5_insert_118 : decode cX5_insert 118 = .ok (.iload_n 2, 1) := by decide +kernel
theorem dX5_insert_119 : decode cX5_insert 119 = .ok (.iadd, 1) := by decide +kernel
theorem dX5_insert_120 : decode cX5_insert 120 = .ok (.iload 7, 2) := by decide +kernel
theorem dX5_insert_122 : decode cX5_insert 122 = .ok (.iadd, 1) := by decide +kernel
theorem dX5_insert_123 : decode cX5_insert 123 = .ok (.lload 4, 2) := by decide +kernel
theorem dX5_insert_125 : decode cX5_insert 125 = .ok (.bipush 8, 2) := by decide +kernel
theorem dX5_insert_127 : decode cX5_insert 127 = .ok (.iload_n 3, 1) := by decide +kernel
theorem dX5_insert_128 : decode cX5_insert 128 = .ok (.iconst 1, 1) := by decide +kernel
theorem dX5_insert_129 : decode cX5_insert 129 = .ok (.isub, 1) := by decide +kernel
theorem dX5_insert_130 : decode cX5_insert 130 = .ok (.iload 7, 2) := by decide +kernel
theorem dX5_insert_132 : decode cX5_insert 132 = .ok (.isub, 1) := by decide +kernel
theorem dX5_insert_133 : decode cX5_insert 133 = .ok (.imul, 1) := by decide +kernel
theorem dX5_insert_134 : decode cX5_insert 134 = .ok (.lushr, 1) := by decide +kernel
theorem dX5_insert_135 : decode cX5_insert 135 = .ok (.ldc2_w 80, 3) := by decide +kernel
theorem dX5_insert_138 : decode cX5_insert 138 = .ok (.land, 1) := by decide +kernel
theorem dX5_insert_139 : decode cX5_insert 139 = .ok (.l2i, 1) := by decide +kernel
theorem dX5_insert_140 : decode cX5_insert 140 = .ok (.iastore, 1) := by decide +kernel
theorem dX5_insert_141 : decode cX5_insert 141 = .ok (.iinc 7 1, 3) := by decide +kernel
theorem dX5_insert_144 : decode cX5_insert 144 = .ok (.goto (-38), 3) := by decide +kernel
theorem dX5_insert_147 : decode cX5_insert 147 = .ok (.aload_n 0, 1) := by decide +kernel
theorem dX5_insert_148 : decode cX5_insert 148 = .ok (.getfield 13, 3) := by decide +kernel
theorem dX5_insert_151 : decode cX5_insert 151 = .ok (.iload_n 1, 1) := by decide +kernel
theorem dX5_insert_152 : decode cX5_insert 152 = .ok (.dup2, 1) := by decide +kernel
theorem dX5_insert_153 : decode cX5_insert 153 = .ok (.iaload, 1) := by decide +kernel
theorem dX5_insert_154 : decode cX5_insert 154 = .ok (.iload_n 3, 1) := by decide +kernel
theorem dX5_insert_155 : decode cX5_insert 155 = .ok (.iadd, 1) := by decide +kernel
theorem dX5_insert_156 : decode cX5_insert 156 = .ok (.iastore, 1) := by decide +kernel
theorem dX5_insert_157 : decode cX5_insert 157 = .ok (.aload_n 0, 1) := by decide +kernel
theorem dX5_insert_158 : decode cX5_insert 158 = .ok (.getfield 13, 3) := by decide +kernel
theorem dX5_insert_161 : decode cX5_insert 161 = .ok (.iload_n 1, 1) := by decide +kernel
theorem dX5_insert_162 : decode cX5_insert 162 = .ok (.iaload, 1) := by decide +kernel
theorem dX5_insert_163 : decode cX5_insert 163 = .ok (.ireturn, 1) := by decide +kernel
theorem dX5_remove_0 : decode cX5_remove 0 = .ok (.aload_n 0, 1) := by decide +kernel
theorem dX5_remove_1 : decode cX5_remove 1 = .ok (.iload_n 1, 1) := by decide +kernel
theorem dX5_remove_2 : decode cX5_remove 2 = .ok (.invokevirtual 76, 3) := by decide +kernel
theorem dX5_remove_5 : decode cX5_remove 5 = .ok (.ifCond .eq 33, 3) := by decide +kernel
theorem dX5_remove_8 : decode cX5_remove 8 = .ok (.iload_n 2, 1) := by decide +kernel
theorem dX5_remove_9 : decode cX5_remove 9 = .ok (.ifCond .lt 29, 3) := by decide +kernel
theorem dX5_remove_12 : decode cX5_remove 12 = .ok (.iload_n 3, 1) := by decide +kernel
theorem dX5_remove_13 : decode cX5_remove 13 = .ok (.ifCond .lt 25, 3) := by decide +kernel
theorem dX5_remove_16 : decode cX5_remove 16 = .ok (.iload_n 2, 1) := by decide +kernel
theorem dX5_remove_17 : decode cX5_remove 17 = .ok (.aload_n 0, 1) := by decide +kernel
theorem dX5_remove_18 : decode cX5_remove 18 = .ok (.getfield 13, 3) := by decide +kernel
theorem dX5_remove_21 : decode cX5_remove 21 = .ok (.iload_n 1, 1) := by decide +kernel
theorem dX5_remove_22 : decode cX5_remove 22 = .ok (.iaload, 1) := by decide +kernel
theorem dX5_remove_23 : decode cX5_remove 23 = .ok (.if_icmp .gt 15, 3) := by decide +kernel
theorem dX5_remove_26 : decode cX5_remove 26 = .ok (.iload_n 3, 1) := by decide +kernel
theorem dX5_remove_27 : decode cX5_remove 27 = .ok (.aload_n 0, 1) := by decide +kernel
theorem dX5_remove_28 : decode cX5_remove 28 = .ok (.getfield 13, 3) := by decide +kernel
theorem dX5_remove_31 : decode cX5_remove 31 = .ok (.iload_n 1, 1) := by decide +kernel
theorem dX5_remove_32 : decode cX5_remove 32 = .ok (.iaload, 1) := by decide +kernel
theorem dX5_remove_33 : decode cX5_remove 33 = .ok (.iload_n 2, 1) := by decide +kernel
theorem dX5_remove_34 : decode cX5_remove 34 = .ok (.isub, 1) := by decide +kernel
theorem dX5_remove_35 : decode cX5_remove 35 = .ok (.if_icmp .le 6, 3) := by decide +kernel
theorem dX5_remove_38 : decode cX5_remove 38 = .ok (.bipush (-2), 2) := by decide +kernel
theorem dX5_remove_40 : decode cX5_remove 40 = .ok (.ireturn, 1) := by decide +kernel
theorem dX5_remove_41 : decode cX5_remove 41 = .ok (.sipush 300, 3) := by decide +kernel
theorem dX5_remove_44 : decode cX5_remove 44 = .ok (.iload_n 1, 1) := by decide +kernel
theorem dX5_remove_45 : decode cX5_remove 45 = .ok (.imul, 1) := by decide +kernel
theorem dX5_remove_46 : decode cX5_remove 46 = .ok (.istore 4, 2) := by decide +kernel
theorem dX5_remove_48 : decode cX5_remove 48 = .ok (.iload_n 2, 1) := by decide +kernel
theorem dX5_remove_49 : decode cX5_remove 49 = .ok (.iload_n 3, 1) := by decide +kernel
theorem dX5_remove_50 : decode cX5_remove 50 = .ok (.iadd, 1) := by decide +kernel
theorem dX5_remove_51 : decode cX5_remove 51 = .ok (.istore 5, 2) := by decide +kernel
theorem dX5_remove_53 : decode cX5_remove 53 = .ok (.iload 5, 2) := by decide +kernel
theorem dX5_remove_55 : decode cX5_remove 55 = .ok (.aload_n 0, 1) := by decide +kernel
theorem dX5_remove_56 : decode cX5_remove 56 = .ok (.getfield 13, 3) := by decide +kernel
theorem dX5_remove_59 : decode cX5_remove 59 = .ok (.iload_n 1, 1) := by decide +kernel
theorem dX5_remove_60 : decode cX5_remove 60 = .ok (.iaload, 1) := by decide +kernel
theorem dX5_remove_61 : decode cX5_remove 61 = .ok (.if_icmp .ge 31, 3) := by decide +kernel
theorem dX5_remove_64 : decode cX5_remove 64 = .ok (.aload_n 0, 1) := by decide +kernel
theorem dX5_remove_65 : decode cX5_remove 65 = .ok (.getfield 17, 3) := by decide +kernel
theorem dX5_remove_68 : decode cX5_remove 68 = .ok (.iload 4, 2) := by decide +kernel
theorem dX5_remove_70 : decode cX5_remove 70 = .ok (.iload 5, 2) := by decide +kernel
theorem dX5_remove_72 : decode cX5_remove 72 = .ok (.iadd, 1) := by decide +kernel
theorem dX5_remove_73 : decode cX5_remove 73 = .ok (.iload_n 3, 1) := by decide +kernel
theorem dX5_remove_74 : decode cX5_remove 74 = .ok (.isub, 1) := by decide +kernel
theorem dX5_remove_75 : decode cX5_remove 75 = .ok (.aload_n 0, 1) := by decide +kernel
theorem dX5_remove_76 : decode cX5_remove 76 = .ok (.getfield 17, 3) := by decide +kernel
theorem dX5_remove_79 : decode cX5_remove 79 = .ok (.iload 4, 2) := by decide +kernel
theorem dX5_remove_81 : decode cX5_remove 81 = .ok (.iload 5, 2) := by decide +kernel
theorem dX5_remove_83 : decode cX5_remove 83 = .ok (.iadd, 1) := by decide +kernel
theorem dX5_remove_84 : decode cX5_remove 84 = .ok (.iaload, 1) := by decide +kernel
theorem dX5_remove_85 : decode cX5_remove 85 = .ok (.iastore, 1) := by decide +kernel
theorem dX5_remove_86 : decode cX5_remove 86 = .ok (.iinc 5 1, 3) := by decide +kernel
theorem dX5_remove_89 : decode cX5_remove 89 = .ok (.goto (-36), 3) := by decide +kernel
theorem dX5_remove_92 : decode cX5_remove 92 = .ok (.aload_n 0, 1) := by decide +kernel
theorem dX5_remove_93 : decode cX5_remove 93 = .ok (.getfield 13, 3) := by decide +kernel
theorem dX5_remove_96 : decode cX5_remove 96 = .ok (.iload_n 1, 1) := by decide +kernel
theorem dX5_remove_97 : decode cX5_remove 97 = .ok (.dup2, 1) := by decide +kernel
theorem dX5_remove_98 : decode cX5_remove 98 = .ok (.iaload, 1) := by decide +kernel
theorem dX5_remove_99 : decode cX5_remove 99 = .ok (.iload_n 3, 1) := by decide +kernel
theorem dX5_remove_100 : decode cX5_remove 100 = .ok (.isub, 1) := by decide +kernel
theorem dX5_remove_101 : decode cX5_remove 101 = .ok (.iastore, 1) := by decide +kernel
theorem dX5_remove_102 : decode cX5_remove 102 = .ok (.aload_n 0, 1) := by decide +kernel
theorem dX5_remove_103 : decode cX5_remove 103 = .ok (.getfield 13, 3) := by decide +kernel
theorem dX5_remove_106 : decode cX5_remove 106 = .ok (.iload_n 1, 1) := by decide +kernel
theorem dX5_remove_107 : decode cX5_remove 107 = .ok (.iaload, 1) := by decide +kernel
theorem dX5_remove_108 : decode cX5_remove 108 = .ok (.ireturn, 1) := by decide +kernel
theorem dX5_extend_0 : decode cX5_extend 0 = .ok (.aload_n 0, 1) := by decide +kernel
theorem dX5_extend_1 : decode cX5_extend 1 = .ok (.iload_n 1, 1) := by decide +kernel
theorem dX5_extend_2 : decode cX5_extend 2 = .ok (.invokevirtual 76, 3) := by decide +kernel
theorem dX5_extend_5 : decode cX5_extend 5 = .ok (.ifCond .eq 14, 3) := by decide +kernel
theorem dX5_extend_8 : decode cX5_extend 8 = .ok (.iload_n 2, 1) := by decide +kernel
theorem dX5_extend_9 : decode cX5_extend 9 = .ok (.iconst 0, 1) := by decide +kernel
theorem dX5_extend_10 : decode cX5_extend 10 = .ok (.sipush 300, 3) := by decide +kernel
theorem dX5_extend_13 : decode cX5_extend 13 = .ok (.invokestatic 72, 3) := by decide +kernel
theorem dX5_extend_16 : decode cX5_extend 16 = .ok (.ifCond .ne 6, 3) := by decide +kernel
theorem dX5_extend_19 : decode cX5_extend 19 = .ok (.bipush (-2), 2) := by decide +kernel
theorem dX5_extend_21 : decode cX5_extend 21 = .ok (.ireturn, 1) := by decide +kernel
theorem dX5_extend_22 : decode cX5_extend 22 = .ok (.aload_n 0, 1) := by decide +kernel
theorem dX5_extend_23 : decode cX5_extend 23 = .ok (.getfield 13, 3) := by decide +kernel
theorem dX5_extend_26 : decode cX5_extend 26 = .ok (.iload_n 1, 1) := by decide +kernel
theorem dX5_extend_27 : decode cX5_extend 27 = .ok (.iaload, 1) := by decide +kernel
theorem dX5_extend_28 : decode cX5_extend 28 = .ok (.iload_n 2, 1) := by decide +kernel
theorem dX5_extend_29 : decode cX5_extend 29 = .ok (.iadd, 1) := by decide +kernel
theorem dX5_extend_30 : decode cX5_extend 30 = .ok (.sipush 300, 3) := by decide +kernel
theorem dX5_extend_33 : decode cX5_extend 33 = .ok (.if_icmp .le 6, 3) := by decide +kernel
theorem dX5_extend_36 : decode cX5_extend 36 = .ok (.bipush (-3), 2) := by decide +kernel
theorem dX5_extend_38 : decode cX5_extend 38 = .ok (.ireturn, 1) := by decide +kernel
theorem dX5_extend_39 : decode cX5_extend 39 = .ok (.iconst 0, 1) := by decide +kernel
theorem dX5_extend_40 : decode cX5_extend 40 = .ok (.istore 5, 2) := by decide +kernel
theorem dX5_extend_42 : decode cX5_extend 42 = .ok (.iload 5, 2) := by decide +kernel
theorem dX5_extend_44 : decode cX5_extend 44 = .ok (.iload_n 2, 1) := by decide +kernel
theorem dX5_extend_45 : decode cX5_extend 45 = .ok (.if_icmp .ge 40, 3) := by decide +kernel
theorem dX5_extend_48 : decode cX5_extend 48 = .ok (.aload_n 0, 1) := by decide +kernel
theorem dX5_extend_49 : decode cX5_extend 49 = .ok (.getfield 17, 3) := by decide +kernel
theorem dX5_extend_52 : decode cX5_extend 52 = .ok (.sipush 300, 3) := by decide +kernel
theorem dX5_extend_55 : decode cX5_extend 55 = .ok (.iload_n 1, 1) := by decide +kernel
theorem dX5_extend_56 : decode cX5_extend 56 = .ok (.imul, 1) := by decide +kernel
theorem dX5_extend_57 : decode cX5_extend 57 = .ok (.aload_n 0, 1) := by decide +kernel
theorem dX5_extend_58 : decode cX5_extend 58 = .ok (.getfield 13, 3) := by decide +kernel
theorem dX5_extend_61 : decode cX5_extend 61 = .ok (.iload_n 1, 1) := by decide +kernel
theorem dX5_extend_62 : decode cX5_extend 62 = .ok (.iaload, 1) := by decide +kernel
theorem dX5_extend_63 : decode cX5_extend 63 = .ok (.iadd, 1) := by decide +kernel
theorem dX5_extend_64 : decode cX5_extend 64 = .ok (.iload 5, 2) := by decide +kernel
theorem dX5_extend_66 : decode cX5_extend 66 = .ok (.iadd, 1) := by decide +kernel
theorem dX5_extend_67 : decode cX5_extend 67 = .ok (.iload_n 3, 1) := by decide +kernel
theorem dX5_extend_68 : decode cX5_extend 68 = .ok (.iload 5, 2) := by decide +kernel
theorem dX5_extend_70 : decode cX5_extend 70 = .ok (.iload 4, 2) := by decide +kernel
theorem dX5_extend_72 : decode cX5_extend 72 = .ok (.imul, 1) := by decide +kernel
theorem dX5_extend_73 : decode cX5_extend 73 = .ok (.iadd, 1) := by decide +kernel
theorem dX5_extend_74 : decode cX5_extend 74 = .ok (.sipush 255, 3) := by decide +kernel
theorem dX5_extend_77 : decode cX5_extend 77 = .ok (.iand, 1) := by decide +kernel
theorem dX5_extend_78 : decode cX5_extend 78 = .ok (.iastore, 1) := by decide +kernel
theorem dX5_extend_79 : decode cX5_extend 79 = .ok (.iinc 5 1, 3) := by decide +kernel
theorem dX5_extend_82 : decode cX5_extend 82 = .ok (.goto (-40), 3) := by decide +kernel
theorem dX5_extend_85 : decode cX5_extend 85 = .ok (.aload_n 0, 1) := by decide +kernel
theorem dX5_extend_86 : decode cX5_extend 86 = .ok (.getfield 13, 3) := by decide +kernel
theorem dX5_extend_89 : decode cX5_extend 89 = .ok (.iload_n 1, 1) := by decide +kernel
theorem dX5_extend_90 : decode cX5_extend 90 = .ok (.dup2, 1) := by decide +kernel
theorem dX5_extend_91 : decode cX5_extend 91 = .ok (.iaload, 1) := by decide +kernel
theorem dX5_extend_92 : decode cX5_extend 92 = .ok (.iload_n 2, 1) := by decide +kernel
theorem dX5_extend_93 : decode cX5_extend 93 = .ok (.iadd, 1) := by decide +kernel
theorem dX5_extend_94 : decode cX5_extend 94 = .ok (.iastore, 1) := by decide +kernel
theorem dX5_extend_95 : decode cX5_extend 95 = .ok (.aload_n 0, 1) := by decide +kernel
theorem dX5_extend_96 : decode cX5_extend 96 = .ok (.getfield 13, 3) := by decide +kernel
theorem dX5_extend_99 : decode cX5_extend 99 = .ok (.iload_n 1, 1) := by decide +kernel
theorem dX5_extend_100 : decode cX5_extend 100 = .ok (.iaload, 1) := by decide +kernel
theorem dX5_extend_101 : decode cX5_extend 101 = .ok (.ireturn, 1) := by decide +kernel
theorem dX5_state_0 : decode cX5_state 0 = .ok (.aload_n 0, 1) := by decide +kernel
theorem dX5_state_1 : decode cX5_state 1 = .ok (.iload_n 1, 1) := by decide +kernel
theorem dX5_state_2 : decode cX5_state 2 = .ok (.invokevirtual 76, 3) := by decide +kernel
theorem dX5_state_5 : decode cX5_state 5 = .ok (.ifCond .eq 34, 3) := by decide +kernel
theorem dX5_state_8 : decode cX5_state 8 = .ok (.iload_n 2, 1) := by decide +kernel
theorem dX5_state_9 : decode cX5_state 9 = .ok (.iconst 0, 1) := by decide +kernel
theorem dX5_state_10 : decode cX5_state 10 = .ok (.aload_n 0, 1) := by decide +kernel
theorem dX5_state_11 : decode cX5_state 11 = .ok (.getfield 13, 3) := by decide +kernel
theorem dX5_state_14 : decode cX5_state 14 = .ok (.iload_n 1, 1) := by decide +kernel
theorem dX5_state_15 : decode cX5_state 15 = .ok (.iaload, 1) := by decide +kernel
theorem dX5_state_16 : decode cX5_state 16 = .ok (.iconst 1, 1) := by decide +kernel
theorem dX5_state_17 : decode cX5_state 17 = .ok (.isub, 1) := by decide +kernel
theorem dX5_state_18 : decode cX5_state 18 = .ok (.invokestatic 72, 3) := by decide +kernel
theorem dX5_state_21 : decode cX5_state 21 = .ok (.ifCond .eq 18, 3) := by decide +kernel
theorem dX5_state_24 : decode cX5_state 24 = .ok (.aload_n 0, 1) := by decide +kernel
theorem dX5_state_25 : decode cX5_state 25 = .ok (.getfield 17, 3) := by decide +kernel
theorem dX5_state_28 : decode cX5_state 28 = .ok (.sipush 300, 3) := by decide +kernel
theorem dX5_state_31 : decode cX5_state 31 = .ok (.iload_n 1, 1) := by decide +kernel
theorem dX5_state_32 : decode cX5_state 32 = .ok (.imul, 1) := by decide +kernel
theorem dX5_state_33 : decode cX5_state 33 = .ok (.iload_n 2, 1) := by decide +kernel
theorem dX5_state_34 : decode cX5_state 34 = .ok (.iadd, 1) := by decide +kernel
theorem dX5_state_35 : decode cX5_state 35 = .ok (.iaload, 1) := by decide +kernel
theorem dX5_state_36 : decode cX5_state 36 = .ok (.goto 5, 3) := by decide +kernel
theorem dX5_state_39 : decode cX5_state 39 = .ok (.bipush (-2), 2) := by decide +kernel
theorem dX5_state_41 : decode cX5_state 41 = .ok (.ireturn, 1) := by decide +kernel
theorem dX5_chunkFrom_0 : decode cX5_chunkFrom 0 = .ok (.iconst 0, 1) := by decide +kernel
theorem dX5_chunkFrom_1 : decode cX5_chunkFrom 1 = .ok (.istore_n 3, 1) := by decide +kernel
theorem dX5_chunkFrom_2 : decode cX5_chunkFrom 2 = .ok (.iconst 1, 1) := by decide +kernel
theorem dX5_chunkFrom_3 : decode cX5_chunkFrom 3 = .ok (.istore 4, 2) := by decide +kernel
theorem dX5_chunkFrom_5 : decode cX5_chunkFrom 5 = .ok (.iload 4, 2) := by decide +kernel
theorem dX5_chunkFrom_7 : decode cX5_chunkFrom 7 = .ok (.ifCond .eq 104, 3) := by decide +kernel
theorem dX5_chunkFrom_10 : decode cX5_chunkFrom 10 = .ok (.iinc 3 1, 3) := by decide +kernel
theorem dX5_chunkFrom_13 : decode cX5_chunkFrom 13 = .ok (.sipush 300, 3) := by decide +kernel
theorem dX5_chunkFrom_16 : decode cX5_chunkFrom 16 = .ok (.iload_n 1, 1) := by decide +kernel
theorem dX5_chunkFrom_17 : decode cX5_chunkFrom 17 = .ok (.imul, 1) := by decide +kernel
theorem dX5_chunkFrom_18 : decode cX5_chunkFrom 18 = .ok (.iload_n 2, 1) := by decide +kernel
theorem dX5_chunkFrom_19 : decode cX5_chunkFrom 19 = .ok (.iadd, 1) := by decide +kernel
theorem dX5_chunkFrom_20 : decode cX5_chunkFrom 20 = .ok (.iload_n 3, 1) := by decide +kernel
theorem dX5_chunkFrom_21 : decode cX5_chunkFrom 21 = .ok (.iadd, 1) := by decide +kernel
theorem dX5_chunkFrom_22 : decode cX5_chunkFrom 22 = .ok (.iconst 1, 1) := by decide +kernel
theorem dX5_chunkFrom_23 : decode cX5_chunkFrom 23 = .ok (.isub, 1) := by decide +kernel
theorem dX5_chunkFrom_24 : decode cX5_chunkFrom 24 = .ok (.istore 5, 2) := by decide +kernel
theorem dX5_chunkFrom_26 : decode cX5_chunkFrom 26 = .ok (.iload_n 3, 1) := by decide +kernel
theorem dX5_chunkFrom_27 : decode cX5_chunkFrom 27 = .ok (.iconst 4, 1) := by decide +kernel
theorem dX5_chunkFrom_28 : decode cX5_chunkFrom 28 = .ok (.if_icmp .lt 47, 3) := by decide +kernel
theorem dX5_chunkFrom_31 : decode cX5_chunkFrom 31 = .ok (.iconst 3, 1) := by decide +kernel
theorem dX5_chunkFrom_32 : decode cX5_chunkFrom 32 = .ok (.aload_n 0, 1) := by decide +kernel
theorem dX5_chunkFrom_33 : decode cX5_chunkFrom 33 = .ok (.getfield 17, 3) := by decide +kernel
theorem dX5_chunkFrom_36 : decode cX5_chunkFrom 36 = .ok (.iload 5, 2) := by decide +kernel
theorem dX5_chunkFrom_38 : decode cX5_chunkFrom 38 = .ok (.iconst 2, 1) := by decide +kernel
theorem dX5_chunkFrom_39 : decode cX5_chunkFrom 39 = .ok (.isub, 1) := by decide +kernel
theorem dX5_chunkFrom_40 : decode cX5_chunkFrom 40 = .ok (.iaload, 1) := by decide +kernel
theorem dX5_chunkFrom_41 : decode cX5_chunkFrom 41 = .ok (.imul, 1) := by decide +kernel
theorem dX5_chunkFrom_42 : decode cX5_chunkFrom 42 = .ok (.iconst 5, 1) := by decide +kernel
theorem dX5_chunkFrom_43 : decode cX5_chunkFrom 43 = .ok (.aload_n 0, 1) := by decide +kernel
theorem dX5_chunkFrom_44 : decode cX5_chunkFrom 44 = .ok (.getfield 17, 3) := by decide +kernel
theorem dX5_chunkFrom_47 : decode cX5_chunkFrom 47 = .ok (.iload 5, 2) := by decide +kernel
theorem dX5_chunkFrom_49 : decode cX5_chunkFrom 49 = .ok (.iconst 1, 1) := by decide +kernel
theorem dX5_chunkFrom_50 : decode cX5_chunkFrom 50 = .ok (.isub, 1) := by decide +kernel
theorem dX5_chunkFrom_51 : decode cX5_chunkFrom 51 = .ok (.iaload, 1) := by decide +kernel
theorem dX5_chunkFrom_52 : decode cX5_chunkFrom 52 = .ok (.imul, 1) := by decide +kernel
theorem dX5_chunkFrom_53 : decode cX5_chunkFrom 53 = .ok (.iadd, 1) := by decide +kernel
theorem dX5_chunkFrom_54 : decode cX5_chunkFrom 54 = .ok (.bipush 7, 2) := by decide +kernel
theorem dX5_chunkFrom_56 : decode cX5_chunkFrom 56 = .ok (.aload_n 0, 1) := by decide +kernel
theorem dX5_chunkFrom_57 : decode cX5_chunkFrom 57 = .ok (.getfield 17, 3) := by decide +kernel
theorem dX5_chunkFrom_60 : decode cX5_chunkFrom 60 = .ok (.iload 5, 2) := by decide +kernel
theorem dX5_chunkFrom_62 : decode cX5_chunkFrom 62 = .ok (.iaload, 1) := by decide +kernel
theorem dX5_chunkFrom_63 : decode cX5_chunkFrom 63 = .ok (.imul, 1) := by decide +kernel
theorem dX5_chunkFrom_64 : decode cX5_chunkFrom 64 = .ok (.iadd, 1) := by decide +kernel
theorem dX5_chunkFrom_65 : decode cX5_chunkFrom 65 = .ok (.bipush 11, 2) := by decide +kernel
theorem dX5_chunkFrom_67 : decode cX5_chunkFrom 67 = .ok (.irem, 1) := by decide +kernel
