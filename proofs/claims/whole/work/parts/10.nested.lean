theorem d_Usages_init_0 : decode b_Usages_init 0 = .ok (.aload_n 0, 1) := by decide +kernel
theorem d_Usages_init_1 : decode b_Usages_init 1 = .ok (.invokespecial 3, 3) := by decide +kernel
theorem d_Usages_init_4 : decode b_Usages_init 4 = .ok (.aload_n 0, 1) := by decide +kernel
theorem d_Usages_init_5 : decode b_Usages_init 5 = .ok (.sipush 512, 3) := by decide +kernel
theorem d_Usages_init_8 : decode b_Usages_init 8 = .ok (.newarray .int, 2) := by decide +kernel
theorem d_Usages_init_10 : decode b_Usages_init 10 = .ok (.putfield 9, 3) := by decide +kernel
theorem d_Usages_init_13 : decode b_Usages_init 13 = .ok (.aload_n 0, 1) := by decide +kernel
theorem d_Usages_init_14 : decode b_Usages_init 14 = .ok (.sipush 512, 3) := by decide +kernel
theorem d_Usages_init_17 : decode b_Usages_init 17 = .ok (.newarray .int, 2) := by decide +kernel
theorem d_Usages_init_19 : decode b_Usages_init 19 = .ok (.putfield 15, 3) := by decide +kernel
theorem d_Usages_init_22 : decode b_Usages_init 22 = .ok (.aload_n 0, 1) := by decide +kernel
theorem d_Usages_init_23 : decode b_Usages_init 23 = .ok (.sipush 512, 3) := by decide +kernel
theorem d_Usages_init_26 : decode b_Usages_init 26 = .ok (.newarray .int, 2) := by decide +kernel
theorem d_Usages_init_28 : decode b_Usages_init 28 = .ok (.putfield 18, 3) := by decide +kernel
theorem d_Usages_init_31 : decode b_Usages_init 31 = .ok (.aload_n 0, 1) := by decide +kernel
theorem d_Usages_init_32 : decode b_Usages_init 32 = .ok (.iconst 0, 1) := by decide +kernel
theorem d_Usages_init_33 : decode b_Usages_init 33 = .ok (.putfield 21, 3) := by decide +kernel
theorem d_Usages_init_36 : decode b_Usages_init 36 = .ok (.return_, 1) := by decide +kernel
theorem d_Notices_init_0 : decode b_Notices_init 0 = .ok (.aload_n 0, 1) := by decide +kernel
theorem d_Notices_init_1 : decode b_Notices_init 1 = .ok (.invokespecial 3, 3) := by decide +kernel
theorem d_Notices_init_4 : decode b_Notices_init 4 = .ok (.aload_n 0, 1) := by decide +kernel
theorem d_Notices_init_5 : decode b_Notices_init 5 = .ok (.bipush 100, 2) := by decide +kernel
theorem d_Notices_init_7 : decode b_Notices_init 7 = .ok (.newarray .int, 2) := by decide +kernel
theorem d_Notices_init_9 : decode b_Notices_init 9 = .ok (.putfield 9, 3) := by decide +kernel
theorem d_Notices_init_12 : decode b_Notices_init 12 = .ok (.aload_n 0, 1) := by decide +kernel
theorem d_Notices_init_13 : decode b_Notices_init 13 = .ok (.bipush 100, 2) := by decide +kernel
theorem d_Notices_init_15 : decode b_Notices_init 15 = .ok (.newarray .int, 2) := by decide +kernel
theorem d_Notices_init_17 : decode b_Notices_init 17 = .ok (.putfield 15, 3) := by decide +kernel
theorem d_Notices_init_20 : decode b_Notices_init 20 = .ok (.aload_n 0, 1) := by decide +kernel
theorem d_Notices_init_21 : decode b_Notices_init 21 = .ok (.iconst 0, 1) := by decide +kernel
theorem d_Notices_init_22 : decode b_Notices_init 22 = .ok (.putfield 18, 3) := by decide +kernel
theorem d_Notices_init_25 : decode b_Notices_init 25 = .ok (.return_, 1) := by decide +kernel
theorem d_Line_init_0 : decode b_Line_init 0 = .ok (.aload_n 0, 1) := by decide +kernel
theorem d_Line_init_1 : decode b_Line_init 1 = .ok (.invokespecial 3, 3) := by decide +kernel
theorem d_Line_init_4 : decode b_Line_init 4 = .ok (.aload_n 0, 1) := by decide +kernel
theorem d_Line_init_5 : decode b_Line_init 5 = .ok (.bipush 100, 2) := by decide +kernel
theorem d_Line_init_7 : decode b_Line_init 7 = .ok (.newarray .int, 2) := by decide +kernel
theorem d_Line_init_9 : decode b_Line_init 9 = .ok (.putfield 9, 3) := by decide +kernel
theorem d_Line_init_12 : decode b_Line_init 12 = .ok (.aload_n 0, 1) := by decide +kernel
theorem d_Line_init_13 : decode b_Line_init 13 = .ok (.iconst 0, 1) := by decide +kernel
theorem d_Line_init_14 : decode b_Line_init 14 = .ok (.putfield 15, 3) := by decide +kernel
theorem d_Line_init_17 : decode b_Line_init 17 = .ok (.return_, 1) := by decide +kernel
theorem d_Pack_init_0 : decode b_Pack_init 0 = .ok (.aload_n 0, 1) := by decide +kernel
theorem d_Pack_init_1 : decode b_Pack_init 1 = .ok (.invokespecial 3, 3) := by decide +kernel
theorem d_Pack_init_4 : decode b_Pack_init 4 = .ok (.aload_n 0, 1) := by decide +kernel
theorem d_Pack_init_5 : decode b_Pack_init 5 = .ok (.new 9, 3) := by decide +kernel
theorem d_Pack_init_8 : decode b_Pack_init 8 = .ok (.dup, 1) := by decide +kernel
theorem d_Pack_init_9 : decode b_Pack_init 9 = .ok (.invokespecial 11, 3) := by decide +kernel
theorem d_Pack_init_12 : decode b_Pack_init 12 = .ok (.putfield 12, 3) := by decide +kernel
theorem d_Pack_init_15 : decode b_Pack_init 15 = .ok (.aload_n 0, 1) := by decide +kernel
theorem d_Pack_init_16 : decode b_Pack_init 16 = .ok (.new 9, 3) := by decide +kernel
theorem d_Pack_init_19 : decode b_Pack_init 19 = .ok (.dup, 1) := by decide +kernel
theorem d_Pack_init_20 : decode b_Pack_init 20 = .ok (.invokespecial 11, 3) := by decide +kernel
theorem d_Pack_init_23 : decode b_Pack_init 23 = .ok (.putfield 18, 3) := by decide +kernel
theorem d_Pack_init_26 : decode b_Pack_init 26 = .ok (.aload_n 0, 1) := by decide +kernel
theorem d_Pack_init_27 : decode b_Pack_init 27 = .ok (.bipush 100, 2) := by decide +kernel
theorem d_Pack_init_29 : decode b_Pack_init 29 = .ok (.putfield 21, 3) := by decide +kernel
theorem d_Pack_init_32 : decode b_Pack_init 32 = .ok (.aload_n 0, 1) := by decide +kernel
theorem d_Pack_init_33 : decode b_Pack_init 33 = .ok (.iconst (-1), 1) := by decide +kernel
theorem d_Pack_init_34 : decode b_Pack_init 34 = .ok (.putfield 25, 3) := by decide +kernel
theorem d_Pack_init_37 : decode b_Pack_init 37 = .ok (.aload_n 0, 1) := by decide +kernel
theorem d_Pack_init_38 : decode b_Pack_init 38 = .ok (.iload_n 1, 1) := by decide +kernel
theorem d_Pack_init_39 : decode b_Pack_init 39 = .ok (.putfield 28, 3) := by decide +kernel
theorem d_Pack_init_42 : decode b_Pack_init 42 = .ok (.aload_n 0, 1) := by decide +kernel
theorem d_Pack_init_43 : decode b_Pack_init 43 = .ok (.iload_n 2, 1) := by decide +kernel
theorem d_Pack_init_44 : decode b_Pack_init 44 = .ok (.putfield 31, 3) := by decide +kernel
theorem d_Pack_init_47 : decode b_Pack_init 47 = .ok (.return_, 1) := by decide +kernel
theorem d_Title_init_0 : decode b_Title_init 0 = .ok (.aload_n 0, 1) := by decide +kernel
theorem d_Title_init_1 : decode b_Title_init 1 = .ok (.invokespecial 3, 3) := by decide +kernel
theorem d_Title_init_4 : decode b_Title_init 4 = .ok (.aload_n 0, 1) := by decide +kernel
theorem d_Title_init_5 : decode b_Title_init 5 = .ok (.iconst 1, 1) := by decide +kernel
theorem d_Title_init_6 : decode b_Title_init 6 = .ok (.putfield 9, 3) := by decide +kernel
theorem d_Title_init_9 : decode b_Title_init 9 = .ok (.aload_n 0, 1) := by decide +kernel
theorem d_Title_init_10 : decode b_Title_init 10 = .ok (.iconst 0, 1) := by decide +kernel
theorem d_Title_init_11 : decode b_Title_init 11 = .ok (.putfield 15, 3) := by decide +kernel
theorem d_Title_init_14 : decode b_Title_init 14 = .ok (.aload_n 0, 1) := by decide +kernel
theorem d_Title_init_15 : decode b_Title_init 15 = .ok (.bipush 10, 2) := by decide +kernel
theorem d_Title_init_17 : decode b_Title_init 17 = .ok (.newarray .int, 2) := by decide +kernel
theorem d_Title_init_19 : decode b_Title_init 19 = .ok (.putfield 19, 3) := by decide +kernel
theorem d_Title_init_22 : decode b_Title_init 22 = .ok (.aload_n 0, 1) := by decide +kernel
theorem d_Title_init_23 : decode b_Title_init 23 = .ok (.bipush 10, 2) := by decide +kernel
theorem d_Title_init_25 : decode b_Title_init 25 = .ok (.newarray .int, 2) := by decide +kernel
theorem d_Title_init_27 : decode b_Title_init 27 = .ok (.putfield 23, 3) := by decide +kernel
theorem d_Title_init_30 : decode b_Title_init 30 = .ok (.aload_n 0, 1) := by decide +kernel
theorem d_Title_init_31 : decode b_Title_init 31 = .ok (.iconst 0, 1) := by decide +kernel
theorem d_Title_init_32 : decode b_Title_init 32 = .ok (.putfield 26, 3) := by decide +kernel
theorem d_Title_init_35 : decode b_Title_init 35 = .ok (.aload_n 0, 1) := by decide +kernel
theorem d_Title_init_36 : decode b_Title_init 36 = .ok (.aload_n 1, 1) := by decide +kernel
theorem d_Title_init_37 : decode b_Title_init 37 = .ok (.putfield 29, 3) := by decide +kernel
theorem d_Title_init_40 : decode b_Title_init 40 = .ok (.aload_n 0, 1) := by decide +kernel
theorem d_Title_init_41 : decode b_Title_init 41 = .ok (.iload_n 2, 1) := by decide +kernel
theorem d_Title_init_42 : decode b_Title_init 42 = .ok (.putfield 33, 3) := by decide +kernel
theorem d_Title_init_45 : decode b_Title_init 45 = .ok (.return_, 1) := by decide +kernel
theorem d_Title_meets_0 : decode b_Title_meets 0 = .ok (.iconst 0, 1) := by decide +kernel
theorem d_Title_meets_1 : decode b_Title_meets 1 = .ok (.istore_n 3, 1) := by decide +kernel
theorem d_Title_meets_2 : decode b_Title_meets 2 = .ok (.iload_n 3, 1) := by decide +kernel
theorem d_Title_meets_3 : decode b_Title_meets 3 = .ok (.aload_n 0, 1) := by decide +kernel
theorem d_Title_meets_4 : decode b_Title_meets 4 = .ok (.getfield 26, 3) := by decide +kernel
theorem d_Title_meets_7 : decode b_Title_meets 7 = .ok (.if_icmp .ge 35, 3) := by decide +kernel
theorem d_Title_meets_10 : decode b_Title_meets 10 = .ok (.iload_n 1, 1) := by decide +kernel
theorem d_Title_meets_11 : decode b_Title_meets 11 = .ok (.aload_n 0, 1) := by decide +kernel
theorem d_Title_meets_12 : decode b_Title_meets 12 = .ok (.getfield 23, 3) := by decide +kernel
theorem d_Title_meets_15 : decode b_Title_meets 15 = .ok (.iload_n 3, 1) := by decide +kernel
theorem d_Title_meets_16 : decode b_Title_meets 16 = .ok (.iaload, 1) := by decide +kernel
theorem d_Title_meets_17 : decode b_Title_meets 17 = .ok (.iconst 1, 1) := by decide +kernel
theorem d_Title_meets_18 : decode b_Title_meets 18 = .ok (.iadd, 1) := by decide +kernel
theorem d_Title_meets_19 : decode b_Title_meets 19 = .ok (.if_icmp .gt 17, 3) := by decide +kernel
theorem d_Title_meets_22 : decode b_Title_meets 22 = .ok (.iload_n 2, 1) := by decide +kernel
theorem d_Title_meets_23 : decode b_Title_meets 23 = .ok (.aload_n 0, 1) := by decide +kernel
theorem d_Title_meets_24 : decode b_Title_meets 24 = .ok (.getfield 19, 3) := by decide +kernel
theorem d_Title_meets_27 : decode b_Title_meets 27 = .ok (.iload_n 3, 1) := by decide +kernel
theorem d_Title_meets_28 : decode b_Title_meets 28 = .ok (.iaload, 1) := by decide +kernel
theorem d_Title_meets_29 : decode b_Title_meets 29 = .ok (.iconst 1, 1) := by decide +kernel
theorem d_Title_meets_30 : decode b_Title_meets 30 = .ok (.isub, 1) := by decide +kernel
theorem d_Title_meets_31 : decode b_Title_meets 31 = .ok (.if_icmp .lt 5, 3) := by decide +kernel
theorem d_Title_meets_34 : decode b_Title_meets 34 = .ok (.iconst 1, 1) := by decide +kernel
theorem d_Title_meets_35 : decode b_Title_meets 35 = .ok (.ireturn, 1) := by decide +kernel
theorem d_Title_meets_36 : decode b_Title_meets 36 = .ok (.iinc 3 1, 3) := by decide +kernel
theorem d_Title_meets_39 : decode b_Title_meets 39 = .ok (.goto (-37), 3) := by decide +kernel
theorem d_Title_meets_42 : decode b_Title_meets 42 = .ok (.iconst 0, 1) := by decide +kernel
theorem d_Title_meets_43 : decode b_Title_meets 43 = .ok (.ireturn, 1) := by decide +kernel
theorem d_Title_addSpan_0 : decode b_Title_addSpan 0 = .ok (.aload_n 0, 1) := by decide +kernel
theorem d_Title_addSpan_1 : decode b_Title_addSpan 1 = .ok (.getfield 26, 3) := by decide +kernel
theorem d_Title_addSpan_4 : decode b_Title_addSpan 4 = .ok (.bipush 10, 2) := by decide +kernel
theorem d_Title_addSpan_6 : decode b_Title_addSpan 6 = .ok (.if_icmp .lt 4, 3) := by decide +kernel
theorem d_Title_addSpan_9 : decode b_Title_addSpan 9 = .ok (.return_, 1) := by decide +kernel
theorem d_Title_addSpan_10 : decode b_Title_addSpan 10 = .ok (.aload_n 0, 1) := by decide +kernel
theorem d_Title_addSpan_11 : decode b_Title_addSpan 11 = .ok (.getfield 26, 3) := by decide +kernel
theorem d_Title_addSpan_14 : decode b_Title_addSpan 14 = .ok (.istore_n 3, 1) := by decide +kernel
theorem d_Title_addSpan_15 : decode b_Title_addSpan 15 = .ok (.iload_n 3, 1) := by decide +kernel
theorem d_Title_addSpan_16 : decode b_Title_addSpan 16 = .ok (.ifCond .le 49, 3) := by decide +kernel
theorem d_Title_addSpan_19 : decode b_Title_addSpan 19 = .ok (.aload_n 0, 1) := by decide +kernel
theorem d_Title_addSpan_20 : decode b_Title_addSpan 20 = .ok (.getfield 19, 3) := by decide +kernel
theorem d_Title_addSpan_23 : decode b_Title_addSpan 23 = .ok (.iload_n 3, 1) := by decide +kernel
theorem d_Title_addSpan_24 : decode b_Title_addSpan 24 = .ok (.iconst 1, 1) := by decide +kernel
theorem d_Title_addSpan_25 : decode b_Title_addSpan 25 = .ok (.isub, 1) := by decide +kernel
theorem d_Title_addSpan_26 : decode b_Title_addSpan 26 = .ok (.iaload, 1) := by decide +kernel
theorem d_Title_addSpan_27 : decode b_Title_addSpan 27 = .ok (.iload_n 1, 1) := by decide +kernel
theorem d_Title_addSpan_28 : decode b_Title_addSpan 28 = .ok (.if_icmp .le 37, 3) := by decide +kernel
theorem d_Title_addSpan_31 : decode b_Title_addSpan 31 = .ok (.aload_n 0, 1) := by decide +kernel
theorem d_Title_addSpan_32 : decode b_Title_addSpan 32 = .ok (.getfield 19, 3) := by decide +kernel
theorem d_Title_addSpan_35 : decode b_Title_addSpan 35 = .ok (.iload_n 3, 1) := by decide +kernel
theorem d_Title_addSpan_36 : decode b_Title_addSpan 36 = .ok (.aload_n 0, 1) := by decide +kernel
theorem d_Title_addSpan_37 : decode b_Title_addSpan 37 = .ok (.getfield 19, 3) := by decide +kernel
theorem d_Title_addSpan_40 : decode b_Title_addSpan 40 = .ok (.iload_n 3, 1) := by decide +kernel
theorem d_Title_addSpan_41 : decode b_Title_addSpan 41 = .ok (.iconst 1, 1) := by decide +kernel
theorem d_Title_addSpan_42 : decode b_Title_addSpan 42 = .ok (.isub, 1) := by decide +kernel
theorem d_Title_addSpan_43 : decode b_Title_addSpan 43 = .ok (.iaload, 1) := by decide +kernel
theorem d_Title_addSpan_44 : decode b_Title_addSpan 44 = .ok (.iastore, 1) := by decide +kernel
theorem d_Title_addSpan_45 : decode b_Title_addSpan 45 = .ok (.aload_n 0, 1) := by decide +kernel
theorem d_Title_addSpan_46 : decode b_Title_addSpan 46 = .ok (.getfield 23, 3) := by decide +kernel
theorem d_Title_addSpan_49 : decode b_Title_addSpan 49 = .ok (.iload_n 3, 1) := by decide +kernel
theorem d_Title_addSpan_50 : decode b_Title_addSpan 50 = .ok (.aload_n 0, 1) := by decide +kernel
theorem d_Title_addSpan_51 : decode b_Title_addSpan 51 = .ok (.getfield 23, 3) := by decide +kernel
theorem d_Title_addSpan_54 : decode b_Title_addSpan 54 = .ok (.iload_n 3, 1) := by decide +kernel
theorem d_Title_addSpan_55 : decode b_Title_addSpan 55 = .ok (.iconst 1, 1) := by decide +kernel
theorem d_Title_addSpan_56 : decode b_Title_addSpan 56 = .ok (.isub, 1) := by decide +kernel
theorem d_Title_addSpan_57 : decode b_Title_addSpan 57 = .ok (.iaload, 1) := by decide +kernel
theorem d_Title_addSpan_58 : decode b_Title_addSpan 58 = .ok (.iastore, 1) := by decide +kernel
theorem d_Title_addSpan_59 : decode b_Title_addSpan 59 = .ok (.iinc 3 (-1), 3) := by decide +kernel
theorem d_Title_addSpan_62 : decode b_Title_addSpan 62 = .ok (.goto (-47), 3) := by decide +kernel
theorem d_Title_addSpan_65 : decode b_Title_addSpan 65 = .ok (.aload_n 0, 1) := by decide +kernel
theorem d_Title_addSpan_66 : decode b_Title_addSpan 66 = .ok (.getfield 19, 3) := by decide +kernel
theorem d_Title_addSpan_69 : decode b_Title_addSpan 69 = .ok (.iload_n 3, 1) := by decide +kernel
theorem d_Title_addSpan_70 : decode b_Title_addSpan 70 = .ok (.iload_n 1, 1) := by decide +kernel
theorem d_Title_addSpan_71 : decode b_Title_addSpan 71 = .ok (.iastore, 1) := by decide +kernel
theorem d_Title_addSpan_72 : decode b_Title_addSpan 72 = .ok (.aload_n 0, 1) := by decide +kernel
theorem d_Title_addSpan_73 : decode b_Title_addSpan 73 = .ok (.getfield 23, 3) := by decide +kernel
theorem d_Title_addSpan_76 : decode b_Title_addSpan 76 = .ok (.iload_n 3, 1) := by decide +kernel
theorem d_Title_addSpan_77 : decode b_Title_addSpan 77 = .ok (.iload_n 2, 1) := by decide +kernel
theorem d_Title_addSpan_78 : decode b_Title_addSpan 78 = .ok (.iastore, 1) := by decide +kernel
theorem d_Title_addSpan_79 : decode b_Title_addSpan 79 = .ok (.aload_n 0, 1) := by decide +kernel
theorem d_Title_addSpan_80 : decode b_Title_addSpan 80 = .ok (.dup, 1) := by decide +kernel
theorem d_Title_addSpan_81 : decode b_Title_addSpan 81 = .ok (.getfield 26, 3) := by decide +kernel
theorem d_Title_addSpan_84 : decode b_Title_addSpan 84 = .ok (.iconst 1, 1) := by decide +kernel
theorem d_Title_addSpan_85 : decode b_Title_addSpan 85 = .ok (.iadd, 1) := by decide +kernel
theorem d_Title_addSpan_86 : decode b_Title_addSpan 86 = .ok (.putfield 26, 3) := by decide +kernel
theorem d_Title_addSpan_89 : decode b_Title_addSpan 89 = .ok (.return_, 1) := by decide +kernel
theorem d_X_monthOf_0 : decode b_X_monthOf 0 = .ok (.iload_n 0, 1) := by decide +kernel
theorem d_X_monthOf_1 : decode b_X_monthOf 1 = .ok (.bipush 30, 2) := by decide +kernel
theorem d_X_monthOf_3 : decode b_X_monthOf 3 = .ok (.idiv, 1) := by decide +kernel
theorem d_X_monthOf_4 : decode b_X_monthOf 4 = .ok (.ireturn, 1) := by decide +kernel
theorem d_Title_lastFreeMonth_0 : decode b_Title_lastFreeMonth 0 = .ok (.iload_n 1, 1) := by decide +kernel
theorem d_Title_lastFreeMonth_1 : decode b_Title_lastFreeMonth 1 = .ok (.invokestatic 36, 3) := by decide +kernel
theorem d_Title_lastFreeMonth_4 : decode b_Title_lastFreeMonth 4 = .ok (.aload_n 0, 1) := by decide +kernel
theorem d_Title_lastFreeMonth_5 : decode b_Title_lastFreeMonth 5 = .ok (.getfield 15, 3) := by decide +kernel
theorem d_Title_lastFreeMonth_8 : decode b_Title_lastFreeMonth 8 = .ok (.isub, 1) := by decide +kernel
theorem d_Title_lastFreeMonth_9 : decode b_Title_lastFreeMonth 9 = .ok (.ireturn, 1) := by decide +kernel
theorem d_Rule_init_0 : decode b_Rule_init 0 = .ok (.aload_n 0, 1) := by decide +kernel
theorem d_Rule_init_1 : decode b_Rule_init 1 = .ok (.invokespecial 3, 3) := by decide +kernel
theorem d_Rule_init_4 : decode b_Rule_init 4 = .ok (.aload_n 0, 1) := by decide +kernel
theorem d_Rule_init_5 : decode b_Rule_init 5 = .ok (.iconst 0, 1) := by decide +kernel
theorem d_Rule_init_6 : decode b_Rule_init 6 = .ok (.putfield 9, 3) := by decide +kernel
theorem d_Rule_init_9 : decode b_Rule_init 9 = .ok (.aload_n 0, 1) := by decide +kernel
theorem d_Rule_init_10 : decode b_Rule_init 10 = .ok (.iload_n 1, 1) := by decide +kernel
theorem d_Rule_init_11 : decode b_Rule_init 11 = .ok (.putfield 15, 3) := by decide +kernel
theorem d_Rule_init_14 : decode b_Rule_init 14 = .ok (.aload_n 0, 1) := by decide +kernel
theorem d_Rule_init_15 : decode b_Rule_init 15 = .ok (.iload_n 2, 1) := by decide +kernel
theorem d_Rule_init_16 : decode b_Rule_init 16 = .ok (.putfield 19, 3) := by decide +kernel
theorem d_Rule_init_19 : decode b_Rule_init 19 = .ok (.aload_n 0, 1) := by decide +kernel
theorem d_Rule_init_20 : decode b_Rule_init 20 = .ok (.iload_n 3, 1) := by decide +kernel
theorem d_Rule_init_21 : decode b_Rule_init 21 = .ok (.putfield 22, 3) := by decide +kernel
theorem d_Rule_init_24 : decode b_Rule_init 24 = .ok (.aload_n 0, 1) := by decide +kernel
theorem d_Rule_init_25 : decode b_Rule_init 25 = .ok (.iload 4, 2) := by decide +kernel
theorem d_Rule_init_27 : decode b_Rule_init 27 = .ok (.putfield 25, 3) := by decide +kernel
theorem d_Rule_init_30 : decode b_Rule_init 30 = .ok (.return_, 1) := by decide +kernel
theorem d_Pack_hasPlace_0 : decode b_Pack_hasPlace 0 = .ok (.aload_n 0, 1) := by decide +kernel
theorem d_Pack_hasPlace_1 : decode b_Pack_hasPlace 1 = .ok (.getfield 12, 3) := by decide +kernel
theorem d_Pack_hasPlace_4 : decode b_Pack_hasPlace 4 = .ok (.getfield 35, 3) := by decide +kernel
theorem d_Pack_hasPlace_7 : decode b_Pack_hasPlace 7 = .ok (.aload_n 0, 1) := by decide +kernel
theorem d_Pack_hasPlace_8 : decode b_Pack_hasPlace 8 = .ok (.getfield 21, 3) := by decide +kernel
theorem d_Pack_hasPlace_11 : decode b_Pack_hasPlace 11 = .ok (.if_icmp .ge 7, 3) := by decide +kernel
theorem d_Pack_hasPlace_14 : decode b_Pack_hasPlace 14 = .ok (.iconst 1, 1) := by decide +kernel
theorem d_Pack_hasPlace_15 : decode b_Pack_hasPlace 15 = .ok (.goto 4, 3) := by decide +kernel
theorem d_Pack_hasPlace_18 : decode b_Pack_hasPlace 18 = .ok (.iconst 0, 1) := by decide +kernel
theorem d_Pack_hasPlace_19 : decode b_Pack_hasPlace 19 = .ok (.ireturn, 1) := by decide +kernel
theorem d_Line_placeOf_0 : decode b_Line_placeOf 0 = .ok (.iconst 0, 1) := by decide +kernel
theorem d_Line_placeOf_1 : decode b_Line_placeOf 1 = .ok (.istore_n 2, 1) := by decide +kernel
theorem d_Line_placeOf_2 : decode b_Line_placeOf 2 = .ok (.iload_n 2, 1) := by decide +kernel
theorem d_Line_placeOf_3 : decode b_Line_placeOf 3 = .ok (.aload_n 0, 1) := by decide +kernel
theorem d_Line_placeOf_4 : decode b_Line_placeOf 4 = .ok (.getfield 15, 3) := by decide +kernel
theorem d_Line_placeOf_7 : decode b_Line_placeOf 7 = .ok (.if_icmp .ge 21, 3) := by decide +kernel
theorem d_Line_placeOf_10 : decode b_Line_placeOf 10 = .ok (.aload_n 0, 1) := by decide +kernel
theorem d_Line_placeOf_11 : decode b_Line_placeOf 11 = .ok (.getfield 9, 3) := by decide +kernel
theorem d_Line_placeOf_14 : decode b_Line_placeOf 14 = .ok (.iload_n 2, 1) := by decide +kernel
theorem d_Line_placeOf_15 : decode b_Line_placeOf 15 = .ok (.iaload, 1) := by decide +kernel
theorem d_Line_placeOf_16 : decode b_Line_placeOf 16 = .ok (.iload_n 1, 1) := by decide +kernel
theorem d_Line_placeOf_17 : decode b_Line_placeOf 17 = .ok (.if_icmp .ne 5, 3) := by decide +kernel
theorem d_Line_placeOf_20 : decode b_Line_placeOf 20 = .ok (.iload_n 2, 1) := by decide +kernel
theorem d_Line_placeOf_21 : decode b_Line_placeOf 21 = .ok (.ireturn, 1) := by decide +kernel
theorem d_Line_placeOf_22 : decode b_Line_placeOf 22 = .ok (.iinc 2 1, 3) := by decide +kernel
theorem d_Line_placeOf_25 : decode b_Line_placeOf 25 = .ok (.goto (-23), 3) := by decide +kernel
theorem d_Line_placeOf_28 : decode b_Line_placeOf 28 = .ok (.iconst (-1), 1) := by decide +kernel
theorem d_Line_placeOf_29 : decode b_Line_placeOf 29 = .ok (.ireturn, 1) := by decide +kernel
theorem d_Line_drop_0 : decode b_Line_drop 0 = .ok (.aload_n 0, 1) := by decide +kernel
theorem d_Line_drop_1 : decode b_Line_drop 1 = .ok (.iload_n 1, 1) := by decide +kernel
theorem d_Line_drop_2 : decode b_Line_drop 2 = .ok (.invokevirtual 19, 3) := by decide +kernel
theorem d_Line_drop_5 : decode b_Line_drop 5 = .ok (.istore_n 2, 1) := by decide +kernel
theorem d_Line_drop_6 : decode b_Line_drop 6 = .ok (.iload_n 2, 1) := by decide +kernel
theorem d_Line_drop_7 : decode b_Line_drop 7 = .ok (.ifCond .ge 5, 3) := by decide +kernel
theorem d_Line_drop_10 : decode b_Line_drop 10 = .ok (.iconst 0, 1) := by decide +kernel
theorem d_Line_drop_11 : decode b_Line_drop 11 = .ok (.ireturn, 1) := by decide +kernel
theorem d_Line_drop_12 : decode b_Line_drop 12 = .ok (.aload_n 0, 1) := by decide +kernel
theorem d_Line_drop_13 : decode b_Line_drop 13 = .ok (.dup, 1) := by decide +kernel
theorem d_Line_drop_14 : decode b_Line_drop 14 = .ok (.getfield 15, 3) := by decide +kernel
theorem d_Line_drop_17 : decode b_Line_drop 17 = .ok (.iconst 1, 1) := by decide +kernel
theorem d_Line_drop_18 : decode b_Line_drop 18 = .ok (.isub, 1) := by decide +kernel
theorem d_Line_drop_19 : decode b_Line_drop 19 = .ok (.putfield 15, 3) := by decide +kernel
theorem d_Line_drop_22 : decode b_Line_drop 22 = .ok (.iload_n 2, 1) := by decide +kernel
theorem d_Line_drop_23 : decode b_Line_drop 23 = .ok (.istore_n 3, 1) := by decide +kernel
theorem d_Line_drop_24 : decode b_Line_drop 24 = .ok (.iload_n 3, 1) := by decide +kernel
theorem d_Line_drop_25 : decode b_Line_drop 25 = .ok (.aload_n 0, 1) := by decide +kernel
theorem d_Line_drop_26 : decode b_Line_drop 26 = .ok (.getfield 15, 3) := by decide +kernel
theorem d_Line_drop_29 : decode b_Line_drop 29 = .ok (.if_icmp .ge 23, 3) := by decide +kernel
theorem d_Line_drop_32 : decode b_Line_drop 32 = .ok (.aload_n 0, 1) := by decide +kernel
theorem d_Line_drop_33 : decode b_Line_drop 33 = .ok (.getfield 9, 3) := by decide +kernel
theorem d_Line_drop_36 : decode b_Line_drop 36 = .ok (.iload_n 3, 1) := by decide +kernel
theorem d_Line_drop_37 : decode b_Line_drop 37 = .ok (.aload_n 0, 1) := by decide +kernel
theorem d_Line_drop_38 : decode b_Line_drop 38 = .ok (.getfield 9, 3) := by decide +kernel
theorem d_Line_drop_41 : decode b_Line_drop 41 = .ok (.iload_n 3, 1) := by decide +kernel
theorem d_Line_drop_42 : decode b_Line_drop 42 = .ok (.iconst 1, 1) := by decide +kernel
theorem d_Line_drop_43 : decode b_Line_drop 43 = .ok (.iadd, 1) := by decide +kernel
theorem d_Line_drop_44 : decode b_Line_drop 44 = .ok (.iaload, 1) := by decide +kernel
theorem d_Line_drop_45 : decode b_Line_drop 45 = .ok (.iastore, 1) := by decide +kernel
theorem d_Line_drop_46 : decode b_Line_drop 46 = .ok (.iinc 3 1, 3) := by decide +kernel
theorem d_Line_drop_49 : decode b_Line_drop 49 = .ok (.goto (-25), 3) := by decide +kernel
theorem d_Line_drop_52 : decode b_Line_drop 52 = .ok (.iconst 1, 1) := by decide +kernel
theorem d_Line_drop_53 : decode b_Line_drop 53 = .ok (.ireturn, 1) := by decide +kernel
theorem d_Line_append_0 : decode b_Line_append 0 = .ok (.aload_n 0, 1) := by decide +kernel
theorem d_Line_append_1 : decode b_Line_append 1 = .ok (.getfield 15, 3) := by decide +kernel
theorem d_Line_append_4 : decode b_Line_append 4 = .ok (.bipush 100, 2) := by decide +kernel
theorem d_Line_append_6 : decode b_Line_append 6 = .ok (.if_icmp .ge 23, 3) := by decide +kernel
theorem d_Line_append_9 : decode b_Line_append 9 = .ok (.aload_n 0, 1) := by decide +kernel
theorem d_Line_append_10 : decode b_Line_append 10 = .ok (.getfield 9, 3) := by decide +kernel
theorem d_Line_append_13 : decode b_Line_append 13 = .ok (.aload_n 0, 1) := by decide +kernel
theorem d_Line_append_14 : decode b_Line_append 14 = .ok (.getfield 15, 3) := by decide +kernel
theorem d_Line_append_17 : decode b_Line_append 17 = .ok (.iload_n 1, 1) := by decide +kernel
theorem d_Line_append_18 : decode b_Line_append 18 = .ok (.iastore, 1) := by decide +kernel
theorem d_Line_append_19 : decode b_Line_append 19 = .ok (.aload_n 0, 1) := by decide +kernel
theorem d_Line_append_20 : decode b_Line_append 20 = .ok (.dup, 1) := by decide +kernel
theorem d_Line_append_21 : decode b_Line_append 21 = .ok (.getfield 15, 3) := by decide +kernel
theorem d_Line_append_24 : decode b_Line_append 24 = .ok (.iconst 1, 1) := by decide +kernel
theorem d_Line_append_25 : decode b_Line_append 25 = .ok (.iadd, 1) := by decide +kernel
theorem d_Line_append_26 : decode b_Line_append 26 = .ok (.putfield 15, 3) := by decide +kernel
theorem d_Line_append_29 : decode b_Line_append 29 = .ok (.return_, 1) := by decide +kernel
theorem d_Pack_admitNext_0 : decode b_Pack_admitNext 0 = .ok (.aload_n 0, 1) := by decide +kernel
theorem d_Pack_admitNext_1 : decode b_Pack_admitNext 1 = .ok (.invokevirtual 38, 3) := by decide +kernel
theorem d_Pack_admitNext_4 : decode b_Pack_admitNext 4 = .ok (.ifCond .eq 13, 3) := by decide +kernel
theorem d_Pack_admitNext_7 : decode b_Pack_admitNext 7 = .ok (.aload_n 0, 1) := by decide +kernel
theorem d_Pack_admitNext_8 : decode b_Pack_admitNext 8 = .ok (.getfield 18, 3) := by decide +kernel
theorem d_Pack_admitNext_11 : decode b_Pack_admitNext 11 = .ok (.getfield 35, 3) := by decide +kernel
theorem d_Pack_admitNext_14 : decode b_Pack_admitNext 14 = .ok (.ifCond .ne 6, 3) := by decide +kernel
theorem d_Pack_admitNext_17 : decode b_Pack_admitNext 17 = .ok (.bipush (-10), 2) := by decide +kernel
theorem d_Pack_admitNext_19 : decode b_Pack_admitNext 19 = .ok (.ireturn, 1) := by decide +kernel
theorem d_Pack_admitNext_20 : decode b_Pack_admitNext 20 = .ok (.aload_n 0, 1) := by decide +kernel
theorem d_Pack_admitNext_21 : decode b_Pack_admitNext 21 = .ok (.getfield 18, 3) := by decide +kernel
theorem d_Pack_admitNext_24 : decode b_Pack_admitNext 24 = .ok (.getfield 42, 3) := by decide +kernel
theorem d_Pack_admitNext_27 : decode b_Pack_admitNext 27 = .ok (.iconst 0, 1) := by decide +kernel
theorem d_Pack_admitNext_28 : decode b_Pack_admitNext 28 = .ok (.iaload, 1) := by decide +kernel
theorem d_Pack_admitNext_29 : decode b_Pack_admitNext 29 = .ok (.istore_n 1, 1) := by decide +kernel
theorem d_Pack_admitNext_30 : decode b_Pack_admitNext 30 = .ok (.aload_n 0, 1) := by decide +kernel
theorem d_Pack_admitNext_31 : decode b_Pack_admitNext 31 = .ok (.getfield 18, 3) := by decide +kernel
theorem d_Pack_admitNext_34 : decode b_Pack_admitNext 34 = .ok (.iload_n 1, 1) := by decide +kernel
theorem d_Pack_admitNext_35 : decode b_Pack_admitNext 35 = .ok (.invokevirtual 46, 3) := by decide +kernel
theorem d_Pack_admitNext_38 : decode b_Pack_admitNext 38 = .ok (.pop, 1) := by decide +kernel
theorem d_Pack_admitNext_39 : decode b_Pack_admitNext 39 = .ok (.aload_n 0, 1) := by decide +kernel
theorem d_Pack_admitNext_40 : decode b_Pack_admitNext 40 = .ok (.getfield 12, 3) := by decide +kernel
theorem d_Pack_admitNext_43 : decode b_Pack_admitNext 43 = .ok (.iload_n 1, 1) := by decide +kernel
theorem d_Pack_admitNext_44 : decode b_Pack_admitNext 44 = .ok (.invokevirtual 50, 3) := by decide +kernel
theorem d_Pack_admitNext_47 : decode b_Pack_admitNext 47 = .ok (.iload_n 1, 1) := by decide +kernel
theorem d_Pack_admitNext_48 : decode b_Pack_admitNext 48 = .ok (.ireturn, 1) := by decide +kernel
theorem d_Line_holds_0 : decode b_Line_holds 0 = .ok (.aload_n 0, 1) := by decide +kernel
theorem d_Line_holds_1 : decode b_Line_holds 1 = .ok (.iload_n 1, 1) := by decide +kernel
theorem d_Line_holds_2 : decode b_Line_holds 2 = .ok (.invokevirtual 19, 3) := by decide +kernel
theorem d_Line_holds_5 : decode b_Line_holds 5 = .ok (.ifCond .lt 7, 3) := by decide +kernel
theorem d_Line_holds_8 : decode b_Line_holds 8 = .ok (.iconst 1, 1) := by decide +kernel
theorem d_Line_holds_9 : decode b_Line_holds 9 = .ok (.goto 4, 3) := by decide +kernel
theorem d_Line_holds_12 : decode b_Line_holds 12 = .ok (.iconst 0, 1) := by decide +kernel
theorem d_Line_holds_13 : decode b_Line_holds 13 = .ok (.ireturn, 1) := by decide +kernel
theorem d_Pack_hasEndedBy_0 : decode b_Pack_hasEndedBy 0 = .ok (.aload_n 0, 1) := by decide +kernel
theorem d_Pack_hasEndedBy_1 : decode b_Pack_hasEndedBy 1 = .ok (.getfield 25, 3) := by decide +kernel
theorem d_Pack_hasEndedBy_4 : decode b_Pack_hasEndedBy 4 = .ok (.iconst (-1), 1) := by decide +kernel
theorem d_Pack_hasEndedBy_5 : decode b_Pack_hasEndedBy 5 = .ok (.if_icmp .eq 15, 3) := by decide +kernel
theorem d_Pack_hasEndedBy_8 : decode b_Pack_hasEndedBy 8 = .ok (.aload_n 0, 1) := by decide +kernel
theorem d_Pack_hasEndedBy_9 : decode b_Pack_hasEndedBy 9 = .ok (.getfield 25, 3) := by decide +kernel
theorem d_Pack_hasEndedBy_12 : decode b_Pack_hasEndedBy 12 = .ok (.iload_n 1, 1) := by decide +kernel
theorem d_Pack_hasEndedBy_13 : decode b_Pack_hasEndedBy 13 = .ok (.if_icmp .gt 7, 3) := by decide +kernel
theorem d_Pack_hasEndedBy_16 : decode b_Pack_hasEndedBy 16 = .ok (.iconst 1, 1) := by decide +kernel
theorem d_Pack_hasEndedBy_17 : decode b_Pack_hasEndedBy 17 = .ok (.goto 4, 3) := by decide +kernel
theorem d_Pack_hasEndedBy_20 : decode b_Pack_hasEndedBy 20 = .ok (.iconst 0, 1) := by decide +kernel
theorem d_Pack_hasEndedBy_21 : decode b_Pack_hasEndedBy 21 = .ok (.ireturn, 1) := by decide +kernel
theorem d_Pack_keepsDay_0 : decode b_Pack_keepsDay 0 = .ok (.aload_n 0, 1) := by decide +kernel
theorem d_Pack_keepsDay_1 : decode b_Pack_keepsDay 1 = .ok (.getfield 31, 3) := by decide +kernel
theorem d_Pack_keepsDay_4 : decode b_Pack_keepsDay 4 = .ok (.ifCond .eq 15, 3) := by decide +kernel
theorem d_Pack_keepsDay_7 : decode b_Pack_keepsDay 7 = .ok (.iload_n 1, 1) := by decide +kernel
theorem d_Pack_keepsDay_8 : decode b_Pack_keepsDay 8 = .ok (.aload_n 0, 1) := by decide +kernel
theorem d_Pack_keepsDay_9 : decode b_Pack_keepsDay 9 = .ok (.getfield 25, 3) := by decide +kernel
theorem d_Pack_keepsDay_12 : decode b_Pack_keepsDay 12 = .ok (.if_icmp .ge 7, 3) := by decide +kernel
theorem d_Pack_keepsDay_15 : decode b_Pack_keepsDay 15 = .ok (.iconst 1, 1) := by decide +kernel
theorem d_Pack_keepsDay_16 : decode b_Pack_keepsDay 16 = .ok (.goto 4, 3) := by decide +kernel
theorem d_Pack_keepsDay_19 : decode b_Pack_keepsDay 19 = .ok (.iconst 0, 1) := by decide +kernel
theorem d_Pack_keepsDay_20 : decode b_Pack_keepsDay 20 = .ok (.ireturn, 1) := by decide +kernel
theorem d_Title_covers_0 : decode b_Title_covers 0 = .ok (.iconst 0, 1) := by decide +kernel
theorem d_Title_covers_1 : decode b_Title_covers 1 = .ok (.istore_n 2, 1) := by decide +kernel
theorem d_Title_covers_2 : decode b_Title_covers 2 = .ok (.iload_n 2, 1) := by decide +kernel
theorem d_Title_covers_3 : decode b_Title_covers 3 = .ok (.aload_n 0, 1) := by decide +kernel
theorem d_Title_covers_4 : decode b_Title_covers 4 = .ok (.getfield 26, 3) := by decide +kernel
theorem d_Title_covers_7 : decode b_Title_covers 7 = .ok (.if_icmp .ge 31, 3) := by decide +kernel
theorem d_Title_covers_10 : decode b_Title_covers 10 = .ok (.aload_n 0, 1) := by decide +kernel
theorem d_Title_covers_11 : decode b_Title_covers 11 = .ok (.getfield 19, 3) := by decide +kernel
theorem d_Title_covers_14 : decode b_Title_covers 14 = .ok (.iload_n 2, 1) := by decide +kernel
theorem d_Title_covers_15 : decode b_Title_covers 15 = .ok (.iaload, 1) := by decide +kernel
theorem d_Title_covers_16 : decode b_Title_covers 16 = .ok (.iload_n 1, 1) := by decide +kernel
theorem d_Title_covers_17 : decode b_Title_covers 17 = .ok (.if_icmp .gt 15, 3) := by decide +kernel
theorem d_Title_covers_20 : decode b_Title_covers 20 = .ok (.iload_n 1, 1) := by decide +kernel
theorem d_Title_covers_21 : decode b_Title_covers 21 = .ok (.aload_n 0, 1) := by decide +kernel
theorem d_Title_covers_22 : decode b_Title_covers 22 = .ok (.getfield 23, 3) := by decide +kernel
theorem d_Title_covers_25 : decode b_Title_covers 25 = .ok (.iload_n 2, 1) := by decide +kernel
theorem d_Title_covers_26 : decode b_Title_covers 26 = .ok (.iaload, 1) := by decide +kernel
theorem d_Title_covers_27 : decode b_Title_covers 27 = .ok (.if_icmp .gt 5, 3) := by decide +kernel
theorem d_Title_covers_30 : decode b_Title_covers 30 = .ok (.iconst 1, 1) := by decide +kernel
theorem d_Title_covers_31 : decode b_Title_covers 31 = .ok (.ireturn, 1) := by decide +kernel
theorem d_Title_covers_32 : decode b_Title_covers 32 = .ok (.iinc 2 1, 3) := by decide +kernel
theorem d_Title_covers_35 : decode b_Title_covers 35 = .ok (.goto (-33), 3) := by decide +kernel
theorem d_Title_covers_38 : decode b_Title_covers 38 = .ok (.iconst 0, 1) := by decide +kernel
theorem d_Title_covers_39 : decode b_Title_covers 39 = .ok (.ireturn, 1) := by decide +kernel
theorem d_Usages_ofReaderIn_0 : decode b_Usages_ofReaderIn 0 = .ok (.iconst 0, 1) := by decide +kernel
theorem d_Usages_ofReaderIn_1 : decode b_Usages_ofReaderIn 1 = .ok (.istore_n 3, 1) := by decide +kernel
theorem d_Usages_ofReaderIn_2 : decode b_Usages_ofReaderIn 2 = .ok (.iconst 0, 1) := by decide +kernel
theorem d_Usages_ofReaderIn_3 : decode b_Usages_ofReaderIn 3 = .ok (.istore 4, 2) := by decide +kernel
theorem d_Usages_ofReaderIn_5 : decode b_Usages_ofReaderIn 5 = .ok (.iload 4, 2) := by decide +kernel
theorem d_Usages_ofReaderIn_7 : decode b_Usages_ofReaderIn 7 = .ok (.aload_n 0, 1) := by decide +kernel
theorem d_Usages_ofReaderIn_8 : decode b_Usages_ofReaderIn 8 = .ok (.getfield 21, 3) := by decide +kernel
theorem d_Usages_ofReaderIn_11 : decode b_Usages_ofReaderIn 11 = .ok (.if_icmp .ge 34, 3) := by decide +kernel
theorem d_Usages_ofReaderIn_14 : decode b_Usages_ofReaderIn 14 = .ok (.aload_n 0, 1) := by decide +kernel
theorem d_Usages_ofReaderIn_15 : decode b_Usages_ofReaderIn 15 = .ok (.getfield 9, 3) := by decide +kernel
theorem d_Usages_ofReaderIn_18 : decode b_Usages_ofReaderIn 18 = .ok (.iload 4, 2) := by decide +kernel
theorem d_Usages_ofReaderIn_20 : decode b_Usages_ofReaderIn 20 = .ok (.iaload, 1) := by decide +kernel
theorem d_Usages_ofReaderIn_21 : decode b_Usages_ofReaderIn 21 = .ok (.iload_n 1, 1) := by decide +kernel
theorem d_Usages_ofReaderIn_22 : decode b_Usages_ofReaderIn 22 = .ok (.if_icmp .ne 17, 3) := by decide +kernel
theorem d_Usages_ofReaderIn_25 : decode b_Usages_ofReaderIn 25 = .ok (.aload_n 0, 1) := by decide +kernel
theorem d_Usages_ofReaderIn_26 : decode b_Usages_ofReaderIn 26 = .ok (.getfield 18, 3) := by decide +kernel
theorem d_Usages_ofReaderIn_29 : decode b_Usages_ofReaderIn 29 = .ok (.iload 4, 2) := by decide +kernel
theorem d_Usages_ofReaderIn_31 : decode b_Usages_ofReaderIn 31 = .ok (.iaload, 1) := by decide +kernel
theorem d_Usages_ofReaderIn_32 : decode b_Usages_ofReaderIn 32 = .ok (.iload_n 2, 1) := by decide +kernel
theorem d_Usages_ofReaderIn_33 : decode b_Usages_ofReaderIn 33 = .ok (.if_icmp .ne 6, 3) := by decide +kernel
theorem d_Usages_ofReaderIn_36 : decode b_Usages_ofReaderIn 36 = .ok (.iinc 3 1, 3) := by decide +kernel
theorem d_Usages_ofReaderIn_39 : decode b_Usages_ofReaderIn 39 = .ok (.iinc 4 1, 3) := by decide +kernel
theorem d_Usages_ofReaderIn_42 : decode b_Usages_ofReaderIn 42 = .ok (.goto (-37), 3) := by decide +kernel
theorem d_Usages_ofReaderIn_45 : decode b_Usages_ofReaderIn 45 = .ok (.iload_n 3, 1) := by decide +kernel
theorem d_Usages_ofReaderIn_46 : decode b_Usages_ofReaderIn 46 = .ok (.ireturn, 1) := by decide +kernel
theorem d_Notices_append_0 : decode b_Notices_append 0 = .ok (.aload_n 0, 1) := by decide +kernel
theorem d_Notices_append_1 : decode b_Notices_append 1 = .ok (.getfield 18, 3) := by decide +kernel
theorem d_Notices_append_4 : decode b_Notices_append 4 = .ok (.bipush 100, 2) := by decide +kernel
theorem d_Notices_append_6 : decode b_Notices_append 6 = .ok (.if_icmp .ge 33, 3) := by decide +kernel
theorem d_Notices_append_9 : decode b_Notices_append 9 = .ok (.aload_n 0, 1) := by decide +kernel
theorem d_Notices_append_10 : decode b_Notices_append 10 = .ok (.getfield 9, 3) := by decide +kernel
theorem d_Notices_append_13 : decode b_Notices_append 13 = .ok (.aload_n 0, 1) := by decide +kernel
theorem d_Notices_append_14 : decode b_Notices_append 14 = .ok (.getfield 18, 3) := by decide +kernel
theorem d_Notices_append_17 : decode b_Notices_append 17 = .ok (.iload_n 1, 1) := by decide +kernel
theorem d_Notices_append_18 : decode b_Notices_append 18 = .ok (.iastore, 1) := by decide +kernel
theorem d_Notices_append_19 : decode b_Notices_append 19 = .ok (.aload_n 0, 1) := by decide +kernel
theorem d_Notices_append_20 : decode b_Notices_append 20 = .ok (.getfield 15, 3) := by decide +kernel
theorem d_Notices_append_23 : decode b_Notices_append 23 = .ok (.aload_n 0, 1) := by decide +kernel
theorem d_Notices_append_24 : decode b_Notices_append 24 = .ok (.getfield 18, 3) := by decide +kernel
theorem d_Notices_append_27 : decode b_Notices_append 27 = .ok (.iload_n 2, 1) := by decide +kernel
theorem d_Notices_append_28 : decode b_Notices_append 28 = .ok (.iastore, 1) := by decide +kernel
theorem d_Notices_append_29 : decode b_Notices_append 29 = .ok (.aload_n 0, 1) := by decide +kernel
theorem d_Notices_append_30 : decode b_Notices_append 30 = .ok (.dup, 1) := by decide +kernel
theorem d_Notices_append_31 : decode b_Notices_append 31 = .ok (.getfield 18, 3) := by decide +kernel
theorem d_Notices_append_34 : decode b_Notices_append 34 = .ok (.iconst 1, 1) := by decide +kernel
theorem d_Notices_append_35 : decode b_Notices_append 35 = .ok (.iadd, 1) := by decide +kernel
theorem d_Notices_append_36 : decode b_Notices_append 36 = .ok (.putfield 18, 3) := by decide +kernel
theorem d_Notices_append_39 : decode b_Notices_append 39 = .ok (.return_, 1) := by decide +kernel
theorem d_Rule_fits_0 : decode b_Rule_fits 0 = .ok (.aload_n 0, 1) := by decide +kernel
theorem d_Rule_fits_1 : decode b_Rule_fits 1 = .ok (.getfield 19, 3) := by decide +kernel
theorem d_Rule_fits_4 : decode b_Rule_fits 4 = .ok (.tableswitch 96 0 3 #[32, 46, 60, 81], 32) := by decide +kernel
theorem d_Rule_fits_36 : decode b_Rule_fits 36 = .ok (.iload_n 1, 1) := by decide +kernel
theorem d_Rule_fits_37 : decode b_Rule_fits 37 = .ok (.aload_n 0, 1) := by decide +kernel
theorem d_Rule_fits_38 : decode b_Rule_fits 38 = .ok (.getfield 25, 3) := by decide +kernel
theorem d_Rule_fits_41 : decode b_Rule_fits 41 = .ok (.if_icmp .ne 7, 3) := by decide +kernel
theorem d_Rule_fits_44 : decode b_Rule_fits 44 = .ok (.iconst 1, 1) := by decide +kernel
theorem d_Rule_fits_45 : decode b_Rule_fits 45 = .ok (.goto 4, 3) := by decide +kernel
theorem d_Rule_fits_48 : decode b_Rule_fits 48 = .ok (.iconst 0, 1) := by decide +kernel
theorem d_Rule_fits_49 : decode b_Rule_fits 49 = .ok (.ireturn, 1) := by decide +kernel
theorem d_Rule_fits_50 : decode b_Rule_fits 50 = .ok (.iload_n 2, 1) := by decide +kernel
theorem d_Rule_fits_51 : decode b_Rule_fits 51 = .ok (.aload_n 0, 1) := by decide +kernel
theorem d_Rule_fits_52 : decode b_Rule_fits 52 = .ok (.getfield 25, 3) := by decide +kernel
theorem d_Rule_fits_55 : decode b_Rule_fits 55 = .ok (.if_icmp .ge 7, 3) := by decide +kernel
theorem d_Rule_fits_58 : decode b_Rule_fits 58 = .ok (.iconst 1, 1) := by decide +kernel
theorem d_Rule_fits_59 : decode b_Rule_fits 59 = .ok (.goto 4, 3) := by decide +kernel
theorem d_Rule_fits_62 : decode b_Rule_fits 62 = .ok (.iconst 0, 1) := by decide +kernel
theorem d_Rule_fits_63 : decode b_Rule_fits 63 = .ok (.ireturn, 1) := by decide +kernel
theorem d_Rule_fits_64 : decode b_Rule_fits 64 = .ok (.aload_n 0, 1) := by decide +kernel
theorem d_Rule_fits_65 : decode b_Rule_fits 65 = .ok (.getfield 25, 3) := by decide +kernel
theorem d_Rule_fits_68 : decode b_Rule_fits 68 = .ok (.iload_n 3, 1) := by decide +kernel
theorem d_Rule_fits_69 : decode b_Rule_fits 69 = .ok (.bipush 7, 2) := by decide +kernel
theorem d_Rule_fits_71 : decode b_Rule_fits 71 = .ok (.irem, 1) := by decide +kernel
theorem d_Rule_fits_72 : decode b_Rule_fits 72 = .ok (.ishr, 1) := by decide +kernel
theorem d_Rule_fits_73 : decode b_Rule_fits 73 = .ok (.iconst 1, 1) := by decide +kernel
theorem d_Rule_fits_74 : decode b_Rule_fits 74 = .ok (.iand, 1) := by decide +kernel
theorem d_Rule_fits_75 : decode b_Rule_fits 75 = .ok (.iconst 1, 1) := by decide +kernel
theorem d_Rule_fits_76 : decode b_Rule_fits 76 = .ok (.if_icmp .ne 7, 3) := by decide +kernel
theorem d_Rule_fits_79 : decode b_Rule_fits 79 = .ok (.iconst 1, 1) := by decide +kernel
theorem d_Rule_fits_80 : decode b_Rule_fits 80 = .ok (.goto 4, 3) := by decide +kernel
theorem d_Rule_fits_83 : decode b_Rule_fits 83 = .ok (.iconst 0, 1) := by decide +kernel
theorem d_Rule_fits_84 : decode b_Rule_fits 84 = .ok (.ireturn, 1) := by decide +kernel
theorem d_Rule_fits_85 : decode b_Rule_fits 85 = .ok (.iload 4, 2) := by decide +kernel
theorem d_Rule_fits_87 : decode b_Rule_fits 87 = .ok (.aload_n 0, 1) := by decide +kernel
theorem d_Rule_fits_88 : decode b_Rule_fits 88 = .ok (.getfield 25, 3) := by decide +kernel
theorem d_Rule_fits_91 : decode b_Rule_fits 91 = .ok (.if_icmp .lt 7, 3) := by decide +kernel
theorem d_Rule_fits_94 : decode b_Rule_fits 94 = .ok (.iconst 1, 1) := by decide +kernel
theorem d_Rule_fits_95 : decode b_Rule_fits 95 = .ok (.goto 4, 3) := by decide +kernel
theorem d_Rule_fits_98 : decode b_Rule_fits 98 = .ok (.iconst 0, 1) := by decide +kernel
theorem d_Rule_fits_99 : decode b_Rule_fits 99 = .ok (.ireturn, 1) := by decide +kernel
theorem d_Rule_fits_100 : decode b_Rule_fits 100 = .ok (.iconst 0, 1) := by decide +kernel
theorem d_Rule_fits_101 : decode b_Rule_fits 101 = .ok (.ireturn, 1) := by decide +kernel
theorem d_Usages_append_0 : decode b_Usages_append 0 = .ok (.aload_n 0, 1) := by decide +kernel
theorem d_Usages_append_1 : decode b_Usages_append 1 = .ok (.getfield 21, 3) := by decide +kernel
theorem d_Usages_append_4 : decode b_Usages_append 4 = .ok (.sipush 512, 3) := by decide +kernel
theorem d_Usages_append_7 : decode b_Usages_append 7 = .ok (.if_icmp .ge 43, 3) := by decide +kernel
theorem d_Usages_append_10 : decode b_Usages_append 10 = .ok (.aload_n 0, 1) := by decide +kernel
theorem d_Usages_append_11 : decode b_Usages_append 11 = .ok (.getfield 9, 3) := by decide +kernel
theorem d_Usages_append_14 : decode b_Usages_append 14 = .ok (.aload_n 0, 1) := by decide +kernel
theorem d_Usages_append_15 : decode b_Usages_append 15 = .ok (.getfield 21, 3) := by decide +kernel
theorem d_Usages_append_18 : decode b_Usages_append 18 = .ok (.iload_n 1, 1) := by decide +kernel
theorem d_Usages_append_19 : decode b_Usages_append 19 = .ok (.iastore, 1) := by decide +kernel
theorem d_Usages_append_20 : decode b_Usages_append 20 = .ok (.aload_n 0, 1) := by decide +kernel
theorem d_Usages_append_21 : decode b_Usages_append 21 = .ok (.getfield 15, 3) := by decide +kernel
theorem d_Usages_append_24 : decode b_Usages_append 24 = .ok (.aload_n 0, 1) := by decide +kernel
theorem d_Usages_append_25 : decode b_Usages_append 25 = .ok (.getfield 21, 3) := by decide +kernel
theorem d_Usages_append_28 : decode b_Usages_append 28 = .ok (.iload_n 2, 1) := by decide +kernel
theorem d_Usages_append_29 : decode b_Usages_append 29 = .ok (.iastore, 1) := by decide +kernel
theorem d_Usages_append_30 : decode b_Usages_append 30 = .ok (.aload_n 0, 1) := by decide +kernel
theorem d_Usages_append_31 : decode b_Usages_append 31 = .ok (.getfield 18, 3) := by decide +kernel
theorem d_Usages_append_34 : decode b_Usages_append 34 = .ok (.aload_n 0, 1) := by decide +kernel
theorem d_Usages_append_35 : decode b_Usages_append 35 = .ok (.getfield 21, 3) := by decide +kernel
theorem d_Usages_append_38 : decode b_Usages_append 38 = .ok (.iload_n 3, 1) := by decide +kernel
theorem d_Usages_append_39 : decode b_Usages_append 39 = .ok (.iastore, 1) := by decide +kernel
theorem d_Usages_append_40 : decode b_Usages_append 40 = .ok (.aload_n 0, 1) := by decide +kernel
theorem d_Usages_append_41 : decode b_Usages_append 41 = .ok (.dup, 1) := by decide +kernel
theorem d_Usages_append_42 : decode b_Usages_append 42 = .ok (.getfield 21, 3) := by decide +kernel
theorem d_Usages_append_45 : decode b_Usages_append 45 = .ok (.iconst 1, 1) := by decide +kernel
theorem d_Usages_append_46 : decode b_Usages_append 46 = .ok (.iadd, 1) := by decide +kernel
theorem d_Usages_append_47 : decode b_Usages_append 47 = .ok (.putfield 21, 3) := by decide +kernel
theorem d_Usages_append_50 : decode b_Usages_append 50 = .ok (.return_, 1) := by decide +kernel
theorem d_Title_lastDay_0 : decode b_Title_lastDay 0 = .ok (.aload_n 0, 1) := by decide +kernel
theorem d_Title_lastDay_1 : decode b_Title_lastDay 1 = .ok (.getfield 26, 3) := by decide +kernel
theorem d_Title_lastDay_4 : decode b_Title_lastDay 4 = .ok (.ifCond .ne 7, 3) := by decide +kernel
theorem d_Title_lastDay_7 : decode b_Title_lastDay 7 = .ok (.iconst (-1), 1) := by decide +kernel
theorem d_Title_lastDay_8 : decode b_Title_lastDay 8 = .ok (.goto 14, 3) := by decide +kernel
theorem d_Title_lastDay_11 : decode b_Title_lastDay 11 = .ok (.aload_n 0, 1) := by decide +kernel
theorem d_Title_lastDay_12 : decode b_Title_lastDay 12 = .ok (.getfield 23, 3) := by decide +kernel
theorem d_Title_lastDay_15 : decode b_Title_lastDay 15 = .ok (.aload_n 0, 1) := by decide +kernel
theorem d_Title_lastDay_16 : decode b_Title_lastDay 16 = .ok (.getfield 26, 3) := by decide +kernel
theorem d_Title_lastDay_19 : decode b_Title_lastDay 19 = .ok (.iconst 1, 1) := by decide +kernel
theorem d_Title_lastDay_20 : decode b_Title_lastDay 20 = .ok (.isub, 1) := by decide +kernel
theorem d_Title_lastDay_21 : decode b_Title_lastDay 21 = .ok (.iaload, 1) := by decide +kernel
theorem d_Title_lastDay_22 : decode b_Title_lastDay 22 = .ok (.ireturn, 1) := by decide +kernel
theorem d_Usages_ofTitle_0 : decode b_Usages_ofTitle 0 = .ok (.iconst 0, 1) := by decide +kernel
theorem d_Usages_ofTitle_1 : decode b_Usages_ofTitle 1 = .ok (.istore_n 2, 1) := by decide +kernel
theorem d_Usages_ofTitle_2 : decode b_Usages_ofTitle 2 = .ok (.iconst 0, 1) := by decide +kernel
theorem d_Usages_ofTitle_3 : decode b_Usages_ofTitle 3 = .ok (.istore_n 3, 1) := by decide +kernel
theorem d_Usages_ofTitle_4 : decode b_Usages_ofTitle 4 = .ok (.iload_n 3, 1) := by decide +kernel
theorem d_Usages_ofTitle_5 : decode b_Usages_ofTitle 5 = .ok (.aload_n 0, 1) := by decide +kernel
theorem d_Usages_ofTitle_6 : decode b_Usages_ofTitle 6 = .ok (.getfield 21, 3) := by decide +kernel
theorem d_Usages_ofTitle_9 : decode b_Usages_ofTitle 9 = .ok (.if_icmp .ge 22, 3) := by decide +kernel
theorem d_Usages_ofTitle_12 : decode b_Usages_ofTitle 12 = .ok (.aload_n 0, 1) := by decide +kernel
theorem d_Usages_ofTitle_13 : decode b_Usages_ofTitle 13 = .ok (.getfield 15, 3) := by decide +kernel
theorem d_Usages_ofTitle_16 : decode b_Usages_ofTitle 16 = .ok (.iload_n 3, 1) := by decide +kernel
theorem d_Usages_ofTitle_17 : decode b_Usages_ofTitle 17 = .ok (.iaload, 1) := by decide +kernel
theorem d_Usages_ofTitle_18 : decode b_Usages_ofTitle 18 = .ok (.iload_n 1, 1) := by decide +kernel
theorem d_Usages_ofTitle_19 : decode b_Usages_ofTitle 19 = .ok (.if_icmp .ne 6, 3) := by decide +kernel
theorem d_Usages_ofTitle_22 : decode b_Usages_ofTitle 22 = .ok (.iinc 2 1, 3) := by decide +kernel
theorem d_Usages_ofTitle_25 : decode b_Usages_ofTitle 25 = .ok (.iinc 3 1, 3) := by decide +kernel
theorem d_Usages_ofTitle_28 : decode b_Usages_ofTitle 28 = .ok (.goto (-24), 3) := by decide +kernel
theorem d_Usages_ofTitle_31 : decode b_Usages_ofTitle 31 = .ok (.iload_n 2, 1) := by decide +kernel
theorem d_Usages_ofTitle_32 : decode b_Usages_ofTitle 32 = .ok (.ireturn, 1) := by decide +kernel
theorem d_Title_firstDay_0 : decode b_Title_firstDay 0 = .ok (.aload_n 0, 1) := by decide +kernel
theorem d_Title_firstDay_1 : decode b_Title_firstDay 1 = .ok (.getfield 26, 3) := by decide +kernel
theorem d_Title_firstDay_4 : decode b_Title_firstDay 4 = .ok (.ifCond .ne 7, 3) := by decide +kernel
theorem d_Title_firstDay_7 : decode b_Title_firstDay 7 = .ok (.iconst (-1), 1) := by decide +kernel
theorem d_Title_firstDay_8 : decode b_Title_firstDay 8 = .ok (.goto 9, 3) := by decide +kernel
theorem d_Title_firstDay_11 : decode b_Title_firstDay 11 = .ok (.aload_n 0, 1) := by decide +kernel
theorem d_Title_firstDay_12 : decode b_Title_firstDay 12 = .ok (.getfield 19, 3) := by decide +kernel
theorem d_Title_firstDay_15 : decode b_Title_firstDay 15 = .ok (.iconst 0, 1) := by decide +kernel
theorem d_Title_firstDay_16 : decode b_Title_firstDay 16 = .ok (.iaload, 1) := by decide +kernel
theorem d_Title_firstDay_17 : decode b_Title_firstDay 17 = .ok (.ireturn, 1) := by decide +kernel
theorem d_Usages_ofTitleIn_0 : decode b_Usages_ofTitleIn 0 = .ok (.iconst 0, 1) := by decide +kernel
theorem d_Usages_ofTitleIn_1 : decode b_Usages_ofTitleIn 1 = .ok (.istore_n 3, 1) := by decide +kernel
theorem d_Usages_ofTitleIn_2 : decode b_Usages_ofTitleIn 2 = .ok (.iconst 0, 1) := by decide +kernel
theorem d_Usages_ofTitleIn_3 : decode b_Usages_ofTitleIn 3 = .ok (.istore 4, 2) := by decide +kernel
theorem d_Usages_ofTitleIn_5 : decode b_Usages_ofTitleIn 5 = .ok (.iload 4, 2) := by decide +kernel
theorem d_Usages_ofTitleIn_7 : decode b_Usages_ofTitleIn 7 = .ok (.aload_n 0, 1) := by decide +kernel
theorem d_Usages_ofTitleIn_8 : decode b_Usages_ofTitleIn 8 = .ok (.getfield 21, 3) := by decide +kernel
theorem d_Usages_ofTitleIn_11 : decode b_Usages_ofTitleIn 11 = .ok (.if_icmp .ge 34, 3) := by decide +kernel
theorem d_Usages_ofTitleIn_14 : decode b_Usages_ofTitleIn 14 = .ok (.aload_n 0, 1) := by decide +kernel
theorem d_Usages_ofTitleIn_15 : decode b_Usages_ofTitleIn 15 = .ok (.getfield 15, 3) := by decide +kernel
theorem d_Usages_ofTitleIn_18 : decode b_Usages_ofTitleIn 18 = .ok (.iload 4, 2) := by decide +kernel
theorem d_Usages_ofTitleIn_20 : decode b_Usages_ofTitleIn 20 = .ok (.iaload, 1) := by decide +kernel
theorem d_Usages_ofTitleIn_21 : decode b_Usages_ofTitleIn 21 = .ok (.iload_n 1, 1) := by decide +kernel
theorem d_Usages_ofTitleIn_22 : decode b_Usages_ofTitleIn 22 = .ok (.if_icmp .ne 17, 3) := by decide +kernel
theorem d_Usages_ofTitleIn_25 : decode b_Usages_ofTitleIn 25 = .ok (.aload_n 0, 1) := by decide +kernel
theorem d_Usages_ofTitleIn_26 : decode b_Usages_ofTitleIn 26 = .ok (.getfield 18, 3) := by decide +kernel
theorem d_Usages_ofTitleIn_29 : decode b_Usages_ofTitleIn 29 = .ok (.iload 4, 2) := by decide +kernel
theorem d_Usages_ofTitleIn_31 : decode b_Usages_ofTitleIn 31 = .ok (.iaload, 1) := by decide +kernel
theorem d_Usages_ofTitleIn_32 : decode b_Usages_ofTitleIn 32 = .ok (.iload_n 2, 1) := by decide +kernel
theorem d_Usages_ofTitleIn_33 : decode b_Usages_ofTitleIn 33 = .ok (.if_icmp .ne 6, 3) := by decide +kernel
theorem d_Usages_ofTitleIn_36 : decode b_Usages_ofTitleIn 36 = .ok (.iinc 3 1, 3) := by decide +kernel
theorem d_Usages_ofTitleIn_39 : decode b_Usages_ofTitleIn 39 = .ok (.iinc 4 1, 3) := by decide +kernel
theorem d_Usages_ofTitleIn_42 : decode b_Usages_ofTitleIn 42 = .ok (.goto (-37), 3) := by decide +kernel
theorem d_Usages_ofTitleIn_45 : decode b_Usages_ofTitleIn 45 = .ok (.iload_n 3, 1) := by decide +kernel
theorem d_Usages_ofTitleIn_46 : decode b_Usages_ofTitleIn 46 = .ok (.ireturn, 1) := by decide +kernel
theorem d_Line_at_0 : decode b_Line_at 0 = .ok (.iload_n 1, 1) := by decide +kernel
theorem d_Line_at_1 : decode b_Line_at 1 = .ok (.ifCond .lt 11, 3) := by decide +kernel
theorem d_Line_at_4 : decode b_Line_at 4 = .ok (.iload_n 1, 1) := by decide +kernel
theorem d_Line_at_5 : decode b_Line_at 5 = .ok (.aload_n 0, 1) := by decide +kernel
theorem d_Line_at_6 : decode b_Line_at 6 = .ok (.getfield 15, 3) := by decide +kernel
theorem d_Line_at_9 : decode b_Line_at 9 = .ok (.if_icmp .lt 7, 3) := by decide +kernel
theorem d_Line_at_12 : decode b_Line_at 12 = .ok (.iconst (-1), 1) := by decide +kernel
theorem d_Line_at_13 : decode b_Line_at 13 = .ok (.goto 9, 3) := by decide +kernel
theorem d_Line_at_16 : decode b_Line_at 16 = .ok (.aload_n 0, 1) := by decide +kernel
theorem d_Line_at_17 : decode b_Line_at 17 = .ok (.getfield 9, 3) := by decide +kernel
theorem d_Line_at_20 : decode b_Line_at 20 = .ok (.iload_n 1, 1) := by decide +kernel
theorem d_Line_at_21 : decode b_Line_at 21 = .ok (.iaload, 1) := by decide +kernel
theorem d_Line_at_22 : decode b_Line_at 22 = .ok (.ireturn, 1) := by decide +kernel
def f_Usages_init (v0 : Nat) (M : mm) : Option (Unit × mm) :=
    (nA 512 M).bind fun (x1, M1) =>
    (pF 7 0 (.ref x1) M1 v0).bind fun M2 =>
    (nA 512 M2).bind fun (x3, M3) =>
    (pF 7 1 (.ref x3) M3 v0).bind fun M4 =>
    (nA 512 M4).bind fun (x5, M5) =>
    (pF 7 2 (.ref x5) M5 v0).bind fun M6 =>
    (pF 7 3 (.int 0) M6 v0).bind fun M7 =>
    some ((), M7)
set_option maxHeartbeats 4000000 in
set_option maxRecDepth 100000 in
theorem c_Usages_init (l : Launch) (D : va_G) (dA : Nat → ClassId) (M0 M' : mm) (r : Unit) (v0 : Nat) (h : f_Usages_init v0 M0 = some (r, M')) : Met l y_Usages_init w_Usages_init rm_Usages_init (mm_Pre D dA M0 [.ref v0]) (mm_QV D dA M0 r M') 3 1536 (mm_A M0) := by
  refine Met.ofW (cc := b_Usages_init) (maxL := 1) (ret := none) (by decide) rfl ?_
  intro p e s m args below meth c s₁ B hml hv
  obtain ⟨rfl, hW, hK⟩ := hv
  have C : mm_C p s m _ meth c b_Usages_init 1 none R_Usages D dA (mm_A M0) := ⟨B.exec, B.bytes, B.returns, hml, findClass_of_methodNamed B.named, fun w hw => atoms_spec (ws := w_Usages_init) B.pre w (List.mem_cons_of_mem _ hw), B.notSynchronized, hK, fun q hq => Or.inr (by rw [← hW.1]; exact hq)⟩
  have hini : meth.name = "<init>" := (name_of_methodNamed B.named B.method).1
  have hS : va_S (mm_A M0) s.heap s.heap [] := va_S.rf
  obtain ⟨hx, hb, hr, hml, hown, hts, hlocks, hK, hA⟩ := id C
  have hl := lv_entry ([.ref v0]) (n := 1) (Nat.le_of_ble_eq_true rfl)
  rw [lg_entry_eq]
  generalize (lg_sl ([.ref v0]) ++ List.replicate (1 - (lg_sl ([.ref v0])).length) Slot.unset).toArray = ls at hl ⊢
  have hl : lv_has ls 1 [(0, .ref v0)] := hl
  unfold f_Usages_init at h
  refine lv_aload_n hx hb d_Usages_init_0 rfl (lv_at hl 0 rfl) ?_
  refine W.objInit hx hb hown (hts _ q_0) (hts _ q_1) (hts _ q_2) rfl (by rw [hml]; exact hl.1) rfl d_Usages_init_1 (Nat.le_of_ble_eq_true rfl) (Nat.le_of_ble_eq_true rfl) ?_
  refine W.eq (g2 := F0 m 4 ls []) rfl ?_
  refine lv_aload_n hx hb d_Usages_init_4 rfl (lv_at hl 0 rfl) ?_
  refine lv_sipush (v := 512) hx hb d_Usages_init_5 (by decide) ?_
  obtain ⟨⟨x1, M1⟩, e1, h⟩ := ob h
  refine mr_nA C hW hS q_3 (by decide) (by decide) (by decide) (Nat.le_of_ble_eq_true rfl) (Nat.le_of_ble_eq_true rfl) e1 d_Usages_init_8 (fun H hW hS => ?_)
  obtain ⟨M2, e2, h⟩ := ob h
  refine mr_putF C hW hS kp_Usages_9 hini rfl rfl e2 d_Usages_init_10 (fun H locs hW hS => ?_)
  refine lv_aload_n hx hb d_Usages_init_13 rfl (lv_at hl 0 rfl) ?_
  refine lv_sipush (v := 512) hx hb d_Usages_init_14 (by decide) ?_
  obtain ⟨⟨x3, M3⟩, e3, h⟩ := ob h
  refine mr_nA C hW hS q_3 (by decide) (by decide) (by decide) (Nat.le_of_ble_eq_true rfl) (Nat.le_of_ble_eq_true rfl) e3 d_Usages_init_17 (fun H hW hS => ?_)
  obtain ⟨M4, e4, h⟩ := ob h
  refine mr_putF C hW hS kp_Usages_15 hini rfl rfl e4 d_Usages_init_19 (fun H locs hW hS => ?_)
  refine lv_aload_n hx hb d_Usages_init_22 rfl (lv_at hl 0 rfl) ?_
  refine lv_sipush (v := 512) hx hb d_Usages_init_23 (by decide) ?_
  obtain ⟨⟨x5, M5⟩, e5, h⟩ := ob h
  refine mr_nA C hW hS q_3 (by decide) (by decide) (by decide) (Nat.le_of_ble_eq_true rfl) (Nat.le_of_ble_eq_true rfl) e5 d_Usages_init_26 (fun H hW hS => ?_)
  obtain ⟨M6, e6, h⟩ := ob h
  refine mr_putF C hW hS kp_Usages_18 hini rfl rfl e6 d_Usages_init_28 (fun H locs hW hS => ?_)
  refine lv_aload_n hx hb d_Usages_init_31 rfl (lv_at hl 0 rfl) ?_
  refine lv_iconst (v := 0) hx hb d_Usages_init_32 (by decide) ?_
  obtain ⟨M7, e7, h⟩ := ob h
  refine mr_put C hW hS kp_Usages_21 rfl rfl e7 d_Usages_init_33 (fun H locs hW hS => ?_)
  exact mr_vret C hW hS (Nat.le_of_ble_eq_true rfl) (Nat.le_of_ble_eq_true rfl) h d_Usages_init_36
def f_Notices_init (v0 : Nat) (M : mm) : Option (Unit × mm) :=
    (nA 100 M).bind fun (x1, M1) =>
    (pF 3 0 (.ref x1) M1 v0).bind fun M2 =>
    (nA 100 M2).bind fun (x3, M3) =>
    (pF 3 1 (.ref x3) M3 v0).bind fun M4 =>
    (pF 3 2 (.int 0) M4 v0).bind fun M5 =>
    some ((), M5)
set_option maxHeartbeats 4000000 in
set_option maxRecDepth 100000 in
theorem c_Notices_init (l : Launch) (D : va_G) (dA : Nat → ClassId) (M0 M' : mm) (r : Unit) (v0 : Nat) (h : f_Notices_init v0 M0 = some (r, M')) : Met l y_Notices_init w_Notices_init rm_Notices_init (mm_Pre D dA M0 [.ref v0]) (mm_QV D dA M0 r M') 2 200 (mm_A M0) := by
  refine Met.ofW (cc := b_Notices_init) (maxL := 1) (ret := none) (by decide) rfl ?_
  intro p e s m args below meth c s₁ B hml hv
  obtain ⟨rfl, hW, hK⟩ := hv
  have C : mm_C p s m _ meth c b_Notices_init 1 none R_Notices D dA (mm_A M0) := ⟨B.exec, B.bytes, B.returns, hml, findClass_of_methodNamed B.named, fun w hw => atoms_spec (ws := w_Notices_init) B.pre w (List.mem_cons_of_mem _ hw), B.notSynchronized, hK, fun q hq => Or.inr (by rw [← hW.1]; exact hq)⟩
  have hini : meth.name = "<init>" := (name_of_methodNamed B.named B.method).1
  have hS : va_S (mm_A M0) s.heap s.heap [] := va_S.rf
  obtain ⟨hx, hb, hr, hml, hown, hts, hlocks, hK, hA⟩ := id C
  have hl := lv_entry ([.ref v0]) (n := 1) (Nat.le_of_ble_eq_true rfl)
  rw [lg_entry_eq]
  generalize (lg_sl ([.ref v0]) ++ List.replicate (1 - (lg_sl ([.ref v0])).length) Slot.unset).toArray = ls at hl ⊢
  have hl : lv_has ls 1 [(0, .ref v0)] := hl
  unfold f_Notices_init at h
  refine lv_aload_n hx hb d_Notices_init_0 rfl (lv_at hl 0 rfl) ?_
  refine W.objInit hx hb hown (hts _ q_8) (hts _ q_1) (hts _ q_2) rfl (by rw [hml]; exact hl.1) rfl d_Notices_init_1 (Nat.le_of_ble_eq_true rfl) (Nat.le_of_ble_eq_true rfl) ?_
  refine W.eq (g2 := F0 m 4 ls []) rfl ?_
  refine lv_aload_n hx hb d_Notices_init_4 rfl (lv_at hl 0 rfl) ?_
  refine lv_bipush (v := 100) hx hb d_Notices_init_5 (by decide) ?_
  obtain ⟨⟨x1, M1⟩, e1, h⟩ := ob h
  refine mr_nA C hW hS q_3 (by decide) (by decide) (by decide) (Nat.le_of_ble_eq_true rfl) (Nat.le_of_ble_eq_true rfl) e1 d_Notices_init_7 (fun H hW hS => ?_)
  obtain ⟨M2, e2, h⟩ := ob h
  refine mr_putF C hW hS kp_Notices_9 hini rfl rfl e2 d_Notices_init_9 (fun H locs hW hS => ?_)
  refine lv_aload_n hx hb d_Notices_init_12 rfl (lv_at hl 0 rfl) ?_
  refine lv_bipush (v := 100) hx hb d_Notices_init_13 (by decide) ?_
  obtain ⟨⟨x3, M3⟩, e3, h⟩ := ob h
  refine mr_nA C hW hS q_3 (by decide) (by decide) (by decide) (Nat.le_of_ble_eq_true rfl) (Nat.le_of_ble_eq_true rfl) e3 d_Notices_init_15 (fun H hW hS => ?_)
  obtain ⟨M4, e4, h⟩ := ob h
  refine mr_putF C hW hS kp_Notices_15 hini rfl rfl e4 d_Notices_init_17 (fun H locs hW hS => ?_)
  refine lv_aload_n hx hb d_Notices_init_20 rfl (lv_at hl 0 rfl) ?_
  refine lv_iconst (v := 0) hx hb d_Notices_init_21 (by decide) ?_
  obtain ⟨M5, e5, h⟩ := ob h
  refine mr_put C hW hS kp_Notices_18 rfl rfl e5 d_Notices_init_22 (fun H locs hW hS => ?_)
  exact mr_vret C hW hS (Nat.le_of_ble_eq_true rfl) (Nat.le_of_ble_eq_true rfl) h d_Notices_init_25
def f_Line_init (v0 : Nat) (M : mm) : Option (Unit × mm) :=
    (nA 100 M).bind fun (x1, M1) =>
    (pF 2 0 (.ref x1) M1 v0).bind fun M2 =>
    (pF 2 1 (.int 0) M2 v0).bind fun M3 =>
    some ((), M3)
set_option maxHeartbeats 4000000 in
set_option maxRecDepth 100000 in
theorem c_Line_init (l : Launch) (D : va_G) (dA : Nat → ClassId) (M0 M' : mm) (r : Unit) (v0 : Nat) (h : f_Line_init v0 M0 = some (r, M')) : Met l y_Line_init w_Line_init rm_Line_init (mm_Pre D dA M0 [.ref v0]) (mm_QV D dA M0 r M') 1 100 (mm_A M0) := by
  refine Met.ofW (cc := b_Line_init) (maxL := 1) (ret := none) (by decide) rfl ?_
  intro p e s m args below meth c s₁ B hml hv
  obtain ⟨rfl, hW, hK⟩ := hv
  have C : mm_C p s m _ meth c b_Line_init 1 none R_Line D dA (mm_A M0) := ⟨B.exec, B.bytes, B.returns, hml, findClass_of_methodNamed B.named, fun w hw => atoms_spec (ws := w_Line_init) B.pre w (List.mem_cons_of_mem _ hw), B.notSynchronized, hK, fun q hq => Or.inr (by rw [← hW.1]; exact hq)⟩
  have hini : meth.name = "<init>" := (name_of_methodNamed B.named B.method).1
  have hS : va_S (mm_A M0) s.heap s.heap [] := va_S.rf
  obtain ⟨hx, hb, hr, hml, hown, hts, hlocks, hK, hA⟩ := id C
  have hl := lv_entry ([.ref v0]) (n := 1) (Nat.le_of_ble_eq_true rfl)
  rw [lg_entry_eq]
  generalize (lg_sl ([.ref v0]) ++ List.replicate (1 - (lg_sl ([.ref v0])).length) Slot.unset).toArray = ls at hl ⊢
  have hl : lv_has ls 1 [(0, .ref v0)] := hl
  unfold f_Line_init at h
  refine lv_aload_n hx hb d_Line_init_0 rfl (lv_at hl 0 rfl) ?_
  refine W.objInit hx hb hown (hts _ q_36) (hts _ q_1) (hts _ q_2) rfl (by rw [hml]; exact hl.1) rfl d_Line_init_1 (Nat.le_of_ble_eq_true rfl) (Nat.le_of_ble_eq_true rfl) ?_
  refine W.eq (g2 := F0 m 4 ls []) rfl ?_
  refine lv_aload_n hx hb d_Line_init_4 rfl (lv_at hl 0 rfl) ?_
  refine lv_bipush (v := 100) hx hb d_Line_init_5 (by decide) ?_
  obtain ⟨⟨x1, M1⟩, e1, h⟩ := ob h
  refine mr_nA C hW hS q_3 (by decide) (by decide) (by decide) (Nat.le_of_ble_eq_true rfl) (Nat.le_of_ble_eq_true rfl) e1 d_Line_init_7 (fun H hW hS => ?_)
  obtain ⟨M2, e2, h⟩ := ob h
  refine mr_putF C hW hS kp_Line_9 hini rfl rfl e2 d_Line_init_9 (fun H locs hW hS => ?_)
  refine lv_aload_n hx hb d_Line_init_12 rfl (lv_at hl 0 rfl) ?_
  refine lv_iconst (v := 0) hx hb d_Line_init_13 (by decide) ?_
  obtain ⟨M3, e3, h⟩ := ob h
  refine mr_put C hW hS kp_Line_15 rfl rfl e3 d_Line_init_14 (fun H locs hW hS => ?_)
  exact mr_vret C hW hS (Nat.le_of_ble_eq_true rfl) (Nat.le_of_ble_eq_true rfl) h d_Line_init_17
def f_Pack_init (v0 : Nat) (v1 : Int32) (v2 : Int32) (M : mm) : Option (Unit × mm) :=
    (nO 2 [.null, .int 0] M).bind fun (x1, M1) =>
    (f_Line_init x1 M1).bind fun (_, M2) =>
    (pF 4 2 (.ref x1) M2 v0).bind fun M3 =>
    (nO 2 [.null, .int 0] M3).bind fun (x4, M4) =>
    (f_Line_init x4 M4).bind fun (_, M5) =>
    (pF 4 3 (.ref x4) M5 v0).bind fun M6 =>
    (pF 4 4 (.int 100) M6 v0).bind fun M7 =>
    (pF 4 5 (.int ((-1))) M7 v0).bind fun M8 =>
    (pF 4 0 (.int v1) M8 v0).bind fun M9 =>
    (kB v2).bind fun _ =>
    (pF 4 1 (.int v2) M9 v0).bind fun M11 =>
    some ((), M11)
set_option maxHeartbeats 4000000 in
set_option maxRecDepth 100000 in
theorem c_Pack_init (l : Launch) (D : va_G) (dA : Nat → ClassId) (M0 M' : mm) (r : Unit) (v0 : Nat) (v1 : Int32) (v2 : Int32) (h : f_Pack_init v0 v1 v2 M0 = some (r, M')) : Met l y_Pack_init w_Pack_init rm_Pack_init (mm_Pre D dA M0 [.ref v0, .int v1, .int v2]) (mm_QV D dA M0 r M') 4 204 (mm_A M0) := by
  refine Met.ofW (cc := b_Pack_init) (maxL := 3) (ret := none) (by decide) rfl ?_
  intro p e s m args below meth c s₁ B hml hv
  obtain ⟨rfl, hW, hK⟩ := hv
  have C : mm_C p s m _ meth c b_Pack_init 3 none R_Pack D dA (mm_A M0) := ⟨B.exec, B.bytes, B.returns, hml, findClass_of_methodNamed B.named, fun w hw => atoms_spec (ws := w_Pack_init) B.pre w (List.mem_cons_of_mem _ hw), B.notSynchronized, hK, fun q hq => Or.inr (by rw [← hW.1]; exact hq)⟩
  have hini : meth.name = "<init>" := (name_of_methodNamed B.named B.method).1
  have hS : va_S (mm_A M0) s.heap s.heap [] := va_S.rf
  obtain ⟨hx, hb, hr, hml, hown, hts, hlocks, hK, hA⟩ := id C
  have hl := lv_entry ([.ref v0, .int v1, .int v2]) (n := 3) (Nat.le_of_ble_eq_true rfl)
  rw [lg_entry_eq]
  generalize (lg_sl ([.ref v0, .int v1, .int v2]) ++ List.replicate (3 - (lg_sl ([.ref v0, .int v1, .int v2])).length) Slot.unset).toArray = ls at hl ⊢
  have hl : lv_has ls 3 [(0, .ref v0), (1, .int v1), (2, .int v2)] := hl
  unfold f_Pack_init at h
  refine lv_aload_n hx hb d_Pack_init_0 rfl (lv_at hl 0 rfl) ?_
  refine W.objInit hx hb hown (hts _ q_39) (hts _ q_1) (hts _ q_2) rfl (by rw [hml]; exact hl.1) rfl d_Pack_init_1 (Nat.le_of_ble_eq_true rfl) (Nat.le_of_ble_eq_true rfl) ?_
  refine W.eq (g2 := F0 m 4 ls []) rfl ?_
  refine lv_aload_n hx hb d_Pack_init_4 rfl (lv_at hl 0 rfl) ?_
  obtain ⟨⟨x1, M1⟩, e1, h⟩ := ob h
  refine mr_nO C hW hS (ci := 2) rfl i_Line t_Line_ok ⟨q_40, q_41, q_42⟩ z_Line (Nat.le_of_ble_eq_true rfl) (Nat.le_of_ble_eq_true rfl) e1 d_Pack_init_5 (fun H hW hS => ?_)
  refine lv_dup hx hb d_Pack_init_8 rfl ?_
  obtain ⟨⟨u2, M2⟩, e2, h⟩ := ob h
  refine mr_cv C hW hS (va_runIN (As := []) (rest := [.ref x1, .ref v0]) ⟨hx, hb, hml, hown, hts⟩ (c_Line_init l D dA _ _ _ x1 e2) ⟨va_cnB 0 hts (mg_in q_43) rfl rfl rfl (hK.2.1 _ qn_Pack_11) (hts _ q_42) (by decide +kernel) ⟨Nat.le_of_ble_eq_true rfl, Nat.le_of_ble_eq_true rfl⟩, rfl, hts _ q_44⟩ (mr_pre C hW) rfl rfl hl.1 rfl (lv_room (Nat.le_of_ble_eq_true rfl)) d_Pack_init_9 ⟨Nat.le_of_ble_eq_true rfl, Nat.le_of_ble_eq_true rfl⟩) (fun H locs hW hS => ?_)
  obtain ⟨M3, e3, h⟩ := ob h
  refine mr_putF C hW hS kp_Pack_12 hini rfl rfl e3 d_Pack_init_12 (fun H locs hW hS => ?_)
  refine lv_aload_n hx hb d_Pack_init_15 rfl (lv_at hl 0 rfl) ?_
  obtain ⟨⟨x4, M4⟩, e4, h⟩ := ob h
  refine mr_nO C hW hS (ci := 2) rfl i_Line t_Line_ok ⟨q_40, q_41, q_42⟩ z_Line (Nat.le_of_ble_eq_true rfl) (Nat.le_of_ble_eq_true rfl) e4 d_Pack_init_16 (fun H hW hS => ?_)
  refine lv_dup hx hb d_Pack_init_19 rfl ?_
  obtain ⟨⟨u5, M5⟩, e5, h⟩ := ob h
  refine mr_cv C hW hS (va_runIN (As := []) (rest := [.ref x4, .ref v0]) ⟨hx, hb, hml, hown, hts⟩ (c_Line_init l D dA _ _ _ x4 e5) ⟨va_cnB 0 hts (mg_in q_43) rfl rfl rfl (hK.2.1 _ qn_Pack_11) (hts _ q_42) (by decide +kernel) ⟨Nat.le_of_ble_eq_true rfl, Nat.le_of_ble_eq_true rfl⟩, rfl, hts _ q_44⟩ (mr_pre C hW) rfl rfl hl.1 rfl (lv_room (Nat.le_of_ble_eq_true rfl)) d_Pack_init_20 ⟨Nat.le_of_ble_eq_true rfl, Nat.le_of_ble_eq_true rfl⟩) (fun H locs hW hS => ?_)
  obtain ⟨M6, e6, h⟩ := ob h
  refine mr_putF C hW hS kp_Pack_18 hini rfl rfl e6 d_Pack_init_23 (fun H locs hW hS => ?_)
  refine lv_aload_n hx hb d_Pack_init_26 rfl (lv_at hl 0 rfl) ?_
  refine lv_bipush (v := 100) hx hb d_Pack_init_27 (by decide) ?_
  obtain ⟨M7, e7, h⟩ := ob h
  refine mr_put C hW hS kp_Pack_21 rfl rfl e7 d_Pack_init_29 (fun H locs hW hS => ?_)
  refine lv_aload_n hx hb d_Pack_init_32 rfl (lv_at hl 0 rfl) ?_
  refine lv_iconst (v := (-1)) hx hb d_Pack_init_33 (by decide) ?_
  obtain ⟨M8, e8, h⟩ := ob h
  refine mr_put C hW hS kp_Pack_25 rfl rfl e8 d_Pack_init_34 (fun H locs hW hS => ?_)
  refine lv_aload_n hx hb d_Pack_init_37 rfl (lv_at hl 0 rfl) ?_
  refine lv_iload_n hx hb d_Pack_init_38 rfl (lv_at hl 1 rfl) ?_
  obtain ⟨M9, e9, h⟩ := ob h
  refine mr_putF C hW hS kp_Pack_28 hini rfl rfl e9 d_Pack_init_39 (fun H locs hW hS => ?_)
  refine lv_aload_n hx hb d_Pack_init_42 rfl (lv_at hl 0 rfl) ?_
  refine lv_iload_n hx hb d_Pack_init_43 rfl (lv_at hl 2 rfl) ?_
  obtain ⟨_, e10, h⟩ := ob h
  obtain ⟨M11, e11, h⟩ := ob h
  refine mr_putF C hW hS kp_Pack_31 hini (kB_some e10).1 (kB_some e10).2 e11 d_Pack_init_44 (fun H locs hW hS => ?_)
  exact mr_vret C hW hS (Nat.le_of_ble_eq_true rfl) (Nat.le_of_ble_eq_true rfl) h d_Pack_init_47
def f_Title_init (v0 : Nat) (v1 : Nat) (v2 : Int32) (M : mm) : Option (Unit × mm) :=
    (kB 1).bind fun _ =>
    (pF 6 2 (.int 1) M v0).bind fun M2 =>
    (pF 6 3 (.int 0) M2 v0).bind fun M3 =>
    (nA 10 M3).bind fun (x4, M4) =>
    (pF 6 4 (.ref x4) M4 v0).bind fun M5 =>
    (nA 10 M5).bind fun (x6, M6) =>
    (pF 6 5 (.ref x6) M6 v0).bind fun M7 =>
    (pF 6 6 (.int 0) M7 v0).bind fun M8 =>
    (pF 6 0 (.ref v1) M8 v0).bind fun M9 =>
    (pF 6 1 (.int v2) M9 v0).bind fun M10 =>
    some ((), M10)
set_option maxHeartbeats 4000000 in
set_option maxRecDepth 100000 in
theorem c_Title_init (l : Launch) (D : va_G) (dA : Nat → ClassId) (M0 M' : mm) (r : Unit) (v0 : Nat) (v1 : Nat) (v2 : Int32) (h : f_Title_init v0 v1 v2 M0 = some (r, M')) : Met l y_Title_init w_Title_init rm_Title_init (mm_Pre D dA M0 [.ref v0, .ref v1, .int v2]) (mm_QV D dA M0 r M') 2 20 (mm_A M0) := by
  refine Met.ofW (cc := b_Title_init) (maxL := 3) (ret := none) (by decide) rfl ?_
  intro p e s m args below meth c s₁ B hml hv
  obtain ⟨rfl, hW, hK⟩ := hv
  have C : mm_C p s m _ meth c b_Title_init 3 none R_Title D dA (mm_A M0) := ⟨B.exec, B.bytes, B.returns, hml, findClass_of_methodNamed B.named, fun w hw => atoms_spec (ws := w_Title_init) B.pre w (List.mem_cons_of_mem _ hw), B.notSynchronized, hK, fun q hq => Or.inr (by rw [← hW.1]; exact hq)⟩
  have hini : meth.name = "<init>" := (name_of_methodNamed B.named B.method).1
  have hS : va_S (mm_A M0) s.heap s.heap [] := va_S.rf
  obtain ⟨hx, hb, hr, hml, hown, hts, hlocks, hK, hA⟩ := id C
  have hl := lv_entry ([.ref v0, .ref v1, .int v2]) (n := 3) (Nat.le_of_ble_eq_true rfl)
  rw [lg_entry_eq]
  generalize (lg_sl ([.ref v0, .ref v1, .int v2]) ++ List.replicate (3 - (lg_sl ([.ref v0, .ref v1, .int v2])).length) Slot.unset).toArray = ls at hl ⊢
  have hl : lv_has ls 3 [(0, .ref v0), (1, .ref v1), (2, .int v2)] := hl
  unfold f_Title_init at h
  refine lv_aload_n hx hb d_Title_init_0 rfl (lv_at hl 0 rfl) ?_
  refine W.objInit hx hb hown (hts _ q_59) (hts _ q_1) (hts _ q_2) rfl (by rw [hml]; exact hl.1) rfl d_Title_init_1 (Nat.le_of_ble_eq_true rfl) (Nat.le_of_ble_eq_true rfl) ?_
  refine W.eq (g2 := F0 m 4 ls []) rfl ?_
  refine lv_aload_n hx hb d_Title_init_4 rfl (lv_at hl 0 rfl) ?_
  refine lv_iconst (v := 1) hx hb d_Title_init_5 (by decide) ?_
  obtain ⟨_, e1, h⟩ := ob h
  obtain ⟨M2, e2, h⟩ := ob h
  refine mr_put C hW hS kp_Title_9 (kB_some e1).1 (kB_some e1).2 e2 d_Title_init_6 (fun H locs hW hS => ?_)
  refine lv_aload_n hx hb d_Title_init_9 rfl (lv_at hl 0 rfl) ?_
  refine lv_iconst (v := 0) hx hb d_Title_init_10 (by decide) ?_
  obtain ⟨M3, e3, h⟩ := ob h
  refine mr_put C hW hS kp_Title_15 rfl rfl e3 d_Title_init_11 (fun H locs hW hS => ?_)
  refine lv_aload_n hx hb d_Title_init_14 rfl (lv_at hl 0 rfl) ?_
  refine lv_bipush (v := 10) hx hb d_Title_init_15 (by decide) ?_
  obtain ⟨⟨x4, M4⟩, e4, h⟩ := ob h
  refine mr_nA C hW hS q_3 (by decide) (by decide) (by decide) (Nat.le_of_ble_eq_true rfl) (Nat.le_of_ble_eq_true rfl) e4 d_Title_init_17 (fun H hW hS => ?_)
  obtain ⟨M5, e5, h⟩ := ob h
  refine mr_putF C hW hS kp_Title_19 hini rfl rfl e5 d_Title_init_19 (fun H locs hW hS => ?_)
  refine lv_aload_n hx hb d_Title_init_22 rfl (lv_at hl 0 rfl) ?_
  refine lv_bipush (v := 10) hx hb d_Title_init_23 (by decide) ?_
  obtain ⟨⟨x6, M6⟩, e6, h⟩ := ob h
  refine mr_nA C hW hS q_3 (by decide) (by decide) (by decide) (Nat.le_of_ble_eq_true rfl) (Nat.le_of_ble_eq_true rfl) e6 d_Title_init_25 (fun H hW hS => ?_)
  obtain ⟨M7, e7, h⟩ := ob h
  refine mr_putF C hW hS kp_Title_23 hini rfl rfl e7 d_Title_init_27 (fun H locs hW hS => ?_)
  refine lv_aload_n hx hb d_Title_init_30 rfl (lv_at hl 0 rfl) ?_
  refine lv_iconst (v := 0) hx hb d_Title_init_31 (by decide) ?_
  obtain ⟨M8, e8, h⟩ := ob h
  refine mr_put C hW hS kp_Title_26 rfl rfl e8 d_Title_init_32 (fun H locs hW hS => ?_)
  refine lv_aload_n hx hb d_Title_init_35 rfl (lv_at hl 0 rfl) ?_
  refine lv_aload_n hx hb d_Title_init_36 rfl (lv_at hl 1 rfl) ?_
  obtain ⟨M9, e9, h⟩ := ob h
  refine mr_putF C hW hS kp_Title_29 hini rfl rfl e9 d_Title_init_37 (fun H locs hW hS => ?_)
  refine lv_aload_n hx hb d_Title_init_40 rfl (lv_at hl 0 rfl) ?_
  refine lv_iload_n hx hb d_Title_init_41 rfl (lv_at hl 2 rfl) ?_
  obtain ⟨M10, e10, h⟩ := ob h
  refine mr_put C hW hS kp_Title_33 rfl rfl e10 d_Title_init_42 (fun H locs hW hS => ?_)
  exact mr_vret C hW hS (Nat.le_of_ble_eq_true rfl) (Nat.le_of_ble_eq_true rfl) h d_Title_init_45
def f_Title_meets_b2 : Nat → Nat → Int32 → Int32 → Int32 → mm → Option (Int32 × mm)
  | 0, _, _, _, _, _ => none
  | n + 1, v0, v1, v2, v3, M =>
    (gI 6 6 M v0).bind fun x1 =>
    if x1 ≤ v3 then
      (kB 0).bind fun _ =>
      some (0, M)
    else
      (gR 6 5 M v0).bind fun x4 =>
      (aI M x4 v3).bind fun x5 =>
      if (x5 + 1) < v1 then
        f_Title_meets_b2 n v0 v1 v2 (v3 + 1) M
      else
        (gR 6 4 M v0).bind fun x7 =>
        (aI M x7 v3).bind fun x8 =>
        if v2 < (x8 - 1) then
          f_Title_meets_b2 n v0 v1 v2 (v3 + 1) M
        else
          (kB 1).bind fun _ =>
          some (1, M)
def f_Title_meets (v0 : Nat) (v1 : Int32) (v2 : Int32) (M : mm) : Option (Int32 × mm) :=
    f_Title_meets_b2 FU v0 v1 v2 0 M
set_option maxHeartbeats 4000000 in
set_option maxRecDepth 100000 in
theorem w_Title_meets_b2 {p : Program} {l : Launch} {e : Env} {s : State} {m : MethodId} {args : Array Value} {below : List Frame} {meth : Method} {c : Code} {D : va_G} {dA : Nat → ClassId} {M0 M' : mm} {r : Int32} (C : mm_C p s m args meth c b_Title_meets 4 (some .boolean) R_Title D dA (mm_A M0)) : ∀ (n : Nat), ∀ (v0 : Nat) (v1 : Int32) (v2 : Int32) (v3 : Int32) (M : mm) (H : Heap) (locs : List Loc) (ls : Array Slot), f_Title_meets_b2 n v0 v1 v2 v3 M = some (r, M') → mm_W D dA (mm_A M0) M H → va_S (mm_A M0) s.heap H locs → lv_has ls 4 [(0, .ref v0), (1, .int v1), (2, .int v2), (3, .int v3)] → W p l e rm_Title_meets s m args below meth c H locs 0 0 (MQ below (mm_QI D dA M0 r M') args s 0 0 (mm_A M0)) (F0 m 2 ls []) := by
  obtain ⟨hx, hb, hr, hml, hown, hts, hlocks, hK, hA⟩ := id C
  intro n
  induction n with
  | zero =>
    intro v0 v1 v2 v3 M H locs ls h hW hS hl
    unfold f_Title_meets_b2 at h
    cases h
  | succ n ih =>
    intro v0 v1 v2 v3 M H locs ls h hW hS hl
    unfold f_Title_meets_b2 at h
    refine lv_iload_n hx hb d_Title_meets_2 rfl (lv_at hl 3 rfl) ?_
    refine lv_aload_n hx hb d_Title_meets_3 rfl (lv_at hl 0 rfl) ?_
    obtain ⟨x1, e1, h⟩ := ob h
    refine mr_gI C hW k_Title_26 e1 d_Title_meets_4 ?_
    refine lv_icmp_ge (tgt := 42) hx hb d_Title_meets_7 (by decide) (fun c2 => ?_) (fun c2 => ?_)
    · have h := ifp h c2
      refine lv_iconst (v := 0) hx hb d_Title_meets_42 (by decide) ?_
      obtain ⟨_, e3, h⟩ := ob h
      exact mr_zret C hW hS (Nat.le_of_ble_eq_true rfl) (Nat.le_of_ble_eq_true rfl) e3 h d_Title_meets_43
    · have h := ifn h c2
      refine lv_iload_n hx hb d_Title_meets_10 rfl (lv_at hl 1 rfl) ?_
      refine lv_aload_n hx hb d_Title_meets_11 rfl (lv_at hl 0 rfl) ?_
      obtain ⟨x4, e4, h⟩ := ob h
      refine mr_gR C hW k_Title_23 e4 d_Title_meets_12 ?_
      refine lv_iload_n hx hb d_Title_meets_15 rfl (lv_at hl 3 rfl) ?_
      obtain ⟨x5, e5, h⟩ := ob h
      refine mr_aI C hW e5 d_Title_meets_16 ?_
      refine lv_iconst (v := 1) hx hb d_Title_meets_17 (by decide) ?_
      refine lv_iadd hx hb d_Title_meets_18 ?_
      refine lv_icmp_gt (tgt := 36) hx hb d_Title_meets_19 (by decide) (fun c6 => ?_) (fun c6 => ?_)
      · have h := ifp h c6
        refine lv_iinc (v := v3 + 1) (lv' := [(3, .int (v3 + 1)), (0, .ref v0), (1, .int v1), (2, .int v2)]) hx hb d_Title_meets_36 hl (k := 3) rfl rfl (by decide) rfl (fun ls hl => ?_)
        refine lv_goto (tgt := 2) hx hb d_Title_meets_39 (by decide) ?_
        exact ih _ _ _ _ _ _ _ _ h hW hS (lv_sub hl [1, 2, 3, 0] rfl)
      · have h := ifn h c6
        refine lv_iload_n hx hb d_Title_meets_22 rfl (lv_at hl 2 rfl) ?_
        refine lv_aload_n hx hb d_Title_meets_23 rfl (lv_at hl 0 rfl) ?_
        obtain ⟨x7, e7, h⟩ := ob h
        refine mr_gR C hW k_Title_19 e7 d_Title_meets_24 ?_
        refine lv_iload_n hx hb d_Title_meets_27 rfl (lv_at hl 3 rfl) ?_
        obtain ⟨x8, e8, h⟩ := ob h
        refine mr_aI C hW e8 d_Title_meets_28 ?_
        refine lv_iconst (v := 1) hx hb d_Title_meets_29 (by decide) ?_
        refine lv_isub hx hb d_Title_meets_30 ?_
        refine lv_icmp_lt (tgt := 36) hx hb d_Title_meets_31 (by decide) (fun c9 => ?_) (fun c9 => ?_)
        · have h := ifp h c9
          refine lv_iinc (v := v3 + 1) (lv' := [(3, .int (v3 + 1)), (0, .ref v0), (1, .int v1), (2, .int v2)]) hx hb d_Title_meets_36 hl (k := 3) rfl rfl (by decide) rfl (fun ls hl => ?_)
          refine lv_goto (tgt := 2) hx hb d_Title_meets_39 (by decide) ?_
          exact ih _ _ _ _ _ _ _ _ h hW hS (lv_sub hl [1, 2, 3, 0] rfl)
        · have h := ifn h c9
          refine lv_iconst (v := 1) hx hb d_Title_meets_34 (by decide) ?_
          obtain ⟨_, e10, h⟩ := ob h
          exact mr_zret C hW hS (Nat.le_of_ble_eq_true rfl) (Nat.le_of_ble_eq_true rfl) e10 h d_Title_meets_35
set_option maxHeartbeats 4000000 in
set_option maxRecDepth 100000 in
theorem c_Title_meets (l : Launch) (D : va_G) (dA : Nat → ClassId) (M0 M' : mm) (r : Int32) (v0 : Nat) (v1 : Int32) (v2 : Int32) (h : f_Title_meets v0 v1 v2 M0 = some (r, M')) : Met l y_Title_meets w_Title_meets rm_Title_meets (mm_Pre D dA M0 [.ref v0, .int v1, .int v2]) (mm_QI D dA M0 r M') 0 0 (mm_A M0) := by
  refine Met.ofW (cc := b_Title_meets) (maxL := 4) (ret := (some .boolean)) (by decide) rfl ?_
  intro p e s m args below meth c s₁ B hml hv
  obtain ⟨rfl, hW, hK⟩ := hv
  have C : mm_C p s m _ meth c b_Title_meets 4 (some .boolean) R_Title D dA (mm_A M0) := ⟨B.exec, B.bytes, B.returns, hml, findClass_of_methodNamed B.named, fun w hw => atoms_spec (ws := w_Title_meets) B.pre w (List.mem_cons_of_mem _ hw), B.notSynchronized, hK, fun q hq => Or.inr (by rw [← hW.1]; exact hq)⟩
  have hS : va_S (mm_A M0) s.heap s.heap [] := va_S.rf
  obtain ⟨hx, hb, hr, hml, hown, hts, hlocks, hK, hA⟩ := id C
  have hl := lv_entry ([.ref v0, .int v1, .int v2]) (n := 4) (Nat.le_of_ble_eq_true rfl)
  rw [lg_entry_eq]
  generalize (lg_sl ([.ref v0, .int v1, .int v2]) ++ List.replicate (4 - (lg_sl ([.ref v0, .int v1, .int v2])).length) Slot.unset).toArray = ls at hl ⊢
  have hl : lv_has ls 4 [(0, .ref v0), (1, .int v1), (2, .int v2)] := hl
  unfold f_Title_meets at h
  refine lv_iconst (v := 0) hx hb d_Title_meets_0 (by decide) ?_
  refine lv_istore_n (lv' := [(3, .int 0), (0, .ref v0), (1, .int v1), (2, .int v2)]) hx hb d_Title_meets_1 rfl hl (by decide) rfl (fun ls hl => ?_)
  exact w_Title_meets_b2 C FU _ _ _ _ _ _ _ _ h hW hS (lv_sub hl [1, 2, 3, 0] rfl)
def f_Title_addSpan_b65 : Nat → Int32 → Int32 → Int32 → mm → Option (Unit × mm) := fun v0 v1 v2 v3 M =>
    (gR 6 4 M v0).bind fun x13 =>
    (sI v1 M x13 v3).bind fun M14 =>
    (gR 6 5 M14 v0).bind fun x15 =>
    (sI v2 M14 x15 v3).bind fun M16 =>
    (gI 6 6 M16 v0).bind fun x17 =>
    (pF 6 6 (.int (x17 + 1)) M16 v0).bind fun M18 =>
    some ((), M18)
def f_Title_addSpan_b15 : Nat → Nat → Int32 → Int32 → Int32 → mm → Option (Unit × mm)
  | 0, _, _, _, _, _ => none
  | n + 1, v0, v1, v2, v3, M =>
    if v3 ≤ 0 then
      f_Title_addSpan_b65 v0 v1 v2 v3 M
    else
      (gR 6 4 M v0).bind fun x2 =>
      (aI M x2 (v3 - 1)).bind fun x3 =>
      if x3 ≤ v1 then
        f_Title_addSpan_b65 v0 v1 v2 v3 M
      else
        (gR 6 4 M v0).bind fun x5 =>
        (gR 6 4 M v0).bind fun x6 =>
        (aI M x6 (v3 - 1)).bind fun x7 =>
        (sI x7 M x5 v3).bind fun M8 =>
        (gR 6 5 M8 v0).bind fun x9 =>
        (gR 6 5 M8 v0).bind fun x10 =>
        (aI M8 x10 (v3 - 1)).bind fun x11 =>
        (sI x11 M8 x9 v3).bind fun M12 =>
        f_Title_addSpan_b15 n v0 v1 v2 (v3 + (-1)) M12
def f_Title_addSpan (v0 : Nat) (v1 : Int32) (v2 : Int32) (M : mm) : Option (Unit × mm) :=
    (gI 6 6 M v0).bind fun x19 =>
    if x19 < 10 then
      (gI 6 6 M v0).bind fun x21 =>
      f_Title_addSpan_b15 FU v0 v1 v2 x21 M
    else
      some ((), M)
set_option maxHeartbeats 4000000 in
set_option maxRecDepth 100000 in
theorem w_Title_addSpan_b65 {p : Program} {l : Launch} {e : Env} {s : State} {m : MethodId} {args : Array Value} {below : List Frame} {meth : Method} {c : Code} {D : va_G} {dA : Nat → ClassId} {M0 M' : mm} {r : Unit} (C : mm_C p s m args meth c b_Title_addSpan 4 none R_Title D dA (mm_A M0)) : ∀ (v0 : Nat) (v1 : Int32) (v2 : Int32) (v3 : Int32) (M : mm) (H : Heap) (locs : List Loc) (ls : Array Slot), f_Title_addSpan_b65 v0 v1 v2 v3 M = some (r, M') → mm_W D dA (mm_A M0) M H → va_S (mm_A M0) s.heap H locs → lv_has ls 4 [(0, .ref v0), (1, .int v1), (2, .int v2), (3, .int v3)] → W p l e rm_Title_addSpan s m args below meth c H locs 0 0 (MQ below (mm_QV D dA M0 r M') args s 0 0 (mm_A M0)) (F0 m 65 ls []) := by
  obtain ⟨hx, hb, hr, hml, hown, hts, hlocks, hK, hA⟩ := id C
  intro v0 v1 v2 v3 M H locs ls h hW hS hl
  unfold f_Title_addSpan_b65 at h
  refine lv_aload_n hx hb d_Title_addSpan_65 rfl (lv_at hl 0 rfl) ?_
  obtain ⟨x13, e13, h⟩ := ob h
  refine mr_gR C hW k_Title_19 e13 d_Title_addSpan_66 ?_
  refine lv_iload_n hx hb d_Title_addSpan_69 rfl (lv_at hl 3 rfl) ?_
  refine lv_iload_n hx hb d_Title_addSpan_70 rfl (lv_at hl 1 rfl) ?_
  obtain ⟨M14, e14, h⟩ := ob h
  refine mr_sI C hW hS e14 d_Title_addSpan_71 (fun H locs hW hS => ?_)
  refine lv_aload_n hx hb d_Title_addSpan_72 rfl (lv_at hl 0 rfl) ?_
  obtain ⟨x15, e15, h⟩ := ob h
  refine mr_gR C hW k_Title_23 e15 d_Title_addSpan_73 ?_
  refine lv_iload_n hx hb d_Title_addSpan_76 rfl (lv_at hl 3 rfl) ?_
  refine lv_iload_n hx hb d_Title_addSpan_77 rfl (lv_at hl 2 rfl) ?_
  obtain ⟨M16, e16, h⟩ := ob h
  refine mr_sI C hW hS e16 d_Title_addSpan_78 (fun H locs hW hS => ?_)
  refine lv_aload_n hx hb d_Title_addSpan_79 rfl (lv_at hl 0 rfl) ?_
  refine lv_dup hx hb d_Title_addSpan_80 rfl ?_
  obtain ⟨x17, e17, h⟩ := ob h
  refine mr_gI C hW k_Title_26 e17 d_Title_addSpan_81 ?_
  refine lv_iconst (v := 1) hx hb d_Title_addSpan_84 (by decide) ?_
  refine lv_iadd hx hb d_Title_addSpan_85 ?_
  obtain ⟨M18, e18, h⟩ := ob h
  refine mr_put C hW hS kp_Title_26 rfl rfl e18 d_Title_addSpan_86 (fun H locs hW hS => ?_)
  exact mr_vret C hW hS (Nat.le_of_ble_eq_true rfl) (Nat.le_of_ble_eq_true rfl) h d_Title_addSpan_89
set_option maxHeartbeats 4000000 in
set_option maxRecDepth 100000 in
theorem w_Title_addSpan_b15 {p : Program} {l : Launch} {e : Env} {s : State} {m : MethodId} {args : Array Value} {below : List Frame} {meth : Method} {c : Code} {D : va_G} {dA : Nat → ClassId} {M0 M' : mm} {r : Unit} (C : mm_C p s m args meth c b_Title_addSpan 4 none R_Title D dA (mm_A M0)) : ∀ (n : Nat), ∀ (v0 : Nat) (v1 : Int32) (v2 : Int32) (v3 : Int32) (M : mm) (H : Heap) (locs : List Loc) (ls : Array Slot), f_Title_addSpan_b15 n v0 v1 v2 v3 M = some (r, M') → mm_W D dA (mm_A M0) M H → va_S (mm_A M0) s.heap H locs → lv_has ls 4 [(0, .ref v0), (1, .int v1), (2, .int v2), (3, .int v3)] → W p l e rm_Title_addSpan s m args below meth c H locs 0 0 (MQ below (mm_QV D dA M0 r M') args s 0 0 (mm_A M0)) (F0 m 15 ls []) := by
  obtain ⟨hx, hb, hr, hml, hown, hts, hlocks, hK, hA⟩ := id C
  intro n
  induction n with
  | zero =>
    intro v0 v1 v2 v3 M H locs ls h hW hS hl
    unfold f_Title_addSpan_b15 at h
    cases h
  | succ n ih =>
    intro v0 v1 v2 v3 M H locs ls h hW hS hl
    unfold f_Title_addSpan_b15 at h
    refine lv_iload_n hx hb d_Title_addSpan_15 rfl (lv_at hl 3 rfl) ?_
    refine lv_if_le (tgt := 65) hx hb d_Title_addSpan_16 (by decide) (fun c1 => ?_) (fun c1 => ?_)
    · have h := ifp h c1
      exact w_Title_addSpan_b65 C _ _ _ _ _ _ _ _ h hW hS (lv_sub hl [0, 1, 2, 3] rfl)
    · have h := ifn h c1
      refine lv_aload_n hx hb d_Title_addSpan_19 rfl (lv_at hl 0 rfl) ?_
      obtain ⟨x2, e2, h⟩ := ob h
      refine mr_gR C hW k_Title_19 e2 d_Title_addSpan_20 ?_
      refine lv_iload_n hx hb d_Title_addSpan_23 rfl (lv_at hl 3 rfl) ?_
      refine lv_iconst (v := 1) hx hb d_Title_addSpan_24 (by decide) ?_
      refine lv_isub hx hb d_Title_addSpan_25 ?_
      obtain ⟨x3, e3, h⟩ := ob h
      refine mr_aI C hW e3 d_Title_addSpan_26 ?_
      refine lv_iload_n hx hb d_Title_addSpan_27 rfl (lv_at hl 1 rfl) ?_
      refine lv_icmp_le (tgt := 65) hx hb d_Title_addSpan_28 (by decide) (fun c4 => ?_) (fun c4 => ?_)
      · have h := ifp h c4
        exact w_Title_addSpan_b65 C _ _ _ _ _ _ _ _ h hW hS (lv_sub hl [0, 1, 2, 3] rfl)
      · have h := ifn h c4
        refine lv_aload_n hx hb d_Title_addSpan_31 rfl (lv_at hl 0 rfl) ?_
        obtain ⟨x5, e5, h⟩ := ob h
        refine mr_gR C hW k_Title_19 e5 d_Title_addSpan_32 ?_
        refine lv_iload_n hx hb d_Title_addSpan_35 rfl (lv_at hl 3 rfl) ?_
        refine lv_aload_n hx hb d_Title_addSpan_36 rfl (lv_at hl 0 rfl) ?_
        obtain ⟨x6, e6, h⟩ := ob h
        refine mr_gR C hW k_Title_19 e6 d_Title_addSpan_37 ?_
        refine lv_iload_n hx hb d_Title_addSpan_40 rfl (lv_at hl 3 rfl) ?_
        refine lv_iconst (v := 1) hx hb d_Title_addSpan_41 (by decide) ?_
        refine lv_isub hx hb d_Title_addSpan_42 ?_
        obtain ⟨x7, e7, h⟩ := ob h
        refine mr_aI C hW e7 d_Title_addSpan_43 ?_
        obtain ⟨M8, e8, h⟩ := ob h
        refine mr_sI C hW hS e8 d_Title_addSpan_44 (fun H locs hW hS => ?_)
        refine lv_aload_n hx hb d_Title_addSpan_45 rfl (lv_at hl 0 rfl) ?_
        obtain ⟨x9, e9, h⟩ := ob h
        refine mr_gR C hW k_Title_23 e9 d_Title_addSpan_46 ?_
        refine lv_iload_n hx hb d_Title_addSpan_49 rfl (lv_at hl 3 rfl) ?_
        refine lv_aload_n hx hb d_Title_addSpan_50 rfl (lv_at hl 0 rfl) ?_
        obtain ⟨x10, e10, h⟩ := ob h
        refine mr_gR C hW k_Title_23 e10 d_Title_addSpan_51 ?_
        refine lv_iload_n hx hb d_Title_addSpan_54 rfl (lv_at hl 3 rfl) ?_
        refine lv_iconst (v := 1) hx hb d_Title_addSpan_55 (by decide) ?_
        refine lv_isub hx hb d_Title_addSpan_56 ?_
        obtain ⟨x11, e11, h⟩ := ob h
        refine mr_aI C hW e11 d_Title_addSpan_57 ?_
        obtain ⟨M12, e12, h⟩ := ob h
        refine mr_sI C hW hS e12 d_Title_addSpan_58 (fun H locs hW hS => ?_)
        refine lv_iinc (v := v3 + (-1)) (lv' := [(3, .int (v3 + (-1))), (0, .ref v0), (1, .int v1), (2, .int v2)]) hx hb d_Title_addSpan_59 hl (k := 3) rfl rfl (by decide) rfl (fun ls hl => ?_)
        refine lv_goto (tgt := 15) hx hb d_Title_addSpan_62 (by decide) ?_
        exact ih _ _ _ _ _ _ _ _ h hW hS (lv_sub hl [1, 2, 3, 0] rfl)
set_option maxHeartbeats 4000000 in
set_option maxRecDepth 100000 in
theorem c_Title_addSpan (l : Launch) (D : va_G) (dA : Nat → ClassId) (M0 M' : mm) (r : Unit) (v0 : Nat) (v1 : Int32) (v2 : Int32) (h : f_Title_addSpan v0 v1 v2 M0 = some (r, M')) : Met l y_Title_addSpan w_Title_addSpan rm_Title_addSpan (mm_Pre D dA M0 [.ref v0, .int v1, .int v2]) (mm_QV D dA M0 r M') 0 0 (mm_A M0) := by
  refine Met.ofW (cc := b_Title_addSpan) (maxL := 4) (ret := none) (by decide) rfl ?_
  intro p e s m args below meth c s₁ B hml hv
  obtain ⟨rfl, hW, hK⟩ := hv
  have C : mm_C p s m _ meth c b_Title_addSpan 4 none R_Title D dA (mm_A M0) := ⟨B.exec, B.bytes, B.returns, hml, findClass_of_methodNamed B.named, fun w hw => atoms_spec (ws := w_Title_addSpan) B.pre w (List.mem_cons_of_mem _ hw), B.notSynchronized, hK, fun q hq => Or.inr (by rw [← hW.1]; exact hq)⟩
  have hS : va_S (mm_A M0) s.heap s.heap [] := va_S.rf
  obtain ⟨hx, hb, hr, hml, hown, hts, hlocks, hK, hA⟩ := id C
  have hl := lv_entry ([.ref v0, .int v1, .int v2]) (n := 4) (Nat.le_of_ble_eq_true rfl)
  rw [lg_entry_eq]
  generalize (lg_sl ([.ref v0, .int v1, .int v2]) ++ List.replicate (4 - (lg_sl ([.ref v0, .int v1, .int v2])).length) Slot.unset).toArray = ls at hl ⊢
  have hl : lv_has ls 4 [(0, .ref v0), (1, .int v1), (2, .int v2)] := hl
  unfold f_Title_addSpan at h
  refine lv_aload_n hx hb d_Title_addSpan_0 rfl (lv_at hl 0 rfl) ?_
  obtain ⟨x19, e19, h⟩ := ob h
  refine mr_gI C hW k_Title_26 e19 d_Title_addSpan_1 ?_
  refine lv_bipush (v := 10) hx hb d_Title_addSpan_4 (by decide) ?_
  refine lv_icmp_lt (tgt := 10) hx hb d_Title_addSpan_6 (by decide) (fun c20 => ?_) (fun c20 => ?_)
  · have h := ifp h c20
    refine lv_aload_n hx hb d_Title_addSpan_10 rfl (lv_at hl 0 rfl) ?_
    obtain ⟨x21, e21, h⟩ := ob h
    refine mr_gI C hW k_Title_26 e21 d_Title_addSpan_11 ?_
    refine lv_istore_n (lv' := [(3, .int x21), (0, .ref v0), (1, .int v1), (2, .int v2)]) hx hb d_Title_addSpan_14 rfl hl (by decide) rfl (fun ls hl => ?_)
    exact w_Title_addSpan_b15 C FU _ _ _ _ _ _ _ _ h hW hS (lv_sub hl [1, 2, 3, 0] rfl)
  · have h := ifn h c20
    exact mr_vret C hW hS (Nat.le_of_ble_eq_true rfl) (Nat.le_of_ble_eq_true rfl) h d_Title_addSpan_9
def f_X_monthOf (v0 : Int32) (M : mm) : Option (Int32 × mm) :=
    some (v0 / 30, M)
set_option maxHeartbeats 4000000 in
set_option maxRecDepth 100000 in
theorem c_X_monthOf (l : Launch) (D : va_G) (dA : Nat → ClassId) (M0 M' : mm) (r : Int32) (v0 : Int32) (h : f_X_monthOf v0 M0 = some (r, M')) : Met l y_X_monthOf w_X_monthOf rm_X_monthOf (mm_Pre D dA M0 [.int v0]) (mm_QI D dA M0 r M') 0 0 (mm_A M0) := by
  refine Met.ofW (cc := b_X_monthOf) (maxL := 1) (ret := (some .int)) (by decide) rfl ?_
  intro p e s m args below meth c s₁ B hml hv
  obtain ⟨rfl, hW, hK⟩ := hv
  have C : mm_C p s m _ meth c b_X_monthOf 1 (some .int) R_X D dA (mm_A M0) := ⟨B.exec, B.bytes, B.returns, hml, findClass_of_methodNamed B.named, fun w hw => atoms_spec (ws := w_X_monthOf) B.pre w (List.mem_cons_of_mem _ hw), B.notSynchronized, hK, fun q hq => Or.inr (by rw [← hW.1]; exact hq)⟩
  have hS : va_S (mm_A M0) s.heap s.heap [] := va_S.rf
  obtain ⟨hx, hb, hr, hml, hown, hts, hlocks, hK, hA⟩ := id C
  have hl := lv_entry ([.int v0]) (n := 1) (Nat.le_of_ble_eq_true rfl)
  rw [lg_entry_eq]
  generalize (lg_sl ([.int v0]) ++ List.replicate (1 - (lg_sl ([.int v0])).length) Slot.unset).toArray = ls at hl ⊢
  have hl : lv_has ls 1 [(0, .int v0)] := hl
  unfold f_X_monthOf at h
  refine lv_iload_n hx hb d_X_monthOf_0 rfl (lv_at hl 0 rfl) ?_
  refine lv_bipush (v := 30) hx hb d_X_monthOf_1 (by decide) ?_
  refine lv_idiv hx hb d_X_monthOf_3 (by decide) ?_
  exact mr_iret C hW hS (Nat.le_of_ble_eq_true rfl) (Nat.le_of_ble_eq_true rfl) h d_X_monthOf_4
def f_Title_lastFreeMonth (v0 : Nat) (v1 : Int32) (M : mm) : Option (Int32 × mm) :=
    (f_X_monthOf v1 M).bind fun (x1, M1) =>
    (gI 6 3 M1 v0).bind fun x2 =>
    some (x1 - x2, M1)
set_option maxHeartbeats 4000000 in
set_option maxRecDepth 100000 in
theorem c_Title_lastFreeMonth (l : Launch) (D : va_G) (dA : Nat → ClassId) (M0 M' : mm) (r : Int32) (v0 : Nat) (v1 : Int32) (h : f_Title_lastFreeMonth v0 v1 M0 = some (r, M')) : Met l y_Title_lastFreeMonth w_Title_lastFreeMonth rm_Title_lastFreeMonth (mm_Pre D dA M0 [.ref v0, .int v1]) (mm_QI D dA M0 r M') 0 0 (mm_A M0) := by
  refine Met.ofW (cc := b_Title_lastFreeMonth) (maxL := 2) (ret := (some .int)) (by decide) rfl ?_
  intro p e s m args below meth c s₁ B hml hv
  obtain ⟨rfl, hW, hK⟩ := hv
  have C : mm_C p s m _ meth c b_Title_lastFreeMonth 2 (some .int) R_Title D dA (mm_A M0) := ⟨B.exec, B.bytes, B.returns, hml, findClass_of_methodNamed B.named, fun w hw => atoms_spec (ws := w_Title_lastFreeMonth) B.pre w (List.mem_cons_of_mem _ hw), B.notSynchronized, hK, fun q hq => Or.inr (by rw [← hW.1]; exact hq)⟩
  have hS : va_S (mm_A M0) s.heap s.heap [] := va_S.rf
  obtain ⟨hx, hb, hr, hml, hown, hts, hlocks, hK, hA⟩ := id C
  have hl := lv_entry ([.ref v0, .int v1]) (n := 2) (Nat.le_of_ble_eq_true rfl)
  rw [lg_entry_eq]
  generalize (lg_sl ([.ref v0, .int v1]) ++ List.replicate (2 - (lg_sl ([.ref v0, .int v1])).length) Slot.unset).toArray = ls at hl ⊢
  have hl : lv_has ls 2 [(0, .ref v0), (1, .int v1)] := hl
  unfold f_Title_lastFreeMonth at h
  refine lv_iload_n hx hb d_Title_lastFreeMonth_0 rfl (lv_at hl 1 rfl) ?_
  obtain ⟨⟨x1, M1⟩, e1, h⟩ := ob h
  refine mr_ci C hW hS (va_runSN (As := [.int v1]) (rest := []) ⟨hx, hb, hml, hown, hts⟩ (c_X_monthOf l D dA _ _ _ v1 e1) ⟨va_cnB 1 hts (mg_in q_98) rfl rfl rfl (hK.2.1 _ qn_Title_36) (hts _ q_71) (by decide +kernel) ⟨Nat.le_of_ble_eq_true rfl, Nat.le_of_ble_eq_true rfl⟩, hts _ q_99, trivial⟩ (mr_pre C hW) rfl rfl hl.1 rfl (lv_room (Nat.le_of_ble_eq_true rfl)) d_Title_lastFreeMonth_1 ⟨Nat.le_of_ble_eq_true rfl, Nat.le_of_ble_eq_true rfl⟩) (fun H locs hW hS => ?_)
  refine lv_aload_n hx hb d_Title_lastFreeMonth_4 rfl (lv_at hl 0 rfl) ?_
  obtain ⟨x2, e2, h⟩ := ob h
  refine mr_gI C hW k_Title_15 e2 d_Title_lastFreeMonth_5 ?_
  refine lv_isub hx hb d_Title_lastFreeMonth_8 ?_
  exact mr_iret C hW hS (Nat.le_of_ble_eq_true rfl) (Nat.le_of_ble_eq_true rfl) h d_Title_lastFreeMonth_9
def f_Rule_init (v0 : Nat) (v1 : Int32) (v2 : Int32) (v3 : Int32) (v4 : Int32) (M : mm) : Option (Unit × mm) :=
    (kB 0).bind fun _ =>
    (pF 5 4 (.int 0) M v0).bind fun M2 =>
    (pF 5 0 (.int v1) M2 v0).bind fun M3 =>
    (pF 5 1 (.int v2) M3 v0).bind fun M4 =>
    (pF 5 2 (.int v3) M4 v0).bind fun M5 =>
    (pF 5 3 (.int v4) M5 v0).bind fun M6 =>
    some ((), M6)
set_option maxHeartbeats 4000000 in
set_option maxRecDepth 100000 in
theorem c_Rule_init (l : Launch) (D : va_G) (dA : Nat → ClassId) (M0 M' : mm) (r : Unit) (v0 : Nat) (v1 : Int32) (v2 : Int32) (v3 : Int32) (v4 : Int32) (h : f_Rule_init v0 v1 v2 v3 v4 M0 = some (r, M')) : Met l y_Rule_init w_Rule_init rm_Rule_init (mm_Pre D dA M0 [.ref v0, .int v1, .int v2, .int v3, .int v4]) (mm_QV D dA M0 r M') 0 0 (mm_A M0) := by
  refine Met.ofW (cc := b_Rule_init) (maxL := 5) (ret := none) (by decide) rfl ?_
  intro p e s m args below meth c s₁ B hml hv
  obtain ⟨rfl, hW, hK⟩ := hv
  have C : mm_C p s m _ meth c b_Rule_init 5 none R_Rule D dA (mm_A M0) := ⟨B.exec, B.bytes, B.returns, hml, findClass_of_methodNamed B.named, fun w hw => atoms_spec (ws := w_Rule_init) B.pre w (List.mem_cons_of_mem _ hw), B.notSynchronized, hK, fun q hq => Or.inr (by rw [← hW.1]; exact hq)⟩
  have hini : meth.name = "<init>" := (name_of_methodNamed B.named B.method).1
  have hS : va_S (mm_A M0) s.heap s.heap [] := va_S.rf
  obtain ⟨hx, hb, hr, hml, hown, hts, hlocks, hK, hA⟩ := id C
  have hl := lv_entry ([.ref v0, .int v1, .int v2, .int v3, .int v4]) (n := 5) (Nat.le_of_ble_eq_true rfl)
  rw [lg_entry_eq]
  generalize (lg_sl ([.ref v0, .int v1, .int v2, .int v3, .int v4]) ++ List.replicate (5 - (lg_sl ([.ref v0, .int v1, .int v2, .int v3, .int v4])).length) Slot.unset).toArray = ls at hl ⊢
  have hl : lv_has ls 5 [(0, .ref v0), (1, .int v1), (2, .int v2), (3, .int v3), (4, .int v4)] := hl
  unfold f_Rule_init at h
  refine lv_aload_n hx hb d_Rule_init_0 rfl (lv_at hl 0 rfl) ?_
  refine W.objInit hx hb hown (hts _ q_110) (hts _ q_1) (hts _ q_2) rfl (by rw [hml]; exact hl.1) rfl d_Rule_init_1 (Nat.le_of_ble_eq_true rfl) (Nat.le_of_ble_eq_true rfl) ?_
  refine W.eq (g2 := F0 m 4 ls []) rfl ?_
  refine lv_aload_n hx hb d_Rule_init_4 rfl (lv_at hl 0 rfl) ?_
  refine lv_iconst (v := 0) hx hb d_Rule_init_5 (by decide) ?_
  obtain ⟨_, e1, h⟩ := ob h
  obtain ⟨M2, e2, h⟩ := ob h
  refine mr_put C hW hS kp_Rule_9 (kB_some e1).1 (kB_some e1).2 e2 d_Rule_init_6 (fun H locs hW hS => ?_)
  refine lv_aload_n hx hb d_Rule_init_9 rfl (lv_at hl 0 rfl) ?_
  refine lv_iload_n hx hb d_Rule_init_10 rfl (lv_at hl 1 rfl) ?_
  obtain ⟨M3, e3, h⟩ := ob h
  refine mr_putF C hW hS kp_Rule_15 hini rfl rfl e3 d_Rule_init_11 (fun H locs hW hS => ?_)
  refine lv_aload_n hx hb d_Rule_init_14 rfl (lv_at hl 0 rfl) ?_
  refine lv_iload_n hx hb d_Rule_init_15 rfl (lv_at hl 2 rfl) ?_
  obtain ⟨M4, e4, h⟩ := ob h
  refine mr_putF C hW hS kp_Rule_19 hini rfl rfl e4 d_Rule_init_16 (fun H locs hW hS => ?_)
  refine lv_aload_n hx hb d_Rule_init_19 rfl (lv_at hl 0 rfl) ?_
  refine lv_iload_n hx hb d_Rule_init_20 rfl (lv_at hl 3 rfl) ?_
  obtain ⟨M5, e5, h⟩ := ob h
  refine mr_putF C hW hS kp_Rule_22 hini rfl rfl e5 d_Rule_init_21 (fun H locs hW hS => ?_)
  refine lv_aload_n hx hb d_Rule_init_24 rfl (lv_at hl 0 rfl) ?_
  refine lv_iload hx hb d_Rule_init_25 (lv_at hl 4 rfl) ?_
  obtain ⟨M6, e6, h⟩ := ob h
  refine mr_putF C hW hS kp_Rule_25 hini rfl rfl e6 d_Rule_init_27 (fun H locs hW hS => ?_)
  exact mr_vret C hW hS (Nat.le_of_ble_eq_true rfl) (Nat.le_of_ble_eq_true rfl) h d_Rule_init_30
def f_Pack_hasPlace (v0 : Nat) (M : mm) : Option (Int32 × mm) :=
    (gR 4 2 M v0).bind fun x1 =>
    (gI 2 1 M x1).bind fun x2 =>
    (gI 4 4 M v0).bind fun x3 =>
    if x3 ≤ x2 then
      (kB 0).bind fun _ =>
      some (0, M)
    else
      (kB 1).bind fun _ =>
      some (1, M)
set_option maxHeartbeats 4000000 in
set_option maxRecDepth 100000 in
theorem c_Pack_hasPlace (l : Launch) (D : va_G) (dA : Nat → ClassId) (M0 M' : mm) (r : Int32) (v0 : Nat) (h : f_Pack_hasPlace v0 M0 = some (r, M')) : Met l y_Pack_hasPlace w_Pack_hasPlace rm_Pack_hasPlace (mm_Pre D dA M0 [.ref v0]) (mm_QI D dA M0 r M') 0 0 (mm_A M0) := by
  refine Met.ofW (cc := b_Pack_hasPlace) (maxL := 1) (ret := (some .boolean)) (by decide) rfl ?_
  intro p e s m args below meth c s₁ B hml hv
  obtain ⟨rfl, hW, hK⟩ := hv
  have C : mm_C p s m _ meth c b_Pack_hasPlace 1 (some .boolean) R_Pack D dA (mm_A M0) := ⟨B.exec, B.bytes, B.returns, hml, findClass_of_methodNamed B.named, fun w hw => atoms_spec (ws := w_Pack_hasPlace) B.pre w (List.mem_cons_of_mem _ hw), B.notSynchronized, hK, fun q hq => Or.inr (by rw [← hW.1]; exact hq)⟩
  have hS : va_S (mm_A M0) s.heap s.heap [] := va_S.rf
  obtain ⟨hx, hb, hr, hml, hown, hts, hlocks, hK, hA⟩ := id C
  have hl := lv_entry ([.ref v0]) (n := 1) (Nat.le_of_ble_eq_true rfl)
  rw [lg_entry_eq]
  generalize (lg_sl ([.ref v0]) ++ List.replicate (1 - (lg_sl ([.ref v0])).length) Slot.unset).toArray = ls at hl ⊢
  have hl : lv_has ls 1 [(0, .ref v0)] := hl
  unfold f_Pack_hasPlace at h
  refine lv_aload_n hx hb d_Pack_hasPlace_0 rfl (lv_at hl 0 rfl) ?_
  obtain ⟨x1, e1, h⟩ := ob h
  refine mr_gR C hW k_Pack_12 e1 d_Pack_hasPlace_1 ?_
  obtain ⟨x2, e2, h⟩ := ob h
  refine mr_gI C hW k_Pack_35 e2 d_Pack_hasPlace_4 ?_
  refine lv_aload_n hx hb d_Pack_hasPlace_7 rfl (lv_at hl 0 rfl) ?_
  obtain ⟨x3, e3, h⟩ := ob h
  refine mr_gI C hW k_Pack_21 e3 d_Pack_hasPlace_8 ?_
  refine lv_icmp_ge (tgt := 18) hx hb d_Pack_hasPlace_11 (by decide) (fun c4 => ?_) (fun c4 => ?_)
  · have h := ifp h c4
    refine lv_iconst (v := 0) hx hb d_Pack_hasPlace_18 (by decide) ?_
    obtain ⟨_, e5, h⟩ := ob h
    exact mr_zret C hW hS (Nat.le_of_ble_eq_true rfl) (Nat.le_of_ble_eq_true rfl) e5 h d_Pack_hasPlace_19
  · have h := ifn h c4
    refine lv_iconst (v := 1) hx hb d_Pack_hasPlace_14 (by decide) ?_
    refine lv_goto (tgt := 19) hx hb d_Pack_hasPlace_15 (by decide) ?_
    obtain ⟨_, e6, h⟩ := ob h
    exact mr_zret C hW hS (Nat.le_of_ble_eq_true rfl) (Nat.le_of_ble_eq_true rfl) e6 h d_Pack_hasPlace_19
def f_Line_placeOf_b2 : Nat → Nat → Int32 → Int32 → mm → Option (Int32 × mm)
  | 0, _, _, _, _ => none
  | n + 1, v0, v1, v2, M =>
    (gI 2 1 M v0).bind fun x1 =>
    if x1 ≤ v2 then
      some ((-1), M)
    else
      (gR 2 0 M v0).bind fun x3 =>
      (aI M x3 v2).bind fun x4 =>
      if x4 = v1 then
        some (v2, M)
      else
        f_Line_placeOf_b2 n v0 v1 (v2 + 1) M
def f_Line_placeOf (v0 : Nat) (v1 : Int32) (M : mm) : Option (Int32 × mm) :=
    f_Line_placeOf_b2 FU v0 v1 0 M
set_option maxHeartbeats 4000000 in
set_option maxRecDepth 100000 in
theorem w_Line_placeOf_b2 {p : Program} {l : Launch} {e : Env} {s : State} {m : MethodId} {args : Array Value} {below : List Frame} {meth : Method} {c : Code} {D : va_G} {dA : Nat → ClassId} {M0 M' : mm} {r : Int32} (C : mm_C p s m args meth c b_Line_placeOf 3 (some .int) R_Line D dA (mm_A M0)) : ∀ (n : Nat), ∀ (v0 : Nat) (v1 : Int32) (v2 : Int32) (M : mm) (H : Heap) (locs : List Loc) (ls : Array Slot), f_Line_placeOf_b2 n v0 v1 v2 M = some (r, M') → mm_W D dA (mm_A M0) M H → va_S (mm_A M0) s.heap H locs → lv_has ls 3 [(0, .ref v0), (1, .int v1), (2, .int v2)] → W p l e rm_Line_placeOf s m args below meth c H locs 0 0 (MQ below (mm_QI D dA M0 r M') args s 0 0 (mm_A M0)) (F0 m 2 ls []) := by
  obtain ⟨hx, hb, hr, hml, hown, hts, hlocks, hK, hA⟩ := id C
  intro n
  induction n with
  | zero =>
    intro v0 v1 v2 M H locs ls h hW hS hl
    unfold f_Line_placeOf_b2 at h
    cases h
  | succ n ih =>
    intro v0 v1 v2 M H locs ls h hW hS hl
    unfold f_Line_placeOf_b2 at h
    refine lv_iload_n hx hb d_Line_placeOf_2 rfl (lv_at hl 2 rfl) ?_
    refine lv_aload_n hx hb d_Line_placeOf_3 rfl (lv_at hl 0 rfl) ?_
    obtain ⟨x1, e1, h⟩ := ob h
    refine mr_gI C hW k_Line_15 e1 d_Line_placeOf_4 ?_
    refine lv_icmp_ge (tgt := 28) hx hb d_Line_placeOf_7 (by decide) (fun c2 => ?_) (fun c2 => ?_)
    · have h := ifp h c2
      refine lv_iconst (v := (-1)) hx hb d_Line_placeOf_28 (by decide) ?_
      exact mr_iret C hW hS (Nat.le_of_ble_eq_true rfl) (Nat.le_of_ble_eq_true rfl) h d_Line_placeOf_29
    · have h := ifn h c2
      refine lv_aload_n hx hb d_Line_placeOf_10 rfl (lv_at hl 0 rfl) ?_
      obtain ⟨x3, e3, h⟩ := ob h
      refine mr_gR C hW k_Line_9 e3 d_Line_placeOf_11 ?_
      refine lv_iload_n hx hb d_Line_placeOf_14 rfl (lv_at hl 2 rfl) ?_
      obtain ⟨x4, e4, h⟩ := ob h
      refine mr_aI C hW e4 d_Line_placeOf_15 ?_
      refine lv_iload_n hx hb d_Line_placeOf_16 rfl (lv_at hl 1 rfl) ?_
      refine lv_icmp_ne (tgt := 22) hx hb d_Line_placeOf_17 (by decide) (fun c5 => ?_) (fun c5 => ?_)
      · have h := ifn h c5
        refine lv_iinc (v := v2 + 1) (lv' := [(2, .int (v2 + 1)), (0, .ref v0), (1, .int v1)]) hx hb d_Line_placeOf_22 hl (k := 2) rfl rfl (by decide) rfl (fun ls hl => ?_)
        refine lv_goto (tgt := 2) hx hb d_Line_placeOf_25 (by decide) ?_
        exact ih _ _ _ _ _ _ _ h hW hS (lv_sub hl [1, 2, 0] rfl)
      · have h := ifp h c5
        refine lv_iload_n hx hb d_Line_placeOf_20 rfl (lv_at hl 2 rfl) ?_
        exact mr_iret C hW hS (Nat.le_of_ble_eq_true rfl) (Nat.le_of_ble_eq_true rfl) h d_Line_placeOf_21
set_option maxHeartbeats 4000000 in
set_option maxRecDepth 100000 in
theorem c_Line_placeOf (l : Launch) (D : va_G) (dA : Nat → ClassId) (M0 M' : mm) (r : Int32) (v0 : Nat) (v1 : Int32) (h : f_Line_placeOf v0 v1 M0 = some (r, M')) : Met l y_Line_placeOf w_Line_placeOf rm_Line_placeOf (mm_Pre D dA M0 [.ref v0, .int v1]) (mm_QI D dA M0 r M') 0 0 (mm_A M0) := by
  refine Met.ofW (cc := b_Line_placeOf) (maxL := 3) (ret := (some .int)) (by decide) rfl ?_
  intro p e s m args below meth c s₁ B hml hv
  obtain ⟨rfl, hW, hK⟩ := hv
  have C : mm_C p s m _ meth c b_Line_placeOf 3 (some .int) R_Line D dA (mm_A M0) := ⟨B.exec, B.bytes, B.returns, hml, findClass_of_methodNamed B.named, fun w hw => atoms_spec (ws := w_Line_placeOf) B.pre w (List.mem_cons_of_mem _ hw), B.notSynchronized, hK, fun q hq => Or.inr (by rw [← hW.1]; exact hq)⟩
  have hS : va_S (mm_A M0) s.heap s.heap [] := va_S.rf
  obtain ⟨hx, hb, hr, hml, hown, hts, hlocks, hK, hA⟩ := id C
  have hl := lv_entry ([.ref v0, .int v1]) (n := 3) (Nat.le_of_ble_eq_true rfl)
  rw [lg_entry_eq]
  generalize (lg_sl ([.ref v0, .int v1]) ++ List.replicate (3 - (lg_sl ([.ref v0, .int v1])).length) Slot.unset).toArray = ls at hl ⊢
  have hl : lv_has ls 3 [(0, .ref v0), (1, .int v1)] := hl
  unfold f_Line_placeOf at h
  refine lv_iconst (v := 0) hx hb d_Line_placeOf_0 (by decide) ?_
  refine lv_istore_n (lv' := [(2, .int 0), (0, .ref v0), (1, .int v1)]) hx hb d_Line_placeOf_1 rfl hl (by decide) rfl (fun ls hl => ?_)
  exact w_Line_placeOf_b2 C FU _ _ _ _ _ _ _ h hW hS (lv_sub hl [1, 2, 0] rfl)
def f_Line_drop_b24 : Nat → Nat → Int32 → mm → Option (Int32 × mm)
  | 0, _, _, _ => none
  | n + 1, v0, v3, M =>
    (gI 2 1 M v0).bind fun x1 =>
    if x1 ≤ v3 then
      (kB 1).bind fun _ =>
      some (1, M)
    else
      (gR 2 0 M v0).bind fun x4 =>
      (gR 2 0 M v0).bind fun x5 =>
      (aI M x5 (v3 + 1)).bind fun x6 =>
      (sI x6 M x4 v3).bind fun M7 =>
      f_Line_drop_b24 n v0 (v3 + 1) M7
def f_Line_drop (v0 : Nat) (v1 : Int32) (M : mm) : Option (Int32 × mm) :=
    (kO 2 M v0).bind fun _ =>
    (f_Line_placeOf v0 v1 M).bind fun (x8, M8) =>
    if 0 ≤ x8 then
      (gI 2 1 M8 v0).bind fun x11 =>
      (pF 2 1 (.int (x11 - 1)) M8 v0).bind fun M12 =>
      f_Line_drop_b24 FU v0 x8 M12
    else
      (kB 0).bind fun _ =>
      some (0, M8)
set_option maxHeartbeats 4000000 in
set_option maxRecDepth 100000 in
theorem w_Line_drop_b24 {p : Program} {l : Launch} {e : Env} {s : State} {m : MethodId} {args : Array Value} {below : List Frame} {meth : Method} {c : Code} {D : va_G} {dA : Nat → ClassId} {M0 M' : mm} {r : Int32} (C : mm_C p s m args meth c b_Line_drop 4 (some .boolean) R_Line D dA (mm_A M0)) : ∀ (n : Nat), ∀ (v0 : Nat) (v3 : Int32) (M : mm) (H : Heap) (locs : List Loc) (ls : Array Slot), f_Line_drop_b24 n v0 v3 M = some (r, M') → mm_W D dA (mm_A M0) M H → va_S (mm_A M0) s.heap H locs → lv_has ls 4 [(0, .ref v0), (3, .int v3)] → W p l e rm_Line_drop s m args below meth c H locs 0 0 (MQ below (mm_QI D dA M0 r M') args s 0 0 (mm_A M0)) (F0 m 24 ls []) := by
  obtain ⟨hx, hb, hr, hml, hown, hts, hlocks, hK, hA⟩ := id C
  intro n
  induction n with
  | zero =>
    intro v0 v3 M H locs ls h hW hS hl
    unfold f_Line_drop_b24 at h
    cases h
  | succ n ih =>
    intro v0 v3 M H locs ls h hW hS hl
    unfold f_Line_drop_b24 at h
    refine lv_iload_n hx hb d_Line_drop_24 rfl (lv_at hl 1 rfl) ?_
    refine lv_aload_n hx hb d_Line_drop_25 rfl (lv_at hl 0 rfl) ?_
    obtain ⟨x1, e1, h⟩ := ob h
    refine mr_gI C hW k_Line_15 e1 d_Line_drop_26 ?_
    refine lv_icmp_ge (tgt := 52) hx hb d_Line_drop_29 (by decide) (fun c2 => ?_) (fun c2 => ?_)
    · have h := ifp h c2
      refine lv_iconst (v := 1) hx hb d_Line_drop_52 (by decide) ?_
      obtain ⟨_, e3, h⟩ := ob h
      exact mr_zret C hW hS (Nat.le_of_ble_eq_true rfl) (Nat.le_of_ble_eq_true rfl) e3 h d_Line_drop_53
    · have h := ifn h c2
      refine lv_aload_n hx hb d_Line_drop_32 rfl (lv_at hl 0 rfl) ?_
      obtain ⟨x4, e4, h⟩ := ob h
      refine mr_gR C hW k_Line_9 e4 d_Line_drop_33 ?_
      refine lv_iload_n hx hb d_Line_drop_36 rfl (lv_at hl 1 rfl) ?_
      refine lv_aload_n hx hb d_Line_drop_37 rfl (lv_at hl 0 rfl) ?_
      obtain ⟨x5, e5, h⟩ := ob h
      refine mr_gR C hW k_Line_9 e5 d_Line_drop_38 ?_
      refine lv_iload_n hx hb d_Line_drop_41 rfl (lv_at hl 1 rfl) ?_
      refine lv_iconst (v := 1) hx hb d_Line_drop_42 (by decide) ?_
      refine lv_iadd hx hb d_Line_drop_43 ?_
      obtain ⟨x6, e6, h⟩ := ob h
      refine mr_aI C hW e6 d_Line_drop_44 ?_
      obtain ⟨M7, e7, h⟩ := ob h
      refine mr_sI C hW hS e7 d_Line_drop_45 (fun H locs hW hS => ?_)
      refine lv_iinc (v := v3 + 1) (lv' := [(3, .int (v3 + 1)), (0, .ref v0)]) hx hb d_Line_drop_46 hl (k := 1) rfl rfl (by decide) rfl (fun ls hl => ?_)
      refine lv_goto (tgt := 24) hx hb d_Line_drop_49 (by decide) ?_
      exact ih _ _ _ _ _ _ h hW hS (lv_sub hl [1, 0] rfl)
set_option maxHeartbeats 4000000 in
set_option maxRecDepth 100000 in
theorem c_Line_drop (l : Launch) (D : va_G) (dA : Nat → ClassId) (M0 M' : mm) (r : Int32) (v0 : Nat) (v1 : Int32) (h : f_Line_drop v0 v1 M0 = some (r, M')) : Met l y_Line_drop w_Line_drop rm_Line_drop (mm_Pre D dA M0 [.ref v0, .int v1]) (mm_QI D dA M0 r M') 0 0 (mm_A M0) := by
  refine Met.ofW (cc := b_Line_drop) (maxL := 4) (ret := (some .boolean)) (by decide) rfl ?_
  intro p e s m args below meth c s₁ B hml hv
  obtain ⟨rfl, hW, hK⟩ := hv
  have C : mm_C p s m _ meth c b_Line_drop 4 (some .boolean) R_Line D dA (mm_A M0) := ⟨B.exec, B.bytes, B.returns, hml, findClass_of_methodNamed B.named, fun w hw => atoms_spec (ws := w_Line_drop) B.pre w (List.mem_cons_of_mem _ hw), B.notSynchronized, hK, fun q hq => Or.inr (by rw [← hW.1]; exact hq)⟩
  have hS : va_S (mm_A M0) s.heap s.heap [] := va_S.rf
  obtain ⟨hx, hb, hr, hml, hown, hts, hlocks, hK, hA⟩ := id C
  have hl := lv_entry ([.ref v0, .int v1]) (n := 4) (Nat.le_of_ble_eq_true rfl)
  rw [lg_entry_eq]
  generalize (lg_sl ([.ref v0, .int v1]) ++ List.replicate (4 - (lg_sl ([.ref v0, .int v1])).length) Slot.unset).toArray = ls at hl ⊢
  have hl : lv_has ls 4 [(0, .ref v0), (1, .int v1)] := hl
  unfold f_Line_drop at h
  refine lv_aload_n hx hb d_Line_drop_0 rfl (lv_at hl 0 rfl) ?_
  refine lv_iload_n hx hb d_Line_drop_1 rfl (lv_at hl 1 rfl) ?_
  obtain ⟨_, e9, h⟩ := ob h
  obtain ⟨⟨x8, M8⟩, e8, h⟩ := ob h
  refine mr_ci C hW hS (va_runV (As := [.int v1]) (rest := []) ⟨hx, hb, hml, hown, hts⟩ (c_Line_placeOf l D dA _ _ _ v0 v1 e8) (cwV 1 hts (mg_V q_133 q_134 q_135 q_136 q_42) rfl rfl rfl (by decide +kernel) ⟨Nat.le_of_ble_eq_true rfl, Nat.le_of_ble_eq_true rfl⟩) (mr_preV C hW (ci := 2) rfl e9) rfl rfl hl.1 rfl (lv_room (Nat.le_of_ble_eq_true rfl)) d_Line_drop_2 ⟨Nat.le_of_ble_eq_true rfl, Nat.le_of_ble_eq_true rfl⟩) (fun H locs hW hS => ?_)
  refine lv_istore_n (lv' := [(2, .int x8), (0, .ref v0), (1, .int v1)]) hx hb d_Line_drop_5 rfl hl (by decide) rfl (fun ls hl => ?_)
  refine lv_iload_n hx hb d_Line_drop_6 rfl (lv_at hl 0 rfl) ?_
  refine lv_if_ge (tgt := 12) hx hb d_Line_drop_7 (by decide) (fun c10 => ?_) (fun c10 => ?_)
  · have h := ifp h c10
    refine lv_aload_n hx hb d_Line_drop_12 rfl (lv_at hl 1 rfl) ?_
    refine lv_dup hx hb d_Line_drop_13 rfl ?_
    obtain ⟨x11, e11, h⟩ := ob h
    refine mr_gI C hW k_Line_15 e11 d_Line_drop_14 ?_
    refine lv_iconst (v := 1) hx hb d_Line_drop_17 (by decide) ?_
    refine lv_isub hx hb d_Line_drop_18 ?_
    obtain ⟨M12, e12, h⟩ := ob h
    refine mr_put C hW hS kp_Line_15 rfl rfl e12 d_Line_drop_19 (fun H locs hW hS => ?_)
    refine lv_iload_n hx hb d_Line_drop_22 rfl (lv_at hl 0 rfl) ?_
    refine lv_istore_n (lv' := [(3, .int x8), (2, .int x8), (0, .ref v0), (1, .int v1)]) hx hb d_Line_drop_23 rfl hl (by decide) rfl (fun ls hl => ?_)
    exact w_Line_drop_b24 C FU _ _ _ _ _ _ h hW hS (lv_sub hl [2, 0] rfl)
  · have h := ifn h c10
    refine lv_iconst (v := 0) hx hb d_Line_drop_10 (by decide) ?_
    obtain ⟨_, e13, h⟩ := ob h
    exact mr_zret C hW hS (Nat.le_of_ble_eq_true rfl) (Nat.le_of_ble_eq_true rfl) e13 h d_Line_drop_11
def f_Line_append (v0 : Nat) (v1 : Int32) (M : mm) : Option (Unit × mm) :=
    (gI 2 1 M v0).bind fun x1 =>
    if 100 ≤ x1 then
      some ((), M)
    else
      (gR 2 0 M v0).bind fun x3 =>
      (gI 2 1 M v0).bind fun x4 =>
      (sI v1 M x3 x4).bind fun M5 =>
      (gI 2 1 M5 v0).bind fun x6 =>
      (pF 2 1 (.int (x6 + 1)) M5 v0).bind fun M7 =>
      some ((), M7)
set_option maxHeartbeats 4000000 in
set_option maxRecDepth 100000 in
theorem c_Line_append (l : Launch) (D : va_G) (dA : Nat → ClassId) (M0 M' : mm) (r : Unit) (v0 : Nat) (v1 : Int32) (h : f_Line_append v0 v1 M0 = some (r, M')) : Met l y_Line_append w_Line_append rm_Line_append (mm_Pre D dA M0 [.ref v0, .int v1]) (mm_QV D dA M0 r M') 0 0 (mm_A M0) := by
  refine Met.ofW (cc := b_Line_append) (maxL := 2) (ret := none) (by decide) rfl ?_
  intro p e s m args below meth c s₁ B hml hv
  obtain ⟨rfl, hW, hK⟩ := hv
  have C : mm_C p s m _ meth c b_Line_append 2 none R_Line D dA (mm_A M0) := ⟨B.exec, B.bytes, B.returns, hml, findClass_of_methodNamed B.named, fun w hw => atoms_spec (ws := w_Line_append) B.pre w (List.mem_cons_of_mem _ hw), B.notSynchronized, hK, fun q hq => Or.inr (by rw [← hW.1]; exact hq)⟩
  have hS : va_S (mm_A M0) s.heap s.heap [] := va_S.rf
  obtain ⟨hx, hb, hr, hml, hown, hts, hlocks, hK, hA⟩ := id C
  have hl := lv_entry ([.ref v0, .int v1]) (n := 2) (Nat.le_of_ble_eq_true rfl)
  rw [lg_entry_eq]
  generalize (lg_sl ([.ref v0, .int v1]) ++ List.replicate (2 - (lg_sl ([.ref v0, .int v1])).length) Slot.unset).toArray = ls at hl ⊢
  have hl : lv_has ls 2 [(0, .ref v0), (1, .int v1)] := hl
  unfold f_Line_append at h
  refine lv_aload_n hx hb d_Line_append_0 rfl (lv_at hl 0 rfl) ?_
  obtain ⟨x1, e1, h⟩ := ob h
  refine mr_gI C hW k_Line_15 e1 d_Line_append_1 ?_
  refine lv_bipush (v := 100) hx hb d_Line_append_4 (by decide) ?_
  refine lv_icmp_ge (tgt := 29) hx hb d_Line_append_6 (by decide) (fun c2 => ?_) (fun c2 => ?_)
  · have h := ifp h c2
    exact mr_vret C hW hS (Nat.le_of_ble_eq_true rfl) (Nat.le_of_ble_eq_true rfl) h d_Line_append_29
  · have h := ifn h c2
    refine lv_aload_n hx hb d_Line_append_9 rfl (lv_at hl 0 rfl) ?_
    obtain ⟨x3, e3, h⟩ := ob h
    refine mr_gR C hW k_Line_9 e3 d_Line_append_10 ?_
    refine lv_aload_n hx hb d_Line_append_13 rfl (lv_at hl 0 rfl) ?_
    obtain ⟨x4, e4, h⟩ := ob h
    refine mr_gI C hW k_Line_15 e4 d_Line_append_14 ?_
    refine lv_iload_n hx hb d_Line_append_17 rfl (lv_at hl 1 rfl) ?_
    obtain ⟨M5, e5, h⟩ := ob h
    refine mr_sI C hW hS e5 d_Line_append_18 (fun H locs hW hS => ?_)
    refine lv_aload_n hx hb d_Line_append_19 rfl (lv_at hl 0 rfl) ?_
    refine lv_dup hx hb d_Line_append_20 rfl ?_
    obtain ⟨x6, e6, h⟩ := ob h
    refine mr_gI C hW k_Line_15 e6 d_Line_append_21 ?_
    refine lv_iconst (v := 1) hx hb d_Line_append_24 (by decide) ?_
    refine lv_iadd hx hb d_Line_append_25 ?_
    obtain ⟨M7, e7, h⟩ := ob h
    refine mr_put C hW hS kp_Line_15 rfl rfl e7 d_Line_append_26 (fun H locs hW hS => ?_)
    exact mr_vret C hW hS (Nat.le_of_ble_eq_true rfl) (Nat.le_of_ble_eq_true rfl) h d_Line_append_29
def f_Pack_admitNext (v0 : Nat) (M : mm) : Option (Int32 × mm) :=
    (kO 4 M v0).bind fun _ =>
    (f_Pack_hasPlace v0 M).bind fun (x1, M1) =>
    if x1 = 0 then
      some ((-10), M1)
    else
      (gR 4 3 M1 v0).bind fun x4 =>
      (gI 2 1 M1 x4).bind fun x5 =>
      if x5 = 0 then
        some ((-10), M1)
      else
        (gR 4 3 M1 v0).bind fun x7 =>
        (gR 2 0 M1 x7).bind fun x8 =>
        (aI M1 x8 0).bind fun x9 =>
        (gR 4 3 M1 v0).bind fun x10 =>
        (kO 2 M1 x10).bind fun _ =>
        (f_Line_drop x10 x9 M1).bind fun (x11, M11) =>
        (gR 4 2 M11 v0).bind fun x13 =>
        (kO 2 M11 x13).bind fun _ =>
        (f_Line_append x13 x9 M11).bind fun (_, M14) =>
        some (x9, M14)
set_option maxHeartbeats 4000000 in
set_option maxRecDepth 100000 in
theorem c_Pack_admitNext (l : Launch) (D : va_G) (dA : Nat → ClassId) (M0 M' : mm) (r : Int32) (v0 : Nat) (h : f_Pack_admitNext v0 M0 = some (r, M')) : Met l y_Pack_admitNext w_Pack_admitNext rm_Pack_admitNext (mm_Pre D dA M0 [.ref v0]) (mm_QI D dA M0 r M') 0 0 (mm_A M0) := by
  refine Met.ofW (cc := b_Pack_admitNext) (maxL := 2) (ret := (some .int)) (by decide) rfl ?_
  intro p e s m args below meth c s₁ B hml hv
  obtain ⟨rfl, hW, hK⟩ := hv
  have C : mm_C p s m _ meth c b_Pack_admitNext 2 (some .int) R_Pack D dA (mm_A M0) := ⟨B.exec, B.bytes, B.returns, hml, findClass_of_methodNamed B.named, fun w hw => atoms_spec (ws := w_Pack_admitNext) B.pre w (List.mem_cons_of_mem _ hw), B.notSynchronized, hK, fun q hq => Or.inr (by rw [← hW.1]; exact hq)⟩
  have hS : va_S (mm_A M0) s.heap s.heap [] := va_S.rf
  obtain ⟨hx, hb, hr, hml, hown, hts, hlocks, hK, hA⟩ := id C
  have hl := lv_entry ([.ref v0]) (n := 2) (Nat.le_of_ble_eq_true rfl)
  rw [lg_entry_eq]
  generalize (lg_sl ([.ref v0]) ++ List.replicate (2 - (lg_sl ([.ref v0])).length) Slot.unset).toArray = ls at hl ⊢
  have hl : lv_has ls 2 [(0, .ref v0)] := hl
  unfold f_Pack_admitNext at h
  refine lv_aload_n hx hb d_Pack_admitNext_0 rfl (lv_at hl 0 rfl) ?_
  obtain ⟨_, e2, h⟩ := ob h
  obtain ⟨⟨x1, M1⟩, e1, h⟩ := ob h
  refine mr_ci C hW hS (va_runV (As := []) (rest := []) ⟨hx, hb, hml, hown, hts⟩ (c_Pack_hasPlace l D dA _ _ _ v0 e1) (cwV 0 hts (mg_V q_137 q_138 q_139 q_140 q_52) rfl rfl rfl (by decide +kernel) ⟨Nat.le_of_ble_eq_true rfl, Nat.le_of_ble_eq_true rfl⟩) (mr_preV C hW (ci := 4) rfl e2) rfl rfl hl.1 rfl (lv_room (Nat.le_of_ble_eq_true rfl)) d_Pack_admitNext_1 ⟨Nat.le_of_ble_eq_true rfl, Nat.le_of_ble_eq_true rfl⟩) (fun H locs hW hS => ?_)
  refine lv_if_eq (tgt := 17) hx hb d_Pack_admitNext_4 (by decide) (fun c3 => ?_) (fun c3 => ?_)
  · have h := ifp h c3
    refine lv_bipush (v := (-10)) hx hb d_Pack_admitNext_17 (by decide) ?_
    exact mr_iret C hW hS (Nat.le_of_ble_eq_true rfl) (Nat.le_of_ble_eq_true rfl) h d_Pack_admitNext_19
  · have h := ifn h c3
    refine lv_aload_n hx hb d_Pack_admitNext_7 rfl (lv_at hl 0 rfl) ?_
    obtain ⟨x4, e4, h⟩ := ob h
    refine mr_gR C hW k_Pack_18 e4 d_Pack_admitNext_8 ?_
    obtain ⟨x5, e5, h⟩ := ob h
    refine mr_gI C hW k_Pack_35 e5 d_Pack_admitNext_11 ?_
    refine lv_if_ne (tgt := 20) hx hb d_Pack_admitNext_14 (by decide) (fun c6 => ?_) (fun c6 => ?_)
    · have h := ifn h c6
      refine lv_aload_n hx hb d_Pack_admitNext_20 rfl (lv_at hl 0 rfl) ?_
      obtain ⟨x7, e7, h⟩ := ob h
      refine mr_gR C hW k_Pack_18 e7 d_Pack_admitNext_21 ?_
      obtain ⟨x8, e8, h⟩ := ob h
      refine mr_gR C hW k_Pack_42 e8 d_Pack_admitNext_24 ?_
      refine lv_iconst (v := 0) hx hb d_Pack_admitNext_27 (by decide) ?_
      obtain ⟨x9, e9, h⟩ := ob h
      refine mr_aI C hW e9 d_Pack_admitNext_28 ?_
      refine lv_istore_n (lv' := [(1, .int x9), (0, .ref v0)]) hx hb d_Pack_admitNext_29 rfl hl (by decide) rfl (fun ls hl => ?_)
      refine lv_aload_n hx hb d_Pack_admitNext_30 rfl (lv_at hl 1 rfl) ?_
      obtain ⟨x10, e10, h⟩ := ob h
      refine mr_gR C hW k_Pack_18 e10 d_Pack_admitNext_31 ?_
      refine lv_iload_n hx hb d_Pack_admitNext_34 rfl (lv_at hl 0 rfl) ?_
      obtain ⟨_, e12, h⟩ := ob h
      obtain ⟨⟨x11, M11⟩, e11, h⟩ := ob h
      refine mr_ci C hW hS (va_runV (As := [.int x9]) (rest := []) ⟨hx, hb, hml, hown, hts⟩ (c_Line_drop l D dA _ _ _ x10 x9 e11) (cwV 1 hts (mg_V q_142 q_143 q_144 q_145 q_42) rfl rfl rfl (by decide +kernel) ⟨Nat.le_of_ble_eq_true rfl, Nat.le_of_ble_eq_true rfl⟩) (mr_preV C hW (ci := 2) rfl e12) rfl rfl hl.1 rfl (lv_room (Nat.le_of_ble_eq_true rfl)) d_Pack_admitNext_35 ⟨Nat.le_of_ble_eq_true rfl, Nat.le_of_ble_eq_true rfl⟩) (fun H locs hW hS => ?_)
      refine lv_pop hx hb d_Pack_admitNext_38 rfl ?_
      refine lv_aload_n hx hb d_Pack_admitNext_39 rfl (lv_at hl 1 rfl) ?_
      obtain ⟨x13, e13, h⟩ := ob h
      refine mr_gR C hW k_Pack_12 e13 d_Pack_admitNext_40 ?_
      refine lv_iload_n hx hb d_Pack_admitNext_43 rfl (lv_at hl 0 rfl) ?_
      obtain ⟨_, e15, h⟩ := ob h
      obtain ⟨⟨u14, M14⟩, e14, h⟩ := ob h
      refine mr_cv C hW hS (va_runV (As := [.int x9]) (rest := []) ⟨hx, hb, hml, hown, hts⟩ (c_Line_append l D dA _ _ _ x13 x9 e14) (cwV 1 hts (mg_V q_146 q_147 q_148 q_149 q_42) rfl rfl rfl (by decide +kernel) ⟨Nat.le_of_ble_eq_true rfl, Nat.le_of_ble_eq_true rfl⟩) (mr_preV C hW (ci := 2) rfl e15) rfl rfl hl.1 rfl (lv_room (Nat.le_of_ble_eq_true rfl)) d_Pack_admitNext_44 ⟨Nat.le_of_ble_eq_true rfl, Nat.le_of_ble_eq_true rfl⟩) (fun H locs hW hS => ?_)
      refine lv_iload_n hx hb d_Pack_admitNext_47 rfl (lv_at hl 0 rfl) ?_
      exact mr_iret C hW hS (Nat.le_of_ble_eq_true rfl) (Nat.le_of_ble_eq_true rfl) h d_Pack_admitNext_48
    · have h := ifp h c6
      refine lv_bipush (v := (-10)) hx hb d_Pack_admitNext_17 (by decide) ?_
      exact mr_iret C hW hS (Nat.le_of_ble_eq_true rfl) (Nat.le_of_ble_eq_true rfl) h d_Pack_admitNext_19
def f_Line_holds (v0 : Nat) (v1 : Int32) (M : mm) : Option (Int32 × mm) :=
    (kO 2 M v0).bind fun _ =>
    (f_Line_placeOf v0 v1 M).bind fun (x1, M1) =>
    if x1 < 0 then
      (kB 0).bind fun _ =>
      some (0, M1)
    else
      (kB 1).bind fun _ =>
      some (1, M1)
set_option maxHeartbeats 4000000 in
set_option maxRecDepth 100000 in
theorem c_Line_holds (l : Launch) (D : va_G) (dA : Nat → ClassId) (M0 M' : mm) (r : Int32) (v0 : Nat) (v1 : Int32) (h : f_Line_holds v0 v1 M0 = some (r, M')) : Met l y_Line_holds w_Line_holds rm_Line_holds (mm_Pre D dA M0 [.ref v0, .int v1]) (mm_QI D dA M0 r M') 0 0 (mm_A M0) := by
  refine Met.ofW (cc := b_Line_holds) (maxL := 2) (ret := (some .boolean)) (by decide) rfl ?_
  intro p e s m args below meth c s₁ B hml hv
  obtain ⟨rfl, hW, hK⟩ := hv
  have C : mm_C p s m _ meth c b_Line_holds 2 (some .boolean) R_Line D dA (mm_A M0) := ⟨B.exec, B.bytes, B.returns, hml, findClass_of_methodNamed B.named, fun w hw => atoms_spec (ws := w_Line_holds) B.pre w (List.mem_cons_of_mem _ hw), B.notSynchronized, hK, fun q hq => Or.inr (by rw [← hW.1]; exact hq)⟩
  have hS : va_S (mm_A M0) s.heap s.heap [] := va_S.rf
  obtain ⟨hx, hb, hr, hml, hown, hts, hlocks, hK, hA⟩ := id C
  have hl := lv_entry ([.ref v0, .int v1]) (n := 2) (Nat.le_of_ble_eq_true rfl)
  rw [lg_entry_eq]
  generalize (lg_sl ([.ref v0, .int v1]) ++ List.replicate (2 - (lg_sl ([.ref v0, .int v1])).length) Slot.unset).toArray = ls at hl ⊢
  have hl : lv_has ls 2 [(0, .ref v0), (1, .int v1)] := hl
  unfold f_Line_holds at h
  refine lv_aload_n hx hb d_Line_holds_0 rfl (lv_at hl 0 rfl) ?_
  refine lv_iload_n hx hb d_Line_holds_1 rfl (lv_at hl 1 rfl) ?_
  obtain ⟨_, e2, h⟩ := ob h
  obtain ⟨⟨x1, M1⟩, e1, h⟩ := ob h
  refine mr_ci C hW hS (va_runV (As := [.int v1]) (rest := []) ⟨hx, hb, hml, hown, hts⟩ (c_Line_placeOf l D dA _ _ _ v0 v1 e1) (cwV 1 hts (mg_V q_133 q_134 q_135 q_136 q_42) rfl rfl rfl (by decide +kernel) ⟨Nat.le_of_ble_eq_true rfl, Nat.le_of_ble_eq_true rfl⟩) (mr_preV C hW (ci := 2) rfl e2) rfl rfl hl.1 rfl (lv_room (Nat.le_of_ble_eq_true rfl)) d_Line_holds_2 ⟨Nat.le_of_ble_eq_true rfl, Nat.le_of_ble_eq_true rfl⟩) (fun H locs hW hS => ?_)
  refine lv_if_lt (tgt := 12) hx hb d_Line_holds_5 (by decide) (fun c3 => ?_) (fun c3 => ?_)
  · have h := ifp h c3
    refine lv_iconst (v := 0) hx hb d_Line_holds_12 (by decide) ?_
    obtain ⟨_, e4, h⟩ := ob h
    exact mr_zret C hW hS (Nat.le_of_ble_eq_true rfl) (Nat.le_of_ble_eq_true rfl) e4 h d_Line_holds_13
  · have h := ifn h c3
    refine lv_iconst (v := 1) hx hb d_Line_holds_8 (by decide) ?_
    refine lv_goto (tgt := 13) hx hb d_Line_holds_9 (by decide) ?_
    obtain ⟨_, e5, h⟩ := ob h
    exact mr_zret C hW hS (Nat.le_of_ble_eq_true rfl) (Nat.le_of_ble_eq_true rfl) e5 h d_Line_holds_13
def f_Pack_hasEndedBy (v0 : Nat) (v1 : Int32) (M : mm) : Option (Int32 × mm) :=
    (gI 4 5 M v0).bind fun x1 =>
    if x1 = ((-1)) then
      (kB 0).bind fun _ =>
      some (0, M)
    else
      (gI 4 5 M v0).bind fun x4 =>
      if v1 < x4 then
        (kB 0).bind fun _ =>
        some (0, M)
      else
        (kB 1).bind fun _ =>
        some (1, M)
set_option maxHeartbeats 4000000 in
set_option maxRecDepth 100000 in
theorem c_Pack_hasEndedBy (l : Launch) (D : va_G) (dA : Nat → ClassId) (M0 M' : mm) (r : Int32) (v0 : Nat) (v1 : Int32) (h : f_Pack_hasEndedBy v0 v1 M0 = some (r, M')) : Met l y_Pack_hasEndedBy w_Pack_hasEndedBy rm_Pack_hasEndedBy (mm_Pre D dA M0 [.ref v0, .int v1]) (mm_QI D dA M0 r M') 0 0 (mm_A M0) := by
  refine Met.ofW (cc := b_Pack_hasEndedBy) (maxL := 2) (ret := (some .boolean)) (by decide) rfl ?_
  intro p e s m args below meth c s₁ B hml hv
  obtain ⟨rfl, hW, hK⟩ := hv
  have C : mm_C p s m _ meth c b_Pack_hasEndedBy 2 (some .boolean) R_Pack D dA (mm_A M0) := ⟨B.exec, B.bytes, B.returns, hml, findClass_of_methodNamed B.named, fun w hw => atoms_spec (ws := w_Pack_hasEndedBy) B.pre w (List.mem_cons_of_mem _ hw), B.notSynchronized, hK, fun q hq => Or.inr (by rw [← hW.1]; exact hq)⟩
  have hS : va_S (mm_A M0) s.heap s.heap [] := va_S.rf
  obtain ⟨hx, hb, hr, hml, hown, hts, hlocks, hK, hA⟩ := id C
  have hl := lv_entry ([.ref v0, .int v1]) (n := 2) (Nat.le_of_ble_eq_true rfl)
  rw [lg_entry_eq]
  generalize (lg_sl ([.ref v0, .int v1]) ++ List.replicate (2 - (lg_sl ([.ref v0, .int v1])).length) Slot.unset).toArray = ls at hl ⊢
  have hl : lv_has ls 2 [(0, .ref v0), (1, .int v1)] := hl
  unfold f_Pack_hasEndedBy at h
  refine lv_aload_n hx hb d_Pack_hasEndedBy_0 rfl (lv_at hl 0 rfl) ?_
  obtain ⟨x1, e1, h⟩ := ob h
  refine mr_gI C hW k_Pack_25 e1 d_Pack_hasEndedBy_1 ?_
  refine lv_iconst (v := (-1)) hx hb d_Pack_hasEndedBy_4 (by decide) ?_
  refine lv_icmp_eq (tgt := 20) hx hb d_Pack_hasEndedBy_5 (by decide) (fun c2 => ?_) (fun c2 => ?_)
  · have h := ifp h c2
    refine lv_iconst (v := 0) hx hb d_Pack_hasEndedBy_20 (by decide) ?_
    obtain ⟨_, e3, h⟩ := ob h
    exact mr_zret C hW hS (Nat.le_of_ble_eq_true rfl) (Nat.le_of_ble_eq_true rfl) e3 h d_Pack_hasEndedBy_21
  · have h := ifn h c2
    refine lv_aload_n hx hb d_Pack_hasEndedBy_8 rfl (lv_at hl 0 rfl) ?_
    obtain ⟨x4, e4, h⟩ := ob h
    refine mr_gI C hW k_Pack_25 e4 d_Pack_hasEndedBy_9 ?_
    refine lv_iload_n hx hb d_Pack_hasEndedBy_12 rfl (lv_at hl 1 rfl) ?_
    refine lv_icmp_gt (tgt := 20) hx hb d_Pack_hasEndedBy_13 (by decide) (fun c5 => ?_) (fun c5 => ?_)
    · have h := ifp h c5
      refine lv_iconst (v := 0) hx hb d_Pack_hasEndedBy_20 (by decide) ?_
      obtain ⟨_, e6, h⟩ := ob h
      exact mr_zret C hW hS (Nat.le_of_ble_eq_true rfl) (Nat.le_of_ble_eq_true rfl) e6 h d_Pack_hasEndedBy_21
    · have h := ifn h c5
      refine lv_iconst (v := 1) hx hb d_Pack_hasEndedBy_16 (by decide) ?_
      refine lv_goto (tgt := 21) hx hb d_Pack_hasEndedBy_17 (by decide) ?_
      obtain ⟨_, e7, h⟩ := ob h
      exact mr_zret C hW hS (Nat.le_of_ble_eq_true rfl) (Nat.le_of_ble_eq_true rfl) e7 h d_Pack_hasEndedBy_21
def f_Pack_keepsDay (v0 : Nat) (v1 : Int32) (M : mm) : Option (Int32 × mm) :=
    (gI 4 1 M v0).bind fun x1 =>
    if x1 = 0 then
      (kB 0).bind fun _ =>
      some (0, M)
    else
      (gI 4 5 M v0).bind fun x4 =>
      if x4 ≤ v1 then
        (kB 0).bind fun _ =>
        some (0, M)
      else
        (kB 1).bind fun _ =>
        some (1, M)
set_option maxHeartbeats 4000000 in
set_option maxRecDepth 100000 in
theorem c_Pack_keepsDay (l : Launch) (D : va_G) (dA : Nat → ClassId) (M0 M' : mm) (r : Int32) (v0 : Nat) (v1 : Int32) (h : f_Pack_keepsDay v0 v1 M0 = some (r, M')) : Met l y_Pack_keepsDay w_Pack_keepsDay rm_Pack_keepsDay (mm_Pre D dA M0 [.ref v0, .int v1]) (mm_QI D dA M0 r M') 0 0 (mm_A M0) := by
  refine Met.ofW (cc := b_Pack_keepsDay) (maxL := 2) (ret := (some .boolean)) (by decide) rfl ?_
  intro p e s m args below meth c s₁ B hml hv
  obtain ⟨rfl, hW, hK⟩ := hv
  have C : mm_C p s m _ meth c b_Pack_keepsDay 2 (some .boolean) R_Pack D dA (mm_A M0) := ⟨B.exec, B.bytes, B.returns, hml, findClass_of_methodNamed B.named, fun w hw => atoms_spec (ws := w_Pack_keepsDay) B.pre w (List.mem_cons_of_mem _ hw), B.notSynchronized, hK, fun q hq => Or.inr (by rw [← hW.1]; exact hq)⟩
  have hS : va_S (mm_A M0) s.heap s.heap [] := va_S.rf
  obtain ⟨hx, hb, hr, hml, hown, hts, hlocks, hK, hA⟩ := id C
  have hl := lv_entry ([.ref v0, .int v1]) (n := 2) (Nat.le_of_ble_eq_true rfl)
  rw [lg_entry_eq]
  generalize (lg_sl ([.ref v0, .int v1]) ++ List.replicate (2 - (lg_sl ([.ref v0, .int v1])).length) Slot.unset).toArray = ls at hl ⊢
  have hl : lv_has ls 2 [(0, .ref v0), (1, .int v1)] := hl
  unfold f_Pack_keepsDay at h
  refine lv_aload_n hx hb d_Pack_keepsDay_0 rfl (lv_at hl 0 rfl) ?_
  obtain ⟨x1, e1, h⟩ := ob h
  refine mr_gI C hW k_Pack_31 e1 d_Pack_keepsDay_1 ?_
  refine lv_if_eq (tgt := 19) hx hb d_Pack_keepsDay_4 (by decide) (fun c2 => ?_) (fun c2 => ?_)
  · have h := ifp h c2
    refine lv_iconst (v := 0) hx hb d_Pack_keepsDay_19 (by decide) ?_
    obtain ⟨_, e3, h⟩ := ob h
    exact mr_zret C hW hS (Nat.le_of_ble_eq_true rfl) (Nat.le_of_ble_eq_true rfl) e3 h d_Pack_keepsDay_20
  · have h := ifn h c2
    refine lv_iload_n hx hb d_Pack_keepsDay_7 rfl (lv_at hl 1 rfl) ?_
    refine lv_aload_n hx hb d_Pack_keepsDay_8 rfl (lv_at hl 0 rfl) ?_
    obtain ⟨x4, e4, h⟩ := ob h
    refine mr_gI C hW k_Pack_25 e4 d_Pack_keepsDay_9 ?_
    refine lv_icmp_ge (tgt := 19) hx hb d_Pack_keepsDay_12 (by decide) (fun c5 => ?_) (fun c5 => ?_)
    · have h := ifp h c5
      refine lv_iconst (v := 0) hx hb d_Pack_keepsDay_19 (by decide) ?_
      obtain ⟨_, e6, h⟩ := ob h
      exact mr_zret C hW hS (Nat.le_of_ble_eq_true rfl) (Nat.le_of_ble_eq_true rfl) e6 h d_Pack_keepsDay_20
    · have h := ifn h c5
      refine lv_iconst (v := 1) hx hb d_Pack_keepsDay_15 (by decide) ?_
      refine lv_goto (tgt := 20) hx hb d_Pack_keepsDay_16 (by decide) ?_
      obtain ⟨_, e7, h⟩ := ob h
      exact mr_zret C hW hS (Nat.le_of_ble_eq_true rfl) (Nat.le_of_ble_eq_true rfl) e7 h d_Pack_keepsDay_20
def f_Title_covers_b2 : Nat → Nat → Int32 → Int32 → mm → Option (Int32 × mm)
  | 0, _, _, _, _ => none
  | n + 1, v0, v1, v2, M =>
    (gI 6 6 M v0).bind fun x1 =>
    if x1 ≤ v2 then
      (kB 0).bind fun _ =>
      some (0, M)
    else
      (gR 6 4 M v0).bind fun x4 =>
      (aI M x4 v2).bind fun x5 =>
      if v1 < x5 then
        f_Title_covers_b2 n v0 v1 (v2 + 1) M
      else
        (gR 6 5 M v0).bind fun x7 =>
        (aI M x7 v2).bind fun x8 =>
        if x8 < v1 then
          f_Title_covers_b2 n v0 v1 (v2 + 1) M
        else
          (kB 1).bind fun _ =>
          some (1, M)
def f_Title_covers (v0 : Nat) (v1 : Int32) (M : mm) : Option (Int32 × mm) :=
    f_Title_covers_b2 FU v0 v1 0 M
set_option maxHeartbeats 4000000 in
set_option maxRecDepth 100000 in
theorem w_Title_covers_b2 {p : Program} {l : Launch} {e : Env} {s : State} {m : MethodId} {args : Array Value} {below : List Frame} {meth : Method} {c : Code} {D : va_G} {dA : Nat → ClassId} {M0 M' : mm} {r : Int32} (C : mm_C p s m args meth c b_Title_covers 3 (some .boolean) R_Title D dA (mm_A M0)) : ∀ (n : Nat), ∀ (v0 : Nat) (v1 : Int32) (v2 : Int32) (M : mm) (H : Heap) (locs : List Loc) (ls : Array Slot), f_Title_covers_b2 n v0 v1 v2 M = some (r, M') → mm_W D dA (mm_A M0) M H → va_S (mm_A M0) s.heap H locs → lv_has ls 3 [(0, .ref v0), (1, .int v1), (2, .int v2)] → W p l e rm_Title_covers s m args below meth c H locs 0 0 (MQ below (mm_QI D dA M0 r M') args s 0 0 (mm_A M0)) (F0 m 2 ls []) := by
  obtain ⟨hx, hb, hr, hml, hown, hts, hlocks, hK, hA⟩ := id C
  intro n
  induction n with
  | zero =>
    intro v0 v1 v2 M H locs ls h hW hS hl
    unfold f_Title_covers_b2 at h
    cases h
  | succ n ih =>
    intro v0 v1 v2 M H locs ls h hW hS hl
    unfold f_Title_covers_b2 at h
    refine lv_iload_n hx hb d_Title_covers_2 rfl (lv_at hl 2 rfl) ?_
    refine lv_aload_n hx hb d_Title_covers_3 rfl (lv_at hl 0 rfl) ?_
    obtain ⟨x1, e1, h⟩ := ob h
    refine mr_gI C hW k_Title_26 e1 d_Title_covers_4 ?_
    refine lv_icmp_ge (tgt := 38) hx hb d_Title_covers_7 (by decide) (fun c2 => ?_) (fun c2 => ?_)
    · have h := ifp h c2
      refine lv_iconst (v := 0) hx hb d_Title_covers_38 (by decide) ?_
      obtain ⟨_, e3, h⟩ := ob h
      exact mr_zret C hW hS (Nat.le_of_ble_eq_true rfl) (Nat.le_of_ble_eq_true rfl) e3 h d_Title_covers_39
    · have h := ifn h c2
      refine lv_aload_n hx hb d_Title_covers_10 rfl (lv_at hl 0 rfl) ?_
      obtain ⟨x4, e4, h⟩ := ob h
      refine mr_gR C hW k_Title_19 e4 d_Title_covers_11 ?_
      refine lv_iload_n hx hb d_Title_covers_14 rfl (lv_at hl 2 rfl) ?_
      obtain ⟨x5, e5, h⟩ := ob h
      refine mr_aI C hW e5 d_Title_covers_15 ?_
      refine lv_iload_n hx hb d_Title_covers_16 rfl (lv_at hl 1 rfl) ?_
      refine lv_icmp_gt (tgt := 32) hx hb d_Title_covers_17 (by decide) (fun c6 => ?_) (fun c6 => ?_)
      · have h := ifp h c6
        refine lv_iinc (v := v2 + 1) (lv' := [(2, .int (v2 + 1)), (0, .ref v0), (1, .int v1)]) hx hb d_Title_covers_32 hl (k := 2) rfl rfl (by decide) rfl (fun ls hl => ?_)
        refine lv_goto (tgt := 2) hx hb d_Title_covers_35 (by decide) ?_
        exact ih _ _ _ _ _ _ _ h hW hS (lv_sub hl [1, 2, 0] rfl)
      · have h := ifn h c6
        refine lv_iload_n hx hb d_Title_covers_20 rfl (lv_at hl 1 rfl) ?_
        refine lv_aload_n hx hb d_Title_covers_21 rfl (lv_at hl 0 rfl) ?_
        obtain ⟨x7, e7, h⟩ := ob h
        refine mr_gR C hW k_Title_23 e7 d_Title_covers_22 ?_
        refine lv_iload_n hx hb d_Title_covers_25 rfl (lv_at hl 2 rfl) ?_
        obtain ⟨x8, e8, h⟩ := ob h
        refine mr_aI C hW e8 d_Title_covers_26 ?_
        refine lv_icmp_gt (tgt := 32) hx hb d_Title_covers_27 (by decide) (fun c9 => ?_) (fun c9 => ?_)
        · have h := ifp h c9
          refine lv_iinc (v := v2 + 1) (lv' := [(2, .int (v2 + 1)), (0, .ref v0), (1, .int v1)]) hx hb d_Title_covers_32 hl (k := 2) rfl rfl (by decide) rfl (fun ls hl => ?_)
          refine lv_goto (tgt := 2) hx hb d_Title_covers_35 (by decide) ?_
          exact ih _ _ _ _ _ _ _ h hW hS (lv_sub hl [1, 2, 0] rfl)
        · have h := ifn h c9
          refine lv_iconst (v := 1) hx hb d_Title_covers_30 (by decide) ?_
          obtain ⟨_, e10, h⟩ := ob h
          exact mr_zret C hW hS (Nat.le_of_ble_eq_true rfl) (Nat.le_of_ble_eq_true rfl) e10 h d_Title_covers_31
set_option maxHeartbeats 4000000 in
set_option maxRecDepth 100000 in
theorem c_Title_covers (l : Launch) (D : va_G) (dA : Nat → ClassId) (M0 M' : mm) (r : Int32) (v0 : Nat) (v1 : Int32) (h : f_Title_covers v0 v1 M0 = some (r, M')) : Met l y_Title_covers w_Title_covers rm_Title_covers (mm_Pre D dA M0 [.ref v0, .int v1]) (mm_QI D dA M0 r M') 0 0 (mm_A M0) := by
  refine Met.ofW (cc := b_Title_covers) (maxL := 3) (ret := (some .boolean)) (by decide) rfl ?_
  intro p e s m args below meth c s₁ B hml hv
  obtain ⟨rfl, hW, hK⟩ := hv
  have C : mm_C p s m _ meth c b_Title_covers 3 (some .boolean) R_Title D dA (mm_A M0) := ⟨B.exec, B.bytes, B.returns, hml, findClass_of_methodNamed B.named, fun w hw => atoms_spec (ws := w_Title_covers) B.pre w (List.mem_cons_of_mem _ hw), B.notSynchronized, hK, fun q hq => Or.inr (by rw [← hW.1]; exact hq)⟩
  have hS : va_S (mm_A M0) s.heap s.heap [] := va_S.rf
  obtain ⟨hx, hb, hr, hml, hown, hts, hlocks, hK, hA⟩ := id C
  have hl := lv_entry ([.ref v0, .int v1]) (n := 3) (Nat.le_of_ble_eq_true rfl)
  rw [lg_entry_eq]
  generalize (lg_sl ([.ref v0, .int v1]) ++ List.replicate (3 - (lg_sl ([.ref v0, .int v1])).length) Slot.unset).toArray = ls at hl ⊢
  have hl : lv_has ls 3 [(0, .ref v0), (1, .int v1)] := hl
  unfold f_Title_covers at h
  refine lv_iconst (v := 0) hx hb d_Title_covers_0 (by decide) ?_
  refine lv_istore_n (lv' := [(2, .int 0), (0, .ref v0), (1, .int v1)]) hx hb d_Title_covers_1 rfl hl (by decide) rfl (fun ls hl => ?_)
  exact w_Title_covers_b2 C FU _ _ _ _ _ _ _ h hW hS (lv_sub hl [1, 2, 0] rfl)
def f_Usages_ofReaderIn_b5 : Nat → Nat → Int32 → Int32 → Int32 → Int32 → mm → Option (Int32 × mm)
  | 0, _, _, _, _, _, _ => none
  | n + 1, v0, v1, v2, v3, v4, M =>
    (gI 7 3 M v0).bind fun x1 =>
    if x1 ≤ v4 then
      some (v3, M)
    else
      (gR 7 0 M v0).bind fun x3 =>
      (aI M x3 v4).bind fun x4 =>
      if x4 = v1 then
        (gR 7 2 M v0).bind fun x6 =>
        (aI M x6 v4).bind fun x7 =>
        if x7 = v2 then
          f_Usages_ofReaderIn_b5 n v0 v1 v2 (v3 + 1) (v4 + 1) M
        else
          f_Usages_ofReaderIn_b5 n v0 v1 v2 v3 (v4 + 1) M
      else
        f_Usages_ofReaderIn_b5 n v0 v1 v2 v3 (v4 + 1) M
def f_Usages_ofReaderIn (v0 : Nat) (v1 : Int32) (v2 : Int32) (M : mm) : Option (Int32 × mm) :=
    f_Usages_ofReaderIn_b5 FU v0 v1 v2 0 0 M
set_option maxHeartbeats 4000000 in
set_option maxRecDepth 100000 in
theorem w_Usages_ofReaderIn_b5 {p : Program} {l : Launch} {e : Env} {s : State} {m : MethodId} {args : Array Value} {below : List Frame} {meth : Method} {c : Code} {D : va_G} {dA : Nat → ClassId} {M0 M' : mm} {r : Int32} (C : mm_C p s m args meth c b_Usages_ofReaderIn 5 (some .int) R_Usages D dA (mm_A M0)) : ∀ (n : Nat), ∀ (v0 : Nat) (v1 : Int32) (v2 : Int32) (v3 : Int32) (v4 : Int32) (M : mm) (H : Heap) (locs : List Loc) (ls : Array Slot), f_Usages_ofReaderIn_b5 n v0 v1 v2 v3 v4 M = some (r, M') → mm_W D dA (mm_A M0) M H → va_S (mm_A M0) s.heap H locs → lv_has ls 5 [(0, .ref v0), (1, .int v1), (2, .int v2), (3, .int v3), (4, .int v4)] → W p l e rm_Usages_ofReaderIn s m args below meth c H locs 0 0 (MQ below (mm_QI D dA M0 r M') args s 0 0 (mm_A M0)) (F0 m 5 ls []) := by
  obtain ⟨hx, hb, hr, hml, hown, hts, hlocks, hK, hA⟩ := id C
  intro n
  induction n with
  | zero =>
    intro v0 v1 v2 v3 v4 M H locs ls h hW hS hl
    unfold f_Usages_ofReaderIn_b5 at h
    cases h
  | succ n ih =>
    intro v0 v1 v2 v3 v4 M H locs ls h hW hS hl
    unfold f_Usages_ofReaderIn_b5 at h
    refine lv_iload hx hb d_Usages_ofReaderIn_5 (lv_at hl 4 rfl) ?_
    refine lv_aload_n hx hb d_Usages_ofReaderIn_7 rfl (lv_at hl 0 rfl) ?_
    obtain ⟨x1, e1, h⟩ := ob h
    refine mr_gI C hW k_Usages_21 e1 d_Usages_ofReaderIn_8 ?_
    refine lv_icmp_ge (tgt := 45) hx hb d_Usages_ofReaderIn_11 (by decide) (fun c2 => ?_) (fun c2 => ?_)
    · have h := ifp h c2
      refine lv_iload_n hx hb d_Usages_ofReaderIn_45 rfl (lv_at hl 3 rfl) ?_
      exact mr_iret C hW hS (Nat.le_of_ble_eq_true rfl) (Nat.le_of_ble_eq_true rfl) h d_Usages_ofReaderIn_46
    · have h := ifn h c2
      refine lv_aload_n hx hb d_Usages_ofReaderIn_14 rfl (lv_at hl 0 rfl) ?_
      obtain ⟨x3, e3, h⟩ := ob h
      refine mr_gR C hW k_Usages_9 e3 d_Usages_ofReaderIn_15 ?_
      refine lv_iload hx hb d_Usages_ofReaderIn_18 (lv_at hl 4 rfl) ?_
      obtain ⟨x4, e4, h⟩ := ob h
      refine mr_aI C hW e4 d_Usages_ofReaderIn_20 ?_
      refine lv_iload_n hx hb d_Usages_ofReaderIn_21 rfl (lv_at hl 1 rfl) ?_
      refine lv_icmp_ne (tgt := 39) hx hb d_Usages_ofReaderIn_22 (by decide) (fun c5 => ?_) (fun c5 => ?_)
      · have h := ifn h c5
        refine lv_iinc (v := v4 + 1) (lv' := [(4, .int (v4 + 1)), (0, .ref v0), (1, .int v1), (2, .int v2), (3, .int v3)]) hx hb d_Usages_ofReaderIn_39 hl (k := 4) rfl rfl (by decide) rfl (fun ls hl => ?_)
        refine lv_goto (tgt := 5) hx hb d_Usages_ofReaderIn_42 (by decide) ?_
        exact ih _ _ _ _ _ _ _ _ _ h hW hS (lv_sub hl [1, 2, 3, 4, 0] rfl)
      · have h := ifp h c5
        refine lv_aload_n hx hb d_Usages_ofReaderIn_25 rfl (lv_at hl 0 rfl) ?_
        obtain ⟨x6, e6, h⟩ := ob h
        refine mr_gR C hW k_Usages_18 e6 d_Usages_ofReaderIn_26 ?_
        refine lv_iload hx hb d_Usages_ofReaderIn_29 (lv_at hl 4 rfl) ?_
        obtain ⟨x7, e7, h⟩ := ob h
        refine mr_aI C hW e7 d_Usages_ofReaderIn_31 ?_
        refine lv_iload_n hx hb d_Usages_ofReaderIn_32 rfl (lv_at hl 2 rfl) ?_
        refine lv_icmp_ne (tgt := 39) hx hb d_Usages_ofReaderIn_33 (by decide) (fun c8 => ?_) (fun c8 => ?_)
        · have h := ifn h c8
          refine lv_iinc (v := v4 + 1) (lv' := [(4, .int (v4 + 1)), (0, .ref v0), (1, .int v1), (2, .int v2), (3, .int v3)]) hx hb d_Usages_ofReaderIn_39 hl (k := 4) rfl rfl (by decide) rfl (fun ls hl => ?_)
          refine lv_goto (tgt := 5) hx hb d_Usages_ofReaderIn_42 (by decide) ?_
          exact ih _ _ _ _ _ _ _ _ _ h hW hS (lv_sub hl [1, 2, 3, 4, 0] rfl)
        · have h := ifp h c8
          refine lv_iinc (v := v3 + 1) (lv' := [(3, .int (v3 + 1)), (0, .ref v0), (1, .int v1), (2, .int v2), (4, .int v4)]) hx hb d_Usages_ofReaderIn_36 hl (k := 3) rfl rfl (by decide) rfl (fun ls hl => ?_)
          refine lv_iinc (v := v4 + 1) (lv' := [(4, .int (v4 + 1)), (3, .int (v3 + 1)), (0, .ref v0), (1, .int v1), (2, .int v2)]) hx hb d_Usages_ofReaderIn_39 hl (k := 4) rfl rfl (by decide) rfl (fun ls hl => ?_)
          refine lv_goto (tgt := 5) hx hb d_Usages_ofReaderIn_42 (by decide) ?_
          exact ih _ _ _ _ _ _ _ _ _ h hW hS (lv_sub hl [2, 3, 4, 1, 0] rfl)
set_option maxHeartbeats 4000000 in
set_option maxRecDepth 100000 in
theorem c_Usages_ofReaderIn (l : Launch) (D : va_G) (dA : Nat → ClassId) (M0 M' : mm) (r : Int32) (v0 : Nat) (v1 : Int32) (v2 : Int32) (h : f_Usages_ofReaderIn v0 v1 v2 M0 = some (r, M')) : Met l y_Usages_ofReaderIn w_Usages_ofReaderIn rm_Usages_ofReaderIn (mm_Pre D dA M0 [.ref v0, .int v1, .int v2]) (mm_QI D dA M0 r M') 0 0 (mm_A M0) := by
  refine Met.ofW (cc := b_Usages_ofReaderIn) (maxL := 5) (ret := (some .int)) (by decide) rfl ?_
  intro p e s m args below meth c s₁ B hml hv
  obtain ⟨rfl, hW, hK⟩ := hv
  have C : mm_C p s m _ meth c b_Usages_ofReaderIn 5 (some .int) R_Usages D dA (mm_A M0) := ⟨B.exec, B.bytes, B.returns, hml, findClass_of_methodNamed B.named, fun w hw => atoms_spec (ws := w_Usages_ofReaderIn) B.pre w (List.mem_cons_of_mem _ hw), B.notSynchronized, hK, fun q hq => Or.inr (by rw [← hW.1]; exact hq)⟩
  have hS : va_S (mm_A M0) s.heap s.heap [] := va_S.rf
  obtain ⟨hx, hb, hr, hml, hown, hts, hlocks, hK, hA⟩ := id C
  have hl := lv_entry ([.ref v0, .int v1, .int v2]) (n := 5) (Nat.le_of_ble_eq_true rfl)
  rw [lg_entry_eq]
  generalize (lg_sl ([.ref v0, .int v1, .int v2]) ++ List.replicate (5 - (lg_sl ([.ref v0, .int v1, .int v2])).length) Slot.unset).toArray = ls at hl ⊢
  have hl : lv_has ls 5 [(0, .ref v0), (1, .int v1), (2, .int v2)] := hl
  unfold f_Usages_ofReaderIn at h
  refine lv_iconst (v := 0) hx hb d_Usages_ofReaderIn_0 (by decide) ?_
  refine lv_istore_n (lv' := [(3, .int 0), (0, .ref v0), (1, .int v1), (2, .int v2)]) hx hb d_Usages_ofReaderIn_1 rfl hl (by decide) rfl (fun ls hl => ?_)
  refine lv_iconst (v := 0) hx hb d_Usages_ofReaderIn_2 (by decide) ?_
  refine lv_istore (lv' := [(4, .int 0), (3, .int 0), (0, .ref v0), (1, .int v1), (2, .int v2)]) hx hb d_Usages_ofReaderIn_3 hl (by decide) rfl (fun ls hl => ?_)
  exact w_Usages_ofReaderIn_b5 C FU _ _ _ _ _ _ _ _ _ h hW hS (lv_sub hl [2, 3, 4, 1, 0] rfl)
def f_Notices_append (v0 : Nat) (v1 : Int32) (v2 : Int32) (M : mm) : Option (Unit × mm) :=
    (gI 3 2 M v0).bind fun x1 =>
    if 100 ≤ x1 then
      some ((), M)
    else
      (gR 3 0 M v0).bind fun x3 =>
      (gI 3 2 M v0).bind fun x4 =>
      (sI v1 M x3 x4).bind fun M5 =>
      (gR 3 1 M5 v0).bind fun x6 =>
      (gI 3 2 M5 v0).bind fun x7 =>
      (sI v2 M5 x6 x7).bind fun M8 =>
      (gI 3 2 M8 v0).bind fun x9 =>
      (pF 3 2 (.int (x9 + 1)) M8 v0).bind fun M10 =>
      some ((), M10)
set_option maxHeartbeats 4000000 in
set_option maxRecDepth 100000 in
theorem c_Notices_append (l : Launch) (D : va_G) (dA : Nat → ClassId) (M0 M' : mm) (r : Unit) (v0 : Nat) (v1 : Int32) (v2 : Int32) (h : f_Notices_append v0 v1 v2 M0 = some (r, M')) : Met l y_Notices_append w_Notices_append rm_Notices_append (mm_Pre D dA M0 [.ref v0, .int v1, .int v2]) (mm_QV D dA M0 r M') 0 0 (mm_A M0) := by
  refine Met.ofW (cc := b_Notices_append) (maxL := 3) (ret := none) (by decide) rfl ?_
  intro p e s m args below meth c s₁ B hml hv
  obtain ⟨rfl, hW, hK⟩ := hv
  have C : mm_C p s m _ meth c b_Notices_append 3 none R_Notices D dA (mm_A M0) := ⟨B.exec, B.bytes, B.returns, hml, findClass_of_methodNamed B.named, fun w hw => atoms_spec (ws := w_Notices_append) B.pre w (List.mem_cons_of_mem _ hw), B.notSynchronized, hK, fun q hq => Or.inr (by rw [← hW.1]; exact hq)⟩
  have hS : va_S (mm_A M0) s.heap s.heap [] := va_S.rf
  obtain ⟨hx, hb, hr, hml, hown, hts, hlocks, hK, hA⟩ := id C
  have hl := lv_entry ([.ref v0, .int v1, .int v2]) (n := 3) (Nat.le_of_ble_eq_true rfl)
  rw [lg_entry_eq]
  generalize (lg_sl ([.ref v0, .int v1, .int v2]) ++ List.replicate (3 - (lg_sl ([.ref v0, .int v1, .int v2])).length) Slot.unset).toArray = ls at hl ⊢
  have hl : lv_has ls 3 [(0, .ref v0), (1, .int v1), (2, .int v2)] := hl
  unfold f_Notices_append at h
  refine lv_aload_n hx hb d_Notices_append_0 rfl (lv_at hl 0 rfl) ?_
  obtain ⟨x1, e1, h⟩ := ob h
  refine mr_gI C hW k_Notices_18 e1 d_Notices_append_1 ?_
  refine lv_bipush (v := 100) hx hb d_Notices_append_4 (by decide) ?_
  refine lv_icmp_ge (tgt := 39) hx hb d_Notices_append_6 (by decide) (fun c2 => ?_) (fun c2 => ?_)
  · have h := ifp h c2
    exact mr_vret C hW hS (Nat.le_of_ble_eq_true rfl) (Nat.le_of_ble_eq_true rfl) h d_Notices_append_39
  · have h := ifn h c2
    refine lv_aload_n hx hb d_Notices_append_9 rfl (lv_at hl 0 rfl) ?_
    obtain ⟨x3, e3, h⟩ := ob h
    refine mr_gR C hW k_Notices_9 e3 d_Notices_append_10 ?_
    refine lv_aload_n hx hb d_Notices_append_13 rfl (lv_at hl 0 rfl) ?_
    obtain ⟨x4, e4, h⟩ := ob h
    refine mr_gI C hW k_Notices_18 e4 d_Notices_append_14 ?_
    refine lv_iload_n hx hb d_Notices_append_17 rfl (lv_at hl 1 rfl) ?_
    obtain ⟨M5, e5, h⟩ := ob h
    refine mr_sI C hW hS e5 d_Notices_append_18 (fun H locs hW hS => ?_)
    refine lv_aload_n hx hb d_Notices_append_19 rfl (lv_at hl 0 rfl) ?_
    obtain ⟨x6, e6, h⟩ := ob h
    refine mr_gR C hW k_Notices_15 e6 d_Notices_append_20 ?_
    refine lv_aload_n hx hb d_Notices_append_23 rfl (lv_at hl 0 rfl) ?_
    obtain ⟨x7, e7, h⟩ := ob h
    refine mr_gI C hW k_Notices_18 e7 d_Notices_append_24 ?_
    refine lv_iload_n hx hb d_Notices_append_27 rfl (lv_at hl 2 rfl) ?_
    obtain ⟨M8, e8, h⟩ := ob h
    refine mr_sI C hW hS e8 d_Notices_append_28 (fun H locs hW hS => ?_)
    refine lv_aload_n hx hb d_Notices_append_29 rfl (lv_at hl 0 rfl) ?_
    refine lv_dup hx hb d_Notices_append_30 rfl ?_
    obtain ⟨x9, e9, h⟩ := ob h
    refine mr_gI C hW k_Notices_18 e9 d_Notices_append_31 ?_
    refine lv_iconst (v := 1) hx hb d_Notices_append_34 (by decide) ?_
    refine lv_iadd hx hb d_Notices_append_35 ?_
    obtain ⟨M10, e10, h⟩ := ob h
    refine mr_put C hW hS kp_Notices_18 rfl rfl e10 d_Notices_append_36 (fun H locs hW hS => ?_)
    exact mr_vret C hW hS (Nat.le_of_ble_eq_true rfl) (Nat.le_of_ble_eq_true rfl) h d_Notices_append_39
def f_Rule_fits (v0 : Nat) (v1 : Int32) (v2 : Int32) (v3 : Int32) (v4 : Int32) (M : mm) : Option (Int32 × mm) :=
    (gI 5 1 M v0).bind fun x1 =>
    if x1 = 0 then
      (gI 5 3 M v0).bind fun x3 =>
      if v1 = x3 then
        (kB 1).bind fun _ =>
        some (1, M)
      else
        (kB 0).bind fun _ =>
        some (0, M)
    else
    if x1 = 1 then
      (gI 5 3 M v0).bind fun x8 =>
      if x8 ≤ v2 then
        (kB 0).bind fun _ =>
        some (0, M)
      else
        (kB 1).bind fun _ =>
        some (1, M)
    else
    if x1 = 2 then
      (gI 5 3 M v0).bind fun x13 =>
      if ((x13 >>> ((v3 - v3 / 7 * 7) &&& 31)) &&& 1) = 1 then
        (kB 1).bind fun _ =>
        some (1, M)
      else
        (kB 0).bind fun _ =>
        some (0, M)
    else
    if x1 = 3 then
      (gI 5 3 M v0).bind fun x18 =>
      if v4 < x18 then
        (kB 0).bind fun _ =>
        some (0, M)
      else
        (kB 1).bind fun _ =>
        some (1, M)
    else
    (kB 0).bind fun _ =>
    some (0, M)
set_option maxHeartbeats 4000000 in
set_option maxRecDepth 100000 in
theorem c_Rule_fits (l : Launch) (D : va_G) (dA : Nat → ClassId) (M0 M' : mm) (r : Int32) (v0 : Nat) (v1 : Int32) (v2 : Int32) (v3 : Int32) (v4 : Int32) (h : f_Rule_fits v0 v1 v2 v3 v4 M0 = some (r, M')) : Met l y_Rule_fits w_Rule_fits rm_Rule_fits (mm_Pre D dA M0 [.ref v0, .int v1, .int v2, .int v3, .int v4]) (mm_QI D dA M0 r M') 0 0 (mm_A M0) := by
  refine Met.ofW (cc := b_Rule_fits) (maxL := 5) (ret := (some .boolean)) (by decide) rfl ?_
  intro p e s m args below meth c s₁ B hml hv
  obtain ⟨rfl, hW, hK⟩ := hv
  have C : mm_C p s m _ meth c b_Rule_fits 5 (some .boolean) R_Rule D dA (mm_A M0) := ⟨B.exec, B.bytes, B.returns, hml, findClass_of_methodNamed B.named, fun w hw => atoms_spec (ws := w_Rule_fits) B.pre w (List.mem_cons_of_mem _ hw), B.notSynchronized, hK, fun q hq => Or.inr (by rw [← hW.1]; exact hq)⟩
  have hS : va_S (mm_A M0) s.heap s.heap [] := va_S.rf
  obtain ⟨hx, hb, hr, hml, hown, hts, hlocks, hK, hA⟩ := id C
  have hl := lv_entry ([.ref v0, .int v1, .int v2, .int v3, .int v4]) (n := 5) (Nat.le_of_ble_eq_true rfl)
  rw [lg_entry_eq]
  generalize (lg_sl ([.ref v0, .int v1, .int v2, .int v3, .int v4]) ++ List.replicate (5 - (lg_sl ([.ref v0, .int v1, .int v2, .int v3, .int v4])).length) Slot.unset).toArray = ls at hl ⊢
  have hl : lv_has ls 5 [(0, .ref v0), (1, .int v1), (2, .int v2), (3, .int v3), (4, .int v4)] := hl
  unfold f_Rule_fits at h
  refine lv_aload_n hx hb d_Rule_fits_0 rfl (lv_at hl 0 rfl) ?_
  obtain ⟨x1, e1, h⟩ := ob h
  refine mr_gI C hW k_Rule_19 e1 d_Rule_fits_1 ?_
  by_cases c2 : x1 = 0
  · have h := ifp h c2
    refine lv_tableIn (tgt := 36) hx hb d_Rule_fits_4 (by rw [c2]; decide) (by rw [c2]; decide) (by rw [c2]; rfl) (by decide) ?_
    refine lv_iload_n hx hb d_Rule_fits_36 rfl (lv_at hl 1 rfl) ?_
    refine lv_aload_n hx hb d_Rule_fits_37 rfl (lv_at hl 0 rfl) ?_
    obtain ⟨x3, e3, h⟩ := ob h
    refine mr_gI C hW k_Rule_25 e3 d_Rule_fits_38 ?_
    refine lv_icmp_ne (tgt := 48) hx hb d_Rule_fits_41 (by decide) (fun c4 => ?_) (fun c4 => ?_)
    · have h := ifn h c4
      refine lv_iconst (v := 0) hx hb d_Rule_fits_48 (by decide) ?_
      obtain ⟨_, e5, h⟩ := ob h
      exact mr_zret C hW hS (Nat.le_of_ble_eq_true rfl) (Nat.le_of_ble_eq_true rfl) e5 h d_Rule_fits_49
    · have h := ifp h c4
      refine lv_iconst (v := 1) hx hb d_Rule_fits_44 (by decide) ?_
      refine lv_goto (tgt := 49) hx hb d_Rule_fits_45 (by decide) ?_
      obtain ⟨_, e6, h⟩ := ob h
      exact mr_zret C hW hS (Nat.le_of_ble_eq_true rfl) (Nat.le_of_ble_eq_true rfl) e6 h d_Rule_fits_49
  have h := ifn h c2
  by_cases c7 : x1 = 1
  · have h := ifp h c7
    refine lv_tableIn (tgt := 50) hx hb d_Rule_fits_4 (by rw [c7]; decide) (by rw [c7]; decide) (by rw [c7]; rfl) (by decide) ?_
    refine lv_iload_n hx hb d_Rule_fits_50 rfl (lv_at hl 2 rfl) ?_
    refine lv_aload_n hx hb d_Rule_fits_51 rfl (lv_at hl 0 rfl) ?_
    obtain ⟨x8, e8, h⟩ := ob h
    refine mr_gI C hW k_Rule_25 e8 d_Rule_fits_52 ?_
    refine lv_icmp_ge (tgt := 62) hx hb d_Rule_fits_55 (by decide) (fun c9 => ?_) (fun c9 => ?_)
    · have h := ifp h c9
      refine lv_iconst (v := 0) hx hb d_Rule_fits_62 (by decide) ?_
      obtain ⟨_, e10, h⟩ := ob h
      exact mr_zret C hW hS (Nat.le_of_ble_eq_true rfl) (Nat.le_of_ble_eq_true rfl) e10 h d_Rule_fits_63
    · have h := ifn h c9
      refine lv_iconst (v := 1) hx hb d_Rule_fits_58 (by decide) ?_
      refine lv_goto (tgt := 63) hx hb d_Rule_fits_59 (by decide) ?_
      obtain ⟨_, e11, h⟩ := ob h
      exact mr_zret C hW hS (Nat.le_of_ble_eq_true rfl) (Nat.le_of_ble_eq_true rfl) e11 h d_Rule_fits_63
  have h := ifn h c7
  by_cases c12 : x1 = 2
  · have h := ifp h c12
    refine lv_tableIn (tgt := 64) hx hb d_Rule_fits_4 (by rw [c12]; decide) (by rw [c12]; decide) (by rw [c12]; rfl) (by decide) ?_
    refine lv_aload_n hx hb d_Rule_fits_64 rfl (lv_at hl 0 rfl) ?_
    obtain ⟨x13, e13, h⟩ := ob h
    refine mr_gI C hW k_Rule_25 e13 d_Rule_fits_65 ?_
    refine lv_iload_n hx hb d_Rule_fits_68 rfl (lv_at hl 3 rfl) ?_
    refine lv_bipush (v := 7) hx hb d_Rule_fits_69 (by decide) ?_
    refine lv_irem hx hb d_Rule_fits_71 (by decide) ?_
    refine lv_ishr hx hb d_Rule_fits_72 ?_
    refine lv_iconst (v := 1) hx hb d_Rule_fits_73 (by decide) ?_
    refine lv_iand hx hb d_Rule_fits_74 ?_
    refine lv_iconst (v := 1) hx hb d_Rule_fits_75 (by decide) ?_
    refine lv_icmp_ne (tgt := 83) hx hb d_Rule_fits_76 (by decide) (fun c14 => ?_) (fun c14 => ?_)
    · have h := ifn h c14
      refine lv_iconst (v := 0) hx hb d_Rule_fits_83 (by decide) ?_
      obtain ⟨_, e15, h⟩ := ob h
      exact mr_zret C hW hS (Nat.le_of_ble_eq_true rfl) (Nat.le_of_ble_eq_true rfl) e15 h d_Rule_fits_84
    · have h := ifp h c14
      refine lv_iconst (v := 1) hx hb d_Rule_fits_79 (by decide) ?_
      refine lv_goto (tgt := 84) hx hb d_Rule_fits_80 (by decide) ?_
      obtain ⟨_, e16, h⟩ := ob h
      exact mr_zret C hW hS (Nat.le_of_ble_eq_true rfl) (Nat.le_of_ble_eq_true rfl) e16 h d_Rule_fits_84
  have h := ifn h c12
  by_cases c17 : x1 = 3
  · have h := ifp h c17
    refine lv_tableIn (tgt := 85) hx hb d_Rule_fits_4 (by rw [c17]; decide) (by rw [c17]; decide) (by rw [c17]; rfl) (by decide) ?_
    refine lv_iload hx hb d_Rule_fits_85 (lv_at hl 4 rfl) ?_
    refine lv_aload_n hx hb d_Rule_fits_87 rfl (lv_at hl 0 rfl) ?_
    obtain ⟨x18, e18, h⟩ := ob h
    refine mr_gI C hW k_Rule_25 e18 d_Rule_fits_88 ?_
    refine lv_icmp_lt (tgt := 98) hx hb d_Rule_fits_91 (by decide) (fun c19 => ?_) (fun c19 => ?_)
    · have h := ifp h c19
      refine lv_iconst (v := 0) hx hb d_Rule_fits_98 (by decide) ?_
      obtain ⟨_, e20, h⟩ := ob h
      exact mr_zret C hW hS (Nat.le_of_ble_eq_true rfl) (Nat.le_of_ble_eq_true rfl) e20 h d_Rule_fits_99
    · have h := ifn h c19
      refine lv_iconst (v := 1) hx hb d_Rule_fits_94 (by decide) ?_
      refine lv_goto (tgt := 99) hx hb d_Rule_fits_95 (by decide) ?_
      obtain ⟨_, e21, h⟩ := ob h
      exact mr_zret C hW hS (Nat.le_of_ble_eq_true rfl) (Nat.le_of_ble_eq_true rfl) e21 h d_Rule_fits_99
  have h := ifn h c17
  refine lv_tableOut (tgt := 100) hx hb d_Rule_fits_4 (by
    have t2 := lv_neT c2 (show (0 : Int32).toInt = 0 by decide)
    have t7 := lv_neT c7 (show (1 : Int32).toInt = 1 by decide)
    have t12 := lv_neT c12 (show (2 : Int32).toInt = 2 by decide)
    have t17 := lv_neT c17 (show (3 : Int32).toInt = 3 by decide)
    omega) (by decide) ?_
  refine lv_iconst (v := 0) hx hb d_Rule_fits_100 (by decide) ?_
  obtain ⟨_, e22, h⟩ := ob h
  exact mr_zret C hW hS (Nat.le_of_ble_eq_true rfl) (Nat.le_of_ble_eq_true rfl) e22 h d_Rule_fits_101
def f_Usages_append (v0 : Nat) (v1 : Int32) (v2 : Int32) (v3 : Int32) (M : mm) : Option (Unit × mm) :=
    (gI 7 3 M v0).bind fun x1 =>
    if 512 ≤ x1 then
      some ((), M)
    else
      (gR 7 0 M v0).bind fun x3 =>
      (gI 7 3 M v0).bind fun x4 =>
      (sI v1 M x3 x4).bind fun M5 =>
      (gR 7 1 M5 v0).bind fun x6 =>
      (gI 7 3 M5 v0).bind fun x7 =>
      (sI v2 M5 x6 x7).bind fun M8 =>
      (gR 7 2 M8 v0).bind fun x9 =>
      (gI 7 3 M8 v0).bind fun x10 =>
      (sI v3 M8 x9 x10).bind fun M11 =>
      (gI 7 3 M11 v0).bind fun x12 =>
      (pF 7 3 (.int (x12 + 1)) M11 v0).bind fun M13 =>
      some ((), M13)
set_option maxHeartbeats 4000000 in
set_option maxRecDepth 100000 in
theorem c_Usages_append (l : Launch) (D : va_G) (dA : Nat → ClassId) (M0 M' : mm) (r : Unit) (v0 : Nat) (v1 : Int32) (v2 : Int32) (v3 : Int32) (h : f_Usages_append v0 v1 v2 v3 M0 = some (r, M')) : Met l y_Usages_append w_Usages_append rm_Usages_append (mm_Pre D dA M0 [.ref v0, .int v1, .int v2, .int v3]) (mm_QV D dA M0 r M') 0 0 (mm_A M0) := by
  refine Met.ofW (cc := b_Usages_append) (maxL := 4) (ret := none) (by decide) rfl ?_
  intro p e s m args below meth c s₁ B hml hv
  obtain ⟨rfl, hW, hK⟩ := hv
  have C : mm_C p s m _ meth c b_Usages_append 4 none R_Usages D dA (mm_A M0) := ⟨B.exec, B.bytes, B.returns, hml, findClass_of_methodNamed B.named, fun w hw => atoms_spec (ws := w_Usages_append) B.pre w (List.mem_cons_of_mem _ hw), B.notSynchronized, hK, fun q hq => Or.inr (by rw [← hW.1]; exact hq)⟩
  have hS : va_S (mm_A M0) s.heap s.heap [] := va_S.rf
  obtain ⟨hx, hb, hr, hml, hown, hts, hlocks, hK, hA⟩ := id C
  have hl := lv_entry ([.ref v0, .int v1, .int v2, .int v3]) (n := 4) (Nat.le_of_ble_eq_true rfl)
  rw [lg_entry_eq]
  generalize (lg_sl ([.ref v0, .int v1, .int v2, .int v3]) ++ List.replicate (4 - (lg_sl ([.ref v0, .int v1, .int v2, .int v3])).length) Slot.unset).toArray = ls at hl ⊢
  have hl : lv_has ls 4 [(0, .ref v0), (1, .int v1), (2, .int v2), (3, .int v3)] := hl
  unfold f_Usages_append at h
  refine lv_aload_n hx hb d_Usages_append_0 rfl (lv_at hl 0 rfl) ?_
  obtain ⟨x1, e1, h⟩ := ob h
  refine mr_gI C hW k_Usages_21 e1 d_Usages_append_1 ?_
  refine lv_sipush (v := 512) hx hb d_Usages_append_4 (by decide) ?_
  refine lv_icmp_ge (tgt := 50) hx hb d_Usages_append_7 (by decide) (fun c2 => ?_) (fun c2 => ?_)
  · have h := ifp h c2
    exact mr_vret C hW hS (Nat.le_of_ble_eq_true rfl) (Nat.le_of_ble_eq_true rfl) h d_Usages_append_50
  · have h := ifn h c2
    refine lv_aload_n hx hb d_Usages_append_10 rfl (lv_at hl 0 rfl) ?_
    obtain ⟨x3, e3, h⟩ := ob h
    refine mr_gR C hW k_Usages_9 e3 d_Usages_append_11 ?_
    refine lv_aload_n hx hb d_Usages_append_14 rfl (lv_at hl 0 rfl) ?_
    obtain ⟨x4, e4, h⟩ := ob h
    refine mr_gI C hW k_Usages_21 e4 d_Usages_append_15 ?_
    refine lv_iload_n hx hb d_Usages_append_18 rfl (lv_at hl 1 rfl) ?_
    obtain ⟨M5, e5, h⟩ := ob h
    refine mr_sI C hW hS e5 d_Usages_append_19 (fun H locs hW hS => ?_)
    refine lv_aload_n hx hb d_Usages_append_20 rfl (lv_at hl 0 rfl) ?_
    obtain ⟨x6, e6, h⟩ := ob h
    refine mr_gR C hW k_Usages_15 e6 d_Usages_append_21 ?_
    refine lv_aload_n hx hb d_Usages_append_24 rfl (lv_at hl 0 rfl) ?_
    obtain ⟨x7, e7, h⟩ := ob h
    refine mr_gI C hW k_Usages_21 e7 d_Usages_append_25 ?_
    refine lv_iload_n hx hb d_Usages_append_28 rfl (lv_at hl 2 rfl) ?_
    obtain ⟨M8, e8, h⟩ := ob h
    refine mr_sI C hW hS e8 d_Usages_append_29 (fun H locs hW hS => ?_)
    refine lv_aload_n hx hb d_Usages_append_30 rfl (lv_at hl 0 rfl) ?_
    obtain ⟨x9, e9, h⟩ := ob h
    refine mr_gR C hW k_Usages_18 e9 d_Usages_append_31 ?_
    refine lv_aload_n hx hb d_Usages_append_34 rfl (lv_at hl 0 rfl) ?_
    obtain ⟨x10, e10, h⟩ := ob h
    refine mr_gI C hW k_Usages_21 e10 d_Usages_append_35 ?_
    refine lv_iload_n hx hb d_Usages_append_38 rfl (lv_at hl 3 rfl) ?_
    obtain ⟨M11, e11, h⟩ := ob h
    refine mr_sI C hW hS e11 d_Usages_append_39 (fun H locs hW hS => ?_)
    refine lv_aload_n hx hb d_Usages_append_40 rfl (lv_at hl 0 rfl) ?_
    refine lv_dup hx hb d_Usages_append_41 rfl ?_
    obtain ⟨x12, e12, h⟩ := ob h
    refine mr_gI C hW k_Usages_21 e12 d_Usages_append_42 ?_
    refine lv_iconst (v := 1) hx hb d_Usages_append_45 (by decide) ?_
    refine lv_iadd hx hb d_Usages_append_46 ?_
    obtain ⟨M13, e13, h⟩ := ob h
    refine mr_put C hW hS kp_Usages_21 rfl rfl e13 d_Usages_append_47 (fun H locs hW hS => ?_)
    exact mr_vret C hW hS (Nat.le_of_ble_eq_true rfl) (Nat.le_of_ble_eq_true rfl) h d_Usages_append_50
def f_Title_lastDay (v0 : Nat) (M : mm) : Option (Int32 × mm) :=
    (gI 6 6 M v0).bind fun x1 =>
    if x1 = 0 then
      some ((-1), M)
    else
      (gR 6 5 M v0).bind fun x3 =>
      (gI 6 6 M v0).bind fun x4 =>
      (aI M x3 (x4 - 1)).bind fun x5 =>
      some (x5, M)
set_option maxHeartbeats 4000000 in
set_option maxRecDepth 100000 in
theorem c_Title_lastDay (l : Launch) (D : va_G) (dA : Nat → ClassId) (M0 M' : mm) (r : Int32) (v0 : Nat) (h : f_Title_lastDay v0 M0 = some (r, M')) : Met l y_Title_lastDay w_Title_lastDay rm_Title_lastDay (mm_Pre D dA M0 [.ref v0]) (mm_QI D dA M0 r M') 0 0 (mm_A M0) := by
  refine Met.ofW (cc := b_Title_lastDay) (maxL := 1) (ret := (some .int)) (by decide) rfl ?_
  intro p e s m args below meth c s₁ B hml hv
  obtain ⟨rfl, hW, hK⟩ := hv
  have C : mm_C p s m _ meth c b_Title_lastDay 1 (some .int) R_Title D dA (mm_A M0) := ⟨B.exec, B.bytes, B.returns, hml, findClass_of_methodNamed B.named, fun w hw => atoms_spec (ws := w_Title_lastDay) B.pre w (List.mem_cons_of_mem _ hw), B.notSynchronized, hK, fun q hq => Or.inr (by rw [← hW.1]; exact hq)⟩
  have hS : va_S (mm_A M0) s.heap s.heap [] := va_S.rf
  obtain ⟨hx, hb, hr, hml, hown, hts, hlocks, hK, hA⟩ := id C
  have hl := lv_entry ([.ref v0]) (n := 1) (Nat.le_of_ble_eq_true rfl)
  rw [lg_entry_eq]
  generalize (lg_sl ([.ref v0]) ++ List.replicate (1 - (lg_sl ([.ref v0])).length) Slot.unset).toArray = ls at hl ⊢
  have hl : lv_has ls 1 [(0, .ref v0)] := hl
  unfold f_Title_lastDay at h
  refine lv_aload_n hx hb d_Title_lastDay_0 rfl (lv_at hl 0 rfl) ?_
  obtain ⟨x1, e1, h⟩ := ob h
  refine mr_gI C hW k_Title_26 e1 d_Title_lastDay_1 ?_
  refine lv_if_ne (tgt := 11) hx hb d_Title_lastDay_4 (by decide) (fun c2 => ?_) (fun c2 => ?_)
  · have h := ifn h c2
    refine lv_aload_n hx hb d_Title_lastDay_11 rfl (lv_at hl 0 rfl) ?_
    obtain ⟨x3, e3, h⟩ := ob h
    refine mr_gR C hW k_Title_23 e3 d_Title_lastDay_12 ?_
    refine lv_aload_n hx hb d_Title_lastDay_15 rfl (lv_at hl 0 rfl) ?_
    obtain ⟨x4, e4, h⟩ := ob h
    refine mr_gI C hW k_Title_26 e4 d_Title_lastDay_16 ?_
    refine lv_iconst (v := 1) hx hb d_Title_lastDay_19 (by decide) ?_
    refine lv_isub hx hb d_Title_lastDay_20 ?_
    obtain ⟨x5, e5, h⟩ := ob h
    refine mr_aI C hW e5 d_Title_lastDay_21 ?_
    exact mr_iret C hW hS (Nat.le_of_ble_eq_true rfl) (Nat.le_of_ble_eq_true rfl) h d_Title_lastDay_22
  · have h := ifp h c2
    refine lv_iconst (v := (-1)) hx hb d_Title_lastDay_7 (by decide) ?_
    refine lv_goto (tgt := 22) hx hb d_Title_lastDay_8 (by decide) ?_
    exact mr_iret C hW hS (Nat.le_of_ble_eq_true rfl) (Nat.le_of_ble_eq_true rfl) h d_Title_lastDay_22
def f_Usages_ofTitle_b4 : Nat → Nat → Int32 → Int32 → Int32 → mm → Option (Int32 × mm)
  | 0, _, _, _, _, _ => none
  | n + 1, v0, v1, v2, v3, M =>
    (gI 7 3 M v0).bind fun x1 =>
    if x1 ≤ v3 then
      some (v2, M)
    else
      (gR 7 1 M v0).bind fun x3 =>
      (aI M x3 v3).bind fun x4 =>
      if x4 = v1 then
        f_Usages_ofTitle_b4 n v0 v1 (v2 + 1) (v3 + 1) M
      else
        f_Usages_ofTitle_b4 n v0 v1 v2 (v3 + 1) M
def f_Usages_ofTitle (v0 : Nat) (v1 : Int32) (M : mm) : Option (Int32 × mm) :=
    f_Usages_ofTitle_b4 FU v0 v1 0 0 M
set_option maxHeartbeats 4000000 in
set_option maxRecDepth 100000 in
theorem w_Usages_ofTitle_b4 {p : Program} {l : Launch} {e : Env} {s : State} {m : MethodId} {args : Array Value} {below : List Frame} {meth : Method} {c : Code} {D : va_G} {dA : Nat → ClassId} {M0 M' : mm} {r : Int32} (C : mm_C p s m args meth c b_Usages_ofTitle 4 (some .int) R_Usages D dA (mm_A M0)) : ∀ (n : Nat), ∀ (v0 : Nat) (v1 : Int32) (v2 : Int32) (v3 : Int32) (M : mm) (H : Heap) (locs : List Loc) (ls : Array Slot), f_Usages_ofTitle_b4 n v0 v1 v2 v3 M = some (r, M') → mm_W D dA (mm_A M0) M H → va_S (mm_A M0) s.heap H locs → lv_has ls 4 [(0, .ref v0), (1, .int v1), (2, .int v2), (3, .int v3)] → W p l e rm_Usages_ofTitle s m args below meth c H locs 0 0 (MQ below (mm_QI D dA M0 r M') args s 0 0 (mm_A M0)) (F0 m 4 ls []) := by
  obtain ⟨hx, hb, hr, hml, hown, hts, hlocks, hK, hA⟩ := id C
  intro n
  induction n with
  | zero =>
    intro v0 v1 v2 v3 M H locs ls h hW hS hl
    unfold f_Usages_ofTitle_b4 at h
    cases h
  | succ n ih =>
    intro v0 v1 v2 v3 M H locs ls h hW hS hl
    unfold f_Usages_ofTitle_b4 at h
    refine lv_iload_n hx hb d_Usages_ofTitle_4 rfl (lv_at hl 3 rfl) ?_
    refine lv_aload_n hx hb d_Usages_ofTitle_5 rfl (lv_at hl 0 rfl) ?_
    obtain ⟨x1, e1, h⟩ := ob h
    refine mr_gI C hW k_Usages_21 e1 d_Usages_ofTitle_6 ?_
    refine lv_icmp_ge (tgt := 31) hx hb d_Usages_ofTitle_9 (by decide) (fun c2 => ?_) (fun c2 => ?_)
    · have h := ifp h c2
      refine lv_iload_n hx hb d_Usages_ofTitle_31 rfl (lv_at hl 2 rfl) ?_
      exact mr_iret C hW hS (Nat.le_of_ble_eq_true rfl) (Nat.le_of_ble_eq_true rfl) h d_Usages_ofTitle_32
    · have h := ifn h c2
      refine lv_aload_n hx hb d_Usages_ofTitle_12 rfl (lv_at hl 0 rfl) ?_
      obtain ⟨x3, e3, h⟩ := ob h
      refine mr_gR C hW k_Usages_15 e3 d_Usages_ofTitle_13 ?_
      refine lv_iload_n hx hb d_Usages_ofTitle_16 rfl (lv_at hl 3 rfl) ?_
      obtain ⟨x4, e4, h⟩ := ob h
      refine mr_aI C hW e4 d_Usages_ofTitle_17 ?_
      refine lv_iload_n hx hb d_Usages_ofTitle_18 rfl (lv_at hl 1 rfl) ?_
      refine lv_icmp_ne (tgt := 25) hx hb d_Usages_ofTitle_19 (by decide) (fun c5 => ?_) (fun c5 => ?_)
      · have h := ifn h c5
        refine lv_iinc (v := v3 + 1) (lv' := [(3, .int (v3 + 1)), (0, .ref v0), (1, .int v1), (2, .int v2)]) hx hb d_Usages_ofTitle_25 hl (k := 3) rfl rfl (by decide) rfl (fun ls hl => ?_)
        refine lv_goto (tgt := 4) hx hb d_Usages_ofTitle_28 (by decide) ?_
        exact ih _ _ _ _ _ _ _ _ h hW hS (lv_sub hl [1, 2, 3, 0] rfl)
      · have h := ifp h c5
        refine lv_iinc (v := v2 + 1) (lv' := [(2, .int (v2 + 1)), (0, .ref v0), (1, .int v1), (3, .int v3)]) hx hb d_Usages_ofTitle_22 hl (k := 2) rfl rfl (by decide) rfl (fun ls hl => ?_)
        refine lv_iinc (v := v3 + 1) (lv' := [(3, .int (v3 + 1)), (2, .int (v2 + 1)), (0, .ref v0), (1, .int v1)]) hx hb d_Usages_ofTitle_25 hl (k := 3) rfl rfl (by decide) rfl (fun ls hl => ?_)
        refine lv_goto (tgt := 4) hx hb d_Usages_ofTitle_28 (by decide) ?_
        exact ih _ _ _ _ _ _ _ _ h hW hS (lv_sub hl [2, 3, 1, 0] rfl)
set_option maxHeartbeats 4000000 in
set_option maxRecDepth 100000 in
theorem c_Usages_ofTitle (l : Launch) (D : va_G) (dA : Nat → ClassId) (M0 M' : mm) (r : Int32) (v0 : Nat) (v1 : Int32) (h : f_Usages_ofTitle v0 v1 M0 = some (r, M')) : Met l y_Usages_ofTitle w_Usages_ofTitle rm_Usages_ofTitle (mm_Pre D dA M0 [.ref v0, .int v1]) (mm_QI D dA M0 r M') 0 0 (mm_A M0) := by
  refine Met.ofW (cc := b_Usages_ofTitle) (maxL := 4) (ret := (some .int)) (by decide) rfl ?_
  intro p e s m args below meth c s₁ B hml hv
  obtain ⟨rfl, hW, hK⟩ := hv
  have C : mm_C p s m _ meth c b_Usages_ofTitle 4 (some .int) R_Usages D dA (mm_A M0) := ⟨B.exec, B.bytes, B.returns, hml, findClass_of_methodNamed B.named, fun w hw => atoms_spec (ws := w_Usages_ofTitle) B.pre w (List.mem_cons_of_mem _ hw), B.notSynchronized, hK, fun q hq => Or.inr (by rw [← hW.1]; exact hq)⟩
  have hS : va_S (mm_A M0) s.heap s.heap [] := va_S.rf
  obtain ⟨hx, hb, hr, hml, hown, hts, hlocks, hK, hA⟩ := id C
  have hl := lv_entry ([.ref v0, .int v1]) (n := 4) (Nat.le_of_ble_eq_true rfl)
  rw [lg_entry_eq]
  generalize (lg_sl ([.ref v0, .int v1]) ++ List.replicate (4 - (lg_sl ([.ref v0, .int v1])).length) Slot.unset).toArray = ls at hl ⊢
  have hl : lv_has ls 4 [(0, .ref v0), (1, .int v1)] := hl
  unfold f_Usages_ofTitle at h
  refine lv_iconst (v := 0) hx hb d_Usages_ofTitle_0 (by decide) ?_
  refine lv_istore_n (lv' := [(2, .int 0), (0, .ref v0), (1, .int v1)]) hx hb d_Usages_ofTitle_1 rfl hl (by decide) rfl (fun ls hl => ?_)
  refine lv_iconst (v := 0) hx hb d_Usages_ofTitle_2 (by decide) ?_
  refine lv_istore_n (lv' := [(3, .int 0), (2, .int 0), (0, .ref v0), (1, .int v1)]) hx hb d_Usages_ofTitle_3 rfl hl (by decide) rfl (fun ls hl => ?_)
  exact w_Usages_ofTitle_b4 C FU _ _ _ _ _ _ _ _ h hW hS (lv_sub hl [2, 3, 1, 0] rfl)
def f_Title_firstDay (v0 : Nat) (M : mm) : Option (Int32 × mm) :=
    (gI 6 6 M v0).bind fun x1 =>
    if x1 = 0 then
      some ((-1), M)
    else
      (gR 6 4 M v0).bind fun x3 =>
      (aI M x3 0).bind fun x4 =>
      some (x4, M)
set_option maxHeartbeats 4000000 in
set_option maxRecDepth 100000 in
theorem c_Title_firstDay (l : Launch) (D : va_G) (dA : Nat → ClassId) (M0 M' : mm) (r : Int32) (v0 : Nat) (h : f_Title_firstDay v0 M0 = some (r, M')) : Met l y_Title_firstDay w_Title_firstDay rm_Title_firstDay (mm_Pre D dA M0 [.ref v0]) (mm_QI D dA M0 r M') 0 0 (mm_A M0) := by
  refine Met.ofW (cc := b_Title_firstDay) (maxL := 1) (ret := (some .int)) (by decide) rfl ?_
  intro p e s m args below meth c s₁ B hml hv
  obtain ⟨rfl, hW, hK⟩ := hv
  have C : mm_C p s m _ meth c b_Title_firstDay 1 (some .int) R_Title D dA (mm_A M0) := ⟨B.exec, B.bytes, B.returns, hml, findClass_of_methodNamed B.named, fun w hw => atoms_spec (ws := w_Title_firstDay) B.pre w (List.mem_cons_of_mem _ hw), B.notSynchronized, hK, fun q hq => Or.inr (by rw [← hW.1]; exact hq)⟩
  have hS : va_S (mm_A M0) s.heap s.heap [] := va_S.rf
  obtain ⟨hx, hb, hr, hml, hown, hts, hlocks, hK, hA⟩ := id C
  have hl := lv_entry ([.ref v0]) (n := 1) (Nat.le_of_ble_eq_true rfl)
  rw [lg_entry_eq]
  generalize (lg_sl ([.ref v0]) ++ List.replicate (1 - (lg_sl ([.ref v0])).length) Slot.unset).toArray = ls at hl ⊢
  have hl : lv_has ls 1 [(0, .ref v0)] := hl
  unfold f_Title_firstDay at h
  refine lv_aload_n hx hb d_Title_firstDay_0 rfl (lv_at hl 0 rfl) ?_
  obtain ⟨x1, e1, h⟩ := ob h
  refine mr_gI C hW k_Title_26 e1 d_Title_firstDay_1 ?_
  refine lv_if_ne (tgt := 11) hx hb d_Title_firstDay_4 (by decide) (fun c2 => ?_) (fun c2 => ?_)
  · have h := ifn h c2
    refine lv_aload_n hx hb d_Title_firstDay_11 rfl (lv_at hl 0 rfl) ?_
    obtain ⟨x3, e3, h⟩ := ob h
    refine mr_gR C hW k_Title_19 e3 d_Title_firstDay_12 ?_
    refine lv_iconst (v := 0) hx hb d_Title_firstDay_15 (by decide) ?_
    obtain ⟨x4, e4, h⟩ := ob h
    refine mr_aI C hW e4 d_Title_firstDay_16 ?_
    exact mr_iret C hW hS (Nat.le_of_ble_eq_true rfl) (Nat.le_of_ble_eq_true rfl) h d_Title_firstDay_17
  · have h := ifp h c2
    refine lv_iconst (v := (-1)) hx hb d_Title_firstDay_7 (by decide) ?_
    refine lv_goto (tgt := 17) hx hb d_Title_firstDay_8 (by decide) ?_
    exact mr_iret C hW hS (Nat.le_of_ble_eq_true rfl) (Nat.le_of_ble_eq_true rfl) h d_Title_firstDay_17
def f_Usages_ofTitleIn_b5 : Nat → Nat → Int32 → Int32 → Int32 → Int32 → mm → Option (Int32 × mm)
  | 0, _, _, _, _, _, _ => none
  | n + 1, v0, v1, v2, v3, v4, M =>
    (gI 7 3 M v0).bind fun x1 =>
    if x1 ≤ v4 then
      some (v3, M)
    else
      (gR 7 1 M v0).bind fun x3 =>
      (aI M x3 v4).bind fun x4 =>
      if x4 = v1 then
        (gR 7 2 M v0).bind fun x6 =>
        (aI M x6 v4).bind fun x7 =>
        if x7 = v2 then
          f_Usages_ofTitleIn_b5 n v0 v1 v2 (v3 + 1) (v4 + 1) M
        else
          f_Usages_ofTitleIn_b5 n v0 v1 v2 v3 (v4 + 1) M
      else
        f_Usages_ofTitleIn_b5 n v0 v1 v2 v3 (v4 + 1) M
def f_Usages_ofTitleIn (v0 : Nat) (v1 : Int32) (v2 : Int32) (M : mm) : Option (Int32 × mm) :=
    f_Usages_ofTitleIn_b5 FU v0 v1 v2 0 0 M
set_option maxHeartbeats 4000000 in
set_option maxRecDepth 100000 in
theorem w_Usages_ofTitleIn_b5 {p : Program} {l : Launch} {e : Env} {s : State} {m : MethodId} {args : Array Value} {below : List Frame} {meth : Method} {c : Code} {D : va_G} {dA : Nat → ClassId} {M0 M' : mm} {r : Int32} (C : mm_C p s m args meth c b_Usages_ofTitleIn 5 (some .int) R_Usages D dA (mm_A M0)) : ∀ (n : Nat), ∀ (v0 : Nat) (v1 : Int32) (v2 : Int32) (v3 : Int32) (v4 : Int32) (M : mm) (H : Heap) (locs : List Loc) (ls : Array Slot), f_Usages_ofTitleIn_b5 n v0 v1 v2 v3 v4 M = some (r, M') → mm_W D dA (mm_A M0) M H → va_S (mm_A M0) s.heap H locs → lv_has ls 5 [(0, .ref v0), (1, .int v1), (2, .int v2), (3, .int v3), (4, .int v4)] → W p l e rm_Usages_ofTitleIn s m args below meth c H locs 0 0 (MQ below (mm_QI D dA M0 r M') args s 0 0 (mm_A M0)) (F0 m 5 ls []) := by
  obtain ⟨hx, hb, hr, hml, hown, hts, hlocks, hK, hA⟩ := id C
  intro n
  induction n with
  | zero =>
    intro v0 v1 v2 v3 v4 M H locs ls h hW hS hl
    unfold f_Usages_ofTitleIn_b5 at h
    cases h
  | succ n ih =>
    intro v0 v1 v2 v3 v4 M H locs ls h hW hS hl
    unfold f_Usages_ofTitleIn_b5 at h
    refine lv_iload hx hb d_Usages_ofTitleIn_5 (lv_at hl 4 rfl) ?_
    refine lv_aload_n hx hb d_Usages_ofTitleIn_7 rfl (lv_at hl 0 rfl) ?_
    obtain ⟨x1, e1, h⟩ := ob h
    refine mr_gI C hW k_Usages_21 e1 d_Usages_ofTitleIn_8 ?_
    refine lv_icmp_ge (tgt := 45) hx hb d_Usages_ofTitleIn_11 (by decide) (fun c2 => ?_) (fun c2 => ?_)
    · have h := ifp h c2
      refine lv_iload_n hx hb d_Usages_ofTitleIn_45 rfl (lv_at hl 3 rfl) ?_
      exact mr_iret C hW hS (Nat.le_of_ble_eq_true rfl) (Nat.le_of_ble_eq_true rfl) h d_Usages_ofTitleIn_46
    · have h := ifn h c2
      refine lv_aload_n hx hb d_Usages_ofTitleIn_14 rfl (lv_at hl 0 rfl) ?_
      obtain ⟨x3, e3, h⟩ := ob h
      refine mr_gR C hW k_Usages_15 e3 d_Usages_ofTitleIn_15 ?_
      refine lv_iload hx hb d_Usages_ofTitleIn_18 (lv_at hl 4 rfl) ?_
      obtain ⟨x4, e4, h⟩ := ob h
      refine mr_aI C hW e4 d_Usages_ofTitleIn_20 ?_
      refine lv_iload_n hx hb d_Usages_ofTitleIn_21 rfl (lv_at hl 1 rfl) ?_
      refine lv_icmp_ne (tgt := 39) hx hb d_Usages_ofTitleIn_22 (by decide) (fun c5 => ?_) (fun c5 => ?_)
      · have h := ifn h c5
        refine lv_iinc (v := v4 + 1) (lv' := [(4, .int (v4 + 1)), (0, .ref v0), (1, .int v1), (2, .int v2), (3, .int v3)]) hx hb d_Usages_ofTitleIn_39 hl (k := 4) rfl rfl (by decide) rfl (fun ls hl => ?_)
        refine lv_goto (tgt := 5) hx hb d_Usages_ofTitleIn_42 (by decide) ?_
        exact ih _ _ _ _ _ _ _ _ _ h hW hS (lv_sub hl [1, 2, 3, 4, 0] rfl)
      · have h := ifp h c5
        refine lv_aload_n hx hb d_Usages_ofTitleIn_25 rfl (lv_at hl 0 rfl) ?_
        obtain ⟨x6, e6, h⟩ := ob h
        refine mr_gR C hW k_Usages_18 e6 d_Usages_ofTitleIn_26 ?_
        refine lv_iload hx hb d_Usages_ofTitleIn_29 (lv_at hl 4 rfl) ?_
        obtain ⟨x7, e7, h⟩ := ob h
        refine mr_aI C hW e7 d_Usages_ofTitleIn_31 ?_
        refine lv_iload_n hx hb d_Usages_ofTitleIn_32 rfl (lv_at hl 2 rfl) ?_
        refine lv_icmp_ne (tgt := 39) hx hb d_Usages_ofTitleIn_33 (by decide) (fun c8 => ?_) (fun c8 => ?_)
        · have h := ifn h c8
          refine lv_iinc (v := v4 + 1) (lv' := [(4, .int (v4 + 1)), (0, .ref v0), (1, .int v1), (2, .int v2), (3, .int v3)]) hx hb d_Usages_ofTitleIn_39 hl (k := 4) rfl rfl (by decide) rfl (fun ls hl => ?_)
          refine lv_goto (tgt := 5) hx hb d_Usages_ofTitleIn_42 (by decide) ?_
          exact ih _ _ _ _ _ _ _ _ _ h hW hS (lv_sub hl [1, 2, 3, 4, 0] rfl)
        · have h := ifp h c8
          refine lv_iinc (v := v3 + 1) (lv' := [(3, .int (v3 + 1)), (0, .ref v0), (1, .int v1), (2, .int v2), (4, .int v4)]) hx hb d_Usages_ofTitleIn_36 hl (k := 3) rfl rfl (by decide) rfl (fun ls hl => ?_)
          refine lv_iinc (v := v4 + 1) (lv' := [(4, .int (v4 + 1)), (3, .int (v3 + 1)), (0, .ref v0), (1, .int v1), (2, .int v2)]) hx hb d_Usages_ofTitleIn_39 hl (k := 4) rfl rfl (by decide) rfl (fun ls hl => ?_)
          refine lv_goto (tgt := 5) hx hb d_Usages_ofTitleIn_42 (by decide) ?_
          exact ih _ _ _ _ _ _ _ _ _ h hW hS (lv_sub hl [2, 3, 4, 1, 0] rfl)
set_option maxHeartbeats 4000000 in
set_option maxRecDepth 100000 in
theorem c_Usages_ofTitleIn (l : Launch) (D : va_G) (dA : Nat → ClassId) (M0 M' : mm) (r : Int32) (v0 : Nat) (v1 : Int32) (v2 : Int32) (h : f_Usages_ofTitleIn v0 v1 v2 M0 = some (r, M')) : Met l y_Usages_ofTitleIn w_Usages_ofTitleIn rm_Usages_ofTitleIn (mm_Pre D dA M0 [.ref v0, .int v1, .int v2]) (mm_QI D dA M0 r M') 0 0 (mm_A M0) := by
  refine Met.ofW (cc := b_Usages_ofTitleIn) (maxL := 5) (ret := (some .int)) (by decide) rfl ?_
  intro p e s m args below meth c s₁ B hml hv
  obtain ⟨rfl, hW, hK⟩ := hv
  have C : mm_C p s m _ meth c b_Usages_ofTitleIn 5 (some .int) R_Usages D dA (mm_A M0) := ⟨B.exec, B.bytes, B.returns, hml, findClass_of_methodNamed B.named, fun w hw => atoms_spec (ws := w_Usages_ofTitleIn) B.pre w (List.mem_cons_of_mem _ hw), B.notSynchronized, hK, fun q hq => Or.inr (by rw [← hW.1]; exact hq)⟩
  have hS : va_S (mm_A M0) s.heap s.heap [] := va_S.rf
  obtain ⟨hx, hb, hr, hml, hown, hts, hlocks, hK, hA⟩ := id C
  have hl := lv_entry ([.ref v0, .int v1, .int v2]) (n := 5) (Nat.le_of_ble_eq_true rfl)
  rw [lg_entry_eq]
  generalize (lg_sl ([.ref v0, .int v1, .int v2]) ++ List.replicate (5 - (lg_sl ([.ref v0, .int v1, .int v2])).length) Slot.unset).toArray = ls at hl ⊢
  have hl : lv_has ls 5 [(0, .ref v0), (1, .int v1), (2, .int v2)] := hl
  unfold f_Usages_ofTitleIn at h
  refine lv_iconst (v := 0) hx hb d_Usages_ofTitleIn_0 (by decide) ?_
  refine lv_istore_n (lv' := [(3, .int 0), (0, .ref v0), (1, .int v1), (2, .int v2)]) hx hb d_Usages_ofTitleIn_1 rfl hl (by decide) rfl (fun ls hl => ?_)
  refine lv_iconst (v := 0) hx hb d_Usages_ofTitleIn_2 (by decide) ?_
  refine lv_istore (lv' := [(4, .int 0), (3, .int 0), (0, .ref v0), (1, .int v1), (2, .int v2)]) hx hb d_Usages_ofTitleIn_3 hl (by decide) rfl (fun ls hl => ?_)
  exact w_Usages_ofTitleIn_b5 C FU _ _ _ _ _ _ _ _ _ h hW hS (lv_sub hl [2, 3, 4, 1, 0] rfl)
def f_Line_at (v0 : Nat) (v1 : Int32) (M : mm) : Option (Int32 × mm) :=
    if v1 < 0 then
      some ((-1), M)
    else
      (gI 2 1 M v0).bind fun x2 =>
      if v1 < x2 then
        (gR 2 0 M v0).bind fun x4 =>
        (aI M x4 v1).bind fun x5 =>
        some (x5, M)
      else
        some ((-1), M)
set_option maxHeartbeats 4000000 in
set_option maxRecDepth 100000 in
theorem c_Line_at (l : Launch) (D : va_G) (dA : Nat → ClassId) (M0 M' : mm) (r : Int32) (v0 : Nat) (v1 : Int32) (h : f_Line_at v0 v1 M0 = some (r, M')) : Met l y_Line_at w_Line_at rm_Line_at (mm_Pre D dA M0 [.ref v0, .int v1]) (mm_QI D dA M0 r M') 0 0 (mm_A M0) := by
  refine Met.ofW (cc := b_Line_at) (maxL := 2) (ret := (some .int)) (by decide) rfl ?_
  intro p e s m args below meth c s₁ B hml hv
  obtain ⟨rfl, hW, hK⟩ := hv
  have C : mm_C p s m _ meth c b_Line_at 2 (some .int) R_Line D dA (mm_A M0) := ⟨B.exec, B.bytes, B.returns, hml, findClass_of_methodNamed B.named, fun w hw => atoms_spec (ws := w_Line_at) B.pre w (List.mem_cons_of_mem _ hw), B.notSynchronized, hK, fun q hq => Or.inr (by rw [← hW.1]; exact hq)⟩
  have hS : va_S (mm_A M0) s.heap s.heap [] := va_S.rf
  obtain ⟨hx, hb, hr, hml, hown, hts, hlocks, hK, hA⟩ := id C
  have hl := lv_entry ([.ref v0, .int v1]) (n := 2) (Nat.le_of_ble_eq_true rfl)
  rw [lg_entry_eq]
  generalize (lg_sl ([.ref v0, .int v1]) ++ List.replicate (2 - (lg_sl ([.ref v0, .int v1])).length) Slot.unset).toArray = ls at hl ⊢
  have hl : lv_has ls 2 [(0, .ref v0), (1, .int v1)] := hl
  unfold f_Line_at at h
  refine lv_iload_n hx hb d_Line_at_0 rfl (lv_at hl 1 rfl) ?_
  refine lv_if_lt (tgt := 12) hx hb d_Line_at_1 (by decide) (fun c1 => ?_) (fun c1 => ?_)
  · have h := ifp h c1
    refine lv_iconst (v := (-1)) hx hb d_Line_at_12 (by decide) ?_
    refine lv_goto (tgt := 22) hx hb d_Line_at_13 (by decide) ?_
    exact mr_iret C hW hS (Nat.le_of_ble_eq_true rfl) (Nat.le_of_ble_eq_true rfl) h d_Line_at_22
  · have h := ifn h c1
    refine lv_iload_n hx hb d_Line_at_4 rfl (lv_at hl 1 rfl) ?_
    refine lv_aload_n hx hb d_Line_at_5 rfl (lv_at hl 0 rfl) ?_
    obtain ⟨x2, e2, h⟩ := ob h
    refine mr_gI C hW k_Line_15 e2 d_Line_at_6 ?_
    refine lv_icmp_lt (tgt := 16) hx hb d_Line_at_9 (by decide) (fun c3 => ?_) (fun c3 => ?_)
    · have h := ifp h c3
      refine lv_aload_n hx hb d_Line_at_16 rfl (lv_at hl 0 rfl) ?_
      obtain ⟨x4, e4, h⟩ := ob h
      refine mr_gR C hW k_Line_9 e4 d_Line_at_17 ?_
      refine lv_iload_n hx hb d_Line_at_20 rfl (lv_at hl 1 rfl) ?_
      obtain ⟨x5, e5, h⟩ := ob h
      refine mr_aI C hW e5 d_Line_at_21 ?_
      exact mr_iret C hW hS (Nat.le_of_ble_eq_true rfl) (Nat.le_of_ble_eq_true rfl) h d_Line_at_22
    · have h := ifn h c3
      refine lv_iconst (v := (-1)) hx hb d_Line_at_12 (by decide) ?_
      refine lv_goto (tgt := 22) hx hb d_Line_at_13 (by decide) ?_
      exact mr_iret C hW hS (Nat.le_of_ble_eq_true rfl) (Nat.le_of_ble_eq_true rfl) h d_Line_at_22
