theorem d_X_provider_0 : decode b_X_provider 0 = .ok (.aload_n 0, 1) := by decide +kernel
theorem d_X_provider_1 : decode b_X_provider 1 = .ok (.iload_n 1, 1) := by decide +kernel
theorem d_X_provider_2 : decode b_X_provider 2 = .ok (.invokevirtual 61, 3) := by decide +kernel
theorem d_X_provider_5 : decode b_X_provider 5 = .ok (.ifnonnull 5, 3) := by decide +kernel
theorem d_X_provider_8 : decode b_X_provider 8 = .ok (.iconst (-1), 1) := by decide +kernel
theorem d_X_provider_9 : decode b_X_provider 9 = .ok (.ireturn, 1) := by decide +kernel
theorem d_X_provider_10 : decode b_X_provider 10 = .ok (.aload_n 0, 1) := by decide +kernel
theorem d_X_provider_11 : decode b_X_provider 11 = .ok (.iload_n 1, 1) := by decide +kernel
theorem d_X_provider_12 : decode b_X_provider 12 = .ok (.iload_n 2, 1) := by decide +kernel
theorem d_X_provider_13 : decode b_X_provider 13 = .ok (.invokevirtual 65, 3) := by decide +kernel
theorem d_X_provider_16 : decode b_X_provider 16 = .ok (.astore 4, 2) := by decide +kernel
theorem d_X_provider_18 : decode b_X_provider 18 = .ok (.aload 4, 2) := by decide +kernel
theorem d_X_provider_20 : decode b_X_provider 20 = .ok (.ifnonnull 14, 3) := by decide +kernel
theorem d_X_provider_23 : decode b_X_provider 23 = .ok (.aload_n 0, 1) := by decide +kernel
theorem d_X_provider_24 : decode b_X_provider 24 = .ok (.getfield 51, 3) := by decide +kernel
theorem d_X_provider_27 : decode b_X_provider 27 = .ok (.iconst 2, 1) := by decide +kernel
theorem d_X_provider_28 : decode b_X_provider 28 = .ok (.iload_n 2, 1) := by decide +kernel
theorem d_X_provider_29 : decode b_X_provider 29 = .ok (.invokevirtual 161, 3) := by decide +kernel
theorem d_X_provider_32 : decode b_X_provider 32 = .ok (.iconst 0, 1) := by decide +kernel
theorem d_X_provider_33 : decode b_X_provider 33 = .ok (.ireturn, 1) := by decide +kernel
theorem d_X_provider_34 : decode b_X_provider 34 = .ok (.iload_n 2, 1) := by decide +kernel
theorem d_X_provider_35 : decode b_X_provider 35 = .ok (.iload_n 3, 1) := by decide +kernel
theorem d_X_provider_36 : decode b_X_provider 36 = .ok (.if_icmp .ne 23, 3) := by decide +kernel
theorem d_X_provider_39 : decode b_X_provider 39 = .ok (.aload 4, 2) := by decide +kernel
theorem d_X_provider_41 : decode b_X_provider 41 = .ok (.aload 4, 2) := by decide +kernel
theorem d_X_provider_43 : decode b_X_provider 43 = .ok (.getfield 163, 3) := by decide +kernel
theorem d_X_provider_46 : decode b_X_provider 46 = .ok (.ifCond .ne 7, 3) := by decide +kernel
theorem d_X_provider_49 : decode b_X_provider 49 = .ok (.iconst 1, 1) := by decide +kernel
theorem d_X_provider_50 : decode b_X_provider 50 = .ok (.goto 4, 3) := by decide +kernel
theorem d_X_provider_53 : decode b_X_provider 53 = .ok (.iconst 0, 1) := by decide +kernel
theorem d_X_provider_54 : decode b_X_provider 54 = .ok (.putfield 163, 3) := by decide +kernel
theorem d_X_provider_57 : decode b_X_provider 57 = .ok (.iconst 1, 1) := by decide +kernel
theorem d_X_provider_58 : decode b_X_provider 58 = .ok (.ireturn, 1) := by decide +kernel
theorem d_X_provider_59 : decode b_X_provider 59 = .ok (.aload_n 0, 1) := by decide +kernel
theorem d_X_provider_60 : decode b_X_provider 60 = .ok (.iload_n 1, 1) := by decide +kernel
theorem d_X_provider_61 : decode b_X_provider 61 = .ok (.iload_n 3, 1) := by decide +kernel
theorem d_X_provider_62 : decode b_X_provider 62 = .ok (.invokevirtual 65, 3) := by decide +kernel
theorem d_X_provider_65 : decode b_X_provider 65 = .ok (.ifnull 6, 3) := by decide +kernel
theorem d_X_provider_68 : decode b_X_provider 68 = .ok (.bipush (-3), 2) := by decide +kernel
theorem d_X_provider_70 : decode b_X_provider 70 = .ok (.ireturn, 1) := by decide +kernel
theorem d_X_provider_71 : decode b_X_provider 71 = .ok (.aload 4, 2) := by decide +kernel
theorem d_X_provider_73 : decode b_X_provider 73 = .ok (.iload_n 3, 1) := by decide +kernel
theorem d_X_provider_74 : decode b_X_provider 74 = .ok (.putfield 166, 3) := by decide +kernel
theorem d_X_provider_77 : decode b_X_provider 77 = .ok (.iconst 1, 1) := by decide +kernel
theorem d_X_provider_78 : decode b_X_provider 78 = .ok (.ireturn, 1) := by decide +kernel
theorem d_X_countGoingOn_0 : decode b_X_countGoingOn 0 = .ok (.iconst 0, 1) := by decide +kernel
theorem d_X_countGoingOn_1 : decode b_X_countGoingOn 1 = .ok (.istore_n 3, 1) := by decide +kernel
theorem d_X_countGoingOn_2 : decode b_X_countGoingOn 2 = .ok (.iconst 0, 1) := by decide +kernel
theorem d_X_countGoingOn_3 : decode b_X_countGoingOn 3 = .ok (.istore 4, 2) := by decide +kernel
theorem d_X_countGoingOn_5 : decode b_X_countGoingOn 5 = .ok (.iload 4, 2) := by decide +kernel
theorem d_X_countGoingOn_7 : decode b_X_countGoingOn 7 = .ok (.aload_n 0, 1) := by decide +kernel
theorem d_X_countGoingOn_8 : decode b_X_countGoingOn 8 = .ok (.getfield 25, 3) := by decide +kernel
theorem d_X_countGoingOn_11 : decode b_X_countGoingOn 11 = .ok (.if_icmp .ge 47, 3) := by decide +kernel
theorem d_X_countGoingOn_14 : decode b_X_countGoingOn 14 = .ok (.aload_n 0, 1) := by decide +kernel
theorem d_X_countGoingOn_15 : decode b_X_countGoingOn 15 = .ok (.getfield 21, 3) := by decide +kernel
theorem d_X_countGoingOn_18 : decode b_X_countGoingOn 18 = .ok (.iload 4, 2) := by decide +kernel
theorem d_X_countGoingOn_20 : decode b_X_countGoingOn 20 = .ok (.aaload, 1) := by decide +kernel
theorem d_X_countGoingOn_21 : decode b_X_countGoingOn 21 = .ok (.astore 5, 2) := by decide +kernel
theorem d_X_countGoingOn_23 : decode b_X_countGoingOn 23 = .ok (.aload 5, 2) := by decide +kernel
theorem d_X_countGoingOn_25 : decode b_X_countGoingOn 25 = .ok (.ifnull 27, 3) := by decide +kernel
theorem d_X_countGoingOn_28 : decode b_X_countGoingOn 28 = .ok (.aload 5, 2) := by decide +kernel
theorem d_X_countGoingOn_30 : decode b_X_countGoingOn 30 = .ok (.getfield 175, 3) := by decide +kernel
theorem d_X_countGoingOn_33 : decode b_X_countGoingOn 33 = .ok (.getfield 179, 3) := by decide +kernel
theorem d_X_countGoingOn_36 : decode b_X_countGoingOn 36 = .ok (.iload_n 1, 1) := by decide +kernel
theorem d_X_countGoingOn_37 : decode b_X_countGoingOn 37 = .ok (.if_icmp .ne 15, 3) := by decide +kernel
theorem d_X_countGoingOn_40 : decode b_X_countGoingOn 40 = .ok (.aload 5, 2) := by decide +kernel
theorem d_X_countGoingOn_42 : decode b_X_countGoingOn 42 = .ok (.invokevirtual 188, 3) := by decide +kernel
theorem d_X_countGoingOn_45 : decode b_X_countGoingOn 45 = .ok (.iload_n 2, 1) := by decide +kernel
theorem d_X_countGoingOn_46 : decode b_X_countGoingOn 46 = .ok (.if_icmp .le 6, 3) := by decide +kernel
theorem d_X_countGoingOn_49 : decode b_X_countGoingOn 49 = .ok (.iinc 3 1, 3) := by decide +kernel
theorem d_X_countGoingOn_52 : decode b_X_countGoingOn 52 = .ok (.iinc 4 1, 3) := by decide +kernel
theorem d_X_countGoingOn_55 : decode b_X_countGoingOn 55 = .ok (.goto (-50), 3) := by decide +kernel
theorem d_X_countGoingOn_58 : decode b_X_countGoingOn 58 = .ok (.iload_n 3, 1) := by decide +kernel
theorem d_X_countGoingOn_59 : decode b_X_countGoingOn 59 = .ok (.ireturn, 1) := by decide +kernel
theorem d_X_end_0 : decode b_X_end 0 = .ok (.aload_n 0, 1) := by decide +kernel
theorem d_X_end_1 : decode b_X_end 1 = .ok (.iload_n 1, 1) := by decide +kernel
theorem d_X_end_2 : decode b_X_end 2 = .ok (.invokevirtual 61, 3) := by decide +kernel
theorem d_X_end_5 : decode b_X_end 5 = .ok (.astore_n 3, 1) := by decide +kernel
theorem d_X_end_6 : decode b_X_end 6 = .ok (.aload_n 3, 1) := by decide +kernel
theorem d_X_end_7 : decode b_X_end 7 = .ok (.ifnonnull 5, 3) := by decide +kernel
theorem d_X_end_10 : decode b_X_end 10 = .ok (.iconst (-1), 1) := by decide +kernel
theorem d_X_end_11 : decode b_X_end 11 = .ok (.ireturn, 1) := by decide +kernel
theorem d_X_end_12 : decode b_X_end 12 = .ok (.iload_n 2, 1) := by decide +kernel
theorem d_X_end_13 : decode b_X_end 13 = .ok (.invokestatic 76, 3) := by decide +kernel
theorem d_X_end_16 : decode b_X_end 16 = .ok (.ifCond .ne 6, 3) := by decide +kernel
theorem d_X_end_19 : decode b_X_end 19 = .ok (.bipush (-2), 2) := by decide +kernel
theorem d_X_end_21 : decode b_X_end 21 = .ok (.ireturn, 1) := by decide +kernel
theorem d_X_end_22 : decode b_X_end 22 = .ok (.aload_n 3, 1) := by decide +kernel
theorem d_X_end_23 : decode b_X_end 23 = .ok (.getfield 169, 3) := by decide +kernel
theorem d_X_end_26 : decode b_X_end 26 = .ok (.iconst (-1), 1) := by decide +kernel
theorem d_X_end_27 : decode b_X_end 27 = .ok (.if_icmp .eq 6, 3) := by decide +kernel
theorem d_X_end_30 : decode b_X_end 30 = .ok (.bipush (-3), 2) := by decide +kernel
theorem d_X_end_32 : decode b_X_end 32 = .ok (.ireturn, 1) := by decide +kernel
theorem d_X_end_33 : decode b_X_end 33 = .ok (.aload_n 3, 1) := by decide +kernel
theorem d_X_end_34 : decode b_X_end 34 = .ok (.iload_n 2, 1) := by decide +kernel
theorem d_X_end_35 : decode b_X_end 35 = .ok (.putfield 169, 3) := by decide +kernel
theorem d_X_end_38 : decode b_X_end 38 = .ok (.aload_n 0, 1) := by decide +kernel
theorem d_X_end_39 : decode b_X_end 39 = .ok (.iload_n 1, 1) := by decide +kernel
theorem d_X_end_40 : decode b_X_end 40 = .ok (.iload_n 2, 1) := by decide +kernel
theorem d_X_end_41 : decode b_X_end 41 = .ok (.invokevirtual 172, 3) := by decide +kernel
theorem d_X_end_44 : decode b_X_end 44 = .ok (.ireturn, 1) := by decide +kernel
theorem d_X_about_0 : decode b_X_about 0 = .ok (.aload_n 0, 1) := by decide +kernel
theorem d_X_about_1 : decode b_X_about 1 = .ok (.iload_n 1, 1) := by decide +kernel
theorem d_X_about_2 : decode b_X_about 2 = .ok (.invokevirtual 72, 3) := by decide +kernel
theorem d_X_about_5 : decode b_X_about 5 = .ok (.astore_n 3, 1) := by decide +kernel
theorem d_X_about_6 : decode b_X_about 6 = .ok (.aload_n 3, 1) := by decide +kernel
theorem d_X_about_7 : decode b_X_about 7 = .ok (.ifnonnull 5, 3) := by decide +kernel
theorem d_X_about_10 : decode b_X_about 10 = .ok (.iconst (-1), 1) := by decide +kernel
theorem d_X_about_11 : decode b_X_about 11 = .ok (.ireturn, 1) := by decide +kernel
theorem d_X_about_12 : decode b_X_about 12 = .ok (.iload_n 2, 1) := by decide +kernel
theorem d_X_about_13 : decode b_X_about 13 = .ok (.tableswitch 102 0 7 #[47, 55, 60, 73, 78, 83, 92, 97], 47) := by decide +kernel
theorem d_X_about_60 : decode b_X_about 60 = .ok (.aload_n 3, 1) := by decide +kernel
theorem d_X_about_61 : decode b_X_about 61 = .ok (.getfield 175, 3) := by decide +kernel
theorem d_X_about_64 : decode b_X_about 64 = .ok (.getfield 179, 3) := by decide +kernel
theorem d_X_about_67 : decode b_X_about 67 = .ok (.ireturn, 1) := by decide +kernel
theorem d_X_about_68 : decode b_X_about 68 = .ok (.aload_n 3, 1) := by decide +kernel
theorem d_X_about_69 : decode b_X_about 69 = .ok (.getfield 166, 3) := by decide +kernel
theorem d_X_about_72 : decode b_X_about 72 = .ok (.ireturn, 1) := by decide +kernel
theorem d_X_about_73 : decode b_X_about 73 = .ok (.aload_n 3, 1) := by decide +kernel
theorem d_X_about_74 : decode b_X_about 74 = .ok (.getfield 163, 3) := by decide +kernel
theorem d_X_about_77 : decode b_X_about 77 = .ok (.ifCond .eq 7, 3) := by decide +kernel
theorem d_X_about_80 : decode b_X_about 80 = .ok (.iconst 1, 1) := by decide +kernel
theorem d_X_about_81 : decode b_X_about 81 = .ok (.goto 4, 3) := by decide +kernel
theorem d_X_about_84 : decode b_X_about 84 = .ok (.iconst 0, 1) := by decide +kernel
theorem d_X_about_85 : decode b_X_about 85 = .ok (.ireturn, 1) := by decide +kernel
theorem d_X_about_86 : decode b_X_about 86 = .ok (.aload_n 3, 1) := by decide +kernel
theorem d_X_about_87 : decode b_X_about 87 = .ok (.getfield 84, 3) := by decide +kernel
theorem d_X_about_90 : decode b_X_about 90 = .ok (.ireturn, 1) := by decide +kernel
theorem d_X_about_91 : decode b_X_about 91 = .ok (.aload_n 3, 1) := by decide +kernel
theorem d_X_about_92 : decode b_X_about 92 = .ok (.getfield 91, 3) := by decide +kernel
theorem d_X_about_95 : decode b_X_about 95 = .ok (.ireturn, 1) := by decide +kernel
theorem d_X_about_96 : decode b_X_about 96 = .ok (.aload_n 0, 1) := by decide +kernel
theorem d_X_about_97 : decode b_X_about 97 = .ok (.getfield 44, 3) := by decide +kernel
theorem d_X_about_100 : decode b_X_about 100 = .ok (.iload_n 1, 1) := by decide +kernel
theorem d_X_about_101 : decode b_X_about 101 = .ok (.invokevirtual 182, 3) := by decide +kernel
theorem d_X_about_104 : decode b_X_about 104 = .ok (.ireturn, 1) := by decide +kernel
theorem d_X_about_105 : decode b_X_about 105 = .ok (.aload_n 3, 1) := by decide +kernel
theorem d_X_about_106 : decode b_X_about 106 = .ok (.invokevirtual 185, 3) := by decide +kernel
theorem d_X_about_109 : decode b_X_about 109 = .ok (.ireturn, 1) := by decide +kernel
theorem d_X_about_110 : decode b_X_about 110 = .ok (.aload_n 3, 1) := by decide +kernel
theorem d_X_about_111 : decode b_X_about 111 = .ok (.invokevirtual 188, 3) := by decide +kernel
theorem d_X_about_114 : decode b_X_about 114 = .ok (.ireturn, 1) := by decide +kernel
theorem d_X_about_115 : decode b_X_about 115 = .ok (.iconst (-1), 1) := by decide +kernel
theorem d_X_about_116 : decode b_X_about 116 = .ok (.ireturn, 1) := by decide +kernel
theorem d_X_gap_0 : decode b_X_gap 0 = .ok (.aload_n 0, 1) := by decide +kernel
theorem d_X_gap_1 : decode b_X_gap 1 = .ok (.iload_n 1, 1) := by decide +kernel
theorem d_X_gap_2 : decode b_X_gap 2 = .ok (.invokevirtual 72, 3) := by decide +kernel
theorem d_X_gap_5 : decode b_X_gap 5 = .ok (.astore 4, 2) := by decide +kernel
theorem d_X_gap_7 : decode b_X_gap 7 = .ok (.aload 4, 2) := by decide +kernel
theorem d_X_gap_9 : decode b_X_gap 9 = .ok (.ifnull 18, 3) := by decide +kernel
theorem d_X_gap_12 : decode b_X_gap 12 = .ok (.iload_n 2, 1) := by decide +kernel
theorem d_X_gap_13 : decode b_X_gap 13 = .ok (.ifCond .lt 14, 3) := by decide +kernel
theorem d_X_gap_16 : decode b_X_gap 16 = .ok (.iload_n 2, 1) := by decide +kernel
theorem d_X_gap_17 : decode b_X_gap 17 = .ok (.aload 4, 2) := by decide +kernel
theorem d_X_gap_19 : decode b_X_gap 19 = .ok (.getfield 84, 3) := by decide +kernel
theorem d_X_gap_22 : decode b_X_gap 22 = .ok (.iconst 1, 1) := by decide +kernel
theorem d_X_gap_23 : decode b_X_gap 23 = .ok (.isub, 1) := by decide +kernel
theorem d_X_gap_24 : decode b_X_gap 24 = .ok (.if_icmp .lt 5, 3) := by decide +kernel
theorem d_X_gap_27 : decode b_X_gap 27 = .ok (.iconst (-1), 1) := by decide +kernel
theorem d_X_gap_28 : decode b_X_gap 28 = .ok (.ireturn, 1) := by decide +kernel
theorem d_X_gap_29 : decode b_X_gap 29 = .ok (.iload_n 3, 1) := by decide +kernel
theorem d_X_gap_30 : decode b_X_gap 30 = .ok (.ifCond .ne 13, 3) := by decide +kernel
theorem d_X_gap_33 : decode b_X_gap 33 = .ok (.aload 4, 2) := by decide +kernel
theorem d_X_gap_35 : decode b_X_gap 35 = .ok (.getfield 191, 3) := by decide +kernel
theorem d_X_gap_38 : decode b_X_gap 38 = .ok (.iload_n 2, 1) := by decide +kernel
theorem d_X_gap_39 : decode b_X_gap 39 = .ok (.iaload, 1) := by decide +kernel
theorem d_X_gap_40 : decode b_X_gap 40 = .ok (.iconst 1, 1) := by decide +kernel
theorem d_X_gap_41 : decode b_X_gap 41 = .ok (.iadd, 1) := by decide +kernel
theorem d_X_gap_42 : decode b_X_gap 42 = .ok (.ireturn, 1) := by decide +kernel
theorem d_X_gap_43 : decode b_X_gap 43 = .ok (.iload_n 3, 1) := by decide +kernel
theorem d_X_gap_44 : decode b_X_gap 44 = .ok (.iconst 1, 1) := by decide +kernel
theorem d_X_gap_45 : decode b_X_gap 45 = .ok (.if_icmp .ne 17, 3) := by decide +kernel
theorem d_X_gap_48 : decode b_X_gap 48 = .ok (.aload 4, 2) := by decide +kernel
theorem d_X_gap_50 : decode b_X_gap 50 = .ok (.getfield 194, 3) := by decide +kernel
theorem d_X_gap_53 : decode b_X_gap 53 = .ok (.iload_n 2, 1) := by decide +kernel
theorem d_X_gap_54 : decode b_X_gap 54 = .ok (.iconst 1, 1) := by decide +kernel
theorem d_X_gap_55 : decode b_X_gap 55 = .ok (.iadd, 1) := by decide +kernel
theorem d_X_gap_56 : decode b_X_gap 56 = .ok (.iaload, 1) := by decide +kernel
theorem d_X_gap_57 : decode b_X_gap 57 = .ok (.iconst 1, 1) := by decide +kernel
theorem d_X_gap_58 : decode b_X_gap 58 = .ok (.isub, 1) := by decide +kernel
theorem d_X_gap_59 : decode b_X_gap 59 = .ok (.goto 4, 3) := by decide +kernel
theorem d_X_gap_62 : decode b_X_gap 62 = .ok (.iconst (-1), 1) := by decide +kernel
theorem d_X_gap_63 : decode b_X_gap 63 = .ok (.ireturn, 1) := by decide +kernel
theorem d_X_usage_0 : decode b_X_usage 0 = .ok (.aload_n 0, 1) := by decide +kernel
theorem d_X_usage_1 : decode b_X_usage 1 = .ok (.iload_n 1, 1) := by decide +kernel
theorem d_X_usage_2 : decode b_X_usage 2 = .ok (.invokevirtual 72, 3) := by decide +kernel
theorem d_X_usage_5 : decode b_X_usage 5 = .ok (.ifnonnull 5, 3) := by decide +kernel
theorem d_X_usage_8 : decode b_X_usage 8 = .ok (.iconst (-1), 1) := by decide +kernel
theorem d_X_usage_9 : decode b_X_usage 9 = .ok (.ireturn, 1) := by decide +kernel
theorem d_X_usage_10 : decode b_X_usage 10 = .ok (.iload_n 2, 1) := by decide +kernel
theorem d_X_usage_11 : decode b_X_usage 11 = .ok (.ifCond .lt 10, 3) := by decide +kernel
theorem d_X_usage_14 : decode b_X_usage 14 = .ok (.iload_n 2, 1) := by decide +kernel
theorem d_X_usage_15 : decode b_X_usage 15 = .ok (.sipush 6666, 3) := by decide +kernel
theorem d_X_usage_18 : decode b_X_usage 18 = .ok (.if_icmp .le 6, 3) := by decide +kernel
theorem d_X_usage_21 : decode b_X_usage 21 = .ok (.bipush (-2), 2) := by decide +kernel
theorem d_X_usage_23 : decode b_X_usage 23 = .ok (.ireturn, 1) := by decide +kernel
theorem d_X_usage_24 : decode b_X_usage 24 = .ok (.aload_n 0, 1) := by decide +kernel
theorem d_X_usage_25 : decode b_X_usage 25 = .ok (.getfield 44, 3) := by decide +kernel
theorem d_X_usage_28 : decode b_X_usage 28 = .ok (.iload_n 1, 1) := by decide +kernel
theorem d_X_usage_29 : decode b_X_usage 29 = .ok (.iload_n 2, 1) := by decide +kernel
theorem d_X_usage_30 : decode b_X_usage 30 = .ok (.invokevirtual 197, 3) := by decide +kernel
theorem d_X_usage_33 : decode b_X_usage 33 = .ok (.ireturn, 1) := by decide +kernel
theorem d_X_told_0 : decode b_X_told 0 = .ok (.iload_n 1, 1) := by decide +kernel
theorem d_X_told_1 : decode b_X_told 1 = .ok (.ifCond .lt 14, 3) := by decide +kernel
theorem d_X_told_4 : decode b_X_told 4 = .ok (.iload_n 1, 1) := by decide +kernel
theorem d_X_told_5 : decode b_X_told 5 = .ok (.aload_n 0, 1) := by decide +kernel
theorem d_X_told_6 : decode b_X_told 6 = .ok (.getfield 51, 3) := by decide +kernel
theorem d_X_told_9 : decode b_X_told 9 = .ok (.getfield 200, 3) := by decide +kernel
theorem d_X_told_12 : decode b_X_told 12 = .ok (.if_icmp .lt 5, 3) := by decide +kernel
theorem d_X_told_15 : decode b_X_told 15 = .ok (.iconst (-1), 1) := by decide +kernel
theorem d_X_told_16 : decode b_X_told 16 = .ok (.ireturn, 1) := by decide +kernel
theorem d_X_told_17 : decode b_X_told 17 = .ok (.iload_n 2, 1) := by decide +kernel
theorem d_X_told_18 : decode b_X_told 18 = .ok (.ifCond .ne 13, 3) := by decide +kernel
theorem d_X_told_21 : decode b_X_told 21 = .ok (.aload_n 0, 1) := by decide +kernel
theorem d_X_told_22 : decode b_X_told 22 = .ok (.getfield 51, 3) := by decide +kernel
theorem d_X_told_25 : decode b_X_told 25 = .ok (.getfield 203, 3) := by decide +kernel
theorem d_X_told_28 : decode b_X_told 28 = .ok (.iload_n 1, 1) := by decide +kernel
theorem d_X_told_29 : decode b_X_told 29 = .ok (.iaload, 1) := by decide +kernel
theorem d_X_told_30 : decode b_X_told 30 = .ok (.ireturn, 1) := by decide +kernel
theorem d_X_told_31 : decode b_X_told 31 = .ok (.iload_n 2, 1) := by decide +kernel
theorem d_X_told_32 : decode b_X_told 32 = .ok (.iconst 1, 1) := by decide +kernel
theorem d_X_told_33 : decode b_X_told 33 = .ok (.if_icmp .ne 15, 3) := by decide +kernel
theorem d_X_told_36 : decode b_X_told 36 = .ok (.aload_n 0, 1) := by decide +kernel
theorem d_X_told_37 : decode b_X_told 37 = .ok (.getfield 51, 3) := by decide +kernel
theorem d_X_told_40 : decode b_X_told 40 = .ok (.getfield 206, 3) := by decide +kernel
theorem d_X_told_43 : decode b_X_told 43 = .ok (.iload_n 1, 1) := by decide +kernel
theorem d_X_told_44 : decode b_X_told 44 = .ok (.iaload, 1) := by decide +kernel
theorem d_X_told_45 : decode b_X_told 45 = .ok (.goto 4, 3) := by decide +kernel
theorem d_X_told_48 : decode b_X_told 48 = .ok (.iconst (-1), 1) := by decide +kernel
theorem d_X_told_49 : decode b_X_told 49 = .ok (.ireturn, 1) := by decide +kernel
theorem d_X_who_0 : decode b_X_who 0 = .ok (.aload_n 0, 1) := by decide +kernel
theorem d_X_who_1 : decode b_X_who 1 = .ok (.iload_n 1, 1) := by decide +kernel
theorem d_X_who_2 : decode b_X_who 2 = .ok (.invokevirtual 61, 3) := by decide +kernel
theorem d_X_who_5 : decode b_X_who 5 = .ok (.astore_n 3, 1) := by decide +kernel
theorem d_X_who_6 : decode b_X_who 6 = .ok (.aload_n 3, 1) := by decide +kernel
theorem d_X_who_7 : decode b_X_who 7 = .ok (.ifnull 7, 3) := by decide +kernel
theorem d_X_who_10 : decode b_X_who 10 = .ok (.iload_n 2, 1) := by decide +kernel
theorem d_X_who_11 : decode b_X_who 11 = .ok (.ifCond .ge 5, 3) := by decide +kernel
theorem d_X_who_14 : decode b_X_who 14 = .ok (.iconst (-1), 1) := by decide +kernel
theorem d_X_who_15 : decode b_X_who 15 = .ok (.ireturn, 1) := by decide +kernel
theorem d_X_who_16 : decode b_X_who 16 = .ok (.iload_n 2, 1) := by decide +kernel
theorem d_X_who_17 : decode b_X_who 17 = .ok (.iconst 2, 1) := by decide +kernel
theorem d_X_who_18 : decode b_X_who 18 = .ok (.irem, 1) := by decide +kernel
theorem d_X_who_19 : decode b_X_who 19 = .ok (.ifCond .ne 10, 3) := by decide +kernel
theorem d_X_who_22 : decode b_X_who 22 = .ok (.aload_n 3, 1) := by decide +kernel
theorem d_X_who_23 : decode b_X_who 23 = .ok (.getfield 128, 3) := by decide +kernel
theorem d_X_who_26 : decode b_X_who 26 = .ok (.goto 7, 3) := by decide +kernel
theorem d_X_who_29 : decode b_X_who 29 = .ok (.aload_n 3, 1) := by decide +kernel
theorem d_X_who_30 : decode b_X_who 30 = .ok (.getfield 137, 3) := by decide +kernel
theorem d_X_who_33 : decode b_X_who 33 = .ok (.astore 4, 2) := by decide +kernel
theorem d_X_who_35 : decode b_X_who 35 = .ok (.iload_n 2, 1) := by decide +kernel
theorem d_X_who_36 : decode b_X_who 36 = .ok (.iconst 2, 1) := by decide +kernel
theorem d_X_who_37 : decode b_X_who 37 = .ok (.if_icmp .ge 11, 3) := by decide +kernel
theorem d_X_who_40 : decode b_X_who 40 = .ok (.aload 4, 2) := by decide +kernel
theorem d_X_who_42 : decode b_X_who 42 = .ok (.getfield 209, 3) := by decide +kernel
theorem d_X_who_45 : decode b_X_who 45 = .ok (.goto 13, 3) := by decide +kernel
theorem d_X_who_48 : decode b_X_who 48 = .ok (.aload 4, 2) := by decide +kernel
theorem d_X_who_50 : decode b_X_who 50 = .ok (.iload_n 2, 1) := by decide +kernel
theorem d_X_who_51 : decode b_X_who 51 = .ok (.iconst 2, 1) := by decide +kernel
theorem d_X_who_52 : decode b_X_who 52 = .ok (.idiv, 1) := by decide +kernel
theorem d_X_who_53 : decode b_X_who 53 = .ok (.iconst 1, 1) := by decide +kernel
theorem d_X_who_54 : decode b_X_who 54 = .ok (.isub, 1) := by decide +kernel
theorem d_X_who_55 : decode b_X_who 55 = .ok (.invokevirtual 210, 3) := by decide +kernel
theorem d_X_who_58 : decode b_X_who 58 = .ok (.ireturn, 1) := by decide +kernel
def f_X_provider_b54 : Int32 → Option Nat → mm → Option (Int32 × mm) := fun t0 t1 M =>
    (t1).bind fun x1 =>
    (kB t0).bind fun _ =>
    (pF 6 2 (.int t0) M x1).bind fun M3 =>
    some (1, M3)
def f_X_provider (v0 : Nat) (v1 : Int32) (v2 : Int32) (v3 : Int32) (M : mm) : Option (Int32 × mm) :=
    (kO 0 M v0).bind fun _ =>
    (f_X_findPack v0 v1 M).bind fun (x4, M4) =>
    qm x4 (
      some ((-1), M4)
      ) fun x6 =>
    (kO 0 M4 v0).bind fun _ =>
    (f_X_findNamed v0 v1 v2 M4).bind fun (x7, M7) =>
    qm x7 (
      (gR 0 8 M7 v0).bind fun x10 =>
      (kO 3 M7 x10).bind fun _ =>
      (f_Notices_append x10 2 v2 M7).bind fun (_, M11) =>
      some (0, M11)
      ) fun x9 =>
    if v2 = v3 then
      (gI 6 2 M7 x9).bind fun x18 =>
      if x18 = 0 then
        f_X_provider_b54 1 (some x9) M7
      else
        f_X_provider_b54 0 (some x9) M7
    else
      (kO 0 M7 v0).bind fun _ =>
      (f_X_findNamed v0 v1 v3 M7).bind fun (x14, M14) =>
      qm x14 (
        (pF 6 1 (.int v3) M14 x9).bind fun M17 =>
        some (1, M17)
        ) fun x16 =>
      some ((-3), M14)
set_option maxHeartbeats 4000000 in
set_option maxRecDepth 100000 in
theorem w_X_provider_b54 {p : Program} {l : Launch} {e : Env} {s : State} {m : MethodId} {args : Array Value} {below : List Frame} {meth : Method} {c : Code} {D : va_G} {dA : Nat → ClassId} {M0 M' : mm} {r : Int32} (C : mm_C p s m args meth c b_X_provider 5 (some .int) R_X D dA (mm_A M0)) : ∀ (t0 : Int32) (t1 : Option Nat) (M : mm) (H : Heap) (locs : List Loc) (ls : Array Slot), f_X_provider_b54 t0 t1 M = some (r, M') → mm_W D dA (mm_A M0) M H → va_S (mm_A M0) s.heap H locs → lv_has ls 5 [] → W p l e rm_X_provider s m args below meth c H locs 0 0 (MQ below (mm_QI D dA M0 r M') args s 0 0 (mm_A M0)) (F0 m 54 ls [.int t0, va_rf t1]) := by
  obtain ⟨hx, hb, hr, hml, hown, hts, hlocks, hK, hA⟩ := id C
  intro t0 t1 M H locs ls h hW hS hl
  unfold f_X_provider_b54 at h
  obtain ⟨x1, e1, h⟩ := ob h
  rw [e1]
  obtain ⟨_, e2, h⟩ := ob h
  obtain ⟨M3, e3, h⟩ := ob h
  refine mr_put C hW hS kp_X_163 (kB_some e2).1 (kB_some e2).2 e3 d_X_provider_54 (fun H locs hW hS => ?_)
  refine lv_iconst (v := 1) hx hb d_X_provider_57 (by decide) ?_
  exact mr_iret C hW hS (Nat.le_of_ble_eq_true rfl) (Nat.le_of_ble_eq_true rfl) h d_X_provider_58
set_option maxHeartbeats 4000000 in
set_option maxRecDepth 100000 in
theorem c_X_provider (l : Launch) (D : va_G) (dA : Nat → ClassId) (M0 M' : mm) (r : Int32) (v0 : Nat) (v1 : Int32) (v2 : Int32) (v3 : Int32) (h : f_X_provider v0 v1 v2 v3 M0 = some (r, M')) : Met l y_X_provider w_X_provider rm_X_provider (mm_Pre D dA M0 [.ref v0, .int v1, .int v2, .int v3]) (mm_QI D dA M0 r M') 0 0 (mm_A M0) := by
  refine Met.ofW (cc := b_X_provider) (maxL := 5) (ret := (some .int)) (by decide) rfl ?_
  intro p e s m args below meth c s₁ B hml hv
  obtain ⟨rfl, hW, hK⟩ := hv
  have C : mm_C p s m _ meth c b_X_provider 5 (some .int) R_X D dA (mm_A M0) := ⟨B.exec, B.bytes, B.returns, hml, findClass_of_methodNamed B.named, fun w hw => atoms_spec (ws := w_X_provider) B.pre w (List.mem_cons_of_mem _ hw), B.notSynchronized, hK, fun q hq => Or.inr (by rw [← hW.1]; exact hq)⟩
  have hS : va_S (mm_A M0) s.heap s.heap [] := va_S.rf
  obtain ⟨hx, hb, hr, hml, hown, hts, hlocks, hK, hA⟩ := id C
  have hl := lv_entry ([.ref v0, .int v1, .int v2, .int v3]) (n := 5) (Nat.le_of_ble_eq_true rfl)
  rw [lg_entry_eq]
  generalize (lg_sl ([.ref v0, .int v1, .int v2, .int v3]) ++ List.replicate (5 - (lg_sl ([.ref v0, .int v1, .int v2, .int v3])).length) Slot.unset).toArray = ls at hl ⊢
  have hl : lv_has ls 5 [(0, .ref v0), (1, .int v1), (2, .int v2), (3, .int v3)] := hl
  unfold f_X_provider at h
  refine lv_aload_n hx hb d_X_provider_0 rfl (lv_at hl 0 rfl) ?_
  refine lv_iload_n hx hb d_X_provider_1 rfl (lv_at hl 1 rfl) ?_
  obtain ⟨_, e5, h⟩ := ob h
  obtain ⟨⟨x4, M4⟩, e4, h⟩ := ob h
  refine mr_cq C hW hS (va_runV (As := [.int v1]) (rest := []) ⟨hx, hb, hml, hown, hts⟩ (c_X_findPack l D dA _ _ _ v0 v1 e4) (cwV 1 hts (mg_V q_67 q_68 q_69 q_70 q_71) rfl rfl rfl (by decide +kernel) ⟨Nat.le_of_ble_eq_true rfl, Nat.le_of_ble_eq_true rfl⟩) (mr_preV C hW (ci := 0) rfl e5) rfl rfl hl.1 rfl (lv_room (Nat.le_of_ble_eq_true rfl)) d_X_provider_2 ⟨Nat.le_of_ble_eq_true rfl, Nat.le_of_ble_eq_true rfl⟩) (fun H locs hW hS => ?_)
  refine mr_ifnonnull (tgt := 10) hx hb d_X_provider_5 (by decide) (fun x6 e6 => ?_) (fun e6 => ?_)
  · rw [e6] at h
    refine lv_aload_n hx hb d_X_provider_10 rfl (lv_at hl 0 rfl) ?_
    refine lv_iload_n hx hb d_X_provider_11 rfl (lv_at hl 1 rfl) ?_
    refine lv_iload_n hx hb d_X_provider_12 rfl (lv_at hl 2 rfl) ?_
    obtain ⟨_, e8, h⟩ := ob h
    obtain ⟨⟨x7, M7⟩, e7, h⟩ := ob h
    refine mr_cq C hW hS (va_runV (As := [.int v1, .int v2]) (rest := []) ⟨hx, hb, hml, hown, hts⟩ (c_X_findNamed l D dA _ _ _ v0 v1 v2 e7) (cwV 2 hts (mg_V q_72 q_73 q_74 q_75 q_71) rfl rfl rfl (by decide +kernel) ⟨Nat.le_of_ble_eq_true rfl, Nat.le_of_ble_eq_true rfl⟩) (mr_preV C hW (ci := 0) rfl e8) rfl rfl hl.1 rfl (lv_room (Nat.le_of_ble_eq_true rfl)) d_X_provider_13 ⟨Nat.le_of_ble_eq_true rfl, Nat.le_of_ble_eq_true rfl⟩) (fun H locs hW hS => ?_)
    refine mr_astoreq (lv' := [(4, va_rf x7), (0, .ref v0), (1, .int v1), (2, .int v2), (3, .int v3)]) hx hb d_X_provider_16 hl (by decide) rfl (fun ls hl => ?_)
    refine mr_aloadq hx hb d_X_provider_18 (lv_at hl 0 rfl) ?_
    refine mr_ifnonnull (tgt := 34) hx hb d_X_provider_20 (by decide) (fun x9 e9 => ?_) (fun e9 => ?_)
    · rw [e9] at h
      rw [e9] at hl
      have hl : lv_has ls 5 [(4, .ref x9), (0, .ref v0), (1, .int v1), (2, .int v2), (3, .int v3)] := hl
      refine lv_iload_n hx hb d_X_provider_34 rfl (lv_at hl 3 rfl) ?_
      refine lv_iload_n hx hb d_X_provider_35 rfl (lv_at hl 4 rfl) ?_
      refine lv_icmp_ne (tgt := 59) hx hb d_X_provider_36 (by decide) (fun c13 => ?_) (fun c13 => ?_)
      · have h := ifn h c13
        refine lv_aload_n hx hb d_X_provider_59 rfl (lv_at hl 1 rfl) ?_
        refine lv_iload_n hx hb d_X_provider_60 rfl (lv_at hl 2 rfl) ?_
        refine lv_iload_n hx hb d_X_provider_61 rfl (lv_at hl 4 rfl) ?_
        obtain ⟨_, e15, h⟩ := ob h
        obtain ⟨⟨x14, M14⟩, e14, h⟩ := ob h
        refine mr_cq C hW hS (va_runV (As := [.int v1, .int v3]) (rest := []) ⟨hx, hb, hml, hown, hts⟩ (c_X_findNamed l D dA _ _ _ v0 v1 v3 e14) (cwV 2 hts (mg_V q_72 q_73 q_74 q_75 q_71) rfl rfl rfl (by decide +kernel) ⟨Nat.le_of_ble_eq_true rfl, Nat.le_of_ble_eq_true rfl⟩) (mr_preV C hW (ci := 0) rfl e15) rfl rfl hl.1 rfl (lv_room (Nat.le_of_ble_eq_true rfl)) d_X_provider_62 ⟨Nat.le_of_ble_eq_true rfl, Nat.le_of_ble_eq_true rfl⟩) (fun H locs hW hS => ?_)
        refine mr_ifnull (tgt := 71) hx hb d_X_provider_65 (by decide) (fun e16 => ?_) (fun x16 e16 => ?_)
        · rw [e16] at h
          refine lv_aload hx hb d_X_provider_71 (lv_at hl 0 rfl) ?_
          refine lv_iload_n hx hb d_X_provider_73 rfl (lv_at hl 4 rfl) ?_
          obtain ⟨M17, e17, h⟩ := ob h
          refine mr_put C hW hS kp_X_166 rfl rfl e17 d_X_provider_74 (fun H locs hW hS => ?_)
          refine lv_iconst (v := 1) hx hb d_X_provider_77 (by decide) ?_
          exact mr_iret C hW hS (Nat.le_of_ble_eq_true rfl) (Nat.le_of_ble_eq_true rfl) h d_X_provider_78
        · rw [e16] at h
          refine lv_bipush (v := (-3)) hx hb d_X_provider_68 (by decide) ?_
          exact mr_iret C hW hS (Nat.le_of_ble_eq_true rfl) (Nat.le_of_ble_eq_true rfl) h d_X_provider_70
      · have h := ifp h c13
        refine lv_aload hx hb d_X_provider_39 (lv_at hl 0 rfl) ?_
        refine lv_aload hx hb d_X_provider_41 (lv_at hl 0 rfl) ?_
        obtain ⟨x18, e18, h⟩ := ob h
        refine mr_gI C hW k_X_163 e18 d_X_provider_43 ?_
        refine lv_if_ne (tgt := 53) hx hb d_X_provider_46 (by decide) (fun c19 => ?_) (fun c19 => ?_)
        · have h := ifn h c19
          refine lv_iconst (v := 0) hx hb d_X_provider_53 (by decide) ?_
          exact w_X_provider_b54 C _ _ _ _ _ _ h hW hS (lv_sub hl [] rfl)
        · have h := ifp h c19
          refine lv_iconst (v := 1) hx hb d_X_provider_49 (by decide) ?_
          refine lv_goto (tgt := 54) hx hb d_X_provider_50 (by decide) ?_
          exact w_X_provider_b54 C _ _ _ _ _ _ h hW hS (lv_sub hl [] rfl)
    · rw [e9] at h
      refine lv_aload_n hx hb d_X_provider_23 rfl (lv_at hl 1 rfl) ?_
      obtain ⟨x10, e10, h⟩ := ob h
      refine mr_gR C hW k_X_51 e10 d_X_provider_24 ?_
      refine lv_iconst (v := 2) hx hb d_X_provider_27 (by decide) ?_
      refine lv_iload_n hx hb d_X_provider_28 rfl (lv_at hl 3 rfl) ?_
      obtain ⟨_, e12, h⟩ := ob h
      obtain ⟨⟨u11, M11⟩, e11, h⟩ := ob h
      refine mr_cv C hW hS (va_runV (As := [.int 2, .int v2]) (rest := []) ⟨hx, hb, hml, hown, hts⟩ (c_Notices_append l D dA _ _ _ x10 2 v2 e11) (cwV 2 hts (mg_V q_170 q_171 q_172 q_173 q_31) rfl rfl rfl (by decide +kernel) ⟨Nat.le_of_ble_eq_true rfl, Nat.le_of_ble_eq_true rfl⟩) (mr_preV C hW (ci := 3) rfl e12) rfl rfl hl.1 rfl (lv_room (Nat.le_of_ble_eq_true rfl)) d_X_provider_29 ⟨Nat.le_of_ble_eq_true rfl, Nat.le_of_ble_eq_true rfl⟩) (fun H locs hW hS => ?_)
      refine lv_iconst (v := 0) hx hb d_X_provider_32 (by decide) ?_
      exact mr_iret C hW hS (Nat.le_of_ble_eq_true rfl) (Nat.le_of_ble_eq_true rfl) h d_X_provider_33
  · rw [e6] at h
    refine lv_iconst (v := (-1)) hx hb d_X_provider_8 (by decide) ?_
    exact mr_iret C hW hS (Nat.le_of_ble_eq_true rfl) (Nat.le_of_ble_eq_true rfl) h d_X_provider_9
def f_X_countGoingOn_b5 : Nat → Nat → Int32 → Int32 → Int32 → Int32 → mm → Option (Int32 × mm)
  | 0, _, _, _, _, _, _ => none
  | n + 1, v0, v1, v2, v3, v4, M =>
    (gI 0 3 M v0).bind fun x1 =>
    if x1 ≤ v4 then
      some (v3, M)
    else
      (gR 0 2 M v0).bind fun x3 =>
      (aR 3 M x3 v4).bind fun x4 =>
      (gR 6 0 M x4).bind fun x5 =>
      (gI 4 0 M x5).bind fun x6 =>
      if x6 = v1 then
        (kO 6 M x4).bind fun _ =>
        (f_Title_lastDay x4 M).bind fun (x8, M8) =>
        if x8 ≤ v2 then
          f_X_countGoingOn_b5 n v0 v1 v2 v3 (v4 + 1) M8
        else
          f_X_countGoingOn_b5 n v0 v1 v2 (v3 + 1) (v4 + 1) M8
      else
        f_X_countGoingOn_b5 n v0 v1 v2 v3 (v4 + 1) M
def f_X_countGoingOn (v0 : Nat) (v1 : Int32) (v2 : Int32) (M : mm) : Option (Int32 × mm) :=
    f_X_countGoingOn_b5 FU v0 v1 v2 0 0 M
set_option maxHeartbeats 4000000 in
set_option maxRecDepth 100000 in
theorem w_X_countGoingOn_b5 {p : Program} {l : Launch} {e : Env} {s : State} {m : MethodId} {args : Array Value} {below : List Frame} {meth : Method} {c : Code} {D : va_G} {dA : Nat → ClassId} {M0 M' : mm} {r : Int32} (C : mm_C p s m args meth c b_X_countGoingOn 6 (some .int) R_X D dA (mm_A M0)) : ∀ (n : Nat), ∀ (v0 : Nat) (v1 : Int32) (v2 : Int32) (v3 : Int32) (v4 : Int32) (M : mm) (H : Heap) (locs : List Loc) (ls : Array Slot), f_X_countGoingOn_b5 n v0 v1 v2 v3 v4 M = some (r, M') → mm_W D dA (mm_A M0) M H → va_S (mm_A M0) s.heap H locs → lv_has ls 6 [(0, .ref v0), (1, .int v1), (2, .int v2), (3, .int v3), (4, .int v4)] → W p l e rm_X_countGoingOn s m args below meth c H locs 0 0 (MQ below (mm_QI D dA M0 r M') args s 0 0 (mm_A M0)) (F0 m 5 ls []) := by
  obtain ⟨hx, hb, hr, hml, hown, hts, hlocks, hK, hA⟩ := id C
  intro n
  induction n with
  | zero =>
    intro v0 v1 v2 v3 v4 M H locs ls h hW hS hl
    unfold f_X_countGoingOn_b5 at h
    cases h
  | succ n ih =>
    intro v0 v1 v2 v3 v4 M H locs ls h hW hS hl
    unfold f_X_countGoingOn_b5 at h
    refine lv_iload hx hb d_X_countGoingOn_5 (lv_at hl 4 rfl) ?_
    refine lv_aload_n hx hb d_X_countGoingOn_7 rfl (lv_at hl 0 rfl) ?_
    obtain ⟨x1, e1, h⟩ := ob h
    refine mr_gI C hW k_X_25 e1 d_X_countGoingOn_8 ?_
    refine lv_icmp_ge (tgt := 58) hx hb d_X_countGoingOn_11 (by decide) (fun c2 => ?_) (fun c2 => ?_)
    · have h := ifp h c2
      refine lv_iload_n hx hb d_X_countGoingOn_58 rfl (lv_at hl 3 rfl) ?_
      exact mr_iret C hW hS (Nat.le_of_ble_eq_true rfl) (Nat.le_of_ble_eq_true rfl) h d_X_countGoingOn_59
    · have h := ifn h c2
      refine lv_aload_n hx hb d_X_countGoingOn_14 rfl (lv_at hl 0 rfl) ?_
      obtain ⟨x3, e3, h⟩ := ob h
      refine mr_gR C hW k_X_21 e3 d_X_countGoingOn_15 ?_
      refine lv_iload hx hb d_X_countGoingOn_18 (lv_at hl 4 rfl) ?_
      obtain ⟨x4, e4, h⟩ := ob h
      refine mr_aR C hW (t0 := 3) rfl e4 d_X_countGoingOn_20 ?_
      refine lv_astore (lv' := [(5, .ref x4), (0, .ref v0), (1, .int v1), (2, .int v2), (3, .int v3), (4, .int v4)]) hx hb d_X_countGoingOn_21 hl (by decide) rfl (fun ls hl => ?_)
      refine lv_aload hx hb d_X_countGoingOn_23 (lv_at hl 0 rfl) ?_
      refine lv_ifnull hx hb d_X_countGoingOn_25 ?_
      refine lv_aload hx hb d_X_countGoingOn_28 (lv_at hl 0 rfl) ?_
      obtain ⟨x5, e5, h⟩ := ob h
      refine mr_gR C hW k_X_175 e5 d_X_countGoingOn_30 ?_
      obtain ⟨x6, e6, h⟩ := ob h
      refine mr_gI C hW k_X_179 e6 d_X_countGoingOn_33 ?_
      refine lv_iload_n hx hb d_X_countGoingOn_36 rfl (lv_at hl 2 rfl) ?_
      refine lv_icmp_ne (tgt := 52) hx hb d_X_countGoingOn_37 (by decide) (fun c7 => ?_) (fun c7 => ?_)
      · have h := ifn h c7
        refine lv_iinc (v := v4 + 1) (lv' := [(4, .int (v4 + 1)), (5, .ref x4), (0, .ref v0), (1, .int v1), (2, .int v2), (3, .int v3)]) hx hb d_X_countGoingOn_52 hl (k := 5) rfl rfl (by decide) rfl (fun ls hl => ?_)
        refine lv_goto (tgt := 5) hx hb d_X_countGoingOn_55 (by decide) ?_
        exact ih _ _ _ _ _ _ _ _ _ h hW hS (lv_sub hl [2, 3, 4, 5, 0] rfl)
      · have h := ifp h c7
        refine lv_aload hx hb d_X_countGoingOn_40 (lv_at hl 0 rfl) ?_
        obtain ⟨_, e9, h⟩ := ob h
        obtain ⟨⟨x8, M8⟩, e8, h⟩ := ob h
        refine mr_ci C hW hS (va_runV (As := []) (rest := []) ⟨hx, hb, hml, hown, hts⟩ (c_Title_lastDay l D dA _ _ _ x4 e8) (cwV 0 hts (mg_V q_204 q_205 q_206 q_207 q_77) rfl rfl rfl (by decide +kernel) ⟨Nat.le_of_ble_eq_true rfl, Nat.le_of_ble_eq_true rfl⟩) (mr_preV C hW (ci := 6) rfl e9) rfl rfl hl.1 rfl (lv_room (Nat.le_of_ble_eq_true rfl)) d_X_countGoingOn_42 ⟨Nat.le_of_ble_eq_true rfl, Nat.le_of_ble_eq_true rfl⟩) (fun H locs hW hS => ?_)
        refine lv_iload_n hx hb d_X_countGoingOn_45 rfl (lv_at hl 3 rfl) ?_
        refine lv_icmp_le (tgt := 52) hx hb d_X_countGoingOn_46 (by decide) (fun c10 => ?_) (fun c10 => ?_)
        · have h := ifp h c10
          refine lv_iinc (v := v4 + 1) (lv' := [(4, .int (v4 + 1)), (5, .ref x4), (0, .ref v0), (1, .int v1), (2, .int v2), (3, .int v3)]) hx hb d_X_countGoingOn_52 hl (k := 5) rfl rfl (by decide) rfl (fun ls hl => ?_)
          refine lv_goto (tgt := 5) hx hb d_X_countGoingOn_55 (by decide) ?_
          exact ih _ _ _ _ _ _ _ _ _ h hW hS (lv_sub hl [2, 3, 4, 5, 0] rfl)
        · have h := ifn h c10
          refine lv_iinc (v := v3 + 1) (lv' := [(3, .int (v3 + 1)), (5, .ref x4), (0, .ref v0), (1, .int v1), (2, .int v2), (4, .int v4)]) hx hb d_X_countGoingOn_49 hl (k := 4) rfl rfl (by decide) rfl (fun ls hl => ?_)
          refine lv_iinc (v := v4 + 1) (lv' := [(4, .int (v4 + 1)), (3, .int (v3 + 1)), (5, .ref x4), (0, .ref v0), (1, .int v1), (2, .int v2)]) hx hb d_X_countGoingOn_52 hl (k := 5) rfl rfl (by decide) rfl (fun ls hl => ?_)
          refine lv_goto (tgt := 5) hx hb d_X_countGoingOn_55 (by decide) ?_
          exact ih _ _ _ _ _ _ _ _ _ h hW hS (lv_sub hl [3, 4, 5, 1, 0] rfl)
set_option maxHeartbeats 4000000 in
set_option maxRecDepth 100000 in
theorem c_X_countGoingOn (l : Launch) (D : va_G) (dA : Nat → ClassId) (M0 M' : mm) (r : Int32) (v0 : Nat) (v1 : Int32) (v2 : Int32) (h : f_X_countGoingOn v0 v1 v2 M0 = some (r, M')) : Met l y_X_countGoingOn w_X_countGoingOn rm_X_countGoingOn (mm_Pre D dA M0 [.ref v0, .int v1, .int v2]) (mm_QI D dA M0 r M') 0 0 (mm_A M0) := by
  refine Met.ofW (cc := b_X_countGoingOn) (maxL := 6) (ret := (some .int)) (by decide) rfl ?_
  intro p e s m args below meth c s₁ B hml hv
  obtain ⟨rfl, hW, hK⟩ := hv
  have C : mm_C p s m _ meth c b_X_countGoingOn 6 (some .int) R_X D dA (mm_A M0) := ⟨B.exec, B.bytes, B.returns, hml, findClass_of_methodNamed B.named, fun w hw => atoms_spec (ws := w_X_countGoingOn) B.pre w (List.mem_cons_of_mem _ hw), B.notSynchronized, hK, fun q hq => Or.inr (by rw [← hW.1]; exact hq)⟩
  have hS : va_S (mm_A M0) s.heap s.heap [] := va_S.rf
  obtain ⟨hx, hb, hr, hml, hown, hts, hlocks, hK, hA⟩ := id C
  have hl := lv_entry ([.ref v0, .int v1, .int v2]) (n := 6) (Nat.le_of_ble_eq_true rfl)
  rw [lg_entry_eq]
  generalize (lg_sl ([.ref v0, .int v1, .int v2]) ++ List.replicate (6 - (lg_sl ([.ref v0, .int v1, .int v2])).length) Slot.unset).toArray = ls at hl ⊢
  have hl : lv_has ls 6 [(0, .ref v0), (1, .int v1), (2, .int v2)] := hl
  unfold f_X_countGoingOn at h
  refine lv_iconst (v := 0) hx hb d_X_countGoingOn_0 (by decide) ?_
  refine lv_istore_n (lv' := [(3, .int 0), (0, .ref v0), (1, .int v1), (2, .int v2)]) hx hb d_X_countGoingOn_1 rfl hl (by decide) rfl (fun ls hl => ?_)
  refine lv_iconst (v := 0) hx hb d_X_countGoingOn_2 (by decide) ?_
  refine lv_istore (lv' := [(4, .int 0), (3, .int 0), (0, .ref v0), (1, .int v1), (2, .int v2)]) hx hb d_X_countGoingOn_3 hl (by decide) rfl (fun ls hl => ?_)
  exact w_X_countGoingOn_b5 C FU _ _ _ _ _ _ _ _ _ h hW hS (lv_sub hl [2, 3, 4, 1, 0] rfl)
def f_X_end (v0 : Nat) (v1 : Int32) (v2 : Int32) (M : mm) : Option (Int32 × mm) :=
    (kO 0 M v0).bind fun _ =>
    (f_X_findPack v0 v1 M).bind fun (x1, M1) =>
    qm x1 (
      some ((-1), M1)
      ) fun x3 =>
    (f_X_isDay v2 M1).bind fun (x4, M4) =>
    if x4 = 0 then
      some ((-2), M4)
    else
      (gI 4 5 M4 x3).bind fun x6 =>
      if x6 = ((-1)) then
        (pF 4 5 (.int v2) M4 x3).bind fun M8 =>
        (kO 0 M8 v0).bind fun _ =>
        (f_X_countGoingOn v0 v1 v2 M8).bind fun (x9, M9) =>
        some (x9, M9)
      else
        some ((-3), M4)
set_option maxHeartbeats 4000000 in
set_option maxRecDepth 100000 in
theorem c_X_end (l : Launch) (D : va_G) (dA : Nat → ClassId) (M0 M' : mm) (r : Int32) (v0 : Nat) (v1 : Int32) (v2 : Int32) (h : f_X_end v0 v1 v2 M0 = some (r, M')) : Met l y_X_end w_X_end rm_X_end (mm_Pre D dA M0 [.ref v0, .int v1, .int v2]) (mm_QI D dA M0 r M') 0 0 (mm_A M0) := by
  refine Met.ofW (cc := b_X_end) (maxL := 4) (ret := (some .int)) (by decide) rfl ?_
  intro p e s m args below meth c s₁ B hml hv
  obtain ⟨rfl, hW, hK⟩ := hv
  have C : mm_C p s m _ meth c b_X_end 4 (some .int) R_X D dA (mm_A M0) := ⟨B.exec, B.bytes, B.returns, hml, findClass_of_methodNamed B.named, fun w hw => atoms_spec (ws := w_X_end) B.pre w (List.mem_cons_of_mem _ hw), B.notSynchronized, hK, fun q hq => Or.inr (by rw [← hW.1]; exact hq)⟩
  have hS : va_S (mm_A M0) s.heap s.heap [] := va_S.rf
  obtain ⟨hx, hb, hr, hml, hown, hts, hlocks, hK, hA⟩ := id C
  have hl := lv_entry ([.ref v0, .int v1, .int v2]) (n := 4) (Nat.le_of_ble_eq_true rfl)
  rw [lg_entry_eq]
  generalize (lg_sl ([.ref v0, .int v1, .int v2]) ++ List.replicate (4 - (lg_sl ([.ref v0, .int v1, .int v2])).length) Slot.unset).toArray = ls at hl ⊢
  have hl : lv_has ls 4 [(0, .ref v0), (1, .int v1), (2, .int v2)] := hl
  unfold f_X_end at h
  refine lv_aload_n hx hb d_X_end_0 rfl (lv_at hl 0 rfl) ?_
  refine lv_iload_n hx hb d_X_end_1 rfl (lv_at hl 1 rfl) ?_
  obtain ⟨_, e2, h⟩ := ob h
  obtain ⟨⟨x1, M1⟩, e1, h⟩ := ob h
  refine mr_cq C hW hS (va_runV (As := [.int v1]) (rest := []) ⟨hx, hb, hml, hown, hts⟩ (c_X_findPack l D dA _ _ _ v0 v1 e1) (cwV 1 hts (mg_V q_67 q_68 q_69 q_70 q_71) rfl rfl rfl (by decide +kernel) ⟨Nat.le_of_ble_eq_true rfl, Nat.le_of_ble_eq_true rfl⟩) (mr_preV C hW (ci := 0) rfl e2) rfl rfl hl.1 rfl (lv_room (Nat.le_of_ble_eq_true rfl)) d_X_end_2 ⟨Nat.le_of_ble_eq_true rfl, Nat.le_of_ble_eq_true rfl⟩) (fun H locs hW hS => ?_)
  refine mr_astore_nq (lv' := [(3, va_rf x1), (0, .ref v0), (1, .int v1), (2, .int v2)]) hx hb d_X_end_5 rfl hl (by decide) rfl (fun ls hl => ?_)
  refine mr_aload_nq hx hb d_X_end_6 rfl (lv_at hl 0 rfl) ?_
  refine mr_ifnonnull (tgt := 12) hx hb d_X_end_7 (by decide) (fun x3 e3 => ?_) (fun e3 => ?_)
  · rw [e3] at h
    rw [e3] at hl
    have hl : lv_has ls 4 [(3, .ref x3), (0, .ref v0), (1, .int v1), (2, .int v2)] := hl
    refine lv_iload_n hx hb d_X_end_12 rfl (lv_at hl 3 rfl) ?_
    obtain ⟨⟨x4, M4⟩, e4, h⟩ := ob h
    refine mr_ci C hW hS (va_runS (As := [.int v2]) (rest := []) ⟨hx, hb, hml, hown, hts⟩ (c_X_isDay l D dA _ _ _ v2 e4) (cwS 1 hts (mg_S q_86 q_87 q_88 q_71) rfl rfl rfl (by decide +kernel) ⟨Nat.le_of_ble_eq_true rfl, Nat.le_of_ble_eq_true rfl⟩) (mr_pre C hW) rfl rfl hl.1 rfl (lv_room (Nat.le_of_ble_eq_true rfl)) d_X_end_13 ⟨Nat.le_of_ble_eq_true rfl, Nat.le_of_ble_eq_true rfl⟩) (fun H locs hW hS => ?_)
    refine lv_if_ne (tgt := 22) hx hb d_X_end_16 (by decide) (fun c5 => ?_) (fun c5 => ?_)
    · have h := ifn h c5
      refine lv_aload_n hx hb d_X_end_22 rfl (lv_at hl 0 rfl) ?_
      obtain ⟨x6, e6, h⟩ := ob h
      refine mr_gI C hW k_X_169 e6 d_X_end_23 ?_
      refine lv_iconst (v := (-1)) hx hb d_X_end_26 (by decide) ?_
      refine lv_icmp_eq (tgt := 33) hx hb d_X_end_27 (by decide) (fun c7 => ?_) (fun c7 => ?_)
      · have h := ifp h c7
        refine lv_aload_n hx hb d_X_end_33 rfl (lv_at hl 0 rfl) ?_
        refine lv_iload_n hx hb d_X_end_34 rfl (lv_at hl 3 rfl) ?_
        obtain ⟨M8, e8, h⟩ := ob h
        refine mr_put C hW hS kp_X_169 rfl rfl e8 d_X_end_35 (fun H locs hW hS => ?_)
        refine lv_aload_n hx hb d_X_end_38 rfl (lv_at hl 1 rfl) ?_
        refine lv_iload_n hx hb d_X_end_39 rfl (lv_at hl 2 rfl) ?_
        refine lv_iload_n hx hb d_X_end_40 rfl (lv_at hl 3 rfl) ?_
        obtain ⟨_, e10, h⟩ := ob h
        obtain ⟨⟨x9, M9⟩, e9, h⟩ := ob h
        refine mr_ci C hW hS (va_runV (As := [.int v1, .int v2]) (rest := []) ⟨hx, hb, hml, hown, hts⟩ (c_X_countGoingOn l D dA _ _ _ v0 v1 v2 e9) (cwV 2 hts (mg_V q_209 q_210 q_211 q_212 q_71) rfl rfl rfl (by decide +kernel) ⟨Nat.le_of_ble_eq_true rfl, Nat.le_of_ble_eq_true rfl⟩) (mr_preV C hW (ci := 0) rfl e10) rfl rfl hl.1 rfl (lv_room (Nat.le_of_ble_eq_true rfl)) d_X_end_41 ⟨Nat.le_of_ble_eq_true rfl, Nat.le_of_ble_eq_true rfl⟩) (fun H locs hW hS => ?_)
        exact mr_iret C hW hS (Nat.le_of_ble_eq_true rfl) (Nat.le_of_ble_eq_true rfl) h d_X_end_44
      · have h := ifn h c7
        refine lv_bipush (v := (-3)) hx hb d_X_end_30 (by decide) ?_
        exact mr_iret C hW hS (Nat.le_of_ble_eq_true rfl) (Nat.le_of_ble_eq_true rfl) h d_X_end_32
    · have h := ifp h c5
      refine lv_bipush (v := (-2)) hx hb d_X_end_19 (by decide) ?_
      exact mr_iret C hW hS (Nat.le_of_ble_eq_true rfl) (Nat.le_of_ble_eq_true rfl) h d_X_end_21
  · rw [e3] at h
    refine lv_iconst (v := (-1)) hx hb d_X_end_10 (by decide) ?_
    exact mr_iret C hW hS (Nat.le_of_ble_eq_true rfl) (Nat.le_of_ble_eq_true rfl) h d_X_end_11
def f_X_about (v0 : Nat) (v1 : Int32) (v2 : Int32) (M : mm) : Option (Int32 × mm) :=
    (kO 0 M v0).bind fun _ =>
    (f_X_findTitle v0 v1 M).bind fun (x1, M1) =>
    qm x1 (
      some ((-1), M1)
      ) fun x3 =>
    if v2 = 0 then
      (gR 6 0 M1 x3).bind fun x5 =>
      (gI 4 0 M1 x5).bind fun x6 =>
      some (x6, M1)
    else
    if v2 = 1 then
      (gI 6 1 M1 x3).bind fun x8 =>
      some (x8, M1)
    else
    if v2 = 2 then
      (gI 6 2 M1 x3).bind fun x10 =>
      if x10 = 0 then
        some (0, M1)
      else
        some (1, M1)
    else
    if v2 = 3 then
      (gI 6 6 M1 x3).bind fun x13 =>
      some (x13, M1)
    else
    if v2 = 4 then
      (gI 6 3 M1 x3).bind fun x15 =>
      some (x15, M1)
    else
    if v2 = 5 then
      (gR 0 7 M1 v0).bind fun x17 =>
      (kO 7 M1 x17).bind fun _ =>
      (f_Usages_ofTitle x17 v1 M1).bind fun (x18, M18) =>
      some (x18, M18)
    else
    if v2 = 6 then
      (kO 6 M1 x3).bind fun _ =>
      (f_Title_firstDay x3 M1).bind fun (x21, M21) =>
      some (x21, M21)
    else
    if v2 = 7 then
      (kO 6 M1 x3).bind fun _ =>
      (f_Title_lastDay x3 M1).bind fun (x24, M24) =>
      some (x24, M24)
    else
    some ((-1), M1)
set_option maxHeartbeats 4000000 in
set_option maxRecDepth 100000 in
theorem c_X_about (l : Launch) (D : va_G) (dA : Nat → ClassId) (M0 M' : mm) (r : Int32) (v0 : Nat) (v1 : Int32) (v2 : Int32) (h : f_X_about v0 v1 v2 M0 = some (r, M')) : Met l y_X_about w_X_about rm_X_about (mm_Pre D dA M0 [.ref v0, .int v1, .int v2]) (mm_QI D dA M0 r M') 0 0 (mm_A M0) := by
  refine Met.ofW (cc := b_X_about) (maxL := 4) (ret := (some .int)) (by decide) rfl ?_
  intro p e s m args below meth c s₁ B hml hv
  obtain ⟨rfl, hW, hK⟩ := hv
  have C : mm_C p s m _ meth c b_X_about 4 (some .int) R_X D dA (mm_A M0) := ⟨B.exec, B.bytes, B.returns, hml, findClass_of_methodNamed B.named, fun w hw => atoms_spec (ws := w_X_about) B.pre w (List.mem_cons_of_mem _ hw), B.notSynchronized, hK, fun q hq => Or.inr (by rw [← hW.1]; exact hq)⟩
  have hS : va_S (mm_A M0) s.heap s.heap [] := va_S.rf
  obtain ⟨hx, hb, hr, hml, hown, hts, hlocks, hK, hA⟩ := id C
  have hl := lv_entry ([.ref v0, .int v1, .int v2]) (n := 4) (Nat.le_of_ble_eq_true rfl)
  rw [lg_entry_eq]
  generalize (lg_sl ([.ref v0, .int v1, .int v2]) ++ List.replicate (4 - (lg_sl ([.ref v0, .int v1, .int v2])).length) Slot.unset).toArray = ls at hl ⊢
  have hl : lv_has ls 4 [(0, .ref v0), (1, .int v1), (2, .int v2)] := hl
  unfold f_X_about at h
  refine lv_aload_n hx hb d_X_about_0 rfl (lv_at hl 0 rfl) ?_
  refine lv_iload_n hx hb d_X_about_1 rfl (lv_at hl 1 rfl) ?_
  obtain ⟨_, e2, h⟩ := ob h
  obtain ⟨⟨x1, M1⟩, e1, h⟩ := ob h
  refine mr_cq C hW hS (va_runV (As := [.int v1]) (rest := []) ⟨hx, hb, hml, hown, hts⟩ (c_X_findTitle l D dA _ _ _ v0 v1 e1) (cwV 1 hts (mg_V q_82 q_83 q_84 q_85 q_71) rfl rfl rfl (by decide +kernel) ⟨Nat.le_of_ble_eq_true rfl, Nat.le_of_ble_eq_true rfl⟩) (mr_preV C hW (ci := 0) rfl e2) rfl rfl hl.1 rfl (lv_room (Nat.le_of_ble_eq_true rfl)) d_X_about_2 ⟨Nat.le_of_ble_eq_true rfl, Nat.le_of_ble_eq_true rfl⟩) (fun H locs hW hS => ?_)
  refine mr_astore_nq (lv' := [(3, va_rf x1), (0, .ref v0), (1, .int v1), (2, .int v2)]) hx hb d_X_about_5 rfl hl (by decide) rfl (fun ls hl => ?_)
  refine mr_aload_nq hx hb d_X_about_6 rfl (lv_at hl 0 rfl) ?_
  refine mr_ifnonnull (tgt := 12) hx hb d_X_about_7 (by decide) (fun x3 e3 => ?_) (fun e3 => ?_)
  · rw [e3] at h
    rw [e3] at hl
    have hl : lv_has ls 4 [(3, .ref x3), (0, .ref v0), (1, .int v1), (2, .int v2)] := hl
    refine lv_iload_n hx hb d_X_about_12 rfl (lv_at hl 3 rfl) ?_
    by_cases c4 : v2 = 0
    · have h := ifp h c4
      refine lv_tableIn (tgt := 60) hx hb d_X_about_13 (by rw [c4]; decide) (by rw [c4]; decide) (by rw [c4]; rfl) (by decide) ?_
      refine lv_aload_n hx hb d_X_about_60 rfl (lv_at hl 0 rfl) ?_
      obtain ⟨x5, e5, h⟩ := ob h
      refine mr_gR C hW k_X_175 e5 d_X_about_61 ?_
      obtain ⟨x6, e6, h⟩ := ob h
      refine mr_gI C hW k_X_179 e6 d_X_about_64 ?_
      exact mr_iret C hW hS (Nat.le_of_ble_eq_true rfl) (Nat.le_of_ble_eq_true rfl) h d_X_about_67
    have h := ifn h c4
    by_cases c7 : v2 = 1
    · have h := ifp h c7
      refine lv_tableIn (tgt := 68) hx hb d_X_about_13 (by rw [c7]; decide) (by rw [c7]; decide) (by rw [c7]; rfl) (by decide) ?_
      refine lv_aload_n hx hb d_X_about_68 rfl (lv_at hl 0 rfl) ?_
      obtain ⟨x8, e8, h⟩ := ob h
      refine mr_gI C hW k_X_166 e8 d_X_about_69 ?_
      exact mr_iret C hW hS (Nat.le_of_ble_eq_true rfl) (Nat.le_of_ble_eq_true rfl) h d_X_about_72
    have h := ifn h c7
    by_cases c9 : v2 = 2
    · have h := ifp h c9
      refine lv_tableIn (tgt := 73) hx hb d_X_about_13 (by rw [c9]; decide) (by rw [c9]; decide) (by rw [c9]; rfl) (by decide) ?_
      refine lv_aload_n hx hb d_X_about_73 rfl (lv_at hl 0 rfl) ?_
      obtain ⟨x10, e10, h⟩ := ob h
      refine mr_gI C hW k_X_163 e10 d_X_about_74 ?_
      refine lv_if_eq (tgt := 84) hx hb d_X_about_77 (by decide) (fun c11 => ?_) (fun c11 => ?_)
      · have h := ifp h c11
        refine lv_iconst (v := 0) hx hb d_X_about_84 (by decide) ?_
        exact mr_iret C hW hS (Nat.le_of_ble_eq_true rfl) (Nat.le_of_ble_eq_true rfl) h d_X_about_85
      · have h := ifn h c11
        refine lv_iconst (v := 1) hx hb d_X_about_80 (by decide) ?_
        refine lv_goto (tgt := 85) hx hb d_X_about_81 (by decide) ?_
        exact mr_iret C hW hS (Nat.le_of_ble_eq_true rfl) (Nat.le_of_ble_eq_true rfl) h d_X_about_85
    have h := ifn h c9
    by_cases c12 : v2 = 3
    · have h := ifp h c12
      refine lv_tableIn (tgt := 86) hx hb d_X_about_13 (by rw [c12]; decide) (by rw [c12]; decide) (by rw [c12]; rfl) (by decide) ?_
      refine lv_aload_n hx hb d_X_about_86 rfl (lv_at hl 0 rfl) ?_
      obtain ⟨x13, e13, h⟩ := ob h
      refine mr_gI C hW k_X_84 e13 d_X_about_87 ?_
      exact mr_iret C hW hS (Nat.le_of_ble_eq_true rfl) (Nat.le_of_ble_eq_true rfl) h d_X_about_90
    have h := ifn h c12
    by_cases c14 : v2 = 4
    · have h := ifp h c14
      refine lv_tableIn (tgt := 91) hx hb d_X_about_13 (by rw [c14]; decide) (by rw [c14]; decide) (by rw [c14]; rfl) (by decide) ?_
      refine lv_aload_n hx hb d_X_about_91 rfl (lv_at hl 0 rfl) ?_
      obtain ⟨x15, e15, h⟩ := ob h
      refine mr_gI C hW k_X_91 e15 d_X_about_92 ?_
      exact mr_iret C hW hS (Nat.le_of_ble_eq_true rfl) (Nat.le_of_ble_eq_true rfl) h d_X_about_95
    have h := ifn h c14
    by_cases c16 : v2 = 5
    · have h := ifp h c16
      refine lv_tableIn (tgt := 96) hx hb d_X_about_13 (by rw [c16]; decide) (by rw [c16]; decide) (by rw [c16]; rfl) (by decide) ?_
      refine lv_aload_n hx hb d_X_about_96 rfl (lv_at hl 1 rfl) ?_
      obtain ⟨x17, e17, h⟩ := ob h
      refine mr_gR C hW k_X_44 e17 d_X_about_97 ?_
      refine lv_iload_n hx hb d_X_about_100 rfl (lv_at hl 2 rfl) ?_
      obtain ⟨_, e19, h⟩ := ob h
      obtain ⟨⟨x18, M18⟩, e18, h⟩ := ob h
      refine mr_ci C hW hS (va_runV (As := [.int v1]) (rest := []) ⟨hx, hb, hml, hown, hts⟩ (c_Usages_ofTitle l D dA _ _ _ x17 v1 e18) (cwV 1 hts (mg_V q_213 q_214 q_215 q_216 q_25) rfl rfl rfl (by decide +kernel) ⟨Nat.le_of_ble_eq_true rfl, Nat.le_of_ble_eq_true rfl⟩) (mr_preV C hW (ci := 7) rfl e19) rfl rfl hl.1 rfl (lv_room (Nat.le_of_ble_eq_true rfl)) d_X_about_101 ⟨Nat.le_of_ble_eq_true rfl, Nat.le_of_ble_eq_true rfl⟩) (fun H locs hW hS => ?_)
      exact mr_iret C hW hS (Nat.le_of_ble_eq_true rfl) (Nat.le_of_ble_eq_true rfl) h d_X_about_104
    have h := ifn h c16
    by_cases c20 : v2 = 6
    · have h := ifp h c20
      refine lv_tableIn (tgt := 105) hx hb d_X_about_13 (by rw [c20]; decide) (by rw [c20]; decide) (by rw [c20]; rfl) (by decide) ?_
      refine lv_aload_n hx hb d_X_about_105 rfl (lv_at hl 0 rfl) ?_
      obtain ⟨_, e22, h⟩ := ob h
      obtain ⟨⟨x21, M21⟩, e21, h⟩ := ob h
      refine mr_ci C hW hS (va_runV (As := []) (rest := []) ⟨hx, hb, hml, hown, hts⟩ (c_Title_firstDay l D dA _ _ _ x3 e21) (cwV 0 hts (mg_V q_217 q_218 q_219 q_220 q_77) rfl rfl rfl (by decide +kernel) ⟨Nat.le_of_ble_eq_true rfl, Nat.le_of_ble_eq_true rfl⟩) (mr_preV C hW (ci := 6) rfl e22) rfl rfl hl.1 rfl (lv_room (Nat.le_of_ble_eq_true rfl)) d_X_about_106 ⟨Nat.le_of_ble_eq_true rfl, Nat.le_of_ble_eq_true rfl⟩) (fun H locs hW hS => ?_)
      exact mr_iret C hW hS (Nat.le_of_ble_eq_true rfl) (Nat.le_of_ble_eq_true rfl) h d_X_about_109
    have h := ifn h c20
    by_cases c23 : v2 = 7
    · have h := ifp h c23
      refine lv_tableIn (tgt := 110) hx hb d_X_about_13 (by rw [c23]; decide) (by rw [c23]; decide) (by rw [c23]; rfl) (by decide) ?_
      refine lv_aload_n hx hb d_X_about_110 rfl (lv_at hl 0 rfl) ?_
      obtain ⟨_, e25, h⟩ := ob h
      obtain ⟨⟨x24, M24⟩, e24, h⟩ := ob h
      refine mr_ci C hW hS (va_runV (As := []) (rest := []) ⟨hx, hb, hml, hown, hts⟩ (c_Title_lastDay l D dA _ _ _ x3 e24) (cwV 0 hts (mg_V q_204 q_205 q_206 q_207 q_77) rfl rfl rfl (by decide +kernel) ⟨Nat.le_of_ble_eq_true rfl, Nat.le_of_ble_eq_true rfl⟩) (mr_preV C hW (ci := 6) rfl e25) rfl rfl hl.1 rfl (lv_room (Nat.le_of_ble_eq_true rfl)) d_X_about_111 ⟨Nat.le_of_ble_eq_true rfl, Nat.le_of_ble_eq_true rfl⟩) (fun H locs hW hS => ?_)
      exact mr_iret C hW hS (Nat.le_of_ble_eq_true rfl) (Nat.le_of_ble_eq_true rfl) h d_X_about_114
    have h := ifn h c23
    refine lv_tableOut (tgt := 115) hx hb d_X_about_13 (by
      have t4 := lv_neT c4 (show (0 : Int32).toInt = 0 by decide)
      have t7 := lv_neT c7 (show (1 : Int32).toInt = 1 by decide)
      have t9 := lv_neT c9 (show (2 : Int32).toInt = 2 by decide)
      have t12 := lv_neT c12 (show (3 : Int32).toInt = 3 by decide)
      have t14 := lv_neT c14 (show (4 : Int32).toInt = 4 by decide)
      have t16 := lv_neT c16 (show (5 : Int32).toInt = 5 by decide)
      have t20 := lv_neT c20 (show (6 : Int32).toInt = 6 by decide)
      have t23 := lv_neT c23 (show (7 : Int32).toInt = 7 by decide)
      omega) (by decide) ?_
    refine lv_iconst (v := (-1)) hx hb d_X_about_115 (by decide) ?_
    exact mr_iret C hW hS (Nat.le_of_ble_eq_true rfl) (Nat.le_of_ble_eq_true rfl) h d_X_about_116
  · rw [e3] at h
    refine lv_iconst (v := (-1)) hx hb d_X_about_10 (by decide) ?_
    exact mr_iret C hW hS (Nat.le_of_ble_eq_true rfl) (Nat.le_of_ble_eq_true rfl) h d_X_about_11
def f_X_gap (v0 : Nat) (v1 : Int32) (v2 : Int32) (v3 : Int32) (M : mm) : Option (Int32 × mm) :=
    (kO 0 M v0).bind fun _ =>
    (f_X_findTitle v0 v1 M).bind fun (x1, M1) =>
    qm x1 (
      some ((-1), M1)
      ) fun x3 =>
    if v2 < 0 then
      some ((-1), M1)
    else
      (gI 6 6 M1 x3).bind fun x5 =>
      if v2 < (x5 - 1) then
        if v3 = 0 then
          (gR 6 5 M1 x3).bind fun x11 =>
          (aI M1 x11 v2).bind fun x12 =>
          some (x12 + 1, M1)
        else
          if v3 = 1 then
            (gR 6 4 M1 x3).bind fun x9 =>
            (aI M1 x9 (v2 + 1)).bind fun x10 =>
            some (x10 - 1, M1)
          else
            some ((-1), M1)
      else
        some ((-1), M1)
set_option maxHeartbeats 4000000 in
set_option maxRecDepth 100000 in
theorem c_X_gap (l : Launch) (D : va_G) (dA : Nat → ClassId) (M0 M' : mm) (r : Int32) (v0 : Nat) (v1 : Int32) (v2 : Int32) (v3 : Int32) (h : f_X_gap v0 v1 v2 v3 M0 = some (r, M')) : Met l y_X_gap w_X_gap rm_X_gap (mm_Pre D dA M0 [.ref v0, .int v1, .int v2, .int v3]) (mm_QI D dA M0 r M') 0 0 (mm_A M0) := by
  refine Met.ofW (cc := b_X_gap) (maxL := 5) (ret := (some .int)) (by decide) rfl ?_
  intro p e s m args below meth c s₁ B hml hv
  obtain ⟨rfl, hW, hK⟩ := hv
  have C : mm_C p s m _ meth c b_X_gap 5 (some .int) R_X D dA (mm_A M0) := ⟨B.exec, B.bytes, B.returns, hml, findClass_of_methodNamed B.named, fun w hw => atoms_spec (ws := w_X_gap) B.pre w (List.mem_cons_of_mem _ hw), B.notSynchronized, hK, fun q hq => Or.inr (by rw [← hW.1]; exact hq)⟩
  have hS : va_S (mm_A M0) s.heap s.heap [] := va_S.rf
  obtain ⟨hx, hb, hr, hml, hown, hts, hlocks, hK, hA⟩ := id C
  have hl := lv_entry ([.ref v0, .int v1, .int v2, .int v3]) (n := 5) (Nat.le_of_ble_eq_true rfl)
  rw [lg_entry_eq]
  generalize (lg_sl ([.ref v0, .int v1, .int v2, .int v3]) ++ List.replicate (5 - (lg_sl ([.ref v0, .int v1, .int v2, .int v3])).length) Slot.unset).toArray = ls at hl ⊢
  have hl : lv_has ls 5 [(0, .ref v0), (1, .int v1), (2, .int v2), (3, .int v3)] := hl
  unfold f_X_gap at h
  refine lv_aload_n hx hb d_X_gap_0 rfl (lv_at hl 0 rfl) ?_
  refine lv_iload_n hx hb d_X_gap_1 rfl (lv_at hl 1 rfl) ?_
  obtain ⟨_, e2, h⟩ := ob h
  obtain ⟨⟨x1, M1⟩, e1, h⟩ := ob h
  refine mr_cq C hW hS (va_runV (As := [.int v1]) (rest := []) ⟨hx, hb, hml, hown, hts⟩ (c_X_findTitle l D dA _ _ _ v0 v1 e1) (cwV 1 hts (mg_V q_82 q_83 q_84 q_85 q_71) rfl rfl rfl (by decide +kernel) ⟨Nat.le_of_ble_eq_true rfl, Nat.le_of_ble_eq_true rfl⟩) (mr_preV C hW (ci := 0) rfl e2) rfl rfl hl.1 rfl (lv_room (Nat.le_of_ble_eq_true rfl)) d_X_gap_2 ⟨Nat.le_of_ble_eq_true rfl, Nat.le_of_ble_eq_true rfl⟩) (fun H locs hW hS => ?_)
  refine mr_astoreq (lv' := [(4, va_rf x1), (0, .ref v0), (1, .int v1), (2, .int v2), (3, .int v3)]) hx hb d_X_gap_5 hl (by decide) rfl (fun ls hl => ?_)
  refine mr_aloadq hx hb d_X_gap_7 (lv_at hl 0 rfl) ?_
  refine mr_ifnull (tgt := 27) hx hb d_X_gap_9 (by decide) (fun e3 => ?_) (fun x3 e3 => ?_)
  · rw [e3] at h
    refine lv_iconst (v := (-1)) hx hb d_X_gap_27 (by decide) ?_
    exact mr_iret C hW hS (Nat.le_of_ble_eq_true rfl) (Nat.le_of_ble_eq_true rfl) h d_X_gap_28
  · rw [e3] at h
    rw [e3] at hl
    have hl : lv_has ls 5 [(4, .ref x3), (0, .ref v0), (1, .int v1), (2, .int v2), (3, .int v3)] := hl
    refine lv_iload_n hx hb d_X_gap_12 rfl (lv_at hl 3 rfl) ?_
    refine lv_if_lt (tgt := 27) hx hb d_X_gap_13 (by decide) (fun c4 => ?_) (fun c4 => ?_)
    · have h := ifp h c4
      refine lv_iconst (v := (-1)) hx hb d_X_gap_27 (by decide) ?_
      exact mr_iret C hW hS (Nat.le_of_ble_eq_true rfl) (Nat.le_of_ble_eq_true rfl) h d_X_gap_28
    · have h := ifn h c4
      refine lv_iload_n hx hb d_X_gap_16 rfl (lv_at hl 3 rfl) ?_
      refine lv_aload hx hb d_X_gap_17 (lv_at hl 0 rfl) ?_
      obtain ⟨x5, e5, h⟩ := ob h
      refine mr_gI C hW k_X_84 e5 d_X_gap_19 ?_
      refine lv_iconst (v := 1) hx hb d_X_gap_22 (by decide) ?_
      refine lv_isub hx hb d_X_gap_23 ?_
      refine lv_icmp_lt (tgt := 29) hx hb d_X_gap_24 (by decide) (fun c6 => ?_) (fun c6 => ?_)
      · have h := ifp h c6
        refine lv_iload_n hx hb d_X_gap_29 rfl (lv_at hl 4 rfl) ?_
        refine lv_if_ne (tgt := 43) hx hb d_X_gap_30 (by decide) (fun c7 => ?_) (fun c7 => ?_)
        · have h := ifn h c7
          refine lv_iload_n hx hb d_X_gap_43 rfl (lv_at hl 4 rfl) ?_
          refine lv_iconst (v := 1) hx hb d_X_gap_44 (by decide) ?_
          refine lv_icmp_ne (tgt := 62) hx hb d_X_gap_45 (by decide) (fun c8 => ?_) (fun c8 => ?_)
          · have h := ifn h c8
            refine lv_iconst (v := (-1)) hx hb d_X_gap_62 (by decide) ?_
            exact mr_iret C hW hS (Nat.le_of_ble_eq_true rfl) (Nat.le_of_ble_eq_true rfl) h d_X_gap_63
          · have h := ifp h c8
            refine lv_aload hx hb d_X_gap_48 (lv_at hl 0 rfl) ?_
            obtain ⟨x9, e9, h⟩ := ob h
            refine mr_gR C hW k_X_194 e9 d_X_gap_50 ?_
            refine lv_iload_n hx hb d_X_gap_53 rfl (lv_at hl 3 rfl) ?_
            refine lv_iconst (v := 1) hx hb d_X_gap_54 (by decide) ?_
            refine lv_iadd hx hb d_X_gap_55 ?_
            obtain ⟨x10, e10, h⟩ := ob h
            refine mr_aI C hW e10 d_X_gap_56 ?_
            refine lv_iconst (v := 1) hx hb d_X_gap_57 (by decide) ?_
            refine lv_isub hx hb d_X_gap_58 ?_
            refine lv_goto (tgt := 63) hx hb d_X_gap_59 (by decide) ?_
            exact mr_iret C hW hS (Nat.le_of_ble_eq_true rfl) (Nat.le_of_ble_eq_true rfl) h d_X_gap_63
        · have h := ifp h c7
          refine lv_aload hx hb d_X_gap_33 (lv_at hl 0 rfl) ?_
          obtain ⟨x11, e11, h⟩ := ob h
          refine mr_gR C hW k_X_191 e11 d_X_gap_35 ?_
          refine lv_iload_n hx hb d_X_gap_38 rfl (lv_at hl 3 rfl) ?_
          obtain ⟨x12, e12, h⟩ := ob h
          refine mr_aI C hW e12 d_X_gap_39 ?_
          refine lv_iconst (v := 1) hx hb d_X_gap_40 (by decide) ?_
          refine lv_iadd hx hb d_X_gap_41 ?_
          exact mr_iret C hW hS (Nat.le_of_ble_eq_true rfl) (Nat.le_of_ble_eq_true rfl) h d_X_gap_42
      · have h := ifn h c6
        refine lv_iconst (v := (-1)) hx hb d_X_gap_27 (by decide) ?_
        exact mr_iret C hW hS (Nat.le_of_ble_eq_true rfl) (Nat.le_of_ble_eq_true rfl) h d_X_gap_28
def f_X_usage (v0 : Nat) (v1 : Int32) (v2 : Int32) (M : mm) : Option (Int32 × mm) :=
    (kO 0 M v0).bind fun _ =>
    (f_X_findTitle v0 v1 M).bind fun (x1, M1) =>
    qm x1 (
      some ((-1), M1)
      ) fun x3 =>
    if v2 < 0 then
      some ((-2), M1)
    else
      if v2 ≤ 6666 then
        (gR 0 7 M1 v0).bind fun x6 =>
        (kO 7 M1 x6).bind fun _ =>
        (f_Usages_ofTitleIn x6 v1 v2 M1).bind fun (x7, M7) =>
        some (x7, M7)
      else
        some ((-2), M1)
set_option maxHeartbeats 4000000 in
set_option maxRecDepth 100000 in
theorem c_X_usage (l : Launch) (D : va_G) (dA : Nat → ClassId) (M0 M' : mm) (r : Int32) (v0 : Nat) (v1 : Int32) (v2 : Int32) (h : f_X_usage v0 v1 v2 M0 = some (r, M')) : Met l y_X_usage w_X_usage rm_X_usage (mm_Pre D dA M0 [.ref v0, .int v1, .int v2]) (mm_QI D dA M0 r M') 0 0 (mm_A M0) := by
  refine Met.ofW (cc := b_X_usage) (maxL := 3) (ret := (some .int)) (by decide) rfl ?_
  intro p e s m args below meth c s₁ B hml hv
  obtain ⟨rfl, hW, hK⟩ := hv
  have C : mm_C p s m _ meth c b_X_usage 3 (some .int) R_X D dA (mm_A M0) := ⟨B.exec, B.bytes, B.returns, hml, findClass_of_methodNamed B.named, fun w hw => atoms_spec (ws := w_X_usage) B.pre w (List.mem_cons_of_mem _ hw), B.notSynchronized, hK, fun q hq => Or.inr (by rw [← hW.1]; exact hq)⟩
  have hS : va_S (mm_A M0) s.heap s.heap [] := va_S.rf
  obtain ⟨hx, hb, hr, hml, hown, hts, hlocks, hK, hA⟩ := id C
  have hl := lv_entry ([.ref v0, .int v1, .int v2]) (n := 3) (Nat.le_of_ble_eq_true rfl)
  rw [lg_entry_eq]
  generalize (lg_sl ([.ref v0, .int v1, .int v2]) ++ List.replicate (3 - (lg_sl ([.ref v0, .int v1, .int v2])).length) Slot.unset).toArray = ls at hl ⊢
  have hl : lv_has ls 3 [(0, .ref v0), (1, .int v1), (2, .int v2)] := hl
  unfold f_X_usage at h
  refine lv_aload_n hx hb d_X_usage_0 rfl (lv_at hl 0 rfl) ?_
  refine lv_iload_n hx hb d_X_usage_1 rfl (lv_at hl 1 rfl) ?_
  obtain ⟨_, e2, h⟩ := ob h
  obtain ⟨⟨x1, M1⟩, e1, h⟩ := ob h
  refine mr_cq C hW hS (va_runV (As := [.int v1]) (rest := []) ⟨hx, hb, hml, hown, hts⟩ (c_X_findTitle l D dA _ _ _ v0 v1 e1) (cwV 1 hts (mg_V q_82 q_83 q_84 q_85 q_71) rfl rfl rfl (by decide +kernel) ⟨Nat.le_of_ble_eq_true rfl, Nat.le_of_ble_eq_true rfl⟩) (mr_preV C hW (ci := 0) rfl e2) rfl rfl hl.1 rfl (lv_room (Nat.le_of_ble_eq_true rfl)) d_X_usage_2 ⟨Nat.le_of_ble_eq_true rfl, Nat.le_of_ble_eq_true rfl⟩) (fun H locs hW hS => ?_)
  refine mr_ifnonnull (tgt := 10) hx hb d_X_usage_5 (by decide) (fun x3 e3 => ?_) (fun e3 => ?_)
  · rw [e3] at h
    refine lv_iload_n hx hb d_X_usage_10 rfl (lv_at hl 2 rfl) ?_
    refine lv_if_lt (tgt := 21) hx hb d_X_usage_11 (by decide) (fun c4 => ?_) (fun c4 => ?_)
    · have h := ifp h c4
      refine lv_bipush (v := (-2)) hx hb d_X_usage_21 (by decide) ?_
      exact mr_iret C hW hS (Nat.le_of_ble_eq_true rfl) (Nat.le_of_ble_eq_true rfl) h d_X_usage_23
    · have h := ifn h c4
      refine lv_iload_n hx hb d_X_usage_14 rfl (lv_at hl 2 rfl) ?_
      refine lv_sipush (v := 6666) hx hb d_X_usage_15 (by decide) ?_
      refine lv_icmp_le (tgt := 24) hx hb d_X_usage_18 (by decide) (fun c5 => ?_) (fun c5 => ?_)
      · have h := ifp h c5
        refine lv_aload_n hx hb d_X_usage_24 rfl (lv_at hl 0 rfl) ?_
        obtain ⟨x6, e6, h⟩ := ob h
        refine mr_gR C hW k_X_44 e6 d_X_usage_25 ?_
        refine lv_iload_n hx hb d_X_usage_28 rfl (lv_at hl 1 rfl) ?_
        refine lv_iload_n hx hb d_X_usage_29 rfl (lv_at hl 2 rfl) ?_
        obtain ⟨_, e8, h⟩ := ob h
        obtain ⟨⟨x7, M7⟩, e7, h⟩ := ob h
        refine mr_ci C hW hS (va_runV (As := [.int v1, .int v2]) (rest := []) ⟨hx, hb, hml, hown, hts⟩ (c_Usages_ofTitleIn l D dA _ _ _ x6 v1 v2 e7) (cwV 2 hts (mg_V q_223 q_224 q_225 q_226 q_25) rfl rfl rfl (by decide +kernel) ⟨Nat.le_of_ble_eq_true rfl, Nat.le_of_ble_eq_true rfl⟩) (mr_preV C hW (ci := 7) rfl e8) rfl rfl hl.1 rfl (lv_room (Nat.le_of_ble_eq_true rfl)) d_X_usage_30 ⟨Nat.le_of_ble_eq_true rfl, Nat.le_of_ble_eq_true rfl⟩) (fun H locs hW hS => ?_)
        exact mr_iret C hW hS (Nat.le_of_ble_eq_true rfl) (Nat.le_of_ble_eq_true rfl) h d_X_usage_33
      · have h := ifn h c5
        refine lv_bipush (v := (-2)) hx hb d_X_usage_21 (by decide) ?_
        exact mr_iret C hW hS (Nat.le_of_ble_eq_true rfl) (Nat.le_of_ble_eq_true rfl) h d_X_usage_23
  · rw [e3] at h
    refine lv_iconst (v := (-1)) hx hb d_X_usage_8 (by decide) ?_
    exact mr_iret C hW hS (Nat.le_of_ble_eq_true rfl) (Nat.le_of_ble_eq_true rfl) h d_X_usage_9
def f_X_told (v0 : Nat) (v1 : Int32) (v2 : Int32) (M : mm) : Option (Int32 × mm) :=
    if v1 < 0 then
      some ((-1), M)
    else
      (gR 0 8 M v0).bind fun x2 =>
      (gI 3 2 M x2).bind fun x3 =>
      if v1 < x3 then
        if v2 = 0 then
          (gR 0 8 M v0).bind fun x10 =>
          (gR 3 0 M x10).bind fun x11 =>
          (aI M x11 v1).bind fun x12 =>
          some (x12, M)
        else
          if v2 = 1 then
            (gR 0 8 M v0).bind fun x7 =>
            (gR 3 1 M x7).bind fun x8 =>
            (aI M x8 v1).bind fun x9 =>
            some (x9, M)
          else
            some ((-1), M)
      else
        some ((-1), M)
set_option maxHeartbeats 4000000 in
set_option maxRecDepth 100000 in
theorem c_X_told (l : Launch) (D : va_G) (dA : Nat → ClassId) (M0 M' : mm) (r : Int32) (v0 : Nat) (v1 : Int32) (v2 : Int32) (h : f_X_told v0 v1 v2 M0 = some (r, M')) : Met l y_X_told w_X_told rm_X_told (mm_Pre D dA M0 [.ref v0, .int v1, .int v2]) (mm_QI D dA M0 r M') 0 0 (mm_A M0) := by
  refine Met.ofW (cc := b_X_told) (maxL := 3) (ret := (some .int)) (by decide) rfl ?_
  intro p e s m args below meth c s₁ B hml hv
  obtain ⟨rfl, hW, hK⟩ := hv
  have C : mm_C p s m _ meth c b_X_told 3 (some .int) R_X D dA (mm_A M0) := ⟨B.exec, B.bytes, B.returns, hml, findClass_of_methodNamed B.named, fun w hw => atoms_spec (ws := w_X_told) B.pre w (List.mem_cons_of_mem _ hw), B.notSynchronized, hK, fun q hq => Or.inr (by rw [← hW.1]; exact hq)⟩
  have hS : va_S (mm_A M0) s.heap s.heap [] := va_S.rf
  obtain ⟨hx, hb, hr, hml, hown, hts, hlocks, hK, hA⟩ := id C
  have hl := lv_entry ([.ref v0, .int v1, .int v2]) (n := 3) (Nat.le_of_ble_eq_true rfl)
  rw [lg_entry_eq]
  generalize (lg_sl ([.ref v0, .int v1, .int v2]) ++ List.replicate (3 - (lg_sl ([.ref v0, .int v1, .int v2])).length) Slot.unset).toArray = ls at hl ⊢
  have hl : lv_has ls 3 [(0, .ref v0), (1, .int v1), (2, .int v2)] := hl
  unfold f_X_told at h
  refine lv_iload_n hx hb d_X_told_0 rfl (lv_at hl 1 rfl) ?_
  refine lv_if_lt (tgt := 15) hx hb d_X_told_1 (by decide) (fun c1 => ?_) (fun c1 => ?_)
  · have h := ifp h c1
    refine lv_iconst (v := (-1)) hx hb d_X_told_15 (by decide) ?_
    exact mr_iret C hW hS (Nat.le_of_ble_eq_true rfl) (Nat.le_of_ble_eq_true rfl) h d_X_told_16
  · have h := ifn h c1
    refine lv_iload_n hx hb d_X_told_4 rfl (lv_at hl 1 rfl) ?_
    refine lv_aload_n hx hb d_X_told_5 rfl (lv_at hl 0 rfl) ?_
    obtain ⟨x2, e2, h⟩ := ob h
    refine mr_gR C hW k_X_51 e2 d_X_told_6 ?_
    obtain ⟨x3, e3, h⟩ := ob h
    refine mr_gI C hW k_X_200 e3 d_X_told_9 ?_
    refine lv_icmp_lt (tgt := 17) hx hb d_X_told_12 (by decide) (fun c4 => ?_) (fun c4 => ?_)
    · have h := ifp h c4
      refine lv_iload_n hx hb d_X_told_17 rfl (lv_at hl 2 rfl) ?_
      refine lv_if_ne (tgt := 31) hx hb d_X_told_18 (by decide) (fun c5 => ?_) (fun c5 => ?_)
      · have h := ifn h c5
        refine lv_iload_n hx hb d_X_told_31 rfl (lv_at hl 2 rfl) ?_
        refine lv_iconst (v := 1) hx hb d_X_told_32 (by decide) ?_
        refine lv_icmp_ne (tgt := 48) hx hb d_X_told_33 (by decide) (fun c6 => ?_) (fun c6 => ?_)
        · have h := ifn h c6
          refine lv_iconst (v := (-1)) hx hb d_X_told_48 (by decide) ?_
          exact mr_iret C hW hS (Nat.le_of_ble_eq_true rfl) (Nat.le_of_ble_eq_true rfl) h d_X_told_49
        · have h := ifp h c6
          refine lv_aload_n hx hb d_X_told_36 rfl (lv_at hl 0 rfl) ?_
          obtain ⟨x7, e7, h⟩ := ob h
          refine mr_gR C hW k_X_51 e7 d_X_told_37 ?_
          obtain ⟨x8, e8, h⟩ := ob h
          refine mr_gR C hW k_X_206 e8 d_X_told_40 ?_
          refine lv_iload_n hx hb d_X_told_43 rfl (lv_at hl 1 rfl) ?_
          obtain ⟨x9, e9, h⟩ := ob h
          refine mr_aI C hW e9 d_X_told_44 ?_
          refine lv_goto (tgt := 49) hx hb d_X_told_45 (by decide) ?_
          exact mr_iret C hW hS (Nat.le_of_ble_eq_true rfl) (Nat.le_of_ble_eq_true rfl) h d_X_told_49
      · have h := ifp h c5
        refine lv_aload_n hx hb d_X_told_21 rfl (lv_at hl 0 rfl) ?_
        obtain ⟨x10, e10, h⟩ := ob h
        refine mr_gR C hW k_X_51 e10 d_X_told_22 ?_
        obtain ⟨x11, e11, h⟩ := ob h
        refine mr_gR C hW k_X_203 e11 d_X_told_25 ?_
        refine lv_iload_n hx hb d_X_told_28 rfl (lv_at hl 1 rfl) ?_
        obtain ⟨x12, e12, h⟩ := ob h
        refine mr_aI C hW e12 d_X_told_29 ?_
        exact mr_iret C hW hS (Nat.le_of_ble_eq_true rfl) (Nat.le_of_ble_eq_true rfl) h d_X_told_30
    · have h := ifn h c4
      refine lv_iconst (v := (-1)) hx hb d_X_told_15 (by decide) ?_
      exact mr_iret C hW hS (Nat.le_of_ble_eq_true rfl) (Nat.le_of_ble_eq_true rfl) h d_X_told_16
def f_X_who_b33 : Int32 → Nat → mm → Option (Int32 × mm) := fun v2 t0 M =>
    if 2 ≤ v2 then
      (kO 2 M t0).bind fun _ =>
      (f_Line_at t0 ((v2 / 2) - 1) M).bind fun (x2, M2) =>
      some (x2, M2)
    else
      (gI 2 1 M t0).bind fun x4 =>
      some (x4, M)
def f_X_who (v0 : Nat) (v1 : Int32) (v2 : Int32) (M : mm) : Option (Int32 × mm) :=
    (kO 0 M v0).bind fun _ =>
    (f_X_findPack v0 v1 M).bind fun (x5, M5) =>
    qm x5 (
      some ((-1), M5)
      ) fun x7 =>
    if 0 ≤ v2 then
      if (v2 - v2 / 2 * 2) = 0 then
        (gR 4 2 M5 x7).bind fun x11 =>
        f_X_who_b33 v2 x11 M5
      else
        (gR 4 3 M5 x7).bind fun x10 =>
        f_X_who_b33 v2 x10 M5
    else
      some ((-1), M5)
set_option maxHeartbeats 4000000 in
set_option maxRecDepth 100000 in
theorem w_X_who_b33 {p : Program} {l : Launch} {e : Env} {s : State} {m : MethodId} {args : Array Value} {below : List Frame} {meth : Method} {c : Code} {D : va_G} {dA : Nat → ClassId} {M0 M' : mm} {r : Int32} (C : mm_C p s m args meth c b_X_who 5 (some .int) R_X D dA (mm_A M0)) : ∀ (v2 : Int32) (t0 : Nat) (M : mm) (H : Heap) (locs : List Loc) (ls : Array Slot), f_X_who_b33 v2 t0 M = some (r, M') → mm_W D dA (mm_A M0) M H → va_S (mm_A M0) s.heap H locs → lv_has ls 5 [(2, .int v2)] → W p l e rm_X_who s m args below meth c H locs 0 0 (MQ below (mm_QI D dA M0 r M') args s 0 0 (mm_A M0)) (F0 m 33 ls [.ref t0]) := by
  obtain ⟨hx, hb, hr, hml, hown, hts, hlocks, hK, hA⟩ := id C
  intro v2 t0 M H locs ls h hW hS hl
  unfold f_X_who_b33 at h
  refine lv_astore (lv' := [(4, .ref t0), (2, .int v2)]) hx hb d_X_who_33 hl (by decide) rfl (fun ls hl => ?_)
  refine lv_iload_n hx hb d_X_who_35 rfl (lv_at hl 1 rfl) ?_
  refine lv_iconst (v := 2) hx hb d_X_who_36 (by decide) ?_
  refine lv_icmp_ge (tgt := 48) hx hb d_X_who_37 (by decide) (fun c1 => ?_) (fun c1 => ?_)
  · have h := ifp h c1
    refine lv_aload hx hb d_X_who_48 (lv_at hl 0 rfl) ?_
    refine lv_iload_n hx hb d_X_who_50 rfl (lv_at hl 1 rfl) ?_
    refine lv_iconst (v := 2) hx hb d_X_who_51 (by decide) ?_
    refine lv_idiv hx hb d_X_who_52 (by decide) ?_
    refine lv_iconst (v := 1) hx hb d_X_who_53 (by decide) ?_
    refine lv_isub hx hb d_X_who_54 ?_
    obtain ⟨_, e3, h⟩ := ob h
    obtain ⟨⟨x2, M2⟩, e2, h⟩ := ob h
    refine mr_ci C hW hS (va_runV (As := [.int ((v2 / 2) - 1)]) (rest := []) ⟨hx, hb, hml, hown, hts⟩ (c_Line_at l D dA _ _ _ t0 ((v2 / 2) - 1) e2) (cwV 1 hts (mg_V q_230 q_231 q_232 q_233 q_42) rfl rfl rfl (by decide +kernel) ⟨Nat.le_of_ble_eq_true rfl, Nat.le_of_ble_eq_true rfl⟩) (mr_preV C hW (ci := 2) rfl e3) rfl rfl hl.1 rfl (lv_room (Nat.le_of_ble_eq_true rfl)) d_X_who_55 ⟨Nat.le_of_ble_eq_true rfl, Nat.le_of_ble_eq_true rfl⟩) (fun H locs hW hS => ?_)
    exact mr_iret C hW hS (Nat.le_of_ble_eq_true rfl) (Nat.le_of_ble_eq_true rfl) h d_X_who_58
  · have h := ifn h c1
    refine lv_aload hx hb d_X_who_40 (lv_at hl 0 rfl) ?_
    obtain ⟨x4, e4, h⟩ := ob h
    refine mr_gI C hW k_X_209 e4 d_X_who_42 ?_
    refine lv_goto (tgt := 58) hx hb d_X_who_45 (by decide) ?_
    exact mr_iret C hW hS (Nat.le_of_ble_eq_true rfl) (Nat.le_of_ble_eq_true rfl) h d_X_who_58
set_option maxHeartbeats 4000000 in
set_option maxRecDepth 100000 in
theorem c_X_who (l : Launch) (D : va_G) (dA : Nat → ClassId) (M0 M' : mm) (r : Int32) (v0 : Nat) (v1 : Int32) (v2 : Int32) (h : f_X_who v0 v1 v2 M0 = some (r, M')) : Met l y_X_who w_X_who rm_X_who (mm_Pre D dA M0 [.ref v0, .int v1, .int v2]) (mm_QI D dA M0 r M') 0 0 (mm_A M0) := by
  refine Met.ofW (cc := b_X_who) (maxL := 5) (ret := (some .int)) (by decide) rfl ?_
  intro p e s m args below meth c s₁ B hml hv
  obtain ⟨rfl, hW, hK⟩ := hv
  have C : mm_C p s m _ meth c b_X_who 5 (some .int) R_X D dA (mm_A M0) := ⟨B.exec, B.bytes, B.returns, hml, findClass_of_methodNamed B.named, fun w hw => atoms_spec (ws := w_X_who) B.pre w (List.mem_cons_of_mem _ hw), B.notSynchronized, hK, fun q hq => Or.inr (by rw [← hW.1]; exact hq)⟩
  have hS : va_S (mm_A M0) s.heap s.heap [] := va_S.rf
  obtain ⟨hx, hb, hr, hml, hown, hts, hlocks, hK, hA⟩ := id C
  have hl := lv_entry ([.ref v0, .int v1, .int v2]) (n := 5) (Nat.le_of_ble_eq_true rfl)
  rw [lg_entry_eq]
  generalize (lg_sl ([.ref v0, .int v1, .int v2]) ++ List.replicate (5 - (lg_sl ([.ref v0, .int v1, .int v2])).length) Slot.unset).toArray = ls at hl ⊢
  have hl : lv_has ls 5 [(0, .ref v0), (1, .int v1), (2, .int v2)] := hl
  unfold f_X_who at h
  refine lv_aload_n hx hb d_X_who_0 rfl (lv_at hl 0 rfl) ?_
  refine lv_iload_n hx hb d_X_who_1 rfl (lv_at hl 1 rfl) ?_
  obtain ⟨_, e6, h⟩ := ob h
  obtain ⟨⟨x5, M5⟩, e5, h⟩ := ob h
  refine mr_cq C hW hS (va_runV (As := [.int v1]) (rest := []) ⟨hx, hb, hml, hown, hts⟩ (c_X_findPack l D dA _ _ _ v0 v1 e5) (cwV 1 hts (mg_V q_67 q_68 q_69 q_70 q_71) rfl rfl rfl (by decide +kernel) ⟨Nat.le_of_ble_eq_true rfl, Nat.le_of_ble_eq_true rfl⟩) (mr_preV C hW (ci := 0) rfl e6) rfl rfl hl.1 rfl (lv_room (Nat.le_of_ble_eq_true rfl)) d_X_who_2 ⟨Nat.le_of_ble_eq_true rfl, Nat.le_of_ble_eq_true rfl⟩) (fun H locs hW hS => ?_)
  refine mr_astore_nq (lv' := [(3, va_rf x5), (0, .ref v0), (1, .int v1), (2, .int v2)]) hx hb d_X_who_5 rfl hl (by decide) rfl (fun ls hl => ?_)
  refine mr_aload_nq hx hb d_X_who_6 rfl (lv_at hl 0 rfl) ?_
  refine mr_ifnull (tgt := 14) hx hb d_X_who_7 (by decide) (fun e7 => ?_) (fun x7 e7 => ?_)
  · rw [e7] at h
    refine lv_iconst (v := (-1)) hx hb d_X_who_14 (by decide) ?_
    exact mr_iret C hW hS (Nat.le_of_ble_eq_true rfl) (Nat.le_of_ble_eq_true rfl) h d_X_who_15
  · rw [e7] at h
    rw [e7] at hl
    have hl : lv_has ls 5 [(3, .ref x7), (0, .ref v0), (1, .int v1), (2, .int v2)] := hl
    refine lv_iload_n hx hb d_X_who_10 rfl (lv_at hl 3 rfl) ?_
    refine lv_if_ge (tgt := 16) hx hb d_X_who_11 (by decide) (fun c8 => ?_) (fun c8 => ?_)
    · have h := ifp h c8
      refine lv_iload_n hx hb d_X_who_16 rfl (lv_at hl 3 rfl) ?_
      refine lv_iconst (v := 2) hx hb d_X_who_17 (by decide) ?_
      refine lv_irem hx hb d_X_who_18 (by decide) ?_
      refine lv_if_ne (tgt := 29) hx hb d_X_who_19 (by decide) (fun c9 => ?_) (fun c9 => ?_)
      · have h := ifn h c9
        refine lv_aload_n hx hb d_X_who_29 rfl (lv_at hl 0 rfl) ?_
        obtain ⟨x10, e10, h⟩ := ob h
        refine mr_gR C hW k_X_137 e10 d_X_who_30 ?_
        exact w_X_who_b33 C _ _ _ _ _ _ h hW hS (lv_sub hl [3] rfl)
      · have h := ifp h c9
        refine lv_aload_n hx hb d_X_who_22 rfl (lv_at hl 0 rfl) ?_
        obtain ⟨x11, e11, h⟩ := ob h
        refine mr_gR C hW k_X_128 e11 d_X_who_23 ?_
        refine lv_goto (tgt := 33) hx hb d_X_who_26 (by decide) ?_
        exact w_X_who_b33 C _ _ _ _ _ _ h hW hS (lv_sub hl [3] rfl)
    · have h := ifn h c8
      refine lv_iconst (v := (-1)) hx hb d_X_who_14 (by decide) ?_
      exact mr_iret C hW hS (Nat.le_of_ble_eq_true rfl) (Nat.le_of_ble_eq_true rfl) h d_X_who_15
