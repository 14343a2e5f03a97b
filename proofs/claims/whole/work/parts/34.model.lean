theorem d_Mo_bound_0 : decode b_Mo_bound 0 = .ok (.iconst (-1), 1) := by decide +kernel
theorem d_Mo_bound_1 : decode b_Mo_bound 1 = .ok (.istore_n 3, 1) := by decide +kernel
theorem d_Mo_bound_2 : decode b_Mo_bound 2 = .ok (.bipush 10, 2) := by decide +kernel
theorem d_Mo_bound_4 : decode b_Mo_bound 4 = .ok (.iload_n 1, 1) := by decide +kernel
theorem d_Mo_bound_5 : decode b_Mo_bound 5 = .ok (.imul, 1) := by decide +kernel
theorem d_Mo_bound_6 : decode b_Mo_bound 6 = .ok (.istore 4, 2) := by decide +kernel
theorem d_Mo_bound_8 : decode b_Mo_bound 8 = .ok (.iload 4, 2) := by decide +kernel
theorem d_Mo_bound_10 : decode b_Mo_bound 10 = .ok (.bipush 10, 2) := by decide +kernel
theorem d_Mo_bound_12 : decode b_Mo_bound 12 = .ok (.iload_n 1, 1) := by decide +kernel
theorem d_Mo_bound_13 : decode b_Mo_bound 13 = .ok (.imul, 1) := by decide +kernel
theorem d_Mo_bound_14 : decode b_Mo_bound 14 = .ok (.aload_n 0, 1) := by decide +kernel
theorem d_Mo_bound_15 : decode b_Mo_bound 15 = .ok (.getfield 44, 3) := by decide +kernel
theorem d_Mo_bound_18 : decode b_Mo_bound 18 = .ok (.iload_n 1, 1) := by decide +kernel
theorem d_Mo_bound_19 : decode b_Mo_bound 19 = .ok (.iaload, 1) := by decide +kernel
theorem d_Mo_bound_20 : decode b_Mo_bound 20 = .ok (.iadd, 1) := by decide +kernel
theorem d_Mo_bound_21 : decode b_Mo_bound 21 = .ok (.if_icmp .ge 66, 3) := by decide +kernel
theorem d_Mo_bound_24 : decode b_Mo_bound 24 = .ok (.iload_n 2, 1) := by decide +kernel
theorem d_Mo_bound_25 : decode b_Mo_bound 25 = .ok (.ifCond .eq 29, 3) := by decide +kernel
theorem d_Mo_bound_28 : decode b_Mo_bound 28 = .ok (.aload_n 0, 1) := by decide +kernel
theorem d_Mo_bound_29 : decode b_Mo_bound 29 = .ok (.getfield 50, 3) := by decide +kernel
theorem d_Mo_bound_32 : decode b_Mo_bound 32 = .ok (.iload 4, 2) := by decide +kernel
theorem d_Mo_bound_34 : decode b_Mo_bound 34 = .ok (.iaload, 1) := by decide +kernel
theorem d_Mo_bound_35 : decode b_Mo_bound 35 = .ok (.iload_n 3, 1) := by decide +kernel
theorem d_Mo_bound_36 : decode b_Mo_bound 36 = .ok (.if_icmp .le 13, 3) := by decide +kernel
theorem d_Mo_bound_39 : decode b_Mo_bound 39 = .ok (.aload_n 0, 1) := by decide +kernel
theorem d_Mo_bound_40 : decode b_Mo_bound 40 = .ok (.getfield 50, 3) := by decide +kernel
theorem d_Mo_bound_43 : decode b_Mo_bound 43 = .ok (.iload 4, 2) := by decide +kernel
theorem d_Mo_bound_45 : decode b_Mo_bound 45 = .ok (.iaload, 1) := by decide +kernel
theorem d_Mo_bound_46 : decode b_Mo_bound 46 = .ok (.goto 4, 3) := by decide +kernel
theorem d_Mo_bound_49 : decode b_Mo_bound 49 = .ok (.iload_n 3, 1) := by decide +kernel
theorem d_Mo_bound_50 : decode b_Mo_bound 50 = .ok (.istore_n 3, 1) := by decide +kernel
theorem d_Mo_bound_51 : decode b_Mo_bound 51 = .ok (.goto 30, 3) := by decide +kernel
theorem d_Mo_bound_54 : decode b_Mo_bound 54 = .ok (.iload_n 3, 1) := by decide +kernel
theorem d_Mo_bound_55 : decode b_Mo_bound 55 = .ok (.ifCond .lt 14, 3) := by decide +kernel
theorem d_Mo_bound_58 : decode b_Mo_bound 58 = .ok (.aload_n 0, 1) := by decide +kernel
theorem d_Mo_bound_59 : decode b_Mo_bound 59 = .ok (.getfield 47, 3) := by decide +kernel
theorem d_Mo_bound_62 : decode b_Mo_bound 62 = .ok (.iload 4, 2) := by decide +kernel
theorem d_Mo_bound_64 : decode b_Mo_bound 64 = .ok (.iaload, 1) := by decide +kernel
theorem d_Mo_bound_65 : decode b_Mo_bound 65 = .ok (.iload_n 3, 1) := by decide +kernel
theorem d_Mo_bound_66 : decode b_Mo_bound 66 = .ok (.if_icmp .ge 13, 3) := by decide +kernel
theorem d_Mo_bound_69 : decode b_Mo_bound 69 = .ok (.aload_n 0, 1) := by decide +kernel
theorem d_Mo_bound_70 : decode b_Mo_bound 70 = .ok (.getfield 47, 3) := by decide +kernel
theorem d_Mo_bound_73 : decode b_Mo_bound 73 = .ok (.iload 4, 2) := by decide +kernel
theorem d_Mo_bound_75 : decode b_Mo_bound 75 = .ok (.iaload, 1) := by decide +kernel
theorem d_Mo_bound_76 : decode b_Mo_bound 76 = .ok (.goto 4, 3) := by decide +kernel
theorem d_Mo_bound_79 : decode b_Mo_bound 79 = .ok (.iload_n 3, 1) := by decide +kernel
theorem d_Mo_bound_80 : decode b_Mo_bound 80 = .ok (.istore_n 3, 1) := by decide +kernel
theorem d_Mo_bound_81 : decode b_Mo_bound 81 = .ok (.iinc 4 1, 3) := by decide +kernel
theorem d_Mo_bound_84 : decode b_Mo_bound 84 = .ok (.goto (-76), 3) := by decide +kernel
theorem d_Mo_bound_87 : decode b_Mo_bound 87 = .ok (.iload_n 3, 1) := by decide +kernel
theorem d_Mo_bound_88 : decode b_Mo_bound 88 = .ok (.ireturn, 1) := by decide +kernel
theorem d_Mo_end_0 : decode b_Mo_end 0 = .ok (.aload_n 0, 1) := by decide +kernel
theorem d_Mo_end_1 : decode b_Mo_end 1 = .ok (.iconst 0, 1) := by decide +kernel
theorem d_Mo_end_2 : decode b_Mo_end 2 = .ok (.putfield 90, 3) := by decide +kernel
theorem d_Mo_end_5 : decode b_Mo_end 5 = .ok (.aload_n 0, 1) := by decide +kernel
theorem d_Mo_end_6 : decode b_Mo_end 6 = .ok (.iload_n 1, 1) := by decide +kernel
theorem d_Mo_end_7 : decode b_Mo_end 7 = .ok (.invokevirtual 107, 3) := by decide +kernel
theorem d_Mo_end_10 : decode b_Mo_end 10 = .ok (.ifCond .ne 5, 3) := by decide +kernel
theorem d_Mo_end_13 : decode b_Mo_end 13 = .ok (.iconst (-1), 1) := by decide +kernel
theorem d_Mo_end_14 : decode b_Mo_end 14 = .ok (.ireturn, 1) := by decide +kernel
theorem d_Mo_end_15 : decode b_Mo_end 15 = .ok (.iload_n 2, 1) := by decide +kernel
theorem d_Mo_end_16 : decode b_Mo_end 16 = .ok (.invokestatic 118, 3) := by decide +kernel
theorem d_Mo_end_19 : decode b_Mo_end 19 = .ok (.ifCond .ne 6, 3) := by decide +kernel
theorem d_Mo_end_22 : decode b_Mo_end 22 = .ok (.bipush (-2), 2) := by decide +kernel
theorem d_Mo_end_24 : decode b_Mo_end 24 = .ok (.ireturn, 1) := by decide +kernel
theorem d_Mo_end_25 : decode b_Mo_end 25 = .ok (.aload_n 0, 1) := by decide +kernel
theorem d_Mo_end_26 : decode b_Mo_end 26 = .ok (.getfield 17, 3) := by decide +kernel
theorem d_Mo_end_29 : decode b_Mo_end 29 = .ok (.iload_n 1, 1) := by decide +kernel
theorem d_Mo_end_30 : decode b_Mo_end 30 = .ok (.iaload, 1) := by decide +kernel
theorem d_Mo_end_31 : decode b_Mo_end 31 = .ok (.ifCond .lt 6, 3) := by decide +kernel
theorem d_Mo_end_34 : decode b_Mo_end 34 = .ok (.bipush (-3), 2) := by decide +kernel
theorem d_Mo_end_36 : decode b_Mo_end 36 = .ok (.ireturn, 1) := by decide +kernel
theorem d_Mo_end_37 : decode b_Mo_end 37 = .ok (.aload_n 0, 1) := by decide +kernel
theorem d_Mo_end_38 : decode b_Mo_end 38 = .ok (.getfield 17, 3) := by decide +kernel
theorem d_Mo_end_41 : decode b_Mo_end 41 = .ok (.iload_n 1, 1) := by decide +kernel
theorem d_Mo_end_42 : decode b_Mo_end 42 = .ok (.iload_n 2, 1) := by decide +kernel
theorem d_Mo_end_43 : decode b_Mo_end 43 = .ok (.iastore, 1) := by decide +kernel
theorem d_Mo_end_44 : decode b_Mo_end 44 = .ok (.iconst 0, 1) := by decide +kernel
theorem d_Mo_end_45 : decode b_Mo_end 45 = .ok (.istore_n 3, 1) := by decide +kernel
theorem d_Mo_end_46 : decode b_Mo_end 46 = .ok (.iconst 0, 1) := by decide +kernel
theorem d_Mo_end_47 : decode b_Mo_end 47 = .ok (.istore 4, 2) := by decide +kernel
theorem d_Mo_end_49 : decode b_Mo_end 49 = .ok (.iload 4, 2) := by decide +kernel
theorem d_Mo_end_51 : decode b_Mo_end 51 = .ok (.aload_n 0, 1) := by decide +kernel
theorem d_Mo_end_52 : decode b_Mo_end 52 = .ok (.getfield 101, 3) := by decide +kernel
theorem d_Mo_end_55 : decode b_Mo_end 55 = .ok (.if_icmp .ge 39, 3) := by decide +kernel
theorem d_Mo_end_58 : decode b_Mo_end 58 = .ok (.iload_n 3, 1) := by decide +kernel
theorem d_Mo_end_59 : decode b_Mo_end 59 = .ok (.aload_n 0, 1) := by decide +kernel
theorem d_Mo_end_60 : decode b_Mo_end 60 = .ok (.getfield 32, 3) := by decide +kernel
theorem d_Mo_end_63 : decode b_Mo_end 63 = .ok (.iload 4, 2) := by decide +kernel
theorem d_Mo_end_65 : decode b_Mo_end 65 = .ok (.iaload, 1) := by decide +kernel
theorem d_Mo_end_66 : decode b_Mo_end 66 = .ok (.iload_n 1, 1) := by decide +kernel
theorem d_Mo_end_67 : decode b_Mo_end 67 = .ok (.if_icmp .ne 18, 3) := by decide +kernel
theorem d_Mo_end_70 : decode b_Mo_end 70 = .ok (.aload_n 0, 1) := by decide +kernel
theorem d_Mo_end_71 : decode b_Mo_end 71 = .ok (.iload 4, 2) := by decide +kernel
theorem d_Mo_end_73 : decode b_Mo_end 73 = .ok (.iconst 1, 1) := by decide +kernel
theorem d_Mo_end_74 : decode b_Mo_end 74 = .ok (.invokevirtual 162, 3) := by decide +kernel
theorem d_Mo_end_77 : decode b_Mo_end 77 = .ok (.iload_n 2, 1) := by decide +kernel
theorem d_Mo_end_78 : decode b_Mo_end 78 = .ok (.if_icmp .le 7, 3) := by decide +kernel
theorem d_Mo_end_81 : decode b_Mo_end 81 = .ok (.iconst 1, 1) := by decide +kernel
theorem d_Mo_end_82 : decode b_Mo_end 82 = .ok (.goto 4, 3) := by decide +kernel
theorem d_Mo_end_85 : decode b_Mo_end 85 = .ok (.iconst 0, 1) := by decide +kernel
theorem d_Mo_end_86 : decode b_Mo_end 86 = .ok (.iadd, 1) := by decide +kernel
theorem d_Mo_end_87 : decode b_Mo_end 87 = .ok (.istore_n 3, 1) := by decide +kernel
theorem d_Mo_end_88 : decode b_Mo_end 88 = .ok (.iinc 4 1, 3) := by decide +kernel
theorem d_Mo_end_91 : decode b_Mo_end 91 = .ok (.goto (-42), 3) := by decide +kernel
theorem d_Mo_end_94 : decode b_Mo_end 94 = .ok (.iload_n 3, 1) := by decide +kernel
theorem d_Mo_end_95 : decode b_Mo_end 95 = .ok (.ireturn, 1) := by decide +kernel
theorem d_Mo_about_0 : decode b_Mo_about 0 = .ok (.aload_n 0, 1) := by decide +kernel
theorem d_Mo_about_1 : decode b_Mo_about 1 = .ok (.iconst 0, 1) := by decide +kernel
theorem d_Mo_about_2 : decode b_Mo_about 2 = .ok (.putfield 90, 3) := by decide +kernel
theorem d_Mo_about_5 : decode b_Mo_about 5 = .ok (.aload_n 0, 1) := by decide +kernel
theorem d_Mo_about_6 : decode b_Mo_about 6 = .ok (.iload_n 1, 1) := by decide +kernel
theorem d_Mo_about_7 : decode b_Mo_about 7 = .ok (.invokevirtual 115, 3) := by decide +kernel
theorem d_Mo_about_10 : decode b_Mo_about 10 = .ok (.ifCond .ne 5, 3) := by decide +kernel
theorem d_Mo_about_13 : decode b_Mo_about 13 = .ok (.iconst (-1), 1) := by decide +kernel
theorem d_Mo_about_14 : decode b_Mo_about 14 = .ok (.ireturn, 1) := by decide +kernel
theorem d_Mo_about_15 : decode b_Mo_about 15 = .ok (.iload_n 2, 1) := by decide +kernel
theorem d_Mo_about_16 : decode b_Mo_about 16 = .ok (.tableswitch 146 0 7 #[48, 55, 62, 77, 84, 91, 132, 139], 48) := by decide +kernel
theorem d_Mo_about_64 : decode b_Mo_about 64 = .ok (.aload_n 0, 1) := by decide +kernel
theorem d_Mo_about_65 : decode b_Mo_about 65 = .ok (.getfield 32, 3) := by decide +kernel
theorem d_Mo_about_68 : decode b_Mo_about 68 = .ok (.iload_n 1, 1) := by decide +kernel
theorem d_Mo_about_69 : decode b_Mo_about 69 = .ok (.iaload, 1) := by decide +kernel
theorem d_Mo_about_70 : decode b_Mo_about 70 = .ok (.ireturn, 1) := by decide +kernel
theorem d_Mo_about_71 : decode b_Mo_about 71 = .ok (.aload_n 0, 1) := by decide +kernel
theorem d_Mo_about_72 : decode b_Mo_about 72 = .ok (.getfield 35, 3) := by decide +kernel
theorem d_Mo_about_75 : decode b_Mo_about 75 = .ok (.iload_n 1, 1) := by decide +kernel
theorem d_Mo_about_76 : decode b_Mo_about 76 = .ok (.iaload, 1) := by decide +kernel
theorem d_Mo_about_77 : decode b_Mo_about 77 = .ok (.ireturn, 1) := by decide +kernel
theorem d_Mo_about_78 : decode b_Mo_about 78 = .ok (.aload_n 0, 1) := by decide +kernel
theorem d_Mo_about_79 : decode b_Mo_about 79 = .ok (.getfield 38, 3) := by decide +kernel
theorem d_Mo_about_82 : decode b_Mo_about 82 = .ok (.iload_n 1, 1) := by decide +kernel
theorem d_Mo_about_83 : decode b_Mo_about 83 = .ok (.baload, 1) := by decide +kernel
theorem d_Mo_about_84 : decode b_Mo_about 84 = .ok (.ifCond .eq 7, 3) := by decide +kernel
theorem d_Mo_about_87 : decode b_Mo_about 87 = .ok (.iconst 0, 1) := by decide +kernel
theorem d_Mo_about_88 : decode b_Mo_about 88 = .ok (.goto 4, 3) := by decide +kernel
theorem d_Mo_about_91 : decode b_Mo_about 91 = .ok (.iconst 1, 1) := by decide +kernel
theorem d_Mo_about_92 : decode b_Mo_about 92 = .ok (.ireturn, 1) := by decide +kernel
theorem d_Mo_about_93 : decode b_Mo_about 93 = .ok (.aload_n 0, 1) := by decide +kernel
theorem d_Mo_about_94 : decode b_Mo_about 94 = .ok (.getfield 44, 3) := by decide +kernel
theorem d_Mo_about_97 : decode b_Mo_about 97 = .ok (.iload_n 1, 1) := by decide +kernel
theorem d_Mo_about_98 : decode b_Mo_about 98 = .ok (.iaload, 1) := by decide +kernel
theorem d_Mo_about_99 : decode b_Mo_about 99 = .ok (.ireturn, 1) := by decide +kernel
theorem d_Mo_about_100 : decode b_Mo_about 100 = .ok (.aload_n 0, 1) := by decide +kernel
theorem d_Mo_about_101 : decode b_Mo_about 101 = .ok (.getfield 41, 3) := by decide +kernel
theorem d_Mo_about_104 : decode b_Mo_about 104 = .ok (.iload_n 1, 1) := by decide +kernel
theorem d_Mo_about_105 : decode b_Mo_about 105 = .ok (.iaload, 1) := by decide +kernel
theorem d_Mo_about_106 : decode b_Mo_about 106 = .ok (.ireturn, 1) := by decide +kernel
theorem d_Mo_about_107 : decode b_Mo_about 107 = .ok (.iconst 0, 1) := by decide +kernel
theorem d_Mo_about_108 : decode b_Mo_about 108 = .ok (.istore_n 3, 1) := by decide +kernel
theorem d_Mo_about_109 : decode b_Mo_about 109 = .ok (.iconst 0, 1) := by decide +kernel
theorem d_Mo_about_110 : decode b_Mo_about 110 = .ok (.istore 4, 2) := by decide +kernel
theorem d_Mo_about_112 : decode b_Mo_about 112 = .ok (.iload 4, 2) := by decide +kernel
theorem d_Mo_about_114 : decode b_Mo_about 114 = .ok (.aload_n 0, 1) := by decide +kernel
theorem d_Mo_about_115 : decode b_Mo_about 115 = .ok (.getfield 142, 3) := by decide +kernel
theorem d_Mo_about_118 : decode b_Mo_about 118 = .ok (.if_icmp .ge 28, 3) := by decide +kernel
theorem d_Mo_about_121 : decode b_Mo_about 121 = .ok (.iload_n 3, 1) := by decide +kernel
theorem d_Mo_about_122 : decode b_Mo_about 122 = .ok (.aload_n 0, 1) := by decide +kernel
theorem d_Mo_about_123 : decode b_Mo_about 123 = .ok (.getfield 78, 3) := by decide +kernel
theorem d_Mo_about_126 : decode b_Mo_about 126 = .ok (.iload 4, 2) := by decide +kernel
theorem d_Mo_about_128 : decode b_Mo_about 128 = .ok (.iaload, 1) := by decide +kernel
theorem d_Mo_about_129 : decode b_Mo_about 129 = .ok (.iload_n 1, 1) := by decide +kernel
theorem d_Mo_about_130 : decode b_Mo_about 130 = .ok (.if_icmp .ne 7, 3) := by decide +kernel
theorem d_Mo_about_133 : decode b_Mo_about 133 = .ok (.iconst 1, 1) := by decide +kernel
theorem d_Mo_about_134 : decode b_Mo_about 134 = .ok (.goto 4, 3) := by decide +kernel
theorem d_Mo_about_137 : decode b_Mo_about 137 = .ok (.iconst 0, 1) := by decide +kernel
theorem d_Mo_about_138 : decode b_Mo_about 138 = .ok (.iadd, 1) := by decide +kernel
theorem d_Mo_about_139 : decode b_Mo_about 139 = .ok (.istore_n 3, 1) := by decide +kernel
theorem d_Mo_about_140 : decode b_Mo_about 140 = .ok (.iinc 4 1, 3) := by decide +kernel
theorem d_Mo_about_143 : decode b_Mo_about 143 = .ok (.goto (-31), 3) := by decide +kernel
theorem d_Mo_about_146 : decode b_Mo_about 146 = .ok (.iload_n 3, 1) := by decide +kernel
theorem d_Mo_about_147 : decode b_Mo_about 147 = .ok (.ireturn, 1) := by decide +kernel
theorem d_Mo_about_148 : decode b_Mo_about 148 = .ok (.aload_n 0, 1) := by decide +kernel
theorem d_Mo_about_149 : decode b_Mo_about 149 = .ok (.iload_n 1, 1) := by decide +kernel
theorem d_Mo_about_150 : decode b_Mo_about 150 = .ok (.iconst 0, 1) := by decide +kernel
theorem d_Mo_about_151 : decode b_Mo_about 151 = .ok (.invokevirtual 162, 3) := by decide +kernel
theorem d_Mo_about_154 : decode b_Mo_about 154 = .ok (.ireturn, 1) := by decide +kernel
theorem d_Mo_about_155 : decode b_Mo_about 155 = .ok (.aload_n 0, 1) := by decide +kernel
theorem d_Mo_about_156 : decode b_Mo_about 156 = .ok (.iload_n 1, 1) := by decide +kernel
theorem d_Mo_about_157 : decode b_Mo_about 157 = .ok (.iconst 1, 1) := by decide +kernel
theorem d_Mo_about_158 : decode b_Mo_about 158 = .ok (.invokevirtual 162, 3) := by decide +kernel
theorem d_Mo_about_161 : decode b_Mo_about 161 = .ok (.ireturn, 1) := by decide +kernel
theorem d_Mo_about_162 : decode b_Mo_about 162 = .ok (.iconst (-1), 1) := by decide +kernel
theorem d_Mo_about_163 : decode b_Mo_about 163 = .ok (.ireturn, 1) := by decide +kernel
theorem d_Mo_nextSpan_0 : decode b_Mo_nextSpan 0 = .ok (.iconst (-1), 1) := by decide +kernel
theorem d_Mo_nextSpan_1 : decode b_Mo_nextSpan 1 = .ok (.istore_n 3, 1) := by decide +kernel
theorem d_Mo_nextSpan_2 : decode b_Mo_nextSpan 2 = .ok (.bipush 10, 2) := by decide +kernel
theorem d_Mo_nextSpan_4 : decode b_Mo_nextSpan 4 = .ok (.iload_n 1, 1) := by decide +kernel
theorem d_Mo_nextSpan_5 : decode b_Mo_nextSpan 5 = .ok (.imul, 1) := by decide +kernel
theorem d_Mo_nextSpan_6 : decode b_Mo_nextSpan 6 = .ok (.istore 4, 2) := by decide +kernel
theorem d_Mo_nextSpan_8 : decode b_Mo_nextSpan 8 = .ok (.iload 4, 2) := by decide +kernel
theorem d_Mo_nextSpan_10 : decode b_Mo_nextSpan 10 = .ok (.bipush 10, 2) := by decide +kernel
theorem d_Mo_nextSpan_12 : decode b_Mo_nextSpan 12 = .ok (.iload_n 1, 1) := by decide +kernel
theorem d_Mo_nextSpan_13 : decode b_Mo_nextSpan 13 = .ok (.imul, 1) := by decide +kernel
theorem d_Mo_nextSpan_14 : decode b_Mo_nextSpan 14 = .ok (.aload_n 0, 1) := by decide +kernel
theorem d_Mo_nextSpan_15 : decode b_Mo_nextSpan 15 = .ok (.getfield 44, 3) := by decide +kernel
theorem d_Mo_nextSpan_18 : decode b_Mo_nextSpan 18 = .ok (.iload_n 1, 1) := by decide +kernel
theorem d_Mo_nextSpan_19 : decode b_Mo_nextSpan 19 = .ok (.iaload, 1) := by decide +kernel
theorem d_Mo_nextSpan_20 : decode b_Mo_nextSpan 20 = .ok (.iadd, 1) := by decide +kernel
theorem d_Mo_nextSpan_21 : decode b_Mo_nextSpan 21 = .ok (.if_icmp .ge 43, 3) := by decide +kernel
theorem d_Mo_nextSpan_24 : decode b_Mo_nextSpan 24 = .ok (.aload_n 0, 1) := by decide +kernel
theorem d_Mo_nextSpan_25 : decode b_Mo_nextSpan 25 = .ok (.getfield 47, 3) := by decide +kernel
theorem d_Mo_nextSpan_28 : decode b_Mo_nextSpan 28 = .ok (.iload 4, 2) := by decide +kernel
theorem d_Mo_nextSpan_30 : decode b_Mo_nextSpan 30 = .ok (.iaload, 1) := by decide +kernel
theorem d_Mo_nextSpan_31 : decode b_Mo_nextSpan 31 = .ok (.iload_n 2, 1) := by decide +kernel
theorem d_Mo_nextSpan_32 : decode b_Mo_nextSpan 32 = .ok (.if_icmp .le 26, 3) := by decide +kernel
theorem d_Mo_nextSpan_35 : decode b_Mo_nextSpan 35 = .ok (.iload_n 3, 1) := by decide +kernel
theorem d_Mo_nextSpan_36 : decode b_Mo_nextSpan 36 = .ok (.ifCond .lt 19, 3) := by decide +kernel
theorem d_Mo_nextSpan_39 : decode b_Mo_nextSpan 39 = .ok (.aload_n 0, 1) := by decide +kernel
theorem d_Mo_nextSpan_40 : decode b_Mo_nextSpan 40 = .ok (.getfield 47, 3) := by decide +kernel
theorem d_Mo_nextSpan_43 : decode b_Mo_nextSpan 43 = .ok (.iload 4, 2) := by decide +kernel
theorem d_Mo_nextSpan_45 : decode b_Mo_nextSpan 45 = .ok (.iaload, 1) := by decide +kernel
theorem d_Mo_nextSpan_46 : decode b_Mo_nextSpan 46 = .ok (.aload_n 0, 1) := by decide +kernel
theorem d_Mo_nextSpan_47 : decode b_Mo_nextSpan 47 = .ok (.getfield 47, 3) := by decide +kernel
theorem d_Mo_nextSpan_50 : decode b_Mo_nextSpan 50 = .ok (.iload_n 3, 1) := by decide +kernel
theorem d_Mo_nextSpan_51 : decode b_Mo_nextSpan 51 = .ok (.iaload, 1) := by decide +kernel
theorem d_Mo_nextSpan_52 : decode b_Mo_nextSpan 52 = .ok (.if_icmp .ge 6, 3) := by decide +kernel
theorem d_Mo_nextSpan_55 : decode b_Mo_nextSpan 55 = .ok (.iload 4, 2) := by decide +kernel
theorem d_Mo_nextSpan_57 : decode b_Mo_nextSpan 57 = .ok (.istore_n 3, 1) := by decide +kernel
theorem d_Mo_nextSpan_58 : decode b_Mo_nextSpan 58 = .ok (.iinc 4 1, 3) := by decide +kernel
theorem d_Mo_nextSpan_61 : decode b_Mo_nextSpan 61 = .ok (.goto (-53), 3) := by decide +kernel
theorem d_Mo_nextSpan_64 : decode b_Mo_nextSpan 64 = .ok (.iload_n 3, 1) := by decide +kernel
theorem d_Mo_nextSpan_65 : decode b_Mo_nextSpan 65 = .ok (.ireturn, 1) := by decide +kernel
theorem d_Mo_gap_0 : decode b_Mo_gap 0 = .ok (.aload_n 0, 1) := by decide +kernel
theorem d_Mo_gap_1 : decode b_Mo_gap 1 = .ok (.iconst 0, 1) := by decide +kernel
theorem d_Mo_gap_2 : decode b_Mo_gap 2 = .ok (.putfield 90, 3) := by decide +kernel
theorem d_Mo_gap_5 : decode b_Mo_gap 5 = .ok (.aload_n 0, 1) := by decide +kernel
theorem d_Mo_gap_6 : decode b_Mo_gap 6 = .ok (.iload_n 1, 1) := by decide +kernel
theorem d_Mo_gap_7 : decode b_Mo_gap 7 = .ok (.invokevirtual 115, 3) := by decide +kernel
theorem d_Mo_gap_10 : decode b_Mo_gap 10 = .ok (.ifCond .eq 16, 3) := by decide +kernel
theorem d_Mo_gap_13 : decode b_Mo_gap 13 = .ok (.iload_n 2, 1) := by decide +kernel
theorem d_Mo_gap_14 : decode b_Mo_gap 14 = .ok (.ifCond .lt 12, 3) := by decide +kernel
theorem d_Mo_gap_17 : decode b_Mo_gap 17 = .ok (.iload_n 3, 1) := by decide +kernel
theorem d_Mo_gap_18 : decode b_Mo_gap 18 = .ok (.iconst 0, 1) := by decide +kernel
theorem d_Mo_gap_19 : decode b_Mo_gap 19 = .ok (.iconst 1, 1) := by decide +kernel
theorem d_Mo_gap_20 : decode b_Mo_gap 20 = .ok (.invokestatic 94, 3) := by decide +kernel
theorem d_Mo_gap_23 : decode b_Mo_gap 23 = .ok (.ifCond .ne 5, 3) := by decide +kernel
theorem d_Mo_gap_26 : decode b_Mo_gap 26 = .ok (.iconst (-1), 1) := by decide +kernel
theorem d_Mo_gap_27 : decode b_Mo_gap 27 = .ok (.ireturn, 1) := by decide +kernel
theorem d_Mo_gap_28 : decode b_Mo_gap 28 = .ok (.aload_n 0, 1) := by decide +kernel
theorem d_Mo_gap_29 : decode b_Mo_gap 29 = .ok (.iload_n 1, 1) := by decide +kernel
theorem d_Mo_gap_30 : decode b_Mo_gap 30 = .ok (.iconst (-1), 1) := by decide +kernel
theorem d_Mo_gap_31 : decode b_Mo_gap 31 = .ok (.invokevirtual 166, 3) := by decide +kernel
theorem d_Mo_gap_34 : decode b_Mo_gap 34 = .ok (.istore 4, 2) := by decide +kernel
theorem d_Mo_gap_36 : decode b_Mo_gap 36 = .ok (.iconst 0, 1) := by decide +kernel
theorem d_Mo_gap_37 : decode b_Mo_gap 37 = .ok (.istore 5, 2) := by decide +kernel
theorem d_Mo_gap_39 : decode b_Mo_gap 39 = .ok (.iload 5, 2) := by decide +kernel
theorem d_Mo_gap_41 : decode b_Mo_gap 41 = .ok (.iload_n 2, 1) := by decide +kernel
theorem d_Mo_gap_42 : decode b_Mo_gap 42 = .ok (.if_icmp .ge 28, 3) := by decide +kernel
theorem d_Mo_gap_45 : decode b_Mo_gap 45 = .ok (.iload 4, 2) := by decide +kernel
theorem d_Mo_gap_47 : decode b_Mo_gap 47 = .ok (.ifCond .lt 23, 3) := by decide +kernel
theorem d_Mo_gap_50 : decode b_Mo_gap 50 = .ok (.aload_n 0, 1) := by decide +kernel
theorem d_Mo_gap_51 : decode b_Mo_gap 51 = .ok (.iload_n 1, 1) := by decide +kernel
theorem d_Mo_gap_52 : decode b_Mo_gap 52 = .ok (.aload_n 0, 1) := by decide +kernel
theorem d_Mo_gap_53 : decode b_Mo_gap 53 = .ok (.getfield 50, 3) := by decide +kernel
theorem d_Mo_gap_56 : decode b_Mo_gap 56 = .ok (.iload 4, 2) := by decide +kernel
theorem d_Mo_gap_58 : decode b_Mo_gap 58 = .ok (.iaload, 1) := by decide +kernel
theorem d_Mo_gap_59 : decode b_Mo_gap 59 = .ok (.invokevirtual 166, 3) := by decide +kernel
theorem d_Mo_gap_62 : decode b_Mo_gap 62 = .ok (.istore 4, 2) := by decide +kernel
theorem d_Mo_gap_64 : decode b_Mo_gap 64 = .ok (.iinc 5 1, 3) := by decide +kernel
theorem d_Mo_gap_67 : decode b_Mo_gap 67 = .ok (.goto (-28), 3) := by decide +kernel
theorem d_Mo_gap_70 : decode b_Mo_gap 70 = .ok (.iload 4, 2) := by decide +kernel
theorem d_Mo_gap_72 : decode b_Mo_gap 72 = .ok (.ifCond .ge 7, 3) := by decide +kernel
theorem d_Mo_gap_75 : decode b_Mo_gap 75 = .ok (.iconst (-1), 1) := by decide +kernel
theorem d_Mo_gap_76 : decode b_Mo_gap 76 = .ok (.goto 15, 3) := by decide +kernel
theorem d_Mo_gap_79 : decode b_Mo_gap 79 = .ok (.aload_n 0, 1) := by decide +kernel
theorem d_Mo_gap_80 : decode b_Mo_gap 80 = .ok (.iload_n 1, 1) := by decide +kernel
theorem d_Mo_gap_81 : decode b_Mo_gap 81 = .ok (.aload_n 0, 1) := by decide +kernel
theorem d_Mo_gap_82 : decode b_Mo_gap 82 = .ok (.getfield 50, 3) := by decide +kernel
theorem d_Mo_gap_85 : decode b_Mo_gap 85 = .ok (.iload 4, 2) := by decide +kernel
theorem d_Mo_gap_87 : decode b_Mo_gap 87 = .ok (.iaload, 1) := by decide +kernel
theorem d_Mo_gap_88 : decode b_Mo_gap 88 = .ok (.invokevirtual 166, 3) := by decide +kernel
theorem d_Mo_gap_91 : decode b_Mo_gap 91 = .ok (.istore 5, 2) := by decide +kernel
theorem d_Mo_gap_93 : decode b_Mo_gap 93 = .ok (.iload 5, 2) := by decide +kernel
theorem d_Mo_gap_95 : decode b_Mo_gap 95 = .ok (.ifCond .ge 7, 3) := by decide +kernel
theorem d_Mo_gap_98 : decode b_Mo_gap 98 = .ok (.iconst (-1), 1) := by decide +kernel
theorem d_Mo_gap_99 : decode b_Mo_gap 99 = .ok (.goto 28, 3) := by decide +kernel
theorem d_Mo_gap_102 : decode b_Mo_gap 102 = .ok (.iload_n 3, 1) := by decide +kernel
theorem d_Mo_gap_103 : decode b_Mo_gap 103 = .ok (.ifCond .ne 15, 3) := by decide +kernel
theorem d_Mo_gap_106 : decode b_Mo_gap 106 = .ok (.aload_n 0, 1) := by decide +kernel
theorem d_Mo_gap_107 : decode b_Mo_gap 107 = .ok (.getfield 50, 3) := by decide +kernel
theorem d_Mo_gap_110 : decode b_Mo_gap 110 = .ok (.iload 4, 2) := by decide +kernel
theorem d_Mo_gap_112 : decode b_Mo_gap 112 = .ok (.iaload, 1) := by decide +kernel
theorem d_Mo_gap_113 : decode b_Mo_gap 113 = .ok (.iconst 1, 1) := by decide +kernel
theorem d_Mo_gap_114 : decode b_Mo_gap 114 = .ok (.iadd, 1) := by decide +kernel
theorem d_Mo_gap_115 : decode b_Mo_gap 115 = .ok (.goto 12, 3) := by decide +kernel
theorem d_Mo_gap_118 : decode b_Mo_gap 118 = .ok (.aload_n 0, 1) := by decide +kernel
theorem d_Mo_gap_119 : decode b_Mo_gap 119 = .ok (.getfield 47, 3) := by decide +kernel
theorem d_Mo_gap_122 : decode b_Mo_gap 122 = .ok (.iload 5, 2) := by decide +kernel
theorem d_Mo_gap_124 : decode b_Mo_gap 124 = .ok (.iaload, 1) := by decide +kernel
theorem d_Mo_gap_125 : decode b_Mo_gap 125 = .ok (.iconst 1, 1) := by decide +kernel
theorem d_Mo_gap_126 : decode b_Mo_gap 126 = .ok (.isub, 1) := by decide +kernel
theorem d_Mo_gap_127 : decode b_Mo_gap 127 = .ok (.ireturn, 1) := by decide +kernel
def f_Mo_bound_b50 (k8 : Nat → Int32 → Int32 → Int32 → Int32 → mm → Option (Int32 × mm)) : Nat → Int32 → Int32 → Int32 → Int32 → mm → Option (Int32 × mm) := fun v0 v1 v2 v4 t0 M =>
    k8 v0 v1 v2 t0 (v4 + 1) M
def f_Mo_bound_b80 (k8 : Nat → Int32 → Int32 → Int32 → Int32 → mm → Option (Int32 × mm)) : Nat → Int32 → Int32 → Int32 → Int32 → mm → Option (Int32 × mm) := fun v0 v1 v2 v4 t0 M =>
    k8 v0 v1 v2 t0 (v4 + 1) M
def f_Mo_bound_b69 (k8 : Nat → Int32 → Int32 → Int32 → Int32 → mm → Option (Int32 × mm)) : Nat → Int32 → Int32 → Int32 → mm → Option (Int32 × mm) := fun v0 v1 v2 v4 M =>
    (gR 1 15 M v0).bind fun x14 =>
    (aI M x14 v4).bind fun x15 =>
    f_Mo_bound_b80 k8 v0 v1 v2 v4 x15 M
def f_Mo_bound_b8 : Nat → Nat → Int32 → Int32 → Int32 → Int32 → mm → Option (Int32 × mm)
  | 0, _, _, _, _, _, _ => none
  | n + 1, v0, v1, v2, v3, v4, M =>
    (gR 1 14 M v0).bind fun x1 =>
    (aI M x1 v1).bind fun x2 =>
    if ((10 * v1) + x2) ≤ v4 then
      some (v3, M)
    else
      if v2 = 0 then
        if v3 < 0 then
          f_Mo_bound_b69 (f_Mo_bound_b8 n) v0 v1 v2 v4 M
        else
          (gR 1 15 M v0).bind fun x6 =>
          (aI M x6 v4).bind fun x7 =>
          if v3 ≤ x7 then
            f_Mo_bound_b80 (f_Mo_bound_b8 n) v0 v1 v2 v4 v3 M
          else
            f_Mo_bound_b69 (f_Mo_bound_b8 n) v0 v1 v2 v4 M
      else
        (gR 1 16 M v0).bind fun x9 =>
        (aI M x9 v4).bind fun x10 =>
        if x10 ≤ v3 then
          f_Mo_bound_b50 (f_Mo_bound_b8 n) v0 v1 v2 v4 v3 M
        else
          (gR 1 16 M v0).bind fun x12 =>
          (aI M x12 v4).bind fun x13 =>
          f_Mo_bound_b50 (f_Mo_bound_b8 n) v0 v1 v2 v4 x13 M
def f_Mo_bound (v0 : Nat) (v1 : Int32) (v2 : Int32) (M : mm) : Option (Int32 × mm) :=
    f_Mo_bound_b8 FU v0 v1 v2 ((-1)) (10 * v1) M
set_option maxHeartbeats 4000000 in
set_option maxRecDepth 100000 in
theorem w_Mo_bound_b50 {p : Program} {l : Launch} {e : Env} {s : State} {m : MethodId} {args : Array Value} {below : List Frame} {meth : Method} {c : Code} {D : va_G} {dA : Nat → ClassId} {M0 M' : mm} {r : Int32} (C : mm_C p s m args meth c b_Mo_bound 5 (some .int) R_Mo D dA (mm_A M0)) {k8 : Nat → Int32 → Int32 → Int32 → Int32 → mm → Option (Int32 × mm)} (hk8 : ∀ (v0 : Nat) (v1 : Int32) (v2 : Int32) (v3 : Int32) (v4 : Int32) (M : mm) (H : Heap) (locs : List Loc) (ls : Array Slot), k8 v0 v1 v2 v3 v4 M = some (r, M') → mm_W D dA (mm_A M0) M H → va_S (mm_A M0) s.heap H locs → lv_has ls 5 [(0, .ref v0), (1, .int v1), (2, .int v2), (3, .int v3), (4, .int v4)] → W p l e rm_Mo_bound s m args below meth c H locs 0 0 (MQ below (mm_QI D dA M0 r M') args s 0 0 (mm_A M0)) (F0 m 8 ls [])) : ∀ (v0 : Nat) (v1 : Int32) (v2 : Int32) (v4 : Int32) (t0 : Int32) (M : mm) (H : Heap) (locs : List Loc) (ls : Array Slot), f_Mo_bound_b50 k8 v0 v1 v2 v4 t0 M = some (r, M') → mm_W D dA (mm_A M0) M H → va_S (mm_A M0) s.heap H locs → lv_has ls 5 [(0, .ref v0), (1, .int v1), (2, .int v2), (4, .int v4)] → W p l e rm_Mo_bound s m args below meth c H locs 0 0 (MQ below (mm_QI D dA M0 r M') args s 0 0 (mm_A M0)) (F0 m 50 ls [.int t0]) := by
  obtain ⟨hx, hb, hr, hml, hown, hts, hlocks, hK, hA⟩ := id C
  intro v0 v1 v2 v4 t0 M H locs ls h hW hS hl
  unfold f_Mo_bound_b50 at h
  refine lv_istore_n (lv' := [(3, .int t0), (0, .ref v0), (1, .int v1), (2, .int v2), (4, .int v4)]) hx hb d_Mo_bound_50 rfl hl (by decide) rfl (fun ls hl => ?_)
  refine lv_goto (tgt := 81) hx hb d_Mo_bound_51 (by decide) ?_
  refine lv_iinc (v := v4 + 1) (lv' := [(4, .int (v4 + 1)), (3, .int t0), (0, .ref v0), (1, .int v1), (2, .int v2)]) hx hb d_Mo_bound_81 hl (k := 4) rfl rfl (by decide) rfl (fun ls hl => ?_)
  refine lv_goto (tgt := 8) hx hb d_Mo_bound_84 (by decide) ?_
  exact hk8 _ _ _ _ _ _ _ _ _ h hW hS (lv_sub hl [2, 3, 4, 1, 0] rfl)
set_option maxHeartbeats 4000000 in
set_option maxRecDepth 100000 in
theorem w_Mo_bound_b80 {p : Program} {l : Launch} {e : Env} {s : State} {m : MethodId} {args : Array Value} {below : List Frame} {meth : Method} {c : Code} {D : va_G} {dA : Nat → ClassId} {M0 M' : mm} {r : Int32} (C : mm_C p s m args meth c b_Mo_bound 5 (some .int) R_Mo D dA (mm_A M0)) {k8 : Nat → Int32 → Int32 → Int32 → Int32 → mm → Option (Int32 × mm)} (hk8 : ∀ (v0 : Nat) (v1 : Int32) (v2 : Int32) (v3 : Int32) (v4 : Int32) (M : mm) (H : Heap) (locs : List Loc) (ls : Array Slot), k8 v0 v1 v2 v3 v4 M = some (r, M') → mm_W D dA (mm_A M0) M H → va_S (mm_A M0) s.heap H locs → lv_has ls 5 [(0, .ref v0), (1, .int v1), (2, .int v2), (3, .int v3), (4, .int v4)] → W p l e rm_Mo_bound s m args below meth c H locs 0 0 (MQ below (mm_QI D dA M0 r M') args s 0 0 (mm_A M0)) (F0 m 8 ls [])) : ∀ (v0 : Nat) (v1 : Int32) (v2 : Int32) (v4 : Int32) (t0 : Int32) (M : mm) (H : Heap) (locs : List Loc) (ls : Array Slot), f_Mo_bound_b80 k8 v0 v1 v2 v4 t0 M = some (r, M') → mm_W D dA (mm_A M0) M H → va_S (mm_A M0) s.heap H locs → lv_has ls 5 [(0, .ref v0), (1, .int v1), (2, .int v2), (4, .int v4)] → W p l e rm_Mo_bound s m args below meth c H locs 0 0 (MQ below (mm_QI D dA M0 r M') args s 0 0 (mm_A M0)) (F0 m 80 ls [.int t0]) := by
  obtain ⟨hx, hb, hr, hml, hown, hts, hlocks, hK, hA⟩ := id C
  intro v0 v1 v2 v4 t0 M H locs ls h hW hS hl
  unfold f_Mo_bound_b80 at h
  refine lv_istore_n (lv' := [(3, .int t0), (0, .ref v0), (1, .int v1), (2, .int v2), (4, .int v4)]) hx hb d_Mo_bound_80 rfl hl (by decide) rfl (fun ls hl => ?_)
  refine lv_iinc (v := v4 + 1) (lv' := [(4, .int (v4 + 1)), (3, .int t0), (0, .ref v0), (1, .int v1), (2, .int v2)]) hx hb d_Mo_bound_81 hl (k := 4) rfl rfl (by decide) rfl (fun ls hl => ?_)
  refine lv_goto (tgt := 8) hx hb d_Mo_bound_84 (by decide) ?_
  exact hk8 _ _ _ _ _ _ _ _ _ h hW hS (lv_sub hl [2, 3, 4, 1, 0] rfl)
set_option maxHeartbeats 4000000 in
set_option maxRecDepth 100000 in
theorem w_Mo_bound_b69 {p : Program} {l : Launch} {e : Env} {s : State} {m : MethodId} {args : Array Value} {below : List Frame} {meth : Method} {c : Code} {D : va_G} {dA : Nat → ClassId} {M0 M' : mm} {r : Int32} (C : mm_C p s m args meth c b_Mo_bound 5 (some .int) R_Mo D dA (mm_A M0)) {k8 : Nat → Int32 → Int32 → Int32 → Int32 → mm → Option (Int32 × mm)} (hk8 : ∀ (v0 : Nat) (v1 : Int32) (v2 : Int32) (v3 : Int32) (v4 : Int32) (M : mm) (H : Heap) (locs : List Loc) (ls : Array Slot), k8 v0 v1 v2 v3 v4 M = some (r, M') → mm_W D dA (mm_A M0) M H → va_S (mm_A M0) s.heap H locs → lv_has ls 5 [(0, .ref v0), (1, .int v1), (2, .int v2), (3, .int v3), (4, .int v4)] → W p l e rm_Mo_bound s m args below meth c H locs 0 0 (MQ below (mm_QI D dA M0 r M') args s 0 0 (mm_A M0)) (F0 m 8 ls [])) : ∀ (v0 : Nat) (v1 : Int32) (v2 : Int32) (v4 : Int32) (M : mm) (H : Heap) (locs : List Loc) (ls : Array Slot), f_Mo_bound_b69 k8 v0 v1 v2 v4 M = some (r, M') → mm_W D dA (mm_A M0) M H → va_S (mm_A M0) s.heap H locs → lv_has ls 5 [(0, .ref v0), (1, .int v1), (2, .int v2), (4, .int v4)] → W p l e rm_Mo_bound s m args below meth c H locs 0 0 (MQ below (mm_QI D dA M0 r M') args s 0 0 (mm_A M0)) (F0 m 69 ls []) := by
  obtain ⟨hx, hb, hr, hml, hown, hts, hlocks, hK, hA⟩ := id C
  intro v0 v1 v2 v4 M H locs ls h hW hS hl
  unfold f_Mo_bound_b69 at h
  refine lv_aload_n hx hb d_Mo_bound_69 rfl (lv_at hl 0 rfl) ?_
  obtain ⟨x14, e14, h⟩ := ob h
  refine mr_gR C hW k_Mo_47 e14 d_Mo_bound_70 ?_
  refine lv_iload hx hb d_Mo_bound_73 (lv_at hl 3 rfl) ?_
  obtain ⟨x15, e15, h⟩ := ob h
  refine mr_aI C hW e15 d_Mo_bound_75 ?_
  refine lv_goto (tgt := 80) hx hb d_Mo_bound_76 (by decide) ?_
  exact w_Mo_bound_b80 C hk8 _ _ _ _ _ _ _ _ _ h hW hS (lv_sub hl [0, 1, 2, 3] rfl)
set_option maxHeartbeats 4000000 in
set_option maxRecDepth 100000 in
theorem w_Mo_bound_b8 {p : Program} {l : Launch} {e : Env} {s : State} {m : MethodId} {args : Array Value} {below : List Frame} {meth : Method} {c : Code} {D : va_G} {dA : Nat → ClassId} {M0 M' : mm} {r : Int32} (C : mm_C p s m args meth c b_Mo_bound 5 (some .int) R_Mo D dA (mm_A M0)) : ∀ (n : Nat), ∀ (v0 : Nat) (v1 : Int32) (v2 : Int32) (v3 : Int32) (v4 : Int32) (M : mm) (H : Heap) (locs : List Loc) (ls : Array Slot), f_Mo_bound_b8 n v0 v1 v2 v3 v4 M = some (r, M') → mm_W D dA (mm_A M0) M H → va_S (mm_A M0) s.heap H locs → lv_has ls 5 [(0, .ref v0), (1, .int v1), (2, .int v2), (3, .int v3), (4, .int v4)] → W p l e rm_Mo_bound s m args below meth c H locs 0 0 (MQ below (mm_QI D dA M0 r M') args s 0 0 (mm_A M0)) (F0 m 8 ls []) := by
  obtain ⟨hx, hb, hr, hml, hown, hts, hlocks, hK, hA⟩ := id C
  intro n
  induction n with
  | zero =>
    intro v0 v1 v2 v3 v4 M H locs ls h hW hS hl
    unfold f_Mo_bound_b8 at h
    cases h
  | succ n ih =>
    intro v0 v1 v2 v3 v4 M H locs ls h hW hS hl
    unfold f_Mo_bound_b8 at h
    refine lv_iload hx hb d_Mo_bound_8 (lv_at hl 4 rfl) ?_
    refine lv_bipush (v := 10) hx hb d_Mo_bound_10 (by decide) ?_
    refine lv_iload_n hx hb d_Mo_bound_12 rfl (lv_at hl 1 rfl) ?_
    refine lv_imul hx hb d_Mo_bound_13 ?_
    refine lv_aload_n hx hb d_Mo_bound_14 rfl (lv_at hl 0 rfl) ?_
    obtain ⟨x1, e1, h⟩ := ob h
    refine mr_gR C hW k_Mo_44 e1 d_Mo_bound_15 ?_
    refine lv_iload_n hx hb d_Mo_bound_18 rfl (lv_at hl 1 rfl) ?_
    obtain ⟨x2, e2, h⟩ := ob h
    refine mr_aI C hW e2 d_Mo_bound_19 ?_
    refine lv_iadd hx hb d_Mo_bound_20 ?_
    refine lv_icmp_ge (tgt := 87) hx hb d_Mo_bound_21 (by decide) (fun c3 => ?_) (fun c3 => ?_)
    · have h := ifp h c3
      refine lv_iload_n hx hb d_Mo_bound_87 rfl (lv_at hl 3 rfl) ?_
      exact mr_iret C hW hS (Nat.le_of_ble_eq_true rfl) (Nat.le_of_ble_eq_true rfl) h d_Mo_bound_88
    · have h := ifn h c3
      refine lv_iload_n hx hb d_Mo_bound_24 rfl (lv_at hl 2 rfl) ?_
      refine lv_if_eq (tgt := 54) hx hb d_Mo_bound_25 (by decide) (fun c4 => ?_) (fun c4 => ?_)
      · have h := ifp h c4
        refine lv_iload_n hx hb d_Mo_bound_54 rfl (lv_at hl 3 rfl) ?_
        refine lv_if_lt (tgt := 69) hx hb d_Mo_bound_55 (by decide) (fun c5 => ?_) (fun c5 => ?_)
        · have h := ifp h c5
          exact w_Mo_bound_b69 C ih _ _ _ _ _ _ _ _ h hW hS (lv_sub hl [0, 1, 2, 4] rfl)
        · have h := ifn h c5
          refine lv_aload_n hx hb d_Mo_bound_58 rfl (lv_at hl 0 rfl) ?_
          obtain ⟨x6, e6, h⟩ := ob h
          refine mr_gR C hW k_Mo_47 e6 d_Mo_bound_59 ?_
          refine lv_iload hx hb d_Mo_bound_62 (lv_at hl 4 rfl) ?_
          obtain ⟨x7, e7, h⟩ := ob h
          refine mr_aI C hW e7 d_Mo_bound_64 ?_
          refine lv_iload_n hx hb d_Mo_bound_65 rfl (lv_at hl 3 rfl) ?_
          refine lv_icmp_ge (tgt := 79) hx hb d_Mo_bound_66 (by decide) (fun c8 => ?_) (fun c8 => ?_)
          · have h := ifp h c8
            refine lv_iload_n hx hb d_Mo_bound_79 rfl (lv_at hl 3 rfl) ?_
            exact w_Mo_bound_b80 C ih _ _ _ _ _ _ _ _ _ h hW hS (lv_sub hl [0, 1, 2, 4] rfl)
          · have h := ifn h c8
            exact w_Mo_bound_b69 C ih _ _ _ _ _ _ _ _ h hW hS (lv_sub hl [0, 1, 2, 4] rfl)
      · have h := ifn h c4
        refine lv_aload_n hx hb d_Mo_bound_28 rfl (lv_at hl 0 rfl) ?_
        obtain ⟨x9, e9, h⟩ := ob h
        refine mr_gR C hW k_Mo_50 e9 d_Mo_bound_29 ?_
        refine lv_iload hx hb d_Mo_bound_32 (lv_at hl 4 rfl) ?_
        obtain ⟨x10, e10, h⟩ := ob h
        refine mr_aI C hW e10 d_Mo_bound_34 ?_
        refine lv_iload_n hx hb d_Mo_bound_35 rfl (lv_at hl 3 rfl) ?_
        refine lv_icmp_le (tgt := 49) hx hb d_Mo_bound_36 (by decide) (fun c11 => ?_) (fun c11 => ?_)
        · have h := ifp h c11
          refine lv_iload_n hx hb d_Mo_bound_49 rfl (lv_at hl 3 rfl) ?_
          exact w_Mo_bound_b50 C ih _ _ _ _ _ _ _ _ _ h hW hS (lv_sub hl [0, 1, 2, 4] rfl)
        · have h := ifn h c11
          refine lv_aload_n hx hb d_Mo_bound_39 rfl (lv_at hl 0 rfl) ?_
          obtain ⟨x12, e12, h⟩ := ob h
          refine mr_gR C hW k_Mo_50 e12 d_Mo_bound_40 ?_
          refine lv_iload hx hb d_Mo_bound_43 (lv_at hl 4 rfl) ?_
          obtain ⟨x13, e13, h⟩ := ob h
          refine mr_aI C hW e13 d_Mo_bound_45 ?_
          refine lv_goto (tgt := 50) hx hb d_Mo_bound_46 (by decide) ?_
          exact w_Mo_bound_b50 C ih _ _ _ _ _ _ _ _ _ h hW hS (lv_sub hl [0, 1, 2, 4] rfl)
set_option maxHeartbeats 4000000 in
set_option maxRecDepth 100000 in
theorem c_Mo_bound (l : Launch) (D : va_G) (dA : Nat → ClassId) (M0 M' : mm) (r : Int32) (v0 : Nat) (v1 : Int32) (v2 : Int32) (h : f_Mo_bound v0 v1 v2 M0 = some (r, M')) : Met l y_Mo_bound w_Mo_bound rm_Mo_bound (mm_Pre D dA M0 [.ref v0, .int v1, .int v2]) (mm_QI D dA M0 r M') 0 0 (mm_A M0) := by
  refine Met.ofW (cc := b_Mo_bound) (maxL := 5) (ret := (some .int)) (by decide) rfl ?_
  intro p e s m args below meth c s₁ B hml hv
  obtain ⟨rfl, hW, hK⟩ := hv
  have C : mm_C p s m _ meth c b_Mo_bound 5 (some .int) R_Mo D dA (mm_A M0) := ⟨B.exec, B.bytes, B.returns, hml, findClass_of_methodNamed B.named, fun w hw => atoms_spec (ws := w_Mo_bound) B.pre w (List.mem_cons_of_mem _ hw), B.notSynchronized, hK, fun q hq => Or.inr (by rw [← hW.1]; exact hq)⟩
  have hS : va_S (mm_A M0) s.heap s.heap [] := va_S.rf
  obtain ⟨hx, hb, hr, hml, hown, hts, hlocks, hK, hA⟩ := id C
  have hl := lv_entry ([.ref v0, .int v1, .int v2]) (n := 5) (Nat.le_of_ble_eq_true rfl)
  rw [lg_entry_eq]
  generalize (lg_sl ([.ref v0, .int v1, .int v2]) ++ List.replicate (5 - (lg_sl ([.ref v0, .int v1, .int v2])).length) Slot.unset).toArray = ls at hl ⊢
  have hl : lv_has ls 5 [(0, .ref v0), (1, .int v1), (2, .int v2)] := hl
  unfold f_Mo_bound at h
  refine lv_iconst (v := (-1)) hx hb d_Mo_bound_0 (by decide) ?_
  refine lv_istore_n (lv' := [(3, .int ((-1))), (0, .ref v0), (1, .int v1), (2, .int v2)]) hx hb d_Mo_bound_1 rfl hl (by decide) rfl (fun ls hl => ?_)
  refine lv_bipush (v := 10) hx hb d_Mo_bound_2 (by decide) ?_
  refine lv_iload_n hx hb d_Mo_bound_4 rfl (lv_at hl 2 rfl) ?_
  refine lv_imul hx hb d_Mo_bound_5 ?_
  refine lv_istore (lv' := [(4, .int (10 * v1)), (3, .int ((-1))), (0, .ref v0), (1, .int v1), (2, .int v2)]) hx hb d_Mo_bound_6 hl (by decide) rfl (fun ls hl => ?_)
  exact w_Mo_bound_b8 C FU _ _ _ _ _ _ _ _ _ h hW hS (lv_sub hl [2, 3, 4, 1, 0] rfl)
def f_Mo_end_b86 (k49 : Nat → Int32 → Int32 → Int32 → Int32 → mm → Option (Int32 × mm)) : Nat → Int32 → Int32 → Int32 → Int32 → Int32 → mm → Option (Int32 × mm) := fun v0 v1 v2 v4 t0 t1 M =>
    k49 v0 v1 v2 (t1 + t0) (v4 + 1) M
def f_Mo_end_b85 (k49 : Nat → Int32 → Int32 → Int32 → Int32 → mm → Option (Int32 × mm)) : Nat → Int32 → Int32 → Int32 → Int32 → mm → Option (Int32 × mm) := fun v0 v1 v2 v4 t0 M =>
    f_Mo_end_b86 k49 v0 v1 v2 v4 0 t0 M
def f_Mo_end_b49 : Nat → Nat → Int32 → Int32 → Int32 → Int32 → mm → Option (Int32 × mm)
  | 0, _, _, _, _, _, _ => none
  | n + 1, v0, v1, v2, v3, v4, M =>
    (gI 1 9 M v0).bind fun x1 =>
    if x1 ≤ v4 then
      some (v3, M)
    else
      (gR 1 10 M v0).bind fun x3 =>
      (aI M x3 v4).bind fun x4 =>
      if x4 = v1 then
        (kO 1 M v0).bind fun _ =>
        (f_Mo_bound v0 v4 1 M).bind fun (x6, M6) =>
        if x6 ≤ v2 then
          f_Mo_end_b85 (f_Mo_end_b49 n) v0 v1 v2 v4 v3 M6
        else
          f_Mo_end_b86 (f_Mo_end_b49 n) v0 v1 v2 v4 1 v3 M6
      else
        f_Mo_end_b85 (f_Mo_end_b49 n) v0 v1 v2 v4 v3 M
def f_Mo_end (v0 : Nat) (v1 : Int32) (v2 : Int32) (M : mm) : Option (Int32 × mm) :=
    (pF 1 0 (.int 0) M v0).bind fun M9 =>
    (kO 1 M9 v0).bind fun _ =>
    (f_Mo_isPack v0 v1 M9).bind fun (x10, M10) =>
    if x10 = 0 then
      some ((-1), M10)
    else
      (f_Mo_isDay v2 M10).bind fun (x13, M13) =>
      if x13 = 0 then
        some ((-2), M13)
      else
        (gR 1 4 M13 v0).bind fun x15 =>
        (aI M13 x15 v1).bind fun x16 =>
        if x16 < 0 then
          (gR 1 4 M13 v0).bind fun x18 =>
          (sI v2 M13 x18 v1).bind fun M19 =>
          f_Mo_end_b49 FU v0 v1 v2 0 0 M19
        else
          some ((-3), M13)
set_option maxHeartbeats 4000000 in
set_option maxRecDepth 100000 in
theorem w_Mo_end_b86 {p : Program} {l : Launch} {e : Env} {s : State} {m : MethodId} {args : Array Value} {below : List Frame} {meth : Method} {c : Code} {D : va_G} {dA : Nat → ClassId} {M0 M' : mm} {r : Int32} (C : mm_C p s m args meth c b_Mo_end 5 (some .int) R_Mo D dA (mm_A M0)) {k49 : Nat → Int32 → Int32 → Int32 → Int32 → mm → Option (Int32 × mm)} (hk49 : ∀ (v0 : Nat) (v1 : Int32) (v2 : Int32) (v3 : Int32) (v4 : Int32) (M : mm) (H : Heap) (locs : List Loc) (ls : Array Slot), k49 v0 v1 v2 v3 v4 M = some (r, M') → mm_W D dA (mm_A M0) M H → va_S (mm_A M0) s.heap H locs → lv_has ls 5 [(0, .ref v0), (1, .int v1), (2, .int v2), (3, .int v3), (4, .int v4)] → W p l e rm_Mo_end s m args below meth c H locs 0 0 (MQ below (mm_QI D dA M0 r M') args s 0 0 (mm_A M0)) (F0 m 49 ls [])) : ∀ (v0 : Nat) (v1 : Int32) (v2 : Int32) (v4 : Int32) (t0 : Int32) (t1 : Int32) (M : mm) (H : Heap) (locs : List Loc) (ls : Array Slot), f_Mo_end_b86 k49 v0 v1 v2 v4 t0 t1 M = some (r, M') → mm_W D dA (mm_A M0) M H → va_S (mm_A M0) s.heap H locs → lv_has ls 5 [(0, .ref v0), (1, .int v1), (2, .int v2), (4, .int v4)] → W p l e rm_Mo_end s m args below meth c H locs 0 0 (MQ below (mm_QI D dA M0 r M') args s 0 0 (mm_A M0)) (F0 m 86 ls [.int t0, .int t1]) := by
  obtain ⟨hx, hb, hr, hml, hown, hts, hlocks, hK, hA⟩ := id C
  intro v0 v1 v2 v4 t0 t1 M H locs ls h hW hS hl
  unfold f_Mo_end_b86 at h
  refine lv_iadd hx hb d_Mo_end_86 ?_
  refine lv_istore_n (lv' := [(3, .int (t1 + t0)), (0, .ref v0), (1, .int v1), (2, .int v2), (4, .int v4)]) hx hb d_Mo_end_87 rfl hl (by decide) rfl (fun ls hl => ?_)
  refine lv_iinc (v := v4 + 1) (lv' := [(4, .int (v4 + 1)), (3, .int (t1 + t0)), (0, .ref v0), (1, .int v1), (2, .int v2)]) hx hb d_Mo_end_88 hl (k := 4) rfl rfl (by decide) rfl (fun ls hl => ?_)
  refine lv_goto (tgt := 49) hx hb d_Mo_end_91 (by decide) ?_
  exact hk49 _ _ _ _ _ _ _ _ _ h hW hS (lv_sub hl [2, 3, 4, 1, 0] rfl)
set_option maxHeartbeats 4000000 in
set_option maxRecDepth 100000 in
theorem w_Mo_end_b85 {p : Program} {l : Launch} {e : Env} {s : State} {m : MethodId} {args : Array Value} {below : List Frame} {meth : Method} {c : Code} {D : va_G} {dA : Nat → ClassId} {M0 M' : mm} {r : Int32} (C : mm_C p s m args meth c b_Mo_end 5 (some .int) R_Mo D dA (mm_A M0)) {k49 : Nat → Int32 → Int32 → Int32 → Int32 → mm → Option (Int32 × mm)} (hk49 : ∀ (v0 : Nat) (v1 : Int32) (v2 : Int32) (v3 : Int32) (v4 : Int32) (M : mm) (H : Heap) (locs : List Loc) (ls : Array Slot), k49 v0 v1 v2 v3 v4 M = some (r, M') → mm_W D dA (mm_A M0) M H → va_S (mm_A M0) s.heap H locs → lv_has ls 5 [(0, .ref v0), (1, .int v1), (2, .int v2), (3, .int v3), (4, .int v4)] → W p l e rm_Mo_end s m args below meth c H locs 0 0 (MQ below (mm_QI D dA M0 r M') args s 0 0 (mm_A M0)) (F0 m 49 ls [])) : ∀ (v0 : Nat) (v1 : Int32) (v2 : Int32) (v4 : Int32) (t0 : Int32) (M : mm) (H : Heap) (locs : List Loc) (ls : Array Slot), f_Mo_end_b85 k49 v0 v1 v2 v4 t0 M = some (r, M') → mm_W D dA (mm_A M0) M H → va_S (mm_A M0) s.heap H locs → lv_has ls 5 [(0, .ref v0), (1, .int v1), (2, .int v2), (4, .int v4)] → W p l e rm_Mo_end s m args below meth c H locs 0 0 (MQ below (mm_QI D dA M0 r M') args s 0 0 (mm_A M0)) (F0 m 85 ls [.int t0]) := by
  obtain ⟨hx, hb, hr, hml, hown, hts, hlocks, hK, hA⟩ := id C
  intro v0 v1 v2 v4 t0 M H locs ls h hW hS hl
  unfold f_Mo_end_b85 at h
  refine lv_iconst (v := 0) hx hb d_Mo_end_85 (by decide) ?_
  exact w_Mo_end_b86 C hk49 _ _ _ _ _ _ _ _ _ _ h hW hS (lv_sub hl [0, 1, 2, 3] rfl)
set_option maxHeartbeats 4000000 in
set_option maxRecDepth 100000 in
theorem w_Mo_end_b49 {p : Program} {l : Launch} {e : Env} {s : State} {m : MethodId} {args : Array Value} {below : List Frame} {meth : Method} {c : Code} {D : va_G} {dA : Nat → ClassId} {M0 M' : mm} {r : Int32} (C : mm_C p s m args meth c b_Mo_end 5 (some .int) R_Mo D dA (mm_A M0)) : ∀ (n : Nat), ∀ (v0 : Nat) (v1 : Int32) (v2 : Int32) (v3 : Int32) (v4 : Int32) (M : mm) (H : Heap) (locs : List Loc) (ls : Array Slot), f_Mo_end_b49 n v0 v1 v2 v3 v4 M = some (r, M') → mm_W D dA (mm_A M0) M H → va_S (mm_A M0) s.heap H locs → lv_has ls 5 [(0, .ref v0), (1, .int v1), (2, .int v2), (3, .int v3), (4, .int v4)] → W p l e rm_Mo_end s m args below meth c H locs 0 0 (MQ below (mm_QI D dA M0 r M') args s 0 0 (mm_A M0)) (F0 m 49 ls []) := by
  obtain ⟨hx, hb, hr, hml, hown, hts, hlocks, hK, hA⟩ := id C
  intro n
  induction n with
  | zero =>
    intro v0 v1 v2 v3 v4 M H locs ls h hW hS hl
    unfold f_Mo_end_b49 at h
    cases h
  | succ n ih =>
    intro v0 v1 v2 v3 v4 M H locs ls h hW hS hl
    unfold f_Mo_end_b49 at h
    refine lv_iload hx hb d_Mo_end_49 (lv_at hl 4 rfl) ?_
    refine lv_aload_n hx hb d_Mo_end_51 rfl (lv_at hl 0 rfl) ?_
    obtain ⟨x1, e1, h⟩ := ob h
    refine mr_gI C hW k_Mo_101 e1 d_Mo_end_52 ?_
    refine lv_icmp_ge (tgt := 94) hx hb d_Mo_end_55 (by decide) (fun c2 => ?_) (fun c2 => ?_)
    · have h := ifp h c2
      refine lv_iload_n hx hb d_Mo_end_94 rfl (lv_at hl 3 rfl) ?_
      exact mr_iret C hW hS (Nat.le_of_ble_eq_true rfl) (Nat.le_of_ble_eq_true rfl) h d_Mo_end_95
    · have h := ifn h c2
      refine lv_iload_n hx hb d_Mo_end_58 rfl (lv_at hl 3 rfl) ?_
      refine lv_aload_n hx hb d_Mo_end_59 rfl (lv_at hl 0 rfl) ?_
      obtain ⟨x3, e3, h⟩ := ob h
      refine mr_gR C hW k_Mo_32 e3 d_Mo_end_60 ?_
      refine lv_iload hx hb d_Mo_end_63 (lv_at hl 4 rfl) ?_
      obtain ⟨x4, e4, h⟩ := ob h
      refine mr_aI C hW e4 d_Mo_end_65 ?_
      refine lv_iload_n hx hb d_Mo_end_66 rfl (lv_at hl 1 rfl) ?_
      refine lv_icmp_ne (tgt := 85) hx hb d_Mo_end_67 (by decide) (fun c5 => ?_) (fun c5 => ?_)
      · have h := ifn h c5
        exact w_Mo_end_b85 C ih _ _ _ _ _ _ _ _ _ h hW hS (lv_sub hl [0, 1, 2, 4] rfl)
      · have h := ifp h c5
        refine lv_aload_n hx hb d_Mo_end_70 rfl (lv_at hl 0 rfl) ?_
        refine lv_iload hx hb d_Mo_end_71 (lv_at hl 4 rfl) ?_
        refine lv_iconst (v := 1) hx hb d_Mo_end_73 (by decide) ?_
        obtain ⟨_, e7, h⟩ := ob h
        obtain ⟨⟨x6, M6⟩, e6, h⟩ := ob h
        refine mr_ci C hW hS (va_runV (As := [.int v4, .int 1]) (rest := [.int v3]) ⟨hx, hb, hml, hown, hts⟩ (c_Mo_bound l D dA _ _ _ v0 v4 1 e6) (cwV 2 hts (mg_V q_330 q_331 q_332 q_333 q_267) rfl rfl rfl (by decide +kernel) ⟨Nat.le_of_ble_eq_true rfl, Nat.le_of_ble_eq_true rfl⟩) (mr_preV C hW (ci := 1) rfl e7) rfl rfl hl.1 rfl (lv_room (Nat.le_of_ble_eq_true rfl)) d_Mo_end_74 ⟨Nat.le_of_ble_eq_true rfl, Nat.le_of_ble_eq_true rfl⟩) (fun H locs hW hS => ?_)
        refine lv_iload_n hx hb d_Mo_end_77 rfl (lv_at hl 2 rfl) ?_
        refine lv_icmp_le (tgt := 85) hx hb d_Mo_end_78 (by decide) (fun c8 => ?_) (fun c8 => ?_)
        · have h := ifp h c8
          exact w_Mo_end_b85 C ih _ _ _ _ _ _ _ _ _ h hW hS (lv_sub hl [0, 1, 2, 4] rfl)
        · have h := ifn h c8
          refine lv_iconst (v := 1) hx hb d_Mo_end_81 (by decide) ?_
          refine lv_goto (tgt := 86) hx hb d_Mo_end_82 (by decide) ?_
          exact w_Mo_end_b86 C ih _ _ _ _ _ _ _ _ _ _ h hW hS (lv_sub hl [0, 1, 2, 4] rfl)
set_option maxHeartbeats 4000000 in
set_option maxRecDepth 100000 in
theorem c_Mo_end (l : Launch) (D : va_G) (dA : Nat → ClassId) (M0 M' : mm) (r : Int32) (v0 : Nat) (v1 : Int32) (v2 : Int32) (h : f_Mo_end v0 v1 v2 M0 = some (r, M')) : Met l y_Mo_end w_Mo_end rm_Mo_end (mm_Pre D dA M0 [.ref v0, .int v1, .int v2]) (mm_QI D dA M0 r M') 0 0 (mm_A M0) := by
  refine Met.ofW (cc := b_Mo_end) (maxL := 5) (ret := (some .int)) (by decide) rfl ?_
  intro p e s m args below meth c s₁ B hml hv
  obtain ⟨rfl, hW, hK⟩ := hv
  have C : mm_C p s m _ meth c b_Mo_end 5 (some .int) R_Mo D dA (mm_A M0) := ⟨B.exec, B.bytes, B.returns, hml, findClass_of_methodNamed B.named, fun w hw => atoms_spec (ws := w_Mo_end) B.pre w (List.mem_cons_of_mem _ hw), B.notSynchronized, hK, fun q hq => Or.inr (by rw [← hW.1]; exact hq)⟩
  have hS : va_S (mm_A M0) s.heap s.heap [] := va_S.rf
  obtain ⟨hx, hb, hr, hml, hown, hts, hlocks, hK, hA⟩ := id C
  have hl := lv_entry ([.ref v0, .int v1, .int v2]) (n := 5) (Nat.le_of_ble_eq_true rfl)
  rw [lg_entry_eq]
  generalize (lg_sl ([.ref v0, .int v1, .int v2]) ++ List.replicate (5 - (lg_sl ([.ref v0, .int v1, .int v2])).length) Slot.unset).toArray = ls at hl ⊢
  have hl : lv_has ls 5 [(0, .ref v0), (1, .int v1), (2, .int v2)] := hl
  unfold f_Mo_end at h
  refine lv_aload_n hx hb d_Mo_end_0 rfl (lv_at hl 0 rfl) ?_
  refine lv_iconst (v := 0) hx hb d_Mo_end_1 (by decide) ?_
  obtain ⟨M9, e9, h⟩ := ob h
  refine mr_put C hW hS kp_Mo_90 rfl rfl e9 d_Mo_end_2 (fun H locs hW hS => ?_)
  refine lv_aload_n hx hb d_Mo_end_5 rfl (lv_at hl 0 rfl) ?_
  refine lv_iload_n hx hb d_Mo_end_6 rfl (lv_at hl 1 rfl) ?_
  obtain ⟨_, e11, h⟩ := ob h
  obtain ⟨⟨x10, M10⟩, e10, h⟩ := ob h
  refine mr_ci C hW hS (va_runV (As := [.int v1]) (rest := []) ⟨hx, hb, hml, hown, hts⟩ (c_Mo_isPack l D dA _ _ _ v0 v1 e10) (cwV 1 hts (mg_V q_272 q_273 q_274 q_275 q_267) rfl rfl rfl (by decide +kernel) ⟨Nat.le_of_ble_eq_true rfl, Nat.le_of_ble_eq_true rfl⟩) (mr_preV C hW (ci := 1) rfl e11) rfl rfl hl.1 rfl (lv_room (Nat.le_of_ble_eq_true rfl)) d_Mo_end_7 ⟨Nat.le_of_ble_eq_true rfl, Nat.le_of_ble_eq_true rfl⟩) (fun H locs hW hS => ?_)
  refine lv_if_ne (tgt := 15) hx hb d_Mo_end_10 (by decide) (fun c12 => ?_) (fun c12 => ?_)
  · have h := ifn h c12
    refine lv_iload_n hx hb d_Mo_end_15 rfl (lv_at hl 2 rfl) ?_
    obtain ⟨⟨x13, M13⟩, e13, h⟩ := ob h
    refine mr_ci C hW hS (va_runS (As := [.int v2]) (rest := []) ⟨hx, hb, hml, hown, hts⟩ (c_Mo_isDay l D dA _ _ _ v2 e13) (cwS 1 hts (mg_S q_284 q_285 q_286 q_267) rfl rfl rfl (by decide +kernel) ⟨Nat.le_of_ble_eq_true rfl, Nat.le_of_ble_eq_true rfl⟩) (mr_pre C hW) rfl rfl hl.1 rfl (lv_room (Nat.le_of_ble_eq_true rfl)) d_Mo_end_16 ⟨Nat.le_of_ble_eq_true rfl, Nat.le_of_ble_eq_true rfl⟩) (fun H locs hW hS => ?_)
    refine lv_if_ne (tgt := 25) hx hb d_Mo_end_19 (by decide) (fun c14 => ?_) (fun c14 => ?_)
    · have h := ifn h c14
      refine lv_aload_n hx hb d_Mo_end_25 rfl (lv_at hl 0 rfl) ?_
      obtain ⟨x15, e15, h⟩ := ob h
      refine mr_gR C hW k_Mo_17 e15 d_Mo_end_26 ?_
      refine lv_iload_n hx hb d_Mo_end_29 rfl (lv_at hl 1 rfl) ?_
      obtain ⟨x16, e16, h⟩ := ob h
      refine mr_aI C hW e16 d_Mo_end_30 ?_
      refine lv_if_lt (tgt := 37) hx hb d_Mo_end_31 (by decide) (fun c17 => ?_) (fun c17 => ?_)
      · have h := ifp h c17
        refine lv_aload_n hx hb d_Mo_end_37 rfl (lv_at hl 0 rfl) ?_
        obtain ⟨x18, e18, h⟩ := ob h
        refine mr_gR C hW k_Mo_17 e18 d_Mo_end_38 ?_
        refine lv_iload_n hx hb d_Mo_end_41 rfl (lv_at hl 1 rfl) ?_
        refine lv_iload_n hx hb d_Mo_end_42 rfl (lv_at hl 2 rfl) ?_
        obtain ⟨M19, e19, h⟩ := ob h
        refine mr_sI C hW hS e19 d_Mo_end_43 (fun H locs hW hS => ?_)
        refine lv_iconst (v := 0) hx hb d_Mo_end_44 (by decide) ?_
        refine lv_istore_n (lv' := [(3, .int 0), (0, .ref v0), (1, .int v1), (2, .int v2)]) hx hb d_Mo_end_45 rfl hl (by decide) rfl (fun ls hl => ?_)
        refine lv_iconst (v := 0) hx hb d_Mo_end_46 (by decide) ?_
        refine lv_istore (lv' := [(4, .int 0), (3, .int 0), (0, .ref v0), (1, .int v1), (2, .int v2)]) hx hb d_Mo_end_47 hl (by decide) rfl (fun ls hl => ?_)
        exact w_Mo_end_b49 C FU _ _ _ _ _ _ _ _ _ h hW hS (lv_sub hl [2, 3, 4, 1, 0] rfl)
      · have h := ifn h c17
        refine lv_bipush (v := (-3)) hx hb d_Mo_end_34 (by decide) ?_
        exact mr_iret C hW hS (Nat.le_of_ble_eq_true rfl) (Nat.le_of_ble_eq_true rfl) h d_Mo_end_36
    · have h := ifp h c14
      refine lv_bipush (v := (-2)) hx hb d_Mo_end_22 (by decide) ?_
      exact mr_iret C hW hS (Nat.le_of_ble_eq_true rfl) (Nat.le_of_ble_eq_true rfl) h d_Mo_end_24
  · have h := ifp h c12
    refine lv_iconst (v := (-1)) hx hb d_Mo_end_13 (by decide) ?_
    exact mr_iret C hW hS (Nat.le_of_ble_eq_true rfl) (Nat.le_of_ble_eq_true rfl) h d_Mo_end_14
def f_Mo_about_b138 (k112 : Nat → Int32 → Int32 → Int32 → mm → Option (Int32 × mm)) : Nat → Int32 → Int32 → Int32 → Int32 → mm → Option (Int32 × mm) := fun v0 v1 v4 t0 t1 M =>
    k112 v0 v1 (t1 + t0) (v4 + 1) M
def f_Mo_about_b112 : Nat → Nat → Int32 → Int32 → Int32 → mm → Option (Int32 × mm)
  | 0, _, _, _, _, _ => none
  | n + 1, v0, v1, v3, v4, M =>
    (gI 1 25 M v0).bind fun x1 =>
    if x1 ≤ v4 then
      some (v3, M)
    else
      (gR 1 27 M v0).bind fun x3 =>
      (aI M x3 v4).bind fun x4 =>
      if x4 = v1 then
        f_Mo_about_b138 (f_Mo_about_b112 n) v0 v1 v4 1 v3 M
      else
        f_Mo_about_b138 (f_Mo_about_b112 n) v0 v1 v4 0 v3 M
def f_Mo_about (v0 : Nat) (v1 : Int32) (v2 : Int32) (M : mm) : Option (Int32 × mm) :=
    (pF 1 0 (.int 0) M v0).bind fun M6 =>
    (kO 1 M6 v0).bind fun _ =>
    (f_Mo_isTitle v0 v1 M6).bind fun (x7, M7) =>
    if x7 = 0 then
      some ((-1), M7)
    else
      if v2 = 0 then
        (gR 1 10 M7 v0).bind fun x11 =>
        (aI M7 x11 v1).bind fun x12 =>
        some (x12, M7)
      else
      if v2 = 1 then
        (gR 1 11 M7 v0).bind fun x14 =>
        (aI M7 x14 v1).bind fun x15 =>
        some (x15, M7)
      else
      if v2 = 2 then
        (gR 1 12 M7 v0).bind fun x17 =>
        (aZ M7 x17 v1).bind fun x18 =>
        if x18 = 0 then
          some (1, M7)
        else
          some (0, M7)
      else
      if v2 = 3 then
        (gR 1 14 M7 v0).bind fun x21 =>
        (aI M7 x21 v1).bind fun x22 =>
        some (x22, M7)
      else
      if v2 = 4 then
        (gR 1 13 M7 v0).bind fun x24 =>
        (aI M7 x24 v1).bind fun x25 =>
        some (x25, M7)
      else
      if v2 = 5 then
        f_Mo_about_b112 FU v0 v1 0 0 M7
      else
      if v2 = 6 then
        (kO 1 M7 v0).bind fun _ =>
        (f_Mo_bound v0 v1 0 M7).bind fun (x28, M28) =>
        some (x28, M28)
      else
      if v2 = 7 then
        (kO 1 M7 v0).bind fun _ =>
        (f_Mo_bound v0 v1 1 M7).bind fun (x31, M31) =>
        some (x31, M31)
      else
      some ((-1), M7)
set_option maxHeartbeats 4000000 in
set_option maxRecDepth 100000 in
theorem w_Mo_about_b138 {p : Program} {l : Launch} {e : Env} {s : State} {m : MethodId} {args : Array Value} {below : List Frame} {meth : Method} {c : Code} {D : va_G} {dA : Nat → ClassId} {M0 M' : mm} {r : Int32} (C : mm_C p s m args meth c b_Mo_about 5 (some .int) R_Mo D dA (mm_A M0)) {k112 : Nat → Int32 → Int32 → Int32 → mm → Option (Int32 × mm)} (hk112 : ∀ (v0 : Nat) (v1 : Int32) (v3 : Int32) (v4 : Int32) (M : mm) (H : Heap) (locs : List Loc) (ls : Array Slot), k112 v0 v1 v3 v4 M = some (r, M') → mm_W D dA (mm_A M0) M H → va_S (mm_A M0) s.heap H locs → lv_has ls 5 [(0, .ref v0), (1, .int v1), (3, .int v3), (4, .int v4)] → W p l e rm_Mo_about s m args below meth c H locs 0 0 (MQ below (mm_QI D dA M0 r M') args s 0 0 (mm_A M0)) (F0 m 112 ls [])) : ∀ (v0 : Nat) (v1 : Int32) (v4 : Int32) (t0 : Int32) (t1 : Int32) (M : mm) (H : Heap) (locs : List Loc) (ls : Array Slot), f_Mo_about_b138 k112 v0 v1 v4 t0 t1 M = some (r, M') → mm_W D dA (mm_A M0) M H → va_S (mm_A M0) s.heap H locs → lv_has ls 5 [(0, .ref v0), (1, .int v1), (4, .int v4)] → W p l e rm_Mo_about s m args below meth c H locs 0 0 (MQ below (mm_QI D dA M0 r M') args s 0 0 (mm_A M0)) (F0 m 138 ls [.int t0, .int t1]) := by
  obtain ⟨hx, hb, hr, hml, hown, hts, hlocks, hK, hA⟩ := id C
  intro v0 v1 v4 t0 t1 M H locs ls h hW hS hl
  unfold f_Mo_about_b138 at h
  refine lv_iadd hx hb d_Mo_about_138 ?_
  refine lv_istore_n (lv' := [(3, .int (t1 + t0)), (0, .ref v0), (1, .int v1), (4, .int v4)]) hx hb d_Mo_about_139 rfl hl (by decide) rfl (fun ls hl => ?_)
  refine lv_iinc (v := v4 + 1) (lv' := [(4, .int (v4 + 1)), (3, .int (t1 + t0)), (0, .ref v0), (1, .int v1)]) hx hb d_Mo_about_140 hl (k := 3) rfl rfl (by decide) rfl (fun ls hl => ?_)
  refine lv_goto (tgt := 112) hx hb d_Mo_about_143 (by decide) ?_
  exact hk112 _ _ _ _ _ _ _ _ h hW hS (lv_sub hl [2, 3, 1, 0] rfl)
set_option maxHeartbeats 4000000 in
set_option maxRecDepth 100000 in
theorem w_Mo_about_b112 {p : Program} {l : Launch} {e : Env} {s : State} {m : MethodId} {args : Array Value} {below : List Frame} {meth : Method} {c : Code} {D : va_G} {dA : Nat → ClassId} {M0 M' : mm} {r : Int32} (C : mm_C p s m args meth c b_Mo_about 5 (some .int) R_Mo D dA (mm_A M0)) : ∀ (n : Nat), ∀ (v0 : Nat) (v1 : Int32) (v3 : Int32) (v4 : Int32) (M : mm) (H : Heap) (locs : List Loc) (ls : Array Slot), f_Mo_about_b112 n v0 v1 v3 v4 M = some (r, M') → mm_W D dA (mm_A M0) M H → va_S (mm_A M0) s.heap H locs → lv_has ls 5 [(0, .ref v0), (1, .int v1), (3, .int v3), (4, .int v4)] → W p l e rm_Mo_about s m args below meth c H locs 0 0 (MQ below (mm_QI D dA M0 r M') args s 0 0 (mm_A M0)) (F0 m 112 ls []) := by
  obtain ⟨hx, hb, hr, hml, hown, hts, hlocks, hK, hA⟩ := id C
  intro n
  induction n with
  | zero =>
    intro v0 v1 v3 v4 M H locs ls h hW hS hl
    unfold f_Mo_about_b112 at h
    cases h
  | succ n ih =>
    intro v0 v1 v3 v4 M H locs ls h hW hS hl
    unfold f_Mo_about_b112 at h
    refine lv_iload hx hb d_Mo_about_112 (lv_at hl 3 rfl) ?_
    refine lv_aload_n hx hb d_Mo_about_114 rfl (lv_at hl 0 rfl) ?_
    obtain ⟨x1, e1, h⟩ := ob h
    refine mr_gI C hW k_Mo_142 e1 d_Mo_about_115 ?_
    refine lv_icmp_ge (tgt := 146) hx hb d_Mo_about_118 (by decide) (fun c2 => ?_) (fun c2 => ?_)
    · have h := ifp h c2
      refine lv_iload_n hx hb d_Mo_about_146 rfl (lv_at hl 2 rfl) ?_
      exact mr_iret C hW hS (Nat.le_of_ble_eq_true rfl) (Nat.le_of_ble_eq_true rfl) h d_Mo_about_147
    · have h := ifn h c2
      refine lv_iload_n hx hb d_Mo_about_121 rfl (lv_at hl 2 rfl) ?_
      refine lv_aload_n hx hb d_Mo_about_122 rfl (lv_at hl 0 rfl) ?_
      obtain ⟨x3, e3, h⟩ := ob h
      refine mr_gR C hW k_Mo_78 e3 d_Mo_about_123 ?_
      refine lv_iload hx hb d_Mo_about_126 (lv_at hl 3 rfl) ?_
      obtain ⟨x4, e4, h⟩ := ob h
      refine mr_aI C hW e4 d_Mo_about_128 ?_
      refine lv_iload_n hx hb d_Mo_about_129 rfl (lv_at hl 1 rfl) ?_
      refine lv_icmp_ne (tgt := 137) hx hb d_Mo_about_130 (by decide) (fun c5 => ?_) (fun c5 => ?_)
      · have h := ifn h c5
        refine lv_iconst (v := 0) hx hb d_Mo_about_137 (by decide) ?_
        exact w_Mo_about_b138 C ih _ _ _ _ _ _ _ _ _ h hW hS (lv_sub hl [0, 1, 3] rfl)
      · have h := ifp h c5
        refine lv_iconst (v := 1) hx hb d_Mo_about_133 (by decide) ?_
        refine lv_goto (tgt := 138) hx hb d_Mo_about_134 (by decide) ?_
        exact w_Mo_about_b138 C ih _ _ _ _ _ _ _ _ _ h hW hS (lv_sub hl [0, 1, 3] rfl)
set_option maxHeartbeats 4000000 in
set_option maxRecDepth 100000 in
theorem c_Mo_about (l : Launch) (D : va_G) (dA : Nat → ClassId) (M0 M' : mm) (r : Int32) (v0 : Nat) (v1 : Int32) (v2 : Int32) (h : f_Mo_about v0 v1 v2 M0 = some (r, M')) : Met l y_Mo_about w_Mo_about rm_Mo_about (mm_Pre D dA M0 [.ref v0, .int v1, .int v2]) (mm_QI D dA M0 r M') 0 0 (mm_A M0) := by
  refine Met.ofW (cc := b_Mo_about) (maxL := 5) (ret := (some .int)) (by decide) rfl ?_
  intro p e s m args below meth c s₁ B hml hv
  obtain ⟨rfl, hW, hK⟩ := hv
  have C : mm_C p s m _ meth c b_Mo_about 5 (some .int) R_Mo D dA (mm_A M0) := ⟨B.exec, B.bytes, B.returns, hml, findClass_of_methodNamed B.named, fun w hw => atoms_spec (ws := w_Mo_about) B.pre w (List.mem_cons_of_mem _ hw), B.notSynchronized, hK, fun q hq => Or.inr (by rw [← hW.1]; exact hq)⟩
  have hS : va_S (mm_A M0) s.heap s.heap [] := va_S.rf
  obtain ⟨hx, hb, hr, hml, hown, hts, hlocks, hK, hA⟩ := id C
  have hl := lv_entry ([.ref v0, .int v1, .int v2]) (n := 5) (Nat.le_of_ble_eq_true rfl)
  rw [lg_entry_eq]
  generalize (lg_sl ([.ref v0, .int v1, .int v2]) ++ List.replicate (5 - (lg_sl ([.ref v0, .int v1, .int v2])).length) Slot.unset).toArray = ls at hl ⊢
  have hl : lv_has ls 5 [(0, .ref v0), (1, .int v1), (2, .int v2)] := hl
  unfold f_Mo_about at h
  refine lv_aload_n hx hb d_Mo_about_0 rfl (lv_at hl 0 rfl) ?_
  refine lv_iconst (v := 0) hx hb d_Mo_about_1 (by decide) ?_
  obtain ⟨M6, e6, h⟩ := ob h
  refine mr_put C hW hS kp_Mo_90 rfl rfl e6 d_Mo_about_2 (fun H locs hW hS => ?_)
  refine lv_aload_n hx hb d_Mo_about_5 rfl (lv_at hl 0 rfl) ?_
  refine lv_iload_n hx hb d_Mo_about_6 rfl (lv_at hl 1 rfl) ?_
  obtain ⟨_, e8, h⟩ := ob h
  obtain ⟨⟨x7, M7⟩, e7, h⟩ := ob h
  refine mr_ci C hW hS (va_runV (As := [.int v1]) (rest := []) ⟨hx, hb, hml, hown, hts⟩ (c_Mo_isTitle l D dA _ _ _ v0 v1 e7) (cwV 1 hts (mg_V q_280 q_281 q_282 q_283 q_267) rfl rfl rfl (by decide +kernel) ⟨Nat.le_of_ble_eq_true rfl, Nat.le_of_ble_eq_true rfl⟩) (mr_preV C hW (ci := 1) rfl e8) rfl rfl hl.1 rfl (lv_room (Nat.le_of_ble_eq_true rfl)) d_Mo_about_7 ⟨Nat.le_of_ble_eq_true rfl, Nat.le_of_ble_eq_true rfl⟩) (fun H locs hW hS => ?_)
  refine lv_if_ne (tgt := 15) hx hb d_Mo_about_10 (by decide) (fun c9 => ?_) (fun c9 => ?_)
  · have h := ifn h c9
    refine lv_iload_n hx hb d_Mo_about_15 rfl (lv_at hl 2 rfl) ?_
    by_cases c10 : v2 = 0
    · have h := ifp h c10
      refine lv_tableIn (tgt := 64) hx hb d_Mo_about_16 (by rw [c10]; decide) (by rw [c10]; decide) (by rw [c10]; rfl) (by decide) ?_
      refine lv_aload_n hx hb d_Mo_about_64 rfl (lv_at hl 0 rfl) ?_
      obtain ⟨x11, e11, h⟩ := ob h
      refine mr_gR C hW k_Mo_32 e11 d_Mo_about_65 ?_
      refine lv_iload_n hx hb d_Mo_about_68 rfl (lv_at hl 1 rfl) ?_
      obtain ⟨x12, e12, h⟩ := ob h
      refine mr_aI C hW e12 d_Mo_about_69 ?_
      exact mr_iret C hW hS (Nat.le_of_ble_eq_true rfl) (Nat.le_of_ble_eq_true rfl) h d_Mo_about_70
    have h := ifn h c10
    by_cases c13 : v2 = 1
    · have h := ifp h c13
      refine lv_tableIn (tgt := 71) hx hb d_Mo_about_16 (by rw [c13]; decide) (by rw [c13]; decide) (by rw [c13]; rfl) (by decide) ?_
      refine lv_aload_n hx hb d_Mo_about_71 rfl (lv_at hl 0 rfl) ?_
      obtain ⟨x14, e14, h⟩ := ob h
      refine mr_gR C hW k_Mo_35 e14 d_Mo_about_72 ?_
      refine lv_iload_n hx hb d_Mo_about_75 rfl (lv_at hl 1 rfl) ?_
      obtain ⟨x15, e15, h⟩ := ob h
      refine mr_aI C hW e15 d_Mo_about_76 ?_
      exact mr_iret C hW hS (Nat.le_of_ble_eq_true rfl) (Nat.le_of_ble_eq_true rfl) h d_Mo_about_77
    have h := ifn h c13
    by_cases c16 : v2 = 2
    · have h := ifp h c16
      refine lv_tableIn (tgt := 78) hx hb d_Mo_about_16 (by rw [c16]; decide) (by rw [c16]; decide) (by rw [c16]; rfl) (by decide) ?_
      refine lv_aload_n hx hb d_Mo_about_78 rfl (lv_at hl 0 rfl) ?_
      obtain ⟨x17, e17, h⟩ := ob h
      refine mr_gR C hW k_Mo_38 e17 d_Mo_about_79 ?_
      refine lv_iload_n hx hb d_Mo_about_82 rfl (lv_at hl 1 rfl) ?_
      obtain ⟨x18, e18, h⟩ := ob h
      refine mr_aZ C hW e18 d_Mo_about_83 ?_
      refine lv_if_eq (tgt := 91) hx hb d_Mo_about_84 (by decide) (fun c19 => ?_) (fun c19 => ?_)
      · have h := ifp h c19
        refine lv_iconst (v := 1) hx hb d_Mo_about_91 (by decide) ?_
        exact mr_iret C hW hS (Nat.le_of_ble_eq_true rfl) (Nat.le_of_ble_eq_true rfl) h d_Mo_about_92
      · have h := ifn h c19
        refine lv_iconst (v := 0) hx hb d_Mo_about_87 (by decide) ?_
        refine lv_goto (tgt := 92) hx hb d_Mo_about_88 (by decide) ?_
        exact mr_iret C hW hS (Nat.le_of_ble_eq_true rfl) (Nat.le_of_ble_eq_true rfl) h d_Mo_about_92
    have h := ifn h c16
    by_cases c20 : v2 = 3
    · have h := ifp h c20
      refine lv_tableIn (tgt := 93) hx hb d_Mo_about_16 (by rw [c20]; decide) (by rw [c20]; decide) (by rw [c20]; rfl) (by decide) ?_
      refine lv_aload_n hx hb d_Mo_about_93 rfl (lv_at hl 0 rfl) ?_
      obtain ⟨x21, e21, h⟩ := ob h
      refine mr_gR C hW k_Mo_44 e21 d_Mo_about_94 ?_
      refine lv_iload_n hx hb d_Mo_about_97 rfl (lv_at hl 1 rfl) ?_
      obtain ⟨x22, e22, h⟩ := ob h
      refine mr_aI C hW e22 d_Mo_about_98 ?_
      exact mr_iret C hW hS (Nat.le_of_ble_eq_true rfl) (Nat.le_of_ble_eq_true rfl) h d_Mo_about_99
    have h := ifn h c20
    by_cases c23 : v2 = 4
    · have h := ifp h c23
      refine lv_tableIn (tgt := 100) hx hb d_Mo_about_16 (by rw [c23]; decide) (by rw [c23]; decide) (by rw [c23]; rfl) (by decide) ?_
      refine lv_aload_n hx hb d_Mo_about_100 rfl (lv_at hl 0 rfl) ?_
      obtain ⟨x24, e24, h⟩ := ob h
      refine mr_gR C hW k_Mo_41 e24 d_Mo_about_101 ?_
      refine lv_iload_n hx hb d_Mo_about_104 rfl (lv_at hl 1 rfl) ?_
      obtain ⟨x25, e25, h⟩ := ob h
      refine mr_aI C hW e25 d_Mo_about_105 ?_
      exact mr_iret C hW hS (Nat.le_of_ble_eq_true rfl) (Nat.le_of_ble_eq_true rfl) h d_Mo_about_106
    have h := ifn h c23
    by_cases c26 : v2 = 5
    · have h := ifp h c26
      refine lv_tableIn (tgt := 107) hx hb d_Mo_about_16 (by rw [c26]; decide) (by rw [c26]; decide) (by rw [c26]; rfl) (by decide) ?_
      refine lv_iconst (v := 0) hx hb d_Mo_about_107 (by decide) ?_
      refine lv_istore_n (lv' := [(3, .int 0), (0, .ref v0), (1, .int v1), (2, .int v2)]) hx hb d_Mo_about_108 rfl hl (by decide) rfl (fun ls hl => ?_)
      refine lv_iconst (v := 0) hx hb d_Mo_about_109 (by decide) ?_
      refine lv_istore (lv' := [(4, .int 0), (3, .int 0), (0, .ref v0), (1, .int v1), (2, .int v2)]) hx hb d_Mo_about_110 hl (by decide) rfl (fun ls hl => ?_)
      exact w_Mo_about_b112 C FU _ _ _ _ _ _ _ _ h hW hS (lv_sub hl [2, 3, 1, 0] rfl)
    have h := ifn h c26
    by_cases c27 : v2 = 6
    · have h := ifp h c27
      refine lv_tableIn (tgt := 148) hx hb d_Mo_about_16 (by rw [c27]; decide) (by rw [c27]; decide) (by rw [c27]; rfl) (by decide) ?_
      refine lv_aload_n hx hb d_Mo_about_148 rfl (lv_at hl 0 rfl) ?_
      refine lv_iload_n hx hb d_Mo_about_149 rfl (lv_at hl 1 rfl) ?_
      refine lv_iconst (v := 0) hx hb d_Mo_about_150 (by decide) ?_
      obtain ⟨_, e29, h⟩ := ob h
      obtain ⟨⟨x28, M28⟩, e28, h⟩ := ob h
      refine mr_ci C hW hS (va_runV (As := [.int v1, .int 0]) (rest := []) ⟨hx, hb, hml, hown, hts⟩ (c_Mo_bound l D dA _ _ _ v0 v1 0 e28) (cwV 2 hts (mg_V q_330 q_331 q_332 q_333 q_267) rfl rfl rfl (by decide +kernel) ⟨Nat.le_of_ble_eq_true rfl, Nat.le_of_ble_eq_true rfl⟩) (mr_preV C hW (ci := 1) rfl e29) rfl rfl hl.1 rfl (lv_room (Nat.le_of_ble_eq_true rfl)) d_Mo_about_151 ⟨Nat.le_of_ble_eq_true rfl, Nat.le_of_ble_eq_true rfl⟩) (fun H locs hW hS => ?_)
      exact mr_iret C hW hS (Nat.le_of_ble_eq_true rfl) (Nat.le_of_ble_eq_true rfl) h d_Mo_about_154
    have h := ifn h c27
    by_cases c30 : v2 = 7
    · have h := ifp h c30
      refine lv_tableIn (tgt := 155) hx hb d_Mo_about_16 (by rw [c30]; decide) (by rw [c30]; decide) (by rw [c30]; rfl) (by decide) ?_
      refine lv_aload_n hx hb d_Mo_about_155 rfl (lv_at hl 0 rfl) ?_
      refine lv_iload_n hx hb d_Mo_about_156 rfl (lv_at hl 1 rfl) ?_
      refine lv_iconst (v := 1) hx hb d_Mo_about_157 (by decide) ?_
      obtain ⟨_, e32, h⟩ := ob h
      obtain ⟨⟨x31, M31⟩, e31, h⟩ := ob h
      refine mr_ci C hW hS (va_runV (As := [.int v1, .int 1]) (rest := []) ⟨hx, hb, hml, hown, hts⟩ (c_Mo_bound l D dA _ _ _ v0 v1 1 e31) (cwV 2 hts (mg_V q_330 q_331 q_332 q_333 q_267) rfl rfl rfl (by decide +kernel) ⟨Nat.le_of_ble_eq_true rfl, Nat.le_of_ble_eq_true rfl⟩) (mr_preV C hW (ci := 1) rfl e32) rfl rfl hl.1 rfl (lv_room (Nat.le_of_ble_eq_true rfl)) d_Mo_about_158 ⟨Nat.le_of_ble_eq_true rfl, Nat.le_of_ble_eq_true rfl⟩) (fun H locs hW hS => ?_)
      exact mr_iret C hW hS (Nat.le_of_ble_eq_true rfl) (Nat.le_of_ble_eq_true rfl) h d_Mo_about_161
    have h := ifn h c30
    refine lv_tableOut (tgt := 162) hx hb d_Mo_about_16 (by
      have t10 := lv_neT c10 (show (0 : Int32).toInt = 0 by decide)
      have t13 := lv_neT c13 (show (1 : Int32).toInt = 1 by decide)
      have t16 := lv_neT c16 (show (2 : Int32).toInt = 2 by decide)
      have t20 := lv_neT c20 (show (3 : Int32).toInt = 3 by decide)
      have t23 := lv_neT c23 (show (4 : Int32).toInt = 4 by decide)
      have t26 := lv_neT c26 (show (5 : Int32).toInt = 5 by decide)
      have t27 := lv_neT c27 (show (6 : Int32).toInt = 6 by decide)
      have t30 := lv_neT c30 (show (7 : Int32).toInt = 7 by decide)
      omega) (by decide) ?_
    refine lv_iconst (v := (-1)) hx hb d_Mo_about_162 (by decide) ?_
    exact mr_iret C hW hS (Nat.le_of_ble_eq_true rfl) (Nat.le_of_ble_eq_true rfl) h d_Mo_about_163
  · have h := ifp h c9
    refine lv_iconst (v := (-1)) hx hb d_Mo_about_13 (by decide) ?_
    exact mr_iret C hW hS (Nat.le_of_ble_eq_true rfl) (Nat.le_of_ble_eq_true rfl) h d_Mo_about_14
def f_Mo_nextSpan_b55 (k8 : Nat → Int32 → Int32 → Int32 → Int32 → mm → Option (Int32 × mm)) : Nat → Int32 → Int32 → Int32 → mm → Option (Int32 × mm) := fun v0 v1 v2 v4 M =>
    k8 v0 v1 v2 v4 (v4 + 1) M
def f_Mo_nextSpan_b8 : Nat → Nat → Int32 → Int32 → Int32 → Int32 → mm → Option (Int32 × mm)
  | 0, _, _, _, _, _, _ => none
  | n + 1, v0, v1, v2, v3, v4, M =>
    (gR 1 14 M v0).bind fun x1 =>
    (aI M x1 v1).bind fun x2 =>
    if ((10 * v1) + x2) ≤ v4 then
      some (v3, M)
    else
      (gR 1 15 M v0).bind fun x4 =>
      (aI M x4 v4).bind fun x5 =>
      if x5 ≤ v2 then
        f_Mo_nextSpan_b8 n v0 v1 v2 v3 (v4 + 1) M
      else
        if v3 < 0 then
          f_Mo_nextSpan_b55 (f_Mo_nextSpan_b8 n) v0 v1 v2 v4 M
        else
          (gR 1 15 M v0).bind fun x8 =>
          (aI M x8 v4).bind fun x9 =>
          (gR 1 15 M v0).bind fun x10 =>
          (aI M x10 v3).bind fun x11 =>
          if x11 ≤ x9 then
            f_Mo_nextSpan_b8 n v0 v1 v2 v3 (v4 + 1) M
          else
            f_Mo_nextSpan_b55 (f_Mo_nextSpan_b8 n) v0 v1 v2 v4 M
def f_Mo_nextSpan (v0 : Nat) (v1 : Int32) (v2 : Int32) (M : mm) : Option (Int32 × mm) :=
    f_Mo_nextSpan_b8 FU v0 v1 v2 ((-1)) (10 * v1) M
set_option maxHeartbeats 4000000 in
set_option maxRecDepth 100000 in
theorem w_Mo_nextSpan_b55 {p : Program} {l : Launch} {e : Env} {s : State} {m : MethodId} {args : Array Value} {below : List Frame} {meth : Method} {c : Code} {D : va_G} {dA : Nat → ClassId} {M0 M' : mm} {r : Int32} (C : mm_C p s m args meth c b_Mo_nextSpan 5 (some .int) R_Mo D dA (mm_A M0)) {k8 : Nat → Int32 → Int32 → Int32 → Int32 → mm → Option (Int32 × mm)} (hk8 : ∀ (v0 : Nat) (v1 : Int32) (v2 : Int32) (v3 : Int32) (v4 : Int32) (M : mm) (H : Heap) (locs : List Loc) (ls : Array Slot), k8 v0 v1 v2 v3 v4 M = some (r, M') → mm_W D dA (mm_A M0) M H → va_S (mm_A M0) s.heap H locs → lv_has ls 5 [(0, .ref v0), (1, .int v1), (2, .int v2), (3, .int v3), (4, .int v4)] → W p l e rm_Mo_nextSpan s m args below meth c H locs 0 0 (MQ below (mm_QI D dA M0 r M') args s 0 0 (mm_A M0)) (F0 m 8 ls [])) : ∀ (v0 : Nat) (v1 : Int32) (v2 : Int32) (v4 : Int32) (M : mm) (H : Heap) (locs : List Loc) (ls : Array Slot), f_Mo_nextSpan_b55 k8 v0 v1 v2 v4 M = some (r, M') → mm_W D dA (mm_A M0) M H → va_S (mm_A M0) s.heap H locs → lv_has ls 5 [(0, .ref v0), (1, .int v1), (2, .int v2), (4, .int v4)] → W p l e rm_Mo_nextSpan s m args below meth c H locs 0 0 (MQ below (mm_QI D dA M0 r M') args s 0 0 (mm_A M0)) (F0 m 55 ls []) := by
  obtain ⟨hx, hb, hr, hml, hown, hts, hlocks, hK, hA⟩ := id C
  intro v0 v1 v2 v4 M H locs ls h hW hS hl
  unfold f_Mo_nextSpan_b55 at h
  refine lv_iload hx hb d_Mo_nextSpan_55 (lv_at hl 3 rfl) ?_
  refine lv_istore_n (lv' := [(3, .int v4), (0, .ref v0), (1, .int v1), (2, .int v2), (4, .int v4)]) hx hb d_Mo_nextSpan_57 rfl hl (by decide) rfl (fun ls hl => ?_)
  refine lv_iinc (v := v4 + 1) (lv' := [(4, .int (v4 + 1)), (3, .int v4), (0, .ref v0), (1, .int v1), (2, .int v2)]) hx hb d_Mo_nextSpan_58 hl (k := 4) rfl rfl (by decide) rfl (fun ls hl => ?_)
  refine lv_goto (tgt := 8) hx hb d_Mo_nextSpan_61 (by decide) ?_
  exact hk8 _ _ _ _ _ _ _ _ _ h hW hS (lv_sub hl [2, 3, 4, 1, 0] rfl)
set_option maxHeartbeats 4000000 in
set_option maxRecDepth 100000 in
theorem w_Mo_nextSpan_b8 {p : Program} {l : Launch} {e : Env} {s : State} {m : MethodId} {args : Array Value} {below : List Frame} {meth : Method} {c : Code} {D : va_G} {dA : Nat → ClassId} {M0 M' : mm} {r : Int32} (C : mm_C p s m args meth c b_Mo_nextSpan 5 (some .int) R_Mo D dA (mm_A M0)) : ∀ (n : Nat), ∀ (v0 : Nat) (v1 : Int32) (v2 : Int32) (v3 : Int32) (v4 : Int32) (M : mm) (H : Heap) (locs : List Loc) (ls : Array Slot), f_Mo_nextSpan_b8 n v0 v1 v2 v3 v4 M = some (r, M') → mm_W D dA (mm_A M0) M H → va_S (mm_A M0) s.heap H locs → lv_has ls 5 [(0, .ref v0), (1, .int v1), (2, .int v2), (3, .int v3), (4, .int v4)] → W p l e rm_Mo_nextSpan s m args below meth c H locs 0 0 (MQ below (mm_QI D dA M0 r M') args s 0 0 (mm_A M0)) (F0 m 8 ls []) := by
  obtain ⟨hx, hb, hr, hml, hown, hts, hlocks, hK, hA⟩ := id C
  intro n
  induction n with
  | zero =>
    intro v0 v1 v2 v3 v4 M H locs ls h hW hS hl
    unfold f_Mo_nextSpan_b8 at h
    cases h
  | succ n ih =>
    intro v0 v1 v2 v3 v4 M H locs ls h hW hS hl
    unfold f_Mo_nextSpan_b8 at h
    refine lv_iload hx hb d_Mo_nextSpan_8 (lv_at hl 4 rfl) ?_
    refine lv_bipush (v := 10) hx hb d_Mo_nextSpan_10 (by decide) ?_
    refine lv_iload_n hx hb d_Mo_nextSpan_12 rfl (lv_at hl 1 rfl) ?_
    refine lv_imul hx hb d_Mo_nextSpan_13 ?_
    refine lv_aload_n hx hb d_Mo_nextSpan_14 rfl (lv_at hl 0 rfl) ?_
    obtain ⟨x1, e1, h⟩ := ob h
    refine mr_gR C hW k_Mo_44 e1 d_Mo_nextSpan_15 ?_
    refine lv_iload_n hx hb d_Mo_nextSpan_18 rfl (lv_at hl 1 rfl) ?_
    obtain ⟨x2, e2, h⟩ := ob h
    refine mr_aI C hW e2 d_Mo_nextSpan_19 ?_
    refine lv_iadd hx hb d_Mo_nextSpan_20 ?_
    refine lv_icmp_ge (tgt := 64) hx hb d_Mo_nextSpan_21 (by decide) (fun c3 => ?_) (fun c3 => ?_)
    · have h := ifp h c3
      refine lv_iload_n hx hb d_Mo_nextSpan_64 rfl (lv_at hl 3 rfl) ?_
      exact mr_iret C hW hS (Nat.le_of_ble_eq_true rfl) (Nat.le_of_ble_eq_true rfl) h d_Mo_nextSpan_65
    · have h := ifn h c3
      refine lv_aload_n hx hb d_Mo_nextSpan_24 rfl (lv_at hl 0 rfl) ?_
      obtain ⟨x4, e4, h⟩ := ob h
      refine mr_gR C hW k_Mo_47 e4 d_Mo_nextSpan_25 ?_
      refine lv_iload hx hb d_Mo_nextSpan_28 (lv_at hl 4 rfl) ?_
      obtain ⟨x5, e5, h⟩ := ob h
      refine mr_aI C hW e5 d_Mo_nextSpan_30 ?_
      refine lv_iload_n hx hb d_Mo_nextSpan_31 rfl (lv_at hl 2 rfl) ?_
      refine lv_icmp_le (tgt := 58) hx hb d_Mo_nextSpan_32 (by decide) (fun c6 => ?_) (fun c6 => ?_)
      · have h := ifp h c6
        refine lv_iinc (v := v4 + 1) (lv' := [(4, .int (v4 + 1)), (0, .ref v0), (1, .int v1), (2, .int v2), (3, .int v3)]) hx hb d_Mo_nextSpan_58 hl (k := 4) rfl rfl (by decide) rfl (fun ls hl => ?_)
        refine lv_goto (tgt := 8) hx hb d_Mo_nextSpan_61 (by decide) ?_
        exact ih _ _ _ _ _ _ _ _ _ h hW hS (lv_sub hl [1, 2, 3, 4, 0] rfl)
      · have h := ifn h c6
        refine lv_iload_n hx hb d_Mo_nextSpan_35 rfl (lv_at hl 3 rfl) ?_
        refine lv_if_lt (tgt := 55) hx hb d_Mo_nextSpan_36 (by decide) (fun c7 => ?_) (fun c7 => ?_)
        · have h := ifp h c7
          exact w_Mo_nextSpan_b55 C ih _ _ _ _ _ _ _ _ h hW hS (lv_sub hl [0, 1, 2, 4] rfl)
        · have h := ifn h c7
          refine lv_aload_n hx hb d_Mo_nextSpan_39 rfl (lv_at hl 0 rfl) ?_
          obtain ⟨x8, e8, h⟩ := ob h
          refine mr_gR C hW k_Mo_47 e8 d_Mo_nextSpan_40 ?_
          refine lv_iload hx hb d_Mo_nextSpan_43 (lv_at hl 4 rfl) ?_
          obtain ⟨x9, e9, h⟩ := ob h
          refine mr_aI C hW e9 d_Mo_nextSpan_45 ?_
          refine lv_aload_n hx hb d_Mo_nextSpan_46 rfl (lv_at hl 0 rfl) ?_
          obtain ⟨x10, e10, h⟩ := ob h
          refine mr_gR C hW k_Mo_47 e10 d_Mo_nextSpan_47 ?_
          refine lv_iload_n hx hb d_Mo_nextSpan_50 rfl (lv_at hl 3 rfl) ?_
          obtain ⟨x11, e11, h⟩ := ob h
          refine mr_aI C hW e11 d_Mo_nextSpan_51 ?_
          refine lv_icmp_ge (tgt := 58) hx hb d_Mo_nextSpan_52 (by decide) (fun c12 => ?_) (fun c12 => ?_)
          · have h := ifp h c12
            refine lv_iinc (v := v4 + 1) (lv' := [(4, .int (v4 + 1)), (0, .ref v0), (1, .int v1), (2, .int v2), (3, .int v3)]) hx hb d_Mo_nextSpan_58 hl (k := 4) rfl rfl (by decide) rfl (fun ls hl => ?_)
            refine lv_goto (tgt := 8) hx hb d_Mo_nextSpan_61 (by decide) ?_
            exact ih _ _ _ _ _ _ _ _ _ h hW hS (lv_sub hl [1, 2, 3, 4, 0] rfl)
          · have h := ifn h c12
            exact w_Mo_nextSpan_b55 C ih _ _ _ _ _ _ _ _ h hW hS (lv_sub hl [0, 1, 2, 4] rfl)
set_option maxHeartbeats 4000000 in
set_option maxRecDepth 100000 in
theorem c_Mo_nextSpan (l : Launch) (D : va_G) (dA : Nat → ClassId) (M0 M' : mm) (r : Int32) (v0 : Nat) (v1 : Int32) (v2 : Int32) (h : f_Mo_nextSpan v0 v1 v2 M0 = some (r, M')) : Met l y_Mo_nextSpan w_Mo_nextSpan rm_Mo_nextSpan (mm_Pre D dA M0 [.ref v0, .int v1, .int v2]) (mm_QI D dA M0 r M') 0 0 (mm_A M0) := by
  refine Met.ofW (cc := b_Mo_nextSpan) (maxL := 5) (ret := (some .int)) (by decide) rfl ?_
  intro p e s m args below meth c s₁ B hml hv
  obtain ⟨rfl, hW, hK⟩ := hv
  have C : mm_C p s m _ meth c b_Mo_nextSpan 5 (some .int) R_Mo D dA (mm_A M0) := ⟨B.exec, B.bytes, B.returns, hml, findClass_of_methodNamed B.named, fun w hw => atoms_spec (ws := w_Mo_nextSpan) B.pre w (List.mem_cons_of_mem _ hw), B.notSynchronized, hK, fun q hq => Or.inr (by rw [← hW.1]; exact hq)⟩
  have hS : va_S (mm_A M0) s.heap s.heap [] := va_S.rf
  obtain ⟨hx, hb, hr, hml, hown, hts, hlocks, hK, hA⟩ := id C
  have hl := lv_entry ([.ref v0, .int v1, .int v2]) (n := 5) (Nat.le_of_ble_eq_true rfl)
  rw [lg_entry_eq]
  generalize (lg_sl ([.ref v0, .int v1, .int v2]) ++ List.replicate (5 - (lg_sl ([.ref v0, .int v1, .int v2])).length) Slot.unset).toArray = ls at hl ⊢
  have hl : lv_has ls 5 [(0, .ref v0), (1, .int v1), (2, .int v2)] := hl
  unfold f_Mo_nextSpan at h
  refine lv_iconst (v := (-1)) hx hb d_Mo_nextSpan_0 (by decide) ?_
  refine lv_istore_n (lv' := [(3, .int ((-1))), (0, .ref v0), (1, .int v1), (2, .int v2)]) hx hb d_Mo_nextSpan_1 rfl hl (by decide) rfl (fun ls hl => ?_)
  refine lv_bipush (v := 10) hx hb d_Mo_nextSpan_2 (by decide) ?_
  refine lv_iload_n hx hb d_Mo_nextSpan_4 rfl (lv_at hl 2 rfl) ?_
  refine lv_imul hx hb d_Mo_nextSpan_5 ?_
  refine lv_istore (lv' := [(4, .int (10 * v1)), (3, .int ((-1))), (0, .ref v0), (1, .int v1), (2, .int v2)]) hx hb d_Mo_nextSpan_6 hl (by decide) rfl (fun ls hl => ?_)
  exact w_Mo_nextSpan_b8 C FU _ _ _ _ _ _ _ _ _ h hW hS (lv_sub hl [2, 3, 4, 1, 0] rfl)
def f_Mo_gap_b91 : Nat → Int32 → Int32 → Int32 → mm → Option (Int32 × mm) := fun v0 v3 v4 t0 M =>
    if 0 ≤ t0 then
      if v3 = 0 then
        (gR 1 16 M v0).bind fun x16 =>
        (aI M x16 v4).bind fun x17 =>
        some (x17 + 1, M)
      else
        (gR 1 15 M v0).bind fun x14 =>
        (aI M x14 t0).bind fun x15 =>
        some (x15 - 1, M)
    else
      some ((-1), M)
def f_Mo_gap_b70 : Nat → Int32 → Int32 → Int32 → mm → Option (Int32 × mm) := fun v0 v1 v3 v4 M =>
    if 0 ≤ v4 then
      (gR 1 16 M v0).bind fun x8 =>
      (aI M x8 v4).bind fun x9 =>
      (kO 1 M v0).bind fun _ =>
      (f_Mo_nextSpan v0 v1 x9 M).bind fun (x10, M10) =>
      f_Mo_gap_b91 v0 v3 v4 x10 M10
    else
      f_Mo_gap_b91 v0 v3 v4 ((-1)) M
def f_Mo_gap_b39 : Nat → Nat → Int32 → Int32 → Int32 → Int32 → Int32 → mm → Option (Int32 × mm)
  | 0, _, _, _, _, _, _, _ => none
  | n + 1, v0, v1, v2, v3, v4, v5, M =>
    if v2 ≤ v5 then
      f_Mo_gap_b70 v0 v1 v3 v4 M
    else
      if v4 < 0 then
        f_Mo_gap_b70 v0 v1 v3 v4 M
      else
        (gR 1 16 M v0).bind fun x3 =>
        (aI M x3 v4).bind fun x4 =>
        (kO 1 M v0).bind fun _ =>
        (f_Mo_nextSpan v0 v1 x4 M).bind fun (x5, M5) =>
        f_Mo_gap_b39 n v0 v1 v2 v3 x5 (v5 + 1) M5
def f_Mo_gap (v0 : Nat) (v1 : Int32) (v2 : Int32) (v3 : Int32) (M : mm) : Option (Int32 × mm) :=
    (pF 1 0 (.int 0) M v0).bind fun M18 =>
    (kO 1 M18 v0).bind fun _ =>
    (f_Mo_isTitle v0 v1 M18).bind fun (x19, M19) =>
    if x19 = 0 then
      some ((-1), M19)
    else
      if v2 < 0 then
        some ((-1), M19)
      else
        (f_Mo_in1 v3 0 1 M19).bind fun (x23, M23) =>
        if x23 = 0 then
          some ((-1), M23)
        else
          (kO 1 M23 v0).bind fun _ =>
          (f_Mo_nextSpan v0 v1 ((-1)) M23).bind fun (x25, M25) =>
          f_Mo_gap_b39 FU v0 v1 v2 v3 x25 0 M25
set_option maxHeartbeats 4000000 in
set_option maxRecDepth 100000 in
theorem w_Mo_gap_b91 {p : Program} {l : Launch} {e : Env} {s : State} {m : MethodId} {args : Array Value} {below : List Frame} {meth : Method} {c : Code} {D : va_G} {dA : Nat → ClassId} {M0 M' : mm} {r : Int32} (C : mm_C p s m args meth c b_Mo_gap 6 (some .int) R_Mo D dA (mm_A M0)) : ∀ (v0 : Nat) (v3 : Int32) (v4 : Int32) (t0 : Int32) (M : mm) (H : Heap) (locs : List Loc) (ls : Array Slot), f_Mo_gap_b91 v0 v3 v4 t0 M = some (r, M') → mm_W D dA (mm_A M0) M H → va_S (mm_A M0) s.heap H locs → lv_has ls 6 [(0, .ref v0), (3, .int v3), (4, .int v4)] → W p l e rm_Mo_gap s m args below meth c H locs 0 0 (MQ below (mm_QI D dA M0 r M') args s 0 0 (mm_A M0)) (F0 m 91 ls [.int t0]) := by
  obtain ⟨hx, hb, hr, hml, hown, hts, hlocks, hK, hA⟩ := id C
  intro v0 v3 v4 t0 M H locs ls h hW hS hl
  unfold f_Mo_gap_b91 at h
  refine lv_istore (lv' := [(5, .int t0), (0, .ref v0), (3, .int v3), (4, .int v4)]) hx hb d_Mo_gap_91 hl (by decide) rfl (fun ls hl => ?_)
  refine lv_iload hx hb d_Mo_gap_93 (lv_at hl 0 rfl) ?_
  refine lv_if_ge (tgt := 102) hx hb d_Mo_gap_95 (by decide) (fun c12 => ?_) (fun c12 => ?_)
  · have h := ifp h c12
    refine lv_iload_n hx hb d_Mo_gap_102 rfl (lv_at hl 2 rfl) ?_
    refine lv_if_ne (tgt := 118) hx hb d_Mo_gap_103 (by decide) (fun c13 => ?_) (fun c13 => ?_)
    · have h := ifn h c13
      refine lv_aload_n hx hb d_Mo_gap_118 rfl (lv_at hl 1 rfl) ?_
      obtain ⟨x14, e14, h⟩ := ob h
      refine mr_gR C hW k_Mo_47 e14 d_Mo_gap_119 ?_
      refine lv_iload hx hb d_Mo_gap_122 (lv_at hl 0 rfl) ?_
      obtain ⟨x15, e15, h⟩ := ob h
      refine mr_aI C hW e15 d_Mo_gap_124 ?_
      refine lv_iconst (v := 1) hx hb d_Mo_gap_125 (by decide) ?_
      refine lv_isub hx hb d_Mo_gap_126 ?_
      exact mr_iret C hW hS (Nat.le_of_ble_eq_true rfl) (Nat.le_of_ble_eq_true rfl) h d_Mo_gap_127
    · have h := ifp h c13
      refine lv_aload_n hx hb d_Mo_gap_106 rfl (lv_at hl 1 rfl) ?_
      obtain ⟨x16, e16, h⟩ := ob h
      refine mr_gR C hW k_Mo_50 e16 d_Mo_gap_107 ?_
      refine lv_iload hx hb d_Mo_gap_110 (lv_at hl 3 rfl) ?_
      obtain ⟨x17, e17, h⟩ := ob h
      refine mr_aI C hW e17 d_Mo_gap_112 ?_
      refine lv_iconst (v := 1) hx hb d_Mo_gap_113 (by decide) ?_
      refine lv_iadd hx hb d_Mo_gap_114 ?_
      refine lv_goto (tgt := 127) hx hb d_Mo_gap_115 (by decide) ?_
      exact mr_iret C hW hS (Nat.le_of_ble_eq_true rfl) (Nat.le_of_ble_eq_true rfl) h d_Mo_gap_127
  · have h := ifn h c12
    refine lv_iconst (v := (-1)) hx hb d_Mo_gap_98 (by decide) ?_
    refine lv_goto (tgt := 127) hx hb d_Mo_gap_99 (by decide) ?_
    exact mr_iret C hW hS (Nat.le_of_ble_eq_true rfl) (Nat.le_of_ble_eq_true rfl) h d_Mo_gap_127
set_option maxHeartbeats 4000000 in
set_option maxRecDepth 100000 in
theorem w_Mo_gap_b70 {p : Program} {l : Launch} {e : Env} {s : State} {m : MethodId} {args : Array Value} {below : List Frame} {meth : Method} {c : Code} {D : va_G} {dA : Nat → ClassId} {M0 M' : mm} {r : Int32} (C : mm_C p s m args meth c b_Mo_gap 6 (some .int) R_Mo D dA (mm_A M0)) : ∀ (v0 : Nat) (v1 : Int32) (v3 : Int32) (v4 : Int32) (M : mm) (H : Heap) (locs : List Loc) (ls : Array Slot), f_Mo_gap_b70 v0 v1 v3 v4 M = some (r, M') → mm_W D dA (mm_A M0) M H → va_S (mm_A M0) s.heap H locs → lv_has ls 6 [(0, .ref v0), (1, .int v1), (3, .int v3), (4, .int v4)] → W p l e rm_Mo_gap s m args below meth c H locs 0 0 (MQ below (mm_QI D dA M0 r M') args s 0 0 (mm_A M0)) (F0 m 70 ls []) := by
  obtain ⟨hx, hb, hr, hml, hown, hts, hlocks, hK, hA⟩ := id C
  intro v0 v1 v3 v4 M H locs ls h hW hS hl
  unfold f_Mo_gap_b70 at h
  refine lv_iload hx hb d_Mo_gap_70 (lv_at hl 3 rfl) ?_
  refine lv_if_ge (tgt := 79) hx hb d_Mo_gap_72 (by decide) (fun c7 => ?_) (fun c7 => ?_)
  · have h := ifp h c7
    refine lv_aload_n hx hb d_Mo_gap_79 rfl (lv_at hl 0 rfl) ?_
    refine lv_iload_n hx hb d_Mo_gap_80 rfl (lv_at hl 1 rfl) ?_
    refine lv_aload_n hx hb d_Mo_gap_81 rfl (lv_at hl 0 rfl) ?_
    obtain ⟨x8, e8, h⟩ := ob h
    refine mr_gR C hW k_Mo_50 e8 d_Mo_gap_82 ?_
    refine lv_iload hx hb d_Mo_gap_85 (lv_at hl 3 rfl) ?_
    obtain ⟨x9, e9, h⟩ := ob h
    refine mr_aI C hW e9 d_Mo_gap_87 ?_
    obtain ⟨_, e11, h⟩ := ob h
    obtain ⟨⟨x10, M10⟩, e10, h⟩ := ob h
    refine mr_ci C hW hS (va_runV (As := [.int v1, .int x9]) (rest := []) ⟨hx, hb, hml, hown, hts⟩ (c_Mo_nextSpan l D dA _ _ _ v0 v1 x9 e10) (cwV 2 hts (mg_V q_334 q_335 q_336 q_337 q_267) rfl rfl rfl (by decide +kernel) ⟨Nat.le_of_ble_eq_true rfl, Nat.le_of_ble_eq_true rfl⟩) (mr_preV C hW (ci := 1) rfl e11) rfl rfl hl.1 rfl (lv_room (Nat.le_of_ble_eq_true rfl)) d_Mo_gap_88 ⟨Nat.le_of_ble_eq_true rfl, Nat.le_of_ble_eq_true rfl⟩) (fun H locs hW hS => ?_)
    exact w_Mo_gap_b91 C _ _ _ _ _ _ _ _ h hW hS (lv_sub hl [0, 2, 3] rfl)
  · have h := ifn h c7
    refine lv_iconst (v := (-1)) hx hb d_Mo_gap_75 (by decide) ?_
    refine lv_goto (tgt := 91) hx hb d_Mo_gap_76 (by decide) ?_
    exact w_Mo_gap_b91 C _ _ _ _ _ _ _ _ h hW hS (lv_sub hl [0, 2, 3] rfl)
set_option maxHeartbeats 4000000 in
set_option maxRecDepth 100000 in
theorem w_Mo_gap_b39 {p : Program} {l : Launch} {e : Env} {s : State} {m : MethodId} {args : Array Value} {below : List Frame} {meth : Method} {c : Code} {D : va_G} {dA : Nat → ClassId} {M0 M' : mm} {r : Int32} (C : mm_C p s m args meth c b_Mo_gap 6 (some .int) R_Mo D dA (mm_A M0)) : ∀ (n : Nat), ∀ (v0 : Nat) (v1 : Int32) (v2 : Int32) (v3 : Int32) (v4 : Int32) (v5 : Int32) (M : mm) (H : Heap) (locs : List Loc) (ls : Array Slot), f_Mo_gap_b39 n v0 v1 v2 v3 v4 v5 M = some (r, M') → mm_W D dA (mm_A M0) M H → va_S (mm_A M0) s.heap H locs → lv_has ls 6 [(0, .ref v0), (1, .int v1), (2, .int v2), (3, .int v3), (4, .int v4), (5, .int v5)] → W p l e rm_Mo_gap s m args below meth c H locs 0 0 (MQ below (mm_QI D dA M0 r M') args s 0 0 (mm_A M0)) (F0 m 39 ls []) := by
  obtain ⟨hx, hb, hr, hml, hown, hts, hlocks, hK, hA⟩ := id C
  intro n
  induction n with
  | zero =>
    intro v0 v1 v2 v3 v4 v5 M H locs ls h hW hS hl
    unfold f_Mo_gap_b39 at h
    cases h
  | succ n ih =>
    intro v0 v1 v2 v3 v4 v5 M H locs ls h hW hS hl
    unfold f_Mo_gap_b39 at h
    refine lv_iload hx hb d_Mo_gap_39 (lv_at hl 5 rfl) ?_
    refine lv_iload_n hx hb d_Mo_gap_41 rfl (lv_at hl 2 rfl) ?_
    refine lv_icmp_ge (tgt := 70) hx hb d_Mo_gap_42 (by decide) (fun c1 => ?_) (fun c1 => ?_)
    · have h := ifp h c1
      exact w_Mo_gap_b70 C _ _ _ _ _ _ _ _ h hW hS (lv_sub hl [0, 1, 3, 4] rfl)
    · have h := ifn h c1
      refine lv_iload hx hb d_Mo_gap_45 (lv_at hl 4 rfl) ?_
      refine lv_if_lt (tgt := 70) hx hb d_Mo_gap_47 (by decide) (fun c2 => ?_) (fun c2 => ?_)
      · have h := ifp h c2
        exact w_Mo_gap_b70 C _ _ _ _ _ _ _ _ h hW hS (lv_sub hl [0, 1, 3, 4] rfl)
      · have h := ifn h c2
        refine lv_aload_n hx hb d_Mo_gap_50 rfl (lv_at hl 0 rfl) ?_
        refine lv_iload_n hx hb d_Mo_gap_51 rfl (lv_at hl 1 rfl) ?_
        refine lv_aload_n hx hb d_Mo_gap_52 rfl (lv_at hl 0 rfl) ?_
        obtain ⟨x3, e3, h⟩ := ob h
        refine mr_gR C hW k_Mo_50 e3 d_Mo_gap_53 ?_
        refine lv_iload hx hb d_Mo_gap_56 (lv_at hl 4 rfl) ?_
        obtain ⟨x4, e4, h⟩ := ob h
        refine mr_aI C hW e4 d_Mo_gap_58 ?_
        obtain ⟨_, e6, h⟩ := ob h
        obtain ⟨⟨x5, M5⟩, e5, h⟩ := ob h
        refine mr_ci C hW hS (va_runV (As := [.int v1, .int x4]) (rest := []) ⟨hx, hb, hml, hown, hts⟩ (c_Mo_nextSpan l D dA _ _ _ v0 v1 x4 e5) (cwV 2 hts (mg_V q_334 q_335 q_336 q_337 q_267) rfl rfl rfl (by decide +kernel) ⟨Nat.le_of_ble_eq_true rfl, Nat.le_of_ble_eq_true rfl⟩) (mr_preV C hW (ci := 1) rfl e6) rfl rfl hl.1 rfl (lv_room (Nat.le_of_ble_eq_true rfl)) d_Mo_gap_59 ⟨Nat.le_of_ble_eq_true rfl, Nat.le_of_ble_eq_true rfl⟩) (fun H locs hW hS => ?_)
        refine lv_istore (lv' := [(4, .int x5), (0, .ref v0), (1, .int v1), (2, .int v2), (3, .int v3), (5, .int v5)]) hx hb d_Mo_gap_62 hl (by decide) rfl (fun ls hl => ?_)
        refine lv_iinc (v := v5 + 1) (lv' := [(5, .int (v5 + 1)), (4, .int x5), (0, .ref v0), (1, .int v1), (2, .int v2), (3, .int v3)]) hx hb d_Mo_gap_64 hl (k := 5) rfl rfl (by decide) rfl (fun ls hl => ?_)
        refine lv_goto (tgt := 39) hx hb d_Mo_gap_67 (by decide) ?_
        exact ih _ _ _ _ _ _ _ _ _ _ h hW hS (lv_sub hl [2, 3, 4, 5, 1, 0] rfl)
set_option maxHeartbeats 4000000 in
set_option maxRecDepth 100000 in
theorem c_Mo_gap (l : Launch) (D : va_G) (dA : Nat → ClassId) (M0 M' : mm) (r : Int32) (v0 : Nat) (v1 : Int32) (v2 : Int32) (v3 : Int32) (h : f_Mo_gap v0 v1 v2 v3 M0 = some (r, M')) : Met l y_Mo_gap w_Mo_gap rm_Mo_gap (mm_Pre D dA M0 [.ref v0, .int v1, .int v2, .int v3]) (mm_QI D dA M0 r M') 0 0 (mm_A M0) := by
  refine Met.ofW (cc := b_Mo_gap) (maxL := 6) (ret := (some .int)) (by decide) rfl ?_
  intro p e s m args below meth c s₁ B hml hv
  obtain ⟨rfl, hW, hK⟩ := hv
  have C : mm_C p s m _ meth c b_Mo_gap 6 (some .int) R_Mo D dA (mm_A M0) := ⟨B.exec, B.bytes, B.returns, hml, findClass_of_methodNamed B.named, fun w hw => atoms_spec (ws := w_Mo_gap) B.pre w (List.mem_cons_of_mem _ hw), B.notSynchronized, hK, fun q hq => Or.inr (by rw [← hW.1]; exact hq)⟩
  have hS : va_S (mm_A M0) s.heap s.heap [] := va_S.rf
  obtain ⟨hx, hb, hr, hml, hown, hts, hlocks, hK, hA⟩ := id C
  have hl := lv_entry ([.ref v0, .int v1, .int v2, .int v3]) (n := 6) (Nat.le_of_ble_eq_true rfl)
  rw [lg_entry_eq]
  generalize (lg_sl ([.ref v0, .int v1, .int v2, .int v3]) ++ List.replicate (6 - (lg_sl ([.ref v0, .int v1, .int v2, .int v3])).length) Slot.unset).toArray = ls at hl ⊢
  have hl : lv_has ls 6 [(0, .ref v0), (1, .int v1), (2, .int v2), (3, .int v3)] := hl
  unfold f_Mo_gap at h
  refine lv_aload_n hx hb d_Mo_gap_0 rfl (lv_at hl 0 rfl) ?_
  refine lv_iconst (v := 0) hx hb d_Mo_gap_1 (by decide) ?_
  obtain ⟨M18, e18, h⟩ := ob h
  refine mr_put C hW hS kp_Mo_90 rfl rfl e18 d_Mo_gap_2 (fun H locs hW hS => ?_)
  refine lv_aload_n hx hb d_Mo_gap_5 rfl (lv_at hl 0 rfl) ?_
  refine lv_iload_n hx hb d_Mo_gap_6 rfl (lv_at hl 1 rfl) ?_
  obtain ⟨_, e20, h⟩ := ob h
  obtain ⟨⟨x19, M19⟩, e19, h⟩ := ob h
  refine mr_ci C hW hS (va_runV (As := [.int v1]) (rest := []) ⟨hx, hb, hml, hown, hts⟩ (c_Mo_isTitle l D dA _ _ _ v0 v1 e19) (cwV 1 hts (mg_V q_280 q_281 q_282 q_283 q_267) rfl rfl rfl (by decide +kernel) ⟨Nat.le_of_ble_eq_true rfl, Nat.le_of_ble_eq_true rfl⟩) (mr_preV C hW (ci := 1) rfl e20) rfl rfl hl.1 rfl (lv_room (Nat.le_of_ble_eq_true rfl)) d_Mo_gap_7 ⟨Nat.le_of_ble_eq_true rfl, Nat.le_of_ble_eq_true rfl⟩) (fun H locs hW hS => ?_)
  refine lv_if_eq (tgt := 26) hx hb d_Mo_gap_10 (by decide) (fun c21 => ?_) (fun c21 => ?_)
  · have h := ifp h c21
    refine lv_iconst (v := (-1)) hx hb d_Mo_gap_26 (by decide) ?_
    exact mr_iret C hW hS (Nat.le_of_ble_eq_true rfl) (Nat.le_of_ble_eq_true rfl) h d_Mo_gap_27
  · have h := ifn h c21
    refine lv_iload_n hx hb d_Mo_gap_13 rfl (lv_at hl 2 rfl) ?_
    refine lv_if_lt (tgt := 26) hx hb d_Mo_gap_14 (by decide) (fun c22 => ?_) (fun c22 => ?_)
    · have h := ifp h c22
      refine lv_iconst (v := (-1)) hx hb d_Mo_gap_26 (by decide) ?_
      exact mr_iret C hW hS (Nat.le_of_ble_eq_true rfl) (Nat.le_of_ble_eq_true rfl) h d_Mo_gap_27
    · have h := ifn h c22
      refine lv_iload_n hx hb d_Mo_gap_17 rfl (lv_at hl 3 rfl) ?_
      refine lv_iconst (v := 0) hx hb d_Mo_gap_18 (by decide) ?_
      refine lv_iconst (v := 1) hx hb d_Mo_gap_19 (by decide) ?_
      obtain ⟨⟨x23, M23⟩, e23, h⟩ := ob h
      refine mr_ci C hW hS (va_runS (As := [.int v3, .int 0, .int 1]) (rest := []) ⟨hx, hb, hml, hown, hts⟩ (c_Mo_in1 l D dA _ _ _ v3 0 1 e23) (cwS 3 hts (mg_S q_264 q_265 q_266 q_267) rfl rfl rfl (by decide +kernel) ⟨Nat.le_of_ble_eq_true rfl, Nat.le_of_ble_eq_true rfl⟩) (mr_pre C hW) rfl rfl hl.1 rfl (lv_room (Nat.le_of_ble_eq_true rfl)) d_Mo_gap_20 ⟨Nat.le_of_ble_eq_true rfl, Nat.le_of_ble_eq_true rfl⟩) (fun H locs hW hS => ?_)
      refine lv_if_ne (tgt := 28) hx hb d_Mo_gap_23 (by decide) (fun c24 => ?_) (fun c24 => ?_)
      · have h := ifn h c24
        refine lv_aload_n hx hb d_Mo_gap_28 rfl (lv_at hl 0 rfl) ?_
        refine lv_iload_n hx hb d_Mo_gap_29 rfl (lv_at hl 1 rfl) ?_
        refine lv_iconst (v := (-1)) hx hb d_Mo_gap_30 (by decide) ?_
        obtain ⟨_, e26, h⟩ := ob h
        obtain ⟨⟨x25, M25⟩, e25, h⟩ := ob h
        refine mr_ci C hW hS (va_runV (As := [.int v1, .int ((-1))]) (rest := []) ⟨hx, hb, hml, hown, hts⟩ (c_Mo_nextSpan l D dA _ _ _ v0 v1 ((-1)) e25) (cwV 2 hts (mg_V q_334 q_335 q_336 q_337 q_267) rfl rfl rfl (by decide +kernel) ⟨Nat.le_of_ble_eq_true rfl, Nat.le_of_ble_eq_true rfl⟩) (mr_preV C hW (ci := 1) rfl e26) rfl rfl hl.1 rfl (lv_room (Nat.le_of_ble_eq_true rfl)) d_Mo_gap_31 ⟨Nat.le_of_ble_eq_true rfl, Nat.le_of_ble_eq_true rfl⟩) (fun H locs hW hS => ?_)
        refine lv_istore (lv' := [(4, .int x25), (0, .ref v0), (1, .int v1), (2, .int v2), (3, .int v3)]) hx hb d_Mo_gap_34 hl (by decide) rfl (fun ls hl => ?_)
        refine lv_iconst (v := 0) hx hb d_Mo_gap_36 (by decide) ?_
        refine lv_istore (lv' := [(5, .int 0), (4, .int x25), (0, .ref v0), (1, .int v1), (2, .int v2), (3, .int v3)]) hx hb d_Mo_gap_37 hl (by decide) rfl (fun ls hl => ?_)
        exact w_Mo_gap_b39 C FU _ _ _ _ _ _ _ _ _ _ h hW hS (lv_sub hl [2, 3, 4, 5, 1, 0] rfl)
      · have h := ifp h c24
        refine lv_iconst (v := (-1)) hx hb d_Mo_gap_26 (by decide) ?_
        exact mr_iret C hW hS (Nat.le_of_ble_eq_true rfl) (Nat.le_of_ble_eq_true rfl) h d_Mo_gap_27
