theorem d_Mo_cover_0 : decode b_Mo_cover 0 = .ok (.aload_n 0, 1) := by decide +kernel
theorem d_Mo_cover_1 : decode b_Mo_cover 1 = .ok (.iconst 0, 1) := by decide +kernel
theorem d_Mo_cover_2 : decode b_Mo_cover 2 = .ok (.putfield 90, 3) := by decide +kernel
theorem d_Mo_cover_5 : decode b_Mo_cover 5 = .ok (.aload_n 0, 1) := by decide +kernel
theorem d_Mo_cover_6 : decode b_Mo_cover 6 = .ok (.iload_n 1, 1) := by decide +kernel
theorem d_Mo_cover_7 : decode b_Mo_cover 7 = .ok (.invokevirtual 115, 3) := by decide +kernel
theorem d_Mo_cover_10 : decode b_Mo_cover 10 = .ok (.ifCond .ne 5, 3) := by decide +kernel
theorem d_Mo_cover_13 : decode b_Mo_cover 13 = .ok (.iconst (-1), 1) := by decide +kernel
theorem d_Mo_cover_14 : decode b_Mo_cover 14 = .ok (.ireturn, 1) := by decide +kernel
theorem d_Mo_cover_15 : decode b_Mo_cover 15 = .ok (.iload_n 2, 1) := by decide +kernel
theorem d_Mo_cover_16 : decode b_Mo_cover 16 = .ok (.invokestatic 118, 3) := by decide +kernel
theorem d_Mo_cover_19 : decode b_Mo_cover 19 = .ok (.ifCond .eq 15, 3) := by decide +kernel
theorem d_Mo_cover_22 : decode b_Mo_cover 22 = .ok (.iload_n 3, 1) := by decide +kernel
theorem d_Mo_cover_23 : decode b_Mo_cover 23 = .ok (.invokestatic 118, 3) := by decide +kernel
theorem d_Mo_cover_26 : decode b_Mo_cover 26 = .ok (.ifCond .eq 8, 3) := by decide +kernel
theorem d_Mo_cover_29 : decode b_Mo_cover 29 = .ok (.iload_n 2, 1) := by decide +kernel
theorem d_Mo_cover_30 : decode b_Mo_cover 30 = .ok (.iload_n 3, 1) := by decide +kernel
theorem d_Mo_cover_31 : decode b_Mo_cover 31 = .ok (.if_icmp .le 6, 3) := by decide +kernel
theorem d_Mo_cover_34 : decode b_Mo_cover 34 = .ok (.bipush (-2), 2) := by decide +kernel
theorem d_Mo_cover_36 : decode b_Mo_cover 36 = .ok (.ireturn, 1) := by decide +kernel
theorem d_Mo_cover_37 : decode b_Mo_cover 37 = .ok (.bipush 10, 2) := by decide +kernel
theorem d_Mo_cover_39 : decode b_Mo_cover 39 = .ok (.iload_n 1, 1) := by decide +kernel
theorem d_Mo_cover_40 : decode b_Mo_cover 40 = .ok (.imul, 1) := by decide +kernel
theorem d_Mo_cover_41 : decode b_Mo_cover 41 = .ok (.istore 4, 2) := by decide +kernel
theorem d_Mo_cover_43 : decode b_Mo_cover 43 = .ok (.iload 4, 2) := by decide +kernel
theorem d_Mo_cover_45 : decode b_Mo_cover 45 = .ok (.bipush 10, 2) := by decide +kernel
theorem d_Mo_cover_47 : decode b_Mo_cover 47 = .ok (.iload_n 1, 1) := by decide +kernel
theorem d_Mo_cover_48 : decode b_Mo_cover 48 = .ok (.imul, 1) := by decide +kernel
theorem d_Mo_cover_49 : decode b_Mo_cover 49 = .ok (.aload_n 0, 1) := by decide +kernel
theorem d_Mo_cover_50 : decode b_Mo_cover 50 = .ok (.getfield 44, 3) := by decide +kernel
theorem d_Mo_cover_53 : decode b_Mo_cover 53 = .ok (.iload_n 1, 1) := by decide +kernel
theorem d_Mo_cover_54 : decode b_Mo_cover 54 = .ok (.iaload, 1) := by decide +kernel
theorem d_Mo_cover_55 : decode b_Mo_cover 55 = .ok (.iadd, 1) := by decide +kernel
theorem d_Mo_cover_56 : decode b_Mo_cover 56 = .ok (.if_icmp .ge 38, 3) := by decide +kernel
theorem d_Mo_cover_59 : decode b_Mo_cover 59 = .ok (.iload_n 2, 1) := by decide +kernel
theorem d_Mo_cover_60 : decode b_Mo_cover 60 = .ok (.aload_n 0, 1) := by decide +kernel
theorem d_Mo_cover_61 : decode b_Mo_cover 61 = .ok (.getfield 50, 3) := by decide +kernel
theorem d_Mo_cover_64 : decode b_Mo_cover 64 = .ok (.iload 4, 2) := by decide +kernel
theorem d_Mo_cover_66 : decode b_Mo_cover 66 = .ok (.iaload, 1) := by decide +kernel
theorem d_Mo_cover_67 : decode b_Mo_cover 67 = .ok (.iconst 1, 1) := by decide +kernel
theorem d_Mo_cover_68 : decode b_Mo_cover 68 = .ok (.iadd, 1) := by decide +kernel
theorem d_Mo_cover_69 : decode b_Mo_cover 69 = .ok (.if_icmp .gt 19, 3) := by decide +kernel
theorem d_Mo_cover_72 : decode b_Mo_cover 72 = .ok (.aload_n 0, 1) := by decide +kernel
theorem d_Mo_cover_73 : decode b_Mo_cover 73 = .ok (.getfield 47, 3) := by decide +kernel
theorem d_Mo_cover_76 : decode b_Mo_cover 76 = .ok (.iload 4, 2) := by decide +kernel
theorem d_Mo_cover_78 : decode b_Mo_cover 78 = .ok (.iaload, 1) := by decide +kernel
theorem d_Mo_cover_79 : decode b_Mo_cover 79 = .ok (.iload_n 3, 1) := by decide +kernel
theorem d_Mo_cover_80 : decode b_Mo_cover 80 = .ok (.iconst 1, 1) := by decide +kernel
theorem d_Mo_cover_81 : decode b_Mo_cover 81 = .ok (.iadd, 1) := by decide +kernel
theorem d_Mo_cover_82 : decode b_Mo_cover 82 = .ok (.if_icmp .gt 6, 3) := by decide +kernel
theorem d_Mo_cover_85 : decode b_Mo_cover 85 = .ok (.bipush (-3), 2) := by decide +kernel
theorem d_Mo_cover_87 : decode b_Mo_cover 87 = .ok (.ireturn, 1) := by decide +kernel
theorem d_Mo_cover_88 : decode b_Mo_cover 88 = .ok (.iinc 4 1, 3) := by decide +kernel
theorem d_Mo_cover_91 : decode b_Mo_cover 91 = .ok (.goto (-48), 3) := by decide +kernel
theorem d_Mo_cover_94 : decode b_Mo_cover 94 = .ok (.aload_n 0, 1) := by decide +kernel
theorem d_Mo_cover_95 : decode b_Mo_cover 95 = .ok (.getfield 44, 3) := by decide +kernel
theorem d_Mo_cover_98 : decode b_Mo_cover 98 = .ok (.iload_n 1, 1) := by decide +kernel
theorem d_Mo_cover_99 : decode b_Mo_cover 99 = .ok (.iaload, 1) := by decide +kernel
theorem d_Mo_cover_100 : decode b_Mo_cover 100 = .ok (.bipush 10, 2) := by decide +kernel
theorem d_Mo_cover_102 : decode b_Mo_cover 102 = .ok (.if_icmp .ne 6, 3) := by decide +kernel
theorem d_Mo_cover_105 : decode b_Mo_cover 105 = .ok (.bipush (-4), 2) := by decide +kernel
theorem d_Mo_cover_107 : decode b_Mo_cover 107 = .ok (.ireturn, 1) := by decide +kernel
theorem d_Mo_cover_108 : decode b_Mo_cover 108 = .ok (.aload_n 0, 1) := by decide +kernel
theorem d_Mo_cover_109 : decode b_Mo_cover 109 = .ok (.getfield 47, 3) := by decide +kernel
theorem d_Mo_cover_112 : decode b_Mo_cover 112 = .ok (.bipush 10, 2) := by decide +kernel
theorem d_Mo_cover_114 : decode b_Mo_cover 114 = .ok (.iload_n 1, 1) := by decide +kernel
theorem d_Mo_cover_115 : decode b_Mo_cover 115 = .ok (.imul, 1) := by decide +kernel
theorem d_Mo_cover_116 : decode b_Mo_cover 116 = .ok (.aload_n 0, 1) := by decide +kernel
theorem d_Mo_cover_117 : decode b_Mo_cover 117 = .ok (.getfield 44, 3) := by decide +kernel
theorem d_Mo_cover_120 : decode b_Mo_cover 120 = .ok (.iload_n 1, 1) := by decide +kernel
theorem d_Mo_cover_121 : decode b_Mo_cover 121 = .ok (.iaload, 1) := by decide +kernel
theorem d_Mo_cover_122 : decode b_Mo_cover 122 = .ok (.iadd, 1) := by decide +kernel
theorem d_Mo_cover_123 : decode b_Mo_cover 123 = .ok (.iload_n 2, 1) := by decide +kernel
theorem d_Mo_cover_124 : decode b_Mo_cover 124 = .ok (.iastore, 1) := by decide +kernel
theorem d_Mo_cover_125 : decode b_Mo_cover 125 = .ok (.aload_n 0, 1) := by decide +kernel
theorem d_Mo_cover_126 : decode b_Mo_cover 126 = .ok (.getfield 50, 3) := by decide +kernel
theorem d_Mo_cover_129 : decode b_Mo_cover 129 = .ok (.bipush 10, 2) := by decide +kernel
theorem d_Mo_cover_131 : decode b_Mo_cover 131 = .ok (.iload_n 1, 1) := by decide +kernel
theorem d_Mo_cover_132 : decode b_Mo_cover 132 = .ok (.imul, 1) := by decide +kernel
theorem d_Mo_cover_133 : decode b_Mo_cover 133 = .ok (.aload_n 0, 1) := by decide +kernel
theorem d_Mo_cover_134 : decode b_Mo_cover 134 = .ok (.getfield 44, 3) := by decide +kernel
theorem d_Mo_cover_137 : decode b_Mo_cover 137 = .ok (.iload_n 1, 1) := by decide +kernel
theorem d_Mo_cover_138 : decode b_Mo_cover 138 = .ok (.iaload, 1) := by decide +kernel
theorem d_Mo_cover_139 : decode b_Mo_cover 139 = .ok (.iadd, 1) := by decide +kernel
theorem d_Mo_cover_140 : decode b_Mo_cover 140 = .ok (.iload_n 3, 1) := by decide +kernel
theorem d_Mo_cover_141 : decode b_Mo_cover 141 = .ok (.iastore, 1) := by decide +kernel
theorem d_Mo_cover_142 : decode b_Mo_cover 142 = .ok (.aload_n 0, 1) := by decide +kernel
theorem d_Mo_cover_143 : decode b_Mo_cover 143 = .ok (.getfield 44, 3) := by decide +kernel
theorem d_Mo_cover_146 : decode b_Mo_cover 146 = .ok (.iload_n 1, 1) := by decide +kernel
theorem d_Mo_cover_147 : decode b_Mo_cover 147 = .ok (.dup2, 1) := by decide +kernel
theorem d_Mo_cover_148 : decode b_Mo_cover 148 = .ok (.iaload, 1) := by decide +kernel
theorem d_Mo_cover_149 : decode b_Mo_cover 149 = .ok (.iconst 1, 1) := by decide +kernel
theorem d_Mo_cover_150 : decode b_Mo_cover 150 = .ok (.iadd, 1) := by decide +kernel
theorem d_Mo_cover_151 : decode b_Mo_cover 151 = .ok (.iastore, 1) := by decide +kernel
theorem d_Mo_cover_152 : decode b_Mo_cover 152 = .ok (.aload_n 0, 1) := by decide +kernel
theorem d_Mo_cover_153 : decode b_Mo_cover 153 = .ok (.getfield 44, 3) := by decide +kernel
theorem d_Mo_cover_156 : decode b_Mo_cover 156 = .ok (.iload_n 1, 1) := by decide +kernel
theorem d_Mo_cover_157 : decode b_Mo_cover 157 = .ok (.iaload, 1) := by decide +kernel
theorem d_Mo_cover_158 : decode b_Mo_cover 158 = .ok (.ireturn, 1) := by decide +kernel
theorem d_Mo_embargo_0 : decode b_Mo_embargo 0 = .ok (.aload_n 0, 1) := by decide +kernel
theorem d_Mo_embargo_1 : decode b_Mo_embargo 1 = .ok (.iconst 0, 1) := by decide +kernel
theorem d_Mo_embargo_2 : decode b_Mo_embargo 2 = .ok (.putfield 90, 3) := by decide +kernel
theorem d_Mo_embargo_5 : decode b_Mo_embargo 5 = .ok (.aload_n 0, 1) := by decide +kernel
theorem d_Mo_embargo_6 : decode b_Mo_embargo 6 = .ok (.iload_n 1, 1) := by decide +kernel
theorem d_Mo_embargo_7 : decode b_Mo_embargo 7 = .ok (.invokevirtual 115, 3) := by decide +kernel
theorem d_Mo_embargo_10 : decode b_Mo_embargo 10 = .ok (.ifCond .ne 5, 3) := by decide +kernel
theorem d_Mo_embargo_13 : decode b_Mo_embargo 13 = .ok (.iconst (-1), 1) := by decide +kernel
theorem d_Mo_embargo_14 : decode b_Mo_embargo 14 = .ok (.ireturn, 1) := by decide +kernel
theorem d_Mo_embargo_15 : decode b_Mo_embargo 15 = .ok (.iload_n 2, 1) := by decide +kernel
theorem d_Mo_embargo_16 : decode b_Mo_embargo 16 = .ok (.iconst 0, 1) := by decide +kernel
theorem d_Mo_embargo_17 : decode b_Mo_embargo 17 = .ok (.bipush 120, 2) := by decide +kernel
theorem d_Mo_embargo_19 : decode b_Mo_embargo 19 = .ok (.invokestatic 94, 3) := by decide +kernel
theorem d_Mo_embargo_22 : decode b_Mo_embargo 22 = .ok (.ifCond .eq 10, 3) := by decide +kernel
theorem d_Mo_embargo_25 : decode b_Mo_embargo 25 = .ok (.iload_n 3, 1) := by decide +kernel
theorem d_Mo_embargo_26 : decode b_Mo_embargo 26 = .ok (.invokestatic 118, 3) := by decide +kernel
theorem d_Mo_embargo_29 : decode b_Mo_embargo 29 = .ok (.ifCond .ne 6, 3) := by decide +kernel
theorem d_Mo_embargo_32 : decode b_Mo_embargo 32 = .ok (.bipush (-2), 2) := by decide +kernel
theorem d_Mo_embargo_34 : decode b_Mo_embargo 34 = .ok (.ireturn, 1) := by decide +kernel
theorem d_Mo_embargo_35 : decode b_Mo_embargo 35 = .ok (.aload_n 0, 1) := by decide +kernel
theorem d_Mo_embargo_36 : decode b_Mo_embargo 36 = .ok (.getfield 41, 3) := by decide +kernel
theorem d_Mo_embargo_39 : decode b_Mo_embargo 39 = .ok (.iload_n 1, 1) := by decide +kernel
theorem d_Mo_embargo_40 : decode b_Mo_embargo 40 = .ok (.iload_n 2, 1) := by decide +kernel
theorem d_Mo_embargo_41 : decode b_Mo_embargo 41 = .ok (.iastore, 1) := by decide +kernel
theorem d_Mo_embargo_42 : decode b_Mo_embargo 42 = .ok (.iload_n 3, 1) := by decide +kernel
theorem d_Mo_embargo_43 : decode b_Mo_embargo 43 = .ok (.bipush 30, 2) := by decide +kernel
theorem d_Mo_embargo_45 : decode b_Mo_embargo 45 = .ok (.idiv, 1) := by decide +kernel
theorem d_Mo_embargo_46 : decode b_Mo_embargo 46 = .ok (.iload_n 2, 1) := by decide +kernel
theorem d_Mo_embargo_47 : decode b_Mo_embargo 47 = .ok (.isub, 1) := by decide +kernel
theorem d_Mo_embargo_48 : decode b_Mo_embargo 48 = .ok (.iconst 1, 1) := by decide +kernel
theorem d_Mo_embargo_49 : decode b_Mo_embargo 49 = .ok (.iadd, 1) := by decide +kernel
theorem d_Mo_embargo_50 : decode b_Mo_embargo 50 = .ok (.bipush 30, 2) := by decide +kernel
theorem d_Mo_embargo_52 : decode b_Mo_embargo 52 = .ok (.imul, 1) := by decide +kernel
theorem d_Mo_embargo_53 : decode b_Mo_embargo 53 = .ok (.istore 4, 2) := by decide +kernel
theorem d_Mo_embargo_55 : decode b_Mo_embargo 55 = .ok (.iload 4, 2) := by decide +kernel
theorem d_Mo_embargo_57 : decode b_Mo_embargo 57 = .ok (.ifCond .ge 7, 3) := by decide +kernel
theorem d_Mo_embargo_60 : decode b_Mo_embargo 60 = .ok (.iconst 0, 1) := by decide +kernel
theorem d_Mo_embargo_61 : decode b_Mo_embargo 61 = .ok (.goto 5, 3) := by decide +kernel
theorem d_Mo_embargo_64 : decode b_Mo_embargo 64 = .ok (.iload 4, 2) := by decide +kernel
theorem d_Mo_embargo_66 : decode b_Mo_embargo 66 = .ok (.ireturn, 1) := by decide +kernel
theorem d_Mo_rule_0 : decode b_Mo_rule 0 = .ok (.aload_n 0, 1) := by decide +kernel
theorem d_Mo_rule_1 : decode b_Mo_rule 1 = .ok (.iconst 0, 1) := by decide +kernel
theorem d_Mo_rule_2 : decode b_Mo_rule 2 = .ok (.putfield 90, 3) := by decide +kernel
theorem d_Mo_rule_5 : decode b_Mo_rule 5 = .ok (.aload_n 0, 1) := by decide +kernel
theorem d_Mo_rule_6 : decode b_Mo_rule 6 = .ok (.iload_n 1, 1) := by decide +kernel
theorem d_Mo_rule_7 : decode b_Mo_rule 7 = .ok (.invokevirtual 107, 3) := by decide +kernel
theorem d_Mo_rule_10 : decode b_Mo_rule 10 = .ok (.ifCond .ne 5, 3) := by decide +kernel
theorem d_Mo_rule_13 : decode b_Mo_rule 13 = .ok (.iconst (-1), 1) := by decide +kernel
theorem d_Mo_rule_14 : decode b_Mo_rule 14 = .ok (.ireturn, 1) := by decide +kernel
theorem d_Mo_rule_15 : decode b_Mo_rule 15 = .ok (.iload_n 2, 1) := by decide +kernel
theorem d_Mo_rule_16 : decode b_Mo_rule 16 = .ok (.iconst 0, 1) := by decide +kernel
theorem d_Mo_rule_17 : decode b_Mo_rule 17 = .ok (.iconst 3, 1) := by decide +kernel
theorem d_Mo_rule_18 : decode b_Mo_rule 18 = .ok (.invokestatic 94, 3) := by decide +kernel
theorem d_Mo_rule_21 : decode b_Mo_rule 21 = .ok (.ifCond .eq 51, 3) := by decide +kernel
theorem d_Mo_rule_24 : decode b_Mo_rule 24 = .ok (.iload_n 3, 1) := by decide +kernel
theorem d_Mo_rule_25 : decode b_Mo_rule 25 = .ok (.iconst 1, 1) := by decide +kernel
theorem d_Mo_rule_26 : decode b_Mo_rule 26 = .ok (.iconst 2, 1) := by decide +kernel
theorem d_Mo_rule_27 : decode b_Mo_rule 27 = .ok (.invokestatic 94, 3) := by decide +kernel
theorem d_Mo_rule_30 : decode b_Mo_rule 30 = .ok (.ifCond .eq 42, 3) := by decide +kernel
theorem d_Mo_rule_33 : decode b_Mo_rule 33 = .ok (.iload_n 2, 1) := by decide +kernel
theorem d_Mo_rule_34 : decode b_Mo_rule 34 = .ok (.iconst 1, 1) := by decide +kernel
theorem d_Mo_rule_35 : decode b_Mo_rule 35 = .ok (.if_icmp .eq 33, 3) := by decide +kernel
theorem d_Mo_rule_38 : decode b_Mo_rule 38 = .ok (.iload 4, 2) := by decide +kernel
theorem d_Mo_rule_40 : decode b_Mo_rule 40 = .ok (.iconst 0, 1) := by decide +kernel
theorem d_Mo_rule_41 : decode b_Mo_rule 41 = .ok (.iload_n 2, 1) := by decide +kernel
theorem d_Mo_rule_42 : decode b_Mo_rule 42 = .ok (.ifCond .ne 8, 3) := by decide +kernel
theorem d_Mo_rule_45 : decode b_Mo_rule 45 = .ok (.bipush 9, 2) := by decide +kernel
theorem d_Mo_rule_47 : decode b_Mo_rule 47 = .ok (.goto 15, 3) := by decide +kernel
theorem d_Mo_rule_50 : decode b_Mo_rule 50 = .ok (.iload_n 2, 1) := by decide +kernel
theorem d_Mo_rule_51 : decode b_Mo_rule 51 = .ok (.iconst 2, 1) := by decide +kernel
theorem d_Mo_rule_52 : decode b_Mo_rule 52 = .ok (.if_icmp .ne 8, 3) := by decide +kernel
theorem d_Mo_rule_55 : decode b_Mo_rule 55 = .ok (.bipush 127, 2) := by decide +kernel
theorem d_Mo_rule_57 : decode b_Mo_rule 57 = .ok (.goto 5, 3) := by decide +kernel
theorem d_Mo_rule_60 : decode b_Mo_rule 60 = .ok (.ldc 121, 2) := by decide +kernel
theorem d_Mo_rule_62 : decode b_Mo_rule 62 = .ok (.invokestatic 94, 3) := by decide +kernel
theorem d_Mo_rule_65 : decode b_Mo_rule 65 = .ok (.ifCond .eq 7, 3) := by decide +kernel
theorem d_Mo_rule_68 : decode b_Mo_rule 68 = .ok (.iconst 1, 1) := by decide +kernel
theorem d_Mo_rule_69 : decode b_Mo_rule 69 = .ok (.goto 4, 3) := by decide +kernel
theorem d_Mo_rule_72 : decode b_Mo_rule 72 = .ok (.iconst 0, 1) := by decide +kernel
theorem d_Mo_rule_73 : decode b_Mo_rule 73 = .ok (.istore 5, 2) := by decide +kernel
theorem d_Mo_rule_75 : decode b_Mo_rule 75 = .ok (.iload 5, 2) := by decide +kernel
theorem d_Mo_rule_77 : decode b_Mo_rule 77 = .ok (.ifCond .ne 6, 3) := by decide +kernel
theorem d_Mo_rule_80 : decode b_Mo_rule 80 = .ok (.bipush (-2), 2) := by decide +kernel
theorem d_Mo_rule_82 : decode b_Mo_rule 82 = .ok (.ireturn, 1) := by decide +kernel
theorem d_Mo_rule_83 : decode b_Mo_rule 83 = .ok (.aload_n 0, 1) := by decide +kernel
theorem d_Mo_rule_84 : decode b_Mo_rule 84 = .ok (.getfield 122, 3) := by decide +kernel
theorem d_Mo_rule_87 : decode b_Mo_rule 87 = .ok (.bipush 100, 2) := by decide +kernel
theorem d_Mo_rule_89 : decode b_Mo_rule 89 = .ok (.if_icmp .ne 6, 3) := by decide +kernel
theorem d_Mo_rule_92 : decode b_Mo_rule 92 = .ok (.bipush (-4), 2) := by decide +kernel
theorem d_Mo_rule_94 : decode b_Mo_rule 94 = .ok (.ireturn, 1) := by decide +kernel
theorem d_Mo_rule_95 : decode b_Mo_rule 95 = .ok (.aload_n 0, 1) := by decide +kernel
theorem d_Mo_rule_96 : decode b_Mo_rule 96 = .ok (.getfield 53, 3) := by decide +kernel
theorem d_Mo_rule_99 : decode b_Mo_rule 99 = .ok (.aload_n 0, 1) := by decide +kernel
theorem d_Mo_rule_100 : decode b_Mo_rule 100 = .ok (.getfield 122, 3) := by decide +kernel
theorem d_Mo_rule_103 : decode b_Mo_rule 103 = .ok (.iload_n 1, 1) := by decide +kernel
theorem d_Mo_rule_104 : decode b_Mo_rule 104 = .ok (.iastore, 1) := by decide +kernel
theorem d_Mo_rule_105 : decode b_Mo_rule 105 = .ok (.aload_n 0, 1) := by decide +kernel
theorem d_Mo_rule_106 : decode b_Mo_rule 106 = .ok (.getfield 56, 3) := by decide +kernel
theorem d_Mo_rule_109 : decode b_Mo_rule 109 = .ok (.aload_n 0, 1) := by decide +kernel
theorem d_Mo_rule_110 : decode b_Mo_rule 110 = .ok (.getfield 122, 3) := by decide +kernel
theorem d_Mo_rule_113 : decode b_Mo_rule 113 = .ok (.iload_n 2, 1) := by decide +kernel
theorem d_Mo_rule_114 : decode b_Mo_rule 114 = .ok (.iastore, 1) := by decide +kernel
theorem d_Mo_rule_115 : decode b_Mo_rule 115 = .ok (.aload_n 0, 1) := by decide +kernel
theorem d_Mo_rule_116 : decode b_Mo_rule 116 = .ok (.getfield 59, 3) := by decide +kernel
theorem d_Mo_rule_119 : decode b_Mo_rule 119 = .ok (.aload_n 0, 1) := by decide +kernel
theorem d_Mo_rule_120 : decode b_Mo_rule 120 = .ok (.getfield 122, 3) := by decide +kernel
theorem d_Mo_rule_123 : decode b_Mo_rule 123 = .ok (.iload_n 3, 1) := by decide +kernel
theorem d_Mo_rule_124 : decode b_Mo_rule 124 = .ok (.iastore, 1) := by decide +kernel
theorem d_Mo_rule_125 : decode b_Mo_rule 125 = .ok (.aload_n 0, 1) := by decide +kernel
theorem d_Mo_rule_126 : decode b_Mo_rule 126 = .ok (.getfield 62, 3) := by decide +kernel
theorem d_Mo_rule_129 : decode b_Mo_rule 129 = .ok (.aload_n 0, 1) := by decide +kernel
theorem d_Mo_rule_130 : decode b_Mo_rule 130 = .ok (.getfield 122, 3) := by decide +kernel
theorem d_Mo_rule_133 : decode b_Mo_rule 133 = .ok (.iload 4, 2) := by decide +kernel
theorem d_Mo_rule_135 : decode b_Mo_rule 135 = .ok (.iastore, 1) := by decide +kernel
theorem d_Mo_rule_136 : decode b_Mo_rule 136 = .ok (.aload_n 0, 1) := by decide +kernel
theorem d_Mo_rule_137 : decode b_Mo_rule 137 = .ok (.dup, 1) := by decide +kernel
theorem d_Mo_rule_138 : decode b_Mo_rule 138 = .ok (.getfield 122, 3) := by decide +kernel
theorem d_Mo_rule_141 : decode b_Mo_rule 141 = .ok (.iconst 1, 1) := by decide +kernel
theorem d_Mo_rule_142 : decode b_Mo_rule 142 = .ok (.iadd, 1) := by decide +kernel
theorem d_Mo_rule_143 : decode b_Mo_rule 143 = .ok (.putfield 122, 3) := by decide +kernel
theorem d_Mo_rule_146 : decode b_Mo_rule 146 = .ok (.aload_n 0, 1) := by decide +kernel
theorem d_Mo_rule_147 : decode b_Mo_rule 147 = .ok (.getfield 122, 3) := by decide +kernel
theorem d_Mo_rule_150 : decode b_Mo_rule 150 = .ok (.iconst 1, 1) := by decide +kernel
theorem d_Mo_rule_151 : decode b_Mo_rule 151 = .ok (.isub, 1) := by decide +kernel
theorem d_Mo_rule_152 : decode b_Mo_rule 152 = .ok (.ireturn, 1) := by decide +kernel
theorem d_Mo_fails_0 : decode b_Mo_fails 0 = .ok (.aload_n 0, 1) := by decide +kernel
theorem d_Mo_fails_1 : decode b_Mo_fails 1 = .ok (.iconst 0, 1) := by decide +kernel
theorem d_Mo_fails_2 : decode b_Mo_fails 2 = .ok (.putfield 90, 3) := by decide +kernel
theorem d_Mo_fails_5 : decode b_Mo_fails 5 = .ok (.iload_n 1, 1) := by decide +kernel
theorem d_Mo_fails_6 : decode b_Mo_fails 6 = .ok (.iconst 0, 1) := by decide +kernel
theorem d_Mo_fails_7 : decode b_Mo_fails 7 = .ok (.aload_n 0, 1) := by decide +kernel
theorem d_Mo_fails_8 : decode b_Mo_fails 8 = .ok (.getfield 122, 3) := by decide +kernel
theorem d_Mo_fails_11 : decode b_Mo_fails 11 = .ok (.iconst 1, 1) := by decide +kernel
theorem d_Mo_fails_12 : decode b_Mo_fails 12 = .ok (.isub, 1) := by decide +kernel
theorem d_Mo_fails_13 : decode b_Mo_fails 13 = .ok (.invokestatic 94, 3) := by decide +kernel
theorem d_Mo_fails_16 : decode b_Mo_fails 16 = .ok (.ifCond .ne 5, 3) := by decide +kernel
theorem d_Mo_fails_19 : decode b_Mo_fails 19 = .ok (.iconst (-1), 1) := by decide +kernel
theorem d_Mo_fails_20 : decode b_Mo_fails 20 = .ok (.ireturn, 1) := by decide +kernel
theorem d_Mo_fails_21 : decode b_Mo_fails 21 = .ok (.aload_n 0, 1) := by decide +kernel
theorem d_Mo_fails_22 : decode b_Mo_fails 22 = .ok (.getfield 65, 3) := by decide +kernel
theorem d_Mo_fails_25 : decode b_Mo_fails 25 = .ok (.iload_n 1, 1) := by decide +kernel
theorem d_Mo_fails_26 : decode b_Mo_fails 26 = .ok (.iload_n 2, 1) := by decide +kernel
theorem d_Mo_fails_27 : decode b_Mo_fails 27 = .ok (.bastore, 1) := by decide +kernel
theorem d_Mo_fails_28 : decode b_Mo_fails 28 = .ok (.iconst 1, 1) := by decide +kernel
theorem d_Mo_fails_29 : decode b_Mo_fails 29 = .ok (.ireturn, 1) := by decide +kernel
theorem d_Mo_reader_0 : decode b_Mo_reader 0 = .ok (.aload_n 0, 1) := by decide +kernel
theorem d_Mo_reader_1 : decode b_Mo_reader 1 = .ok (.iconst 0, 1) := by decide +kernel
theorem d_Mo_reader_2 : decode b_Mo_reader 2 = .ok (.putfield 90, 3) := by decide +kernel
theorem d_Mo_reader_5 : decode b_Mo_reader 5 = .ok (.iload_n 1, 1) := by decide +kernel
theorem d_Mo_reader_6 : decode b_Mo_reader 6 = .ok (.iconst 0, 1) := by decide +kernel
theorem d_Mo_reader_7 : decode b_Mo_reader 7 = .ok (.bipush 99, 2) := by decide +kernel
theorem d_Mo_reader_9 : decode b_Mo_reader 9 = .ok (.invokestatic 94, 3) := by decide +kernel
theorem d_Mo_reader_12 : decode b_Mo_reader 12 = .ok (.ifCond .ne 5, 3) := by decide +kernel
theorem d_Mo_reader_15 : decode b_Mo_reader 15 = .ok (.iconst (-1), 1) := by decide +kernel
theorem d_Mo_reader_16 : decode b_Mo_reader 16 = .ok (.ireturn, 1) := by decide +kernel
theorem d_Mo_reader_17 : decode b_Mo_reader 17 = .ok (.iload_n 2, 1) := by decide +kernel
theorem d_Mo_reader_18 : decode b_Mo_reader 18 = .ok (.iconst 0, 1) := by decide +kernel
theorem d_Mo_reader_19 : decode b_Mo_reader 19 = .ok (.bipush 9, 2) := by decide +kernel
theorem d_Mo_reader_21 : decode b_Mo_reader 21 = .ok (.invokestatic 94, 3) := by decide +kernel
theorem d_Mo_reader_24 : decode b_Mo_reader 24 = .ok (.ifCond .ne 6, 3) := by decide +kernel
theorem d_Mo_reader_27 : decode b_Mo_reader 27 = .ok (.bipush (-2), 2) := by decide +kernel
theorem d_Mo_reader_29 : decode b_Mo_reader 29 = .ok (.ireturn, 1) := by decide +kernel
theorem d_Mo_reader_30 : decode b_Mo_reader 30 = .ok (.aload_n 0, 1) := by decide +kernel
theorem d_Mo_reader_31 : decode b_Mo_reader 31 = .ok (.getfield 72, 3) := by decide +kernel
theorem d_Mo_reader_34 : decode b_Mo_reader 34 = .ok (.iload_n 1, 1) := by decide +kernel
theorem d_Mo_reader_35 : decode b_Mo_reader 35 = .ok (.iload_n 2, 1) := by decide +kernel
theorem d_Mo_reader_36 : decode b_Mo_reader 36 = .ok (.iastore, 1) := by decide +kernel
theorem d_Mo_reader_37 : decode b_Mo_reader 37 = .ok (.iconst 1, 1) := by decide +kernel
theorem d_Mo_reader_38 : decode b_Mo_reader 38 = .ok (.ireturn, 1) := by decide +kernel
theorem d_Mo_placeIn_0 : decode b_Mo_placeIn 0 = .ok (.iconst 0, 1) := by decide +kernel
theorem d_Mo_placeIn_1 : decode b_Mo_placeIn 1 = .ok (.istore_n 3, 1) := by decide +kernel
theorem d_Mo_placeIn_2 : decode b_Mo_placeIn 2 = .ok (.iload_n 3, 1) := by decide +kernel
theorem d_Mo_placeIn_3 : decode b_Mo_placeIn 3 = .ok (.aload_n 0, 1) := by decide +kernel
theorem d_Mo_placeIn_4 : decode b_Mo_placeIn 4 = .ok (.getfield 20, 3) := by decide +kernel
theorem d_Mo_placeIn_7 : decode b_Mo_placeIn 7 = .ok (.iload_n 1, 1) := by decide +kernel
theorem d_Mo_placeIn_8 : decode b_Mo_placeIn 8 = .ok (.iaload, 1) := by decide +kernel
theorem d_Mo_placeIn_9 : decode b_Mo_placeIn 9 = .ok (.if_icmp .ge 26, 3) := by decide +kernel
theorem d_Mo_placeIn_12 : decode b_Mo_placeIn 12 = .ok (.aload_n 0, 1) := by decide +kernel
theorem d_Mo_placeIn_13 : decode b_Mo_placeIn 13 = .ok (.getfield 23, 3) := by decide +kernel
theorem d_Mo_placeIn_16 : decode b_Mo_placeIn 16 = .ok (.bipush 100, 2) := by decide +kernel
theorem d_Mo_placeIn_18 : decode b_Mo_placeIn 18 = .ok (.iload_n 1, 1) := by decide +kernel
theorem d_Mo_placeIn_19 : decode b_Mo_placeIn 19 = .ok (.imul, 1) := by decide +kernel
theorem d_Mo_placeIn_20 : decode b_Mo_placeIn 20 = .ok (.iload_n 3, 1) := by decide +kernel
theorem d_Mo_placeIn_21 : decode b_Mo_placeIn 21 = .ok (.iadd, 1) := by decide +kernel
theorem d_Mo_placeIn_22 : decode b_Mo_placeIn 22 = .ok (.iaload, 1) := by decide +kernel
theorem d_Mo_placeIn_23 : decode b_Mo_placeIn 23 = .ok (.iload_n 2, 1) := by decide +kernel
theorem d_Mo_placeIn_24 : decode b_Mo_placeIn 24 = .ok (.if_icmp .ne 5, 3) := by decide +kernel
theorem d_Mo_placeIn_27 : decode b_Mo_placeIn 27 = .ok (.iload_n 3, 1) := by decide +kernel
theorem d_Mo_placeIn_28 : decode b_Mo_placeIn 28 = .ok (.ireturn, 1) := by decide +kernel
theorem d_Mo_placeIn_29 : decode b_Mo_placeIn 29 = .ok (.iinc 3 1, 3) := by decide +kernel
theorem d_Mo_placeIn_32 : decode b_Mo_placeIn 32 = .ok (.goto (-30), 3) := by decide +kernel
theorem d_Mo_placeIn_35 : decode b_Mo_placeIn 35 = .ok (.iconst (-1), 1) := by decide +kernel
theorem d_Mo_placeIn_36 : decode b_Mo_placeIn 36 = .ok (.ireturn, 1) := by decide +kernel
theorem d_Mo_placeWaiting_0 : decode b_Mo_placeWaiting 0 = .ok (.iconst 0, 1) := by decide +kernel
theorem d_Mo_placeWaiting_1 : decode b_Mo_placeWaiting 1 = .ok (.istore_n 3, 1) := by decide +kernel
theorem d_Mo_placeWaiting_2 : decode b_Mo_placeWaiting 2 = .ok (.iload_n 3, 1) := by decide +kernel
theorem d_Mo_placeWaiting_3 : decode b_Mo_placeWaiting 3 = .ok (.aload_n 0, 1) := by decide +kernel
theorem d_Mo_placeWaiting_4 : decode b_Mo_placeWaiting 4 = .ok (.getfield 26, 3) := by decide +kernel
theorem d_Mo_placeWaiting_7 : decode b_Mo_placeWaiting 7 = .ok (.iload_n 1, 1) := by decide +kernel
theorem d_Mo_placeWaiting_8 : decode b_Mo_placeWaiting 8 = .ok (.iaload, 1) := by decide +kernel
theorem d_Mo_placeWaiting_9 : decode b_Mo_placeWaiting 9 = .ok (.if_icmp .ge 26, 3) := by decide +kernel
theorem d_Mo_placeWaiting_12 : decode b_Mo_placeWaiting 12 = .ok (.aload_n 0, 1) := by decide +kernel
theorem d_Mo_placeWaiting_13 : decode b_Mo_placeWaiting 13 = .ok (.getfield 29, 3) := by decide +kernel
theorem d_Mo_placeWaiting_16 : decode b_Mo_placeWaiting 16 = .ok (.bipush 100, 2) := by decide +kernel
theorem d_Mo_placeWaiting_18 : decode b_Mo_placeWaiting 18 = .ok (.iload_n 1, 1) := by decide +kernel
theorem d_Mo_placeWaiting_19 : decode b_Mo_placeWaiting 19 = .ok (.imul, 1) := by decide +kernel
theorem d_Mo_placeWaiting_20 : decode b_Mo_placeWaiting 20 = .ok (.iload_n 3, 1) := by decide +kernel
theorem d_Mo_placeWaiting_21 : decode b_Mo_placeWaiting 21 = .ok (.iadd, 1) := by decide +kernel
theorem d_Mo_placeWaiting_22 : decode b_Mo_placeWaiting 22 = .ok (.iaload, 1) := by decide +kernel
theorem d_Mo_placeWaiting_23 : decode b_Mo_placeWaiting 23 = .ok (.iload_n 2, 1) := by decide +kernel
theorem d_Mo_placeWaiting_24 : decode b_Mo_placeWaiting 24 = .ok (.if_icmp .ne 5, 3) := by decide +kernel
theorem d_Mo_placeWaiting_27 : decode b_Mo_placeWaiting 27 = .ok (.iload_n 3, 1) := by decide +kernel
theorem d_Mo_placeWaiting_28 : decode b_Mo_placeWaiting 28 = .ok (.ireturn, 1) := by decide +kernel
theorem d_Mo_placeWaiting_29 : decode b_Mo_placeWaiting 29 = .ok (.iinc 3 1, 3) := by decide +kernel
theorem d_Mo_placeWaiting_32 : decode b_Mo_placeWaiting 32 = .ok (.goto (-30), 3) := by decide +kernel
theorem d_Mo_placeWaiting_35 : decode b_Mo_placeWaiting 35 = .ok (.iconst (-1), 1) := by decide +kernel
theorem d_Mo_placeWaiting_36 : decode b_Mo_placeWaiting 36 = .ok (.ireturn, 1) := by decide +kernel
def f_Mo_cover_b43 : Nat → Nat → Int32 → Int32 → Int32 → Int32 → mm → Option (Int32 × mm)
  | 0, _, _, _, _, _, _ => none
  | n + 1, v0, v1, v2, v3, v4, M =>
    (gR 1 14 M v0).bind fun x1 =>
    (aI M x1 v1).bind fun x2 =>
    if ((10 * v1) + x2) ≤ v4 then
      (gR 1 14 M v0).bind fun x4 =>
      (aI M x4 v1).bind fun x5 =>
      if x5 = 10 then
        some ((-4), M)
      else
        (gR 1 15 M v0).bind fun x7 =>
        (gR 1 14 M v0).bind fun x8 =>
        (aI M x8 v1).bind fun x9 =>
        (sI v2 M x7 ((10 * v1) + x9)).bind fun M10 =>
        (gR 1 16 M10 v0).bind fun x11 =>
        (gR 1 14 M10 v0).bind fun x12 =>
        (aI M10 x12 v1).bind fun x13 =>
        (sI v3 M10 x11 ((10 * v1) + x13)).bind fun M14 =>
        (gR 1 14 M14 v0).bind fun x15 =>
        (aI M14 x15 v1).bind fun x16 =>
        (sI (x16 + 1) M14 x15 v1).bind fun M17 =>
        (gR 1 14 M17 v0).bind fun x18 =>
        (aI M17 x18 v1).bind fun x19 =>
        some (x19, M17)
    else
      (gR 1 16 M v0).bind fun x20 =>
      (aI M x20 v4).bind fun x21 =>
      if (x21 + 1) < v2 then
        f_Mo_cover_b43 n v0 v1 v2 v3 (v4 + 1) M
      else
        (gR 1 15 M v0).bind fun x23 =>
        (aI M x23 v4).bind fun x24 =>
        if (v3 + 1) < x24 then
          f_Mo_cover_b43 n v0 v1 v2 v3 (v4 + 1) M
        else
          some ((-3), M)
def f_Mo_cover (v0 : Nat) (v1 : Int32) (v2 : Int32) (v3 : Int32) (M : mm) : Option (Int32 × mm) :=
    (pF 1 0 (.int 0) M v0).bind fun M26 =>
    (kO 1 M26 v0).bind fun _ =>
    (f_Mo_isTitle v0 v1 M26).bind fun (x27, M27) =>
    if x27 = 0 then
      some ((-1), M27)
    else
      (f_Mo_isDay v2 M27).bind fun (x30, M30) =>
      if x30 = 0 then
        some ((-2), M30)
      else
        (f_Mo_isDay v3 M30).bind fun (x32, M32) =>
        if x32 = 0 then
          some ((-2), M32)
        else
          if v2 ≤ v3 then
            f_Mo_cover_b43 FU v0 v1 v2 v3 (10 * v1) M32
          else
            some ((-2), M32)
set_option maxHeartbeats 4000000 in
set_option maxRecDepth 100000 in
theorem w_Mo_cover_b43 {p : Program} {l : Launch} {e : Env} {s : State} {m : MethodId} {args : Array Value} {below : List Frame} {meth : Method} {c : Code} {D : va_G} {dA : Nat → ClassId} {M0 M' : mm} {r : Int32} (C : mm_C p s m args meth c b_Mo_cover 5 (some .int) R_Mo D dA (mm_A M0)) : ∀ (n : Nat), ∀ (v0 : Nat) (v1 : Int32) (v2 : Int32) (v3 : Int32) (v4 : Int32) (M : mm) (H : Heap) (locs : List Loc) (ls : Array Slot), f_Mo_cover_b43 n v0 v1 v2 v3 v4 M = some (r, M') → mm_W D dA (mm_A M0) M H → va_S (mm_A M0) s.heap H locs → lv_has ls 5 [(0, .ref v0), (1, .int v1), (2, .int v2), (3, .int v3), (4, .int v4)] → W p l e rm_Mo_cover s m args below meth c H locs 0 0 (MQ below (mm_QI D dA M0 r M') args s 0 0 (mm_A M0)) (F0 m 43 ls []) := by
  obtain ⟨hx, hb, hr, hml, hown, hts, hlocks, hK, hA⟩ := id C
  intro n
  induction n with
  | zero =>
    intro v0 v1 v2 v3 v4 M H locs ls h hW hS hl
    unfold f_Mo_cover_b43 at h
    cases h
  | succ n ih =>
    intro v0 v1 v2 v3 v4 M H locs ls h hW hS hl
    unfold f_Mo_cover_b43 at h
    refine lv_iload hx hb d_Mo_cover_43 (lv_at hl 4 rfl) ?_
    refine lv_bipush (v := 10) hx hb d_Mo_cover_45 (by decide) ?_
    refine lv_iload_n hx hb d_Mo_cover_47 rfl (lv_at hl 1 rfl) ?_
    refine lv_imul hx hb d_Mo_cover_48 ?_
    refine lv_aload_n hx hb d_Mo_cover_49 rfl (lv_at hl 0 rfl) ?_
    obtain ⟨x1, e1, h⟩ := ob h
    refine mr_gR C hW k_Mo_44 e1 d_Mo_cover_50 ?_
    refine lv_iload_n hx hb d_Mo_cover_53 rfl (lv_at hl 1 rfl) ?_
    obtain ⟨x2, e2, h⟩ := ob h
    refine mr_aI C hW e2 d_Mo_cover_54 ?_
    refine lv_iadd hx hb d_Mo_cover_55 ?_
    refine lv_icmp_ge (tgt := 94) hx hb d_Mo_cover_56 (by decide) (fun c3 => ?_) (fun c3 => ?_)
    · have h := ifp h c3
      refine lv_aload_n hx hb d_Mo_cover_94 rfl (lv_at hl 0 rfl) ?_
      obtain ⟨x4, e4, h⟩ := ob h
      refine mr_gR C hW k_Mo_44 e4 d_Mo_cover_95 ?_
      refine lv_iload_n hx hb d_Mo_cover_98 rfl (lv_at hl 1 rfl) ?_
      obtain ⟨x5, e5, h⟩ := ob h
      refine mr_aI C hW e5 d_Mo_cover_99 ?_
      refine lv_bipush (v := 10) hx hb d_Mo_cover_100 (by decide) ?_
      refine lv_icmp_ne (tgt := 108) hx hb d_Mo_cover_102 (by decide) (fun c6 => ?_) (fun c6 => ?_)
      · have h := ifn h c6
        refine lv_aload_n hx hb d_Mo_cover_108 rfl (lv_at hl 0 rfl) ?_
        obtain ⟨x7, e7, h⟩ := ob h
        refine mr_gR C hW k_Mo_47 e7 d_Mo_cover_109 ?_
        refine lv_bipush (v := 10) hx hb d_Mo_cover_112 (by decide) ?_
        refine lv_iload_n hx hb d_Mo_cover_114 rfl (lv_at hl 1 rfl) ?_
        refine lv_imul hx hb d_Mo_cover_115 ?_
        refine lv_aload_n hx hb d_Mo_cover_116 rfl (lv_at hl 0 rfl) ?_
        obtain ⟨x8, e8, h⟩ := ob h
        refine mr_gR C hW k_Mo_44 e8 d_Mo_cover_117 ?_
        refine lv_iload_n hx hb d_Mo_cover_120 rfl (lv_at hl 1 rfl) ?_
        obtain ⟨x9, e9, h⟩ := ob h
        refine mr_aI C hW e9 d_Mo_cover_121 ?_
        refine lv_iadd hx hb d_Mo_cover_122 ?_
        refine lv_iload_n hx hb d_Mo_cover_123 rfl (lv_at hl 2 rfl) ?_
        obtain ⟨M10, e10, h⟩ := ob h
        refine mr_sI C hW hS e10 d_Mo_cover_124 (fun H locs hW hS => ?_)
        refine lv_aload_n hx hb d_Mo_cover_125 rfl (lv_at hl 0 rfl) ?_
        obtain ⟨x11, e11, h⟩ := ob h
        refine mr_gR C hW k_Mo_50 e11 d_Mo_cover_126 ?_
        refine lv_bipush (v := 10) hx hb d_Mo_cover_129 (by decide) ?_
        refine lv_iload_n hx hb d_Mo_cover_131 rfl (lv_at hl 1 rfl) ?_
        refine lv_imul hx hb d_Mo_cover_132 ?_
        refine lv_aload_n hx hb d_Mo_cover_133 rfl (lv_at hl 0 rfl) ?_
        obtain ⟨x12, e12, h⟩ := ob h
        refine mr_gR C hW k_Mo_44 e12 d_Mo_cover_134 ?_
        refine lv_iload_n hx hb d_Mo_cover_137 rfl (lv_at hl 1 rfl) ?_
        obtain ⟨x13, e13, h⟩ := ob h
        refine mr_aI C hW e13 d_Mo_cover_138 ?_
        refine lv_iadd hx hb d_Mo_cover_139 ?_
        refine lv_iload_n hx hb d_Mo_cover_140 rfl (lv_at hl 3 rfl) ?_
        obtain ⟨M14, e14, h⟩ := ob h
        refine mr_sI C hW hS e14 d_Mo_cover_141 (fun H locs hW hS => ?_)
        refine lv_aload_n hx hb d_Mo_cover_142 rfl (lv_at hl 0 rfl) ?_
        obtain ⟨x15, e15, h⟩ := ob h
        refine mr_gR C hW k_Mo_44 e15 d_Mo_cover_143 ?_
        refine lv_iload_n hx hb d_Mo_cover_146 rfl (lv_at hl 1 rfl) ?_
        refine lv_dup2_11 hx hb d_Mo_cover_147 rfl rfl ?_
        obtain ⟨x16, e16, h⟩ := ob h
        refine mr_aI C hW e16 d_Mo_cover_148 ?_
        refine lv_iconst (v := 1) hx hb d_Mo_cover_149 (by decide) ?_
        refine lv_iadd hx hb d_Mo_cover_150 ?_
        obtain ⟨M17, e17, h⟩ := ob h
        refine mr_sI C hW hS e17 d_Mo_cover_151 (fun H locs hW hS => ?_)
        refine lv_aload_n hx hb d_Mo_cover_152 rfl (lv_at hl 0 rfl) ?_
        obtain ⟨x18, e18, h⟩ := ob h
        refine mr_gR C hW k_Mo_44 e18 d_Mo_cover_153 ?_
        refine lv_iload_n hx hb d_Mo_cover_156 rfl (lv_at hl 1 rfl) ?_
        obtain ⟨x19, e19, h⟩ := ob h
        refine mr_aI C hW e19 d_Mo_cover_157 ?_
        exact mr_iret C hW hS (Nat.le_of_ble_eq_true rfl) (Nat.le_of_ble_eq_true rfl) h d_Mo_cover_158
      · have h := ifp h c6
        refine lv_bipush (v := (-4)) hx hb d_Mo_cover_105 (by decide) ?_
        exact mr_iret C hW hS (Nat.le_of_ble_eq_true rfl) (Nat.le_of_ble_eq_true rfl) h d_Mo_cover_107
    · have h := ifn h c3
      refine lv_iload_n hx hb d_Mo_cover_59 rfl (lv_at hl 2 rfl) ?_
      refine lv_aload_n hx hb d_Mo_cover_60 rfl (lv_at hl 0 rfl) ?_
      obtain ⟨x20, e20, h⟩ := ob h
      refine mr_gR C hW k_Mo_50 e20 d_Mo_cover_61 ?_
      refine lv_iload hx hb d_Mo_cover_64 (lv_at hl 4 rfl) ?_
      obtain ⟨x21, e21, h⟩ := ob h
      refine mr_aI C hW e21 d_Mo_cover_66 ?_
      refine lv_iconst (v := 1) hx hb d_Mo_cover_67 (by decide) ?_
      refine lv_iadd hx hb d_Mo_cover_68 ?_
      refine lv_icmp_gt (tgt := 88) hx hb d_Mo_cover_69 (by decide) (fun c22 => ?_) (fun c22 => ?_)
      · have h := ifp h c22
        refine lv_iinc (v := v4 + 1) (lv' := [(4, .int (v4 + 1)), (0, .ref v0), (1, .int v1), (2, .int v2), (3, .int v3)]) hx hb d_Mo_cover_88 hl (k := 4) rfl rfl (by decide) rfl (fun ls hl => ?_)
        refine lv_goto (tgt := 43) hx hb d_Mo_cover_91 (by decide) ?_
        exact ih _ _ _ _ _ _ _ _ _ h hW hS (lv_sub hl [1, 2, 3, 4, 0] rfl)
      · have h := ifn h c22
        refine lv_aload_n hx hb d_Mo_cover_72 rfl (lv_at hl 0 rfl) ?_
        obtain ⟨x23, e23, h⟩ := ob h
        refine mr_gR C hW k_Mo_47 e23 d_Mo_cover_73 ?_
        refine lv_iload hx hb d_Mo_cover_76 (lv_at hl 4 rfl) ?_
        obtain ⟨x24, e24, h⟩ := ob h
        refine mr_aI C hW e24 d_Mo_cover_78 ?_
        refine lv_iload_n hx hb d_Mo_cover_79 rfl (lv_at hl 3 rfl) ?_
        refine lv_iconst (v := 1) hx hb d_Mo_cover_80 (by decide) ?_
        refine lv_iadd hx hb d_Mo_cover_81 ?_
        refine lv_icmp_gt (tgt := 88) hx hb d_Mo_cover_82 (by decide) (fun c25 => ?_) (fun c25 => ?_)
        · have h := ifp h c25
          refine lv_iinc (v := v4 + 1) (lv' := [(4, .int (v4 + 1)), (0, .ref v0), (1, .int v1), (2, .int v2), (3, .int v3)]) hx hb d_Mo_cover_88 hl (k := 4) rfl rfl (by decide) rfl (fun ls hl => ?_)
          refine lv_goto (tgt := 43) hx hb d_Mo_cover_91 (by decide) ?_
          exact ih _ _ _ _ _ _ _ _ _ h hW hS (lv_sub hl [1, 2, 3, 4, 0] rfl)
        · have h := ifn h c25
          refine lv_bipush (v := (-3)) hx hb d_Mo_cover_85 (by decide) ?_
          exact mr_iret C hW hS (Nat.le_of_ble_eq_true rfl) (Nat.le_of_ble_eq_true rfl) h d_Mo_cover_87
set_option maxHeartbeats 4000000 in
set_option maxRecDepth 100000 in
theorem c_Mo_cover (l : Launch) (D : va_G) (dA : Nat → ClassId) (M0 M' : mm) (r : Int32) (v0 : Nat) (v1 : Int32) (v2 : Int32) (v3 : Int32) (h : f_Mo_cover v0 v1 v2 v3 M0 = some (r, M')) : Met l y_Mo_cover w_Mo_cover rm_Mo_cover (mm_Pre D dA M0 [.ref v0, .int v1, .int v2, .int v3]) (mm_QI D dA M0 r M') 0 0 (mm_A M0) := by
  refine Met.ofW (cc := b_Mo_cover) (maxL := 5) (ret := (some .int)) (by decide) rfl ?_
  intro p e s m args below meth c s₁ B hml hv
  obtain ⟨rfl, hW, hK⟩ := hv
  have C : mm_C p s m _ meth c b_Mo_cover 5 (some .int) R_Mo D dA (mm_A M0) := ⟨B.exec, B.bytes, B.returns, hml, findClass_of_methodNamed B.named, fun w hw => atoms_spec (ws := w_Mo_cover) B.pre w (List.mem_cons_of_mem _ hw), B.notSynchronized, hK, fun q hq => Or.inr (by rw [← hW.1]; exact hq)⟩
  have hS : va_S (mm_A M0) s.heap s.heap [] := va_S.rf
  obtain ⟨hx, hb, hr, hml, hown, hts, hlocks, hK, hA⟩ := id C
  have hl := lv_entry ([.ref v0, .int v1, .int v2, .int v3]) (n := 5) (Nat.le_of_ble_eq_true rfl)
  rw [lg_entry_eq]
  generalize (lg_sl ([.ref v0, .int v1, .int v2, .int v3]) ++ List.replicate (5 - (lg_sl ([.ref v0, .int v1, .int v2, .int v3])).length) Slot.unset).toArray = ls at hl ⊢
  have hl : lv_has ls 5 [(0, .ref v0), (1, .int v1), (2, .int v2), (3, .int v3)] := hl
  unfold f_Mo_cover at h
  refine lv_aload_n hx hb d_Mo_cover_0 rfl (lv_at hl 0 rfl) ?_
  refine lv_iconst (v := 0) hx hb d_Mo_cover_1 (by decide) ?_
  obtain ⟨M26, e26, h⟩ := ob h
  refine mr_put C hW hS kp_Mo_90 rfl rfl e26 d_Mo_cover_2 (fun H locs hW hS => ?_)
  refine lv_aload_n hx hb d_Mo_cover_5 rfl (lv_at hl 0 rfl) ?_
  refine lv_iload_n hx hb d_Mo_cover_6 rfl (lv_at hl 1 rfl) ?_
  obtain ⟨_, e28, h⟩ := ob h
  obtain ⟨⟨x27, M27⟩, e27, h⟩ := ob h
  refine mr_ci C hW hS (va_runV (As := [.int v1]) (rest := []) ⟨hx, hb, hml, hown, hts⟩ (c_Mo_isTitle l D dA _ _ _ v0 v1 e27) (cwV 1 hts (mg_V q_280 q_281 q_282 q_283 q_267) rfl rfl rfl (by decide +kernel) ⟨Nat.le_of_ble_eq_true rfl, Nat.le_of_ble_eq_true rfl⟩) (mr_preV C hW (ci := 1) rfl e28) rfl rfl hl.1 rfl (lv_room (Nat.le_of_ble_eq_true rfl)) d_Mo_cover_7 ⟨Nat.le_of_ble_eq_true rfl, Nat.le_of_ble_eq_true rfl⟩) (fun H locs hW hS => ?_)
  refine lv_if_ne (tgt := 15) hx hb d_Mo_cover_10 (by decide) (fun c29 => ?_) (fun c29 => ?_)
  · have h := ifn h c29
    refine lv_iload_n hx hb d_Mo_cover_15 rfl (lv_at hl 2 rfl) ?_
    obtain ⟨⟨x30, M30⟩, e30, h⟩ := ob h
    refine mr_ci C hW hS (va_runS (As := [.int v2]) (rest := []) ⟨hx, hb, hml, hown, hts⟩ (c_Mo_isDay l D dA _ _ _ v2 e30) (cwS 1 hts (mg_S q_284 q_285 q_286 q_267) rfl rfl rfl (by decide +kernel) ⟨Nat.le_of_ble_eq_true rfl, Nat.le_of_ble_eq_true rfl⟩) (mr_pre C hW) rfl rfl hl.1 rfl (lv_room (Nat.le_of_ble_eq_true rfl)) d_Mo_cover_16 ⟨Nat.le_of_ble_eq_true rfl, Nat.le_of_ble_eq_true rfl⟩) (fun H locs hW hS => ?_)
    refine lv_if_eq (tgt := 34) hx hb d_Mo_cover_19 (by decide) (fun c31 => ?_) (fun c31 => ?_)
    · have h := ifp h c31
      refine lv_bipush (v := (-2)) hx hb d_Mo_cover_34 (by decide) ?_
      exact mr_iret C hW hS (Nat.le_of_ble_eq_true rfl) (Nat.le_of_ble_eq_true rfl) h d_Mo_cover_36
    · have h := ifn h c31
      refine lv_iload_n hx hb d_Mo_cover_22 rfl (lv_at hl 3 rfl) ?_
      obtain ⟨⟨x32, M32⟩, e32, h⟩ := ob h
      refine mr_ci C hW hS (va_runS (As := [.int v3]) (rest := []) ⟨hx, hb, hml, hown, hts⟩ (c_Mo_isDay l D dA _ _ _ v3 e32) (cwS 1 hts (mg_S q_284 q_285 q_286 q_267) rfl rfl rfl (by decide +kernel) ⟨Nat.le_of_ble_eq_true rfl, Nat.le_of_ble_eq_true rfl⟩) (mr_pre C hW) rfl rfl hl.1 rfl (lv_room (Nat.le_of_ble_eq_true rfl)) d_Mo_cover_23 ⟨Nat.le_of_ble_eq_true rfl, Nat.le_of_ble_eq_true rfl⟩) (fun H locs hW hS => ?_)
      refine lv_if_eq (tgt := 34) hx hb d_Mo_cover_26 (by decide) (fun c33 => ?_) (fun c33 => ?_)
      · have h := ifp h c33
        refine lv_bipush (v := (-2)) hx hb d_Mo_cover_34 (by decide) ?_
        exact mr_iret C hW hS (Nat.le_of_ble_eq_true rfl) (Nat.le_of_ble_eq_true rfl) h d_Mo_cover_36
      · have h := ifn h c33
        refine lv_iload_n hx hb d_Mo_cover_29 rfl (lv_at hl 2 rfl) ?_
        refine lv_iload_n hx hb d_Mo_cover_30 rfl (lv_at hl 3 rfl) ?_
        refine lv_icmp_le (tgt := 37) hx hb d_Mo_cover_31 (by decide) (fun c34 => ?_) (fun c34 => ?_)
        · have h := ifp h c34
          refine lv_bipush (v := 10) hx hb d_Mo_cover_37 (by decide) ?_
          refine lv_iload_n hx hb d_Mo_cover_39 rfl (lv_at hl 1 rfl) ?_
          refine lv_imul hx hb d_Mo_cover_40 ?_
          refine lv_istore (lv' := [(4, .int (10 * v1)), (0, .ref v0), (1, .int v1), (2, .int v2), (3, .int v3)]) hx hb d_Mo_cover_41 hl (by decide) rfl (fun ls hl => ?_)
          exact w_Mo_cover_b43 C FU _ _ _ _ _ _ _ _ _ h hW hS (lv_sub hl [1, 2, 3, 4, 0] rfl)
        · have h := ifn h c34
          refine lv_bipush (v := (-2)) hx hb d_Mo_cover_34 (by decide) ?_
          exact mr_iret C hW hS (Nat.le_of_ble_eq_true rfl) (Nat.le_of_ble_eq_true rfl) h d_Mo_cover_36
  · have h := ifp h c29
    refine lv_iconst (v := (-1)) hx hb d_Mo_cover_13 (by decide) ?_
    exact mr_iret C hW hS (Nat.le_of_ble_eq_true rfl) (Nat.le_of_ble_eq_true rfl) h d_Mo_cover_14
def f_Mo_embargo (v0 : Nat) (v1 : Int32) (v2 : Int32) (v3 : Int32) (M : mm) : Option (Int32 × mm) :=
    (pF 1 0 (.int 0) M v0).bind fun M1 =>
    (kO 1 M1 v0).bind fun _ =>
    (f_Mo_isTitle v0 v1 M1).bind fun (x2, M2) =>
    if x2 = 0 then
      some ((-1), M2)
    else
      (f_Mo_in1 v2 0 120 M2).bind fun (x5, M5) =>
      if x5 = 0 then
        some ((-2), M5)
      else
        (f_Mo_isDay v3 M5).bind fun (x7, M7) =>
        if x7 = 0 then
          some ((-2), M7)
        else
          (gR 1 13 M7 v0).bind fun x9 =>
          (sI v2 M7 x9 v1).bind fun M10 =>
          if 0 ≤ ((((v3 / 30) - v2) + 1) * 30) then
            some ((((v3 / 30) - v2) + 1) * 30, M10)
          else
            some (0, M10)
set_option maxHeartbeats 4000000 in
set_option maxRecDepth 100000 in
theorem c_Mo_embargo (l : Launch) (D : va_G) (dA : Nat → ClassId) (M0 M' : mm) (r : Int32) (v0 : Nat) (v1 : Int32) (v2 : Int32) (v3 : Int32) (h : f_Mo_embargo v0 v1 v2 v3 M0 = some (r, M')) : Met l y_Mo_embargo w_Mo_embargo rm_Mo_embargo (mm_Pre D dA M0 [.ref v0, .int v1, .int v2, .int v3]) (mm_QI D dA M0 r M') 0 0 (mm_A M0) := by
  refine Met.ofW (cc := b_Mo_embargo) (maxL := 5) (ret := (some .int)) (by decide) rfl ?_
  intro p e s m args below meth c s₁ B hml hv
  obtain ⟨rfl, hW, hK⟩ := hv
  have C : mm_C p s m _ meth c b_Mo_embargo 5 (some .int) R_Mo D dA (mm_A M0) := ⟨B.exec, B.bytes, B.returns, hml, findClass_of_methodNamed B.named, fun w hw => atoms_spec (ws := w_Mo_embargo) B.pre w (List.mem_cons_of_mem _ hw), B.notSynchronized, hK, fun q hq => Or.inr (by rw [← hW.1]; exact hq)⟩
  have hS : va_S (mm_A M0) s.heap s.heap [] := va_S.rf
  obtain ⟨hx, hb, hr, hml, hown, hts, hlocks, hK, hA⟩ := id C
  have hl := lv_entry ([.ref v0, .int v1, .int v2, .int v3]) (n := 5) (Nat.le_of_ble_eq_true rfl)
  rw [lg_entry_eq]
  generalize (lg_sl ([.ref v0, .int v1, .int v2, .int v3]) ++ List.replicate (5 - (lg_sl ([.ref v0, .int v1, .int v2, .int v3])).length) Slot.unset).toArray = ls at hl ⊢
  have hl : lv_has ls 5 [(0, .ref v0), (1, .int v1), (2, .int v2), (3, .int v3)] := hl
  unfold f_Mo_embargo at h
  refine lv_aload_n hx hb d_Mo_embargo_0 rfl (lv_at hl 0 rfl) ?_
  refine lv_iconst (v := 0) hx hb d_Mo_embargo_1 (by decide) ?_
  obtain ⟨M1, e1, h⟩ := ob h
  refine mr_put C hW hS kp_Mo_90 rfl rfl e1 d_Mo_embargo_2 (fun H locs hW hS => ?_)
  refine lv_aload_n hx hb d_Mo_embargo_5 rfl (lv_at hl 0 rfl) ?_
  refine lv_iload_n hx hb d_Mo_embargo_6 rfl (lv_at hl 1 rfl) ?_
  obtain ⟨_, e3, h⟩ := ob h
  obtain ⟨⟨x2, M2⟩, e2, h⟩ := ob h
  refine mr_ci C hW hS (va_runV (As := [.int v1]) (rest := []) ⟨hx, hb, hml, hown, hts⟩ (c_Mo_isTitle l D dA _ _ _ v0 v1 e2) (cwV 1 hts (mg_V q_280 q_281 q_282 q_283 q_267) rfl rfl rfl (by decide +kernel) ⟨Nat.le_of_ble_eq_true rfl, Nat.le_of_ble_eq_true rfl⟩) (mr_preV C hW (ci := 1) rfl e3) rfl rfl hl.1 rfl (lv_room (Nat.le_of_ble_eq_true rfl)) d_Mo_embargo_7 ⟨Nat.le_of_ble_eq_true rfl, Nat.le_of_ble_eq_true rfl⟩) (fun H locs hW hS => ?_)
  refine lv_if_ne (tgt := 15) hx hb d_Mo_embargo_10 (by decide) (fun c4 => ?_) (fun c4 => ?_)
  · have h := ifn h c4
    refine lv_iload_n hx hb d_Mo_embargo_15 rfl (lv_at hl 2 rfl) ?_
    refine lv_iconst (v := 0) hx hb d_Mo_embargo_16 (by decide) ?_
    refine lv_bipush (v := 120) hx hb d_Mo_embargo_17 (by decide) ?_
    obtain ⟨⟨x5, M5⟩, e5, h⟩ := ob h
    refine mr_ci C hW hS (va_runS (As := [.int v2, .int 0, .int 120]) (rest := []) ⟨hx, hb, hml, hown, hts⟩ (c_Mo_in1 l D dA _ _ _ v2 0 120 e5) (cwS 3 hts (mg_S q_264 q_265 q_266 q_267) rfl rfl rfl (by decide +kernel) ⟨Nat.le_of_ble_eq_true rfl, Nat.le_of_ble_eq_true rfl⟩) (mr_pre C hW) rfl rfl hl.1 rfl (lv_room (Nat.le_of_ble_eq_true rfl)) d_Mo_embargo_19 ⟨Nat.le_of_ble_eq_true rfl, Nat.le_of_ble_eq_true rfl⟩) (fun H locs hW hS => ?_)
    refine lv_if_eq (tgt := 32) hx hb d_Mo_embargo_22 (by decide) (fun c6 => ?_) (fun c6 => ?_)
    · have h := ifp h c6
      refine lv_bipush (v := (-2)) hx hb d_Mo_embargo_32 (by decide) ?_
      exact mr_iret C hW hS (Nat.le_of_ble_eq_true rfl) (Nat.le_of_ble_eq_true rfl) h d_Mo_embargo_34
    · have h := ifn h c6
      refine lv_iload_n hx hb d_Mo_embargo_25 rfl (lv_at hl 3 rfl) ?_
      obtain ⟨⟨x7, M7⟩, e7, h⟩ := ob h
      refine mr_ci C hW hS (va_runS (As := [.int v3]) (rest := []) ⟨hx, hb, hml, hown, hts⟩ (c_Mo_isDay l D dA _ _ _ v3 e7) (cwS 1 hts (mg_S q_284 q_285 q_286 q_267) rfl rfl rfl (by decide +kernel) ⟨Nat.le_of_ble_eq_true rfl, Nat.le_of_ble_eq_true rfl⟩) (mr_pre C hW) rfl rfl hl.1 rfl (lv_room (Nat.le_of_ble_eq_true rfl)) d_Mo_embargo_26 ⟨Nat.le_of_ble_eq_true rfl, Nat.le_of_ble_eq_true rfl⟩) (fun H locs hW hS => ?_)
      refine lv_if_ne (tgt := 35) hx hb d_Mo_embargo_29 (by decide) (fun c8 => ?_) (fun c8 => ?_)
      · have h := ifn h c8
        refine lv_aload_n hx hb d_Mo_embargo_35 rfl (lv_at hl 0 rfl) ?_
        obtain ⟨x9, e9, h⟩ := ob h
        refine mr_gR C hW k_Mo_41 e9 d_Mo_embargo_36 ?_
        refine lv_iload_n hx hb d_Mo_embargo_39 rfl (lv_at hl 1 rfl) ?_
        refine lv_iload_n hx hb d_Mo_embargo_40 rfl (lv_at hl 2 rfl) ?_
        obtain ⟨M10, e10, h⟩ := ob h
        refine mr_sI C hW hS e10 d_Mo_embargo_41 (fun H locs hW hS => ?_)
        refine lv_iload_n hx hb d_Mo_embargo_42 rfl (lv_at hl 3 rfl) ?_
        refine lv_bipush (v := 30) hx hb d_Mo_embargo_43 (by decide) ?_
        refine lv_idiv hx hb d_Mo_embargo_45 (by decide) ?_
        refine lv_iload_n hx hb d_Mo_embargo_46 rfl (lv_at hl 2 rfl) ?_
        refine lv_isub hx hb d_Mo_embargo_47 ?_
        refine lv_iconst (v := 1) hx hb d_Mo_embargo_48 (by decide) ?_
        refine lv_iadd hx hb d_Mo_embargo_49 ?_
        refine lv_bipush (v := 30) hx hb d_Mo_embargo_50 (by decide) ?_
        refine lv_imul hx hb d_Mo_embargo_52 ?_
        refine lv_istore (lv' := [(4, .int ((((v3 / 30) - v2) + 1) * 30)), (0, .ref v0), (1, .int v1), (2, .int v2), (3, .int v3)]) hx hb d_Mo_embargo_53 hl (by decide) rfl (fun ls hl => ?_)
        refine lv_iload hx hb d_Mo_embargo_55 (lv_at hl 0 rfl) ?_
        refine lv_if_ge (tgt := 64) hx hb d_Mo_embargo_57 (by decide) (fun c11 => ?_) (fun c11 => ?_)
        · have h := ifp h c11
          refine lv_iload hx hb d_Mo_embargo_64 (lv_at hl 0 rfl) ?_
          exact mr_iret C hW hS (Nat.le_of_ble_eq_true rfl) (Nat.le_of_ble_eq_true rfl) h d_Mo_embargo_66
        · have h := ifn h c11
          refine lv_iconst (v := 0) hx hb d_Mo_embargo_60 (by decide) ?_
          refine lv_goto (tgt := 66) hx hb d_Mo_embargo_61 (by decide) ?_
          exact mr_iret C hW hS (Nat.le_of_ble_eq_true rfl) (Nat.le_of_ble_eq_true rfl) h d_Mo_embargo_66
      · have h := ifp h c8
        refine lv_bipush (v := (-2)) hx hb d_Mo_embargo_32 (by decide) ?_
        exact mr_iret C hW hS (Nat.le_of_ble_eq_true rfl) (Nat.le_of_ble_eq_true rfl) h d_Mo_embargo_34
  · have h := ifp h c4
    refine lv_iconst (v := (-1)) hx hb d_Mo_embargo_13 (by decide) ?_
    exact mr_iret C hW hS (Nat.le_of_ble_eq_true rfl) (Nat.le_of_ble_eq_true rfl) h d_Mo_embargo_14
def f_Mo_rule_b73 : Nat → Int32 → Int32 → Int32 → Int32 → Int32 → mm → Option (Int32 × mm) := fun v0 v1 v2 v3 v4 t0 M =>
    if t0 = 0 then
      some ((-2), M)
    else
      (gI 1 17 M v0).bind fun x4 =>
      if x4 = 100 then
        some ((-4), M)
      else
        (gR 1 18 M v0).bind fun x6 =>
        (gI 1 17 M v0).bind fun x7 =>
        (sI v1 M x6 x7).bind fun M8 =>
        (gR 1 19 M8 v0).bind fun x9 =>
        (gI 1 17 M8 v0).bind fun x10 =>
        (sI v2 M8 x9 x10).bind fun M11 =>
        (gR 1 20 M11 v0).bind fun x12 =>
        (gI 1 17 M11 v0).bind fun x13 =>
        (sI v3 M11 x12 x13).bind fun M14 =>
        (gR 1 21 M14 v0).bind fun x15 =>
        (gI 1 17 M14 v0).bind fun x16 =>
        (sI v4 M14 x15 x16).bind fun M17 =>
        (gI 1 17 M17 v0).bind fun x18 =>
        (pF 1 17 (.int (x18 + 1)) M17 v0).bind fun M19 =>
        (gI 1 17 M19 v0).bind fun x20 =>
        some (x20 - 1, M19)
def f_Mo_rule_b68 : Nat → Int32 → Int32 → Int32 → Int32 → mm → Option (Int32 × mm) := fun v0 v1 v2 v3 v4 M =>
    f_Mo_rule_b73 v0 v1 v2 v3 v4 1 M
def f_Mo_rule_b72 : Nat → Int32 → Int32 → Int32 → Int32 → mm → Option (Int32 × mm) := fun v0 v1 v2 v3 v4 M =>
    f_Mo_rule_b73 v0 v1 v2 v3 v4 0 M
def f_Mo_rule_b62 : Nat → Int32 → Int32 → Int32 → Int32 → Int32 → Int32 → Int32 → mm → Option (Int32 × mm) := fun v0 v1 v2 v3 v4 t0 t1 t2 M =>
    (f_Mo_in1 t2 t1 t0 M).bind fun (x1, M1) =>
    if x1 = 0 then
      f_Mo_rule_b72 v0 v1 v2 v3 v4 M1
    else
      f_Mo_rule_b68 v0 v1 v2 v3 v4 M1
def f_Mo_rule (v0 : Nat) (v1 : Int32) (v2 : Int32) (v3 : Int32) (v4 : Int32) (M : mm) : Option (Int32 × mm) :=
    (pF 1 0 (.int 0) M v0).bind fun M21 =>
    (kO 1 M21 v0).bind fun _ =>
    (f_Mo_isPack v0 v1 M21).bind fun (x22, M22) =>
    if x22 = 0 then
      some ((-1), M22)
    else
      (f_Mo_in1 v2 0 3 M22).bind fun (x25, M25) =>
      if x25 = 0 then
        f_Mo_rule_b72 v0 v1 v2 v3 v4 M25
      else
        (f_Mo_in1 v3 1 2 M25).bind fun (x27, M27) =>
        if x27 = 0 then
          f_Mo_rule_b72 v0 v1 v2 v3 v4 M27
        else
          if v2 = 1 then
            f_Mo_rule_b68 v0 v1 v2 v3 v4 M27
          else
            if v2 = 0 then
              f_Mo_rule_b62 v0 v1 v2 v3 v4 9 0 v4 M27
            else
              if v2 = 2 then
                f_Mo_rule_b62 v0 v1 v2 v3 v4 127 0 v4 M27
              else
                f_Mo_rule_b62 v0 v1 v2 v3 v4 1000000 0 v4 M27
set_option maxHeartbeats 4000000 in
set_option maxRecDepth 100000 in
theorem w_Mo_rule_b73 {p : Program} {l : Launch} {e : Env} {s : State} {m : MethodId} {args : Array Value} {below : List Frame} {meth : Method} {c : Code} {D : va_G} {dA : Nat → ClassId} {M0 M' : mm} {r : Int32} (C : mm_C p s m args meth c b_Mo_rule 6 (some .int) R_Mo D dA (mm_A M0)) : ∀ (v0 : Nat) (v1 : Int32) (v2 : Int32) (v3 : Int32) (v4 : Int32) (t0 : Int32) (M : mm) (H : Heap) (locs : List Loc) (ls : Array Slot), f_Mo_rule_b73 v0 v1 v2 v3 v4 t0 M = some (r, M') → mm_W D dA (mm_A M0) M H → va_S (mm_A M0) s.heap H locs → lv_has ls 6 [(0, .ref v0), (1, .int v1), (2, .int v2), (3, .int v3), (4, .int v4)] → W p l e rm_Mo_rule s m args below meth c H locs 0 0 (MQ below (mm_QI D dA M0 r M') args s 0 0 (mm_A M0)) (F0 m 73 ls [.int t0]) := by
  obtain ⟨hx, hb, hr, hml, hown, hts, hlocks, hK, hA⟩ := id C
  intro v0 v1 v2 v3 v4 t0 M H locs ls h hW hS hl
  unfold f_Mo_rule_b73 at h
  refine lv_istore (lv' := [(5, .int t0), (0, .ref v0), (1, .int v1), (2, .int v2), (3, .int v3), (4, .int v4)]) hx hb d_Mo_rule_73 hl (by decide) rfl (fun ls hl => ?_)
  refine lv_iload hx hb d_Mo_rule_75 (lv_at hl 0 rfl) ?_
  refine lv_if_ne (tgt := 83) hx hb d_Mo_rule_77 (by decide) (fun c3 => ?_) (fun c3 => ?_)
  · have h := ifn h c3
    refine lv_aload_n hx hb d_Mo_rule_83 rfl (lv_at hl 1 rfl) ?_
    obtain ⟨x4, e4, h⟩ := ob h
    refine mr_gI C hW k_Mo_122 e4 d_Mo_rule_84 ?_
    refine lv_bipush (v := 100) hx hb d_Mo_rule_87 (by decide) ?_
    refine lv_icmp_ne (tgt := 95) hx hb d_Mo_rule_89 (by decide) (fun c5 => ?_) (fun c5 => ?_)
    · have h := ifn h c5
      refine lv_aload_n hx hb d_Mo_rule_95 rfl (lv_at hl 1 rfl) ?_
      obtain ⟨x6, e6, h⟩ := ob h
      refine mr_gR C hW k_Mo_53 e6 d_Mo_rule_96 ?_
      refine lv_aload_n hx hb d_Mo_rule_99 rfl (lv_at hl 1 rfl) ?_
      obtain ⟨x7, e7, h⟩ := ob h
      refine mr_gI C hW k_Mo_122 e7 d_Mo_rule_100 ?_
      refine lv_iload_n hx hb d_Mo_rule_103 rfl (lv_at hl 2 rfl) ?_
      obtain ⟨M8, e8, h⟩ := ob h
      refine mr_sI C hW hS e8 d_Mo_rule_104 (fun H locs hW hS => ?_)
      refine lv_aload_n hx hb d_Mo_rule_105 rfl (lv_at hl 1 rfl) ?_
      obtain ⟨x9, e9, h⟩ := ob h
      refine mr_gR C hW k_Mo_56 e9 d_Mo_rule_106 ?_
      refine lv_aload_n hx hb d_Mo_rule_109 rfl (lv_at hl 1 rfl) ?_
      obtain ⟨x10, e10, h⟩ := ob h
      refine mr_gI C hW k_Mo_122 e10 d_Mo_rule_110 ?_
      refine lv_iload_n hx hb d_Mo_rule_113 rfl (lv_at hl 3 rfl) ?_
      obtain ⟨M11, e11, h⟩ := ob h
      refine mr_sI C hW hS e11 d_Mo_rule_114 (fun H locs hW hS => ?_)
      refine lv_aload_n hx hb d_Mo_rule_115 rfl (lv_at hl 1 rfl) ?_
      obtain ⟨x12, e12, h⟩ := ob h
      refine mr_gR C hW k_Mo_59 e12 d_Mo_rule_116 ?_
      refine lv_aload_n hx hb d_Mo_rule_119 rfl (lv_at hl 1 rfl) ?_
      obtain ⟨x13, e13, h⟩ := ob h
      refine mr_gI C hW k_Mo_122 e13 d_Mo_rule_120 ?_
      refine lv_iload_n hx hb d_Mo_rule_123 rfl (lv_at hl 4 rfl) ?_
      obtain ⟨M14, e14, h⟩ := ob h
      refine mr_sI C hW hS e14 d_Mo_rule_124 (fun H locs hW hS => ?_)
      refine lv_aload_n hx hb d_Mo_rule_125 rfl (lv_at hl 1 rfl) ?_
      obtain ⟨x15, e15, h⟩ := ob h
      refine mr_gR C hW k_Mo_62 e15 d_Mo_rule_126 ?_
      refine lv_aload_n hx hb d_Mo_rule_129 rfl (lv_at hl 1 rfl) ?_
      obtain ⟨x16, e16, h⟩ := ob h
      refine mr_gI C hW k_Mo_122 e16 d_Mo_rule_130 ?_
      refine lv_iload hx hb d_Mo_rule_133 (lv_at hl 5 rfl) ?_
      obtain ⟨M17, e17, h⟩ := ob h
      refine mr_sI C hW hS e17 d_Mo_rule_135 (fun H locs hW hS => ?_)
      refine lv_aload_n hx hb d_Mo_rule_136 rfl (lv_at hl 1 rfl) ?_
      refine lv_dup hx hb d_Mo_rule_137 rfl ?_
      obtain ⟨x18, e18, h⟩ := ob h
      refine mr_gI C hW k_Mo_122 e18 d_Mo_rule_138 ?_
      refine lv_iconst (v := 1) hx hb d_Mo_rule_141 (by decide) ?_
      refine lv_iadd hx hb d_Mo_rule_142 ?_
      obtain ⟨M19, e19, h⟩ := ob h
      refine mr_put C hW hS kp_Mo_122 rfl rfl e19 d_Mo_rule_143 (fun H locs hW hS => ?_)
      refine lv_aload_n hx hb d_Mo_rule_146 rfl (lv_at hl 1 rfl) ?_
      obtain ⟨x20, e20, h⟩ := ob h
      refine mr_gI C hW k_Mo_122 e20 d_Mo_rule_147 ?_
      refine lv_iconst (v := 1) hx hb d_Mo_rule_150 (by decide) ?_
      refine lv_isub hx hb d_Mo_rule_151 ?_
      exact mr_iret C hW hS (Nat.le_of_ble_eq_true rfl) (Nat.le_of_ble_eq_true rfl) h d_Mo_rule_152
    · have h := ifp h c5
      refine lv_bipush (v := (-4)) hx hb d_Mo_rule_92 (by decide) ?_
      exact mr_iret C hW hS (Nat.le_of_ble_eq_true rfl) (Nat.le_of_ble_eq_true rfl) h d_Mo_rule_94
  · have h := ifp h c3
    refine lv_bipush (v := (-2)) hx hb d_Mo_rule_80 (by decide) ?_
    exact mr_iret C hW hS (Nat.le_of_ble_eq_true rfl) (Nat.le_of_ble_eq_true rfl) h d_Mo_rule_82
set_option maxHeartbeats 4000000 in
set_option maxRecDepth 100000 in
theorem w_Mo_rule_b68 {p : Program} {l : Launch} {e : Env} {s : State} {m : MethodId} {args : Array Value} {below : List Frame} {meth : Method} {c : Code} {D : va_G} {dA : Nat → ClassId} {M0 M' : mm} {r : Int32} (C : mm_C p s m args meth c b_Mo_rule 6 (some .int) R_Mo D dA (mm_A M0)) : ∀ (v0 : Nat) (v1 : Int32) (v2 : Int32) (v3 : Int32) (v4 : Int32) (M : mm) (H : Heap) (locs : List Loc) (ls : Array Slot), f_Mo_rule_b68 v0 v1 v2 v3 v4 M = some (r, M') → mm_W D dA (mm_A M0) M H → va_S (mm_A M0) s.heap H locs → lv_has ls 6 [(0, .ref v0), (1, .int v1), (2, .int v2), (3, .int v3), (4, .int v4)] → W p l e rm_Mo_rule s m args below meth c H locs 0 0 (MQ below (mm_QI D dA M0 r M') args s 0 0 (mm_A M0)) (F0 m 68 ls []) := by
  obtain ⟨hx, hb, hr, hml, hown, hts, hlocks, hK, hA⟩ := id C
  intro v0 v1 v2 v3 v4 M H locs ls h hW hS hl
  unfold f_Mo_rule_b68 at h
  refine lv_iconst (v := 1) hx hb d_Mo_rule_68 (by decide) ?_
  refine lv_goto (tgt := 73) hx hb d_Mo_rule_69 (by decide) ?_
  exact w_Mo_rule_b73 C _ _ _ _ _ _ _ _ _ _ h hW hS (lv_sub hl [0, 1, 2, 3, 4] rfl)
set_option maxHeartbeats 4000000 in
set_option maxRecDepth 100000 in
theorem w_Mo_rule_b72 {p : Program} {l : Launch} {e : Env} {s : State} {m : MethodId} {args : Array Value} {below : List Frame} {meth : Method} {c : Code} {D : va_G} {dA : Nat → ClassId} {M0 M' : mm} {r : Int32} (C : mm_C p s m args meth c b_Mo_rule 6 (some .int) R_Mo D dA (mm_A M0)) : ∀ (v0 : Nat) (v1 : Int32) (v2 : Int32) (v3 : Int32) (v4 : Int32) (M : mm) (H : Heap) (locs : List Loc) (ls : Array Slot), f_Mo_rule_b72 v0 v1 v2 v3 v4 M = some (r, M') → mm_W D dA (mm_A M0) M H → va_S (mm_A M0) s.heap H locs → lv_has ls 6 [(0, .ref v0), (1, .int v1), (2, .int v2), (3, .int v3), (4, .int v4)] → W p l e rm_Mo_rule s m args below meth c H locs 0 0 (MQ below (mm_QI D dA M0 r M') args s 0 0 (mm_A M0)) (F0 m 72 ls []) := by
  obtain ⟨hx, hb, hr, hml, hown, hts, hlocks, hK, hA⟩ := id C
  intro v0 v1 v2 v3 v4 M H locs ls h hW hS hl
  unfold f_Mo_rule_b72 at h
  refine lv_iconst (v := 0) hx hb d_Mo_rule_72 (by decide) ?_
  exact w_Mo_rule_b73 C _ _ _ _ _ _ _ _ _ _ h hW hS (lv_sub hl [0, 1, 2, 3, 4] rfl)
set_option maxHeartbeats 4000000 in
set_option maxRecDepth 100000 in
theorem w_Mo_rule_b62 {p : Program} {l : Launch} {e : Env} {s : State} {m : MethodId} {args : Array Value} {below : List Frame} {meth : Method} {c : Code} {D : va_G} {dA : Nat → ClassId} {M0 M' : mm} {r : Int32} (C : mm_C p s m args meth c b_Mo_rule 6 (some .int) R_Mo D dA (mm_A M0)) : ∀ (v0 : Nat) (v1 : Int32) (v2 : Int32) (v3 : Int32) (v4 : Int32) (t0 : Int32) (t1 : Int32) (t2 : Int32) (M : mm) (H : Heap) (locs : List Loc) (ls : Array Slot), f_Mo_rule_b62 v0 v1 v2 v3 v4 t0 t1 t2 M = some (r, M') → mm_W D dA (mm_A M0) M H → va_S (mm_A M0) s.heap H locs → lv_has ls 6 [(0, .ref v0), (1, .int v1), (2, .int v2), (3, .int v3), (4, .int v4)] → W p l e rm_Mo_rule s m args below meth c H locs 0 0 (MQ below (mm_QI D dA M0 r M') args s 0 0 (mm_A M0)) (F0 m 62 ls [.int t0, .int t1, .int t2]) := by
  obtain ⟨hx, hb, hr, hml, hown, hts, hlocks, hK, hA⟩ := id C
  intro v0 v1 v2 v3 v4 t0 t1 t2 M H locs ls h hW hS hl
  unfold f_Mo_rule_b62 at h
  obtain ⟨⟨x1, M1⟩, e1, h⟩ := ob h
  refine mr_ci C hW hS (va_runS (As := [.int t2, .int t1, .int t0]) (rest := []) ⟨hx, hb, hml, hown, hts⟩ (c_Mo_in1 l D dA _ _ _ t2 t1 t0 e1) (cwS 3 hts (mg_S q_264 q_265 q_266 q_267) rfl rfl rfl (by decide +kernel) ⟨Nat.le_of_ble_eq_true rfl, Nat.le_of_ble_eq_true rfl⟩) (mr_pre C hW) rfl rfl hl.1 rfl (lv_room (Nat.le_of_ble_eq_true rfl)) d_Mo_rule_62 ⟨Nat.le_of_ble_eq_true rfl, Nat.le_of_ble_eq_true rfl⟩) (fun H locs hW hS => ?_)
  refine lv_if_eq (tgt := 72) hx hb d_Mo_rule_65 (by decide) (fun c2 => ?_) (fun c2 => ?_)
  · have h := ifp h c2
    exact w_Mo_rule_b72 C _ _ _ _ _ _ _ _ _ h hW hS (lv_sub hl [0, 1, 2, 3, 4] rfl)
  · have h := ifn h c2
    exact w_Mo_rule_b68 C _ _ _ _ _ _ _ _ _ h hW hS (lv_sub hl [0, 1, 2, 3, 4] rfl)
set_option maxHeartbeats 4000000 in
set_option maxRecDepth 100000 in
theorem c_Mo_rule (l : Launch) (D : va_G) (dA : Nat → ClassId) (M0 M' : mm) (r : Int32) (v0 : Nat) (v1 : Int32) (v2 : Int32) (v3 : Int32) (v4 : Int32) (h : f_Mo_rule v0 v1 v2 v3 v4 M0 = some (r, M')) : Met l y_Mo_rule w_Mo_rule rm_Mo_rule (mm_Pre D dA M0 [.ref v0, .int v1, .int v2, .int v3, .int v4]) (mm_QI D dA M0 r M') 0 0 (mm_A M0) := by
  refine Met.ofW (cc := b_Mo_rule) (maxL := 6) (ret := (some .int)) (by decide) rfl ?_
  intro p e s m args below meth c s₁ B hml hv
  obtain ⟨rfl, hW, hK⟩ := hv
  have C : mm_C p s m _ meth c b_Mo_rule 6 (some .int) R_Mo D dA (mm_A M0) := ⟨B.exec, B.bytes, B.returns, hml, findClass_of_methodNamed B.named, fun w hw => atoms_spec (ws := w_Mo_rule) B.pre w (List.mem_cons_of_mem _ hw), B.notSynchronized, hK, fun q hq => Or.inr (by rw [← hW.1]; exact hq)⟩
  have hS : va_S (mm_A M0) s.heap s.heap [] := va_S.rf
  obtain ⟨hx, hb, hr, hml, hown, hts, hlocks, hK, hA⟩ := id C
  have hl := lv_entry ([.ref v0, .int v1, .int v2, .int v3, .int v4]) (n := 6) (Nat.le_of_ble_eq_true rfl)
  rw [lg_entry_eq]
  generalize (lg_sl ([.ref v0, .int v1, .int v2, .int v3, .int v4]) ++ List.replicate (6 - (lg_sl ([.ref v0, .int v1, .int v2, .int v3, .int v4])).length) Slot.unset).toArray = ls at hl ⊢
  have hl : lv_has ls 6 [(0, .ref v0), (1, .int v1), (2, .int v2), (3, .int v3), (4, .int v4)] := hl
  unfold f_Mo_rule at h
  refine lv_aload_n hx hb d_Mo_rule_0 rfl (lv_at hl 0 rfl) ?_
  refine lv_iconst (v := 0) hx hb d_Mo_rule_1 (by decide) ?_
  obtain ⟨M21, e21, h⟩ := ob h
  refine mr_put C hW hS kp_Mo_90 rfl rfl e21 d_Mo_rule_2 (fun H locs hW hS => ?_)
  refine lv_aload_n hx hb d_Mo_rule_5 rfl (lv_at hl 0 rfl) ?_
  refine lv_iload_n hx hb d_Mo_rule_6 rfl (lv_at hl 1 rfl) ?_
  obtain ⟨_, e23, h⟩ := ob h
  obtain ⟨⟨x22, M22⟩, e22, h⟩ := ob h
  refine mr_ci C hW hS (va_runV (As := [.int v1]) (rest := []) ⟨hx, hb, hml, hown, hts⟩ (c_Mo_isPack l D dA _ _ _ v0 v1 e22) (cwV 1 hts (mg_V q_272 q_273 q_274 q_275 q_267) rfl rfl rfl (by decide +kernel) ⟨Nat.le_of_ble_eq_true rfl, Nat.le_of_ble_eq_true rfl⟩) (mr_preV C hW (ci := 1) rfl e23) rfl rfl hl.1 rfl (lv_room (Nat.le_of_ble_eq_true rfl)) d_Mo_rule_7 ⟨Nat.le_of_ble_eq_true rfl, Nat.le_of_ble_eq_true rfl⟩) (fun H locs hW hS => ?_)
  refine lv_if_ne (tgt := 15) hx hb d_Mo_rule_10 (by decide) (fun c24 => ?_) (fun c24 => ?_)
  · have h := ifn h c24
    refine lv_iload_n hx hb d_Mo_rule_15 rfl (lv_at hl 2 rfl) ?_
    refine lv_iconst (v := 0) hx hb d_Mo_rule_16 (by decide) ?_
    refine lv_iconst (v := 3) hx hb d_Mo_rule_17 (by decide) ?_
    obtain ⟨⟨x25, M25⟩, e25, h⟩ := ob h
    refine mr_ci C hW hS (va_runS (As := [.int v2, .int 0, .int 3]) (rest := []) ⟨hx, hb, hml, hown, hts⟩ (c_Mo_in1 l D dA _ _ _ v2 0 3 e25) (cwS 3 hts (mg_S q_264 q_265 q_266 q_267) rfl rfl rfl (by decide +kernel) ⟨Nat.le_of_ble_eq_true rfl, Nat.le_of_ble_eq_true rfl⟩) (mr_pre C hW) rfl rfl hl.1 rfl (lv_room (Nat.le_of_ble_eq_true rfl)) d_Mo_rule_18 ⟨Nat.le_of_ble_eq_true rfl, Nat.le_of_ble_eq_true rfl⟩) (fun H locs hW hS => ?_)
    refine lv_if_eq (tgt := 72) hx hb d_Mo_rule_21 (by decide) (fun c26 => ?_) (fun c26 => ?_)
    · have h := ifp h c26
      exact w_Mo_rule_b72 C _ _ _ _ _ _ _ _ _ h hW hS (lv_sub hl [0, 1, 2, 3, 4] rfl)
    · have h := ifn h c26
      refine lv_iload_n hx hb d_Mo_rule_24 rfl (lv_at hl 3 rfl) ?_
      refine lv_iconst (v := 1) hx hb d_Mo_rule_25 (by decide) ?_
      refine lv_iconst (v := 2) hx hb d_Mo_rule_26 (by decide) ?_
      obtain ⟨⟨x27, M27⟩, e27, h⟩ := ob h
      refine mr_ci C hW hS (va_runS (As := [.int v3, .int 1, .int 2]) (rest := []) ⟨hx, hb, hml, hown, hts⟩ (c_Mo_in1 l D dA _ _ _ v3 1 2 e27) (cwS 3 hts (mg_S q_264 q_265 q_266 q_267) rfl rfl rfl (by decide +kernel) ⟨Nat.le_of_ble_eq_true rfl, Nat.le_of_ble_eq_true rfl⟩) (mr_pre C hW) rfl rfl hl.1 rfl (lv_room (Nat.le_of_ble_eq_true rfl)) d_Mo_rule_27 ⟨Nat.le_of_ble_eq_true rfl, Nat.le_of_ble_eq_true rfl⟩) (fun H locs hW hS => ?_)
      refine lv_if_eq (tgt := 72) hx hb d_Mo_rule_30 (by decide) (fun c28 => ?_) (fun c28 => ?_)
      · have h := ifp h c28
        exact w_Mo_rule_b72 C _ _ _ _ _ _ _ _ _ h hW hS (lv_sub hl [0, 1, 2, 3, 4] rfl)
      · have h := ifn h c28
        refine lv_iload_n hx hb d_Mo_rule_33 rfl (lv_at hl 2 rfl) ?_
        refine lv_iconst (v := 1) hx hb d_Mo_rule_34 (by decide) ?_
        refine lv_icmp_eq (tgt := 68) hx hb d_Mo_rule_35 (by decide) (fun c29 => ?_) (fun c29 => ?_)
        · have h := ifp h c29
          exact w_Mo_rule_b68 C _ _ _ _ _ _ _ _ _ h hW hS (lv_sub hl [0, 1, 2, 3, 4] rfl)
        · have h := ifn h c29
          refine lv_iload hx hb d_Mo_rule_38 (lv_at hl 4 rfl) ?_
          refine lv_iconst (v := 0) hx hb d_Mo_rule_40 (by decide) ?_
          refine lv_iload_n hx hb d_Mo_rule_41 rfl (lv_at hl 2 rfl) ?_
          refine lv_if_ne (tgt := 50) hx hb d_Mo_rule_42 (by decide) (fun c30 => ?_) (fun c30 => ?_)
          · have h := ifn h c30
            refine lv_iload_n hx hb d_Mo_rule_50 rfl (lv_at hl 2 rfl) ?_
            refine lv_iconst (v := 2) hx hb d_Mo_rule_51 (by decide) ?_
            refine lv_icmp_ne (tgt := 60) hx hb d_Mo_rule_52 (by decide) (fun c31 => ?_) (fun c31 => ?_)
            · have h := ifn h c31
              refine lv_ldc (v := 1000000) hx hb hown (hts _ q_288) d_Mo_rule_60 ?_
              exact w_Mo_rule_b62 C _ _ _ _ _ _ _ _ _ _ _ _ h hW hS (lv_sub hl [0, 1, 2, 3, 4] rfl)
            · have h := ifp h c31
              refine lv_bipush (v := 127) hx hb d_Mo_rule_55 (by decide) ?_
              refine lv_goto (tgt := 62) hx hb d_Mo_rule_57 (by decide) ?_
              exact w_Mo_rule_b62 C _ _ _ _ _ _ _ _ _ _ _ _ h hW hS (lv_sub hl [0, 1, 2, 3, 4] rfl)
          · have h := ifp h c30
            refine lv_bipush (v := 9) hx hb d_Mo_rule_45 (by decide) ?_
            refine lv_goto (tgt := 62) hx hb d_Mo_rule_47 (by decide) ?_
            exact w_Mo_rule_b62 C _ _ _ _ _ _ _ _ _ _ _ _ h hW hS (lv_sub hl [0, 1, 2, 3, 4] rfl)
  · have h := ifp h c24
    refine lv_iconst (v := (-1)) hx hb d_Mo_rule_13 (by decide) ?_
    exact mr_iret C hW hS (Nat.le_of_ble_eq_true rfl) (Nat.le_of_ble_eq_true rfl) h d_Mo_rule_14
def f_Mo_fails (v0 : Nat) (v1 : Int32) (v2 : Int32) (M : mm) : Option (Int32 × mm) :=
    (pF 1 0 (.int 0) M v0).bind fun M1 =>
    (gI 1 17 M1 v0).bind fun x2 =>
    (f_Mo_in1 v1 0 (x2 - 1) M1).bind fun (x3, M3) =>
    if x3 = 0 then
      some ((-1), M3)
    else
      (gR 1 22 M3 v0).bind fun x5 =>
      (sZ v2 M3 x5 v1).bind fun M6 =>
      some (1, M6)
set_option maxHeartbeats 4000000 in
set_option maxRecDepth 100000 in
theorem c_Mo_fails (l : Launch) (D : va_G) (dA : Nat → ClassId) (M0 M' : mm) (r : Int32) (v0 : Nat) (v1 : Int32) (v2 : Int32) (h : f_Mo_fails v0 v1 v2 M0 = some (r, M')) : Met l y_Mo_fails w_Mo_fails rm_Mo_fails (mm_Pre D dA M0 [.ref v0, .int v1, .int v2]) (mm_QI D dA M0 r M') 0 0 (mm_A M0) := by
  refine Met.ofW (cc := b_Mo_fails) (maxL := 3) (ret := (some .int)) (by decide) rfl ?_
  intro p e s m args below meth c s₁ B hml hv
  obtain ⟨rfl, hW, hK⟩ := hv
  have C : mm_C p s m _ meth c b_Mo_fails 3 (some .int) R_Mo D dA (mm_A M0) := ⟨B.exec, B.bytes, B.returns, hml, findClass_of_methodNamed B.named, fun w hw => atoms_spec (ws := w_Mo_fails) B.pre w (List.mem_cons_of_mem _ hw), B.notSynchronized, hK, fun q hq => Or.inr (by rw [← hW.1]; exact hq)⟩
  have hS : va_S (mm_A M0) s.heap s.heap [] := va_S.rf
  obtain ⟨hx, hb, hr, hml, hown, hts, hlocks, hK, hA⟩ := id C
  have hl := lv_entry ([.ref v0, .int v1, .int v2]) (n := 3) (Nat.le_of_ble_eq_true rfl)
  rw [lg_entry_eq]
  generalize (lg_sl ([.ref v0, .int v1, .int v2]) ++ List.replicate (3 - (lg_sl ([.ref v0, .int v1, .int v2])).length) Slot.unset).toArray = ls at hl ⊢
  have hl : lv_has ls 3 [(0, .ref v0), (1, .int v1), (2, .int v2)] := hl
  unfold f_Mo_fails at h
  refine lv_aload_n hx hb d_Mo_fails_0 rfl (lv_at hl 0 rfl) ?_
  refine lv_iconst (v := 0) hx hb d_Mo_fails_1 (by decide) ?_
  obtain ⟨M1, e1, h⟩ := ob h
  refine mr_put C hW hS kp_Mo_90 rfl rfl e1 d_Mo_fails_2 (fun H locs hW hS => ?_)
  refine lv_iload_n hx hb d_Mo_fails_5 rfl (lv_at hl 1 rfl) ?_
  refine lv_iconst (v := 0) hx hb d_Mo_fails_6 (by decide) ?_
  refine lv_aload_n hx hb d_Mo_fails_7 rfl (lv_at hl 0 rfl) ?_
  obtain ⟨x2, e2, h⟩ := ob h
  refine mr_gI C hW k_Mo_122 e2 d_Mo_fails_8 ?_
  refine lv_iconst (v := 1) hx hb d_Mo_fails_11 (by decide) ?_
  refine lv_isub hx hb d_Mo_fails_12 ?_
  obtain ⟨⟨x3, M3⟩, e3, h⟩ := ob h
  refine mr_ci C hW hS (va_runS (As := [.int v1, .int 0, .int (x2 - 1)]) (rest := []) ⟨hx, hb, hml, hown, hts⟩ (c_Mo_in1 l D dA _ _ _ v1 0 (x2 - 1) e3) (cwS 3 hts (mg_S q_264 q_265 q_266 q_267) rfl rfl rfl (by decide +kernel) ⟨Nat.le_of_ble_eq_true rfl, Nat.le_of_ble_eq_true rfl⟩) (mr_pre C hW) rfl rfl hl.1 rfl (lv_room (Nat.le_of_ble_eq_true rfl)) d_Mo_fails_13 ⟨Nat.le_of_ble_eq_true rfl, Nat.le_of_ble_eq_true rfl⟩) (fun H locs hW hS => ?_)
  refine lv_if_ne (tgt := 21) hx hb d_Mo_fails_16 (by decide) (fun c4 => ?_) (fun c4 => ?_)
  · have h := ifn h c4
    refine lv_aload_n hx hb d_Mo_fails_21 rfl (lv_at hl 0 rfl) ?_
    obtain ⟨x5, e5, h⟩ := ob h
    refine mr_gR C hW k_Mo_65 e5 d_Mo_fails_22 ?_
    refine lv_iload_n hx hb d_Mo_fails_25 rfl (lv_at hl 1 rfl) ?_
    refine lv_iload_n hx hb d_Mo_fails_26 rfl (lv_at hl 2 rfl) ?_
    obtain ⟨M6, e6, h⟩ := ob h
    refine mr_sZ C hW hS e6 d_Mo_fails_27 (fun H locs hW hS => ?_)
    refine lv_iconst (v := 1) hx hb d_Mo_fails_28 (by decide) ?_
    exact mr_iret C hW hS (Nat.le_of_ble_eq_true rfl) (Nat.le_of_ble_eq_true rfl) h d_Mo_fails_29
  · have h := ifp h c4
    refine lv_iconst (v := (-1)) hx hb d_Mo_fails_19 (by decide) ?_
    exact mr_iret C hW hS (Nat.le_of_ble_eq_true rfl) (Nat.le_of_ble_eq_true rfl) h d_Mo_fails_20
def f_Mo_reader (v0 : Nat) (v1 : Int32) (v2 : Int32) (M : mm) : Option (Int32 × mm) :=
    (pF 1 0 (.int 0) M v0).bind fun M1 =>
    (f_Mo_in1 v1 0 99 M1).bind fun (x2, M2) =>
    if x2 = 0 then
      some ((-1), M2)
    else
      (f_Mo_in1 v2 0 9 M2).bind fun (x4, M4) =>
      if x4 = 0 then
        some ((-2), M4)
      else
        (gR 1 24 M4 v0).bind fun x6 =>
        (sI v2 M4 x6 v1).bind fun M7 =>
        some (1, M7)
set_option maxHeartbeats 4000000 in
set_option maxRecDepth 100000 in
theorem c_Mo_reader (l : Launch) (D : va_G) (dA : Nat → ClassId) (M0 M' : mm) (r : Int32) (v0 : Nat) (v1 : Int32) (v2 : Int32) (h : f_Mo_reader v0 v1 v2 M0 = some (r, M')) : Met l y_Mo_reader w_Mo_reader rm_Mo_reader (mm_Pre D dA M0 [.ref v0, .int v1, .int v2]) (mm_QI D dA M0 r M') 0 0 (mm_A M0) := by
  refine Met.ofW (cc := b_Mo_reader) (maxL := 3) (ret := (some .int)) (by decide) rfl ?_
  intro p e s m args below meth c s₁ B hml hv
  obtain ⟨rfl, hW, hK⟩ := hv
  have C : mm_C p s m _ meth c b_Mo_reader 3 (some .int) R_Mo D dA (mm_A M0) := ⟨B.exec, B.bytes, B.returns, hml, findClass_of_methodNamed B.named, fun w hw => atoms_spec (ws := w_Mo_reader) B.pre w (List.mem_cons_of_mem _ hw), B.notSynchronized, hK, fun q hq => Or.inr (by rw [← hW.1]; exact hq)⟩
  have hS : va_S (mm_A M0) s.heap s.heap [] := va_S.rf
  obtain ⟨hx, hb, hr, hml, hown, hts, hlocks, hK, hA⟩ := id C
  have hl := lv_entry ([.ref v0, .int v1, .int v2]) (n := 3) (Nat.le_of_ble_eq_true rfl)
  rw [lg_entry_eq]
  generalize (lg_sl ([.ref v0, .int v1, .int v2]) ++ List.replicate (3 - (lg_sl ([.ref v0, .int v1, .int v2])).length) Slot.unset).toArray = ls at hl ⊢
  have hl : lv_has ls 3 [(0, .ref v0), (1, .int v1), (2, .int v2)] := hl
  unfold f_Mo_reader at h
  refine lv_aload_n hx hb d_Mo_reader_0 rfl (lv_at hl 0 rfl) ?_
  refine lv_iconst (v := 0) hx hb d_Mo_reader_1 (by decide) ?_
  obtain ⟨M1, e1, h⟩ := ob h
  refine mr_put C hW hS kp_Mo_90 rfl rfl e1 d_Mo_reader_2 (fun H locs hW hS => ?_)
  refine lv_iload_n hx hb d_Mo_reader_5 rfl (lv_at hl 1 rfl) ?_
  refine lv_iconst (v := 0) hx hb d_Mo_reader_6 (by decide) ?_
  refine lv_bipush (v := 99) hx hb d_Mo_reader_7 (by decide) ?_
  obtain ⟨⟨x2, M2⟩, e2, h⟩ := ob h
  refine mr_ci C hW hS (va_runS (As := [.int v1, .int 0, .int 99]) (rest := []) ⟨hx, hb, hml, hown, hts⟩ (c_Mo_in1 l D dA _ _ _ v1 0 99 e2) (cwS 3 hts (mg_S q_264 q_265 q_266 q_267) rfl rfl rfl (by decide +kernel) ⟨Nat.le_of_ble_eq_true rfl, Nat.le_of_ble_eq_true rfl⟩) (mr_pre C hW) rfl rfl hl.1 rfl (lv_room (Nat.le_of_ble_eq_true rfl)) d_Mo_reader_9 ⟨Nat.le_of_ble_eq_true rfl, Nat.le_of_ble_eq_true rfl⟩) (fun H locs hW hS => ?_)
  refine lv_if_ne (tgt := 17) hx hb d_Mo_reader_12 (by decide) (fun c3 => ?_) (fun c3 => ?_)
  · have h := ifn h c3
    refine lv_iload_n hx hb d_Mo_reader_17 rfl (lv_at hl 2 rfl) ?_
    refine lv_iconst (v := 0) hx hb d_Mo_reader_18 (by decide) ?_
    refine lv_bipush (v := 9) hx hb d_Mo_reader_19 (by decide) ?_
    obtain ⟨⟨x4, M4⟩, e4, h⟩ := ob h
    refine mr_ci C hW hS (va_runS (As := [.int v2, .int 0, .int 9]) (rest := []) ⟨hx, hb, hml, hown, hts⟩ (c_Mo_in1 l D dA _ _ _ v2 0 9 e4) (cwS 3 hts (mg_S q_264 q_265 q_266 q_267) rfl rfl rfl (by decide +kernel) ⟨Nat.le_of_ble_eq_true rfl, Nat.le_of_ble_eq_true rfl⟩) (mr_pre C hW) rfl rfl hl.1 rfl (lv_room (Nat.le_of_ble_eq_true rfl)) d_Mo_reader_21 ⟨Nat.le_of_ble_eq_true rfl, Nat.le_of_ble_eq_true rfl⟩) (fun H locs hW hS => ?_)
    refine lv_if_ne (tgt := 30) hx hb d_Mo_reader_24 (by decide) (fun c5 => ?_) (fun c5 => ?_)
    · have h := ifn h c5
      refine lv_aload_n hx hb d_Mo_reader_30 rfl (lv_at hl 0 rfl) ?_
      obtain ⟨x6, e6, h⟩ := ob h
      refine mr_gR C hW k_Mo_72 e6 d_Mo_reader_31 ?_
      refine lv_iload_n hx hb d_Mo_reader_34 rfl (lv_at hl 1 rfl) ?_
      refine lv_iload_n hx hb d_Mo_reader_35 rfl (lv_at hl 2 rfl) ?_
      obtain ⟨M7, e7, h⟩ := ob h
      refine mr_sI C hW hS e7 d_Mo_reader_36 (fun H locs hW hS => ?_)
      refine lv_iconst (v := 1) hx hb d_Mo_reader_37 (by decide) ?_
      exact mr_iret C hW hS (Nat.le_of_ble_eq_true rfl) (Nat.le_of_ble_eq_true rfl) h d_Mo_reader_38
    · have h := ifp h c5
      refine lv_bipush (v := (-2)) hx hb d_Mo_reader_27 (by decide) ?_
      exact mr_iret C hW hS (Nat.le_of_ble_eq_true rfl) (Nat.le_of_ble_eq_true rfl) h d_Mo_reader_29
  · have h := ifp h c3
    refine lv_iconst (v := (-1)) hx hb d_Mo_reader_15 (by decide) ?_
    exact mr_iret C hW hS (Nat.le_of_ble_eq_true rfl) (Nat.le_of_ble_eq_true rfl) h d_Mo_reader_16
def f_Mo_placeIn_b2 : Nat → Nat → Int32 → Int32 → Int32 → mm → Option (Int32 × mm)
  | 0, _, _, _, _, _ => none
  | n + 1, v0, v1, v2, v3, M =>
    (gR 1 5 M v0).bind fun x1 =>
    (aI M x1 v1).bind fun x2 =>
    if x2 ≤ v3 then
      some ((-1), M)
    else
      (gR 1 6 M v0).bind fun x4 =>
      (aI M x4 ((100 * v1) + v3)).bind fun x5 =>
      if x5 = v2 then
        some (v3, M)
      else
        f_Mo_placeIn_b2 n v0 v1 v2 (v3 + 1) M
def f_Mo_placeIn (v0 : Nat) (v1 : Int32) (v2 : Int32) (M : mm) : Option (Int32 × mm) :=
    f_Mo_placeIn_b2 FU v0 v1 v2 0 M
set_option maxHeartbeats 4000000 in
set_option maxRecDepth 100000 in
theorem w_Mo_placeIn_b2 {p : Program} {l : Launch} {e : Env} {s : State} {m : MethodId} {args : Array Value} {below : List Frame} {meth : Method} {c : Code} {D : va_G} {dA : Nat → ClassId} {M0 M' : mm} {r : Int32} (C : mm_C p s m args meth c b_Mo_placeIn 4 (some .int) R_Mo D dA (mm_A M0)) : ∀ (n : Nat), ∀ (v0 : Nat) (v1 : Int32) (v2 : Int32) (v3 : Int32) (M : mm) (H : Heap) (locs : List Loc) (ls : Array Slot), f_Mo_placeIn_b2 n v0 v1 v2 v3 M = some (r, M') → mm_W D dA (mm_A M0) M H → va_S (mm_A M0) s.heap H locs → lv_has ls 4 [(0, .ref v0), (1, .int v1), (2, .int v2), (3, .int v3)] → W p l e rm_Mo_placeIn s m args below meth c H locs 0 0 (MQ below (mm_QI D dA M0 r M') args s 0 0 (mm_A M0)) (F0 m 2 ls []) := by
  obtain ⟨hx, hb, hr, hml, hown, hts, hlocks, hK, hA⟩ := id C
  intro n
  induction n with
  | zero =>
    intro v0 v1 v2 v3 M H locs ls h hW hS hl
    unfold f_Mo_placeIn_b2 at h
    cases h
  | succ n ih =>
    intro v0 v1 v2 v3 M H locs ls h hW hS hl
    unfold f_Mo_placeIn_b2 at h
    refine lv_iload_n hx hb d_Mo_placeIn_2 rfl (lv_at hl 3 rfl) ?_
    refine lv_aload_n hx hb d_Mo_placeIn_3 rfl (lv_at hl 0 rfl) ?_
    obtain ⟨x1, e1, h⟩ := ob h
    refine mr_gR C hW k_Mo_20 e1 d_Mo_placeIn_4 ?_
    refine lv_iload_n hx hb d_Mo_placeIn_7 rfl (lv_at hl 1 rfl) ?_
    obtain ⟨x2, e2, h⟩ := ob h
    refine mr_aI C hW e2 d_Mo_placeIn_8 ?_
    refine lv_icmp_ge (tgt := 35) hx hb d_Mo_placeIn_9 (by decide) (fun c3 => ?_) (fun c3 => ?_)
    · have h := ifp h c3
      refine lv_iconst (v := (-1)) hx hb d_Mo_placeIn_35 (by decide) ?_
      exact mr_iret C hW hS (Nat.le_of_ble_eq_true rfl) (Nat.le_of_ble_eq_true rfl) h d_Mo_placeIn_36
    · have h := ifn h c3
      refine lv_aload_n hx hb d_Mo_placeIn_12 rfl (lv_at hl 0 rfl) ?_
      obtain ⟨x4, e4, h⟩ := ob h
      refine mr_gR C hW k_Mo_23 e4 d_Mo_placeIn_13 ?_
      refine lv_bipush (v := 100) hx hb d_Mo_placeIn_16 (by decide) ?_
      refine lv_iload_n hx hb d_Mo_placeIn_18 rfl (lv_at hl 1 rfl) ?_
      refine lv_imul hx hb d_Mo_placeIn_19 ?_
      refine lv_iload_n hx hb d_Mo_placeIn_20 rfl (lv_at hl 3 rfl) ?_
      refine lv_iadd hx hb d_Mo_placeIn_21 ?_
      obtain ⟨x5, e5, h⟩ := ob h
      refine mr_aI C hW e5 d_Mo_placeIn_22 ?_
      refine lv_iload_n hx hb d_Mo_placeIn_23 rfl (lv_at hl 2 rfl) ?_
      refine lv_icmp_ne (tgt := 29) hx hb d_Mo_placeIn_24 (by decide) (fun c6 => ?_) (fun c6 => ?_)
      · have h := ifn h c6
        refine lv_iinc (v := v3 + 1) (lv' := [(3, .int (v3 + 1)), (0, .ref v0), (1, .int v1), (2, .int v2)]) hx hb d_Mo_placeIn_29 hl (k := 3) rfl rfl (by decide) rfl (fun ls hl => ?_)
        refine lv_goto (tgt := 2) hx hb d_Mo_placeIn_32 (by decide) ?_
        exact ih _ _ _ _ _ _ _ _ h hW hS (lv_sub hl [1, 2, 3, 0] rfl)
      · have h := ifp h c6
        refine lv_iload_n hx hb d_Mo_placeIn_27 rfl (lv_at hl 3 rfl) ?_
        exact mr_iret C hW hS (Nat.le_of_ble_eq_true rfl) (Nat.le_of_ble_eq_true rfl) h d_Mo_placeIn_28
set_option maxHeartbeats 4000000 in
set_option maxRecDepth 100000 in
theorem c_Mo_placeIn (l : Launch) (D : va_G) (dA : Nat → ClassId) (M0 M' : mm) (r : Int32) (v0 : Nat) (v1 : Int32) (v2 : Int32) (h : f_Mo_placeIn v0 v1 v2 M0 = some (r, M')) : Met l y_Mo_placeIn w_Mo_placeIn rm_Mo_placeIn (mm_Pre D dA M0 [.ref v0, .int v1, .int v2]) (mm_QI D dA M0 r M') 0 0 (mm_A M0) := by
  refine Met.ofW (cc := b_Mo_placeIn) (maxL := 4) (ret := (some .int)) (by decide) rfl ?_
  intro p e s m args below meth c s₁ B hml hv
  obtain ⟨rfl, hW, hK⟩ := hv
  have C : mm_C p s m _ meth c b_Mo_placeIn 4 (some .int) R_Mo D dA (mm_A M0) := ⟨B.exec, B.bytes, B.returns, hml, findClass_of_methodNamed B.named, fun w hw => atoms_spec (ws := w_Mo_placeIn) B.pre w (List.mem_cons_of_mem _ hw), B.notSynchronized, hK, fun q hq => Or.inr (by rw [← hW.1]; exact hq)⟩
  have hS : va_S (mm_A M0) s.heap s.heap [] := va_S.rf
  obtain ⟨hx, hb, hr, hml, hown, hts, hlocks, hK, hA⟩ := id C
  have hl := lv_entry ([.ref v0, .int v1, .int v2]) (n := 4) (Nat.le_of_ble_eq_true rfl)
  rw [lg_entry_eq]
  generalize (lg_sl ([.ref v0, .int v1, .int v2]) ++ List.replicate (4 - (lg_sl ([.ref v0, .int v1, .int v2])).length) Slot.unset).toArray = ls at hl ⊢
  have hl : lv_has ls 4 [(0, .ref v0), (1, .int v1), (2, .int v2)] := hl
  unfold f_Mo_placeIn at h
  refine lv_iconst (v := 0) hx hb d_Mo_placeIn_0 (by decide) ?_
  refine lv_istore_n (lv' := [(3, .int 0), (0, .ref v0), (1, .int v1), (2, .int v2)]) hx hb d_Mo_placeIn_1 rfl hl (by decide) rfl (fun ls hl => ?_)
  exact w_Mo_placeIn_b2 C FU _ _ _ _ _ _ _ _ h hW hS (lv_sub hl [1, 2, 3, 0] rfl)
def f_Mo_placeWaiting_b2 : Nat → Nat → Int32 → Int32 → Int32 → mm → Option (Int32 × mm)
  | 0, _, _, _, _, _ => none
  | n + 1, v0, v1, v2, v3, M =>
    (gR 1 7 M v0).bind fun x1 =>
    (aI M x1 v1).bind fun x2 =>
    if x2 ≤ v3 then
      some ((-1), M)
    else
      (gR 1 8 M v0).bind fun x4 =>
      (aI M x4 ((100 * v1) + v3)).bind fun x5 =>
      if x5 = v2 then
        some (v3, M)
      else
        f_Mo_placeWaiting_b2 n v0 v1 v2 (v3 + 1) M
def f_Mo_placeWaiting (v0 : Nat) (v1 : Int32) (v2 : Int32) (M : mm) : Option (Int32 × mm) :=
    f_Mo_placeWaiting_b2 FU v0 v1 v2 0 M
set_option maxHeartbeats 4000000 in
set_option maxRecDepth 100000 in
theorem w_Mo_placeWaiting_b2 {p : Program} {l : Launch} {e : Env} {s : State} {m : MethodId} {args : Array Value} {below : List Frame} {meth : Method} {c : Code} {D : va_G} {dA : Nat → ClassId} {M0 M' : mm} {r : Int32} (C : mm_C p s m args meth c b_Mo_placeWaiting 4 (some .int) R_Mo D dA (mm_A M0)) : ∀ (n : Nat), ∀ (v0 : Nat) (v1 : Int32) (v2 : Int32) (v3 : Int32) (M : mm) (H : Heap) (locs : List Loc) (ls : Array Slot), f_Mo_placeWaiting_b2 n v0 v1 v2 v3 M = some (r, M') → mm_W D dA (mm_A M0) M H → va_S (mm_A M0) s.heap H locs → lv_has ls 4 [(0, .ref v0), (1, .int v1), (2, .int v2), (3, .int v3)] → W p l e rm_Mo_placeWaiting s m args below meth c H locs 0 0 (MQ below (mm_QI D dA M0 r M') args s 0 0 (mm_A M0)) (F0 m 2 ls []) := by
  obtain ⟨hx, hb, hr, hml, hown, hts, hlocks, hK, hA⟩ := id C
  intro n
  induction n with
  | zero =>
    intro v0 v1 v2 v3 M H locs ls h hW hS hl
    unfold f_Mo_placeWaiting_b2 at h
    cases h
  | succ n ih =>
    intro v0 v1 v2 v3 M H locs ls h hW hS hl
    unfold f_Mo_placeWaiting_b2 at h
    refine lv_iload_n hx hb d_Mo_placeWaiting_2 rfl (lv_at hl 3 rfl) ?_
    refine lv_aload_n hx hb d_Mo_placeWaiting_3 rfl (lv_at hl 0 rfl) ?_
    obtain ⟨x1, e1, h⟩ := ob h
    refine mr_gR C hW k_Mo_26 e1 d_Mo_placeWaiting_4 ?_
    refine lv_iload_n hx hb d_Mo_placeWaiting_7 rfl (lv_at hl 1 rfl) ?_
    obtain ⟨x2, e2, h⟩ := ob h
    refine mr_aI C hW e2 d_Mo_placeWaiting_8 ?_
    refine lv_icmp_ge (tgt := 35) hx hb d_Mo_placeWaiting_9 (by decide) (fun c3 => ?_) (fun c3 => ?_)
    · have h := ifp h c3
      refine lv_iconst (v := (-1)) hx hb d_Mo_placeWaiting_35 (by decide) ?_
      exact mr_iret C hW hS (Nat.le_of_ble_eq_true rfl) (Nat.le_of_ble_eq_true rfl) h d_Mo_placeWaiting_36
    · have h := ifn h c3
      refine lv_aload_n hx hb d_Mo_placeWaiting_12 rfl (lv_at hl 0 rfl) ?_
      obtain ⟨x4, e4, h⟩ := ob h
      refine mr_gR C hW k_Mo_29 e4 d_Mo_placeWaiting_13 ?_
      refine lv_bipush (v := 100) hx hb d_Mo_placeWaiting_16 (by decide) ?_
      refine lv_iload_n hx hb d_Mo_placeWaiting_18 rfl (lv_at hl 1 rfl) ?_
      refine lv_imul hx hb d_Mo_placeWaiting_19 ?_
      refine lv_iload_n hx hb d_Mo_placeWaiting_20 rfl (lv_at hl 3 rfl) ?_
      refine lv_iadd hx hb d_Mo_placeWaiting_21 ?_
      obtain ⟨x5, e5, h⟩ := ob h
      refine mr_aI C hW e5 d_Mo_placeWaiting_22 ?_
      refine lv_iload_n hx hb d_Mo_placeWaiting_23 rfl (lv_at hl 2 rfl) ?_
      refine lv_icmp_ne (tgt := 29) hx hb d_Mo_placeWaiting_24 (by decide) (fun c6 => ?_) (fun c6 => ?_)
      · have h := ifn h c6
        refine lv_iinc (v := v3 + 1) (lv' := [(3, .int (v3 + 1)), (0, .ref v0), (1, .int v1), (2, .int v2)]) hx hb d_Mo_placeWaiting_29 hl (k := 3) rfl rfl (by decide) rfl (fun ls hl => ?_)
        refine lv_goto (tgt := 2) hx hb d_Mo_placeWaiting_32 (by decide) ?_
        exact ih _ _ _ _ _ _ _ _ h hW hS (lv_sub hl [1, 2, 3, 0] rfl)
      · have h := ifp h c6
        refine lv_iload_n hx hb d_Mo_placeWaiting_27 rfl (lv_at hl 3 rfl) ?_
        exact mr_iret C hW hS (Nat.le_of_ble_eq_true rfl) (Nat.le_of_ble_eq_true rfl) h d_Mo_placeWaiting_28
set_option maxHeartbeats 4000000 in
set_option maxRecDepth 100000 in
theorem c_Mo_placeWaiting (l : Launch) (D : va_G) (dA : Nat → ClassId) (M0 M' : mm) (r : Int32) (v0 : Nat) (v1 : Int32) (v2 : Int32) (h : f_Mo_placeWaiting v0 v1 v2 M0 = some (r, M')) : Met l y_Mo_placeWaiting w_Mo_placeWaiting rm_Mo_placeWaiting (mm_Pre D dA M0 [.ref v0, .int v1, .int v2]) (mm_QI D dA M0 r M') 0 0 (mm_A M0) := by
  refine Met.ofW (cc := b_Mo_placeWaiting) (maxL := 4) (ret := (some .int)) (by decide) rfl ?_
  intro p e s m args below meth c s₁ B hml hv
  obtain ⟨rfl, hW, hK⟩ := hv
  have C : mm_C p s m _ meth c b_Mo_placeWaiting 4 (some .int) R_Mo D dA (mm_A M0) := ⟨B.exec, B.bytes, B.returns, hml, findClass_of_methodNamed B.named, fun w hw => atoms_spec (ws := w_Mo_placeWaiting) B.pre w (List.mem_cons_of_mem _ hw), B.notSynchronized, hK, fun q hq => Or.inr (by rw [← hW.1]; exact hq)⟩
  have hS : va_S (mm_A M0) s.heap s.heap [] := va_S.rf
  obtain ⟨hx, hb, hr, hml, hown, hts, hlocks, hK, hA⟩ := id C
  have hl := lv_entry ([.ref v0, .int v1, .int v2]) (n := 4) (Nat.le_of_ble_eq_true rfl)
  rw [lg_entry_eq]
  generalize (lg_sl ([.ref v0, .int v1, .int v2]) ++ List.replicate (4 - (lg_sl ([.ref v0, .int v1, .int v2])).length) Slot.unset).toArray = ls at hl ⊢
  have hl : lv_has ls 4 [(0, .ref v0), (1, .int v1), (2, .int v2)] := hl
  unfold f_Mo_placeWaiting at h
  refine lv_iconst (v := 0) hx hb d_Mo_placeWaiting_0 (by decide) ?_
  refine lv_istore_n (lv' := [(3, .int 0), (0, .ref v0), (1, .int v1), (2, .int v2)]) hx hb d_Mo_placeWaiting_1 rfl hl (by decide) rfl (fun ls hl => ?_)
  exact w_Mo_placeWaiting_b2 C FU _ _ _ _ _ _ _ _ h hW hS (lv_sub hl [1, 2, 3, 0] rfl)
