theorem d_Mo_fits_0 : decode b_Mo_fits 0 = .ok (.aload_n 0, 1) := by decide +kernel
theorem d_Mo_fits_1 : decode b_Mo_fits 1 = .ok (.getfield 56, 3) := by decide +kernel
theorem d_Mo_fits_4 : decode b_Mo_fits 4 = .ok (.iload_n 1, 1) := by decide +kernel
theorem d_Mo_fits_5 : decode b_Mo_fits 5 = .ok (.iaload, 1) := by decide +kernel
theorem d_Mo_fits_6 : decode b_Mo_fits 6 = .ok (.tableswitch 92 0 2 #[26, 47, 68], 26) := by decide +kernel
theorem d_Mo_fits_32 : decode b_Mo_fits 32 = .ok (.aload_n 0, 1) := by decide +kernel
theorem d_Mo_fits_33 : decode b_Mo_fits 33 = .ok (.getfield 72, 3) := by decide +kernel
theorem d_Mo_fits_36 : decode b_Mo_fits 36 = .ok (.iload_n 2, 1) := by decide +kernel
theorem d_Mo_fits_37 : decode b_Mo_fits 37 = .ok (.iaload, 1) := by decide +kernel
theorem d_Mo_fits_38 : decode b_Mo_fits 38 = .ok (.aload_n 0, 1) := by decide +kernel
theorem d_Mo_fits_39 : decode b_Mo_fits 39 = .ok (.getfield 62, 3) := by decide +kernel
theorem d_Mo_fits_42 : decode b_Mo_fits 42 = .ok (.iload_n 1, 1) := by decide +kernel
theorem d_Mo_fits_43 : decode b_Mo_fits 43 = .ok (.iaload, 1) := by decide +kernel
theorem d_Mo_fits_44 : decode b_Mo_fits 44 = .ok (.if_icmp .ne 7, 3) := by decide +kernel
theorem d_Mo_fits_47 : decode b_Mo_fits 47 = .ok (.iconst 1, 1) := by decide +kernel
theorem d_Mo_fits_48 : decode b_Mo_fits 48 = .ok (.goto 4, 3) := by decide +kernel
theorem d_Mo_fits_51 : decode b_Mo_fits 51 = .ok (.iconst 0, 1) := by decide +kernel
theorem d_Mo_fits_52 : decode b_Mo_fits 52 = .ok (.ireturn, 1) := by decide +kernel
theorem d_Mo_fits_53 : decode b_Mo_fits 53 = .ok (.aload_n 0, 1) := by decide +kernel
theorem d_Mo_fits_54 : decode b_Mo_fits 54 = .ok (.getfield 35, 3) := by decide +kernel
theorem d_Mo_fits_57 : decode b_Mo_fits 57 = .ok (.iload_n 3, 1) := by decide +kernel
theorem d_Mo_fits_58 : decode b_Mo_fits 58 = .ok (.iaload, 1) := by decide +kernel
theorem d_Mo_fits_59 : decode b_Mo_fits 59 = .ok (.aload_n 0, 1) := by decide +kernel
theorem d_Mo_fits_60 : decode b_Mo_fits 60 = .ok (.getfield 62, 3) := by decide +kernel
theorem d_Mo_fits_63 : decode b_Mo_fits 63 = .ok (.iload_n 1, 1) := by decide +kernel
theorem d_Mo_fits_64 : decode b_Mo_fits 64 = .ok (.iaload, 1) := by decide +kernel
theorem d_Mo_fits_65 : decode b_Mo_fits 65 = .ok (.if_icmp .ge 7, 3) := by decide +kernel
theorem d_Mo_fits_68 : decode b_Mo_fits 68 = .ok (.iconst 1, 1) := by decide +kernel
theorem d_Mo_fits_69 : decode b_Mo_fits 69 = .ok (.goto 4, 3) := by decide +kernel
theorem d_Mo_fits_72 : decode b_Mo_fits 72 = .ok (.iconst 0, 1) := by decide +kernel
theorem d_Mo_fits_73 : decode b_Mo_fits 73 = .ok (.ireturn, 1) := by decide +kernel
theorem d_Mo_fits_74 : decode b_Mo_fits 74 = .ok (.aload_n 0, 1) := by decide +kernel
theorem d_Mo_fits_75 : decode b_Mo_fits 75 = .ok (.getfield 62, 3) := by decide +kernel
theorem d_Mo_fits_78 : decode b_Mo_fits 78 = .ok (.iload_n 1, 1) := by decide +kernel
theorem d_Mo_fits_79 : decode b_Mo_fits 79 = .ok (.iaload, 1) := by decide +kernel
theorem d_Mo_fits_80 : decode b_Mo_fits 80 = .ok (.iload 4, 2) := by decide +kernel
theorem d_Mo_fits_82 : decode b_Mo_fits 82 = .ok (.bipush 7, 2) := by decide +kernel
theorem d_Mo_fits_84 : decode b_Mo_fits 84 = .ok (.irem, 1) := by decide +kernel
theorem d_Mo_fits_85 : decode b_Mo_fits 85 = .ok (.ishr, 1) := by decide +kernel
theorem d_Mo_fits_86 : decode b_Mo_fits 86 = .ok (.iconst 1, 1) := by decide +kernel
theorem d_Mo_fits_87 : decode b_Mo_fits 87 = .ok (.iand, 1) := by decide +kernel
theorem d_Mo_fits_88 : decode b_Mo_fits 88 = .ok (.iconst 1, 1) := by decide +kernel
theorem d_Mo_fits_89 : decode b_Mo_fits 89 = .ok (.if_icmp .ne 7, 3) := by decide +kernel
theorem d_Mo_fits_92 : decode b_Mo_fits 92 = .ok (.iconst 1, 1) := by decide +kernel
theorem d_Mo_fits_93 : decode b_Mo_fits 93 = .ok (.goto 4, 3) := by decide +kernel
theorem d_Mo_fits_96 : decode b_Mo_fits 96 = .ok (.iconst 0, 1) := by decide +kernel
theorem d_Mo_fits_97 : decode b_Mo_fits 97 = .ok (.ireturn, 1) := by decide +kernel
theorem d_Mo_fits_98 : decode b_Mo_fits 98 = .ok (.aload_n 0, 1) := by decide +kernel
theorem d_Mo_fits_99 : decode b_Mo_fits 99 = .ok (.iload_n 2, 1) := by decide +kernel
theorem d_Mo_fits_100 : decode b_Mo_fits 100 = .ok (.iload 4, 2) := by decide +kernel
theorem d_Mo_fits_102 : decode b_Mo_fits 102 = .ok (.bipush 30, 2) := by decide +kernel
theorem d_Mo_fits_104 : decode b_Mo_fits 104 = .ok (.idiv, 1) := by decide +kernel
theorem d_Mo_fits_105 : decode b_Mo_fits 105 = .ok (.invokevirtual 145, 3) := by decide +kernel
theorem d_Mo_fits_108 : decode b_Mo_fits 108 = .ok (.aload_n 0, 1) := by decide +kernel
theorem d_Mo_fits_109 : decode b_Mo_fits 109 = .ok (.getfield 62, 3) := by decide +kernel
theorem d_Mo_fits_112 : decode b_Mo_fits 112 = .ok (.iload_n 1, 1) := by decide +kernel
theorem d_Mo_fits_113 : decode b_Mo_fits 113 = .ok (.iaload, 1) := by decide +kernel
theorem d_Mo_fits_114 : decode b_Mo_fits 114 = .ok (.if_icmp .lt 7, 3) := by decide +kernel
theorem d_Mo_fits_117 : decode b_Mo_fits 117 = .ok (.iconst 1, 1) := by decide +kernel
theorem d_Mo_fits_118 : decode b_Mo_fits 118 = .ok (.goto 4, 3) := by decide +kernel
theorem d_Mo_fits_121 : decode b_Mo_fits 121 = .ok (.iconst 0, 1) := by decide +kernel
theorem d_Mo_fits_122 : decode b_Mo_fits 122 = .ok (.ireturn, 1) := by decide +kernel
theorem d_Mo_allows_0 : decode b_Mo_allows 0 = .ok (.aload_n 0, 1) := by decide +kernel
theorem d_Mo_allows_1 : decode b_Mo_allows 1 = .ok (.iconst (-1), 1) := by decide +kernel
theorem d_Mo_allows_2 : decode b_Mo_allows 2 = .ok (.putfield 68, 3) := by decide +kernel
theorem d_Mo_allows_5 : decode b_Mo_allows 5 = .ok (.iconst 0, 1) := by decide +kernel
theorem d_Mo_allows_6 : decode b_Mo_allows 6 = .ok (.istore 4, 2) := by decide +kernel
theorem d_Mo_allows_8 : decode b_Mo_allows 8 = .ok (.iload 4, 2) := by decide +kernel
theorem d_Mo_allows_10 : decode b_Mo_allows 10 = .ok (.aload_n 0, 1) := by decide +kernel
theorem d_Mo_allows_11 : decode b_Mo_allows 11 = .ok (.getfield 122, 3) := by decide +kernel
theorem d_Mo_allows_14 : decode b_Mo_allows 14 = .ok (.if_icmp .ge 82, 3) := by decide +kernel
theorem d_Mo_allows_17 : decode b_Mo_allows 17 = .ok (.aload_n 0, 1) := by decide +kernel
theorem d_Mo_allows_18 : decode b_Mo_allows 18 = .ok (.getfield 53, 3) := by decide +kernel
theorem d_Mo_allows_21 : decode b_Mo_allows 21 = .ok (.iload 4, 2) := by decide +kernel
theorem d_Mo_allows_23 : decode b_Mo_allows 23 = .ok (.iaload, 1) := by decide +kernel
theorem d_Mo_allows_24 : decode b_Mo_allows 24 = .ok (.aload_n 0, 1) := by decide +kernel
theorem d_Mo_allows_25 : decode b_Mo_allows 25 = .ok (.getfield 32, 3) := by decide +kernel
theorem d_Mo_allows_28 : decode b_Mo_allows 28 = .ok (.iload_n 2, 1) := by decide +kernel
theorem d_Mo_allows_29 : decode b_Mo_allows 29 = .ok (.iaload, 1) := by decide +kernel
theorem d_Mo_allows_30 : decode b_Mo_allows 30 = .ok (.if_icmp .eq 6, 3) := by decide +kernel
theorem d_Mo_allows_33 : decode b_Mo_allows 33 = .ok (.goto 57, 3) := by decide +kernel
theorem d_Mo_allows_36 : decode b_Mo_allows 36 = .ok (.aload_n 0, 1) := by decide +kernel
theorem d_Mo_allows_37 : decode b_Mo_allows 37 = .ok (.getfield 65, 3) := by decide +kernel
theorem d_Mo_allows_40 : decode b_Mo_allows 40 = .ok (.iload 4, 2) := by decide +kernel
theorem d_Mo_allows_42 : decode b_Mo_allows 42 = .ok (.baload, 1) := by decide +kernel
theorem d_Mo_allows_43 : decode b_Mo_allows 43 = .ok (.ifCond .eq 18, 3) := by decide +kernel
theorem d_Mo_allows_46 : decode b_Mo_allows 46 = .ok (.aload_n 0, 1) := by decide +kernel
theorem d_Mo_allows_47 : decode b_Mo_allows 47 = .ok (.iload 4, 2) := by decide +kernel
theorem d_Mo_allows_49 : decode b_Mo_allows 49 = .ok (.putfield 68, 3) := by decide +kernel
theorem d_Mo_allows_52 : decode b_Mo_allows 52 = .ok (.aload_n 0, 1) := by decide +kernel
theorem d_Mo_allows_53 : decode b_Mo_allows 53 = .ok (.iconst 1, 1) := by decide +kernel
theorem d_Mo_allows_54 : decode b_Mo_allows 54 = .ok (.iload 4, 2) := by decide +kernel
theorem d_Mo_allows_56 : decode b_Mo_allows 56 = .ok (.invokevirtual 148, 3) := by decide +kernel
theorem d_Mo_allows_59 : decode b_Mo_allows 59 = .ok (.iconst 0, 1) := by decide +kernel
theorem d_Mo_allows_60 : decode b_Mo_allows 60 = .ok (.ireturn, 1) := by decide +kernel
theorem d_Mo_allows_61 : decode b_Mo_allows 61 = .ok (.aload_n 0, 1) := by decide +kernel
theorem d_Mo_allows_62 : decode b_Mo_allows 62 = .ok (.iload 4, 2) := by decide +kernel
theorem d_Mo_allows_64 : decode b_Mo_allows 64 = .ok (.iload_n 1, 1) := by decide +kernel
theorem d_Mo_allows_65 : decode b_Mo_allows 65 = .ok (.iload_n 2, 1) := by decide +kernel
theorem d_Mo_allows_66 : decode b_Mo_allows 66 = .ok (.iload_n 3, 1) := by decide +kernel
theorem d_Mo_allows_67 : decode b_Mo_allows 67 = .ok (.invokevirtual 151, 3) := by decide +kernel
theorem d_Mo_allows_70 : decode b_Mo_allows 70 = .ok (.ifCond .eq 20, 3) := by decide +kernel
theorem d_Mo_allows_73 : decode b_Mo_allows 73 = .ok (.aload_n 0, 1) := by decide +kernel
theorem d_Mo_allows_74 : decode b_Mo_allows 74 = .ok (.getfield 59, 3) := by decide +kernel
theorem d_Mo_allows_77 : decode b_Mo_allows 77 = .ok (.iload 4, 2) := by decide +kernel
theorem d_Mo_allows_79 : decode b_Mo_allows 79 = .ok (.iaload, 1) := by decide +kernel
theorem d_Mo_allows_80 : decode b_Mo_allows 80 = .ok (.iconst 1, 1) := by decide +kernel
theorem d_Mo_allows_81 : decode b_Mo_allows 81 = .ok (.if_icmp .ne 7, 3) := by decide +kernel
theorem d_Mo_allows_84 : decode b_Mo_allows 84 = .ok (.iconst 1, 1) := by decide +kernel
theorem d_Mo_allows_85 : decode b_Mo_allows 85 = .ok (.goto 4, 3) := by decide +kernel
theorem d_Mo_allows_88 : decode b_Mo_allows 88 = .ok (.iconst 0, 1) := by decide +kernel
theorem d_Mo_allows_89 : decode b_Mo_allows 89 = .ok (.ireturn, 1) := by decide +kernel
theorem d_Mo_allows_90 : decode b_Mo_allows 90 = .ok (.iinc 4 1, 3) := by decide +kernel
theorem d_Mo_allows_93 : decode b_Mo_allows 93 = .ok (.goto (-85), 3) := by decide +kernel
theorem d_Mo_allows_96 : decode b_Mo_allows 96 = .ok (.iconst 0, 1) := by decide +kernel
theorem d_Mo_allows_97 : decode b_Mo_allows 97 = .ok (.ireturn, 1) := by decide +kernel
theorem d_Mo_access_0 : decode b_Mo_access 0 = .ok (.aload_n 0, 1) := by decide +kernel
theorem d_Mo_access_1 : decode b_Mo_access 1 = .ok (.iconst 0, 1) := by decide +kernel
theorem d_Mo_access_2 : decode b_Mo_access 2 = .ok (.putfield 90, 3) := by decide +kernel
theorem d_Mo_access_5 : decode b_Mo_access 5 = .ok (.aload_n 0, 1) := by decide +kernel
theorem d_Mo_access_6 : decode b_Mo_access 6 = .ok (.iload_n 2, 1) := by decide +kernel
theorem d_Mo_access_7 : decode b_Mo_access 7 = .ok (.invokevirtual 115, 3) := by decide +kernel
theorem d_Mo_access_10 : decode b_Mo_access 10 = .ok (.ifCond .eq 13, 3) := by decide +kernel
theorem d_Mo_access_13 : decode b_Mo_access 13 = .ok (.iload_n 1, 1) := by decide +kernel
theorem d_Mo_access_14 : decode b_Mo_access 14 = .ok (.iconst 0, 1) := by decide +kernel
theorem d_Mo_access_15 : decode b_Mo_access 15 = .ok (.bipush 99, 2) := by decide +kernel
theorem d_Mo_access_17 : decode b_Mo_access 17 = .ok (.invokestatic 94, 3) := by decide +kernel
theorem d_Mo_access_20 : decode b_Mo_access 20 = .ok (.ifCond .ne 5, 3) := by decide +kernel
theorem d_Mo_access_23 : decode b_Mo_access 23 = .ok (.iconst (-1), 1) := by decide +kernel
theorem d_Mo_access_24 : decode b_Mo_access 24 = .ok (.ireturn, 1) := by decide +kernel
theorem d_Mo_access_25 : decode b_Mo_access 25 = .ok (.iload_n 3, 1) := by decide +kernel
theorem d_Mo_access_26 : decode b_Mo_access 26 = .ok (.invokestatic 118, 3) := by decide +kernel
theorem d_Mo_access_29 : decode b_Mo_access 29 = .ok (.ifCond .eq 11, 3) := by decide +kernel
theorem d_Mo_access_32 : decode b_Mo_access 32 = .ok (.iload 4, 2) := by decide +kernel
theorem d_Mo_access_34 : decode b_Mo_access 34 = .ok (.invokestatic 118, 3) := by decide +kernel
theorem d_Mo_access_37 : decode b_Mo_access 37 = .ok (.ifCond .ne 6, 3) := by decide +kernel
theorem d_Mo_access_40 : decode b_Mo_access 40 = .ok (.bipush (-2), 2) := by decide +kernel
theorem d_Mo_access_42 : decode b_Mo_access 42 = .ok (.ireturn, 1) := by decide +kernel
theorem d_Mo_access_43 : decode b_Mo_access 43 = .ok (.aload_n 0, 1) := by decide +kernel
theorem d_Mo_access_44 : decode b_Mo_access 44 = .ok (.getfield 32, 3) := by decide +kernel
theorem d_Mo_access_47 : decode b_Mo_access 47 = .ok (.iload_n 2, 1) := by decide +kernel
theorem d_Mo_access_48 : decode b_Mo_access 48 = .ok (.iaload, 1) := by decide +kernel
theorem d_Mo_access_49 : decode b_Mo_access 49 = .ok (.istore 5, 2) := by decide +kernel
theorem d_Mo_access_51 : decode b_Mo_access 51 = .ok (.aload_n 0, 1) := by decide +kernel
theorem d_Mo_access_52 : decode b_Mo_access 52 = .ok (.getfield 38, 3) := by decide +kernel
theorem d_Mo_access_55 : decode b_Mo_access 55 = .ok (.iload_n 2, 1) := by decide +kernel
theorem d_Mo_access_56 : decode b_Mo_access 56 = .ok (.baload, 1) := by decide +kernel
theorem d_Mo_access_57 : decode b_Mo_access 57 = .ok (.ifCond .eq 5, 3) := by decide +kernel
theorem d_Mo_access_60 : decode b_Mo_access 60 = .ok (.iconst 1, 1) := by decide +kernel
theorem d_Mo_access_61 : decode b_Mo_access 61 = .ok (.ireturn, 1) := by decide +kernel
theorem d_Mo_access_62 : decode b_Mo_access 62 = .ok (.aload_n 0, 1) := by decide +kernel
theorem d_Mo_access_63 : decode b_Mo_access 63 = .ok (.getfield 17, 3) := by decide +kernel
theorem d_Mo_access_66 : decode b_Mo_access 66 = .ok (.iload 5, 2) := by decide +kernel
theorem d_Mo_access_68 : decode b_Mo_access 68 = .ok (.iaload, 1) := by decide +kernel
theorem d_Mo_access_69 : decode b_Mo_access 69 = .ok (.ifCond .lt 38, 3) := by decide +kernel
theorem d_Mo_access_72 : decode b_Mo_access 72 = .ok (.iload 4, 2) := by decide +kernel
theorem d_Mo_access_74 : decode b_Mo_access 74 = .ok (.aload_n 0, 1) := by decide +kernel
theorem d_Mo_access_75 : decode b_Mo_access 75 = .ok (.getfield 17, 3) := by decide +kernel
theorem d_Mo_access_78 : decode b_Mo_access 78 = .ok (.iload 5, 2) := by decide +kernel
theorem d_Mo_access_80 : decode b_Mo_access 80 = .ok (.iaload, 1) := by decide +kernel
theorem d_Mo_access_81 : decode b_Mo_access 81 = .ok (.if_icmp .lt 26, 3) := by decide +kernel
theorem d_Mo_access_84 : decode b_Mo_access 84 = .ok (.aload_n 0, 1) := by decide +kernel
theorem d_Mo_access_85 : decode b_Mo_access 85 = .ok (.getfield 7, 3) := by decide +kernel
theorem d_Mo_access_88 : decode b_Mo_access 88 = .ok (.iload 5, 2) := by decide +kernel
theorem d_Mo_access_90 : decode b_Mo_access 90 = .ok (.baload, 1) := by decide +kernel
theorem d_Mo_access_91 : decode b_Mo_access 91 = .ok (.ifCond .eq 14, 3) := by decide +kernel
theorem d_Mo_access_94 : decode b_Mo_access 94 = .ok (.iload_n 3, 1) := by decide +kernel
theorem d_Mo_access_95 : decode b_Mo_access 95 = .ok (.aload_n 0, 1) := by decide +kernel
theorem d_Mo_access_96 : decode b_Mo_access 96 = .ok (.getfield 17, 3) := by decide +kernel
theorem d_Mo_access_99 : decode b_Mo_access 99 = .ok (.iload 5, 2) := by decide +kernel
theorem d_Mo_access_101 : decode b_Mo_access 101 = .ok (.iaload, 1) := by decide +kernel
theorem d_Mo_access_102 : decode b_Mo_access 102 = .ok (.if_icmp .lt 5, 3) := by decide +kernel
theorem d_Mo_access_105 : decode b_Mo_access 105 = .ok (.iconst 2, 1) := by decide +kernel
theorem d_Mo_access_106 : decode b_Mo_access 106 = .ok (.ireturn, 1) := by decide +kernel
theorem d_Mo_access_107 : decode b_Mo_access 107 = .ok (.aload_n 0, 1) := by decide +kernel
theorem d_Mo_access_108 : decode b_Mo_access 108 = .ok (.iload_n 2, 1) := by decide +kernel
theorem d_Mo_access_109 : decode b_Mo_access 109 = .ok (.iload_n 3, 1) := by decide +kernel
theorem d_Mo_access_110 : decode b_Mo_access 110 = .ok (.invokevirtual 155, 3) := by decide +kernel
theorem d_Mo_access_113 : decode b_Mo_access 113 = .ok (.ifCond .ne 5, 3) := by decide +kernel
theorem d_Mo_access_116 : decode b_Mo_access 116 = .ok (.iconst 3, 1) := by decide +kernel
theorem d_Mo_access_117 : decode b_Mo_access 117 = .ok (.ireturn, 1) := by decide +kernel
theorem d_Mo_access_118 : decode b_Mo_access 118 = .ok (.iload_n 3, 1) := by decide +kernel
theorem d_Mo_access_119 : decode b_Mo_access 119 = .ok (.bipush 30, 2) := by decide +kernel
theorem d_Mo_access_121 : decode b_Mo_access 121 = .ok (.idiv, 1) := by decide +kernel
theorem d_Mo_access_122 : decode b_Mo_access 122 = .ok (.iload 4, 2) := by decide +kernel
theorem d_Mo_access_124 : decode b_Mo_access 124 = .ok (.bipush 30, 2) := by decide +kernel
theorem d_Mo_access_126 : decode b_Mo_access 126 = .ok (.idiv, 1) := by decide +kernel
theorem d_Mo_access_127 : decode b_Mo_access 127 = .ok (.aload_n 0, 1) := by decide +kernel
theorem d_Mo_access_128 : decode b_Mo_access 128 = .ok (.getfield 41, 3) := by decide +kernel
theorem d_Mo_access_131 : decode b_Mo_access 131 = .ok (.iload_n 2, 1) := by decide +kernel
theorem d_Mo_access_132 : decode b_Mo_access 132 = .ok (.iaload, 1) := by decide +kernel
theorem d_Mo_access_133 : decode b_Mo_access 133 = .ok (.isub, 1) := by decide +kernel
theorem d_Mo_access_134 : decode b_Mo_access 134 = .ok (.if_icmp .le 5, 3) := by decide +kernel
theorem d_Mo_access_137 : decode b_Mo_access 137 = .ok (.iconst 4, 1) := by decide +kernel
theorem d_Mo_access_138 : decode b_Mo_access 138 = .ok (.ireturn, 1) := by decide +kernel
theorem d_Mo_access_139 : decode b_Mo_access 139 = .ok (.aload_n 0, 1) := by decide +kernel
theorem d_Mo_access_140 : decode b_Mo_access 140 = .ok (.iload_n 1, 1) := by decide +kernel
theorem d_Mo_access_141 : decode b_Mo_access 141 = .ok (.iload_n 2, 1) := by decide +kernel
theorem d_Mo_access_142 : decode b_Mo_access 142 = .ok (.iload 4, 2) := by decide +kernel
theorem d_Mo_access_144 : decode b_Mo_access 144 = .ok (.invokevirtual 159, 3) := by decide +kernel
theorem d_Mo_access_147 : decode b_Mo_access 147 = .ok (.ifCond .ne 5, 3) := by decide +kernel
theorem d_Mo_access_150 : decode b_Mo_access 150 = .ok (.iconst 5, 1) := by decide +kernel
theorem d_Mo_access_151 : decode b_Mo_access 151 = .ok (.ireturn, 1) := by decide +kernel
theorem d_Mo_access_152 : decode b_Mo_access 152 = .ok (.aload_n 0, 1) := by decide +kernel
theorem d_Mo_access_153 : decode b_Mo_access 153 = .ok (.iload 5, 2) := by decide +kernel
theorem d_Mo_access_155 : decode b_Mo_access 155 = .ok (.iload_n 1, 1) := by decide +kernel
theorem d_Mo_access_156 : decode b_Mo_access 156 = .ok (.invokevirtual 136, 3) := by decide +kernel
theorem d_Mo_access_159 : decode b_Mo_access 159 = .ok (.ifCond .ge 6, 3) := by decide +kernel
theorem d_Mo_access_162 : decode b_Mo_access 162 = .ok (.bipush 6, 2) := by decide +kernel
theorem d_Mo_access_164 : decode b_Mo_access 164 = .ok (.ireturn, 1) := by decide +kernel
theorem d_Mo_access_165 : decode b_Mo_access 165 = .ok (.aload_n 0, 1) := by decide +kernel
theorem d_Mo_access_166 : decode b_Mo_access 166 = .ok (.getfield 75, 3) := by decide +kernel
theorem d_Mo_access_169 : decode b_Mo_access 169 = .ok (.aload_n 0, 1) := by decide +kernel
theorem d_Mo_access_170 : decode b_Mo_access 170 = .ok (.getfield 142, 3) := by decide +kernel
theorem d_Mo_access_173 : decode b_Mo_access 173 = .ok (.iload_n 1, 1) := by decide +kernel
theorem d_Mo_access_174 : decode b_Mo_access 174 = .ok (.iastore, 1) := by decide +kernel
theorem d_Mo_access_175 : decode b_Mo_access 175 = .ok (.aload_n 0, 1) := by decide +kernel
theorem d_Mo_access_176 : decode b_Mo_access 176 = .ok (.getfield 78, 3) := by decide +kernel
theorem d_Mo_access_179 : decode b_Mo_access 179 = .ok (.aload_n 0, 1) := by decide +kernel
theorem d_Mo_access_180 : decode b_Mo_access 180 = .ok (.getfield 142, 3) := by decide +kernel
theorem d_Mo_access_183 : decode b_Mo_access 183 = .ok (.iload_n 2, 1) := by decide +kernel
theorem d_Mo_access_184 : decode b_Mo_access 184 = .ok (.iastore, 1) := by decide +kernel
theorem d_Mo_access_185 : decode b_Mo_access 185 = .ok (.aload_n 0, 1) := by decide +kernel
theorem d_Mo_access_186 : decode b_Mo_access 186 = .ok (.getfield 81, 3) := by decide +kernel
theorem d_Mo_access_189 : decode b_Mo_access 189 = .ok (.aload_n 0, 1) := by decide +kernel
theorem d_Mo_access_190 : decode b_Mo_access 190 = .ok (.getfield 142, 3) := by decide +kernel
theorem d_Mo_access_193 : decode b_Mo_access 193 = .ok (.iload 4, 2) := by decide +kernel
theorem d_Mo_access_195 : decode b_Mo_access 195 = .ok (.bipush 30, 2) := by decide +kernel
theorem d_Mo_access_197 : decode b_Mo_access 197 = .ok (.idiv, 1) := by decide +kernel
theorem d_Mo_access_198 : decode b_Mo_access 198 = .ok (.iastore, 1) := by decide +kernel
theorem d_Mo_access_199 : decode b_Mo_access 199 = .ok (.aload_n 0, 1) := by decide +kernel
theorem d_Mo_access_200 : decode b_Mo_access 200 = .ok (.dup, 1) := by decide +kernel
theorem d_Mo_access_201 : decode b_Mo_access 201 = .ok (.getfield 142, 3) := by decide +kernel
theorem d_Mo_access_204 : decode b_Mo_access 204 = .ok (.iconst 1, 1) := by decide +kernel
theorem d_Mo_access_205 : decode b_Mo_access 205 = .ok (.iadd, 1) := by decide +kernel
theorem d_Mo_access_206 : decode b_Mo_access 206 = .ok (.putfield 142, 3) := by decide +kernel
theorem d_Mo_access_209 : decode b_Mo_access 209 = .ok (.iconst 0, 1) := by decide +kernel
theorem d_Mo_access_210 : decode b_Mo_access 210 = .ok (.ireturn, 1) := by decide +kernel
theorem d_Mo_failed_0 : decode b_Mo_failed 0 = .ok (.aload_n 0, 1) := by decide +kernel
theorem d_Mo_failed_1 : decode b_Mo_failed 1 = .ok (.iconst 0, 1) := by decide +kernel
theorem d_Mo_failed_2 : decode b_Mo_failed 2 = .ok (.putfield 90, 3) := by decide +kernel
theorem d_Mo_failed_5 : decode b_Mo_failed 5 = .ok (.aload_n 0, 1) := by decide +kernel
theorem d_Mo_failed_6 : decode b_Mo_failed 6 = .ok (.getfield 68, 3) := by decide +kernel
theorem d_Mo_failed_9 : decode b_Mo_failed 9 = .ok (.ireturn, 1) := by decide +kernel
theorem d_Mo_provider_0 : decode b_Mo_provider 0 = .ok (.aload_n 0, 1) := by decide +kernel
theorem d_Mo_provider_1 : decode b_Mo_provider 1 = .ok (.iconst 0, 1) := by decide +kernel
theorem d_Mo_provider_2 : decode b_Mo_provider 2 = .ok (.putfield 90, 3) := by decide +kernel
theorem d_Mo_provider_5 : decode b_Mo_provider 5 = .ok (.aload_n 0, 1) := by decide +kernel
theorem d_Mo_provider_6 : decode b_Mo_provider 6 = .ok (.iload_n 1, 1) := by decide +kernel
theorem d_Mo_provider_7 : decode b_Mo_provider 7 = .ok (.invokevirtual 107, 3) := by decide +kernel
theorem d_Mo_provider_10 : decode b_Mo_provider 10 = .ok (.ifCond .ne 5, 3) := by decide +kernel
theorem d_Mo_provider_13 : decode b_Mo_provider 13 = .ok (.iconst (-1), 1) := by decide +kernel
theorem d_Mo_provider_14 : decode b_Mo_provider 14 = .ok (.ireturn, 1) := by decide +kernel
theorem d_Mo_provider_15 : decode b_Mo_provider 15 = .ok (.aload_n 0, 1) := by decide +kernel
theorem d_Mo_provider_16 : decode b_Mo_provider 16 = .ok (.iload_n 1, 1) := by decide +kernel
theorem d_Mo_provider_17 : decode b_Mo_provider 17 = .ok (.iload_n 2, 1) := by decide +kernel
theorem d_Mo_provider_18 : decode b_Mo_provider 18 = .ok (.invokevirtual 111, 3) := by decide +kernel
theorem d_Mo_provider_21 : decode b_Mo_provider 21 = .ok (.istore 4, 2) := by decide +kernel
theorem d_Mo_provider_23 : decode b_Mo_provider 23 = .ok (.iload 4, 2) := by decide +kernel
theorem d_Mo_provider_25 : decode b_Mo_provider 25 = .ok (.ifCond .ge 11, 3) := by decide +kernel
theorem d_Mo_provider_28 : decode b_Mo_provider 28 = .ok (.aload_n 0, 1) := by decide +kernel
theorem d_Mo_provider_29 : decode b_Mo_provider 29 = .ok (.iconst 2, 1) := by decide +kernel
theorem d_Mo_provider_30 : decode b_Mo_provider 30 = .ok (.iload_n 2, 1) := by decide +kernel
theorem d_Mo_provider_31 : decode b_Mo_provider 31 = .ok (.invokevirtual 148, 3) := by decide +kernel
theorem d_Mo_provider_34 : decode b_Mo_provider 34 = .ok (.iconst 0, 1) := by decide +kernel
theorem d_Mo_provider_35 : decode b_Mo_provider 35 = .ok (.ireturn, 1) := by decide +kernel
theorem d_Mo_provider_36 : decode b_Mo_provider 36 = .ok (.iload_n 2, 1) := by decide +kernel
theorem d_Mo_provider_37 : decode b_Mo_provider 37 = .ok (.iload_n 3, 1) := by decide +kernel
theorem d_Mo_provider_38 : decode b_Mo_provider 38 = .ok (.if_icmp .ne 27, 3) := by decide +kernel
theorem d_Mo_provider_41 : decode b_Mo_provider 41 = .ok (.aload_n 0, 1) := by decide +kernel
theorem d_Mo_provider_42 : decode b_Mo_provider 42 = .ok (.getfield 38, 3) := by decide +kernel
theorem d_Mo_provider_45 : decode b_Mo_provider 45 = .ok (.iload 4, 2) := by decide +kernel
theorem d_Mo_provider_47 : decode b_Mo_provider 47 = .ok (.aload_n 0, 1) := by decide +kernel
theorem d_Mo_provider_48 : decode b_Mo_provider 48 = .ok (.getfield 38, 3) := by decide +kernel
theorem d_Mo_provider_51 : decode b_Mo_provider 51 = .ok (.iload 4, 2) := by decide +kernel
theorem d_Mo_provider_53 : decode b_Mo_provider 53 = .ok (.baload, 1) := by decide +kernel
theorem d_Mo_provider_54 : decode b_Mo_provider 54 = .ok (.ifCond .ne 7, 3) := by decide +kernel
theorem d_Mo_provider_57 : decode b_Mo_provider 57 = .ok (.iconst 1, 1) := by decide +kernel
theorem d_Mo_provider_58 : decode b_Mo_provider 58 = .ok (.goto 4, 3) := by decide +kernel
theorem d_Mo_provider_61 : decode b_Mo_provider 61 = .ok (.iconst 0, 1) := by decide +kernel
theorem d_Mo_provider_62 : decode b_Mo_provider 62 = .ok (.bastore, 1) := by decide +kernel
theorem d_Mo_provider_63 : decode b_Mo_provider 63 = .ok (.iconst 1, 1) := by decide +kernel
theorem d_Mo_provider_64 : decode b_Mo_provider 64 = .ok (.ireturn, 1) := by decide +kernel
theorem d_Mo_provider_65 : decode b_Mo_provider 65 = .ok (.aload_n 0, 1) := by decide +kernel
theorem d_Mo_provider_66 : decode b_Mo_provider 66 = .ok (.iload_n 1, 1) := by decide +kernel
theorem d_Mo_provider_67 : decode b_Mo_provider 67 = .ok (.iload_n 3, 1) := by decide +kernel
theorem d_Mo_provider_68 : decode b_Mo_provider 68 = .ok (.invokevirtual 111, 3) := by decide +kernel
theorem d_Mo_provider_71 : decode b_Mo_provider 71 = .ok (.ifCond .lt 6, 3) := by decide +kernel
theorem d_Mo_provider_74 : decode b_Mo_provider 74 = .ok (.bipush (-3), 2) := by decide +kernel
theorem d_Mo_provider_76 : decode b_Mo_provider 76 = .ok (.ireturn, 1) := by decide +kernel
theorem d_Mo_provider_77 : decode b_Mo_provider 77 = .ok (.aload_n 0, 1) := by decide +kernel
theorem d_Mo_provider_78 : decode b_Mo_provider 78 = .ok (.getfield 35, 3) := by decide +kernel
theorem d_Mo_provider_81 : decode b_Mo_provider 81 = .ok (.iload 4, 2) := by decide +kernel
theorem d_Mo_provider_83 : decode b_Mo_provider 83 = .ok (.iload_n 3, 1) := by decide +kernel
theorem d_Mo_provider_84 : decode b_Mo_provider 84 = .ok (.iastore, 1) := by decide +kernel
theorem d_Mo_provider_85 : decode b_Mo_provider 85 = .ok (.iconst 1, 1) := by decide +kernel
theorem d_Mo_provider_86 : decode b_Mo_provider 86 = .ok (.ireturn, 1) := by decide +kernel
def f_Mo_fits (v0 : Nat) (v1 : Int32) (v2 : Int32) (v3 : Int32) (v4 : Int32) (M : mm) : Option (Int32 × mm) :=
    (gR 1 19 M v0).bind fun x1 =>
    (aI M x1 v1).bind fun x2 =>
    if x2 = 0 then
      (gR 1 24 M v0).bind fun x4 =>
      (aI M x4 v2).bind fun x5 =>
      (gR 1 21 M v0).bind fun x6 =>
      (aI M x6 v1).bind fun x7 =>
      if x5 = x7 then
        (kB 1).bind fun _ =>
        some (1, M)
      else
        (kB 0).bind fun _ =>
        some (0, M)
    else
    if x2 = 1 then
      (gR 1 11 M v0).bind fun x12 =>
      (aI M x12 v3).bind fun x13 =>
      (gR 1 21 M v0).bind fun x14 =>
      (aI M x14 v1).bind fun x15 =>
      if x15 ≤ x13 then
        (kB 0).bind fun _ =>
        some (0, M)
      else
        (kB 1).bind fun _ =>
        some (1, M)
    else
    if x2 = 2 then
      (gR 1 21 M v0).bind fun x20 =>
      (aI M x20 v1).bind fun x21 =>
      if ((x21 >>> ((v4 - v4 / 7 * 7) &&& 31)) &&& 1) = 1 then
        (kB 1).bind fun _ =>
        some (1, M)
      else
        (kB 0).bind fun _ =>
        some (0, M)
    else
    (kO 1 M v0).bind fun _ =>
    (f_Mo_usagesOf v0 v2 (v4 / 30) M).bind fun (x25, M25) =>
    (gR 1 21 M25 v0).bind fun x27 =>
    (aI M25 x27 v1).bind fun x28 =>
    if x25 < x28 then
      (kB 0).bind fun _ =>
      some (0, M25)
    else
      (kB 1).bind fun _ =>
      some (1, M25)
set_option maxHeartbeats 4000000 in
set_option maxRecDepth 100000 in
theorem c_Mo_fits (l : Launch) (D : va_G) (dA : Nat → ClassId) (M0 M' : mm) (r : Int32) (v0 : Nat) (v1 : Int32) (v2 : Int32) (v3 : Int32) (v4 : Int32) (h : f_Mo_fits v0 v1 v2 v3 v4 M0 = some (r, M')) : Met l y_Mo_fits w_Mo_fits rm_Mo_fits (mm_Pre D dA M0 [.ref v0, .int v1, .int v2, .int v3, .int v4]) (mm_QI D dA M0 r M') 0 0 (mm_A M0) := by
  refine Met.ofW (cc := b_Mo_fits) (maxL := 5) (ret := (some .boolean)) (by decide) rfl ?_
  intro p e s m args below meth c s₁ B hml hv
  obtain ⟨rfl, hW, hK⟩ := hv
  have C : mm_C p s m _ meth c b_Mo_fits 5 (some .boolean) R_Mo D dA (mm_A M0) := ⟨B.exec, B.bytes, B.returns, hml, findClass_of_methodNamed B.named, fun w hw => atoms_spec (ws := w_Mo_fits) B.pre w (List.mem_cons_of_mem _ hw), B.notSynchronized, hK, fun q hq => Or.inr (by rw [← hW.1]; exact hq)⟩
  have hS : va_S (mm_A M0) s.heap s.heap [] := va_S.rf
  obtain ⟨hx, hb, hr, hml, hown, hts, hlocks, hK, hA⟩ := id C
  have hl := lv_entry ([.ref v0, .int v1, .int v2, .int v3, .int v4]) (n := 5) (Nat.le_of_ble_eq_true rfl)
  rw [lg_entry_eq]
  generalize (lg_sl ([.ref v0, .int v1, .int v2, .int v3, .int v4]) ++ List.replicate (5 - (lg_sl ([.ref v0, .int v1, .int v2, .int v3, .int v4])).length) Slot.unset).toArray = ls at hl ⊢
  have hl : lv_has ls 5 [(0, .ref v0), (1, .int v1), (2, .int v2), (3, .int v3), (4, .int v4)] := hl
  unfold f_Mo_fits at h
  refine lv_aload_n hx hb d_Mo_fits_0 rfl (lv_at hl 0 rfl) ?_
  obtain ⟨x1, e1, h⟩ := ob h
  refine mr_gR C hW k_Mo_56 e1 d_Mo_fits_1 ?_
  refine lv_iload_n hx hb d_Mo_fits_4 rfl (lv_at hl 1 rfl) ?_
  obtain ⟨x2, e2, h⟩ := ob h
  refine mr_aI C hW e2 d_Mo_fits_5 ?_
  by_cases c3 : x2 = 0
  · have h := ifp h c3
    refine lv_tableIn (tgt := 32) hx hb d_Mo_fits_6 (by rw [c3]; decide) (by rw [c3]; decide) (by rw [c3]; rfl) (by decide) ?_
    refine lv_aload_n hx hb d_Mo_fits_32 rfl (lv_at hl 0 rfl) ?_
    obtain ⟨x4, e4, h⟩ := ob h
    refine mr_gR C hW k_Mo_72 e4 d_Mo_fits_33 ?_
    refine lv_iload_n hx hb d_Mo_fits_36 rfl (lv_at hl 2 rfl) ?_
    obtain ⟨x5, e5, h⟩ := ob h
    refine mr_aI C hW e5 d_Mo_fits_37 ?_
    refine lv_aload_n hx hb d_Mo_fits_38 rfl (lv_at hl 0 rfl) ?_
    obtain ⟨x6, e6, h⟩ := ob h
    refine mr_gR C hW k_Mo_62 e6 d_Mo_fits_39 ?_
    refine lv_iload_n hx hb d_Mo_fits_42 rfl (lv_at hl 1 rfl) ?_
    obtain ⟨x7, e7, h⟩ := ob h
    refine mr_aI C hW e7 d_Mo_fits_43 ?_
    refine lv_icmp_ne (tgt := 51) hx hb d_Mo_fits_44 (by decide) (fun c8 => ?_) (fun c8 => ?_)
    · have h := ifn h c8
      refine lv_iconst (v := 0) hx hb d_Mo_fits_51 (by decide) ?_
      obtain ⟨_, e9, h⟩ := ob h
      exact mr_zret C hW hS (Nat.le_of_ble_eq_true rfl) (Nat.le_of_ble_eq_true rfl) e9 h d_Mo_fits_52
    · have h := ifp h c8
      refine lv_iconst (v := 1) hx hb d_Mo_fits_47 (by decide) ?_
      refine lv_goto (tgt := 52) hx hb d_Mo_fits_48 (by decide) ?_
      obtain ⟨_, e10, h⟩ := ob h
      exact mr_zret C hW hS (Nat.le_of_ble_eq_true rfl) (Nat.le_of_ble_eq_true rfl) e10 h d_Mo_fits_52
  have h := ifn h c3
  by_cases c11 : x2 = 1
  · have h := ifp h c11
    refine lv_tableIn (tgt := 53) hx hb d_Mo_fits_6 (by rw [c11]; decide) (by rw [c11]; decide) (by rw [c11]; rfl) (by decide) ?_
    refine lv_aload_n hx hb d_Mo_fits_53 rfl (lv_at hl 0 rfl) ?_
    obtain ⟨x12, e12, h⟩ := ob h
    refine mr_gR C hW k_Mo_35 e12 d_Mo_fits_54 ?_
    refine lv_iload_n hx hb d_Mo_fits_57 rfl (lv_at hl 3 rfl) ?_
    obtain ⟨x13, e13, h⟩ := ob h
    refine mr_aI C hW e13 d_Mo_fits_58 ?_
    refine lv_aload_n hx hb d_Mo_fits_59 rfl (lv_at hl 0 rfl) ?_
    obtain ⟨x14, e14, h⟩ := ob h
    refine mr_gR C hW k_Mo_62 e14 d_Mo_fits_60 ?_
    refine lv_iload_n hx hb d_Mo_fits_63 rfl (lv_at hl 1 rfl) ?_
    obtain ⟨x15, e15, h⟩ := ob h
    refine mr_aI C hW e15 d_Mo_fits_64 ?_
    refine lv_icmp_ge (tgt := 72) hx hb d_Mo_fits_65 (by decide) (fun c16 => ?_) (fun c16 => ?_)
    · have h := ifp h c16
      refine lv_iconst (v := 0) hx hb d_Mo_fits_72 (by decide) ?_
      obtain ⟨_, e17, h⟩ := ob h
      exact mr_zret C hW hS (Nat.le_of_ble_eq_true rfl) (Nat.le_of_ble_eq_true rfl) e17 h d_Mo_fits_73
    · have h := ifn h c16
      refine lv_iconst (v := 1) hx hb d_Mo_fits_68 (by decide) ?_
      refine lv_goto (tgt := 73) hx hb d_Mo_fits_69 (by decide) ?_
      obtain ⟨_, e18, h⟩ := ob h
      exact mr_zret C hW hS (Nat.le_of_ble_eq_true rfl) (Nat.le_of_ble_eq_true rfl) e18 h d_Mo_fits_73
  have h := ifn h c11
  by_cases c19 : x2 = 2
  · have h := ifp h c19
    refine lv_tableIn (tgt := 74) hx hb d_Mo_fits_6 (by rw [c19]; decide) (by rw [c19]; decide) (by rw [c19]; rfl) (by decide) ?_
    refine lv_aload_n hx hb d_Mo_fits_74 rfl (lv_at hl 0 rfl) ?_
    obtain ⟨x20, e20, h⟩ := ob h
    refine mr_gR C hW k_Mo_62 e20 d_Mo_fits_75 ?_
    refine lv_iload_n hx hb d_Mo_fits_78 rfl (lv_at hl 1 rfl) ?_
    obtain ⟨x21, e21, h⟩ := ob h
    refine mr_aI C hW e21 d_Mo_fits_79 ?_
    refine lv_iload hx hb d_Mo_fits_80 (lv_at hl 4 rfl) ?_
    refine lv_bipush (v := 7) hx hb d_Mo_fits_82 (by decide) ?_
    refine lv_irem hx hb d_Mo_fits_84 (by decide) ?_
    refine lv_ishr hx hb d_Mo_fits_85 ?_
    refine lv_iconst (v := 1) hx hb d_Mo_fits_86 (by decide) ?_
    refine lv_iand hx hb d_Mo_fits_87 ?_
    refine lv_iconst (v := 1) hx hb d_Mo_fits_88 (by decide) ?_
    refine lv_icmp_ne (tgt := 96) hx hb d_Mo_fits_89 (by decide) (fun c22 => ?_) (fun c22 => ?_)
    · have h := ifn h c22
      refine lv_iconst (v := 0) hx hb d_Mo_fits_96 (by decide) ?_
      obtain ⟨_, e23, h⟩ := ob h
      exact mr_zret C hW hS (Nat.le_of_ble_eq_true rfl) (Nat.le_of_ble_eq_true rfl) e23 h d_Mo_fits_97
    · have h := ifp h c22
      refine lv_iconst (v := 1) hx hb d_Mo_fits_92 (by decide) ?_
      refine lv_goto (tgt := 97) hx hb d_Mo_fits_93 (by decide) ?_
      obtain ⟨_, e24, h⟩ := ob h
      exact mr_zret C hW hS (Nat.le_of_ble_eq_true rfl) (Nat.le_of_ble_eq_true rfl) e24 h d_Mo_fits_97
  have h := ifn h c19
  refine lv_tableOut (tgt := 98) hx hb d_Mo_fits_6 (by
    have t3 := lv_neT c3 (show (0 : Int32).toInt = 0 by decide)
    have t11 := lv_neT c11 (show (1 : Int32).toInt = 1 by decide)
    have t19 := lv_neT c19 (show (2 : Int32).toInt = 2 by decide)
    omega) (by decide) ?_
  refine lv_aload_n hx hb d_Mo_fits_98 rfl (lv_at hl 0 rfl) ?_
  refine lv_iload_n hx hb d_Mo_fits_99 rfl (lv_at hl 2 rfl) ?_
  refine lv_iload hx hb d_Mo_fits_100 (lv_at hl 4 rfl) ?_
  refine lv_bipush (v := 30) hx hb d_Mo_fits_102 (by decide) ?_
  refine lv_idiv hx hb d_Mo_fits_104 (by decide) ?_
  obtain ⟨_, e26, h⟩ := ob h
  obtain ⟨⟨x25, M25⟩, e25, h⟩ := ob h
  refine mr_ci C hW hS (va_runV (As := [.int v2, .int (v4 / 30)]) (rest := []) ⟨hx, hb, hml, hown, hts⟩ (c_Mo_usagesOf l D dA _ _ _ v0 v2 (v4 / 30) e25) (cwV 2 hts (mg_V q_310 q_311 q_312 q_313 q_267) rfl rfl rfl (by decide +kernel) ⟨Nat.le_of_ble_eq_true rfl, Nat.le_of_ble_eq_true rfl⟩) (mr_preV C hW (ci := 1) rfl e26) rfl rfl hl.1 rfl (lv_room (Nat.le_of_ble_eq_true rfl)) d_Mo_fits_105 ⟨Nat.le_of_ble_eq_true rfl, Nat.le_of_ble_eq_true rfl⟩) (fun H locs hW hS => ?_)
  refine lv_aload_n hx hb d_Mo_fits_108 rfl (lv_at hl 0 rfl) ?_
  obtain ⟨x27, e27, h⟩ := ob h
  refine mr_gR C hW k_Mo_62 e27 d_Mo_fits_109 ?_
  refine lv_iload_n hx hb d_Mo_fits_112 rfl (lv_at hl 1 rfl) ?_
  obtain ⟨x28, e28, h⟩ := ob h
  refine mr_aI C hW e28 d_Mo_fits_113 ?_
  refine lv_icmp_lt (tgt := 121) hx hb d_Mo_fits_114 (by decide) (fun c29 => ?_) (fun c29 => ?_)
  · have h := ifp h c29
    refine lv_iconst (v := 0) hx hb d_Mo_fits_121 (by decide) ?_
    obtain ⟨_, e30, h⟩ := ob h
    exact mr_zret C hW hS (Nat.le_of_ble_eq_true rfl) (Nat.le_of_ble_eq_true rfl) e30 h d_Mo_fits_122
  · have h := ifn h c29
    refine lv_iconst (v := 1) hx hb d_Mo_fits_117 (by decide) ?_
    refine lv_goto (tgt := 122) hx hb d_Mo_fits_118 (by decide) ?_
    obtain ⟨_, e31, h⟩ := ob h
    exact mr_zret C hW hS (Nat.le_of_ble_eq_true rfl) (Nat.le_of_ble_eq_true rfl) e31 h d_Mo_fits_122
def f_Mo_allows_b8 : Nat → Nat → Int32 → Int32 → Int32 → Int32 → mm → Option (Int32 × mm)
  | 0, _, _, _, _, _, _ => none
  | n + 1, v0, v1, v2, v3, v4, M =>
    (gI 1 17 M v0).bind fun x1 =>
    if x1 ≤ v4 then
      (kB 0).bind fun _ =>
      some (0, M)
    else
      (gR 1 18 M v0).bind fun x4 =>
      (aI M x4 v4).bind fun x5 =>
      (gR 1 10 M v0).bind fun x6 =>
      (aI M x6 v2).bind fun x7 =>
      if x5 = x7 then
        (gR 1 22 M v0).bind fun x9 =>
        (aZ M x9 v4).bind fun x10 =>
        if x10 = 0 then
          (kO 1 M v0).bind fun _ =>
          (f_Mo_fits v0 v4 v1 v2 v3 M).bind fun (x12, M12) =>
          if x12 = 0 then
            f_Mo_allows_b8 n v0 v1 v2 v3 (v4 + 1) M12
          else
            (gR 1 20 M12 v0).bind fun x15 =>
            (aI M12 x15 v4).bind fun x16 =>
            if x16 = 1 then
              (kB 1).bind fun _ =>
              some (1, M12)
            else
              (kB 0).bind fun _ =>
              some (0, M12)
        else
          (pF 1 23 (.int v4) M v0).bind fun M20 =>
          (kO 1 M20 v0).bind fun _ =>
          (f_Mo_tell v0 1 v4 M20).bind fun (_, M21) =>
          (kB 0).bind fun _ =>
          some (0, M21)
      else
        f_Mo_allows_b8 n v0 v1 v2 v3 (v4 + 1) M
def f_Mo_allows (v0 : Nat) (v1 : Int32) (v2 : Int32) (v3 : Int32) (M : mm) : Option (Int32 × mm) :=
    (pF 1 23 (.int ((-1))) M v0).bind fun M24 =>
    f_Mo_allows_b8 FU v0 v1 v2 v3 0 M24
set_option maxHeartbeats 4000000 in
set_option maxRecDepth 100000 in
theorem w_Mo_allows_b8 {p : Program} {l : Launch} {e : Env} {s : State} {m : MethodId} {args : Array Value} {below : List Frame} {meth : Method} {c : Code} {D : va_G} {dA : Nat → ClassId} {M0 M' : mm} {r : Int32} (C : mm_C p s m args meth c b_Mo_allows 5 (some .boolean) R_Mo D dA (mm_A M0)) : ∀ (n : Nat), ∀ (v0 : Nat) (v1 : Int32) (v2 : Int32) (v3 : Int32) (v4 : Int32) (M : mm) (H : Heap) (locs : List Loc) (ls : Array Slot), f_Mo_allows_b8 n v0 v1 v2 v3 v4 M = some (r, M') → mm_W D dA (mm_A M0) M H → va_S (mm_A M0) s.heap H locs → lv_has ls 5 [(0, .ref v0), (1, .int v1), (2, .int v2), (3, .int v3), (4, .int v4)] → W p l e rm_Mo_allows s m args below meth c H locs 0 0 (MQ below (mm_QI D dA M0 r M') args s 0 0 (mm_A M0)) (F0 m 8 ls []) := by
  obtain ⟨hx, hb, hr, hml, hown, hts, hlocks, hK, hA⟩ := id C
  intro n
  induction n with
  | zero =>
    intro v0 v1 v2 v3 v4 M H locs ls h hW hS hl
    unfold f_Mo_allows_b8 at h
    cases h
  | succ n ih =>
    intro v0 v1 v2 v3 v4 M H locs ls h hW hS hl
    unfold f_Mo_allows_b8 at h
    refine lv_iload hx hb d_Mo_allows_8 (lv_at hl 4 rfl) ?_
    refine lv_aload_n hx hb d_Mo_allows_10 rfl (lv_at hl 0 rfl) ?_
    obtain ⟨x1, e1, h⟩ := ob h
    refine mr_gI C hW k_Mo_122 e1 d_Mo_allows_11 ?_
    refine lv_icmp_ge (tgt := 96) hx hb d_Mo_allows_14 (by decide) (fun c2 => ?_) (fun c2 => ?_)
    · have h := ifp h c2
      refine lv_iconst (v := 0) hx hb d_Mo_allows_96 (by decide) ?_
      obtain ⟨_, e3, h⟩ := ob h
      exact mr_zret C hW hS (Nat.le_of_ble_eq_true rfl) (Nat.le_of_ble_eq_true rfl) e3 h d_Mo_allows_97
    · have h := ifn h c2
      refine lv_aload_n hx hb d_Mo_allows_17 rfl (lv_at hl 0 rfl) ?_
      obtain ⟨x4, e4, h⟩ := ob h
      refine mr_gR C hW k_Mo_53 e4 d_Mo_allows_18 ?_
      refine lv_iload hx hb d_Mo_allows_21 (lv_at hl 4 rfl) ?_
      obtain ⟨x5, e5, h⟩ := ob h
      refine mr_aI C hW e5 d_Mo_allows_23 ?_
      refine lv_aload_n hx hb d_Mo_allows_24 rfl (lv_at hl 0 rfl) ?_
      obtain ⟨x6, e6, h⟩ := ob h
      refine mr_gR C hW k_Mo_32 e6 d_Mo_allows_25 ?_
      refine lv_iload_n hx hb d_Mo_allows_28 rfl (lv_at hl 2 rfl) ?_
      obtain ⟨x7, e7, h⟩ := ob h
      refine mr_aI C hW e7 d_Mo_allows_29 ?_
      refine lv_icmp_eq (tgt := 36) hx hb d_Mo_allows_30 (by decide) (fun c8 => ?_) (fun c8 => ?_)
      · have h := ifp h c8
        refine lv_aload_n hx hb d_Mo_allows_36 rfl (lv_at hl 0 rfl) ?_
        obtain ⟨x9, e9, h⟩ := ob h
        refine mr_gR C hW k_Mo_65 e9 d_Mo_allows_37 ?_
        refine lv_iload hx hb d_Mo_allows_40 (lv_at hl 4 rfl) ?_
        obtain ⟨x10, e10, h⟩ := ob h
        refine mr_aZ C hW e10 d_Mo_allows_42 ?_
        refine lv_if_eq (tgt := 61) hx hb d_Mo_allows_43 (by decide) (fun c11 => ?_) (fun c11 => ?_)
        · have h := ifp h c11
          refine lv_aload_n hx hb d_Mo_allows_61 rfl (lv_at hl 0 rfl) ?_
          refine lv_iload hx hb d_Mo_allows_62 (lv_at hl 4 rfl) ?_
          refine lv_iload_n hx hb d_Mo_allows_64 rfl (lv_at hl 1 rfl) ?_
          refine lv_iload_n hx hb d_Mo_allows_65 rfl (lv_at hl 2 rfl) ?_
          refine lv_iload_n hx hb d_Mo_allows_66 rfl (lv_at hl 3 rfl) ?_
          obtain ⟨_, e13, h⟩ := ob h
          obtain ⟨⟨x12, M12⟩, e12, h⟩ := ob h
          refine mr_ci C hW hS (va_runV (As := [.int v4, .int v1, .int v2, .int v3]) (rest := []) ⟨hx, hb, hml, hown, hts⟩ (c_Mo_fits l D dA _ _ _ v0 v4 v1 v2 v3 e12) (cwV 4 hts (mg_V q_314 q_315 q_316 q_317 q_267) rfl rfl rfl (by decide +kernel) ⟨Nat.le_of_ble_eq_true rfl, Nat.le_of_ble_eq_true rfl⟩) (mr_preV C hW (ci := 1) rfl e13) rfl rfl hl.1 rfl (lv_room (Nat.le_of_ble_eq_true rfl)) d_Mo_allows_67 ⟨Nat.le_of_ble_eq_true rfl, Nat.le_of_ble_eq_true rfl⟩) (fun H locs hW hS => ?_)
          refine lv_if_eq (tgt := 90) hx hb d_Mo_allows_70 (by decide) (fun c14 => ?_) (fun c14 => ?_)
          · have h := ifp h c14
            refine lv_iinc (v := v4 + 1) (lv' := [(4, .int (v4 + 1)), (0, .ref v0), (1, .int v1), (2, .int v2), (3, .int v3)]) hx hb d_Mo_allows_90 hl (k := 4) rfl rfl (by decide) rfl (fun ls hl => ?_)
            refine lv_goto (tgt := 8) hx hb d_Mo_allows_93 (by decide) ?_
            exact ih _ _ _ _ _ _ _ _ _ h hW hS (lv_sub hl [1, 2, 3, 4, 0] rfl)
          · have h := ifn h c14
            refine lv_aload_n hx hb d_Mo_allows_73 rfl (lv_at hl 0 rfl) ?_
            obtain ⟨x15, e15, h⟩ := ob h
            refine mr_gR C hW k_Mo_59 e15 d_Mo_allows_74 ?_
            refine lv_iload hx hb d_Mo_allows_77 (lv_at hl 4 rfl) ?_
            obtain ⟨x16, e16, h⟩ := ob h
            refine mr_aI C hW e16 d_Mo_allows_79 ?_
            refine lv_iconst (v := 1) hx hb d_Mo_allows_80 (by decide) ?_
            refine lv_icmp_ne (tgt := 88) hx hb d_Mo_allows_81 (by decide) (fun c17 => ?_) (fun c17 => ?_)
            · have h := ifn h c17
              refine lv_iconst (v := 0) hx hb d_Mo_allows_88 (by decide) ?_
              obtain ⟨_, e18, h⟩ := ob h
              exact mr_zret C hW hS (Nat.le_of_ble_eq_true rfl) (Nat.le_of_ble_eq_true rfl) e18 h d_Mo_allows_89
            · have h := ifp h c17
              refine lv_iconst (v := 1) hx hb d_Mo_allows_84 (by decide) ?_
              refine lv_goto (tgt := 89) hx hb d_Mo_allows_85 (by decide) ?_
              obtain ⟨_, e19, h⟩ := ob h
              exact mr_zret C hW hS (Nat.le_of_ble_eq_true rfl) (Nat.le_of_ble_eq_true rfl) e19 h d_Mo_allows_89
        · have h := ifn h c11
          refine lv_aload_n hx hb d_Mo_allows_46 rfl (lv_at hl 0 rfl) ?_
          refine lv_iload hx hb d_Mo_allows_47 (lv_at hl 4 rfl) ?_
          obtain ⟨M20, e20, h⟩ := ob h
          refine mr_put C hW hS kp_Mo_68 rfl rfl e20 d_Mo_allows_49 (fun H locs hW hS => ?_)
          refine lv_aload_n hx hb d_Mo_allows_52 rfl (lv_at hl 0 rfl) ?_
          refine lv_iconst (v := 1) hx hb d_Mo_allows_53 (by decide) ?_
          refine lv_iload hx hb d_Mo_allows_54 (lv_at hl 4 rfl) ?_
          obtain ⟨_, e22, h⟩ := ob h
          obtain ⟨⟨u21, M21⟩, e21, h⟩ := ob h
          refine mr_cv C hW hS (va_runV (As := [.int 1, .int v4]) (rest := []) ⟨hx, hb, hml, hown, hts⟩ (c_Mo_tell l D dA _ _ _ v0 1 v4 e21) (cwV 2 hts (mg_V q_318 q_319 q_320 q_321 q_267) rfl rfl rfl (by decide +kernel) ⟨Nat.le_of_ble_eq_true rfl, Nat.le_of_ble_eq_true rfl⟩) (mr_preV C hW (ci := 1) rfl e22) rfl rfl hl.1 rfl (lv_room (Nat.le_of_ble_eq_true rfl)) d_Mo_allows_56 ⟨Nat.le_of_ble_eq_true rfl, Nat.le_of_ble_eq_true rfl⟩) (fun H locs hW hS => ?_)
          refine lv_iconst (v := 0) hx hb d_Mo_allows_59 (by decide) ?_
          obtain ⟨_, e23, h⟩ := ob h
          exact mr_zret C hW hS (Nat.le_of_ble_eq_true rfl) (Nat.le_of_ble_eq_true rfl) e23 h d_Mo_allows_60
      · have h := ifn h c8
        refine lv_goto (tgt := 90) hx hb d_Mo_allows_33 (by decide) ?_
        refine lv_iinc (v := v4 + 1) (lv' := [(4, .int (v4 + 1)), (0, .ref v0), (1, .int v1), (2, .int v2), (3, .int v3)]) hx hb d_Mo_allows_90 hl (k := 4) rfl rfl (by decide) rfl (fun ls hl => ?_)
        refine lv_goto (tgt := 8) hx hb d_Mo_allows_93 (by decide) ?_
        exact ih _ _ _ _ _ _ _ _ _ h hW hS (lv_sub hl [1, 2, 3, 4, 0] rfl)
set_option maxHeartbeats 4000000 in
set_option maxRecDepth 100000 in
theorem c_Mo_allows (l : Launch) (D : va_G) (dA : Nat → ClassId) (M0 M' : mm) (r : Int32) (v0 : Nat) (v1 : Int32) (v2 : Int32) (v3 : Int32) (h : f_Mo_allows v0 v1 v2 v3 M0 = some (r, M')) : Met l y_Mo_allows w_Mo_allows rm_Mo_allows (mm_Pre D dA M0 [.ref v0, .int v1, .int v2, .int v3]) (mm_QI D dA M0 r M') 0 0 (mm_A M0) := by
  refine Met.ofW (cc := b_Mo_allows) (maxL := 5) (ret := (some .boolean)) (by decide) rfl ?_
  intro p e s m args below meth c s₁ B hml hv
  obtain ⟨rfl, hW, hK⟩ := hv
  have C : mm_C p s m _ meth c b_Mo_allows 5 (some .boolean) R_Mo D dA (mm_A M0) := ⟨B.exec, B.bytes, B.returns, hml, findClass_of_methodNamed B.named, fun w hw => atoms_spec (ws := w_Mo_allows) B.pre w (List.mem_cons_of_mem _ hw), B.notSynchronized, hK, fun q hq => Or.inr (by rw [← hW.1]; exact hq)⟩
  have hS : va_S (mm_A M0) s.heap s.heap [] := va_S.rf
  obtain ⟨hx, hb, hr, hml, hown, hts, hlocks, hK, hA⟩ := id C
  have hl := lv_entry ([.ref v0, .int v1, .int v2, .int v3]) (n := 5) (Nat.le_of_ble_eq_true rfl)
  rw [lg_entry_eq]
  generalize (lg_sl ([.ref v0, .int v1, .int v2, .int v3]) ++ List.replicate (5 - (lg_sl ([.ref v0, .int v1, .int v2, .int v3])).length) Slot.unset).toArray = ls at hl ⊢
  have hl : lv_has ls 5 [(0, .ref v0), (1, .int v1), (2, .int v2), (3, .int v3)] := hl
  unfold f_Mo_allows at h
  refine lv_aload_n hx hb d_Mo_allows_0 rfl (lv_at hl 0 rfl) ?_
  refine lv_iconst (v := (-1)) hx hb d_Mo_allows_1 (by decide) ?_
  obtain ⟨M24, e24, h⟩ := ob h
  refine mr_put C hW hS kp_Mo_68 rfl rfl e24 d_Mo_allows_2 (fun H locs hW hS => ?_)
  refine lv_iconst (v := 0) hx hb d_Mo_allows_5 (by decide) ?_
  refine lv_istore (lv' := [(4, .int 0), (0, .ref v0), (1, .int v1), (2, .int v2), (3, .int v3)]) hx hb d_Mo_allows_6 hl (by decide) rfl (fun ls hl => ?_)
  exact w_Mo_allows_b8 C FU _ _ _ _ _ _ _ _ _ h hW hS (lv_sub hl [1, 2, 3, 4, 0] rfl)
def f_Mo_access_b107 : Nat → Int32 → Int32 → Int32 → Int32 → Int32 → mm → Option (Int32 × mm) := fun v0 v1 v2 v3 v4 v5 M =>
    (kO 1 M v0).bind fun _ =>
    (f_Mo_covers v0 v2 v3 M).bind fun (x1, M1) =>
    if x1 = 0 then
      some (3, M1)
    else
      (gR 1 13 M1 v0).bind fun x4 =>
      (aI M1 x4 v2).bind fun x5 =>
      if (v3 / 30) ≤ ((v4 / 30) - x5) then
        (kO 1 M1 v0).bind fun _ =>
        (f_Mo_allows v0 v1 v2 v4 M1).bind fun (x7, M7) =>
        if x7 = 0 then
          some (5, M7)
        else
          (kO 1 M7 v0).bind fun _ =>
          (f_Mo_placeIn v0 v5 v1 M7).bind fun (x10, M10) =>
          if 0 ≤ x10 then
            (gR 1 26 M10 v0).bind fun x13 =>
            (gI 1 25 M10 v0).bind fun x14 =>
            (sI v1 M10 x13 x14).bind fun M15 =>
            (gR 1 27 M15 v0).bind fun x16 =>
            (gI 1 25 M15 v0).bind fun x17 =>
            (sI v2 M15 x16 x17).bind fun M18 =>
            (gR 1 28 M18 v0).bind fun x19 =>
            (gI 1 25 M18 v0).bind fun x20 =>
            (sI (v4 / 30) M18 x19 x20).bind fun M21 =>
            (gI 1 25 M21 v0).bind fun x22 =>
            (pF 1 25 (.int (x22 + 1)) M21 v0).bind fun M23 =>
            some (0, M23)
          else
            some (6, M10)
      else
        some (4, M1)
def f_Mo_access (v0 : Nat) (v1 : Int32) (v2 : Int32) (v3 : Int32) (v4 : Int32) (M : mm) : Option (Int32 × mm) :=
    (pF 1 0 (.int 0) M v0).bind fun M24 =>
    (kO 1 M24 v0).bind fun _ =>
    (f_Mo_isTitle v0 v2 M24).bind fun (x25, M25) =>
    if x25 = 0 then
      some ((-1), M25)
    else
      (f_Mo_in1 v1 0 99 M25).bind fun (x28, M28) =>
      if x28 = 0 then
        some ((-1), M28)
      else
        (f_Mo_isDay v3 M28).bind fun (x30, M30) =>
        if x30 = 0 then
          some ((-2), M30)
        else
          (f_Mo_isDay v4 M30).bind fun (x32, M32) =>
          if x32 = 0 then
            some ((-2), M32)
          else
            (gR 1 10 M32 v0).bind fun x34 =>
            (aI M32 x34 v2).bind fun x35 =>
            (gR 1 12 M32 v0).bind fun x36 =>
            (aZ M32 x36 v2).bind fun x37 =>
            if x37 = 0 then
              (gR 1 4 M32 v0).bind fun x39 =>
              (aI M32 x39 x35).bind fun x40 =>
              if x40 < 0 then
                f_Mo_access_b107 v0 v1 v2 v3 v4 x35 M32
              else
                (gR 1 4 M32 v0).bind fun x42 =>
                (aI M32 x42 x35).bind fun x43 =>
                if v4 < x43 then
                  f_Mo_access_b107 v0 v1 v2 v3 v4 x35 M32
                else
                  (gR 1 2 M32 v0).bind fun x45 =>
                  (aZ M32 x45 x35).bind fun x46 =>
                  if x46 = 0 then
                    some (2, M32)
                  else
                    (gR 1 4 M32 v0).bind fun x48 =>
                    (aI M32 x48 x35).bind fun x49 =>
                    if v3 < x49 then
                      f_Mo_access_b107 v0 v1 v2 v3 v4 x35 M32
                    else
                      some (2, M32)
            else
              some (1, M32)
set_option maxHeartbeats 4000000 in
set_option maxRecDepth 100000 in
theorem w_Mo_access_b107 {p : Program} {l : Launch} {e : Env} {s : State} {m : MethodId} {args : Array Value} {below : List Frame} {meth : Method} {c : Code} {D : va_G} {dA : Nat → ClassId} {M0 M' : mm} {r : Int32} (C : mm_C p s m args meth c b_Mo_access 6 (some .int) R_Mo D dA (mm_A M0)) : ∀ (v0 : Nat) (v1 : Int32) (v2 : Int32) (v3 : Int32) (v4 : Int32) (v5 : Int32) (M : mm) (H : Heap) (locs : List Loc) (ls : Array Slot), f_Mo_access_b107 v0 v1 v2 v3 v4 v5 M = some (r, M') → mm_W D dA (mm_A M0) M H → va_S (mm_A M0) s.heap H locs → lv_has ls 6 [(0, .ref v0), (1, .int v1), (2, .int v2), (3, .int v3), (4, .int v4), (5, .int v5)] → W p l e rm_Mo_access s m args below meth c H locs 0 0 (MQ below (mm_QI D dA M0 r M') args s 0 0 (mm_A M0)) (F0 m 107 ls []) := by
  obtain ⟨hx, hb, hr, hml, hown, hts, hlocks, hK, hA⟩ := id C
  intro v0 v1 v2 v3 v4 v5 M H locs ls h hW hS hl
  unfold f_Mo_access_b107 at h
  refine lv_aload_n hx hb d_Mo_access_107 rfl (lv_at hl 0 rfl) ?_
  refine lv_iload_n hx hb d_Mo_access_108 rfl (lv_at hl 2 rfl) ?_
  refine lv_iload_n hx hb d_Mo_access_109 rfl (lv_at hl 3 rfl) ?_
  obtain ⟨_, e2, h⟩ := ob h
  obtain ⟨⟨x1, M1⟩, e1, h⟩ := ob h
  refine mr_ci C hW hS (va_runV (As := [.int v2, .int v3]) (rest := []) ⟨hx, hb, hml, hown, hts⟩ (c_Mo_covers l D dA _ _ _ v0 v2 v3 e1) (cwV 2 hts (mg_V q_322 q_323 q_324 q_325 q_267) rfl rfl rfl (by decide +kernel) ⟨Nat.le_of_ble_eq_true rfl, Nat.le_of_ble_eq_true rfl⟩) (mr_preV C hW (ci := 1) rfl e2) rfl rfl hl.1 rfl (lv_room (Nat.le_of_ble_eq_true rfl)) d_Mo_access_110 ⟨Nat.le_of_ble_eq_true rfl, Nat.le_of_ble_eq_true rfl⟩) (fun H locs hW hS => ?_)
  refine lv_if_ne (tgt := 118) hx hb d_Mo_access_113 (by decide) (fun c3 => ?_) (fun c3 => ?_)
  · have h := ifn h c3
    refine lv_iload_n hx hb d_Mo_access_118 rfl (lv_at hl 3 rfl) ?_
    refine lv_bipush (v := 30) hx hb d_Mo_access_119 (by decide) ?_
    refine lv_idiv hx hb d_Mo_access_121 (by decide) ?_
    refine lv_iload hx hb d_Mo_access_122 (lv_at hl 4 rfl) ?_
    refine lv_bipush (v := 30) hx hb d_Mo_access_124 (by decide) ?_
    refine lv_idiv hx hb d_Mo_access_126 (by decide) ?_
    refine lv_aload_n hx hb d_Mo_access_127 rfl (lv_at hl 0 rfl) ?_
    obtain ⟨x4, e4, h⟩ := ob h
    refine mr_gR C hW k_Mo_41 e4 d_Mo_access_128 ?_
    refine lv_iload_n hx hb d_Mo_access_131 rfl (lv_at hl 2 rfl) ?_
    obtain ⟨x5, e5, h⟩ := ob h
    refine mr_aI C hW e5 d_Mo_access_132 ?_
    refine lv_isub hx hb d_Mo_access_133 ?_
    refine lv_icmp_le (tgt := 139) hx hb d_Mo_access_134 (by decide) (fun c6 => ?_) (fun c6 => ?_)
    · have h := ifp h c6
      refine lv_aload_n hx hb d_Mo_access_139 rfl (lv_at hl 0 rfl) ?_
      refine lv_iload_n hx hb d_Mo_access_140 rfl (lv_at hl 1 rfl) ?_
      refine lv_iload_n hx hb d_Mo_access_141 rfl (lv_at hl 2 rfl) ?_
      refine lv_iload hx hb d_Mo_access_142 (lv_at hl 4 rfl) ?_
      obtain ⟨_, e8, h⟩ := ob h
      obtain ⟨⟨x7, M7⟩, e7, h⟩ := ob h
      refine mr_ci C hW hS (va_runV (As := [.int v1, .int v2, .int v4]) (rest := []) ⟨hx, hb, hml, hown, hts⟩ (c_Mo_allows l D dA _ _ _ v0 v1 v2 v4 e7) (cwV 3 hts (mg_V q_326 q_327 q_328 q_329 q_267) rfl rfl rfl (by decide +kernel) ⟨Nat.le_of_ble_eq_true rfl, Nat.le_of_ble_eq_true rfl⟩) (mr_preV C hW (ci := 1) rfl e8) rfl rfl hl.1 rfl (lv_room (Nat.le_of_ble_eq_true rfl)) d_Mo_access_144 ⟨Nat.le_of_ble_eq_true rfl, Nat.le_of_ble_eq_true rfl⟩) (fun H locs hW hS => ?_)
      refine lv_if_ne (tgt := 152) hx hb d_Mo_access_147 (by decide) (fun c9 => ?_) (fun c9 => ?_)
      · have h := ifn h c9
        refine lv_aload_n hx hb d_Mo_access_152 rfl (lv_at hl 0 rfl) ?_
        refine lv_iload hx hb d_Mo_access_153 (lv_at hl 5 rfl) ?_
        refine lv_iload_n hx hb d_Mo_access_155 rfl (lv_at hl 1 rfl) ?_
        obtain ⟨_, e11, h⟩ := ob h
        obtain ⟨⟨x10, M10⟩, e10, h⟩ := ob h
        refine mr_ci C hW hS (va_runV (As := [.int v5, .int v1]) (rest := []) ⟨hx, hb, hml, hown, hts⟩ (c_Mo_placeIn l D dA _ _ _ v0 v5 v1 e10) (cwV 2 hts (mg_V q_301 q_302 q_303 q_304 q_267) rfl rfl rfl (by decide +kernel) ⟨Nat.le_of_ble_eq_true rfl, Nat.le_of_ble_eq_true rfl⟩) (mr_preV C hW (ci := 1) rfl e11) rfl rfl hl.1 rfl (lv_room (Nat.le_of_ble_eq_true rfl)) d_Mo_access_156 ⟨Nat.le_of_ble_eq_true rfl, Nat.le_of_ble_eq_true rfl⟩) (fun H locs hW hS => ?_)
        refine lv_if_ge (tgt := 165) hx hb d_Mo_access_159 (by decide) (fun c12 => ?_) (fun c12 => ?_)
        · have h := ifp h c12
          refine lv_aload_n hx hb d_Mo_access_165 rfl (lv_at hl 0 rfl) ?_
          obtain ⟨x13, e13, h⟩ := ob h
          refine mr_gR C hW k_Mo_75 e13 d_Mo_access_166 ?_
          refine lv_aload_n hx hb d_Mo_access_169 rfl (lv_at hl 0 rfl) ?_
          obtain ⟨x14, e14, h⟩ := ob h
          refine mr_gI C hW k_Mo_142 e14 d_Mo_access_170 ?_
          refine lv_iload_n hx hb d_Mo_access_173 rfl (lv_at hl 1 rfl) ?_
          obtain ⟨M15, e15, h⟩ := ob h
          refine mr_sI C hW hS e15 d_Mo_access_174 (fun H locs hW hS => ?_)
          refine lv_aload_n hx hb d_Mo_access_175 rfl (lv_at hl 0 rfl) ?_
          obtain ⟨x16, e16, h⟩ := ob h
          refine mr_gR C hW k_Mo_78 e16 d_Mo_access_176 ?_
          refine lv_aload_n hx hb d_Mo_access_179 rfl (lv_at hl 0 rfl) ?_
          obtain ⟨x17, e17, h⟩ := ob h
          refine mr_gI C hW k_Mo_142 e17 d_Mo_access_180 ?_
          refine lv_iload_n hx hb d_Mo_access_183 rfl (lv_at hl 2 rfl) ?_
          obtain ⟨M18, e18, h⟩ := ob h
          refine mr_sI C hW hS e18 d_Mo_access_184 (fun H locs hW hS => ?_)
          refine lv_aload_n hx hb d_Mo_access_185 rfl (lv_at hl 0 rfl) ?_
          obtain ⟨x19, e19, h⟩ := ob h
          refine mr_gR C hW k_Mo_81 e19 d_Mo_access_186 ?_
          refine lv_aload_n hx hb d_Mo_access_189 rfl (lv_at hl 0 rfl) ?_
          obtain ⟨x20, e20, h⟩ := ob h
          refine mr_gI C hW k_Mo_142 e20 d_Mo_access_190 ?_
          refine lv_iload hx hb d_Mo_access_193 (lv_at hl 4 rfl) ?_
          refine lv_bipush (v := 30) hx hb d_Mo_access_195 (by decide) ?_
          refine lv_idiv hx hb d_Mo_access_197 (by decide) ?_
          obtain ⟨M21, e21, h⟩ := ob h
          refine mr_sI C hW hS e21 d_Mo_access_198 (fun H locs hW hS => ?_)
          refine lv_aload_n hx hb d_Mo_access_199 rfl (lv_at hl 0 rfl) ?_
          refine lv_dup hx hb d_Mo_access_200 rfl ?_
          obtain ⟨x22, e22, h⟩ := ob h
          refine mr_gI C hW k_Mo_142 e22 d_Mo_access_201 ?_
          refine lv_iconst (v := 1) hx hb d_Mo_access_204 (by decide) ?_
          refine lv_iadd hx hb d_Mo_access_205 ?_
          obtain ⟨M23, e23, h⟩ := ob h
          refine mr_put C hW hS kp_Mo_142 rfl rfl e23 d_Mo_access_206 (fun H locs hW hS => ?_)
          refine lv_iconst (v := 0) hx hb d_Mo_access_209 (by decide) ?_
          exact mr_iret C hW hS (Nat.le_of_ble_eq_true rfl) (Nat.le_of_ble_eq_true rfl) h d_Mo_access_210
        · have h := ifn h c12
          refine lv_bipush (v := 6) hx hb d_Mo_access_162 (by decide) ?_
          exact mr_iret C hW hS (Nat.le_of_ble_eq_true rfl) (Nat.le_of_ble_eq_true rfl) h d_Mo_access_164
      · have h := ifp h c9
        refine lv_iconst (v := 5) hx hb d_Mo_access_150 (by decide) ?_
        exact mr_iret C hW hS (Nat.le_of_ble_eq_true rfl) (Nat.le_of_ble_eq_true rfl) h d_Mo_access_151
    · have h := ifn h c6
      refine lv_iconst (v := 4) hx hb d_Mo_access_137 (by decide) ?_
      exact mr_iret C hW hS (Nat.le_of_ble_eq_true rfl) (Nat.le_of_ble_eq_true rfl) h d_Mo_access_138
  · have h := ifp h c3
    refine lv_iconst (v := 3) hx hb d_Mo_access_116 (by decide) ?_
    exact mr_iret C hW hS (Nat.le_of_ble_eq_true rfl) (Nat.le_of_ble_eq_true rfl) h d_Mo_access_117
set_option maxHeartbeats 4000000 in
set_option maxRecDepth 100000 in
theorem c_Mo_access (l : Launch) (D : va_G) (dA : Nat → ClassId) (M0 M' : mm) (r : Int32) (v0 : Nat) (v1 : Int32) (v2 : Int32) (v3 : Int32) (v4 : Int32) (h : f_Mo_access v0 v1 v2 v3 v4 M0 = some (r, M')) : Met l y_Mo_access w_Mo_access rm_Mo_access (mm_Pre D dA M0 [.ref v0, .int v1, .int v2, .int v3, .int v4]) (mm_QI D dA M0 r M') 0 0 (mm_A M0) := by
  refine Met.ofW (cc := b_Mo_access) (maxL := 6) (ret := (some .int)) (by decide) rfl ?_
  intro p e s m args below meth c s₁ B hml hv
  obtain ⟨rfl, hW, hK⟩ := hv
  have C : mm_C p s m _ meth c b_Mo_access 6 (some .int) R_Mo D dA (mm_A M0) := ⟨B.exec, B.bytes, B.returns, hml, findClass_of_methodNamed B.named, fun w hw => atoms_spec (ws := w_Mo_access) B.pre w (List.mem_cons_of_mem _ hw), B.notSynchronized, hK, fun q hq => Or.inr (by rw [← hW.1]; exact hq)⟩
  have hS : va_S (mm_A M0) s.heap s.heap [] := va_S.rf
  obtain ⟨hx, hb, hr, hml, hown, hts, hlocks, hK, hA⟩ := id C
  have hl := lv_entry ([.ref v0, .int v1, .int v2, .int v3, .int v4]) (n := 6) (Nat.le_of_ble_eq_true rfl)
  rw [lg_entry_eq]
  generalize (lg_sl ([.ref v0, .int v1, .int v2, .int v3, .int v4]) ++ List.replicate (6 - (lg_sl ([.ref v0, .int v1, .int v2, .int v3, .int v4])).length) Slot.unset).toArray = ls at hl ⊢
  have hl : lv_has ls 6 [(0, .ref v0), (1, .int v1), (2, .int v2), (3, .int v3), (4, .int v4)] := hl
  unfold f_Mo_access at h
  refine lv_aload_n hx hb d_Mo_access_0 rfl (lv_at hl 0 rfl) ?_
  refine lv_iconst (v := 0) hx hb d_Mo_access_1 (by decide) ?_
  obtain ⟨M24, e24, h⟩ := ob h
  refine mr_put C hW hS kp_Mo_90 rfl rfl e24 d_Mo_access_2 (fun H locs hW hS => ?_)
  refine lv_aload_n hx hb d_Mo_access_5 rfl (lv_at hl 0 rfl) ?_
  refine lv_iload_n hx hb d_Mo_access_6 rfl (lv_at hl 2 rfl) ?_
  obtain ⟨_, e26, h⟩ := ob h
  obtain ⟨⟨x25, M25⟩, e25, h⟩ := ob h
  refine mr_ci C hW hS (va_runV (As := [.int v2]) (rest := []) ⟨hx, hb, hml, hown, hts⟩ (c_Mo_isTitle l D dA _ _ _ v0 v2 e25) (cwV 1 hts (mg_V q_280 q_281 q_282 q_283 q_267) rfl rfl rfl (by decide +kernel) ⟨Nat.le_of_ble_eq_true rfl, Nat.le_of_ble_eq_true rfl⟩) (mr_preV C hW (ci := 1) rfl e26) rfl rfl hl.1 rfl (lv_room (Nat.le_of_ble_eq_true rfl)) d_Mo_access_7 ⟨Nat.le_of_ble_eq_true rfl, Nat.le_of_ble_eq_true rfl⟩) (fun H locs hW hS => ?_)
  refine lv_if_eq (tgt := 23) hx hb d_Mo_access_10 (by decide) (fun c27 => ?_) (fun c27 => ?_)
  · have h := ifp h c27
    refine lv_iconst (v := (-1)) hx hb d_Mo_access_23 (by decide) ?_
    exact mr_iret C hW hS (Nat.le_of_ble_eq_true rfl) (Nat.le_of_ble_eq_true rfl) h d_Mo_access_24
  · have h := ifn h c27
    refine lv_iload_n hx hb d_Mo_access_13 rfl (lv_at hl 1 rfl) ?_
    refine lv_iconst (v := 0) hx hb d_Mo_access_14 (by decide) ?_
    refine lv_bipush (v := 99) hx hb d_Mo_access_15 (by decide) ?_
    obtain ⟨⟨x28, M28⟩, e28, h⟩ := ob h
    refine mr_ci C hW hS (va_runS (As := [.int v1, .int 0, .int 99]) (rest := []) ⟨hx, hb, hml, hown, hts⟩ (c_Mo_in1 l D dA _ _ _ v1 0 99 e28) (cwS 3 hts (mg_S q_264 q_265 q_266 q_267) rfl rfl rfl (by decide +kernel) ⟨Nat.le_of_ble_eq_true rfl, Nat.le_of_ble_eq_true rfl⟩) (mr_pre C hW) rfl rfl hl.1 rfl (lv_room (Nat.le_of_ble_eq_true rfl)) d_Mo_access_17 ⟨Nat.le_of_ble_eq_true rfl, Nat.le_of_ble_eq_true rfl⟩) (fun H locs hW hS => ?_)
    refine lv_if_ne (tgt := 25) hx hb d_Mo_access_20 (by decide) (fun c29 => ?_) (fun c29 => ?_)
    · have h := ifn h c29
      refine lv_iload_n hx hb d_Mo_access_25 rfl (lv_at hl 3 rfl) ?_
      obtain ⟨⟨x30, M30⟩, e30, h⟩ := ob h
      refine mr_ci C hW hS (va_runS (As := [.int v3]) (rest := []) ⟨hx, hb, hml, hown, hts⟩ (c_Mo_isDay l D dA _ _ _ v3 e30) (cwS 1 hts (mg_S q_284 q_285 q_286 q_267) rfl rfl rfl (by decide +kernel) ⟨Nat.le_of_ble_eq_true rfl, Nat.le_of_ble_eq_true rfl⟩) (mr_pre C hW) rfl rfl hl.1 rfl (lv_room (Nat.le_of_ble_eq_true rfl)) d_Mo_access_26 ⟨Nat.le_of_ble_eq_true rfl, Nat.le_of_ble_eq_true rfl⟩) (fun H locs hW hS => ?_)
      refine lv_if_eq (tgt := 40) hx hb d_Mo_access_29 (by decide) (fun c31 => ?_) (fun c31 => ?_)
      · have h := ifp h c31
        refine lv_bipush (v := (-2)) hx hb d_Mo_access_40 (by decide) ?_
        exact mr_iret C hW hS (Nat.le_of_ble_eq_true rfl) (Nat.le_of_ble_eq_true rfl) h d_Mo_access_42
      · have h := ifn h c31
        refine lv_iload hx hb d_Mo_access_32 (lv_at hl 4 rfl) ?_
        obtain ⟨⟨x32, M32⟩, e32, h⟩ := ob h
        refine mr_ci C hW hS (va_runS (As := [.int v4]) (rest := []) ⟨hx, hb, hml, hown, hts⟩ (c_Mo_isDay l D dA _ _ _ v4 e32) (cwS 1 hts (mg_S q_284 q_285 q_286 q_267) rfl rfl rfl (by decide +kernel) ⟨Nat.le_of_ble_eq_true rfl, Nat.le_of_ble_eq_true rfl⟩) (mr_pre C hW) rfl rfl hl.1 rfl (lv_room (Nat.le_of_ble_eq_true rfl)) d_Mo_access_34 ⟨Nat.le_of_ble_eq_true rfl, Nat.le_of_ble_eq_true rfl⟩) (fun H locs hW hS => ?_)
        refine lv_if_ne (tgt := 43) hx hb d_Mo_access_37 (by decide) (fun c33 => ?_) (fun c33 => ?_)
        · have h := ifn h c33
          refine lv_aload_n hx hb d_Mo_access_43 rfl (lv_at hl 0 rfl) ?_
          obtain ⟨x34, e34, h⟩ := ob h
          refine mr_gR C hW k_Mo_32 e34 d_Mo_access_44 ?_
          refine lv_iload_n hx hb d_Mo_access_47 rfl (lv_at hl 2 rfl) ?_
          obtain ⟨x35, e35, h⟩ := ob h
          refine mr_aI C hW e35 d_Mo_access_48 ?_
          refine lv_istore (lv' := [(5, .int x35), (0, .ref v0), (1, .int v1), (2, .int v2), (3, .int v3), (4, .int v4)]) hx hb d_Mo_access_49 hl (by decide) rfl (fun ls hl => ?_)
          refine lv_aload_n hx hb d_Mo_access_51 rfl (lv_at hl 1 rfl) ?_
          obtain ⟨x36, e36, h⟩ := ob h
          refine mr_gR C hW k_Mo_38 e36 d_Mo_access_52 ?_
          refine lv_iload_n hx hb d_Mo_access_55 rfl (lv_at hl 3 rfl) ?_
          obtain ⟨x37, e37, h⟩ := ob h
          refine mr_aZ C hW e37 d_Mo_access_56 ?_
          refine lv_if_eq (tgt := 62) hx hb d_Mo_access_57 (by decide) (fun c38 => ?_) (fun c38 => ?_)
          · have h := ifp h c38
            refine lv_aload_n hx hb d_Mo_access_62 rfl (lv_at hl 1 rfl) ?_
            obtain ⟨x39, e39, h⟩ := ob h
            refine mr_gR C hW k_Mo_17 e39 d_Mo_access_63 ?_
            refine lv_iload hx hb d_Mo_access_66 (lv_at hl 0 rfl) ?_
            obtain ⟨x40, e40, h⟩ := ob h
            refine mr_aI C hW e40 d_Mo_access_68 ?_
            refine lv_if_lt (tgt := 107) hx hb d_Mo_access_69 (by decide) (fun c41 => ?_) (fun c41 => ?_)
            · have h := ifp h c41
              exact w_Mo_access_b107 C _ _ _ _ _ _ _ _ _ _ h hW hS (lv_sub hl [1, 2, 3, 4, 5, 0] rfl)
            · have h := ifn h c41
              refine lv_iload hx hb d_Mo_access_72 (lv_at hl 5 rfl) ?_
              refine lv_aload_n hx hb d_Mo_access_74 rfl (lv_at hl 1 rfl) ?_
              obtain ⟨x42, e42, h⟩ := ob h
              refine mr_gR C hW k_Mo_17 e42 d_Mo_access_75 ?_
              refine lv_iload hx hb d_Mo_access_78 (lv_at hl 0 rfl) ?_
              obtain ⟨x43, e43, h⟩ := ob h
              refine mr_aI C hW e43 d_Mo_access_80 ?_
              refine lv_icmp_lt (tgt := 107) hx hb d_Mo_access_81 (by decide) (fun c44 => ?_) (fun c44 => ?_)
              · have h := ifp h c44
                exact w_Mo_access_b107 C _ _ _ _ _ _ _ _ _ _ h hW hS (lv_sub hl [1, 2, 3, 4, 5, 0] rfl)
              · have h := ifn h c44
                refine lv_aload_n hx hb d_Mo_access_84 rfl (lv_at hl 1 rfl) ?_
                obtain ⟨x45, e45, h⟩ := ob h
                refine mr_gR C hW k_Mo_7 e45 d_Mo_access_85 ?_
                refine lv_iload hx hb d_Mo_access_88 (lv_at hl 0 rfl) ?_
                obtain ⟨x46, e46, h⟩ := ob h
                refine mr_aZ C hW e46 d_Mo_access_90 ?_
                refine lv_if_eq (tgt := 105) hx hb d_Mo_access_91 (by decide) (fun c47 => ?_) (fun c47 => ?_)
                · have h := ifp h c47
                  refine lv_iconst (v := 2) hx hb d_Mo_access_105 (by decide) ?_
                  exact mr_iret C hW hS (Nat.le_of_ble_eq_true rfl) (Nat.le_of_ble_eq_true rfl) h d_Mo_access_106
                · have h := ifn h c47
                  refine lv_iload_n hx hb d_Mo_access_94 rfl (lv_at hl 4 rfl) ?_
                  refine lv_aload_n hx hb d_Mo_access_95 rfl (lv_at hl 1 rfl) ?_
                  obtain ⟨x48, e48, h⟩ := ob h
                  refine mr_gR C hW k_Mo_17 e48 d_Mo_access_96 ?_
                  refine lv_iload hx hb d_Mo_access_99 (lv_at hl 0 rfl) ?_
                  obtain ⟨x49, e49, h⟩ := ob h
                  refine mr_aI C hW e49 d_Mo_access_101 ?_
                  refine lv_icmp_lt (tgt := 107) hx hb d_Mo_access_102 (by decide) (fun c50 => ?_) (fun c50 => ?_)
                  · have h := ifp h c50
                    exact w_Mo_access_b107 C _ _ _ _ _ _ _ _ _ _ h hW hS (lv_sub hl [1, 2, 3, 4, 5, 0] rfl)
                  · have h := ifn h c50
                    refine lv_iconst (v := 2) hx hb d_Mo_access_105 (by decide) ?_
                    exact mr_iret C hW hS (Nat.le_of_ble_eq_true rfl) (Nat.le_of_ble_eq_true rfl) h d_Mo_access_106
          · have h := ifn h c38
            refine lv_iconst (v := 1) hx hb d_Mo_access_60 (by decide) ?_
            exact mr_iret C hW hS (Nat.le_of_ble_eq_true rfl) (Nat.le_of_ble_eq_true rfl) h d_Mo_access_61
        · have h := ifp h c33
          refine lv_bipush (v := (-2)) hx hb d_Mo_access_40 (by decide) ?_
          exact mr_iret C hW hS (Nat.le_of_ble_eq_true rfl) (Nat.le_of_ble_eq_true rfl) h d_Mo_access_42
    · have h := ifp h c29
      refine lv_iconst (v := (-1)) hx hb d_Mo_access_23 (by decide) ?_
      exact mr_iret C hW hS (Nat.le_of_ble_eq_true rfl) (Nat.le_of_ble_eq_true rfl) h d_Mo_access_24
def f_Mo_failed (v0 : Nat) (M : mm) : Option (Int32 × mm) :=
    (pF 1 0 (.int 0) M v0).bind fun M1 =>
    (gI 1 23 M1 v0).bind fun x2 =>
    some (x2, M1)
set_option maxHeartbeats 4000000 in
set_option maxRecDepth 100000 in
theorem c_Mo_failed (l : Launch) (D : va_G) (dA : Nat → ClassId) (M0 M' : mm) (r : Int32) (v0 : Nat) (h : f_Mo_failed v0 M0 = some (r, M')) : Met l y_Mo_failed w_Mo_failed rm_Mo_failed (mm_Pre D dA M0 [.ref v0]) (mm_QI D dA M0 r M') 0 0 (mm_A M0) := by
  refine Met.ofW (cc := b_Mo_failed) (maxL := 1) (ret := (some .int)) (by decide) rfl ?_
  intro p e s m args below meth c s₁ B hml hv
  obtain ⟨rfl, hW, hK⟩ := hv
  have C : mm_C p s m _ meth c b_Mo_failed 1 (some .int) R_Mo D dA (mm_A M0) := ⟨B.exec, B.bytes, B.returns, hml, findClass_of_methodNamed B.named, fun w hw => atoms_spec (ws := w_Mo_failed) B.pre w (List.mem_cons_of_mem _ hw), B.notSynchronized, hK, fun q hq => Or.inr (by rw [← hW.1]; exact hq)⟩
  have hS : va_S (mm_A M0) s.heap s.heap [] := va_S.rf
  obtain ⟨hx, hb, hr, hml, hown, hts, hlocks, hK, hA⟩ := id C
  have hl := lv_entry ([.ref v0]) (n := 1) (Nat.le_of_ble_eq_true rfl)
  rw [lg_entry_eq]
  generalize (lg_sl ([.ref v0]) ++ List.replicate (1 - (lg_sl ([.ref v0])).length) Slot.unset).toArray = ls at hl ⊢
  have hl : lv_has ls 1 [(0, .ref v0)] := hl
  unfold f_Mo_failed at h
  refine lv_aload_n hx hb d_Mo_failed_0 rfl (lv_at hl 0 rfl) ?_
  refine lv_iconst (v := 0) hx hb d_Mo_failed_1 (by decide) ?_
  obtain ⟨M1, e1, h⟩ := ob h
  refine mr_put C hW hS kp_Mo_90 rfl rfl e1 d_Mo_failed_2 (fun H locs hW hS => ?_)
  refine lv_aload_n hx hb d_Mo_failed_5 rfl (lv_at hl 0 rfl) ?_
  obtain ⟨x2, e2, h⟩ := ob h
  refine mr_gI C hW k_Mo_68 e2 d_Mo_failed_6 ?_
  exact mr_iret C hW hS (Nat.le_of_ble_eq_true rfl) (Nat.le_of_ble_eq_true rfl) h d_Mo_failed_9
def f_Mo_provider_b62 : Int32 → Int32 → Nat → mm → Option (Int32 × mm) := fun t0 t1 t2 M =>
    (sZ t0 M t2 t1).bind fun M1 =>
    some (1, M1)
def f_Mo_provider (v0 : Nat) (v1 : Int32) (v2 : Int32) (v3 : Int32) (M : mm) : Option (Int32 × mm) :=
    (pF 1 0 (.int 0) M v0).bind fun M2 =>
    (kO 1 M2 v0).bind fun _ =>
    (f_Mo_isPack v0 v1 M2).bind fun (x3, M3) =>
    if x3 = 0 then
      some ((-1), M3)
    else
      (kO 1 M3 v0).bind fun _ =>
      (f_Mo_find v0 v1 v2 M3).bind fun (x6, M6) =>
      if 0 ≤ x6 then
        if v2 = v3 then
          (gR 1 12 M6 v0).bind fun x15 =>
          (gR 1 12 M6 v0).bind fun x16 =>
          (aZ M6 x16 x6).bind fun x17 =>
          if x17 = 0 then
            f_Mo_provider_b62 1 x6 x15 M6
          else
            f_Mo_provider_b62 0 x6 x15 M6
        else
          (kO 1 M6 v0).bind fun _ =>
          (f_Mo_find v0 v1 v3 M6).bind fun (x10, M10) =>
          if x10 < 0 then
            (gR 1 11 M10 v0).bind fun x13 =>
            (sI v3 M10 x13 x6).bind fun M14 =>
            some (1, M14)
          else
            some ((-3), M10)
      else
        (kO 1 M6 v0).bind fun _ =>
        (f_Mo_tell v0 2 v2 M6).bind fun (_, M19) =>
        some (0, M19)
set_option maxHeartbeats 4000000 in
set_option maxRecDepth 100000 in
theorem w_Mo_provider_b62 {p : Program} {l : Launch} {e : Env} {s : State} {m : MethodId} {args : Array Value} {below : List Frame} {meth : Method} {c : Code} {D : va_G} {dA : Nat → ClassId} {M0 M' : mm} {r : Int32} (C : mm_C p s m args meth c b_Mo_provider 5 (some .int) R_Mo D dA (mm_A M0)) : ∀ (t0 : Int32) (t1 : Int32) (t2 : Nat) (M : mm) (H : Heap) (locs : List Loc) (ls : Array Slot), f_Mo_provider_b62 t0 t1 t2 M = some (r, M') → mm_W D dA (mm_A M0) M H → va_S (mm_A M0) s.heap H locs → lv_has ls 5 [] → W p l e rm_Mo_provider s m args below meth c H locs 0 0 (MQ below (mm_QI D dA M0 r M') args s 0 0 (mm_A M0)) (F0 m 62 ls [.int t0, .int t1, .ref t2]) := by
  obtain ⟨hx, hb, hr, hml, hown, hts, hlocks, hK, hA⟩ := id C
  intro t0 t1 t2 M H locs ls h hW hS hl
  unfold f_Mo_provider_b62 at h
  obtain ⟨M1, e1, h⟩ := ob h
  refine mr_sZ C hW hS e1 d_Mo_provider_62 (fun H locs hW hS => ?_)
  refine lv_iconst (v := 1) hx hb d_Mo_provider_63 (by decide) ?_
  exact mr_iret C hW hS (Nat.le_of_ble_eq_true rfl) (Nat.le_of_ble_eq_true rfl) h d_Mo_provider_64
set_option maxHeartbeats 4000000 in
set_option maxRecDepth 100000 in
theorem c_Mo_provider (l : Launch) (D : va_G) (dA : Nat → ClassId) (M0 M' : mm) (r : Int32) (v0 : Nat) (v1 : Int32) (v2 : Int32) (v3 : Int32) (h : f_Mo_provider v0 v1 v2 v3 M0 = some (r, M')) : Met l y_Mo_provider w_Mo_provider rm_Mo_provider (mm_Pre D dA M0 [.ref v0, .int v1, .int v2, .int v3]) (mm_QI D dA M0 r M') 0 0 (mm_A M0) := by
  refine Met.ofW (cc := b_Mo_provider) (maxL := 5) (ret := (some .int)) (by decide) rfl ?_
  intro p e s m args below meth c s₁ B hml hv
  obtain ⟨rfl, hW, hK⟩ := hv
  have C : mm_C p s m _ meth c b_Mo_provider 5 (some .int) R_Mo D dA (mm_A M0) := ⟨B.exec, B.bytes, B.returns, hml, findClass_of_methodNamed B.named, fun w hw => atoms_spec (ws := w_Mo_provider) B.pre w (List.mem_cons_of_mem _ hw), B.notSynchronized, hK, fun q hq => Or.inr (by rw [← hW.1]; exact hq)⟩
  have hS : va_S (mm_A M0) s.heap s.heap [] := va_S.rf
  obtain ⟨hx, hb, hr, hml, hown, hts, hlocks, hK, hA⟩ := id C
  have hl := lv_entry ([.ref v0, .int v1, .int v2, .int v3]) (n := 5) (Nat.le_of_ble_eq_true rfl)
  rw [lg_entry_eq]
  generalize (lg_sl ([.ref v0, .int v1, .int v2, .int v3]) ++ List.replicate (5 - (lg_sl ([.ref v0, .int v1, .int v2, .int v3])).length) Slot.unset).toArray = ls at hl ⊢
  have hl : lv_has ls 5 [(0, .ref v0), (1, .int v1), (2, .int v2), (3, .int v3)] := hl
  unfold f_Mo_provider at h
  refine lv_aload_n hx hb d_Mo_provider_0 rfl (lv_at hl 0 rfl) ?_
  refine lv_iconst (v := 0) hx hb d_Mo_provider_1 (by decide) ?_
  obtain ⟨M2, e2, h⟩ := ob h
  refine mr_put C hW hS kp_Mo_90 rfl rfl e2 d_Mo_provider_2 (fun H locs hW hS => ?_)
  refine lv_aload_n hx hb d_Mo_provider_5 rfl (lv_at hl 0 rfl) ?_
  refine lv_iload_n hx hb d_Mo_provider_6 rfl (lv_at hl 1 rfl) ?_
  obtain ⟨_, e4, h⟩ := ob h
  obtain ⟨⟨x3, M3⟩, e3, h⟩ := ob h
  refine mr_ci C hW hS (va_runV (As := [.int v1]) (rest := []) ⟨hx, hb, hml, hown, hts⟩ (c_Mo_isPack l D dA _ _ _ v0 v1 e3) (cwV 1 hts (mg_V q_272 q_273 q_274 q_275 q_267) rfl rfl rfl (by decide +kernel) ⟨Nat.le_of_ble_eq_true rfl, Nat.le_of_ble_eq_true rfl⟩) (mr_preV C hW (ci := 1) rfl e4) rfl rfl hl.1 rfl (lv_room (Nat.le_of_ble_eq_true rfl)) d_Mo_provider_7 ⟨Nat.le_of_ble_eq_true rfl, Nat.le_of_ble_eq_true rfl⟩) (fun H locs hW hS => ?_)
  refine lv_if_ne (tgt := 15) hx hb d_Mo_provider_10 (by decide) (fun c5 => ?_) (fun c5 => ?_)
  · have h := ifn h c5
    refine lv_aload_n hx hb d_Mo_provider_15 rfl (lv_at hl 0 rfl) ?_
    refine lv_iload_n hx hb d_Mo_provider_16 rfl (lv_at hl 1 rfl) ?_
    refine lv_iload_n hx hb d_Mo_provider_17 rfl (lv_at hl 2 rfl) ?_
    obtain ⟨_, e7, h⟩ := ob h
    obtain ⟨⟨x6, M6⟩, e6, h⟩ := ob h
    refine mr_ci C hW hS (va_runV (As := [.int v1, .int v2]) (rest := []) ⟨hx, hb, hml, hown, hts⟩ (c_Mo_find l D dA _ _ _ v0 v1 v2 e6) (cwV 2 hts (mg_V q_276 q_277 q_278 q_279 q_267) rfl rfl rfl (by decide +kernel) ⟨Nat.le_of_ble_eq_true rfl, Nat.le_of_ble_eq_true rfl⟩) (mr_preV C hW (ci := 1) rfl e7) rfl rfl hl.1 rfl (lv_room (Nat.le_of_ble_eq_true rfl)) d_Mo_provider_18 ⟨Nat.le_of_ble_eq_true rfl, Nat.le_of_ble_eq_true rfl⟩) (fun H locs hW hS => ?_)
    refine lv_istore (lv' := [(4, .int x6), (0, .ref v0), (1, .int v1), (2, .int v2), (3, .int v3)]) hx hb d_Mo_provider_21 hl (by decide) rfl (fun ls hl => ?_)
    refine lv_iload hx hb d_Mo_provider_23 (lv_at hl 0 rfl) ?_
    refine lv_if_ge (tgt := 36) hx hb d_Mo_provider_25 (by decide) (fun c8 => ?_) (fun c8 => ?_)
    · have h := ifp h c8
      refine lv_iload_n hx hb d_Mo_provider_36 rfl (lv_at hl 3 rfl) ?_
      refine lv_iload_n hx hb d_Mo_provider_37 rfl (lv_at hl 4 rfl) ?_
      refine lv_icmp_ne (tgt := 65) hx hb d_Mo_provider_38 (by decide) (fun c9 => ?_) (fun c9 => ?_)
      · have h := ifn h c9
        refine lv_aload_n hx hb d_Mo_provider_65 rfl (lv_at hl 1 rfl) ?_
        refine lv_iload_n hx hb d_Mo_provider_66 rfl (lv_at hl 2 rfl) ?_
        refine lv_iload_n hx hb d_Mo_provider_67 rfl (lv_at hl 4 rfl) ?_
        obtain ⟨_, e11, h⟩ := ob h
        obtain ⟨⟨x10, M10⟩, e10, h⟩ := ob h
        refine mr_ci C hW hS (va_runV (As := [.int v1, .int v3]) (rest := []) ⟨hx, hb, hml, hown, hts⟩ (c_Mo_find l D dA _ _ _ v0 v1 v3 e10) (cwV 2 hts (mg_V q_276 q_277 q_278 q_279 q_267) rfl rfl rfl (by decide +kernel) ⟨Nat.le_of_ble_eq_true rfl, Nat.le_of_ble_eq_true rfl⟩) (mr_preV C hW (ci := 1) rfl e11) rfl rfl hl.1 rfl (lv_room (Nat.le_of_ble_eq_true rfl)) d_Mo_provider_68 ⟨Nat.le_of_ble_eq_true rfl, Nat.le_of_ble_eq_true rfl⟩) (fun H locs hW hS => ?_)
        refine lv_if_lt (tgt := 77) hx hb d_Mo_provider_71 (by decide) (fun c12 => ?_) (fun c12 => ?_)
        · have h := ifp h c12
          refine lv_aload_n hx hb d_Mo_provider_77 rfl (lv_at hl 1 rfl) ?_
          obtain ⟨x13, e13, h⟩ := ob h
          refine mr_gR C hW k_Mo_35 e13 d_Mo_provider_78 ?_
          refine lv_iload hx hb d_Mo_provider_81 (lv_at hl 0 rfl) ?_
          refine lv_iload_n hx hb d_Mo_provider_83 rfl (lv_at hl 4 rfl) ?_
          obtain ⟨M14, e14, h⟩ := ob h
          refine mr_sI C hW hS e14 d_Mo_provider_84 (fun H locs hW hS => ?_)
          refine lv_iconst (v := 1) hx hb d_Mo_provider_85 (by decide) ?_
          exact mr_iret C hW hS (Nat.le_of_ble_eq_true rfl) (Nat.le_of_ble_eq_true rfl) h d_Mo_provider_86
        · have h := ifn h c12
          refine lv_bipush (v := (-3)) hx hb d_Mo_provider_74 (by decide) ?_
          exact mr_iret C hW hS (Nat.le_of_ble_eq_true rfl) (Nat.le_of_ble_eq_true rfl) h d_Mo_provider_76
      · have h := ifp h c9
        refine lv_aload_n hx hb d_Mo_provider_41 rfl (lv_at hl 1 rfl) ?_
        obtain ⟨x15, e15, h⟩ := ob h
        refine mr_gR C hW k_Mo_38 e15 d_Mo_provider_42 ?_
        refine lv_iload hx hb d_Mo_provider_45 (lv_at hl 0 rfl) ?_
        refine lv_aload_n hx hb d_Mo_provider_47 rfl (lv_at hl 1 rfl) ?_
        obtain ⟨x16, e16, h⟩ := ob h
        refine mr_gR C hW k_Mo_38 e16 d_Mo_provider_48 ?_
        refine lv_iload hx hb d_Mo_provider_51 (lv_at hl 0 rfl) ?_
        obtain ⟨x17, e17, h⟩ := ob h
        refine mr_aZ C hW e17 d_Mo_provider_53 ?_
        refine lv_if_ne (tgt := 61) hx hb d_Mo_provider_54 (by decide) (fun c18 => ?_) (fun c18 => ?_)
        · have h := ifn h c18
          refine lv_iconst (v := 0) hx hb d_Mo_provider_61 (by decide) ?_
          exact w_Mo_provider_b62 C _ _ _ _ _ _ _ h hW hS (lv_sub hl [] rfl)
        · have h := ifp h c18
          refine lv_iconst (v := 1) hx hb d_Mo_provider_57 (by decide) ?_
          refine lv_goto (tgt := 62) hx hb d_Mo_provider_58 (by decide) ?_
          exact w_Mo_provider_b62 C _ _ _ _ _ _ _ h hW hS (lv_sub hl [] rfl)
    · have h := ifn h c8
      refine lv_aload_n hx hb d_Mo_provider_28 rfl (lv_at hl 1 rfl) ?_
      refine lv_iconst (v := 2) hx hb d_Mo_provider_29 (by decide) ?_
      refine lv_iload_n hx hb d_Mo_provider_30 rfl (lv_at hl 3 rfl) ?_
      obtain ⟨_, e20, h⟩ := ob h
      obtain ⟨⟨u19, M19⟩, e19, h⟩ := ob h
      refine mr_cv C hW hS (va_runV (As := [.int 2, .int v2]) (rest := []) ⟨hx, hb, hml, hown, hts⟩ (c_Mo_tell l D dA _ _ _ v0 2 v2 e19) (cwV 2 hts (mg_V q_318 q_319 q_320 q_321 q_267) rfl rfl rfl (by decide +kernel) ⟨Nat.le_of_ble_eq_true rfl, Nat.le_of_ble_eq_true rfl⟩) (mr_preV C hW (ci := 1) rfl e20) rfl rfl hl.1 rfl (lv_room (Nat.le_of_ble_eq_true rfl)) d_Mo_provider_31 ⟨Nat.le_of_ble_eq_true rfl, Nat.le_of_ble_eq_true rfl⟩) (fun H locs hW hS => ?_)
      refine lv_iconst (v := 0) hx hb d_Mo_provider_34 (by decide) ?_
      exact mr_iret C hW hS (Nat.le_of_ble_eq_true rfl) (Nat.le_of_ble_eq_true rfl) h d_Mo_provider_35
  · have h := ifp h c5
    refine lv_iconst (v := (-1)) hx hb d_Mo_provider_13 (by decide) ?_
    exact mr_iret C hW hS (Nat.le_of_ble_eq_true rfl) (Nat.le_of_ble_eq_true rfl) h d_Mo_provider_14
