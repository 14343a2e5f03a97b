theorem d_Mo_init_0 : decode b_Mo_init 0 = .ok (.aload_n 0, 1) := by decide +kernel
theorem d_Mo_init_1 : decode b_Mo_init 1 = .ok (.invokespecial 1, 3) := by decide +kernel
theorem d_Mo_init_4 : decode b_Mo_init 4 = .ok (.aload_n 0, 1) := by decide +kernel
theorem d_Mo_init_5 : decode b_Mo_init 5 = .ok (.bipush 20, 2) := by decide +kernel
theorem d_Mo_init_7 : decode b_Mo_init 7 = .ok (.newarray .boolean, 2) := by decide +kernel
theorem d_Mo_init_9 : decode b_Mo_init 9 = .ok (.putfield 7, 3) := by decide +kernel
theorem d_Mo_init_12 : decode b_Mo_init 12 = .ok (.aload_n 0, 1) := by decide +kernel
theorem d_Mo_init_13 : decode b_Mo_init 13 = .ok (.bipush 20, 2) := by decide +kernel
theorem d_Mo_init_15 : decode b_Mo_init 15 = .ok (.newarray .int, 2) := by decide +kernel
theorem d_Mo_init_17 : decode b_Mo_init 17 = .ok (.putfield 13, 3) := by decide +kernel
theorem d_Mo_init_20 : decode b_Mo_init 20 = .ok (.aload_n 0, 1) := by decide +kernel
theorem d_Mo_init_21 : decode b_Mo_init 21 = .ok (.bipush 20, 2) := by decide +kernel
theorem d_Mo_init_23 : decode b_Mo_init 23 = .ok (.newarray .int, 2) := by decide +kernel
theorem d_Mo_init_25 : decode b_Mo_init 25 = .ok (.putfield 17, 3) := by decide +kernel
theorem d_Mo_init_28 : decode b_Mo_init 28 = .ok (.aload_n 0, 1) := by decide +kernel
theorem d_Mo_init_29 : decode b_Mo_init 29 = .ok (.bipush 20, 2) := by decide +kernel
theorem d_Mo_init_31 : decode b_Mo_init 31 = .ok (.newarray .int, 2) := by decide +kernel
theorem d_Mo_init_33 : decode b_Mo_init 33 = .ok (.putfield 20, 3) := by decide +kernel
theorem d_Mo_init_36 : decode b_Mo_init 36 = .ok (.aload_n 0, 1) := by decide +kernel
theorem d_Mo_init_37 : decode b_Mo_init 37 = .ok (.sipush 2000, 3) := by decide +kernel
theorem d_Mo_init_40 : decode b_Mo_init 40 = .ok (.newarray .int, 2) := by decide +kernel
theorem d_Mo_init_42 : decode b_Mo_init 42 = .ok (.putfield 23, 3) := by decide +kernel
theorem d_Mo_init_45 : decode b_Mo_init 45 = .ok (.aload_n 0, 1) := by decide +kernel
theorem d_Mo_init_46 : decode b_Mo_init 46 = .ok (.bipush 20, 2) := by decide +kernel
theorem d_Mo_init_48 : decode b_Mo_init 48 = .ok (.newarray .int, 2) := by decide +kernel
theorem d_Mo_init_50 : decode b_Mo_init 50 = .ok (.putfield 26, 3) := by decide +kernel
theorem d_Mo_init_53 : decode b_Mo_init 53 = .ok (.aload_n 0, 1) := by decide +kernel
theorem d_Mo_init_54 : decode b_Mo_init 54 = .ok (.sipush 2000, 3) := by decide +kernel
theorem d_Mo_init_57 : decode b_Mo_init 57 = .ok (.newarray .int, 2) := by decide +kernel
theorem d_Mo_init_59 : decode b_Mo_init 59 = .ok (.putfield 29, 3) := by decide +kernel
theorem d_Mo_init_62 : decode b_Mo_init 62 = .ok (.aload_n 0, 1) := by decide +kernel
theorem d_Mo_init_63 : decode b_Mo_init 63 = .ok (.sipush 200, 3) := by decide +kernel
theorem d_Mo_init_66 : decode b_Mo_init 66 = .ok (.newarray .int, 2) := by decide +kernel
theorem d_Mo_init_68 : decode b_Mo_init 68 = .ok (.putfield 32, 3) := by decide +kernel
theorem d_Mo_init_71 : decode b_Mo_init 71 = .ok (.aload_n 0, 1) := by decide +kernel
theorem d_Mo_init_72 : decode b_Mo_init 72 = .ok (.sipush 200, 3) := by decide +kernel
theorem d_Mo_init_75 : decode b_Mo_init 75 = .ok (.newarray .int, 2) := by decide +kernel
theorem d_Mo_init_77 : decode b_Mo_init 77 = .ok (.putfield 35, 3) := by decide +kernel
theorem d_Mo_init_80 : decode b_Mo_init 80 = .ok (.aload_n 0, 1) := by decide +kernel
theorem d_Mo_init_81 : decode b_Mo_init 81 = .ok (.sipush 200, 3) := by decide +kernel
theorem d_Mo_init_84 : decode b_Mo_init 84 = .ok (.newarray .boolean, 2) := by decide +kernel
theorem d_Mo_init_86 : decode b_Mo_init 86 = .ok (.putfield 38, 3) := by decide +kernel
theorem d_Mo_init_89 : decode b_Mo_init 89 = .ok (.aload_n 0, 1) := by decide +kernel
theorem d_Mo_init_90 : decode b_Mo_init 90 = .ok (.sipush 200, 3) := by decide +kernel
theorem d_Mo_init_93 : decode b_Mo_init 93 = .ok (.newarray .int, 2) := by decide +kernel
theorem d_Mo_init_95 : decode b_Mo_init 95 = .ok (.putfield 41, 3) := by decide +kernel
theorem d_Mo_init_98 : decode b_Mo_init 98 = .ok (.aload_n 0, 1) := by decide +kernel
theorem d_Mo_init_99 : decode b_Mo_init 99 = .ok (.sipush 200, 3) := by decide +kernel
theorem d_Mo_init_102 : decode b_Mo_init 102 = .ok (.newarray .int, 2) := by decide +kernel
theorem d_Mo_init_104 : decode b_Mo_init 104 = .ok (.putfield 44, 3) := by decide +kernel
theorem d_Mo_init_107 : decode b_Mo_init 107 = .ok (.aload_n 0, 1) := by decide +kernel
theorem d_Mo_init_108 : decode b_Mo_init 108 = .ok (.sipush 2000, 3) := by decide +kernel
theorem d_Mo_init_111 : decode b_Mo_init 111 = .ok (.newarray .int, 2) := by decide +kernel
theorem d_Mo_init_113 : decode b_Mo_init 113 = .ok (.putfield 47, 3) := by decide +kernel
theorem d_Mo_init_116 : decode b_Mo_init 116 = .ok (.aload_n 0, 1) := by decide +kernel
theorem d_Mo_init_117 : decode b_Mo_init 117 = .ok (.sipush 2000, 3) := by decide +kernel
theorem d_Mo_init_120 : decode b_Mo_init 120 = .ok (.newarray .int, 2) := by decide +kernel
theorem d_Mo_init_122 : decode b_Mo_init 122 = .ok (.putfield 50, 3) := by decide +kernel
theorem d_Mo_init_125 : decode b_Mo_init 125 = .ok (.aload_n 0, 1) := by decide +kernel
theorem d_Mo_init_126 : decode b_Mo_init 126 = .ok (.bipush 100, 2) := by decide +kernel
theorem d_Mo_init_128 : decode b_Mo_init 128 = .ok (.newarray .int, 2) := by decide +kernel
theorem d_Mo_init_130 : decode b_Mo_init 130 = .ok (.putfield 53, 3) := by decide +kernel
theorem d_Mo_init_133 : decode b_Mo_init 133 = .ok (.aload_n 0, 1) := by decide +kernel
theorem d_Mo_init_134 : decode b_Mo_init 134 = .ok (.bipush 100, 2) := by decide +kernel
theorem d_Mo_init_136 : decode b_Mo_init 136 = .ok (.newarray .int, 2) := by decide +kernel
theorem d_Mo_init_138 : decode b_Mo_init 138 = .ok (.putfield 56, 3) := by decide +kernel
theorem d_Mo_init_141 : decode b_Mo_init 141 = .ok (.aload_n 0, 1) := by decide +kernel
theorem d_Mo_init_142 : decode b_Mo_init 142 = .ok (.bipush 100, 2) := by decide +kernel
theorem d_Mo_init_144 : decode b_Mo_init 144 = .ok (.newarray .int, 2) := by decide +kernel
theorem d_Mo_init_146 : decode b_Mo_init 146 = .ok (.putfield 59, 3) := by decide +kernel
theorem d_Mo_init_149 : decode b_Mo_init 149 = .ok (.aload_n 0, 1) := by decide +kernel
theorem d_Mo_init_150 : decode b_Mo_init 150 = .ok (.bipush 100, 2) := by decide +kernel
theorem d_Mo_init_152 : decode b_Mo_init 152 = .ok (.newarray .int, 2) := by decide +kernel
theorem d_Mo_init_154 : decode b_Mo_init 154 = .ok (.putfield 62, 3) := by decide +kernel
theorem d_Mo_init_157 : decode b_Mo_init 157 = .ok (.aload_n 0, 1) := by decide +kernel
theorem d_Mo_init_158 : decode b_Mo_init 158 = .ok (.bipush 100, 2) := by decide +kernel
theorem d_Mo_init_160 : decode b_Mo_init 160 = .ok (.newarray .boolean, 2) := by decide +kernel
theorem d_Mo_init_162 : decode b_Mo_init 162 = .ok (.putfield 65, 3) := by decide +kernel
theorem d_Mo_init_165 : decode b_Mo_init 165 = .ok (.aload_n 0, 1) := by decide +kernel
theorem d_Mo_init_166 : decode b_Mo_init 166 = .ok (.iconst (-1), 1) := by decide +kernel
theorem d_Mo_init_167 : decode b_Mo_init 167 = .ok (.putfield 68, 3) := by decide +kernel
theorem d_Mo_init_170 : decode b_Mo_init 170 = .ok (.aload_n 0, 1) := by decide +kernel
theorem d_Mo_init_171 : decode b_Mo_init 171 = .ok (.bipush 100, 2) := by decide +kernel
theorem d_Mo_init_173 : decode b_Mo_init 173 = .ok (.newarray .int, 2) := by decide +kernel
theorem d_Mo_init_175 : decode b_Mo_init 175 = .ok (.putfield 72, 3) := by decide +kernel
theorem d_Mo_init_178 : decode b_Mo_init 178 = .ok (.aload_n 0, 1) := by decide +kernel
theorem d_Mo_init_179 : decode b_Mo_init 179 = .ok (.sipush 4096, 3) := by decide +kernel
theorem d_Mo_init_182 : decode b_Mo_init 182 = .ok (.newarray .int, 2) := by decide +kernel
theorem d_Mo_init_184 : decode b_Mo_init 184 = .ok (.putfield 75, 3) := by decide +kernel
theorem d_Mo_init_187 : decode b_Mo_init 187 = .ok (.aload_n 0, 1) := by decide +kernel
theorem d_Mo_init_188 : decode b_Mo_init 188 = .ok (.sipush 4096, 3) := by decide +kernel
theorem d_Mo_init_191 : decode b_Mo_init 191 = .ok (.newarray .int, 2) := by decide +kernel
theorem d_Mo_init_193 : decode b_Mo_init 193 = .ok (.putfield 78, 3) := by decide +kernel
theorem d_Mo_init_196 : decode b_Mo_init 196 = .ok (.aload_n 0, 1) := by decide +kernel
theorem d_Mo_init_197 : decode b_Mo_init 197 = .ok (.sipush 4096, 3) := by decide +kernel
theorem d_Mo_init_200 : decode b_Mo_init 200 = .ok (.newarray .int, 2) := by decide +kernel
theorem d_Mo_init_202 : decode b_Mo_init 202 = .ok (.putfield 81, 3) := by decide +kernel
theorem d_Mo_init_205 : decode b_Mo_init 205 = .ok (.aload_n 0, 1) := by decide +kernel
theorem d_Mo_init_206 : decode b_Mo_init 206 = .ok (.bipush 100, 2) := by decide +kernel
theorem d_Mo_init_208 : decode b_Mo_init 208 = .ok (.newarray .int, 2) := by decide +kernel
theorem d_Mo_init_210 : decode b_Mo_init 210 = .ok (.putfield 84, 3) := by decide +kernel
theorem d_Mo_init_213 : decode b_Mo_init 213 = .ok (.aload_n 0, 1) := by decide +kernel
theorem d_Mo_init_214 : decode b_Mo_init 214 = .ok (.bipush 100, 2) := by decide +kernel
theorem d_Mo_init_216 : decode b_Mo_init 216 = .ok (.newarray .int, 2) := by decide +kernel
theorem d_Mo_init_218 : decode b_Mo_init 218 = .ok (.putfield 87, 3) := by decide +kernel
theorem d_Mo_init_221 : decode b_Mo_init 221 = .ok (.return_, 1) := by decide +kernel
theorem d_Mo_in1_0 : decode b_Mo_in1 0 = .ok (.iload_n 0, 1) := by decide +kernel
theorem d_Mo_in1_1 : decode b_Mo_in1 1 = .ok (.iload_n 1, 1) := by decide +kernel
theorem d_Mo_in1_2 : decode b_Mo_in1 2 = .ok (.if_icmp .lt 12, 3) := by decide +kernel
theorem d_Mo_in1_5 : decode b_Mo_in1 5 = .ok (.iload_n 0, 1) := by decide +kernel
theorem d_Mo_in1_6 : decode b_Mo_in1 6 = .ok (.iload_n 2, 1) := by decide +kernel
theorem d_Mo_in1_7 : decode b_Mo_in1 7 = .ok (.if_icmp .gt 7, 3) := by decide +kernel
theorem d_Mo_in1_10 : decode b_Mo_in1 10 = .ok (.iconst 1, 1) := by decide +kernel
theorem d_Mo_in1_11 : decode b_Mo_in1 11 = .ok (.goto 4, 3) := by decide +kernel
theorem d_Mo_in1_14 : decode b_Mo_in1 14 = .ok (.iconst 0, 1) := by decide +kernel
theorem d_Mo_in1_15 : decode b_Mo_in1 15 = .ok (.ireturn, 1) := by decide +kernel
theorem d_Mo_isDay_0 : decode b_Mo_isDay 0 = .ok (.iload_n 0, 1) := by decide +kernel
theorem d_Mo_isDay_1 : decode b_Mo_isDay 1 = .ok (.iconst 0, 1) := by decide +kernel
theorem d_Mo_isDay_2 : decode b_Mo_isDay 2 = .ok (.ldc 93, 2) := by decide +kernel
theorem d_Mo_isDay_4 : decode b_Mo_isDay 4 = .ok (.invokestatic 94, 3) := by decide +kernel
theorem d_Mo_isDay_7 : decode b_Mo_isDay 7 = .ok (.ireturn, 1) := by decide +kernel
theorem d_Mo_isPack_0 : decode b_Mo_isPack 0 = .ok (.iload_n 1, 1) := by decide +kernel
theorem d_Mo_isPack_1 : decode b_Mo_isPack 1 = .ok (.iconst 0, 1) := by decide +kernel
theorem d_Mo_isPack_2 : decode b_Mo_isPack 2 = .ok (.aload_n 0, 1) := by decide +kernel
theorem d_Mo_isPack_3 : decode b_Mo_isPack 3 = .ok (.getfield 98, 3) := by decide +kernel
theorem d_Mo_isPack_6 : decode b_Mo_isPack 6 = .ok (.iconst 1, 1) := by decide +kernel
theorem d_Mo_isPack_7 : decode b_Mo_isPack 7 = .ok (.isub, 1) := by decide +kernel
theorem d_Mo_isPack_8 : decode b_Mo_isPack 8 = .ok (.invokestatic 94, 3) := by decide +kernel
theorem d_Mo_isPack_11 : decode b_Mo_isPack 11 = .ok (.ireturn, 1) := by decide +kernel
theorem d_Mo_isTitle_0 : decode b_Mo_isTitle 0 = .ok (.iload_n 1, 1) := by decide +kernel
theorem d_Mo_isTitle_1 : decode b_Mo_isTitle 1 = .ok (.iconst 0, 1) := by decide +kernel
theorem d_Mo_isTitle_2 : decode b_Mo_isTitle 2 = .ok (.aload_n 0, 1) := by decide +kernel
theorem d_Mo_isTitle_3 : decode b_Mo_isTitle 3 = .ok (.getfield 101, 3) := by decide +kernel
theorem d_Mo_isTitle_6 : decode b_Mo_isTitle 6 = .ok (.iconst 1, 1) := by decide +kernel
theorem d_Mo_isTitle_7 : decode b_Mo_isTitle 7 = .ok (.isub, 1) := by decide +kernel
theorem d_Mo_isTitle_8 : decode b_Mo_isTitle 8 = .ok (.invokestatic 94, 3) := by decide +kernel
theorem d_Mo_isTitle_11 : decode b_Mo_isTitle 11 = .ok (.ireturn, 1) := by decide +kernel
theorem d_Mo_tell_0 : decode b_Mo_tell 0 = .ok (.aload_n 0, 1) := by decide +kernel
theorem d_Mo_tell_1 : decode b_Mo_tell 1 = .ok (.getfield 104, 3) := by decide +kernel
theorem d_Mo_tell_4 : decode b_Mo_tell 4 = .ok (.bipush 100, 2) := by decide +kernel
theorem d_Mo_tell_6 : decode b_Mo_tell 6 = .ok (.if_icmp .ne 4, 3) := by decide +kernel
theorem d_Mo_tell_9 : decode b_Mo_tell 9 = .ok (.return_, 1) := by decide +kernel
theorem d_Mo_tell_10 : decode b_Mo_tell 10 = .ok (.aload_n 0, 1) := by decide +kernel
theorem d_Mo_tell_11 : decode b_Mo_tell 11 = .ok (.getfield 84, 3) := by decide +kernel
theorem d_Mo_tell_14 : decode b_Mo_tell 14 = .ok (.aload_n 0, 1) := by decide +kernel
theorem d_Mo_tell_15 : decode b_Mo_tell 15 = .ok (.getfield 104, 3) := by decide +kernel
theorem d_Mo_tell_18 : decode b_Mo_tell 18 = .ok (.iload_n 1, 1) := by decide +kernel
theorem d_Mo_tell_19 : decode b_Mo_tell 19 = .ok (.iastore, 1) := by decide +kernel
theorem d_Mo_tell_20 : decode b_Mo_tell 20 = .ok (.aload_n 0, 1) := by decide +kernel
theorem d_Mo_tell_21 : decode b_Mo_tell 21 = .ok (.getfield 87, 3) := by decide +kernel
theorem d_Mo_tell_24 : decode b_Mo_tell 24 = .ok (.aload_n 0, 1) := by decide +kernel
theorem d_Mo_tell_25 : decode b_Mo_tell 25 = .ok (.getfield 104, 3) := by decide +kernel
theorem d_Mo_tell_28 : decode b_Mo_tell 28 = .ok (.iload_n 2, 1) := by decide +kernel
theorem d_Mo_tell_29 : decode b_Mo_tell 29 = .ok (.iastore, 1) := by decide +kernel
theorem d_Mo_tell_30 : decode b_Mo_tell 30 = .ok (.aload_n 0, 1) := by decide +kernel
theorem d_Mo_tell_31 : decode b_Mo_tell 31 = .ok (.dup, 1) := by decide +kernel
theorem d_Mo_tell_32 : decode b_Mo_tell 32 = .ok (.getfield 104, 3) := by decide +kernel
theorem d_Mo_tell_35 : decode b_Mo_tell 35 = .ok (.iconst 1, 1) := by decide +kernel
theorem d_Mo_tell_36 : decode b_Mo_tell 36 = .ok (.iadd, 1) := by decide +kernel
theorem d_Mo_tell_37 : decode b_Mo_tell 37 = .ok (.putfield 104, 3) := by decide +kernel
theorem d_Mo_tell_40 : decode b_Mo_tell 40 = .ok (.return_, 1) := by decide +kernel
theorem d_Mo_pack_0 : decode b_Mo_pack 0 = .ok (.aload_n 0, 1) := by decide +kernel
theorem d_Mo_pack_1 : decode b_Mo_pack 1 = .ok (.iconst 0, 1) := by decide +kernel
theorem d_Mo_pack_2 : decode b_Mo_pack 2 = .ok (.putfield 90, 3) := by decide +kernel
theorem d_Mo_pack_5 : decode b_Mo_pack 5 = .ok (.aload_n 0, 1) := by decide +kernel
theorem d_Mo_pack_6 : decode b_Mo_pack 6 = .ok (.getfield 98, 3) := by decide +kernel
theorem d_Mo_pack_9 : decode b_Mo_pack 9 = .ok (.bipush 20, 2) := by decide +kernel
theorem d_Mo_pack_11 : decode b_Mo_pack 11 = .ok (.if_icmp .ne 6, 3) := by decide +kernel
theorem d_Mo_pack_14 : decode b_Mo_pack 14 = .ok (.bipush (-4), 2) := by decide +kernel
theorem d_Mo_pack_16 : decode b_Mo_pack 16 = .ok (.ireturn, 1) := by decide +kernel
theorem d_Mo_pack_17 : decode b_Mo_pack 17 = .ok (.aload_n 0, 1) := by decide +kernel
theorem d_Mo_pack_18 : decode b_Mo_pack 18 = .ok (.getfield 7, 3) := by decide +kernel
theorem d_Mo_pack_21 : decode b_Mo_pack 21 = .ok (.aload_n 0, 1) := by decide +kernel
theorem d_Mo_pack_22 : decode b_Mo_pack 22 = .ok (.getfield 98, 3) := by decide +kernel
theorem d_Mo_pack_25 : decode b_Mo_pack 25 = .ok (.iload_n 1, 1) := by decide +kernel
theorem d_Mo_pack_26 : decode b_Mo_pack 26 = .ok (.bastore, 1) := by decide +kernel
theorem d_Mo_pack_27 : decode b_Mo_pack 27 = .ok (.aload_n 0, 1) := by decide +kernel
theorem d_Mo_pack_28 : decode b_Mo_pack 28 = .ok (.getfield 13, 3) := by decide +kernel
theorem d_Mo_pack_31 : decode b_Mo_pack 31 = .ok (.aload_n 0, 1) := by decide +kernel
theorem d_Mo_pack_32 : decode b_Mo_pack 32 = .ok (.getfield 98, 3) := by decide +kernel
theorem d_Mo_pack_35 : decode b_Mo_pack 35 = .ok (.bipush 100, 2) := by decide +kernel
theorem d_Mo_pack_37 : decode b_Mo_pack 37 = .ok (.iastore, 1) := by decide +kernel
theorem d_Mo_pack_38 : decode b_Mo_pack 38 = .ok (.aload_n 0, 1) := by decide +kernel
theorem d_Mo_pack_39 : decode b_Mo_pack 39 = .ok (.getfield 17, 3) := by decide +kernel
theorem d_Mo_pack_42 : decode b_Mo_pack 42 = .ok (.aload_n 0, 1) := by decide +kernel
theorem d_Mo_pack_43 : decode b_Mo_pack 43 = .ok (.getfield 98, 3) := by decide +kernel
theorem d_Mo_pack_46 : decode b_Mo_pack 46 = .ok (.iconst (-1), 1) := by decide +kernel
theorem d_Mo_pack_47 : decode b_Mo_pack 47 = .ok (.iastore, 1) := by decide +kernel
theorem d_Mo_pack_48 : decode b_Mo_pack 48 = .ok (.aload_n 0, 1) := by decide +kernel
theorem d_Mo_pack_49 : decode b_Mo_pack 49 = .ok (.dup, 1) := by decide +kernel
theorem d_Mo_pack_50 : decode b_Mo_pack 50 = .ok (.getfield 98, 3) := by decide +kernel
theorem d_Mo_pack_53 : decode b_Mo_pack 53 = .ok (.iconst 1, 1) := by decide +kernel
theorem d_Mo_pack_54 : decode b_Mo_pack 54 = .ok (.iadd, 1) := by decide +kernel
theorem d_Mo_pack_55 : decode b_Mo_pack 55 = .ok (.putfield 98, 3) := by decide +kernel
theorem d_Mo_pack_58 : decode b_Mo_pack 58 = .ok (.aload_n 0, 1) := by decide +kernel
theorem d_Mo_pack_59 : decode b_Mo_pack 59 = .ok (.getfield 98, 3) := by decide +kernel
theorem d_Mo_pack_62 : decode b_Mo_pack 62 = .ok (.iconst 1, 1) := by decide +kernel
theorem d_Mo_pack_63 : decode b_Mo_pack 63 = .ok (.isub, 1) := by decide +kernel
theorem d_Mo_pack_64 : decode b_Mo_pack 64 = .ok (.ireturn, 1) := by decide +kernel
theorem d_Mo_find_0 : decode b_Mo_find 0 = .ok (.iconst 0, 1) := by decide +kernel
theorem d_Mo_find_1 : decode b_Mo_find 1 = .ok (.istore_n 3, 1) := by decide +kernel
theorem d_Mo_find_2 : decode b_Mo_find 2 = .ok (.iload_n 3, 1) := by decide +kernel
theorem d_Mo_find_3 : decode b_Mo_find 3 = .ok (.aload_n 0, 1) := by decide +kernel
theorem d_Mo_find_4 : decode b_Mo_find 4 = .ok (.getfield 101, 3) := by decide +kernel
theorem d_Mo_find_7 : decode b_Mo_find 7 = .ok (.if_icmp .ge 31, 3) := by decide +kernel
theorem d_Mo_find_10 : decode b_Mo_find 10 = .ok (.aload_n 0, 1) := by decide +kernel
theorem d_Mo_find_11 : decode b_Mo_find 11 = .ok (.getfield 32, 3) := by decide +kernel
theorem d_Mo_find_14 : decode b_Mo_find 14 = .ok (.iload_n 3, 1) := by decide +kernel
theorem d_Mo_find_15 : decode b_Mo_find 15 = .ok (.iaload, 1) := by decide +kernel
theorem d_Mo_find_16 : decode b_Mo_find 16 = .ok (.iload_n 1, 1) := by decide +kernel
theorem d_Mo_find_17 : decode b_Mo_find 17 = .ok (.if_icmp .ne 15, 3) := by decide +kernel
theorem d_Mo_find_20 : decode b_Mo_find 20 = .ok (.aload_n 0, 1) := by decide +kernel
theorem d_Mo_find_21 : decode b_Mo_find 21 = .ok (.getfield 35, 3) := by decide +kernel
theorem d_Mo_find_24 : decode b_Mo_find 24 = .ok (.iload_n 3, 1) := by decide +kernel
theorem d_Mo_find_25 : decode b_Mo_find 25 = .ok (.iaload, 1) := by decide +kernel
theorem d_Mo_find_26 : decode b_Mo_find 26 = .ok (.iload_n 2, 1) := by decide +kernel
theorem d_Mo_find_27 : decode b_Mo_find 27 = .ok (.if_icmp .ne 5, 3) := by decide +kernel
theorem d_Mo_find_30 : decode b_Mo_find 30 = .ok (.iload_n 3, 1) := by decide +kernel
theorem d_Mo_find_31 : decode b_Mo_find 31 = .ok (.ireturn, 1) := by decide +kernel
theorem d_Mo_find_32 : decode b_Mo_find 32 = .ok (.iinc 3 1, 3) := by decide +kernel
theorem d_Mo_find_35 : decode b_Mo_find 35 = .ok (.goto (-33), 3) := by decide +kernel
theorem d_Mo_find_38 : decode b_Mo_find 38 = .ok (.iconst (-1), 1) := by decide +kernel
theorem d_Mo_find_39 : decode b_Mo_find 39 = .ok (.ireturn, 1) := by decide +kernel
theorem d_Mo_title_0 : decode b_Mo_title 0 = .ok (.aload_n 0, 1) := by decide +kernel
theorem d_Mo_title_1 : decode b_Mo_title 1 = .ok (.iconst 0, 1) := by decide +kernel
theorem d_Mo_title_2 : decode b_Mo_title 2 = .ok (.putfield 90, 3) := by decide +kernel
theorem d_Mo_title_5 : decode b_Mo_title 5 = .ok (.aload_n 0, 1) := by decide +kernel
theorem d_Mo_title_6 : decode b_Mo_title 6 = .ok (.iload_n 1, 1) := by decide +kernel
theorem d_Mo_title_7 : decode b_Mo_title 7 = .ok (.invokevirtual 107, 3) := by decide +kernel
theorem d_Mo_title_10 : decode b_Mo_title 10 = .ok (.ifCond .ne 5, 3) := by decide +kernel
theorem d_Mo_title_13 : decode b_Mo_title 13 = .ok (.iconst (-1), 1) := by decide +kernel
theorem d_Mo_title_14 : decode b_Mo_title 14 = .ok (.ireturn, 1) := by decide +kernel
theorem d_Mo_title_15 : decode b_Mo_title 15 = .ok (.aload_n 0, 1) := by decide +kernel
theorem d_Mo_title_16 : decode b_Mo_title 16 = .ok (.iload_n 1, 1) := by decide +kernel
theorem d_Mo_title_17 : decode b_Mo_title 17 = .ok (.iload_n 2, 1) := by decide +kernel
theorem d_Mo_title_18 : decode b_Mo_title 18 = .ok (.invokevirtual 111, 3) := by decide +kernel
theorem d_Mo_title_21 : decode b_Mo_title 21 = .ok (.ifCond .lt 6, 3) := by decide +kernel
theorem d_Mo_title_24 : decode b_Mo_title 24 = .ok (.bipush (-3), 2) := by decide +kernel
theorem d_Mo_title_26 : decode b_Mo_title 26 = .ok (.ireturn, 1) := by decide +kernel
theorem d_Mo_title_27 : decode b_Mo_title 27 = .ok (.aload_n 0, 1) := by decide +kernel
theorem d_Mo_title_28 : decode b_Mo_title 28 = .ok (.getfield 101, 3) := by decide +kernel
theorem d_Mo_title_31 : decode b_Mo_title 31 = .ok (.sipush 200, 3) := by decide +kernel
theorem d_Mo_title_34 : decode b_Mo_title 34 = .ok (.if_icmp .ne 6, 3) := by decide +kernel
theorem d_Mo_title_37 : decode b_Mo_title 37 = .ok (.bipush (-4), 2) := by decide +kernel
theorem d_Mo_title_39 : decode b_Mo_title 39 = .ok (.ireturn, 1) := by decide +kernel
theorem d_Mo_title_40 : decode b_Mo_title 40 = .ok (.aload_n 0, 1) := by decide +kernel
theorem d_Mo_title_41 : decode b_Mo_title 41 = .ok (.getfield 32, 3) := by decide +kernel
theorem d_Mo_title_44 : decode b_Mo_title 44 = .ok (.aload_n 0, 1) := by decide +kernel
theorem d_Mo_title_45 : decode b_Mo_title 45 = .ok (.getfield 101, 3) := by decide +kernel
theorem d_Mo_title_48 : decode b_Mo_title 48 = .ok (.iload_n 1, 1) := by decide +kernel
theorem d_Mo_title_49 : decode b_Mo_title 49 = .ok (.iastore, 1) := by decide +kernel
theorem d_Mo_title_50 : decode b_Mo_title 50 = .ok (.aload_n 0, 1) := by decide +kernel
theorem d_Mo_title_51 : decode b_Mo_title 51 = .ok (.getfield 35, 3) := by decide +kernel
theorem d_Mo_title_54 : decode b_Mo_title 54 = .ok (.aload_n 0, 1) := by decide +kernel
theorem d_Mo_title_55 : decode b_Mo_title 55 = .ok (.getfield 101, 3) := by decide +kernel
theorem d_Mo_title_58 : decode b_Mo_title 58 = .ok (.iload_n 2, 1) := by decide +kernel
theorem d_Mo_title_59 : decode b_Mo_title 59 = .ok (.iastore, 1) := by decide +kernel
theorem d_Mo_title_60 : decode b_Mo_title 60 = .ok (.aload_n 0, 1) := by decide +kernel
theorem d_Mo_title_61 : decode b_Mo_title 61 = .ok (.dup, 1) := by decide +kernel
theorem d_Mo_title_62 : decode b_Mo_title 62 = .ok (.getfield 101, 3) := by decide +kernel
theorem d_Mo_title_65 : decode b_Mo_title 65 = .ok (.iconst 1, 1) := by decide +kernel
theorem d_Mo_title_66 : decode b_Mo_title 66 = .ok (.iadd, 1) := by decide +kernel
theorem d_Mo_title_67 : decode b_Mo_title 67 = .ok (.putfield 101, 3) := by decide +kernel
theorem d_Mo_title_70 : decode b_Mo_title 70 = .ok (.aload_n 0, 1) := by decide +kernel
theorem d_Mo_title_71 : decode b_Mo_title 71 = .ok (.getfield 101, 3) := by decide +kernel
theorem d_Mo_title_74 : decode b_Mo_title 74 = .ok (.iconst 1, 1) := by decide +kernel
theorem d_Mo_title_75 : decode b_Mo_title 75 = .ok (.isub, 1) := by decide +kernel
theorem d_Mo_title_76 : decode b_Mo_title 76 = .ok (.ireturn, 1) := by decide +kernel
def f_Mo_init (v0 : Nat) (M : mm) : Option (Unit × mm) :=
    (nZ 20 M).bind fun (x1, M1) =>
    (pF 1 2 (.ref x1) M1 v0).bind fun M2 =>
    (nA 20 M2).bind fun (x3, M3) =>
    (pF 1 3 (.ref x3) M3 v0).bind fun M4 =>
    (nA 20 M4).bind fun (x5, M5) =>
    (pF 1 4 (.ref x5) M5 v0).bind fun M6 =>
    (nA 20 M6).bind fun (x7, M7) =>
    (pF 1 5 (.ref x7) M7 v0).bind fun M8 =>
    (nA 2000 M8).bind fun (x9, M9) =>
    (pF 1 6 (.ref x9) M9 v0).bind fun M10 =>
    (nA 20 M10).bind fun (x11, M11) =>
    (pF 1 7 (.ref x11) M11 v0).bind fun M12 =>
    (nA 2000 M12).bind fun (x13, M13) =>
    (pF 1 8 (.ref x13) M13 v0).bind fun M14 =>
    (nA 200 M14).bind fun (x15, M15) =>
    (pF 1 10 (.ref x15) M15 v0).bind fun M16 =>
    (nA 200 M16).bind fun (x17, M17) =>
    (pF 1 11 (.ref x17) M17 v0).bind fun M18 =>
    (nZ 200 M18).bind fun (x19, M19) =>
    (pF 1 12 (.ref x19) M19 v0).bind fun M20 =>
    (nA 200 M20).bind fun (x21, M21) =>
    (pF 1 13 (.ref x21) M21 v0).bind fun M22 =>
    (nA 200 M22).bind fun (x23, M23) =>
    (pF 1 14 (.ref x23) M23 v0).bind fun M24 =>
    (nA 2000 M24).bind fun (x25, M25) =>
    (pF 1 15 (.ref x25) M25 v0).bind fun M26 =>
    (nA 2000 M26).bind fun (x27, M27) =>
    (pF 1 16 (.ref x27) M27 v0).bind fun M28 =>
    (nA 100 M28).bind fun (x29, M29) =>
    (pF 1 18 (.ref x29) M29 v0).bind fun M30 =>
    (nA 100 M30).bind fun (x31, M31) =>
    (pF 1 19 (.ref x31) M31 v0).bind fun M32 =>
    (nA 100 M32).bind fun (x33, M33) =>
    (pF 1 20 (.ref x33) M33 v0).bind fun M34 =>
    (nA 100 M34).bind fun (x35, M35) =>
    (pF 1 21 (.ref x35) M35 v0).bind fun M36 =>
    (nZ 100 M36).bind fun (x37, M37) =>
    (pF 1 22 (.ref x37) M37 v0).bind fun M38 =>
    (pF 1 23 (.int ((-1))) M38 v0).bind fun M39 =>
    (nA 100 M39).bind fun (x40, M40) =>
    (pF 1 24 (.ref x40) M40 v0).bind fun M41 =>
    (nA 4096 M41).bind fun (x42, M42) =>
    (pF 1 26 (.ref x42) M42 v0).bind fun M43 =>
    (nA 4096 M43).bind fun (x44, M44) =>
    (pF 1 27 (.ref x44) M44 v0).bind fun M45 =>
    (nA 4096 M45).bind fun (x46, M46) =>
    (pF 1 28 (.ref x46) M46 v0).bind fun M47 =>
    (nA 100 M47).bind fun (x48, M48) =>
    (pF 1 30 (.ref x48) M48 v0).bind fun M49 =>
    (nA 100 M49).bind fun (x50, M50) =>
    (pF 1 31 (.ref x50) M50 v0).bind fun M51 =>
    some ((), M51)
set_option maxHeartbeats 4000000 in
set_option maxRecDepth 100000 in
theorem c_Mo_init (l : Launch) (D : va_G) (dA : Nat → ClassId) (M0 M' : mm) (r : Unit) (v0 : Nat) (h : f_Mo_init v0 M0 = some (r, M')) : Met l y_Mo_init w_Mo_init rm_Mo_init (mm_Pre D dA M0 [.ref v0]) (mm_QV D dA M0 r M') 25 22188 (mm_A M0) := by
  refine Met.ofW (cc := b_Mo_init) (maxL := 1) (ret := none) (by decide) rfl ?_
  intro p e s m args below meth c s₁ B hml hv
  obtain ⟨rfl, hW, hK⟩ := hv
  have C : mm_C p s m _ meth c b_Mo_init 1 none R_Mo D dA (mm_A M0) := ⟨B.exec, B.bytes, B.returns, hml, findClass_of_methodNamed B.named, fun w hw => atoms_spec (ws := w_Mo_init) B.pre w (List.mem_cons_of_mem _ hw), B.notSynchronized, hK, fun q hq => Or.inr (by rw [← hW.1]; exact hq)⟩
  have hini : meth.name = "<init>" := (name_of_methodNamed B.named B.method).1
  have hS : va_S (mm_A M0) s.heap s.heap [] := va_S.rf
  obtain ⟨hx, hb, hr, hml, hown, hts, hlocks, hK, hA⟩ := id C
  have hl := lv_entry ([.ref v0]) (n := 1) (Nat.le_of_ble_eq_true rfl)
  rw [lg_entry_eq]
  generalize (lg_sl ([.ref v0]) ++ List.replicate (1 - (lg_sl ([.ref v0])).length) Slot.unset).toArray = ls at hl ⊢
  have hl : lv_has ls 1 [(0, .ref v0)] := hl
  unfold f_Mo_init at h
  refine lv_aload_n hx hb d_Mo_init_0 rfl (lv_at hl 0 rfl) ?_
  refine W.objInit hx hb hown (hts _ q_235) (hts _ q_1) (hts _ q_2) rfl (by rw [hml]; exact hl.1) rfl d_Mo_init_1 (Nat.le_of_ble_eq_true rfl) (Nat.le_of_ble_eq_true rfl) ?_
  refine W.eq (g2 := F0 m 4 ls []) rfl ?_
  refine lv_aload_n hx hb d_Mo_init_4 rfl (lv_at hl 0 rfl) ?_
  refine lv_bipush (v := 20) hx hb d_Mo_init_5 (by decide) ?_
  obtain ⟨⟨x1, M1⟩, e1, h⟩ := ob h
  refine mr_nZ C hW hS q_236 (by decide) (by decide) (by decide) (Nat.le_of_ble_eq_true rfl) (Nat.le_of_ble_eq_true rfl) e1 d_Mo_init_7 (fun H hW hS => ?_)
  obtain ⟨M2, e2, h⟩ := ob h
  refine mr_putF C hW hS kp_Mo_7 hini rfl rfl e2 d_Mo_init_9 (fun H locs hW hS => ?_)
  refine lv_aload_n hx hb d_Mo_init_12 rfl (lv_at hl 0 rfl) ?_
  refine lv_bipush (v := 20) hx hb d_Mo_init_13 (by decide) ?_
  obtain ⟨⟨x3, M3⟩, e3, h⟩ := ob h
  refine mr_nA C hW hS q_3 (by decide) (by decide) (by decide) (Nat.le_of_ble_eq_true rfl) (Nat.le_of_ble_eq_true rfl) e3 d_Mo_init_15 (fun H hW hS => ?_)
  obtain ⟨M4, e4, h⟩ := ob h
  refine mr_putF C hW hS kp_Mo_13 hini rfl rfl e4 d_Mo_init_17 (fun H locs hW hS => ?_)
  refine lv_aload_n hx hb d_Mo_init_20 rfl (lv_at hl 0 rfl) ?_
  refine lv_bipush (v := 20) hx hb d_Mo_init_21 (by decide) ?_
  obtain ⟨⟨x5, M5⟩, e5, h⟩ := ob h
  refine mr_nA C hW hS q_3 (by decide) (by decide) (by decide) (Nat.le_of_ble_eq_true rfl) (Nat.le_of_ble_eq_true rfl) e5 d_Mo_init_23 (fun H hW hS => ?_)
  obtain ⟨M6, e6, h⟩ := ob h
  refine mr_putF C hW hS kp_Mo_17 hini rfl rfl e6 d_Mo_init_25 (fun H locs hW hS => ?_)
  refine lv_aload_n hx hb d_Mo_init_28 rfl (lv_at hl 0 rfl) ?_
  refine lv_bipush (v := 20) hx hb d_Mo_init_29 (by decide) ?_
  obtain ⟨⟨x7, M7⟩, e7, h⟩ := ob h
  refine mr_nA C hW hS q_3 (by decide) (by decide) (by decide) (Nat.le_of_ble_eq_true rfl) (Nat.le_of_ble_eq_true rfl) e7 d_Mo_init_31 (fun H hW hS => ?_)
  obtain ⟨M8, e8, h⟩ := ob h
  refine mr_putF C hW hS kp_Mo_20 hini rfl rfl e8 d_Mo_init_33 (fun H locs hW hS => ?_)
  refine lv_aload_n hx hb d_Mo_init_36 rfl (lv_at hl 0 rfl) ?_
  refine lv_sipush (v := 2000) hx hb d_Mo_init_37 (by decide) ?_
  obtain ⟨⟨x9, M9⟩, e9, h⟩ := ob h
  refine mr_nA C hW hS q_3 (by decide) (by decide) (by decide) (Nat.le_of_ble_eq_true rfl) (Nat.le_of_ble_eq_true rfl) e9 d_Mo_init_40 (fun H hW hS => ?_)
  obtain ⟨M10, e10, h⟩ := ob h
  refine mr_putF C hW hS kp_Mo_23 hini rfl rfl e10 d_Mo_init_42 (fun H locs hW hS => ?_)
  refine lv_aload_n hx hb d_Mo_init_45 rfl (lv_at hl 0 rfl) ?_
  refine lv_bipush (v := 20) hx hb d_Mo_init_46 (by decide) ?_
  obtain ⟨⟨x11, M11⟩, e11, h⟩ := ob h
  refine mr_nA C hW hS q_3 (by decide) (by decide) (by decide) (Nat.le_of_ble_eq_true rfl) (Nat.le_of_ble_eq_true rfl) e11 d_Mo_init_48 (fun H hW hS => ?_)
  obtain ⟨M12, e12, h⟩ := ob h
  refine mr_putF C hW hS kp_Mo_26 hini rfl rfl e12 d_Mo_init_50 (fun H locs hW hS => ?_)
  refine lv_aload_n hx hb d_Mo_init_53 rfl (lv_at hl 0 rfl) ?_
  refine lv_sipush (v := 2000) hx hb d_Mo_init_54 (by decide) ?_
  obtain ⟨⟨x13, M13⟩, e13, h⟩ := ob h
  refine mr_nA C hW hS q_3 (by decide) (by decide) (by decide) (Nat.le_of_ble_eq_true rfl) (Nat.le_of_ble_eq_true rfl) e13 d_Mo_init_57 (fun H hW hS => ?_)
  obtain ⟨M14, e14, h⟩ := ob h
  refine mr_putF C hW hS kp_Mo_29 hini rfl rfl e14 d_Mo_init_59 (fun H locs hW hS => ?_)
  refine lv_aload_n hx hb d_Mo_init_62 rfl (lv_at hl 0 rfl) ?_
  refine lv_sipush (v := 200) hx hb d_Mo_init_63 (by decide) ?_
  obtain ⟨⟨x15, M15⟩, e15, h⟩ := ob h
  refine mr_nA C hW hS q_3 (by decide) (by decide) (by decide) (Nat.le_of_ble_eq_true rfl) (Nat.le_of_ble_eq_true rfl) e15 d_Mo_init_66 (fun H hW hS => ?_)
  obtain ⟨M16, e16, h⟩ := ob h
  refine mr_putF C hW hS kp_Mo_32 hini rfl rfl e16 d_Mo_init_68 (fun H locs hW hS => ?_)
  refine lv_aload_n hx hb d_Mo_init_71 rfl (lv_at hl 0 rfl) ?_
  refine lv_sipush (v := 200) hx hb d_Mo_init_72 (by decide) ?_
  obtain ⟨⟨x17, M17⟩, e17, h⟩ := ob h
  refine mr_nA C hW hS q_3 (by decide) (by decide) (by decide) (Nat.le_of_ble_eq_true rfl) (Nat.le_of_ble_eq_true rfl) e17 d_Mo_init_75 (fun H hW hS => ?_)
  obtain ⟨M18, e18, h⟩ := ob h
  refine mr_putF C hW hS kp_Mo_35 hini rfl rfl e18 d_Mo_init_77 (fun H locs hW hS => ?_)
  refine lv_aload_n hx hb d_Mo_init_80 rfl (lv_at hl 0 rfl) ?_
  refine lv_sipush (v := 200) hx hb d_Mo_init_81 (by decide) ?_
  obtain ⟨⟨x19, M19⟩, e19, h⟩ := ob h
  refine mr_nZ C hW hS q_236 (by decide) (by decide) (by decide) (Nat.le_of_ble_eq_true rfl) (Nat.le_of_ble_eq_true rfl) e19 d_Mo_init_84 (fun H hW hS => ?_)
  obtain ⟨M20, e20, h⟩ := ob h
  refine mr_putF C hW hS kp_Mo_38 hini rfl rfl e20 d_Mo_init_86 (fun H locs hW hS => ?_)
  refine lv_aload_n hx hb d_Mo_init_89 rfl (lv_at hl 0 rfl) ?_
  refine lv_sipush (v := 200) hx hb d_Mo_init_90 (by decide) ?_
  obtain ⟨⟨x21, M21⟩, e21, h⟩ := ob h
  refine mr_nA C hW hS q_3 (by decide) (by decide) (by decide) (Nat.le_of_ble_eq_true rfl) (Nat.le_of_ble_eq_true rfl) e21 d_Mo_init_93 (fun H hW hS => ?_)
  obtain ⟨M22, e22, h⟩ := ob h
  refine mr_putF C hW hS kp_Mo_41 hini rfl rfl e22 d_Mo_init_95 (fun H locs hW hS => ?_)
  refine lv_aload_n hx hb d_Mo_init_98 rfl (lv_at hl 0 rfl) ?_
  refine lv_sipush (v := 200) hx hb d_Mo_init_99 (by decide) ?_
  obtain ⟨⟨x23, M23⟩, e23, h⟩ := ob h
  refine mr_nA C hW hS q_3 (by decide) (by decide) (by decide) (Nat.le_of_ble_eq_true rfl) (Nat.le_of_ble_eq_true rfl) e23 d_Mo_init_102 (fun H hW hS => ?_)
  obtain ⟨M24, e24, h⟩ := ob h
  refine mr_putF C hW hS kp_Mo_44 hini rfl rfl e24 d_Mo_init_104 (fun H locs hW hS => ?_)
  refine lv_aload_n hx hb d_Mo_init_107 rfl (lv_at hl 0 rfl) ?_
  refine lv_sipush (v := 2000) hx hb d_Mo_init_108 (by decide) ?_
  obtain ⟨⟨x25, M25⟩, e25, h⟩ := ob h
  refine mr_nA C hW hS q_3 (by decide) (by decide) (by decide) (Nat.le_of_ble_eq_true rfl) (Nat.le_of_ble_eq_true rfl) e25 d_Mo_init_111 (fun H hW hS => ?_)
  obtain ⟨M26, e26, h⟩ := ob h
  refine mr_putF C hW hS kp_Mo_47 hini rfl rfl e26 d_Mo_init_113 (fun H locs hW hS => ?_)
  refine lv_aload_n hx hb d_Mo_init_116 rfl (lv_at hl 0 rfl) ?_
  refine lv_sipush (v := 2000) hx hb d_Mo_init_117 (by decide) ?_
  obtain ⟨⟨x27, M27⟩, e27, h⟩ := ob h
  refine mr_nA C hW hS q_3 (by decide) (by decide) (by decide) (Nat.le_of_ble_eq_true rfl) (Nat.le_of_ble_eq_true rfl) e27 d_Mo_init_120 (fun H hW hS => ?_)
  obtain ⟨M28, e28, h⟩ := ob h
  refine mr_putF C hW hS kp_Mo_50 hini rfl rfl e28 d_Mo_init_122 (fun H locs hW hS => ?_)
  refine lv_aload_n hx hb d_Mo_init_125 rfl (lv_at hl 0 rfl) ?_
  refine lv_bipush (v := 100) hx hb d_Mo_init_126 (by decide) ?_
  obtain ⟨⟨x29, M29⟩, e29, h⟩ := ob h
  refine mr_nA C hW hS q_3 (by decide) (by decide) (by decide) (Nat.le_of_ble_eq_true rfl) (Nat.le_of_ble_eq_true rfl) e29 d_Mo_init_128 (fun H hW hS => ?_)
  obtain ⟨M30, e30, h⟩ := ob h
  refine mr_putF C hW hS kp_Mo_53 hini rfl rfl e30 d_Mo_init_130 (fun H locs hW hS => ?_)
  refine lv_aload_n hx hb d_Mo_init_133 rfl (lv_at hl 0 rfl) ?_
  refine lv_bipush (v := 100) hx hb d_Mo_init_134 (by decide) ?_
  obtain ⟨⟨x31, M31⟩, e31, h⟩ := ob h
  refine mr_nA C hW hS q_3 (by decide) (by decide) (by decide) (Nat.le_of_ble_eq_true rfl) (Nat.le_of_ble_eq_true rfl) e31 d_Mo_init_136 (fun H hW hS => ?_)
  obtain ⟨M32, e32, h⟩ := ob h
  refine mr_putF C hW hS kp_Mo_56 hini rfl rfl e32 d_Mo_init_138 (fun H locs hW hS => ?_)
  refine lv_aload_n hx hb d_Mo_init_141 rfl (lv_at hl 0 rfl) ?_
  refine lv_bipush (v := 100) hx hb d_Mo_init_142 (by decide) ?_
  obtain ⟨⟨x33, M33⟩, e33, h⟩ := ob h
  refine mr_nA C hW hS q_3 (by decide) (by decide) (by decide) (Nat.le_of_ble_eq_true rfl) (Nat.le_of_ble_eq_true rfl) e33 d_Mo_init_144 (fun H hW hS => ?_)
  obtain ⟨M34, e34, h⟩ := ob h
  refine mr_putF C hW hS kp_Mo_59 hini rfl rfl e34 d_Mo_init_146 (fun H locs hW hS => ?_)
  refine lv_aload_n hx hb d_Mo_init_149 rfl (lv_at hl 0 rfl) ?_
  refine lv_bipush (v := 100) hx hb d_Mo_init_150 (by decide) ?_
  obtain ⟨⟨x35, M35⟩, e35, h⟩ := ob h
  refine mr_nA C hW hS q_3 (by decide) (by decide) (by decide) (Nat.le_of_ble_eq_true rfl) (Nat.le_of_ble_eq_true rfl) e35 d_Mo_init_152 (fun H hW hS => ?_)
  obtain ⟨M36, e36, h⟩ := ob h
  refine mr_putF C hW hS kp_Mo_62 hini rfl rfl e36 d_Mo_init_154 (fun H locs hW hS => ?_)
  refine lv_aload_n hx hb d_Mo_init_157 rfl (lv_at hl 0 rfl) ?_
  refine lv_bipush (v := 100) hx hb d_Mo_init_158 (by decide) ?_
  obtain ⟨⟨x37, M37⟩, e37, h⟩ := ob h
  refine mr_nZ C hW hS q_236 (by decide) (by decide) (by decide) (Nat.le_of_ble_eq_true rfl) (Nat.le_of_ble_eq_true rfl) e37 d_Mo_init_160 (fun H hW hS => ?_)
  obtain ⟨M38, e38, h⟩ := ob h
  refine mr_putF C hW hS kp_Mo_65 hini rfl rfl e38 d_Mo_init_162 (fun H locs hW hS => ?_)
  refine lv_aload_n hx hb d_Mo_init_165 rfl (lv_at hl 0 rfl) ?_
  refine lv_iconst (v := (-1)) hx hb d_Mo_init_166 (by decide) ?_
  obtain ⟨M39, e39, h⟩ := ob h
  refine mr_put C hW hS kp_Mo_68 rfl rfl e39 d_Mo_init_167 (fun H locs hW hS => ?_)
  refine lv_aload_n hx hb d_Mo_init_170 rfl (lv_at hl 0 rfl) ?_
  refine lv_bipush (v := 100) hx hb d_Mo_init_171 (by decide) ?_
  obtain ⟨⟨x40, M40⟩, e40, h⟩ := ob h
  refine mr_nA C hW hS q_3 (by decide) (by decide) (by decide) (Nat.le_of_ble_eq_true rfl) (Nat.le_of_ble_eq_true rfl) e40 d_Mo_init_173 (fun H hW hS => ?_)
  obtain ⟨M41, e41, h⟩ := ob h
  refine mr_putF C hW hS kp_Mo_72 hini rfl rfl e41 d_Mo_init_175 (fun H locs hW hS => ?_)
  refine lv_aload_n hx hb d_Mo_init_178 rfl (lv_at hl 0 rfl) ?_
  refine lv_sipush (v := 4096) hx hb d_Mo_init_179 (by decide) ?_
  obtain ⟨⟨x42, M42⟩, e42, h⟩ := ob h
  refine mr_nA C hW hS q_3 (by decide) (by decide) (by decide) (Nat.le_of_ble_eq_true rfl) (Nat.le_of_ble_eq_true rfl) e42 d_Mo_init_182 (fun H hW hS => ?_)
  obtain ⟨M43, e43, h⟩ := ob h
  refine mr_putF C hW hS kp_Mo_75 hini rfl rfl e43 d_Mo_init_184 (fun H locs hW hS => ?_)
  refine lv_aload_n hx hb d_Mo_init_187 rfl (lv_at hl 0 rfl) ?_
  refine lv_sipush (v := 4096) hx hb d_Mo_init_188 (by decide) ?_
  obtain ⟨⟨x44, M44⟩, e44, h⟩ := ob h
  refine mr_nA C hW hS q_3 (by decide) (by decide) (by decide) (Nat.le_of_ble_eq_true rfl) (Nat.le_of_ble_eq_true rfl) e44 d_Mo_init_191 (fun H hW hS => ?_)
  obtain ⟨M45, e45, h⟩ := ob h
  refine mr_putF C hW hS kp_Mo_78 hini rfl rfl e45 d_Mo_init_193 (fun H locs hW hS => ?_)
  refine lv_aload_n hx hb d_Mo_init_196 rfl (lv_at hl 0 rfl) ?_
  refine lv_sipush (v := 4096) hx hb d_Mo_init_197 (by decide) ?_
  obtain ⟨⟨x46, M46⟩, e46, h⟩ := ob h
  refine mr_nA C hW hS q_3 (by decide) (by decide) (by decide) (Nat.le_of_ble_eq_true rfl) (Nat.le_of_ble_eq_true rfl) e46 d_Mo_init_200 (fun H hW hS => ?_)
  obtain ⟨M47, e47, h⟩ := ob h
  refine mr_putF C hW hS kp_Mo_81 hini rfl rfl e47 d_Mo_init_202 (fun H locs hW hS => ?_)
  refine lv_aload_n hx hb d_Mo_init_205 rfl (lv_at hl 0 rfl) ?_
  refine lv_bipush (v := 100) hx hb d_Mo_init_206 (by decide) ?_
  obtain ⟨⟨x48, M48⟩, e48, h⟩ := ob h
  refine mr_nA C hW hS q_3 (by decide) (by decide) (by decide) (Nat.le_of_ble_eq_true rfl) (Nat.le_of_ble_eq_true rfl) e48 d_Mo_init_208 (fun H hW hS => ?_)
  obtain ⟨M49, e49, h⟩ := ob h
  refine mr_putF C hW hS kp_Mo_84 hini rfl rfl e49 d_Mo_init_210 (fun H locs hW hS => ?_)
  refine lv_aload_n hx hb d_Mo_init_213 rfl (lv_at hl 0 rfl) ?_
  refine lv_bipush (v := 100) hx hb d_Mo_init_214 (by decide) ?_
  obtain ⟨⟨x50, M50⟩, e50, h⟩ := ob h
  refine mr_nA C hW hS q_3 (by decide) (by decide) (by decide) (Nat.le_of_ble_eq_true rfl) (Nat.le_of_ble_eq_true rfl) e50 d_Mo_init_216 (fun H hW hS => ?_)
  obtain ⟨M51, e51, h⟩ := ob h
  refine mr_putF C hW hS kp_Mo_87 hini rfl rfl e51 d_Mo_init_218 (fun H locs hW hS => ?_)
  exact mr_vret C hW hS (Nat.le_of_ble_eq_true rfl) (Nat.le_of_ble_eq_true rfl) h d_Mo_init_221
def f_Mo_in1 (v0 : Int32) (v1 : Int32) (v2 : Int32) (M : mm) : Option (Int32 × mm) :=
    if v0 < v1 then
      (kB 0).bind fun _ =>
      some (0, M)
    else
      if v2 < v0 then
        (kB 0).bind fun _ =>
        some (0, M)
      else
        (kB 1).bind fun _ =>
        some (1, M)
set_option maxHeartbeats 4000000 in
set_option maxRecDepth 100000 in
theorem c_Mo_in1 (l : Launch) (D : va_G) (dA : Nat → ClassId) (M0 M' : mm) (r : Int32) (v0 : Int32) (v1 : Int32) (v2 : Int32) (h : f_Mo_in1 v0 v1 v2 M0 = some (r, M')) : Met l y_Mo_in1 w_Mo_in1 rm_Mo_in1 (mm_Pre D dA M0 [.int v0, .int v1, .int v2]) (mm_QI D dA M0 r M') 0 0 (mm_A M0) := by
  refine Met.ofW (cc := b_Mo_in1) (maxL := 3) (ret := (some .boolean)) (by decide) rfl ?_
  intro p e s m args below meth c s₁ B hml hv
  obtain ⟨rfl, hW, hK⟩ := hv
  have C : mm_C p s m _ meth c b_Mo_in1 3 (some .boolean) R_Mo D dA (mm_A M0) := ⟨B.exec, B.bytes, B.returns, hml, findClass_of_methodNamed B.named, fun w hw => atoms_spec (ws := w_Mo_in1) B.pre w (List.mem_cons_of_mem _ hw), B.notSynchronized, hK, fun q hq => Or.inr (by rw [← hW.1]; exact hq)⟩
  have hS : va_S (mm_A M0) s.heap s.heap [] := va_S.rf
  obtain ⟨hx, hb, hr, hml, hown, hts, hlocks, hK, hA⟩ := id C
  have hl := lv_entry ([.int v0, .int v1, .int v2]) (n := 3) (Nat.le_of_ble_eq_true rfl)
  rw [lg_entry_eq]
  generalize (lg_sl ([.int v0, .int v1, .int v2]) ++ List.replicate (3 - (lg_sl ([.int v0, .int v1, .int v2])).length) Slot.unset).toArray = ls at hl ⊢
  have hl : lv_has ls 3 [(0, .int v0), (1, .int v1), (2, .int v2)] := hl
  unfold f_Mo_in1 at h
  refine lv_iload_n hx hb d_Mo_in1_0 rfl (lv_at hl 0 rfl) ?_
  refine lv_iload_n hx hb d_Mo_in1_1 rfl (lv_at hl 1 rfl) ?_
  refine lv_icmp_lt (tgt := 14) hx hb d_Mo_in1_2 (by decide) (fun c1 => ?_) (fun c1 => ?_)
  · have h := ifp h c1
    refine lv_iconst (v := 0) hx hb d_Mo_in1_14 (by decide) ?_
    obtain ⟨_, e2, h⟩ := ob h
    exact mr_zret C hW hS (Nat.le_of_ble_eq_true rfl) (Nat.le_of_ble_eq_true rfl) e2 h d_Mo_in1_15
  · have h := ifn h c1
    refine lv_iload_n hx hb d_Mo_in1_5 rfl (lv_at hl 0 rfl) ?_
    refine lv_iload_n hx hb d_Mo_in1_6 rfl (lv_at hl 2 rfl) ?_
    refine lv_icmp_gt (tgt := 14) hx hb d_Mo_in1_7 (by decide) (fun c3 => ?_) (fun c3 => ?_)
    · have h := ifp h c3
      refine lv_iconst (v := 0) hx hb d_Mo_in1_14 (by decide) ?_
      obtain ⟨_, e4, h⟩ := ob h
      exact mr_zret C hW hS (Nat.le_of_ble_eq_true rfl) (Nat.le_of_ble_eq_true rfl) e4 h d_Mo_in1_15
    · have h := ifn h c3
      refine lv_iconst (v := 1) hx hb d_Mo_in1_10 (by decide) ?_
      refine lv_goto (tgt := 15) hx hb d_Mo_in1_11 (by decide) ?_
      obtain ⟨_, e5, h⟩ := ob h
      exact mr_zret C hW hS (Nat.le_of_ble_eq_true rfl) (Nat.le_of_ble_eq_true rfl) e5 h d_Mo_in1_15
def f_Mo_isDay (v0 : Int32) (M : mm) : Option (Int32 × mm) :=
    (f_Mo_in1 v0 0 200000 M).bind fun (x1, M1) =>
    (kB x1).bind fun _ =>
    some (x1, M1)
set_option maxHeartbeats 4000000 in
set_option maxRecDepth 100000 in
theorem c_Mo_isDay (l : Launch) (D : va_G) (dA : Nat → ClassId) (M0 M' : mm) (r : Int32) (v0 : Int32) (h : f_Mo_isDay v0 M0 = some (r, M')) : Met l y_Mo_isDay w_Mo_isDay rm_Mo_isDay (mm_Pre D dA M0 [.int v0]) (mm_QI D dA M0 r M') 0 0 (mm_A M0) := by
  refine Met.ofW (cc := b_Mo_isDay) (maxL := 1) (ret := (some .boolean)) (by decide) rfl ?_
  intro p e s m args below meth c s₁ B hml hv
  obtain ⟨rfl, hW, hK⟩ := hv
  have C : mm_C p s m _ meth c b_Mo_isDay 1 (some .boolean) R_Mo D dA (mm_A M0) := ⟨B.exec, B.bytes, B.returns, hml, findClass_of_methodNamed B.named, fun w hw => atoms_spec (ws := w_Mo_isDay) B.pre w (List.mem_cons_of_mem _ hw), B.notSynchronized, hK, fun q hq => Or.inr (by rw [← hW.1]; exact hq)⟩
  have hS : va_S (mm_A M0) s.heap s.heap [] := va_S.rf
  obtain ⟨hx, hb, hr, hml, hown, hts, hlocks, hK, hA⟩ := id C
  have hl := lv_entry ([.int v0]) (n := 1) (Nat.le_of_ble_eq_true rfl)
  rw [lg_entry_eq]
  generalize (lg_sl ([.int v0]) ++ List.replicate (1 - (lg_sl ([.int v0])).length) Slot.unset).toArray = ls at hl ⊢
  have hl : lv_has ls 1 [(0, .int v0)] := hl
  unfold f_Mo_isDay at h
  refine lv_iload_n hx hb d_Mo_isDay_0 rfl (lv_at hl 0 rfl) ?_
  refine lv_iconst (v := 0) hx hb d_Mo_isDay_1 (by decide) ?_
  refine lv_ldc (v := 200000) hx hb hown (hts _ q_263) d_Mo_isDay_2 ?_
  obtain ⟨⟨x1, M1⟩, e1, h⟩ := ob h
  refine mr_ci C hW hS (va_runS (As := [.int v0, .int 0, .int 200000]) (rest := []) ⟨hx, hb, hml, hown, hts⟩ (c_Mo_in1 l D dA _ _ _ v0 0 200000 e1) (cwS 3 hts (mg_S q_264 q_265 q_266 q_267) rfl rfl rfl (by decide +kernel) ⟨Nat.le_of_ble_eq_true rfl, Nat.le_of_ble_eq_true rfl⟩) (mr_pre C hW) rfl rfl hl.1 rfl (lv_room (Nat.le_of_ble_eq_true rfl)) d_Mo_isDay_4 ⟨Nat.le_of_ble_eq_true rfl, Nat.le_of_ble_eq_true rfl⟩) (fun H locs hW hS => ?_)
  obtain ⟨_, e2, h⟩ := ob h
  exact mr_zret C hW hS (Nat.le_of_ble_eq_true rfl) (Nat.le_of_ble_eq_true rfl) e2 h d_Mo_isDay_7
def f_Mo_isPack (v0 : Nat) (v1 : Int32) (M : mm) : Option (Int32 × mm) :=
    (gI 1 1 M v0).bind fun x1 =>
    (f_Mo_in1 v1 0 (x1 - 1) M).bind fun (x2, M2) =>
    (kB x2).bind fun _ =>
    some (x2, M2)
set_option maxHeartbeats 4000000 in
set_option maxRecDepth 100000 in
theorem c_Mo_isPack (l : Launch) (D : va_G) (dA : Nat → ClassId) (M0 M' : mm) (r : Int32) (v0 : Nat) (v1 : Int32) (h : f_Mo_isPack v0 v1 M0 = some (r, M')) : Met l y_Mo_isPack w_Mo_isPack rm_Mo_isPack (mm_Pre D dA M0 [.ref v0, .int v1]) (mm_QI D dA M0 r M') 0 0 (mm_A M0) := by
  refine Met.ofW (cc := b_Mo_isPack) (maxL := 2) (ret := (some .boolean)) (by decide) rfl ?_
  intro p e s m args below meth c s₁ B hml hv
  obtain ⟨rfl, hW, hK⟩ := hv
  have C : mm_C p s m _ meth c b_Mo_isPack 2 (some .boolean) R_Mo D dA (mm_A M0) := ⟨B.exec, B.bytes, B.returns, hml, findClass_of_methodNamed B.named, fun w hw => atoms_spec (ws := w_Mo_isPack) B.pre w (List.mem_cons_of_mem _ hw), B.notSynchronized, hK, fun q hq => Or.inr (by rw [← hW.1]; exact hq)⟩
  have hS : va_S (mm_A M0) s.heap s.heap [] := va_S.rf
  obtain ⟨hx, hb, hr, hml, hown, hts, hlocks, hK, hA⟩ := id C
  have hl := lv_entry ([.ref v0, .int v1]) (n := 2) (Nat.le_of_ble_eq_true rfl)
  rw [lg_entry_eq]
  generalize (lg_sl ([.ref v0, .int v1]) ++ List.replicate (2 - (lg_sl ([.ref v0, .int v1])).length) Slot.unset).toArray = ls at hl ⊢
  have hl : lv_has ls 2 [(0, .ref v0), (1, .int v1)] := hl
  unfold f_Mo_isPack at h
  refine lv_iload_n hx hb d_Mo_isPack_0 rfl (lv_at hl 1 rfl) ?_
  refine lv_iconst (v := 0) hx hb d_Mo_isPack_1 (by decide) ?_
  refine lv_aload_n hx hb d_Mo_isPack_2 rfl (lv_at hl 0 rfl) ?_
  obtain ⟨x1, e1, h⟩ := ob h
  refine mr_gI C hW k_Mo_98 e1 d_Mo_isPack_3 ?_
  refine lv_iconst (v := 1) hx hb d_Mo_isPack_6 (by decide) ?_
  refine lv_isub hx hb d_Mo_isPack_7 ?_
  obtain ⟨⟨x2, M2⟩, e2, h⟩ := ob h
  refine mr_ci C hW hS (va_runS (As := [.int v1, .int 0, .int (x1 - 1)]) (rest := []) ⟨hx, hb, hml, hown, hts⟩ (c_Mo_in1 l D dA _ _ _ v1 0 (x1 - 1) e2) (cwS 3 hts (mg_S q_264 q_265 q_266 q_267) rfl rfl rfl (by decide +kernel) ⟨Nat.le_of_ble_eq_true rfl, Nat.le_of_ble_eq_true rfl⟩) (mr_pre C hW) rfl rfl hl.1 rfl (lv_room (Nat.le_of_ble_eq_true rfl)) d_Mo_isPack_8 ⟨Nat.le_of_ble_eq_true rfl, Nat.le_of_ble_eq_true rfl⟩) (fun H locs hW hS => ?_)
  obtain ⟨_, e3, h⟩ := ob h
  exact mr_zret C hW hS (Nat.le_of_ble_eq_true rfl) (Nat.le_of_ble_eq_true rfl) e3 h d_Mo_isPack_11
def f_Mo_isTitle (v0 : Nat) (v1 : Int32) (M : mm) : Option (Int32 × mm) :=
    (gI 1 9 M v0).bind fun x1 =>
    (f_Mo_in1 v1 0 (x1 - 1) M).bind fun (x2, M2) =>
    (kB x2).bind fun _ =>
    some (x2, M2)
set_option maxHeartbeats 4000000 in
set_option maxRecDepth 100000 in
theorem c_Mo_isTitle (l : Launch) (D : va_G) (dA : Nat → ClassId) (M0 M' : mm) (r : Int32) (v0 : Nat) (v1 : Int32) (h : f_Mo_isTitle v0 v1 M0 = some (r, M')) : Met l y_Mo_isTitle w_Mo_isTitle rm_Mo_isTitle (mm_Pre D dA M0 [.ref v0, .int v1]) (mm_QI D dA M0 r M') 0 0 (mm_A M0) := by
  refine Met.ofW (cc := b_Mo_isTitle) (maxL := 2) (ret := (some .boolean)) (by decide) rfl ?_
  intro p e s m args below meth c s₁ B hml hv
  obtain ⟨rfl, hW, hK⟩ := hv
  have C : mm_C p s m _ meth c b_Mo_isTitle 2 (some .boolean) R_Mo D dA (mm_A M0) := ⟨B.exec, B.bytes, B.returns, hml, findClass_of_methodNamed B.named, fun w hw => atoms_spec (ws := w_Mo_isTitle) B.pre w (List.mem_cons_of_mem _ hw), B.notSynchronized, hK, fun q hq => Or.inr (by rw [← hW.1]; exact hq)⟩
  have hS : va_S (mm_A M0) s.heap s.heap [] := va_S.rf
  obtain ⟨hx, hb, hr, hml, hown, hts, hlocks, hK, hA⟩ := id C
  have hl := lv_entry ([.ref v0, .int v1]) (n := 2) (Nat.le_of_ble_eq_true rfl)
  rw [lg_entry_eq]
  generalize (lg_sl ([.ref v0, .int v1]) ++ List.replicate (2 - (lg_sl ([.ref v0, .int v1])).length) Slot.unset).toArray = ls at hl ⊢
  have hl : lv_has ls 2 [(0, .ref v0), (1, .int v1)] := hl
  unfold f_Mo_isTitle at h
  refine lv_iload_n hx hb d_Mo_isTitle_0 rfl (lv_at hl 1 rfl) ?_
  refine lv_iconst (v := 0) hx hb d_Mo_isTitle_1 (by decide) ?_
  refine lv_aload_n hx hb d_Mo_isTitle_2 rfl (lv_at hl 0 rfl) ?_
  obtain ⟨x1, e1, h⟩ := ob h
  refine mr_gI C hW k_Mo_101 e1 d_Mo_isTitle_3 ?_
  refine lv_iconst (v := 1) hx hb d_Mo_isTitle_6 (by decide) ?_
  refine lv_isub hx hb d_Mo_isTitle_7 ?_
  obtain ⟨⟨x2, M2⟩, e2, h⟩ := ob h
  refine mr_ci C hW hS (va_runS (As := [.int v1, .int 0, .int (x1 - 1)]) (rest := []) ⟨hx, hb, hml, hown, hts⟩ (c_Mo_in1 l D dA _ _ _ v1 0 (x1 - 1) e2) (cwS 3 hts (mg_S q_264 q_265 q_266 q_267) rfl rfl rfl (by decide +kernel) ⟨Nat.le_of_ble_eq_true rfl, Nat.le_of_ble_eq_true rfl⟩) (mr_pre C hW) rfl rfl hl.1 rfl (lv_room (Nat.le_of_ble_eq_true rfl)) d_Mo_isTitle_8 ⟨Nat.le_of_ble_eq_true rfl, Nat.le_of_ble_eq_true rfl⟩) (fun H locs hW hS => ?_)
  obtain ⟨_, e3, h⟩ := ob h
  exact mr_zret C hW hS (Nat.le_of_ble_eq_true rfl) (Nat.le_of_ble_eq_true rfl) e3 h d_Mo_isTitle_11
def f_Mo_tell (v0 : Nat) (v1 : Int32) (v2 : Int32) (M : mm) : Option (Unit × mm) :=
    (gI 1 29 M v0).bind fun x1 =>
    if x1 = 100 then
      some ((), M)
    else
      (gR 1 30 M v0).bind fun x3 =>
      (gI 1 29 M v0).bind fun x4 =>
      (sI v1 M x3 x4).bind fun M5 =>
      (gR 1 31 M5 v0).bind fun x6 =>
      (gI 1 29 M5 v0).bind fun x7 =>
      (sI v2 M5 x6 x7).bind fun M8 =>
      (gI 1 29 M8 v0).bind fun x9 =>
      (pF 1 29 (.int (x9 + 1)) M8 v0).bind fun M10 =>
      some ((), M10)
set_option maxHeartbeats 4000000 in
set_option maxRecDepth 100000 in
theorem c_Mo_tell (l : Launch) (D : va_G) (dA : Nat → ClassId) (M0 M' : mm) (r : Unit) (v0 : Nat) (v1 : Int32) (v2 : Int32) (h : f_Mo_tell v0 v1 v2 M0 = some (r, M')) : Met l y_Mo_tell w_Mo_tell rm_Mo_tell (mm_Pre D dA M0 [.ref v0, .int v1, .int v2]) (mm_QV D dA M0 r M') 0 0 (mm_A M0) := by
  refine Met.ofW (cc := b_Mo_tell) (maxL := 3) (ret := none) (by decide) rfl ?_
  intro p e s m args below meth c s₁ B hml hv
  obtain ⟨rfl, hW, hK⟩ := hv
  have C : mm_C p s m _ meth c b_Mo_tell 3 none R_Mo D dA (mm_A M0) := ⟨B.exec, B.bytes, B.returns, hml, findClass_of_methodNamed B.named, fun w hw => atoms_spec (ws := w_Mo_tell) B.pre w (List.mem_cons_of_mem _ hw), B.notSynchronized, hK, fun q hq => Or.inr (by rw [← hW.1]; exact hq)⟩
  have hS : va_S (mm_A M0) s.heap s.heap [] := va_S.rf
  obtain ⟨hx, hb, hr, hml, hown, hts, hlocks, hK, hA⟩ := id C
  have hl := lv_entry ([.ref v0, .int v1, .int v2]) (n := 3) (Nat.le_of_ble_eq_true rfl)
  rw [lg_entry_eq]
  generalize (lg_sl ([.ref v0, .int v1, .int v2]) ++ List.replicate (3 - (lg_sl ([.ref v0, .int v1, .int v2])).length) Slot.unset).toArray = ls at hl ⊢
  have hl : lv_has ls 3 [(0, .ref v0), (1, .int v1), (2, .int v2)] := hl
  unfold f_Mo_tell at h
  refine lv_aload_n hx hb d_Mo_tell_0 rfl (lv_at hl 0 rfl) ?_
  obtain ⟨x1, e1, h⟩ := ob h
  refine mr_gI C hW k_Mo_104 e1 d_Mo_tell_1 ?_
  refine lv_bipush (v := 100) hx hb d_Mo_tell_4 (by decide) ?_
  refine lv_icmp_ne (tgt := 10) hx hb d_Mo_tell_6 (by decide) (fun c2 => ?_) (fun c2 => ?_)
  · have h := ifn h c2
    refine lv_aload_n hx hb d_Mo_tell_10 rfl (lv_at hl 0 rfl) ?_
    obtain ⟨x3, e3, h⟩ := ob h
    refine mr_gR C hW k_Mo_84 e3 d_Mo_tell_11 ?_
    refine lv_aload_n hx hb d_Mo_tell_14 rfl (lv_at hl 0 rfl) ?_
    obtain ⟨x4, e4, h⟩ := ob h
    refine mr_gI C hW k_Mo_104 e4 d_Mo_tell_15 ?_
    refine lv_iload_n hx hb d_Mo_tell_18 rfl (lv_at hl 1 rfl) ?_
    obtain ⟨M5, e5, h⟩ := ob h
    refine mr_sI C hW hS e5 d_Mo_tell_19 (fun H locs hW hS => ?_)
    refine lv_aload_n hx hb d_Mo_tell_20 rfl (lv_at hl 0 rfl) ?_
    obtain ⟨x6, e6, h⟩ := ob h
    refine mr_gR C hW k_Mo_87 e6 d_Mo_tell_21 ?_
    refine lv_aload_n hx hb d_Mo_tell_24 rfl (lv_at hl 0 rfl) ?_
    obtain ⟨x7, e7, h⟩ := ob h
    refine mr_gI C hW k_Mo_104 e7 d_Mo_tell_25 ?_
    refine lv_iload_n hx hb d_Mo_tell_28 rfl (lv_at hl 2 rfl) ?_
    obtain ⟨M8, e8, h⟩ := ob h
    refine mr_sI C hW hS e8 d_Mo_tell_29 (fun H locs hW hS => ?_)
    refine lv_aload_n hx hb d_Mo_tell_30 rfl (lv_at hl 0 rfl) ?_
    refine lv_dup hx hb d_Mo_tell_31 rfl ?_
    obtain ⟨x9, e9, h⟩ := ob h
    refine mr_gI C hW k_Mo_104 e9 d_Mo_tell_32 ?_
    refine lv_iconst (v := 1) hx hb d_Mo_tell_35 (by decide) ?_
    refine lv_iadd hx hb d_Mo_tell_36 ?_
    obtain ⟨M10, e10, h⟩ := ob h
    refine mr_put C hW hS kp_Mo_104 rfl rfl e10 d_Mo_tell_37 (fun H locs hW hS => ?_)
    exact mr_vret C hW hS (Nat.le_of_ble_eq_true rfl) (Nat.le_of_ble_eq_true rfl) h d_Mo_tell_40
  · have h := ifp h c2
    exact mr_vret C hW hS (Nat.le_of_ble_eq_true rfl) (Nat.le_of_ble_eq_true rfl) h d_Mo_tell_9
def f_Mo_pack (v0 : Nat) (v1 : Int32) (M : mm) : Option (Int32 × mm) :=
    (pF 1 0 (.int 0) M v0).bind fun M1 =>
    (gI 1 1 M1 v0).bind fun x2 =>
    if x2 = 20 then
      some ((-4), M1)
    else
      (gR 1 2 M1 v0).bind fun x4 =>
      (gI 1 1 M1 v0).bind fun x5 =>
      (sZ v1 M1 x4 x5).bind fun M6 =>
      (gR 1 3 M6 v0).bind fun x7 =>
      (gI 1 1 M6 v0).bind fun x8 =>
      (sI 100 M6 x7 x8).bind fun M9 =>
      (gR 1 4 M9 v0).bind fun x10 =>
      (gI 1 1 M9 v0).bind fun x11 =>
      (sI ((-1)) M9 x10 x11).bind fun M12 =>
      (gI 1 1 M12 v0).bind fun x13 =>
      (pF 1 1 (.int (x13 + 1)) M12 v0).bind fun M14 =>
      (gI 1 1 M14 v0).bind fun x15 =>
      some (x15 - 1, M14)
set_option maxHeartbeats 4000000 in
set_option maxRecDepth 100000 in
theorem c_Mo_pack (l : Launch) (D : va_G) (dA : Nat → ClassId) (M0 M' : mm) (r : Int32) (v0 : Nat) (v1 : Int32) (h : f_Mo_pack v0 v1 M0 = some (r, M')) : Met l y_Mo_pack w_Mo_pack rm_Mo_pack (mm_Pre D dA M0 [.ref v0, .int v1]) (mm_QI D dA M0 r M') 0 0 (mm_A M0) := by
  refine Met.ofW (cc := b_Mo_pack) (maxL := 2) (ret := (some .int)) (by decide) rfl ?_
  intro p e s m args below meth c s₁ B hml hv
  obtain ⟨rfl, hW, hK⟩ := hv
  have C : mm_C p s m _ meth c b_Mo_pack 2 (some .int) R_Mo D dA (mm_A M0) := ⟨B.exec, B.bytes, B.returns, hml, findClass_of_methodNamed B.named, fun w hw => atoms_spec (ws := w_Mo_pack) B.pre w (List.mem_cons_of_mem _ hw), B.notSynchronized, hK, fun q hq => Or.inr (by rw [← hW.1]; exact hq)⟩
  have hS : va_S (mm_A M0) s.heap s.heap [] := va_S.rf
  obtain ⟨hx, hb, hr, hml, hown, hts, hlocks, hK, hA⟩ := id C
  have hl := lv_entry ([.ref v0, .int v1]) (n := 2) (Nat.le_of_ble_eq_true rfl)
  rw [lg_entry_eq]
  generalize (lg_sl ([.ref v0, .int v1]) ++ List.replicate (2 - (lg_sl ([.ref v0, .int v1])).length) Slot.unset).toArray = ls at hl ⊢
  have hl : lv_has ls 2 [(0, .ref v0), (1, .int v1)] := hl
  unfold f_Mo_pack at h
  refine lv_aload_n hx hb d_Mo_pack_0 rfl (lv_at hl 0 rfl) ?_
  refine lv_iconst (v := 0) hx hb d_Mo_pack_1 (by decide) ?_
  obtain ⟨M1, e1, h⟩ := ob h
  refine mr_put C hW hS kp_Mo_90 rfl rfl e1 d_Mo_pack_2 (fun H locs hW hS => ?_)
  refine lv_aload_n hx hb d_Mo_pack_5 rfl (lv_at hl 0 rfl) ?_
  obtain ⟨x2, e2, h⟩ := ob h
  refine mr_gI C hW k_Mo_98 e2 d_Mo_pack_6 ?_
  refine lv_bipush (v := 20) hx hb d_Mo_pack_9 (by decide) ?_
  refine lv_icmp_ne (tgt := 17) hx hb d_Mo_pack_11 (by decide) (fun c3 => ?_) (fun c3 => ?_)
  · have h := ifn h c3
    refine lv_aload_n hx hb d_Mo_pack_17 rfl (lv_at hl 0 rfl) ?_
    obtain ⟨x4, e4, h⟩ := ob h
    refine mr_gR C hW k_Mo_7 e4 d_Mo_pack_18 ?_
    refine lv_aload_n hx hb d_Mo_pack_21 rfl (lv_at hl 0 rfl) ?_
    obtain ⟨x5, e5, h⟩ := ob h
    refine mr_gI C hW k_Mo_98 e5 d_Mo_pack_22 ?_
    refine lv_iload_n hx hb d_Mo_pack_25 rfl (lv_at hl 1 rfl) ?_
    obtain ⟨M6, e6, h⟩ := ob h
    refine mr_sZ C hW hS e6 d_Mo_pack_26 (fun H locs hW hS => ?_)
    refine lv_aload_n hx hb d_Mo_pack_27 rfl (lv_at hl 0 rfl) ?_
    obtain ⟨x7, e7, h⟩ := ob h
    refine mr_gR C hW k_Mo_13 e7 d_Mo_pack_28 ?_
    refine lv_aload_n hx hb d_Mo_pack_31 rfl (lv_at hl 0 rfl) ?_
    obtain ⟨x8, e8, h⟩ := ob h
    refine mr_gI C hW k_Mo_98 e8 d_Mo_pack_32 ?_
    refine lv_bipush (v := 100) hx hb d_Mo_pack_35 (by decide) ?_
    obtain ⟨M9, e9, h⟩ := ob h
    refine mr_sI C hW hS e9 d_Mo_pack_37 (fun H locs hW hS => ?_)
    refine lv_aload_n hx hb d_Mo_pack_38 rfl (lv_at hl 0 rfl) ?_
    obtain ⟨x10, e10, h⟩ := ob h
    refine mr_gR C hW k_Mo_17 e10 d_Mo_pack_39 ?_
    refine lv_aload_n hx hb d_Mo_pack_42 rfl (lv_at hl 0 rfl) ?_
    obtain ⟨x11, e11, h⟩ := ob h
    refine mr_gI C hW k_Mo_98 e11 d_Mo_pack_43 ?_
    refine lv_iconst (v := (-1)) hx hb d_Mo_pack_46 (by decide) ?_
    obtain ⟨M12, e12, h⟩ := ob h
    refine mr_sI C hW hS e12 d_Mo_pack_47 (fun H locs hW hS => ?_)
    refine lv_aload_n hx hb d_Mo_pack_48 rfl (lv_at hl 0 rfl) ?_
    refine lv_dup hx hb d_Mo_pack_49 rfl ?_
    obtain ⟨x13, e13, h⟩ := ob h
    refine mr_gI C hW k_Mo_98 e13 d_Mo_pack_50 ?_
    refine lv_iconst (v := 1) hx hb d_Mo_pack_53 (by decide) ?_
    refine lv_iadd hx hb d_Mo_pack_54 ?_
    obtain ⟨M14, e14, h⟩ := ob h
    refine mr_put C hW hS kp_Mo_98 rfl rfl e14 d_Mo_pack_55 (fun H locs hW hS => ?_)
    refine lv_aload_n hx hb d_Mo_pack_58 rfl (lv_at hl 0 rfl) ?_
    obtain ⟨x15, e15, h⟩ := ob h
    refine mr_gI C hW k_Mo_98 e15 d_Mo_pack_59 ?_
    refine lv_iconst (v := 1) hx hb d_Mo_pack_62 (by decide) ?_
    refine lv_isub hx hb d_Mo_pack_63 ?_
    exact mr_iret C hW hS (Nat.le_of_ble_eq_true rfl) (Nat.le_of_ble_eq_true rfl) h d_Mo_pack_64
  · have h := ifp h c3
    refine lv_bipush (v := (-4)) hx hb d_Mo_pack_14 (by decide) ?_
    exact mr_iret C hW hS (Nat.le_of_ble_eq_true rfl) (Nat.le_of_ble_eq_true rfl) h d_Mo_pack_16
def f_Mo_find_b2 : Nat → Nat → Int32 → Int32 → Int32 → mm → Option (Int32 × mm)
  | 0, _, _, _, _, _ => none
  | n + 1, v0, v1, v2, v3, M =>
    (gI 1 9 M v0).bind fun x1 =>
    if x1 ≤ v3 then
      some ((-1), M)
    else
      (gR 1 10 M v0).bind fun x3 =>
      (aI M x3 v3).bind fun x4 =>
      if x4 = v1 then
        (gR 1 11 M v0).bind fun x6 =>
        (aI M x6 v3).bind fun x7 =>
        if x7 = v2 then
          some (v3, M)
        else
          f_Mo_find_b2 n v0 v1 v2 (v3 + 1) M
      else
        f_Mo_find_b2 n v0 v1 v2 (v3 + 1) M
def f_Mo_find (v0 : Nat) (v1 : Int32) (v2 : Int32) (M : mm) : Option (Int32 × mm) :=
    f_Mo_find_b2 FU v0 v1 v2 0 M
set_option maxHeartbeats 4000000 in
set_option maxRecDepth 100000 in
theorem w_Mo_find_b2 {p : Program} {l : Launch} {e : Env} {s : State} {m : MethodId} {args : Array Value} {below : List Frame} {meth : Method} {c : Code} {D : va_G} {dA : Nat → ClassId} {M0 M' : mm} {r : Int32} (C : mm_C p s m args meth c b_Mo_find 4 (some .int) R_Mo D dA (mm_A M0)) : ∀ (n : Nat), ∀ (v0 : Nat) (v1 : Int32) (v2 : Int32) (v3 : Int32) (M : mm) (H : Heap) (locs : List Loc) (ls : Array Slot), f_Mo_find_b2 n v0 v1 v2 v3 M = some (r, M') → mm_W D dA (mm_A M0) M H → va_S (mm_A M0) s.heap H locs → lv_has ls 4 [(0, .ref v0), (1, .int v1), (2, .int v2), (3, .int v3)] → W p l e rm_Mo_find s m args below meth c H locs 0 0 (MQ below (mm_QI D dA M0 r M') args s 0 0 (mm_A M0)) (F0 m 2 ls []) := by
  obtain ⟨hx, hb, hr, hml, hown, hts, hlocks, hK, hA⟩ := id C
  intro n
  induction n with
  | zero =>
    intro v0 v1 v2 v3 M H locs ls h hW hS hl
    unfold f_Mo_find_b2 at h
    cases h
  | succ n ih =>
    intro v0 v1 v2 v3 M H locs ls h hW hS hl
    unfold f_Mo_find_b2 at h
    refine lv_iload_n hx hb d_Mo_find_2 rfl (lv_at hl 3 rfl) ?_
    refine lv_aload_n hx hb d_Mo_find_3 rfl (lv_at hl 0 rfl) ?_
    obtain ⟨x1, e1, h⟩ := ob h
    refine mr_gI C hW k_Mo_101 e1 d_Mo_find_4 ?_
    refine lv_icmp_ge (tgt := 38) hx hb d_Mo_find_7 (by decide) (fun c2 => ?_) (fun c2 => ?_)
    · have h := ifp h c2
      refine lv_iconst (v := (-1)) hx hb d_Mo_find_38 (by decide) ?_
      exact mr_iret C hW hS (Nat.le_of_ble_eq_true rfl) (Nat.le_of_ble_eq_true rfl) h d_Mo_find_39
    · have h := ifn h c2
      refine lv_aload_n hx hb d_Mo_find_10 rfl (lv_at hl 0 rfl) ?_
      obtain ⟨x3, e3, h⟩ := ob h
      refine mr_gR C hW k_Mo_32 e3 d_Mo_find_11 ?_
      refine lv_iload_n hx hb d_Mo_find_14 rfl (lv_at hl 3 rfl) ?_
      obtain ⟨x4, e4, h⟩ := ob h
      refine mr_aI C hW e4 d_Mo_find_15 ?_
      refine lv_iload_n hx hb d_Mo_find_16 rfl (lv_at hl 1 rfl) ?_
      refine lv_icmp_ne (tgt := 32) hx hb d_Mo_find_17 (by decide) (fun c5 => ?_) (fun c5 => ?_)
      · have h := ifn h c5
        refine lv_iinc (v := v3 + 1) (lv' := [(3, .int (v3 + 1)), (0, .ref v0), (1, .int v1), (2, .int v2)]) hx hb d_Mo_find_32 hl (k := 3) rfl rfl (by decide) rfl (fun ls hl => ?_)
        refine lv_goto (tgt := 2) hx hb d_Mo_find_35 (by decide) ?_
        exact ih _ _ _ _ _ _ _ _ h hW hS (lv_sub hl [1, 2, 3, 0] rfl)
      · have h := ifp h c5
        refine lv_aload_n hx hb d_Mo_find_20 rfl (lv_at hl 0 rfl) ?_
        obtain ⟨x6, e6, h⟩ := ob h
        refine mr_gR C hW k_Mo_35 e6 d_Mo_find_21 ?_
        refine lv_iload_n hx hb d_Mo_find_24 rfl (lv_at hl 3 rfl) ?_
        obtain ⟨x7, e7, h⟩ := ob h
        refine mr_aI C hW e7 d_Mo_find_25 ?_
        refine lv_iload_n hx hb d_Mo_find_26 rfl (lv_at hl 2 rfl) ?_
        refine lv_icmp_ne (tgt := 32) hx hb d_Mo_find_27 (by decide) (fun c8 => ?_) (fun c8 => ?_)
        · have h := ifn h c8
          refine lv_iinc (v := v3 + 1) (lv' := [(3, .int (v3 + 1)), (0, .ref v0), (1, .int v1), (2, .int v2)]) hx hb d_Mo_find_32 hl (k := 3) rfl rfl (by decide) rfl (fun ls hl => ?_)
          refine lv_goto (tgt := 2) hx hb d_Mo_find_35 (by decide) ?_
          exact ih _ _ _ _ _ _ _ _ h hW hS (lv_sub hl [1, 2, 3, 0] rfl)
        · have h := ifp h c8
          refine lv_iload_n hx hb d_Mo_find_30 rfl (lv_at hl 3 rfl) ?_
          exact mr_iret C hW hS (Nat.le_of_ble_eq_true rfl) (Nat.le_of_ble_eq_true rfl) h d_Mo_find_31
set_option maxHeartbeats 4000000 in
set_option maxRecDepth 100000 in
theorem c_Mo_find (l : Launch) (D : va_G) (dA : Nat → ClassId) (M0 M' : mm) (r : Int32) (v0 : Nat) (v1 : Int32) (v2 : Int32) (h : f_Mo_find v0 v1 v2 M0 = some (r, M')) : Met l y_Mo_find w_Mo_find rm_Mo_find (mm_Pre D dA M0 [.ref v0, .int v1, .int v2]) (mm_QI D dA M0 r M') 0 0 (mm_A M0) := by
  refine Met.ofW (cc := b_Mo_find) (maxL := 4) (ret := (some .int)) (by decide) rfl ?_
  intro p e s m args below meth c s₁ B hml hv
  obtain ⟨rfl, hW, hK⟩ := hv
  have C : mm_C p s m _ meth c b_Mo_find 4 (some .int) R_Mo D dA (mm_A M0) := ⟨B.exec, B.bytes, B.returns, hml, findClass_of_methodNamed B.named, fun w hw => atoms_spec (ws := w_Mo_find) B.pre w (List.mem_cons_of_mem _ hw), B.notSynchronized, hK, fun q hq => Or.inr (by rw [← hW.1]; exact hq)⟩
  have hS : va_S (mm_A M0) s.heap s.heap [] := va_S.rf
  obtain ⟨hx, hb, hr, hml, hown, hts, hlocks, hK, hA⟩ := id C
  have hl := lv_entry ([.ref v0, .int v1, .int v2]) (n := 4) (Nat.le_of_ble_eq_true rfl)
  rw [lg_entry_eq]
  generalize (lg_sl ([.ref v0, .int v1, .int v2]) ++ List.replicate (4 - (lg_sl ([.ref v0, .int v1, .int v2])).length) Slot.unset).toArray = ls at hl ⊢
  have hl : lv_has ls 4 [(0, .ref v0), (1, .int v1), (2, .int v2)] := hl
  unfold f_Mo_find at h
  refine lv_iconst (v := 0) hx hb d_Mo_find_0 (by decide) ?_
  refine lv_istore_n (lv' := [(3, .int 0), (0, .ref v0), (1, .int v1), (2, .int v2)]) hx hb d_Mo_find_1 rfl hl (by decide) rfl (fun ls hl => ?_)
  exact w_Mo_find_b2 C FU _ _ _ _ _ _ _ _ h hW hS (lv_sub hl [1, 2, 3, 0] rfl)
def f_Mo_title (v0 : Nat) (v1 : Int32) (v2 : Int32) (M : mm) : Option (Int32 × mm) :=
    (pF 1 0 (.int 0) M v0).bind fun M1 =>
    (kO 1 M1 v0).bind fun _ =>
    (f_Mo_isPack v0 v1 M1).bind fun (x2, M2) =>
    if x2 = 0 then
      some ((-1), M2)
    else
      (kO 1 M2 v0).bind fun _ =>
      (f_Mo_find v0 v1 v2 M2).bind fun (x5, M5) =>
      if x5 < 0 then
        (gI 1 9 M5 v0).bind fun x8 =>
        if x8 = 200 then
          some ((-4), M5)
        else
          (gR 1 10 M5 v0).bind fun x10 =>
          (gI 1 9 M5 v0).bind fun x11 =>
          (sI v1 M5 x10 x11).bind fun M12 =>
          (gR 1 11 M12 v0).bind fun x13 =>
          (gI 1 9 M12 v0).bind fun x14 =>
          (sI v2 M12 x13 x14).bind fun M15 =>
          (gI 1 9 M15 v0).bind fun x16 =>
          (pF 1 9 (.int (x16 + 1)) M15 v0).bind fun M17 =>
          (gI 1 9 M17 v0).bind fun x18 =>
          some (x18 - 1, M17)
      else
        some ((-3), M5)
set_option maxHeartbeats 4000000 in
set_option maxRecDepth 100000 in
theorem c_Mo_title (l : Launch) (D : va_G) (dA : Nat → ClassId) (M0 M' : mm) (r : Int32) (v0 : Nat) (v1 : Int32) (v2 : Int32) (h : f_Mo_title v0 v1 v2 M0 = some (r, M')) : Met l y_Mo_title w_Mo_title rm_Mo_title (mm_Pre D dA M0 [.ref v0, .int v1, .int v2]) (mm_QI D dA M0 r M') 0 0 (mm_A M0) := by
  refine Met.ofW (cc := b_Mo_title) (maxL := 3) (ret := (some .int)) (by decide) rfl ?_
  intro p e s m args below meth c s₁ B hml hv
  obtain ⟨rfl, hW, hK⟩ := hv
  have C : mm_C p s m _ meth c b_Mo_title 3 (some .int) R_Mo D dA (mm_A M0) := ⟨B.exec, B.bytes, B.returns, hml, findClass_of_methodNamed B.named, fun w hw => atoms_spec (ws := w_Mo_title) B.pre w (List.mem_cons_of_mem _ hw), B.notSynchronized, hK, fun q hq => Or.inr (by rw [← hW.1]; exact hq)⟩
  have hS : va_S (mm_A M0) s.heap s.heap [] := va_S.rf
  obtain ⟨hx, hb, hr, hml, hown, hts, hlocks, hK, hA⟩ := id C
  have hl := lv_entry ([.ref v0, .int v1, .int v2]) (n := 3) (Nat.le_of_ble_eq_true rfl)
  rw [lg_entry_eq]
  generalize (lg_sl ([.ref v0, .int v1, .int v2]) ++ List.replicate (3 - (lg_sl ([.ref v0, .int v1, .int v2])).length) Slot.unset).toArray = ls at hl ⊢
  have hl : lv_has ls 3 [(0, .ref v0), (1, .int v1), (2, .int v2)] := hl
  unfold f_Mo_title at h
  refine lv_aload_n hx hb d_Mo_title_0 rfl (lv_at hl 0 rfl) ?_
  refine lv_iconst (v := 0) hx hb d_Mo_title_1 (by decide) ?_
  obtain ⟨M1, e1, h⟩ := ob h
  refine mr_put C hW hS kp_Mo_90 rfl rfl e1 d_Mo_title_2 (fun H locs hW hS => ?_)
  refine lv_aload_n hx hb d_Mo_title_5 rfl (lv_at hl 0 rfl) ?_
  refine lv_iload_n hx hb d_Mo_title_6 rfl (lv_at hl 1 rfl) ?_
  obtain ⟨_, e3, h⟩ := ob h
  obtain ⟨⟨x2, M2⟩, e2, h⟩ := ob h
  refine mr_ci C hW hS (va_runV (As := [.int v1]) (rest := []) ⟨hx, hb, hml, hown, hts⟩ (c_Mo_isPack l D dA _ _ _ v0 v1 e2) (cwV 1 hts (mg_V q_272 q_273 q_274 q_275 q_267) rfl rfl rfl (by decide +kernel) ⟨Nat.le_of_ble_eq_true rfl, Nat.le_of_ble_eq_true rfl⟩) (mr_preV C hW (ci := 1) rfl e3) rfl rfl hl.1 rfl (lv_room (Nat.le_of_ble_eq_true rfl)) d_Mo_title_7 ⟨Nat.le_of_ble_eq_true rfl, Nat.le_of_ble_eq_true rfl⟩) (fun H locs hW hS => ?_)
  refine lv_if_ne (tgt := 15) hx hb d_Mo_title_10 (by decide) (fun c4 => ?_) (fun c4 => ?_)
  · have h := ifn h c4
    refine lv_aload_n hx hb d_Mo_title_15 rfl (lv_at hl 0 rfl) ?_
    refine lv_iload_n hx hb d_Mo_title_16 rfl (lv_at hl 1 rfl) ?_
    refine lv_iload_n hx hb d_Mo_title_17 rfl (lv_at hl 2 rfl) ?_
    obtain ⟨_, e6, h⟩ := ob h
    obtain ⟨⟨x5, M5⟩, e5, h⟩ := ob h
    refine mr_ci C hW hS (va_runV (As := [.int v1, .int v2]) (rest := []) ⟨hx, hb, hml, hown, hts⟩ (c_Mo_find l D dA _ _ _ v0 v1 v2 e5) (cwV 2 hts (mg_V q_276 q_277 q_278 q_279 q_267) rfl rfl rfl (by decide +kernel) ⟨Nat.le_of_ble_eq_true rfl, Nat.le_of_ble_eq_true rfl⟩) (mr_preV C hW (ci := 1) rfl e6) rfl rfl hl.1 rfl (lv_room (Nat.le_of_ble_eq_true rfl)) d_Mo_title_18 ⟨Nat.le_of_ble_eq_true rfl, Nat.le_of_ble_eq_true rfl⟩) (fun H locs hW hS => ?_)
    refine lv_if_lt (tgt := 27) hx hb d_Mo_title_21 (by decide) (fun c7 => ?_) (fun c7 => ?_)
    · have h := ifp h c7
      refine lv_aload_n hx hb d_Mo_title_27 rfl (lv_at hl 0 rfl) ?_
      obtain ⟨x8, e8, h⟩ := ob h
      refine mr_gI C hW k_Mo_101 e8 d_Mo_title_28 ?_
      refine lv_sipush (v := 200) hx hb d_Mo_title_31 (by decide) ?_
      refine lv_icmp_ne (tgt := 40) hx hb d_Mo_title_34 (by decide) (fun c9 => ?_) (fun c9 => ?_)
      · have h := ifn h c9
        refine lv_aload_n hx hb d_Mo_title_40 rfl (lv_at hl 0 rfl) ?_
        obtain ⟨x10, e10, h⟩ := ob h
        refine mr_gR C hW k_Mo_32 e10 d_Mo_title_41 ?_
        refine lv_aload_n hx hb d_Mo_title_44 rfl (lv_at hl 0 rfl) ?_
        obtain ⟨x11, e11, h⟩ := ob h
        refine mr_gI C hW k_Mo_101 e11 d_Mo_title_45 ?_
        refine lv_iload_n hx hb d_Mo_title_48 rfl (lv_at hl 1 rfl) ?_
        obtain ⟨M12, e12, h⟩ := ob h
        refine mr_sI C hW hS e12 d_Mo_title_49 (fun H locs hW hS => ?_)
        refine lv_aload_n hx hb d_Mo_title_50 rfl (lv_at hl 0 rfl) ?_
        obtain ⟨x13, e13, h⟩ := ob h
        refine mr_gR C hW k_Mo_35 e13 d_Mo_title_51 ?_
        refine lv_aload_n hx hb d_Mo_title_54 rfl (lv_at hl 0 rfl) ?_
        obtain ⟨x14, e14, h⟩ := ob h
        refine mr_gI C hW k_Mo_101 e14 d_Mo_title_55 ?_
        refine lv_iload_n hx hb d_Mo_title_58 rfl (lv_at hl 2 rfl) ?_
        obtain ⟨M15, e15, h⟩ := ob h
        refine mr_sI C hW hS e15 d_Mo_title_59 (fun H locs hW hS => ?_)
        refine lv_aload_n hx hb d_Mo_title_60 rfl (lv_at hl 0 rfl) ?_
        refine lv_dup hx hb d_Mo_title_61 rfl ?_
        obtain ⟨x16, e16, h⟩ := ob h
        refine mr_gI C hW k_Mo_101 e16 d_Mo_title_62 ?_
        refine lv_iconst (v := 1) hx hb d_Mo_title_65 (by decide) ?_
        refine lv_iadd hx hb d_Mo_title_66 ?_
        obtain ⟨M17, e17, h⟩ := ob h
        refine mr_put C hW hS kp_Mo_101 rfl rfl e17 d_Mo_title_67 (fun H locs hW hS => ?_)
        refine lv_aload_n hx hb d_Mo_title_70 rfl (lv_at hl 0 rfl) ?_
        obtain ⟨x18, e18, h⟩ := ob h
        refine mr_gI C hW k_Mo_101 e18 d_Mo_title_71 ?_
        refine lv_iconst (v := 1) hx hb d_Mo_title_74 (by decide) ?_
        refine lv_isub hx hb d_Mo_title_75 ?_
        exact mr_iret C hW hS (Nat.le_of_ble_eq_true rfl) (Nat.le_of_ble_eq_true rfl) h d_Mo_title_76
      · have h := ifp h c9
        refine lv_bipush (v := (-4)) hx hb d_Mo_title_37 (by decide) ?_
        exact mr_iret C hW hS (Nat.le_of_ble_eq_true rfl) (Nat.le_of_ble_eq_true rfl) h d_Mo_title_39
    · have h := ifn h c7
      refine lv_bipush (v := (-3)) hx hb d_Mo_title_24 (by decide) ?_
      exact mr_iret C hW hS (Nat.le_of_ble_eq_true rfl) (Nat.le_of_ble_eq_true rfl) h d_Mo_title_26
  · have h := ifp h c4
    refine lv_iconst (v := (-1)) hx hb d_Mo_title_13 (by decide) ?_
    exact mr_iret C hW hS (Nat.le_of_ble_eq_true rfl) (Nat.le_of_ble_eq_true rfl) h d_Mo_title_14
