theorem mm_q {w : Cond} (i : Nat) (h : lw_tbl[i]? = some w) (hg : goodWord w = true) : w ∈ mm_G := List.mem_filter.mpr ⟨List.mem_of_getElem? h, hg⟩
set_option maxRecDepth 100000 in
theorem q_0 : Cond.methodLink R_Usages 3 objectInit ∈ mm_G := mm_q 52 rfl rfl
set_option maxRecDepth 100000 in
theorem q_1 : Cond.instanceMethod objectInit ∈ mm_G := mm_q 39 rfl rfl
set_option maxRecDepth 100000 in
theorem q_2 : Cond.code objectInit ⟨#[0xb1]⟩ 1 none ∈ mm_G := mm_q 40 rfl rfl
set_option maxRecDepth 100000 in
theorem q_3 : Cond.arrayClass .int ∈ mm_G := mm_q 66 rfl rfl
set_option maxRecDepth 100000 in
theorem q_4 : Cond.fieldLink R_Usages 9 R_Usages "readers" "[I" ∈ mm_G := mm_q 53 rfl rfl
set_option maxRecDepth 100000 in
theorem q_5 : Cond.fieldLink R_Usages 15 R_Usages "titles" "[I" ∈ mm_G := mm_q 54 rfl rfl
set_option maxRecDepth 100000 in
theorem q_6 : Cond.fieldLink R_Usages 18 R_Usages "months" "[I" ∈ mm_G := mm_q 55 rfl rfl
set_option maxRecDepth 100000 in
theorem q_7 : Cond.fieldLink R_Usages 21 R_Usages "size" "I" ∈ mm_G := mm_q 56 rfl rfl
set_option maxRecDepth 100000 in
theorem q_8 : Cond.methodLink R_Notices 3 objectInit ∈ mm_G := mm_q 72 rfl rfl
set_option maxRecDepth 100000 in
theorem q_9 : Cond.fieldLink R_Notices 9 R_Notices "sorts" "[I" ∈ mm_G := mm_q 73 rfl rfl
set_option maxRecDepth 100000 in
theorem q_10 : Cond.fieldLink R_Notices 15 R_Notices "numbers" "[I" ∈ mm_G := mm_q 75 rfl rfl
set_option maxRecDepth 100000 in
theorem q_11 : Cond.fieldLink R_Notices 18 R_Notices "size" "I" ∈ mm_G := mm_q 77 rfl rfl
set_option maxRecDepth 100000 in
theorem q_12 : Cond.methodLink R_X 3 objectInit ∈ mm_G := mm_q 38 rfl rfl
set_option maxRecDepth 100000 in
theorem q_13 : Cond.classLink R_X 9 R_Pack ∈ mm_G := mm_q 41 rfl rfl
set_option maxRecDepth 100000 in
theorem q_14 : Cond.fieldLink R_X 11 R_X "packs" "[LLicenceRows2$Pack;" ∈ mm_G := mm_q 86 rfl rfl
set_option maxRecDepth 100000 in
theorem q_15 : Cond.fieldLink R_X 15 R_X "packCount" "I" ∈ mm_G := mm_q 87 rfl rfl
set_option maxRecDepth 100000 in
theorem q_16 : Cond.classLink R_X 19 R_Title ∈ mm_G := mm_q 43 rfl rfl
set_option maxRecDepth 100000 in
theorem q_17 : Cond.fieldLink R_X 21 R_X "titles" "[LLicenceRows2$Title;" ∈ mm_G := mm_q 88 rfl rfl
set_option maxRecDepth 100000 in
theorem q_18 : Cond.fieldLink R_X 25 R_X "titleCount" "I" ∈ mm_G := mm_q 89 rfl rfl
set_option maxRecDepth 100000 in
theorem q_19 : Cond.classLink R_X 28 R_Rule ∈ mm_G := mm_q 45 rfl rfl
set_option maxRecDepth 100000 in
theorem q_20 : Cond.fieldLink R_X 30 R_X "rules" "[LLicenceRows2$Rule;" ∈ mm_G := mm_q 90 rfl rfl
set_option maxRecDepth 100000 in
theorem q_21 : Cond.fieldLink R_X 34 R_X "ruleCount" "I" ∈ mm_G := mm_q 91 rfl rfl
set_option maxRecDepth 100000 in
theorem q_22 : Cond.fieldLink R_X 37 R_X "classOf" "[I" ∈ mm_G := mm_q 92 rfl rfl
set_option maxRecDepth 100000 in
theorem q_23 : Cond.classLink R_X 41 R_Usages ∈ mm_G := mm_q 47 rfl rfl
set_option maxRecDepth 100000 in
theorem q_24 : Cond.instantiable R_Usages 4 ∈ mm_G := mm_q 48 rfl rfl
set_option maxRecDepth 100000 in
theorem q_25 : Cond.initialized R_Usages ∈ mm_G := mm_q 25 rfl rfl
set_option maxRecDepth 100000 in
theorem q_26 : Cond.code y_Usages_init b_Usages_init 1 none ∈ mm_G := mm_q 51 rfl rfl
set_option maxRecDepth 100000 in
theorem q_27 : Cond.instanceMethod y_Usages_init ∈ mm_G := mm_q 50 rfl rfl
set_option maxRecDepth 100000 in
theorem q_28 : Cond.fieldLink R_X 44 R_X "usages" "LLicenceRows2$Usages;" ∈ mm_G := mm_q 93 rfl rfl
set_option maxRecDepth 100000 in
theorem q_29 : Cond.classLink R_X 48 R_Notices ∈ mm_G := mm_q 67 rfl rfl
set_option maxRecDepth 100000 in
theorem q_30 : Cond.instantiable R_Notices 3 ∈ mm_G := mm_q 68 rfl rfl
set_option maxRecDepth 100000 in
theorem q_31 : Cond.initialized R_Notices ∈ mm_G := mm_q 26 rfl rfl
set_option maxRecDepth 100000 in
theorem q_32 : Cond.code y_Notices_init b_Notices_init 1 none ∈ mm_G := mm_q 71 rfl rfl
set_option maxRecDepth 100000 in
theorem q_33 : Cond.instanceMethod y_Notices_init ∈ mm_G := mm_q 70 rfl rfl
set_option maxRecDepth 100000 in
theorem q_34 : Cond.fieldLink R_X 51 R_X "notices" "LLicenceRows2$Notices;" ∈ mm_G := mm_q 94 rfl rfl
set_option maxRecDepth 100000 in
theorem q_35 : Cond.fieldLink R_X 55 R_X "latestFailed" "I" ∈ mm_G := mm_q 95 rfl rfl
set_option maxRecDepth 100000 in
theorem q_36 : Cond.methodLink R_Line 3 objectInit ∈ mm_G := mm_q 131 rfl rfl
set_option maxRecDepth 100000 in
theorem q_37 : Cond.fieldLink R_Line 9 R_Line "readers" "[I" ∈ mm_G := mm_q 132 rfl rfl
set_option maxRecDepth 100000 in
theorem q_38 : Cond.fieldLink R_Line 15 R_Line "size" "I" ∈ mm_G := mm_q 134 rfl rfl
set_option maxRecDepth 100000 in
theorem q_39 : Cond.methodLink R_Pack 3 objectInit ∈ mm_G := mm_q 125 rfl rfl
set_option maxRecDepth 100000 in
theorem q_40 : Cond.classLink R_Pack 9 R_Line ∈ mm_G := mm_q 126 rfl rfl
set_option maxRecDepth 100000 in
theorem q_41 : Cond.instantiable R_Line 2 ∈ mm_G := mm_q 127 rfl rfl
set_option maxRecDepth 100000 in
theorem q_42 : Cond.initialized R_Line ∈ mm_G := mm_q 29 rfl rfl
set_option maxRecDepth 100000 in
theorem q_43 : Cond.code y_Line_init b_Line_init 1 none ∈ mm_G := mm_q 130 rfl rfl
set_option maxRecDepth 100000 in
theorem q_44 : Cond.instanceMethod y_Line_init ∈ mm_G := mm_q 129 rfl rfl
set_option maxRecDepth 100000 in
theorem q_45 : Cond.fieldLink R_Pack 12 R_Pack "inside" "LLicenceRows2$Line;" ∈ mm_G := mm_q 145 rfl rfl
set_option maxRecDepth 100000 in
theorem q_46 : Cond.fieldLink R_Pack 18 R_Pack "waiting" "LLicenceRows2$Line;" ∈ mm_G := mm_q 147 rfl rfl
set_option maxRecDepth 100000 in
theorem q_47 : Cond.fieldLink R_Pack 21 R_Pack "places" "I" ∈ mm_G := mm_q 149 rfl rfl
set_option maxRecDepth 100000 in
theorem q_48 : Cond.fieldLink R_Pack 25 R_Pack "endDay" "I" ∈ mm_G := mm_q 151 rfl rfl
set_option maxRecDepth 100000 in
theorem q_49 : Cond.fieldLink R_Pack 28 R_Pack "number" "I" ∈ mm_G := mm_q 142 rfl rfl
set_option maxRecDepth 100000 in
theorem q_50 : Cond.fieldLink R_Pack 31 R_Pack "keeps" "Z" ∈ mm_G := mm_q 144 rfl rfl
set_option maxRecDepth 100000 in
theorem q_51 : Cond.instantiable R_Pack 6 ∈ mm_G := mm_q 121 rfl rfl
set_option maxRecDepth 100000 in
theorem q_52 : Cond.initialized R_Pack ∈ mm_G := mm_q 28 rfl rfl
set_option maxRecDepth 100000 in
theorem q_53 : Cond.code y_Pack_init b_Pack_init 3 none ∈ mm_G := mm_q 124 rfl rfl
set_option maxRecDepth 100000 in
theorem q_54 : Cond.methodLink R_X 58 y_Pack_init ∈ mm_G := mm_q 122 rfl rfl
set_option maxRecDepth 100000 in
theorem q_55 : Cond.instanceMethod y_Pack_init ∈ mm_G := mm_q 123 rfl rfl
set_option maxRecDepth 100000 in
theorem q_56 : Cond.fieldLink R_X 175 R_Title "home" "LLicenceRows2$Pack;" ∈ mm_G := mm_q 184 rfl rfl
set_option maxRecDepth 100000 in
theorem q_57 : Cond.fieldLink R_X 179 R_Pack "number" "I" ∈ mm_G := mm_q 143 rfl rfl
set_option maxRecDepth 100000 in
theorem q_58 : Cond.fieldLink R_X 166 R_Title "name" "I" ∈ mm_G := mm_q 186 rfl rfl
set_option maxRecDepth 100000 in
theorem q_59 : Cond.methodLink R_Title 3 objectInit ∈ mm_G := mm_q 182 rfl rfl
set_option maxRecDepth 100000 in
theorem q_60 : Cond.fieldLink R_Title 9 R_Title "active" "Z" ∈ mm_G := mm_q 187 rfl rfl
set_option maxRecDepth 100000 in
theorem q_61 : Cond.fieldLink R_Title 15 R_Title "months" "I" ∈ mm_G := mm_q 189 rfl rfl
set_option maxRecDepth 100000 in
theorem q_62 : Cond.fieldLink R_Title 19 R_Title "from" "[I" ∈ mm_G := mm_q 191 rfl rfl
set_option maxRecDepth 100000 in
theorem q_63 : Cond.fieldLink R_Title 23 R_Title "to" "[I" ∈ mm_G := mm_q 193 rfl rfl
set_option maxRecDepth 100000 in
theorem q_64 : Cond.fieldLink R_Title 26 R_Title "spans" "I" ∈ mm_G := mm_q 195 rfl rfl
set_option maxRecDepth 100000 in
theorem q_65 : Cond.fieldLink R_Title 29 R_Title "home" "LLicenceRows2$Pack;" ∈ mm_G := mm_q 183 rfl rfl
set_option maxRecDepth 100000 in
theorem q_66 : Cond.fieldLink R_Title 33 R_Title "name" "I" ∈ mm_G := mm_q 185 rfl rfl
set_option maxRecDepth 100000 in
theorem q_67 : Cond.code y_X_findPack b_X_findPack 2 (some (.object "LicenceRows2$Pack")) ∈ mm_G := mm_q 173 rfl rfl
set_option maxRecDepth 100000 in
theorem q_68 : Cond.methodLink R_X 61 y_X_findPack ∈ mm_G := mm_q 170 rfl rfl
set_option maxRecDepth 100000 in
theorem q_69 : Cond.instanceMethod y_X_findPack ∈ mm_G := mm_q 172 rfl rfl
set_option maxRecDepth 100000 in
theorem q_70 : Cond.selects R_X y_X_findPack y_X_findPack ∈ mm_G := mm_q 0 rfl rfl
set_option maxRecDepth 100000 in
theorem q_71 : Cond.initialized R_X ∈ mm_G := mm_q 24 rfl rfl
set_option maxRecDepth 100000 in
theorem q_72 : Cond.code y_X_findNamed b_X_findNamed 5 (some (.object "LicenceRows2$Title")) ∈ mm_G := mm_q 177 rfl rfl
set_option maxRecDepth 100000 in
theorem q_73 : Cond.methodLink R_X 65 y_X_findNamed ∈ mm_G := mm_q 174 rfl rfl
set_option maxRecDepth 100000 in
theorem q_74 : Cond.instanceMethod y_X_findNamed ∈ mm_G := mm_q 176 rfl rfl
set_option maxRecDepth 100000 in
theorem q_75 : Cond.selects R_X y_X_findNamed y_X_findNamed ∈ mm_G := mm_q 1 rfl rfl
set_option maxRecDepth 100000 in
theorem q_76 : Cond.instantiable R_Title 7 ∈ mm_G := mm_q 178 rfl rfl
set_option maxRecDepth 100000 in
theorem q_77 : Cond.initialized R_Title ∈ mm_G := mm_q 30 rfl rfl
set_option maxRecDepth 100000 in
theorem q_78 : Cond.code y_Title_init b_Title_init 3 none ∈ mm_G := mm_q 181 rfl rfl
set_option maxRecDepth 100000 in
theorem q_79 : Cond.methodLink R_X 69 y_Title_init ∈ mm_G := mm_q 179 rfl rfl
set_option maxRecDepth 100000 in
theorem q_80 : Cond.instanceMethod y_Title_init ∈ mm_G := mm_q 180 rfl rfl
set_option maxRecDepth 100000 in
theorem q_81 : Cond.constant R_X 238 200000 ∈ mm_G := mm_q 223 rfl rfl
set_option maxRecDepth 100000 in
theorem q_82 : Cond.code y_X_findTitle b_X_findTitle 2 (some (.object "LicenceRows2$Title")) ∈ mm_G := mm_q 219 rfl rfl
set_option maxRecDepth 100000 in
theorem q_83 : Cond.methodLink R_X 72 y_X_findTitle ∈ mm_G := mm_q 216 rfl rfl
set_option maxRecDepth 100000 in
theorem q_84 : Cond.instanceMethod y_X_findTitle ∈ mm_G := mm_q 218 rfl rfl
set_option maxRecDepth 100000 in
theorem q_85 : Cond.selects R_X y_X_findTitle y_X_findTitle ∈ mm_G := mm_q 2 rfl rfl
set_option maxRecDepth 100000 in
theorem q_86 : Cond.code y_X_isDay b_X_isDay 1 (some .boolean) ∈ mm_G := mm_q 222 rfl rfl
set_option maxRecDepth 100000 in
theorem q_87 : Cond.methodLink R_X 76 y_X_isDay ∈ mm_G := mm_q 220 rfl rfl
set_option maxRecDepth 100000 in
theorem q_88 : Cond.static y_X_isDay ∈ mm_G := mm_q 221 rfl rfl
set_option maxRecDepth 100000 in
theorem q_89 : Cond.code y_Title_meets b_Title_meets 4 (some .boolean) ∈ mm_G := mm_q 227 rfl rfl
set_option maxRecDepth 100000 in
theorem q_90 : Cond.methodLink R_X 80 y_Title_meets ∈ mm_G := mm_q 224 rfl rfl
set_option maxRecDepth 100000 in
theorem q_91 : Cond.instanceMethod y_Title_meets ∈ mm_G := mm_q 225 rfl rfl
set_option maxRecDepth 100000 in
theorem q_92 : Cond.selects R_Title y_Title_meets y_Title_meets ∈ mm_G := mm_q 226 rfl rfl
set_option maxRecDepth 100000 in
theorem q_93 : Cond.fieldLink R_X 84 R_Title "spans" "I" ∈ mm_G := mm_q 196 rfl rfl
set_option maxRecDepth 100000 in
theorem q_94 : Cond.code y_Title_addSpan b_Title_addSpan 4 none ∈ mm_G := mm_q 231 rfl rfl
set_option maxRecDepth 100000 in
theorem q_95 : Cond.methodLink R_X 87 y_Title_addSpan ∈ mm_G := mm_q 228 rfl rfl
set_option maxRecDepth 100000 in
theorem q_96 : Cond.instanceMethod y_Title_addSpan ∈ mm_G := mm_q 229 rfl rfl
set_option maxRecDepth 100000 in
theorem q_97 : Cond.selects R_Title y_Title_addSpan y_Title_addSpan ∈ mm_G := mm_q 230 rfl rfl
set_option maxRecDepth 100000 in
theorem q_98 : Cond.code y_X_monthOf b_X_monthOf 1 (some .int) ∈ mm_G := mm_q 242 rfl rfl
set_option maxRecDepth 100000 in
theorem q_99 : Cond.static y_X_monthOf ∈ mm_G := mm_q 241 rfl rfl
set_option maxRecDepth 100000 in
theorem q_100 : Cond.fieldLink R_X 91 R_Title "months" "I" ∈ mm_G := mm_q 190 rfl rfl
set_option maxRecDepth 100000 in
theorem q_101 : Cond.code y_Title_lastFreeMonth b_Title_lastFreeMonth 2 (some .int) ∈ mm_G := mm_q 239 rfl rfl
set_option maxRecDepth 100000 in
theorem q_102 : Cond.methodLink R_X 94 y_Title_lastFreeMonth ∈ mm_G := mm_q 236 rfl rfl
set_option maxRecDepth 100000 in
theorem q_103 : Cond.instanceMethod y_Title_lastFreeMonth ∈ mm_G := mm_q 237 rfl rfl
set_option maxRecDepth 100000 in
theorem q_104 : Cond.selects R_Title y_Title_lastFreeMonth y_Title_lastFreeMonth ∈ mm_G := mm_q 238 rfl rfl
set_option maxRecDepth 100000 in
theorem q_105 : Cond.methodLink R_X 98 Lib.Math.max.name ∈ mm_G := mm_q 243 rfl rfl
set_option maxRecDepth 100000 in
theorem q_106 : Cond.static Lib.Math.max.name ∈ mm_G := mm_q 244 rfl rfl
set_option maxRecDepth 100000 in
theorem q_107 : Cond.initialized "java/lang/Math" ∈ mm_G := mm_q 31 rfl rfl
set_option maxRecDepth 100000 in
theorem q_108 : Cond.code Lib.Math.max.name Lib.Math.max.code 2 (some .int) ∈ mm_G := mm_q 245 rfl rfl
set_option maxRecDepth 100000 in
theorem q_109 : Cond.constant R_X 239 1000000 ∈ mm_G := mm_q 253 rfl rfl
set_option maxRecDepth 100000 in
theorem q_110 : Cond.methodLink R_Rule 3 objectInit ∈ mm_G := mm_q 258 rfl rfl
set_option maxRecDepth 100000 in
theorem q_111 : Cond.fieldLink R_Rule 9 R_Rule "failing" "Z" ∈ mm_G := mm_q 265 rfl rfl
set_option maxRecDepth 100000 in
theorem q_112 : Cond.fieldLink R_Rule 15 R_Rule "home" "I" ∈ mm_G := mm_q 259 rfl rfl
set_option maxRecDepth 100000 in
theorem q_113 : Cond.fieldLink R_Rule 19 R_Rule "kind" "I" ∈ mm_G := mm_q 261 rfl rfl
set_option maxRecDepth 100000 in
theorem q_114 : Cond.fieldLink R_Rule 22 R_Rule "does" "I" ∈ mm_G := mm_q 262 rfl rfl
set_option maxRecDepth 100000 in
theorem q_115 : Cond.fieldLink R_Rule 25 R_Rule "value" "I" ∈ mm_G := mm_q 264 rfl rfl
set_option maxRecDepth 100000 in
theorem q_116 : Cond.code y_X_isValueOf b_X_isValueOf 2 (some .boolean) ∈ mm_G := mm_q 252 rfl rfl
set_option maxRecDepth 100000 in
theorem q_117 : Cond.methodLink R_X 104 y_X_isValueOf ∈ mm_G := mm_q 250 rfl rfl
set_option maxRecDepth 100000 in
theorem q_118 : Cond.static y_X_isValueOf ∈ mm_G := mm_q 251 rfl rfl
set_option maxRecDepth 100000 in
theorem q_119 : Cond.instantiable R_Rule 5 ∈ mm_G := mm_q 254 rfl rfl
set_option maxRecDepth 100000 in
theorem q_120 : Cond.initialized R_Rule ∈ mm_G := mm_q 32 rfl rfl
set_option maxRecDepth 100000 in
theorem q_121 : Cond.code y_Rule_init b_Rule_init 5 none ∈ mm_G := mm_q 257 rfl rfl
set_option maxRecDepth 100000 in
theorem q_122 : Cond.methodLink R_X 107 y_Rule_init ∈ mm_G := mm_q 255 rfl rfl
set_option maxRecDepth 100000 in
theorem q_123 : Cond.instanceMethod y_Rule_init ∈ mm_G := mm_q 256 rfl rfl
set_option maxRecDepth 100000 in
theorem q_124 : Cond.code y_X_findRule b_X_findRule 2 (some (.object "LicenceRows2$Rule")) ∈ mm_G := mm_q 285 rfl rfl
set_option maxRecDepth 100000 in
theorem q_125 : Cond.methodLink R_X 110 y_X_findRule ∈ mm_G := mm_q 282 rfl rfl
set_option maxRecDepth 100000 in
theorem q_126 : Cond.instanceMethod y_X_findRule ∈ mm_G := mm_q 284 rfl rfl
set_option maxRecDepth 100000 in
theorem q_127 : Cond.selects R_X y_X_findRule y_X_findRule ∈ mm_G := mm_q 3 rfl rfl
set_option maxRecDepth 100000 in
theorem q_128 : Cond.fieldLink R_X 114 R_Rule "failing" "Z" ∈ mm_G := mm_q 266 rfl rfl
set_option maxRecDepth 100000 in
theorem q_129 : Cond.code y_X_isReader b_X_isReader 1 (some .boolean) ∈ mm_G := mm_q 292 rfl rfl
set_option maxRecDepth 100000 in
theorem q_130 : Cond.methodLink R_X 118 y_X_isReader ∈ mm_G := mm_q 290 rfl rfl
set_option maxRecDepth 100000 in
theorem q_131 : Cond.static y_X_isReader ∈ mm_G := mm_q 291 rfl rfl
set_option maxRecDepth 100000 in
theorem q_132 : Cond.fieldLink R_Pack 35 R_Line "size" "I" ∈ mm_G := mm_q 135 rfl rfl
set_option maxRecDepth 100000 in
theorem q_133 : Cond.code y_Line_placeOf b_Line_placeOf 3 (some .int) ∈ mm_G := mm_q 312 rfl rfl
set_option maxRecDepth 100000 in
theorem q_134 : Cond.methodLink R_Line 19 y_Line_placeOf ∈ mm_G := mm_q 309 rfl rfl
set_option maxRecDepth 100000 in
theorem q_135 : Cond.instanceMethod y_Line_placeOf ∈ mm_G := mm_q 311 rfl rfl
set_option maxRecDepth 100000 in
theorem q_136 : Cond.selects R_Line y_Line_placeOf y_Line_placeOf ∈ mm_G := mm_q 4 rfl rfl
set_option maxRecDepth 100000 in
theorem q_137 : Cond.code y_Pack_hasPlace b_Pack_hasPlace 1 (some .boolean) ∈ mm_G := mm_q 304 rfl rfl
set_option maxRecDepth 100000 in
theorem q_138 : Cond.methodLink R_Pack 38 y_Pack_hasPlace ∈ mm_G := mm_q 301 rfl rfl
set_option maxRecDepth 100000 in
theorem q_139 : Cond.instanceMethod y_Pack_hasPlace ∈ mm_G := mm_q 302 rfl rfl
set_option maxRecDepth 100000 in
theorem q_140 : Cond.selects R_Pack y_Pack_hasPlace y_Pack_hasPlace ∈ mm_G := mm_q 303 rfl rfl
set_option maxRecDepth 100000 in
theorem q_141 : Cond.fieldLink R_Pack 42 R_Line "readers" "[I" ∈ mm_G := mm_q 133 rfl rfl
set_option maxRecDepth 100000 in
theorem q_142 : Cond.code y_Line_drop b_Line_drop 4 (some .boolean) ∈ mm_G := mm_q 308 rfl rfl
set_option maxRecDepth 100000 in
theorem q_143 : Cond.methodLink R_Pack 46 y_Line_drop ∈ mm_G := mm_q 305 rfl rfl
set_option maxRecDepth 100000 in
theorem q_144 : Cond.instanceMethod y_Line_drop ∈ mm_G := mm_q 306 rfl rfl
set_option maxRecDepth 100000 in
theorem q_145 : Cond.selects R_Line y_Line_drop y_Line_drop ∈ mm_G := mm_q 307 rfl rfl
set_option maxRecDepth 100000 in
theorem q_146 : Cond.code y_Line_append b_Line_append 2 none ∈ mm_G := mm_q 316 rfl rfl
set_option maxRecDepth 100000 in
theorem q_147 : Cond.methodLink R_Pack 50 y_Line_append ∈ mm_G := mm_q 313 rfl rfl
set_option maxRecDepth 100000 in
theorem q_148 : Cond.instanceMethod y_Line_append ∈ mm_G := mm_q 314 rfl rfl
set_option maxRecDepth 100000 in
theorem q_149 : Cond.selects R_Line y_Line_append y_Line_append ∈ mm_G := mm_q 315 rfl rfl
set_option maxRecDepth 100000 in
theorem q_150 : Cond.code y_Pack_admitNext b_Pack_admitNext 2 (some .int) ∈ mm_G := mm_q 300 rfl rfl
set_option maxRecDepth 100000 in
theorem q_151 : Cond.methodLink R_X 124 y_Pack_admitNext ∈ mm_G := mm_q 297 rfl rfl
set_option maxRecDepth 100000 in
theorem q_152 : Cond.instanceMethod y_Pack_admitNext ∈ mm_G := mm_q 298 rfl rfl
set_option maxRecDepth 100000 in
theorem q_153 : Cond.selects R_Pack y_Pack_admitNext y_Pack_admitNext ∈ mm_G := mm_q 299 rfl rfl
set_option maxRecDepth 100000 in
theorem q_154 : Cond.fieldLink R_X 121 R_Pack "places" "I" ∈ mm_G := mm_q 150 rfl rfl
set_option maxRecDepth 100000 in
theorem q_155 : Cond.fieldLink R_X 128 R_Pack "inside" "LLicenceRows2$Line;" ∈ mm_G := mm_q 146 rfl rfl
set_option maxRecDepth 100000 in
theorem q_156 : Cond.code y_Line_holds b_Line_holds 2 (some .boolean) ∈ mm_G := mm_q 324 rfl rfl
set_option maxRecDepth 100000 in
theorem q_157 : Cond.methodLink R_X 132 y_Line_holds ∈ mm_G := mm_q 321 rfl rfl
set_option maxRecDepth 100000 in
theorem q_158 : Cond.instanceMethod y_Line_holds ∈ mm_G := mm_q 322 rfl rfl
set_option maxRecDepth 100000 in
theorem q_159 : Cond.selects R_Line y_Line_holds y_Line_holds ∈ mm_G := mm_q 323 rfl rfl
set_option maxRecDepth 100000 in
theorem q_160 : Cond.fieldLink R_X 137 R_Pack "waiting" "LLicenceRows2$Line;" ∈ mm_G := mm_q 148 rfl rfl
set_option maxRecDepth 100000 in
theorem q_161 : Cond.methodLink R_X 140 y_Pack_hasPlace ∈ mm_G := mm_q 325 rfl rfl
set_option maxRecDepth 100000 in
theorem q_162 : Cond.methodLink R_X 144 y_Line_append ∈ mm_G := mm_q 326 rfl rfl
set_option maxRecDepth 100000 in
theorem q_163 : Cond.methodLink R_X 148 y_Line_drop ∈ mm_G := mm_q 331 rfl rfl
set_option maxRecDepth 100000 in
theorem q_164 : Cond.fieldLink R_X 229 R_Rule "home" "I" ∈ mm_G := mm_q 260 rfl rfl
set_option maxRecDepth 100000 in
theorem q_165 : Cond.code y_Rule_fits b_Rule_fits 5 (some .boolean) ∈ mm_G := mm_q 368 rfl rfl
set_option maxRecDepth 100000 in
theorem q_166 : Cond.methodLink R_X 231 y_Rule_fits ∈ mm_G := mm_q 365 rfl rfl
set_option maxRecDepth 100000 in
theorem q_167 : Cond.instanceMethod y_Rule_fits ∈ mm_G := mm_q 366 rfl rfl
set_option maxRecDepth 100000 in
theorem q_168 : Cond.selects R_Rule y_Rule_fits y_Rule_fits ∈ mm_G := mm_q 367 rfl rfl
set_option maxRecDepth 100000 in
theorem q_169 : Cond.fieldLink R_X 235 R_Rule "does" "I" ∈ mm_G := mm_q 263 rfl rfl
set_option maxRecDepth 100000 in
theorem q_170 : Cond.code y_Notices_append b_Notices_append 3 none ∈ mm_G := mm_q 364 rfl rfl
set_option maxRecDepth 100000 in
theorem q_171 : Cond.methodLink R_X 161 y_Notices_append ∈ mm_G := mm_q 361 rfl rfl
set_option maxRecDepth 100000 in
theorem q_172 : Cond.instanceMethod y_Notices_append ∈ mm_G := mm_q 362 rfl rfl
set_option maxRecDepth 100000 in
theorem q_173 : Cond.selects R_Notices y_Notices_append y_Notices_append ∈ mm_G := mm_q 363 rfl rfl
set_option maxRecDepth 100000 in
theorem q_174 : Cond.methodLink R_X 155 y_X_monthOf ∈ mm_G := mm_q 352 rfl rfl
set_option maxRecDepth 100000 in
theorem q_175 : Cond.code y_Usages_ofReaderIn b_Usages_ofReaderIn 5 (some .int) ∈ mm_G := mm_q 360 rfl rfl
set_option maxRecDepth 100000 in
theorem q_176 : Cond.methodLink R_X 226 y_Usages_ofReaderIn ∈ mm_G := mm_q 357 rfl rfl
set_option maxRecDepth 100000 in
theorem q_177 : Cond.instanceMethod y_Usages_ofReaderIn ∈ mm_G := mm_q 358 rfl rfl
set_option maxRecDepth 100000 in
theorem q_178 : Cond.selects R_Usages y_Usages_ofReaderIn y_Usages_ofReaderIn ∈ mm_G := mm_q 359 rfl rfl
set_option maxRecDepth 100000 in
theorem q_179 : Cond.code y_Title_covers b_Title_covers 3 (some .boolean) ∈ mm_G := mm_q 351 rfl rfl
set_option maxRecDepth 100000 in
theorem q_180 : Cond.methodLink R_X 219 y_Title_covers ∈ mm_G := mm_q 348 rfl rfl
set_option maxRecDepth 100000 in
theorem q_181 : Cond.instanceMethod y_Title_covers ∈ mm_G := mm_q 349 rfl rfl
set_option maxRecDepth 100000 in
theorem q_182 : Cond.selects R_Title y_Title_covers y_Title_covers ∈ mm_G := mm_q 350 rfl rfl
set_option maxRecDepth 100000 in
theorem q_183 : Cond.code y_X_rulesAllow b_X_rulesAllow 7 (some .boolean) ∈ mm_G := mm_q 356 rfl rfl
set_option maxRecDepth 100000 in
theorem q_184 : Cond.methodLink R_X 222 y_X_rulesAllow ∈ mm_G := mm_q 353 rfl rfl
set_option maxRecDepth 100000 in
theorem q_185 : Cond.instanceMethod y_X_rulesAllow ∈ mm_G := mm_q 355 rfl rfl
set_option maxRecDepth 100000 in
theorem q_186 : Cond.selects R_X y_X_rulesAllow y_X_rulesAllow ∈ mm_G := mm_q 6 rfl rfl
set_option maxRecDepth 100000 in
theorem q_187 : Cond.fieldLink R_X 163 R_Title "active" "Z" ∈ mm_G := mm_q 188 rfl rfl
set_option maxRecDepth 100000 in
theorem q_188 : Cond.code y_Pack_hasEndedBy b_Pack_hasEndedBy 2 (some .boolean) ∈ mm_G := mm_q 343 rfl rfl
set_option maxRecDepth 100000 in
theorem q_189 : Cond.methodLink R_X 213 y_Pack_hasEndedBy ∈ mm_G := mm_q 340 rfl rfl
set_option maxRecDepth 100000 in
theorem q_190 : Cond.instanceMethod y_Pack_hasEndedBy ∈ mm_G := mm_q 341 rfl rfl
set_option maxRecDepth 100000 in
theorem q_191 : Cond.selects R_Pack y_Pack_hasEndedBy y_Pack_hasEndedBy ∈ mm_G := mm_q 342 rfl rfl
set_option maxRecDepth 100000 in
theorem q_192 : Cond.code y_Pack_keepsDay b_Pack_keepsDay 2 (some .boolean) ∈ mm_G := mm_q 347 rfl rfl
set_option maxRecDepth 100000 in
theorem q_193 : Cond.methodLink R_X 216 y_Pack_keepsDay ∈ mm_G := mm_q 344 rfl rfl
set_option maxRecDepth 100000 in
theorem q_194 : Cond.instanceMethod y_Pack_keepsDay ∈ mm_G := mm_q 345 rfl rfl
set_option maxRecDepth 100000 in
theorem q_195 : Cond.selects R_Pack y_Pack_keepsDay y_Pack_keepsDay ∈ mm_G := mm_q 346 rfl rfl
set_option maxRecDepth 100000 in
theorem q_196 : Cond.code y_X_judge b_X_judge 5 (some .int) ∈ mm_G := mm_q 339 rfl rfl
set_option maxRecDepth 100000 in
theorem q_197 : Cond.methodLink R_X 151 y_X_judge ∈ mm_G := mm_q 336 rfl rfl
set_option maxRecDepth 100000 in
theorem q_198 : Cond.instanceMethod y_X_judge ∈ mm_G := mm_q 338 rfl rfl
set_option maxRecDepth 100000 in
theorem q_199 : Cond.selects R_X y_X_judge y_X_judge ∈ mm_G := mm_q 5 rfl rfl
set_option maxRecDepth 100000 in
theorem q_200 : Cond.code y_Usages_append b_Usages_append 4 none ∈ mm_G := mm_q 372 rfl rfl
set_option maxRecDepth 100000 in
theorem q_201 : Cond.methodLink R_X 158 y_Usages_append ∈ mm_G := mm_q 369 rfl rfl
set_option maxRecDepth 100000 in
theorem q_202 : Cond.instanceMethod y_Usages_append ∈ mm_G := mm_q 370 rfl rfl
set_option maxRecDepth 100000 in
theorem q_203 : Cond.selects R_Usages y_Usages_append y_Usages_append ∈ mm_G := mm_q 371 rfl rfl
set_option maxRecDepth 100000 in
theorem q_204 : Cond.code y_Title_lastDay b_Title_lastDay 1 (some .int) ∈ mm_G := mm_q 392 rfl rfl
set_option maxRecDepth 100000 in
theorem q_205 : Cond.methodLink R_X 188 y_Title_lastDay ∈ mm_G := mm_q 389 rfl rfl
set_option maxRecDepth 100000 in
theorem q_206 : Cond.instanceMethod y_Title_lastDay ∈ mm_G := mm_q 390 rfl rfl
set_option maxRecDepth 100000 in
theorem q_207 : Cond.selects R_Title y_Title_lastDay y_Title_lastDay ∈ mm_G := mm_q 391 rfl rfl
set_option maxRecDepth 100000 in
theorem q_208 : Cond.fieldLink R_X 169 R_Pack "endDay" "I" ∈ mm_G := mm_q 152 rfl rfl
set_option maxRecDepth 100000 in
theorem q_209 : Cond.code y_X_countGoingOn b_X_countGoingOn 6 (some .int) ∈ mm_G := mm_q 388 rfl rfl
set_option maxRecDepth 100000 in
theorem q_210 : Cond.methodLink R_X 172 y_X_countGoingOn ∈ mm_G := mm_q 385 rfl rfl
set_option maxRecDepth 100000 in
theorem q_211 : Cond.instanceMethod y_X_countGoingOn ∈ mm_G := mm_q 387 rfl rfl
set_option maxRecDepth 100000 in
theorem q_212 : Cond.selects R_X y_X_countGoingOn y_X_countGoingOn ∈ mm_G := mm_q 7 rfl rfl
set_option maxRecDepth 100000 in
theorem q_213 : Cond.code y_Usages_ofTitle b_Usages_ofTitle 4 (some .int) ∈ mm_G := mm_q 400 rfl rfl
set_option maxRecDepth 100000 in
theorem q_214 : Cond.methodLink R_X 182 y_Usages_ofTitle ∈ mm_G := mm_q 397 rfl rfl
set_option maxRecDepth 100000 in
theorem q_215 : Cond.instanceMethod y_Usages_ofTitle ∈ mm_G := mm_q 398 rfl rfl
set_option maxRecDepth 100000 in
theorem q_216 : Cond.selects R_Usages y_Usages_ofTitle y_Usages_ofTitle ∈ mm_G := mm_q 399 rfl rfl
set_option maxRecDepth 100000 in
theorem q_217 : Cond.code y_Title_firstDay b_Title_firstDay 1 (some .int) ∈ mm_G := mm_q 404 rfl rfl
set_option maxRecDepth 100000 in
theorem q_218 : Cond.methodLink R_X 185 y_Title_firstDay ∈ mm_G := mm_q 401 rfl rfl
set_option maxRecDepth 100000 in
theorem q_219 : Cond.instanceMethod y_Title_firstDay ∈ mm_G := mm_q 402 rfl rfl
set_option maxRecDepth 100000 in
theorem q_220 : Cond.selects R_Title y_Title_firstDay y_Title_firstDay ∈ mm_G := mm_q 403 rfl rfl
set_option maxRecDepth 100000 in
theorem q_221 : Cond.fieldLink R_X 194 R_Title "from" "[I" ∈ mm_G := mm_q 192 rfl rfl
set_option maxRecDepth 100000 in
theorem q_222 : Cond.fieldLink R_X 191 R_Title "to" "[I" ∈ mm_G := mm_q 194 rfl rfl
set_option maxRecDepth 100000 in
theorem q_223 : Cond.code y_Usages_ofTitleIn b_Usages_ofTitleIn 5 (some .int) ∈ mm_G := mm_q 416 rfl rfl
set_option maxRecDepth 100000 in
theorem q_224 : Cond.methodLink R_X 197 y_Usages_ofTitleIn ∈ mm_G := mm_q 413 rfl rfl
set_option maxRecDepth 100000 in
theorem q_225 : Cond.instanceMethod y_Usages_ofTitleIn ∈ mm_G := mm_q 414 rfl rfl
set_option maxRecDepth 100000 in
theorem q_226 : Cond.selects R_Usages y_Usages_ofTitleIn y_Usages_ofTitleIn ∈ mm_G := mm_q 415 rfl rfl
set_option maxRecDepth 100000 in
theorem q_227 : Cond.fieldLink R_X 200 R_Notices "size" "I" ∈ mm_G := mm_q 78 rfl rfl
set_option maxRecDepth 100000 in
theorem q_228 : Cond.fieldLink R_X 206 R_Notices "numbers" "[I" ∈ mm_G := mm_q 76 rfl rfl
set_option maxRecDepth 100000 in
theorem q_229 : Cond.fieldLink R_X 203 R_Notices "sorts" "[I" ∈ mm_G := mm_q 74 rfl rfl
set_option maxRecDepth 100000 in
theorem q_230 : Cond.code y_Line_at b_Line_at 2 (some .int) ∈ mm_G := mm_q 428 rfl rfl
set_option maxRecDepth 100000 in
theorem q_231 : Cond.methodLink R_X 210 y_Line_at ∈ mm_G := mm_q 425 rfl rfl
set_option maxRecDepth 100000 in
theorem q_232 : Cond.instanceMethod y_Line_at ∈ mm_G := mm_q 426 rfl rfl
set_option maxRecDepth 100000 in
theorem q_233 : Cond.selects R_Line y_Line_at y_Line_at ∈ mm_G := mm_q 427 rfl rfl
set_option maxRecDepth 100000 in
theorem q_234 : Cond.fieldLink R_X 209 R_Line "size" "I" ∈ mm_G := mm_q 136 rfl rfl
set_option maxRecDepth 100000 in
theorem q_235 : Cond.methodLink R_Mo 1 objectInit ∈ mm_G := mm_q 434 rfl rfl
set_option maxRecDepth 100000 in
theorem q_236 : Cond.arrayClass .boolean ∈ mm_G := mm_q 532 rfl rfl
set_option maxRecDepth 100000 in
theorem q_237 : Cond.fieldLink R_Mo 7 R_Mo "keeps" "[Z" ∈ mm_G := mm_q 437 rfl rfl
set_option maxRecDepth 100000 in
theorem q_238 : Cond.fieldLink R_Mo 13 R_Mo "rooms" "[I" ∈ mm_G := mm_q 438 rfl rfl
set_option maxRecDepth 100000 in
theorem q_239 : Cond.fieldLink R_Mo 17 R_Mo "ends" "[I" ∈ mm_G := mm_q 439 rfl rfl
set_option maxRecDepth 100000 in
theorem q_240 : Cond.fieldLink R_Mo 20 R_Mo "inside" "[I" ∈ mm_G := mm_q 440 rfl rfl
set_option maxRecDepth 100000 in
theorem q_241 : Cond.fieldLink R_Mo 23 R_Mo "insider" "[I" ∈ mm_G := mm_q 441 rfl rfl
set_option maxRecDepth 100000 in
theorem q_242 : Cond.fieldLink R_Mo 26 R_Mo "waiting" "[I" ∈ mm_G := mm_q 442 rfl rfl
set_option maxRecDepth 100000 in
theorem q_243 : Cond.fieldLink R_Mo 29 R_Mo "waiter" "[I" ∈ mm_G := mm_q 443 rfl rfl
set_option maxRecDepth 100000 in
theorem q_244 : Cond.fieldLink R_Mo 32 R_Mo "packOf" "[I" ∈ mm_G := mm_q 445 rfl rfl
set_option maxRecDepth 100000 in
theorem q_245 : Cond.fieldLink R_Mo 35 R_Mo "name" "[I" ∈ mm_G := mm_q 446 rfl rfl
set_option maxRecDepth 100000 in
theorem q_246 : Cond.fieldLink R_Mo 38 R_Mo "off" "[Z" ∈ mm_G := mm_q 447 rfl rfl
set_option maxRecDepth 100000 in
theorem q_247 : Cond.fieldLink R_Mo 41 R_Mo "embargo" "[I" ∈ mm_G := mm_q 448 rfl rfl
set_option maxRecDepth 100000 in
theorem q_248 : Cond.fieldLink R_Mo 44 R_Mo "spans" "[I" ∈ mm_G := mm_q 449 rfl rfl
set_option maxRecDepth 100000 in
theorem q_249 : Cond.fieldLink R_Mo 47 R_Mo "from" "[I" ∈ mm_G := mm_q 450 rfl rfl
set_option maxRecDepth 100000 in
theorem q_250 : Cond.fieldLink R_Mo 50 R_Mo "to" "[I" ∈ mm_G := mm_q 451 rfl rfl
set_option maxRecDepth 100000 in
theorem q_251 : Cond.fieldLink R_Mo 53 R_Mo "rulePack" "[I" ∈ mm_G := mm_q 453 rfl rfl
set_option maxRecDepth 100000 in
theorem q_252 : Cond.fieldLink R_Mo 56 R_Mo "kind" "[I" ∈ mm_G := mm_q 454 rfl rfl
set_option maxRecDepth 100000 in
theorem q_253 : Cond.fieldLink R_Mo 59 R_Mo "does" "[I" ∈ mm_G := mm_q 455 rfl rfl
set_option maxRecDepth 100000 in
theorem q_254 : Cond.fieldLink R_Mo 62 R_Mo "value" "[I" ∈ mm_G := mm_q 456 rfl rfl
set_option maxRecDepth 100000 in
theorem q_255 : Cond.fieldLink R_Mo 65 R_Mo "bad" "[Z" ∈ mm_G := mm_q 457 rfl rfl
set_option maxRecDepth 100000 in
theorem q_256 : Cond.fieldLink R_Mo 68 R_Mo "failed" "I" ∈ mm_G := mm_q 458 rfl rfl
set_option maxRecDepth 100000 in
theorem q_257 : Cond.fieldLink R_Mo 72 R_Mo "classOf" "[I" ∈ mm_G := mm_q 459 rfl rfl
set_option maxRecDepth 100000 in
theorem q_258 : Cond.fieldLink R_Mo 75 R_Mo "usageReader" "[I" ∈ mm_G := mm_q 461 rfl rfl
set_option maxRecDepth 100000 in
theorem q_259 : Cond.fieldLink R_Mo 78 R_Mo "usageTitle" "[I" ∈ mm_G := mm_q 462 rfl rfl
set_option maxRecDepth 100000 in
theorem q_260 : Cond.fieldLink R_Mo 81 R_Mo "usageMonth" "[I" ∈ mm_G := mm_q 463 rfl rfl
set_option maxRecDepth 100000 in
theorem q_261 : Cond.fieldLink R_Mo 84 R_Mo "note" "[I" ∈ mm_G := mm_q 465 rfl rfl
set_option maxRecDepth 100000 in
theorem q_262 : Cond.fieldLink R_Mo 87 R_Mo "noteOf" "[I" ∈ mm_G := mm_q 466 rfl rfl
set_option maxRecDepth 100000 in
theorem q_263 : Cond.constant R_Mo 93 200000 ∈ mm_G := mm_q 563 rfl rfl
set_option maxRecDepth 100000 in
theorem q_264 : Cond.code y_Mo_in1 b_Mo_in1 3 (some .boolean) ∈ mm_G := mm_q 547 rfl rfl
set_option maxRecDepth 100000 in
theorem q_265 : Cond.methodLink R_Mo 94 y_Mo_in1 ∈ mm_G := mm_q 545 rfl rfl
set_option maxRecDepth 100000 in
theorem q_266 : Cond.static y_Mo_in1 ∈ mm_G := mm_q 546 rfl rfl
set_option maxRecDepth 100000 in
theorem q_267 : Cond.initialized R_Mo ∈ mm_G := mm_q 27 rfl rfl
set_option maxRecDepth 100000 in
theorem q_268 : Cond.fieldLink R_Mo 98 R_Mo "packs" "I" ∈ mm_G := mm_q 436 rfl rfl
set_option maxRecDepth 100000 in
theorem q_269 : Cond.fieldLink R_Mo 101 R_Mo "titles" "I" ∈ mm_G := mm_q 444 rfl rfl
set_option maxRecDepth 100000 in
theorem q_270 : Cond.fieldLink R_Mo 104 R_Mo "notes" "I" ∈ mm_G := mm_q 464 rfl rfl
set_option maxRecDepth 100000 in
theorem q_271 : Cond.fieldLink R_Mo 90 R_Mo "thrown" "I" ∈ mm_G := mm_q 435 rfl rfl
set_option maxRecDepth 100000 in
theorem q_272 : Cond.code y_Mo_isPack b_Mo_isPack 2 (some .boolean) ∈ mm_G := mm_q 544 rfl rfl
set_option maxRecDepth 100000 in
theorem q_273 : Cond.methodLink R_Mo 107 y_Mo_isPack ∈ mm_G := mm_q 541 rfl rfl
set_option maxRecDepth 100000 in
theorem q_274 : Cond.instanceMethod y_Mo_isPack ∈ mm_G := mm_q 543 rfl rfl
set_option maxRecDepth 100000 in
theorem q_275 : Cond.selects R_Mo y_Mo_isPack y_Mo_isPack ∈ mm_G := mm_q 8 rfl rfl
set_option maxRecDepth 100000 in
theorem q_276 : Cond.code y_Mo_find b_Mo_find 4 (some .int) ∈ mm_G := mm_q 551 rfl rfl
set_option maxRecDepth 100000 in
theorem q_277 : Cond.methodLink R_Mo 111 y_Mo_find ∈ mm_G := mm_q 548 rfl rfl
set_option maxRecDepth 100000 in
theorem q_278 : Cond.instanceMethod y_Mo_find ∈ mm_G := mm_q 550 rfl rfl
set_option maxRecDepth 100000 in
theorem q_279 : Cond.selects R_Mo y_Mo_find y_Mo_find ∈ mm_G := mm_q 9 rfl rfl
set_option maxRecDepth 100000 in
theorem q_280 : Cond.code y_Mo_isTitle b_Mo_isTitle 2 (some .boolean) ∈ mm_G := mm_q 559 rfl rfl
set_option maxRecDepth 100000 in
theorem q_281 : Cond.methodLink R_Mo 115 y_Mo_isTitle ∈ mm_G := mm_q 556 rfl rfl
set_option maxRecDepth 100000 in
theorem q_282 : Cond.instanceMethod y_Mo_isTitle ∈ mm_G := mm_q 558 rfl rfl
set_option maxRecDepth 100000 in
theorem q_283 : Cond.selects R_Mo y_Mo_isTitle y_Mo_isTitle ∈ mm_G := mm_q 10 rfl rfl
set_option maxRecDepth 100000 in
theorem q_284 : Cond.code y_Mo_isDay b_Mo_isDay 1 (some .boolean) ∈ mm_G := mm_q 562 rfl rfl
set_option maxRecDepth 100000 in
theorem q_285 : Cond.methodLink R_Mo 118 y_Mo_isDay ∈ mm_G := mm_q 560 rfl rfl
set_option maxRecDepth 100000 in
theorem q_286 : Cond.static y_Mo_isDay ∈ mm_G := mm_q 561 rfl rfl
set_option maxRecDepth 100000 in
theorem q_287 : Cond.fieldLink R_Mo 122 R_Mo "rules" "I" ∈ mm_G := mm_q 452 rfl rfl
set_option maxRecDepth 100000 in
theorem q_288 : Cond.constant R_Mo 121 1000000 ∈ mm_G := mm_q 572 rfl rfl
set_option maxRecDepth 100000 in
theorem q_289 : Cond.code y_Mo_dropWaiter b_Mo_dropWaiter 4 none ∈ mm_G := mm_q 592 rfl rfl
set_option maxRecDepth 100000 in
theorem q_290 : Cond.methodLink R_Mo 125 y_Mo_dropWaiter ∈ mm_G := mm_q 589 rfl rfl
set_option maxRecDepth 100000 in
theorem q_291 : Cond.instanceMethod y_Mo_dropWaiter ∈ mm_G := mm_q 591 rfl rfl
set_option maxRecDepth 100000 in
theorem q_292 : Cond.selects R_Mo y_Mo_dropWaiter y_Mo_dropWaiter ∈ mm_G := mm_q 12 rfl rfl
set_option maxRecDepth 100000 in
theorem q_293 : Cond.code y_Mo_enter b_Mo_enter 3 none ∈ mm_G := mm_q 596 rfl rfl
set_option maxRecDepth 100000 in
theorem q_294 : Cond.methodLink R_Mo 129 y_Mo_enter ∈ mm_G := mm_q 593 rfl rfl
set_option maxRecDepth 100000 in
theorem q_295 : Cond.instanceMethod y_Mo_enter ∈ mm_G := mm_q 595 rfl rfl
set_option maxRecDepth 100000 in
theorem q_296 : Cond.selects R_Mo y_Mo_enter y_Mo_enter ∈ mm_G := mm_q 13 rfl rfl
set_option maxRecDepth 100000 in
theorem q_297 : Cond.code y_Mo_admit b_Mo_admit 3 (some .int) ∈ mm_G := mm_q 588 rfl rfl
set_option maxRecDepth 100000 in
theorem q_298 : Cond.methodLink R_Mo 132 y_Mo_admit ∈ mm_G := mm_q 585 rfl rfl
set_option maxRecDepth 100000 in
theorem q_299 : Cond.instanceMethod y_Mo_admit ∈ mm_G := mm_q 587 rfl rfl
set_option maxRecDepth 100000 in
theorem q_300 : Cond.selects R_Mo y_Mo_admit y_Mo_admit ∈ mm_G := mm_q 11 rfl rfl
set_option maxRecDepth 100000 in
theorem q_301 : Cond.code y_Mo_placeIn b_Mo_placeIn 4 (some .int) ∈ mm_G := mm_q 604 rfl rfl
set_option maxRecDepth 100000 in
theorem q_302 : Cond.methodLink R_Mo 136 y_Mo_placeIn ∈ mm_G := mm_q 601 rfl rfl
set_option maxRecDepth 100000 in
theorem q_303 : Cond.instanceMethod y_Mo_placeIn ∈ mm_G := mm_q 603 rfl rfl
set_option maxRecDepth 100000 in
theorem q_304 : Cond.selects R_Mo y_Mo_placeIn y_Mo_placeIn ∈ mm_G := mm_q 14 rfl rfl
set_option maxRecDepth 100000 in
theorem q_305 : Cond.code y_Mo_placeWaiting b_Mo_placeWaiting 4 (some .int) ∈ mm_G := mm_q 608 rfl rfl
set_option maxRecDepth 100000 in
theorem q_306 : Cond.methodLink R_Mo 139 y_Mo_placeWaiting ∈ mm_G := mm_q 605 rfl rfl
set_option maxRecDepth 100000 in
theorem q_307 : Cond.instanceMethod y_Mo_placeWaiting ∈ mm_G := mm_q 607 rfl rfl
set_option maxRecDepth 100000 in
theorem q_308 : Cond.selects R_Mo y_Mo_placeWaiting y_Mo_placeWaiting ∈ mm_G := mm_q 15 rfl rfl
set_option maxRecDepth 100000 in
theorem q_309 : Cond.fieldLink R_Mo 142 R_Mo "usages" "I" ∈ mm_G := mm_q 460 rfl rfl
set_option maxRecDepth 100000 in
theorem q_310 : Cond.code y_Mo_usagesOf b_Mo_usagesOf 5 (some .int) ∈ mm_G := mm_q 636 rfl rfl
set_option maxRecDepth 100000 in
theorem q_311 : Cond.methodLink R_Mo 145 y_Mo_usagesOf ∈ mm_G := mm_q 633 rfl rfl
set_option maxRecDepth 100000 in
theorem q_312 : Cond.instanceMethod y_Mo_usagesOf ∈ mm_G := mm_q 635 rfl rfl
set_option maxRecDepth 100000 in
theorem q_313 : Cond.selects R_Mo y_Mo_usagesOf y_Mo_usagesOf ∈ mm_G := mm_q 20 rfl rfl
set_option maxRecDepth 100000 in
theorem q_314 : Cond.code y_Mo_fits b_Mo_fits 5 (some .boolean) ∈ mm_G := mm_q 632 rfl rfl
set_option maxRecDepth 100000 in
theorem q_315 : Cond.methodLink R_Mo 151 y_Mo_fits ∈ mm_G := mm_q 629 rfl rfl
set_option maxRecDepth 100000 in
theorem q_316 : Cond.instanceMethod y_Mo_fits ∈ mm_G := mm_q 631 rfl rfl
set_option maxRecDepth 100000 in
theorem q_317 : Cond.selects R_Mo y_Mo_fits y_Mo_fits ∈ mm_G := mm_q 19 rfl rfl
set_option maxRecDepth 100000 in
theorem q_318 : Cond.code y_Mo_tell b_Mo_tell 3 none ∈ mm_G := mm_q 628 rfl rfl
set_option maxRecDepth 100000 in
theorem q_319 : Cond.methodLink R_Mo 148 y_Mo_tell ∈ mm_G := mm_q 625 rfl rfl
set_option maxRecDepth 100000 in
theorem q_320 : Cond.instanceMethod y_Mo_tell ∈ mm_G := mm_q 627 rfl rfl
set_option maxRecDepth 100000 in
theorem q_321 : Cond.selects R_Mo y_Mo_tell y_Mo_tell ∈ mm_G := mm_q 18 rfl rfl
set_option maxRecDepth 100000 in
theorem q_322 : Cond.code y_Mo_covers b_Mo_covers 5 (some .boolean) ∈ mm_G := mm_q 620 rfl rfl
set_option maxRecDepth 100000 in
theorem q_323 : Cond.methodLink R_Mo 155 y_Mo_covers ∈ mm_G := mm_q 617 rfl rfl
set_option maxRecDepth 100000 in
theorem q_324 : Cond.instanceMethod y_Mo_covers ∈ mm_G := mm_q 619 rfl rfl
set_option maxRecDepth 100000 in
theorem q_325 : Cond.selects R_Mo y_Mo_covers y_Mo_covers ∈ mm_G := mm_q 16 rfl rfl
set_option maxRecDepth 100000 in
theorem q_326 : Cond.code y_Mo_allows b_Mo_allows 5 (some .boolean) ∈ mm_G := mm_q 624 rfl rfl
set_option maxRecDepth 100000 in
theorem q_327 : Cond.methodLink R_Mo 159 y_Mo_allows ∈ mm_G := mm_q 621 rfl rfl
set_option maxRecDepth 100000 in
theorem q_328 : Cond.instanceMethod y_Mo_allows ∈ mm_G := mm_q 623 rfl rfl
set_option maxRecDepth 100000 in
theorem q_329 : Cond.selects R_Mo y_Mo_allows y_Mo_allows ∈ mm_G := mm_q 17 rfl rfl
set_option maxRecDepth 100000 in
theorem q_330 : Cond.code y_Mo_bound b_Mo_bound 5 (some .int) ∈ mm_G := mm_q 652 rfl rfl
set_option maxRecDepth 100000 in
theorem q_331 : Cond.methodLink R_Mo 162 y_Mo_bound ∈ mm_G := mm_q 649 rfl rfl
set_option maxRecDepth 100000 in
theorem q_332 : Cond.instanceMethod y_Mo_bound ∈ mm_G := mm_q 651 rfl rfl
set_option maxRecDepth 100000 in
theorem q_333 : Cond.selects R_Mo y_Mo_bound y_Mo_bound ∈ mm_G := mm_q 21 rfl rfl
set_option maxRecDepth 100000 in
theorem q_334 : Cond.code y_Mo_nextSpan b_Mo_nextSpan 5 (some .int) ∈ mm_G := mm_q 664 rfl rfl
set_option maxRecDepth 100000 in
theorem q_335 : Cond.methodLink R_Mo 166 y_Mo_nextSpan ∈ mm_G := mm_q 661 rfl rfl
set_option maxRecDepth 100000 in
theorem q_336 : Cond.instanceMethod y_Mo_nextSpan ∈ mm_G := mm_q 663 rfl rfl
set_option maxRecDepth 100000 in
theorem q_337 : Cond.selects R_Mo y_Mo_nextSpan y_Mo_nextSpan ∈ mm_G := mm_q 22 rfl rfl
set_option maxRecDepth 100000 in
theorem q_338 : Cond.code y_X_title b_X_title 4 (some .int) ∈ mm_G := mm_q 169 rfl rfl
set_option maxRecDepth 100000 in
theorem q_339 : Cond.methodLink R_law 18 y_X_title ∈ mm_G := mm_q 166 rfl rfl
set_option maxRecDepth 100000 in
theorem q_340 : Cond.instanceMethod y_X_title ∈ mm_G := mm_q 167 rfl rfl
set_option maxRecDepth 100000 in
theorem q_341 : Cond.selects R_X y_X_title y_X_title ∈ mm_G := mm_q 168 rfl rfl
set_option maxRecDepth 100000 in
theorem q_342 : Cond.code y_Mo_title b_Mo_title 3 (some .int) ∈ mm_G := mm_q 540 rfl rfl
set_option maxRecDepth 100000 in
theorem q_343 : Cond.methodLink R_law 22 y_Mo_title ∈ mm_G := mm_q 537 rfl rfl
set_option maxRecDepth 100000 in
theorem q_344 : Cond.instanceMethod y_Mo_title ∈ mm_G := mm_q 538 rfl rfl
set_option maxRecDepth 100000 in
theorem q_345 : Cond.selects R_Mo y_Mo_title y_Mo_title ∈ mm_G := mm_q 539 rfl rfl
set_option maxRecDepth 100000 in
theorem q_346 : Cond.code y_X_cover b_X_cover 5 (some .int) ∈ mm_G := mm_q 215 rfl rfl
set_option maxRecDepth 100000 in
theorem q_347 : Cond.methodLink R_law 23 y_X_cover ∈ mm_G := mm_q 212 rfl rfl
set_option maxRecDepth 100000 in
theorem q_348 : Cond.instanceMethod y_X_cover ∈ mm_G := mm_q 213 rfl rfl
set_option maxRecDepth 100000 in
theorem q_349 : Cond.selects R_X y_X_cover y_X_cover ∈ mm_G := mm_q 214 rfl rfl
set_option maxRecDepth 100000 in
theorem q_350 : Cond.code y_Mo_cover b_Mo_cover 5 (some .int) ∈ mm_G := mm_q 555 rfl rfl
set_option maxRecDepth 100000 in
theorem q_351 : Cond.methodLink R_law 27 y_Mo_cover ∈ mm_G := mm_q 552 rfl rfl
set_option maxRecDepth 100000 in
theorem q_352 : Cond.instanceMethod y_Mo_cover ∈ mm_G := mm_q 553 rfl rfl
set_option maxRecDepth 100000 in
theorem q_353 : Cond.selects R_Mo y_Mo_cover y_Mo_cover ∈ mm_G := mm_q 554 rfl rfl
set_option maxRecDepth 100000 in
theorem q_354 : Cond.code y_X_embargo b_X_embargo 5 (some .int) ∈ mm_G := mm_q 235 rfl rfl
set_option maxRecDepth 100000 in
theorem q_355 : Cond.methodLink R_law 28 y_X_embargo ∈ mm_G := mm_q 232 rfl rfl
set_option maxRecDepth 100000 in
theorem q_356 : Cond.instanceMethod y_X_embargo ∈ mm_G := mm_q 233 rfl rfl
set_option maxRecDepth 100000 in
theorem q_357 : Cond.selects R_X y_X_embargo y_X_embargo ∈ mm_G := mm_q 234 rfl rfl
set_option maxRecDepth 100000 in
theorem q_358 : Cond.code y_Mo_embargo b_Mo_embargo 5 (some .int) ∈ mm_G := mm_q 567 rfl rfl
set_option maxRecDepth 100000 in
theorem q_359 : Cond.methodLink R_law 31 y_Mo_embargo ∈ mm_G := mm_q 564 rfl rfl
set_option maxRecDepth 100000 in
theorem q_360 : Cond.instanceMethod y_Mo_embargo ∈ mm_G := mm_q 565 rfl rfl
set_option maxRecDepth 100000 in
theorem q_361 : Cond.selects R_Mo y_Mo_embargo y_Mo_embargo ∈ mm_G := mm_q 566 rfl rfl
set_option maxRecDepth 100000 in
theorem q_362 : Cond.code y_X_rule b_X_rule 5 (some .int) ∈ mm_G := mm_q 249 rfl rfl
set_option maxRecDepth 100000 in
theorem q_363 : Cond.methodLink R_law 32 y_X_rule ∈ mm_G := mm_q 246 rfl rfl
set_option maxRecDepth 100000 in
theorem q_364 : Cond.instanceMethod y_X_rule ∈ mm_G := mm_q 247 rfl rfl
set_option maxRecDepth 100000 in
theorem q_365 : Cond.selects R_X y_X_rule y_X_rule ∈ mm_G := mm_q 248 rfl rfl
set_option maxRecDepth 100000 in
theorem q_366 : Cond.code y_Mo_rule b_Mo_rule 6 (some .int) ∈ mm_G := mm_q 571 rfl rfl
set_option maxRecDepth 100000 in
theorem q_367 : Cond.methodLink R_law 36 y_Mo_rule ∈ mm_G := mm_q 568 rfl rfl
set_option maxRecDepth 100000 in
theorem q_368 : Cond.instanceMethod y_Mo_rule ∈ mm_G := mm_q 569 rfl rfl
set_option maxRecDepth 100000 in
theorem q_369 : Cond.selects R_Mo y_Mo_rule y_Mo_rule ∈ mm_G := mm_q 570 rfl rfl
set_option maxRecDepth 100000 in
theorem q_370 : Cond.code y_X_reader b_X_reader 3 (some .int) ∈ mm_G := mm_q 289 rfl rfl
set_option maxRecDepth 100000 in
theorem q_371 : Cond.methodLink R_law 42 y_X_reader ∈ mm_G := mm_q 286 rfl rfl
set_option maxRecDepth 100000 in
theorem q_372 : Cond.instanceMethod y_X_reader ∈ mm_G := mm_q 287 rfl rfl
set_option maxRecDepth 100000 in
theorem q_373 : Cond.selects R_X y_X_reader y_X_reader ∈ mm_G := mm_q 288 rfl rfl
set_option maxRecDepth 100000 in
theorem q_374 : Cond.code y_Mo_reader b_Mo_reader 3 (some .int) ∈ mm_G := mm_q 580 rfl rfl
set_option maxRecDepth 100000 in
theorem q_375 : Cond.methodLink R_law 45 y_Mo_reader ∈ mm_G := mm_q 577 rfl rfl
set_option maxRecDepth 100000 in
theorem q_376 : Cond.instanceMethod y_Mo_reader ∈ mm_G := mm_q 578 rfl rfl
set_option maxRecDepth 100000 in
theorem q_377 : Cond.selects R_Mo y_Mo_reader y_Mo_reader ∈ mm_G := mm_q 579 rfl rfl
set_option maxRecDepth 100000 in
theorem q_378 : Cond.code y_X_room b_X_room 5 (some .int) ∈ mm_G := mm_q 296 rfl rfl
set_option maxRecDepth 100000 in
theorem q_379 : Cond.methodLink R_law 46 y_X_room ∈ mm_G := mm_q 293 rfl rfl
set_option maxRecDepth 100000 in
theorem q_380 : Cond.instanceMethod y_X_room ∈ mm_G := mm_q 294 rfl rfl
set_option maxRecDepth 100000 in
theorem q_381 : Cond.selects R_X y_X_room y_X_room ∈ mm_G := mm_q 295 rfl rfl
set_option maxRecDepth 100000 in
theorem q_382 : Cond.code y_Mo_room b_Mo_room 4 (some .int) ∈ mm_G := mm_q 584 rfl rfl
set_option maxRecDepth 100000 in
theorem q_383 : Cond.methodLink R_law 49 y_Mo_room ∈ mm_G := mm_q 581 rfl rfl
set_option maxRecDepth 100000 in
theorem q_384 : Cond.instanceMethod y_Mo_room ∈ mm_G := mm_q 582 rfl rfl
set_option maxRecDepth 100000 in
theorem q_385 : Cond.selects R_Mo y_Mo_room y_Mo_room ∈ mm_G := mm_q 583 rfl rfl
set_option maxRecDepth 100000 in
theorem q_386 : Cond.code y_X_in b_X_in 4 (some .int) ∈ mm_G := mm_q 320 rfl rfl
set_option maxRecDepth 100000 in
theorem q_387 : Cond.methodLink R_law 50 y_X_in ∈ mm_G := mm_q 317 rfl rfl
set_option maxRecDepth 100000 in
theorem q_388 : Cond.instanceMethod y_X_in ∈ mm_G := mm_q 318 rfl rfl
set_option maxRecDepth 100000 in
theorem q_389 : Cond.selects R_X y_X_in y_X_in ∈ mm_G := mm_q 319 rfl rfl
set_option maxRecDepth 100000 in
theorem q_390 : Cond.code y_Mo_in b_Mo_in 3 (some .int) ∈ mm_G := mm_q 600 rfl rfl
set_option maxRecDepth 100000 in
theorem q_391 : Cond.methodLink R_law 53 y_Mo_in ∈ mm_G := mm_q 597 rfl rfl
set_option maxRecDepth 100000 in
theorem q_392 : Cond.instanceMethod y_Mo_in ∈ mm_G := mm_q 598 rfl rfl
set_option maxRecDepth 100000 in
theorem q_393 : Cond.selects R_Mo y_Mo_in y_Mo_in ∈ mm_G := mm_q 599 rfl rfl
set_option maxRecDepth 100000 in
theorem q_394 : Cond.code y_X_out b_X_out 4 (some .int) ∈ mm_G := mm_q 330 rfl rfl
set_option maxRecDepth 100000 in
theorem q_395 : Cond.methodLink R_law 54 y_X_out ∈ mm_G := mm_q 327 rfl rfl
set_option maxRecDepth 100000 in
theorem q_396 : Cond.instanceMethod y_X_out ∈ mm_G := mm_q 328 rfl rfl
set_option maxRecDepth 100000 in
theorem q_397 : Cond.selects R_X y_X_out y_X_out ∈ mm_G := mm_q 329 rfl rfl
set_option maxRecDepth 100000 in
theorem q_398 : Cond.code y_Mo_out b_Mo_out 6 (some .int) ∈ mm_G := mm_q 612 rfl rfl
set_option maxRecDepth 100000 in
theorem q_399 : Cond.methodLink R_law 57 y_Mo_out ∈ mm_G := mm_q 609 rfl rfl
set_option maxRecDepth 100000 in
theorem q_400 : Cond.instanceMethod y_Mo_out ∈ mm_G := mm_q 610 rfl rfl
set_option maxRecDepth 100000 in
theorem q_401 : Cond.selects R_Mo y_Mo_out y_Mo_out ∈ mm_G := mm_q 611 rfl rfl
set_option maxRecDepth 100000 in
theorem q_402 : Cond.code y_X_access b_X_access 7 (some .int) ∈ mm_G := mm_q 335 rfl rfl
set_option maxRecDepth 100000 in
theorem q_403 : Cond.methodLink R_law 58 y_X_access ∈ mm_G := mm_q 332 rfl rfl
set_option maxRecDepth 100000 in
theorem q_404 : Cond.instanceMethod y_X_access ∈ mm_G := mm_q 333 rfl rfl
set_option maxRecDepth 100000 in
theorem q_405 : Cond.selects R_X y_X_access y_X_access ∈ mm_G := mm_q 334 rfl rfl
set_option maxRecDepth 100000 in
theorem q_406 : Cond.code y_Mo_access b_Mo_access 6 (some .int) ∈ mm_G := mm_q 616 rfl rfl
set_option maxRecDepth 100000 in
theorem q_407 : Cond.methodLink R_law 61 y_Mo_access ∈ mm_G := mm_q 613 rfl rfl
set_option maxRecDepth 100000 in
theorem q_408 : Cond.instanceMethod y_Mo_access ∈ mm_G := mm_q 614 rfl rfl
set_option maxRecDepth 100000 in
theorem q_409 : Cond.selects R_Mo y_Mo_access y_Mo_access ∈ mm_G := mm_q 615 rfl rfl
set_option maxRecDepth 100000 in
theorem q_410 : Cond.code y_X_failed b_X_failed 1 (some .int) ∈ mm_G := mm_q 376 rfl rfl
set_option maxRecDepth 100000 in
theorem q_411 : Cond.methodLink R_law 62 y_X_failed ∈ mm_G := mm_q 373 rfl rfl
set_option maxRecDepth 100000 in
theorem q_412 : Cond.instanceMethod y_X_failed ∈ mm_G := mm_q 374 rfl rfl
set_option maxRecDepth 100000 in
theorem q_413 : Cond.selects R_X y_X_failed y_X_failed ∈ mm_G := mm_q 375 rfl rfl
set_option maxRecDepth 100000 in
theorem q_414 : Cond.code y_Mo_failed b_Mo_failed 1 (some .int) ∈ mm_G := mm_q 640 rfl rfl
set_option maxRecDepth 100000 in
theorem q_415 : Cond.methodLink R_law 66 y_Mo_failed ∈ mm_G := mm_q 637 rfl rfl
set_option maxRecDepth 100000 in
theorem q_416 : Cond.instanceMethod y_Mo_failed ∈ mm_G := mm_q 638 rfl rfl
set_option maxRecDepth 100000 in
theorem q_417 : Cond.selects R_Mo y_Mo_failed y_Mo_failed ∈ mm_G := mm_q 639 rfl rfl
set_option maxRecDepth 100000 in
theorem q_418 : Cond.code y_X_provider b_X_provider 5 (some .int) ∈ mm_G := mm_q 380 rfl rfl
set_option maxRecDepth 100000 in
theorem q_419 : Cond.methodLink R_law 67 y_X_provider ∈ mm_G := mm_q 377 rfl rfl
set_option maxRecDepth 100000 in
theorem q_420 : Cond.instanceMethod y_X_provider ∈ mm_G := mm_q 378 rfl rfl
set_option maxRecDepth 100000 in
theorem q_421 : Cond.selects R_X y_X_provider y_X_provider ∈ mm_G := mm_q 379 rfl rfl
set_option maxRecDepth 100000 in
theorem q_422 : Cond.code y_Mo_provider b_Mo_provider 5 (some .int) ∈ mm_G := mm_q 644 rfl rfl
set_option maxRecDepth 100000 in
theorem q_423 : Cond.methodLink R_law 70 y_Mo_provider ∈ mm_G := mm_q 641 rfl rfl
set_option maxRecDepth 100000 in
theorem q_424 : Cond.instanceMethod y_Mo_provider ∈ mm_G := mm_q 642 rfl rfl
set_option maxRecDepth 100000 in
theorem q_425 : Cond.selects R_Mo y_Mo_provider y_Mo_provider ∈ mm_G := mm_q 643 rfl rfl
set_option maxRecDepth 100000 in
theorem q_426 : Cond.code y_X_end b_X_end 4 (some .int) ∈ mm_G := mm_q 384 rfl rfl
set_option maxRecDepth 100000 in
theorem q_427 : Cond.methodLink R_law 71 y_X_end ∈ mm_G := mm_q 381 rfl rfl
set_option maxRecDepth 100000 in
theorem q_428 : Cond.instanceMethod y_X_end ∈ mm_G := mm_q 382 rfl rfl
set_option maxRecDepth 100000 in
theorem q_429 : Cond.selects R_X y_X_end y_X_end ∈ mm_G := mm_q 383 rfl rfl
set_option maxRecDepth 100000 in
theorem q_430 : Cond.code y_Mo_end b_Mo_end 5 (some .int) ∈ mm_G := mm_q 648 rfl rfl
set_option maxRecDepth 100000 in
theorem q_431 : Cond.methodLink R_law 74 y_Mo_end ∈ mm_G := mm_q 645 rfl rfl
set_option maxRecDepth 100000 in
theorem q_432 : Cond.instanceMethod y_Mo_end ∈ mm_G := mm_q 646 rfl rfl
set_option maxRecDepth 100000 in
theorem q_433 : Cond.selects R_Mo y_Mo_end y_Mo_end ∈ mm_G := mm_q 647 rfl rfl
set_option maxRecDepth 100000 in
theorem q_434 : Cond.code y_X_about b_X_about 4 (some .int) ∈ mm_G := mm_q 396 rfl rfl
set_option maxRecDepth 100000 in
theorem q_435 : Cond.methodLink R_law 75 y_X_about ∈ mm_G := mm_q 393 rfl rfl
set_option maxRecDepth 100000 in
theorem q_436 : Cond.instanceMethod y_X_about ∈ mm_G := mm_q 394 rfl rfl
set_option maxRecDepth 100000 in
theorem q_437 : Cond.selects R_X y_X_about y_X_about ∈ mm_G := mm_q 395 rfl rfl
set_option maxRecDepth 100000 in
theorem q_438 : Cond.code y_Mo_about b_Mo_about 5 (some .int) ∈ mm_G := mm_q 656 rfl rfl
set_option maxRecDepth 100000 in
theorem q_439 : Cond.methodLink R_law 78 y_Mo_about ∈ mm_G := mm_q 653 rfl rfl
set_option maxRecDepth 100000 in
theorem q_440 : Cond.instanceMethod y_Mo_about ∈ mm_G := mm_q 654 rfl rfl
set_option maxRecDepth 100000 in
theorem q_441 : Cond.selects R_Mo y_Mo_about y_Mo_about ∈ mm_G := mm_q 655 rfl rfl
set_option maxRecDepth 100000 in
theorem q_442 : Cond.code y_X_gap b_X_gap 5 (some .int) ∈ mm_G := mm_q 408 rfl rfl
set_option maxRecDepth 100000 in
theorem q_443 : Cond.methodLink R_law 79 y_X_gap ∈ mm_G := mm_q 405 rfl rfl
set_option maxRecDepth 100000 in
theorem q_444 : Cond.instanceMethod y_X_gap ∈ mm_G := mm_q 406 rfl rfl
set_option maxRecDepth 100000 in
theorem q_445 : Cond.selects R_X y_X_gap y_X_gap ∈ mm_G := mm_q 407 rfl rfl
set_option maxRecDepth 100000 in
theorem q_446 : Cond.code y_Mo_gap b_Mo_gap 6 (some .int) ∈ mm_G := mm_q 660 rfl rfl
set_option maxRecDepth 100000 in
theorem q_447 : Cond.methodLink R_law 82 y_Mo_gap ∈ mm_G := mm_q 657 rfl rfl
set_option maxRecDepth 100000 in
theorem q_448 : Cond.instanceMethod y_Mo_gap ∈ mm_G := mm_q 658 rfl rfl
set_option maxRecDepth 100000 in
theorem q_449 : Cond.selects R_Mo y_Mo_gap y_Mo_gap ∈ mm_G := mm_q 659 rfl rfl
set_option maxRecDepth 100000 in
theorem q_450 : Cond.code y_X_usage b_X_usage 3 (some .int) ∈ mm_G := mm_q 412 rfl rfl
set_option maxRecDepth 100000 in
theorem q_451 : Cond.methodLink R_law 83 y_X_usage ∈ mm_G := mm_q 409 rfl rfl
set_option maxRecDepth 100000 in
theorem q_452 : Cond.instanceMethod y_X_usage ∈ mm_G := mm_q 410 rfl rfl
set_option maxRecDepth 100000 in
theorem q_453 : Cond.selects R_X y_X_usage y_X_usage ∈ mm_G := mm_q 411 rfl rfl
set_option maxRecDepth 100000 in
theorem q_454 : Cond.code y_Mo_usage b_Mo_usage 5 (some .int) ∈ mm_G := mm_q 668 rfl rfl
set_option maxRecDepth 100000 in
theorem q_455 : Cond.methodLink R_law 86 y_Mo_usage ∈ mm_G := mm_q 665 rfl rfl
set_option maxRecDepth 100000 in
theorem q_456 : Cond.instanceMethod y_Mo_usage ∈ mm_G := mm_q 666 rfl rfl
set_option maxRecDepth 100000 in
theorem q_457 : Cond.selects R_Mo y_Mo_usage y_Mo_usage ∈ mm_G := mm_q 667 rfl rfl
set_option maxRecDepth 100000 in
theorem q_458 : Cond.code y_X_told b_X_told 3 (some .int) ∈ mm_G := mm_q 420 rfl rfl
set_option maxRecDepth 100000 in
theorem q_459 : Cond.methodLink R_law 87 y_X_told ∈ mm_G := mm_q 417 rfl rfl
set_option maxRecDepth 100000 in
theorem q_460 : Cond.instanceMethod y_X_told ∈ mm_G := mm_q 418 rfl rfl
set_option maxRecDepth 100000 in
theorem q_461 : Cond.selects R_X y_X_told y_X_told ∈ mm_G := mm_q 419 rfl rfl
set_option maxRecDepth 100000 in
theorem q_462 : Cond.code y_Mo_told b_Mo_told 3 (some .int) ∈ mm_G := mm_q 672 rfl rfl
set_option maxRecDepth 100000 in
theorem q_463 : Cond.methodLink R_law 90 y_Mo_told ∈ mm_G := mm_q 669 rfl rfl
set_option maxRecDepth 100000 in
theorem q_464 : Cond.instanceMethod y_Mo_told ∈ mm_G := mm_q 670 rfl rfl
set_option maxRecDepth 100000 in
theorem q_465 : Cond.selects R_Mo y_Mo_told y_Mo_told ∈ mm_G := mm_q 671 rfl rfl
set_option maxRecDepth 100000 in
theorem q_466 : Cond.code y_X_who b_X_who 5 (some .int) ∈ mm_G := mm_q 424 rfl rfl
set_option maxRecDepth 100000 in
theorem q_467 : Cond.methodLink R_law 91 y_X_who ∈ mm_G := mm_q 421 rfl rfl
set_option maxRecDepth 100000 in
theorem q_468 : Cond.instanceMethod y_X_who ∈ mm_G := mm_q 422 rfl rfl
set_option maxRecDepth 100000 in
theorem q_469 : Cond.selects R_X y_X_who y_X_who ∈ mm_G := mm_q 423 rfl rfl
set_option maxRecDepth 100000 in
theorem q_470 : Cond.code y_Mo_who b_Mo_who 4 (some .int) ∈ mm_G := mm_q 676 rfl rfl
set_option maxRecDepth 100000 in
theorem q_471 : Cond.methodLink R_law 94 y_Mo_who ∈ mm_G := mm_q 673 rfl rfl
set_option maxRecDepth 100000 in
theorem q_472 : Cond.instanceMethod y_Mo_who ∈ mm_G := mm_q 674 rfl rfl
set_option maxRecDepth 100000 in
theorem q_473 : Cond.selects R_Mo y_Mo_who y_Mo_who ∈ mm_G := mm_q 675 rfl rfl
set_option maxRecDepth 100000 in
theorem q_474 : Cond.code y_X_pack b_X_pack 2 (some .int) ∈ mm_G := mm_q 120 rfl rfl
set_option maxRecDepth 100000 in
theorem q_475 : Cond.methodLink R_law 13 y_X_pack ∈ mm_G := mm_q 117 rfl rfl
set_option maxRecDepth 100000 in
theorem q_476 : Cond.instanceMethod y_X_pack ∈ mm_G := mm_q 118 rfl rfl
set_option maxRecDepth 100000 in
theorem q_477 : Cond.selects R_X y_X_pack y_X_pack ∈ mm_G := mm_q 119 rfl rfl
set_option maxRecDepth 100000 in
theorem q_478 : Cond.code y_Mo_pack b_Mo_pack 2 (some .int) ∈ mm_G := mm_q 536 rfl rfl
set_option maxRecDepth 100000 in
theorem q_479 : Cond.methodLink R_law 17 y_Mo_pack ∈ mm_G := mm_q 533 rfl rfl
set_option maxRecDepth 100000 in
theorem q_480 : Cond.instanceMethod y_Mo_pack ∈ mm_G := mm_q 534 rfl rfl
set_option maxRecDepth 100000 in
theorem q_481 : Cond.selects R_Mo y_Mo_pack y_Mo_pack ∈ mm_G := mm_q 535 rfl rfl
set_option maxRecDepth 100000 in
theorem q_482 : Cond.code y_X_fails b_X_fails 4 (some .int) ∈ mm_G := mm_q 281 rfl rfl
set_option maxRecDepth 100000 in
theorem q_483 : Cond.methodLink R_law 37 y_X_fails ∈ mm_G := mm_q 278 rfl rfl
set_option maxRecDepth 100000 in
theorem q_484 : Cond.instanceMethod y_X_fails ∈ mm_G := mm_q 279 rfl rfl
set_option maxRecDepth 100000 in
theorem q_485 : Cond.selects R_X y_X_fails y_X_fails ∈ mm_G := mm_q 280 rfl rfl
set_option maxRecDepth 100000 in
theorem q_486 : Cond.code y_Mo_fails b_Mo_fails 3 (some .int) ∈ mm_G := mm_q 576 rfl rfl
set_option maxRecDepth 100000 in
theorem q_487 : Cond.methodLink R_law 41 y_Mo_fails ∈ mm_G := mm_q 573 rfl rfl
set_option maxRecDepth 100000 in
theorem q_488 : Cond.instanceMethod y_Mo_fails ∈ mm_G := mm_q 574 rfl rfl
set_option maxRecDepth 100000 in
theorem q_489 : Cond.selects R_Mo y_Mo_fails y_Mo_fails ∈ mm_G := mm_q 575 rfl rfl
set_option maxRecDepth 100000 in
theorem q_490 : Cond.classLink R_law 7 R_X ∈ mm_G := mm_q 33 rfl rfl
set_option maxRecDepth 100000 in
theorem q_491 : Cond.instantiable R_X 10 ∈ mm_G := mm_q 34 rfl rfl
set_option maxRecDepth 100000 in
theorem q_492 : Cond.code y_X_init b_X_init 1 none ∈ mm_G := mm_q 37 rfl rfl
set_option maxRecDepth 100000 in
theorem q_493 : Cond.methodLink R_law 9 y_X_init ∈ mm_G := mm_q 35 rfl rfl
set_option maxRecDepth 100000 in
theorem q_494 : Cond.instanceMethod y_X_init ∈ mm_G := mm_q 36 rfl rfl
set_option maxRecDepth 100000 in
theorem q_495 : Cond.classLink R_law 10 R_Mo ∈ mm_G := mm_q 429 rfl rfl
set_option maxRecDepth 100000 in
theorem q_496 : Cond.instantiable R_Mo 32 ∈ mm_G := mm_q 430 rfl rfl
set_option maxRecDepth 100000 in
theorem q_497 : Cond.code y_Mo_init b_Mo_init 1 none ∈ mm_G := mm_q 433 rfl rfl
set_option maxRecDepth 100000 in
theorem q_498 : Cond.methodLink R_law 12 y_Mo_init ∈ mm_G := mm_q 431 rfl rfl
set_option maxRecDepth 100000 in
theorem q_499 : Cond.instanceMethod y_Mo_init ∈ mm_G := mm_q 432 rfl rfl
set_option maxRecDepth 100000 in
theorem q_500 : Cond.laysFinal R_X R_X "packs" "[LLicenceRows2$Pack;" ∈ mm_G := mm_q 96 rfl rfl
set_option maxRecDepth 100000 in
theorem q_501 : Cond.lays R_X R_X "packCount" "I" ∈ mm_G := mm_q 98 rfl rfl
set_option maxRecDepth 100000 in
theorem q_502 : Cond.laysFinal R_X R_X "titles" "[LLicenceRows2$Title;" ∈ mm_G := mm_q 100 rfl rfl
set_option maxRecDepth 100000 in
theorem q_503 : Cond.lays R_X R_X "titleCount" "I" ∈ mm_G := mm_q 102 rfl rfl
set_option maxRecDepth 100000 in
theorem q_504 : Cond.laysFinal R_X R_X "rules" "[LLicenceRows2$Rule;" ∈ mm_G := mm_q 104 rfl rfl
set_option maxRecDepth 100000 in
theorem q_505 : Cond.lays R_X R_X "ruleCount" "I" ∈ mm_G := mm_q 106 rfl rfl
set_option maxRecDepth 100000 in
theorem q_506 : Cond.laysFinal R_X R_X "classOf" "[I" ∈ mm_G := mm_q 108 rfl rfl
set_option maxRecDepth 100000 in
theorem q_507 : Cond.laysFinal R_X R_X "usages" "LLicenceRows2$Usages;" ∈ mm_G := mm_q 110 rfl rfl
set_option maxRecDepth 100000 in
theorem q_508 : Cond.laysFinal R_X R_X "notices" "LLicenceRows2$Notices;" ∈ mm_G := mm_q 112 rfl rfl
set_option maxRecDepth 100000 in
theorem q_509 : Cond.lays R_X R_X "latestFailed" "I" ∈ mm_G := mm_q 114 rfl rfl
set_option maxRecDepth 100000 in
theorem q_510 : Cond.lays R_Mo R_Mo "thrown" "I" ∈ mm_G := mm_q 467 rfl rfl
set_option maxRecDepth 100000 in
theorem q_511 : Cond.lays R_Mo R_Mo "packs" "I" ∈ mm_G := mm_q 469 rfl rfl
set_option maxRecDepth 100000 in
theorem q_512 : Cond.laysFinal R_Mo R_Mo "keeps" "[Z" ∈ mm_G := mm_q 471 rfl rfl
set_option maxRecDepth 100000 in
theorem q_513 : Cond.laysFinal R_Mo R_Mo "rooms" "[I" ∈ mm_G := mm_q 473 rfl rfl
set_option maxRecDepth 100000 in
theorem q_514 : Cond.laysFinal R_Mo R_Mo "ends" "[I" ∈ mm_G := mm_q 475 rfl rfl
set_option maxRecDepth 100000 in
theorem q_515 : Cond.laysFinal R_Mo R_Mo "inside" "[I" ∈ mm_G := mm_q 477 rfl rfl
set_option maxRecDepth 100000 in
theorem q_516 : Cond.laysFinal R_Mo R_Mo "insider" "[I" ∈ mm_G := mm_q 479 rfl rfl
set_option maxRecDepth 100000 in
theorem q_517 : Cond.laysFinal R_Mo R_Mo "waiting" "[I" ∈ mm_G := mm_q 481 rfl rfl
set_option maxRecDepth 100000 in
theorem q_518 : Cond.laysFinal R_Mo R_Mo "waiter" "[I" ∈ mm_G := mm_q 483 rfl rfl
set_option maxRecDepth 100000 in
theorem q_519 : Cond.lays R_Mo R_Mo "titles" "I" ∈ mm_G := mm_q 485 rfl rfl
set_option maxRecDepth 100000 in
theorem q_520 : Cond.laysFinal R_Mo R_Mo "packOf" "[I" ∈ mm_G := mm_q 487 rfl rfl
set_option maxRecDepth 100000 in
theorem q_521 : Cond.laysFinal R_Mo R_Mo "name" "[I" ∈ mm_G := mm_q 489 rfl rfl
set_option maxRecDepth 100000 in
theorem q_522 : Cond.laysFinal R_Mo R_Mo "off" "[Z" ∈ mm_G := mm_q 491 rfl rfl
set_option maxRecDepth 100000 in
theorem q_523 : Cond.laysFinal R_Mo R_Mo "embargo" "[I" ∈ mm_G := mm_q 493 rfl rfl
set_option maxRecDepth 100000 in
theorem q_524 : Cond.laysFinal R_Mo R_Mo "spans" "[I" ∈ mm_G := mm_q 495 rfl rfl
set_option maxRecDepth 100000 in
theorem q_525 : Cond.laysFinal R_Mo R_Mo "from" "[I" ∈ mm_G := mm_q 497 rfl rfl
set_option maxRecDepth 100000 in
theorem q_526 : Cond.laysFinal R_Mo R_Mo "to" "[I" ∈ mm_G := mm_q 499 rfl rfl
set_option maxRecDepth 100000 in
theorem q_527 : Cond.lays R_Mo R_Mo "rules" "I" ∈ mm_G := mm_q 501 rfl rfl
set_option maxRecDepth 100000 in
theorem q_528 : Cond.laysFinal R_Mo R_Mo "rulePack" "[I" ∈ mm_G := mm_q 503 rfl rfl
set_option maxRecDepth 100000 in
theorem q_529 : Cond.laysFinal R_Mo R_Mo "kind" "[I" ∈ mm_G := mm_q 505 rfl rfl
set_option maxRecDepth 100000 in
theorem q_530 : Cond.laysFinal R_Mo R_Mo "does" "[I" ∈ mm_G := mm_q 507 rfl rfl
set_option maxRecDepth 100000 in
theorem q_531 : Cond.laysFinal R_Mo R_Mo "value" "[I" ∈ mm_G := mm_q 509 rfl rfl
set_option maxRecDepth 100000 in
theorem q_532 : Cond.laysFinal R_Mo R_Mo "bad" "[Z" ∈ mm_G := mm_q 511 rfl rfl
set_option maxRecDepth 100000 in
theorem q_533 : Cond.lays R_Mo R_Mo "failed" "I" ∈ mm_G := mm_q 513 rfl rfl
set_option maxRecDepth 100000 in
theorem q_534 : Cond.laysFinal R_Mo R_Mo "classOf" "[I" ∈ mm_G := mm_q 515 rfl rfl
set_option maxRecDepth 100000 in
theorem q_535 : Cond.lays R_Mo R_Mo "usages" "I" ∈ mm_G := mm_q 517 rfl rfl
set_option maxRecDepth 100000 in
theorem q_536 : Cond.laysFinal R_Mo R_Mo "usageReader" "[I" ∈ mm_G := mm_q 519 rfl rfl
set_option maxRecDepth 100000 in
theorem q_537 : Cond.laysFinal R_Mo R_Mo "usageTitle" "[I" ∈ mm_G := mm_q 521 rfl rfl
set_option maxRecDepth 100000 in
theorem q_538 : Cond.laysFinal R_Mo R_Mo "usageMonth" "[I" ∈ mm_G := mm_q 523 rfl rfl
set_option maxRecDepth 100000 in
theorem q_539 : Cond.lays R_Mo R_Mo "notes" "I" ∈ mm_G := mm_q 525 rfl rfl
set_option maxRecDepth 100000 in
theorem q_540 : Cond.laysFinal R_Mo R_Mo "note" "[I" ∈ mm_G := mm_q 527 rfl rfl
set_option maxRecDepth 100000 in
theorem q_541 : Cond.laysFinal R_Mo R_Mo "noteOf" "[I" ∈ mm_G := mm_q 529 rfl rfl
set_option maxRecDepth 100000 in
theorem q_542 : Cond.laysFinal R_Line R_Line "readers" "[I" ∈ mm_G := mm_q 137 rfl rfl
set_option maxRecDepth 100000 in
theorem q_543 : Cond.lays R_Line R_Line "size" "I" ∈ mm_G := mm_q 139 rfl rfl
set_option maxRecDepth 100000 in
theorem q_544 : Cond.laysFinal R_Notices R_Notices "sorts" "[I" ∈ mm_G := mm_q 79 rfl rfl
set_option maxRecDepth 100000 in
theorem q_545 : Cond.laysFinal R_Notices R_Notices "numbers" "[I" ∈ mm_G := mm_q 81 rfl rfl
set_option maxRecDepth 100000 in
theorem q_546 : Cond.lays R_Notices R_Notices "size" "I" ∈ mm_G := mm_q 83 rfl rfl
set_option maxRecDepth 100000 in
theorem q_547 : Cond.laysFinal R_Pack R_Pack "number" "I" ∈ mm_G := mm_q 153 rfl rfl
set_option maxRecDepth 100000 in
theorem q_548 : Cond.laysFinal R_Pack R_Pack "keeps" "Z" ∈ mm_G := mm_q 155 rfl rfl
set_option maxRecDepth 100000 in
theorem q_549 : Cond.laysFinal R_Pack R_Pack "inside" "LLicenceRows2$Line;" ∈ mm_G := mm_q 157 rfl rfl
set_option maxRecDepth 100000 in
theorem q_550 : Cond.laysFinal R_Pack R_Pack "waiting" "LLicenceRows2$Line;" ∈ mm_G := mm_q 159 rfl rfl
set_option maxRecDepth 100000 in
theorem q_551 : Cond.lays R_Pack R_Pack "places" "I" ∈ mm_G := mm_q 161 rfl rfl
set_option maxRecDepth 100000 in
theorem q_552 : Cond.lays R_Pack R_Pack "endDay" "I" ∈ mm_G := mm_q 163 rfl rfl
set_option maxRecDepth 100000 in
theorem q_553 : Cond.laysFinal R_Rule R_Rule "home" "I" ∈ mm_G := mm_q 267 rfl rfl
set_option maxRecDepth 100000 in
theorem q_554 : Cond.laysFinal R_Rule R_Rule "kind" "I" ∈ mm_G := mm_q 269 rfl rfl
set_option maxRecDepth 100000 in
theorem q_555 : Cond.laysFinal R_Rule R_Rule "does" "I" ∈ mm_G := mm_q 271 rfl rfl
set_option maxRecDepth 100000 in
theorem q_556 : Cond.laysFinal R_Rule R_Rule "value" "I" ∈ mm_G := mm_q 273 rfl rfl
set_option maxRecDepth 100000 in
theorem q_557 : Cond.lays R_Rule R_Rule "failing" "Z" ∈ mm_G := mm_q 275 rfl rfl
set_option maxRecDepth 100000 in
theorem q_558 : Cond.laysFinal R_Title R_Title "home" "LLicenceRows2$Pack;" ∈ mm_G := mm_q 197 rfl rfl
set_option maxRecDepth 100000 in
theorem q_559 : Cond.lays R_Title R_Title "name" "I" ∈ mm_G := mm_q 199 rfl rfl
set_option maxRecDepth 100000 in
theorem q_560 : Cond.lays R_Title R_Title "active" "Z" ∈ mm_G := mm_q 201 rfl rfl
set_option maxRecDepth 100000 in
theorem q_561 : Cond.lays R_Title R_Title "months" "I" ∈ mm_G := mm_q 203 rfl rfl
set_option maxRecDepth 100000 in
theorem q_562 : Cond.laysFinal R_Title R_Title "from" "[I" ∈ mm_G := mm_q 205 rfl rfl
set_option maxRecDepth 100000 in
theorem q_563 : Cond.laysFinal R_Title R_Title "to" "[I" ∈ mm_G := mm_q 207 rfl rfl
set_option maxRecDepth 100000 in
theorem q_564 : Cond.lays R_Title R_Title "spans" "I" ∈ mm_G := mm_q 209 rfl rfl
set_option maxRecDepth 100000 in
theorem q_565 : Cond.laysFinal R_Usages R_Usages "readers" "[I" ∈ mm_G := mm_q 57 rfl rfl
set_option maxRecDepth 100000 in
theorem q_566 : Cond.laysFinal R_Usages R_Usages "titles" "[I" ∈ mm_G := mm_q 59 rfl rfl
set_option maxRecDepth 100000 in
theorem q_567 : Cond.laysFinal R_Usages R_Usages "months" "[I" ∈ mm_G := mm_q 61 rfl rfl
set_option maxRecDepth 100000 in
theorem q_568 : Cond.lays R_Usages R_Usages "size" "I" ∈ mm_G := mm_q 63 rfl rfl
theorem i_X : ∀ w ∈ u_ws R_X F_X 10, w ∈ mm_G := by
  intro w hw
  obtain ⟨k, hk, rfl⟩ := List.mem_map.mp hw
  have hk := List.mem_range.mp hk
  match k, hk with
  | 0, _ => exact q_500
  | 1, _ => exact q_501
  | 2, _ => exact q_502
  | 3, _ => exact q_503
  | 4, _ => exact q_504
  | 5, _ => exact q_505
  | 6, _ => exact q_506
  | 7, _ => exact q_507
  | 8, _ => exact q_508
  | 9, _ => exact q_509
  | n + 10, hk => omega
theorem i_Mo : ∀ w ∈ u_ws R_Mo F_Mo 32, w ∈ mm_G := by
  intro w hw
  obtain ⟨k, hk, rfl⟩ := List.mem_map.mp hw
  have hk := List.mem_range.mp hk
  match k, hk with
  | 0, _ => exact q_510
  | 1, _ => exact q_511
  | 2, _ => exact q_512
  | 3, _ => exact q_513
  | 4, _ => exact q_514
  | 5, _ => exact q_515
  | 6, _ => exact q_516
  | 7, _ => exact q_517
  | 8, _ => exact q_518
  | 9, _ => exact q_519
  | 10, _ => exact q_520
  | 11, _ => exact q_521
  | 12, _ => exact q_522
  | 13, _ => exact q_523
  | 14, _ => exact q_524
  | 15, _ => exact q_525
  | 16, _ => exact q_526
  | 17, _ => exact q_527
  | 18, _ => exact q_528
  | 19, _ => exact q_529
  | 20, _ => exact q_530
  | 21, _ => exact q_531
  | 22, _ => exact q_532
  | 23, _ => exact q_533
  | 24, _ => exact q_534
  | 25, _ => exact q_535
  | 26, _ => exact q_536
  | 27, _ => exact q_537
  | 28, _ => exact q_538
  | 29, _ => exact q_539
  | 30, _ => exact q_540
  | 31, _ => exact q_541
  | n + 32, hk => omega
theorem i_Line : ∀ w ∈ u_ws R_Line F_Line 2, w ∈ mm_G := by
  intro w hw
  obtain ⟨k, hk, rfl⟩ := List.mem_map.mp hw
  have hk := List.mem_range.mp hk
  match k, hk with
  | 0, _ => exact q_542
  | 1, _ => exact q_543
  | n + 2, hk => omega
theorem i_Notices : ∀ w ∈ u_ws R_Notices F_Notices 3, w ∈ mm_G := by
  intro w hw
  obtain ⟨k, hk, rfl⟩ := List.mem_map.mp hw
  have hk := List.mem_range.mp hk
  match k, hk with
  | 0, _ => exact q_544
  | 1, _ => exact q_545
  | 2, _ => exact q_546
  | n + 3, hk => omega
theorem i_Pack : ∀ w ∈ u_ws R_Pack F_Pack 6, w ∈ mm_G := by
  intro w hw
  obtain ⟨k, hk, rfl⟩ := List.mem_map.mp hw
  have hk := List.mem_range.mp hk
  match k, hk with
  | 0, _ => exact q_547
  | 1, _ => exact q_548
  | 2, _ => exact q_549
  | 3, _ => exact q_550
  | 4, _ => exact q_551
  | 5, _ => exact q_552
  | n + 6, hk => omega
theorem i_Rule : ∀ w ∈ u_ws R_Rule F_Rule 5, w ∈ mm_G := by
  intro w hw
  obtain ⟨k, hk, rfl⟩ := List.mem_map.mp hw
  have hk := List.mem_range.mp hk
  match k, hk with
  | 0, _ => exact q_553
  | 1, _ => exact q_554
  | 2, _ => exact q_555
  | 3, _ => exact q_556
  | 4, _ => exact q_557
  | n + 5, hk => omega
theorem i_Title : ∀ w ∈ u_ws R_Title F_Title 7, w ∈ mm_G := by
  intro w hw
  obtain ⟨k, hk, rfl⟩ := List.mem_map.mp hw
  have hk := List.mem_range.mp hk
  match k, hk with
  | 0, _ => exact q_558
  | 1, _ => exact q_559
  | 2, _ => exact q_560
  | 3, _ => exact q_561
  | 4, _ => exact q_562
  | 5, _ => exact q_563
  | 6, _ => exact q_564
  | n + 7, hk => omega
theorem i_Usages : ∀ w ∈ u_ws R_Usages F_Usages 4, w ∈ mm_G := by
  intro w hw
  obtain ⟨k, hk, rfl⟩ := List.mem_map.mp hw
  have hk := List.mem_range.mp hk
  match k, hk with
  | 0, _ => exact q_565
  | 1, _ => exact q_566
  | 2, _ => exact q_567
  | 3, _ => exact q_568
  | n + 4, hk => omega
