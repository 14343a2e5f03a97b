def w_Usages_init : List Cond := .code y_Usages_init b_Usages_init 1 none :: mm_G
abbrev rm_Usages_init : Room := { frames := 1, cells := 3, slots := 1536, locals := 12 }
def w_Notices_init : List Cond := .code y_Notices_init b_Notices_init 1 none :: mm_G
abbrev rm_Notices_init : Room := { frames := 1, cells := 2, slots := 200, locals := 12 }
def w_X_init : List Cond := .code y_X_init b_X_init 1 none :: mm_G
abbrev rm_X_init : Room := { frames := 2, cells := 11, slots := 2163, locals := 32 }
def w_Line_init : List Cond := .code y_Line_init b_Line_init 1 none :: mm_G
abbrev rm_Line_init : Room := { frames := 1, cells := 1, slots := 100, locals := 12 }
def w_Pack_init : List Cond := .code y_Pack_init b_Pack_init 3 none :: mm_G
abbrev rm_Pack_init : Room := { frames := 2, cells := 4, slots := 204, locals := 32 }
def w_X_pack : List Cond := .code y_X_pack b_X_pack 2 (some .int) :: mm_G
abbrev rm_X_pack : Room := { frames := 3, cells := 5, slots := 210, locals := 54 }
def w_X_findPack : List Cond := .code y_X_findPack b_X_findPack 2 (some (.object "LicenceRows2$Pack")) :: mm_G
abbrev rm_X_findPack : Room := { frames := 0, cells := 0, slots := 0, locals := 0 }
def w_X_findNamed : List Cond := .code y_X_findNamed b_X_findNamed 5 (some (.object "LicenceRows2$Title")) :: mm_G
abbrev rm_X_findNamed : Room := { frames := 0, cells := 0, slots := 0, locals := 0 }
def w_Title_init : List Cond := .code y_Title_init b_Title_init 3 none :: mm_G
abbrev rm_Title_init : Room := { frames := 1, cells := 2, slots := 20, locals := 12 }
def w_X_title : List Cond := .code y_X_title b_X_title 4 (some .int) :: mm_G
abbrev rm_X_title : Room := { frames := 2, cells := 3, slots := 27, locals := 34 }
def w_X_findTitle : List Cond := .code y_X_findTitle b_X_findTitle 2 (some (.object "LicenceRows2$Title")) :: mm_G
abbrev rm_X_findTitle : Room := { frames := 0, cells := 0, slots := 0, locals := 0 }
def w_X_isDay : List Cond := .code y_X_isDay b_X_isDay 1 (some .boolean) :: mm_G
abbrev rm_X_isDay : Room := { frames := 0, cells := 0, slots := 0, locals := 0 }
def w_Title_meets : List Cond := .code y_Title_meets b_Title_meets 4 (some .boolean) :: mm_G
abbrev rm_Title_meets : Room := { frames := 0, cells := 0, slots := 0, locals := 0 }
def w_Title_addSpan : List Cond := .code y_Title_addSpan b_Title_addSpan 4 none :: mm_G
abbrev rm_Title_addSpan : Room := { frames := 0, cells := 0, slots := 0, locals := 0 }
def w_X_cover : List Cond := .code y_X_cover b_X_cover 5 (some .int) :: mm_G
abbrev rm_X_cover : Room := { frames := 1, cells := 0, slots := 0, locals := 23 }
def w_X_monthOf : List Cond := .code y_X_monthOf b_X_monthOf 1 (some .int) :: mm_G
abbrev rm_X_monthOf : Room := { frames := 0, cells := 0, slots := 0, locals := 0 }
def w_Title_lastFreeMonth : List Cond := .code y_Title_lastFreeMonth b_Title_lastFreeMonth 2 (some .int) :: mm_G
abbrev rm_Title_lastFreeMonth : Room := { frames := 1, cells := 0, slots := 0, locals := 20 }
def w_X_embargo : List Cond := .code y_X_embargo b_X_embargo 5 (some .int) :: mm_G
abbrev rm_X_embargo : Room := { frames := 2, cells := 0, slots := 0, locals := 41 }
def w_X_isValueOf : List Cond := .code y_X_isValueOf b_X_isValueOf 2 (some .boolean) :: mm_G
abbrev rm_X_isValueOf : Room := { frames := 0, cells := 0, slots := 0, locals := 0 }
def w_Rule_init : List Cond := .code y_Rule_init b_Rule_init 5 none :: mm_G
abbrev rm_Rule_init : Room := { frames := 1, cells := 0, slots := 0, locals := 12 }
def w_X_rule : List Cond := .code y_X_rule b_X_rule 5 (some .int) :: mm_G
abbrev rm_X_rule : Room := { frames := 2, cells := 1, slots := 5, locals := 36 }
def w_X_findRule : List Cond := .code y_X_findRule b_X_findRule 2 (some (.object "LicenceRows2$Rule")) :: mm_G
abbrev rm_X_findRule : Room := { frames := 0, cells := 0, slots := 0, locals := 0 }
def w_X_fails : List Cond := .code y_X_fails b_X_fails 4 (some .int) :: mm_G
abbrev rm_X_fails : Room := { frames := 1, cells := 0, slots := 0, locals := 21 }
def w_X_isReader : List Cond := .code y_X_isReader b_X_isReader 1 (some .boolean) :: mm_G
abbrev rm_X_isReader : Room := { frames := 0, cells := 0, slots := 0, locals := 0 }
def w_X_reader : List Cond := .code y_X_reader b_X_reader 3 (some .int) :: mm_G
abbrev rm_X_reader : Room := { frames := 1, cells := 0, slots := 0, locals := 20 }
def w_Pack_hasPlace : List Cond := .code y_Pack_hasPlace b_Pack_hasPlace 1 (some .boolean) :: mm_G
abbrev rm_Pack_hasPlace : Room := { frames := 0, cells := 0, slots := 0, locals := 0 }
def w_Line_placeOf : List Cond := .code y_Line_placeOf b_Line_placeOf 3 (some .int) :: mm_G
abbrev rm_Line_placeOf : Room := { frames := 0, cells := 0, slots := 0, locals := 0 }
def w_Line_drop : List Cond := .code y_Line_drop b_Line_drop 4 (some .boolean) :: mm_G
abbrev rm_Line_drop : Room := { frames := 1, cells := 0, slots := 0, locals := 22 }
def w_Line_append : List Cond := .code y_Line_append b_Line_append 2 none :: mm_G
abbrev rm_Line_append : Room := { frames := 0, cells := 0, slots := 0, locals := 0 }
def w_Pack_admitNext : List Cond := .code y_Pack_admitNext b_Pack_admitNext 2 (some .int) :: mm_G
abbrev rm_Pack_admitNext : Room := { frames := 2, cells := 0, slots := 0, locals := 45 }
def w_X_room : List Cond := .code y_X_room b_X_room 5 (some .int) :: mm_G
abbrev rm_X_room : Room := { frames := 3, cells := 0, slots := 0, locals := 66 }
def w_Line_holds : List Cond := .code y_Line_holds b_Line_holds 2 (some .boolean) :: mm_G
abbrev rm_Line_holds : Room := { frames := 1, cells := 0, slots := 0, locals := 22 }
def w_X_in : List Cond := .code y_X_in b_X_in 4 (some .int) :: mm_G
abbrev rm_X_in : Room := { frames := 2, cells := 0, slots := 0, locals := 43 }
def w_X_out : List Cond := .code y_X_out b_X_out 4 (some .int) :: mm_G
abbrev rm_X_out : Room := { frames := 3, cells := 0, slots := 0, locals := 66 }
def w_Pack_hasEndedBy : List Cond := .code y_Pack_hasEndedBy b_Pack_hasEndedBy 2 (some .boolean) :: mm_G
abbrev rm_Pack_hasEndedBy : Room := { frames := 0, cells := 0, slots := 0, locals := 0 }
def w_Pack_keepsDay : List Cond := .code y_Pack_keepsDay b_Pack_keepsDay 2 (some .boolean) :: mm_G
abbrev rm_Pack_keepsDay : Room := { frames := 0, cells := 0, slots := 0, locals := 0 }
def w_Title_covers : List Cond := .code y_Title_covers b_Title_covers 3 (some .boolean) :: mm_G
abbrev rm_Title_covers : Room := { frames := 0, cells := 0, slots := 0, locals := 0 }
def w_Usages_ofReaderIn : List Cond := .code y_Usages_ofReaderIn b_Usages_ofReaderIn 5 (some .int) :: mm_G
abbrev rm_Usages_ofReaderIn : Room := { frames := 0, cells := 0, slots := 0, locals := 0 }
def w_Notices_append : List Cond := .code y_Notices_append b_Notices_append 3 none :: mm_G
abbrev rm_Notices_append : Room := { frames := 0, cells := 0, slots := 0, locals := 0 }
def w_Rule_fits : List Cond := .code y_Rule_fits b_Rule_fits 5 (some .boolean) :: mm_G
abbrev rm_Rule_fits : Room := { frames := 0, cells := 0, slots := 0, locals := 0 }
def w_X_rulesAllow : List Cond := .code y_X_rulesAllow b_X_rulesAllow 7 (some .boolean) :: mm_G
abbrev rm_X_rulesAllow : Room := { frames := 1, cells := 0, slots := 0, locals := 24 }
def w_X_judge : List Cond := .code y_X_judge b_X_judge 5 (some .int) :: mm_G
abbrev rm_X_judge : Room := { frames := 2, cells := 0, slots := 0, locals := 50 }
def w_Usages_append : List Cond := .code y_Usages_append b_Usages_append 4 none :: mm_G
abbrev rm_Usages_append : Room := { frames := 0, cells := 0, slots := 0, locals := 0 }
def w_X_access : List Cond := .code y_X_access b_X_access 7 (some .int) :: mm_G
abbrev rm_X_access : Room := { frames := 3, cells := 0, slots := 0, locals := 74 }
def w_X_failed : List Cond := .code y_X_failed b_X_failed 1 (some .int) :: mm_G
abbrev rm_X_failed : Room := { frames := 0, cells := 0, slots := 0, locals := 0 }
def w_X_provider : List Cond := .code y_X_provider b_X_provider 5 (some .int) :: mm_G
abbrev rm_X_provider : Room := { frames := 1, cells := 0, slots := 0, locals := 24 }
def w_Title_lastDay : List Cond := .code y_Title_lastDay b_Title_lastDay 1 (some .int) :: mm_G
abbrev rm_Title_lastDay : Room := { frames := 0, cells := 0, slots := 0, locals := 0 }
def w_X_countGoingOn : List Cond := .code y_X_countGoingOn b_X_countGoingOn 6 (some .int) :: mm_G
abbrev rm_X_countGoingOn : Room := { frames := 1, cells := 0, slots := 0, locals := 20 }
def w_X_end : List Cond := .code y_X_end b_X_end 4 (some .int) :: mm_G
abbrev rm_X_end : Room := { frames := 2, cells := 0, slots := 0, locals := 45 }
def w_Usages_ofTitle : List Cond := .code y_Usages_ofTitle b_Usages_ofTitle 4 (some .int) :: mm_G
abbrev rm_Usages_ofTitle : Room := { frames := 0, cells := 0, slots := 0, locals := 0 }
def w_Title_firstDay : List Cond := .code y_Title_firstDay b_Title_firstDay 1 (some .int) :: mm_G
abbrev rm_Title_firstDay : Room := { frames := 0, cells := 0, slots := 0, locals := 0 }
def w_X_about : List Cond := .code y_X_about b_X_about 4 (some .int) :: mm_G
abbrev rm_X_about : Room := { frames := 1, cells := 0, slots := 0, locals := 23 }
def w_X_gap : List Cond := .code y_X_gap b_X_gap 5 (some .int) :: mm_G
abbrev rm_X_gap : Room := { frames := 1, cells := 0, slots := 0, locals := 21 }
def w_Usages_ofTitleIn : List Cond := .code y_Usages_ofTitleIn b_Usages_ofTitleIn 5 (some .int) :: mm_G
abbrev rm_Usages_ofTitleIn : Room := { frames := 0, cells := 0, slots := 0, locals := 0 }
def w_X_usage : List Cond := .code y_X_usage b_X_usage 3 (some .int) :: mm_G
abbrev rm_X_usage : Room := { frames := 1, cells := 0, slots := 0, locals := 24 }
def w_X_told : List Cond := .code y_X_told b_X_told 3 (some .int) :: mm_G
abbrev rm_X_told : Room := { frames := 0, cells := 0, slots := 0, locals := 0 }
def w_Line_at : List Cond := .code y_Line_at b_Line_at 2 (some .int) :: mm_G
abbrev rm_Line_at : Room := { frames := 0, cells := 0, slots := 0, locals := 0 }
def w_X_who : List Cond := .code y_X_who b_X_who 5 (some .int) :: mm_G
abbrev rm_X_who : Room := { frames := 1, cells := 0, slots := 0, locals := 21 }
def w_Mo_init : List Cond := .code y_Mo_init b_Mo_init 1 none :: mm_G
abbrev rm_Mo_init : Room := { frames := 1, cells := 25, slots := 22188, locals := 12 }
def w_Mo_in1 : List Cond := .code y_Mo_in1 b_Mo_in1 3 (some .boolean) :: mm_G
abbrev rm_Mo_in1 : Room := { frames := 0, cells := 0, slots := 0, locals := 0 }
def w_Mo_isDay : List Cond := .code y_Mo_isDay b_Mo_isDay 1 (some .boolean) :: mm_G
abbrev rm_Mo_isDay : Room := { frames := 1, cells := 0, slots := 0, locals := 22 }
def w_Mo_isPack : List Cond := .code y_Mo_isPack b_Mo_isPack 2 (some .boolean) :: mm_G
abbrev rm_Mo_isPack : Room := { frames := 1, cells := 0, slots := 0, locals := 22 }
def w_Mo_isTitle : List Cond := .code y_Mo_isTitle b_Mo_isTitle 2 (some .boolean) :: mm_G
abbrev rm_Mo_isTitle : Room := { frames := 1, cells := 0, slots := 0, locals := 22 }
def w_Mo_tell : List Cond := .code y_Mo_tell b_Mo_tell 3 none :: mm_G
abbrev rm_Mo_tell : Room := { frames := 0, cells := 0, slots := 0, locals := 0 }
def w_Mo_pack : List Cond := .code y_Mo_pack b_Mo_pack 2 (some .int) :: mm_G
abbrev rm_Mo_pack : Room := { frames := 0, cells := 0, slots := 0, locals := 0 }
def w_Mo_find : List Cond := .code y_Mo_find b_Mo_find 4 (some .int) :: mm_G
abbrev rm_Mo_find : Room := { frames := 0, cells := 0, slots := 0, locals := 0 }
def w_Mo_title : List Cond := .code y_Mo_title b_Mo_title 3 (some .int) :: mm_G
abbrev rm_Mo_title : Room := { frames := 2, cells := 0, slots := 0, locals := 43 }
def w_Mo_cover : List Cond := .code y_Mo_cover b_Mo_cover 5 (some .int) :: mm_G
abbrev rm_Mo_cover : Room := { frames := 2, cells := 0, slots := 0, locals := 43 }
def w_Mo_embargo : List Cond := .code y_Mo_embargo b_Mo_embargo 5 (some .int) :: mm_G
abbrev rm_Mo_embargo : Room := { frames := 2, cells := 0, slots := 0, locals := 43 }
def w_Mo_rule : List Cond := .code y_Mo_rule b_Mo_rule 6 (some .int) :: mm_G
abbrev rm_Mo_rule : Room := { frames := 2, cells := 0, slots := 0, locals := 43 }
def w_Mo_fails : List Cond := .code y_Mo_fails b_Mo_fails 3 (some .int) :: mm_G
abbrev rm_Mo_fails : Room := { frames := 1, cells := 0, slots := 0, locals := 22 }
def w_Mo_reader : List Cond := .code y_Mo_reader b_Mo_reader 3 (some .int) :: mm_G
abbrev rm_Mo_reader : Room := { frames := 1, cells := 0, slots := 0, locals := 22 }
def w_Mo_placeIn : List Cond := .code y_Mo_placeIn b_Mo_placeIn 4 (some .int) :: mm_G
abbrev rm_Mo_placeIn : Room := { frames := 0, cells := 0, slots := 0, locals := 0 }
def w_Mo_placeWaiting : List Cond := .code y_Mo_placeWaiting b_Mo_placeWaiting 4 (some .int) :: mm_G
abbrev rm_Mo_placeWaiting : Room := { frames := 0, cells := 0, slots := 0, locals := 0 }
def w_Mo_enter : List Cond := .code y_Mo_enter b_Mo_enter 3 none :: mm_G
abbrev rm_Mo_enter : Room := { frames := 0, cells := 0, slots := 0, locals := 0 }
def w_Mo_dropWaiter : List Cond := .code y_Mo_dropWaiter b_Mo_dropWaiter 4 none :: mm_G
abbrev rm_Mo_dropWaiter : Room := { frames := 0, cells := 0, slots := 0, locals := 0 }
def w_Mo_admit : List Cond := .code y_Mo_admit b_Mo_admit 3 (some .int) :: mm_G
abbrev rm_Mo_admit : Room := { frames := 1, cells := 0, slots := 0, locals := 23 }
def w_Mo_room : List Cond := .code y_Mo_room b_Mo_room 4 (some .int) :: mm_G
abbrev rm_Mo_room : Room := { frames := 2, cells := 0, slots := 0, locals := 45 }
def w_Mo_in : List Cond := .code y_Mo_in b_Mo_in 3 (some .int) :: mm_G
abbrev rm_Mo_in : Room := { frames := 2, cells := 0, slots := 0, locals := 43 }
def w_Mo_out : List Cond := .code y_Mo_out b_Mo_out 6 (some .int) :: mm_G
abbrev rm_Mo_out : Room := { frames := 2, cells := 0, slots := 0, locals := 45 }
def w_Mo_covers : List Cond := .code y_Mo_covers b_Mo_covers 5 (some .boolean) :: mm_G
abbrev rm_Mo_covers : Room := { frames := 1, cells := 0, slots := 0, locals := 22 }
def w_Mo_usagesOf : List Cond := .code y_Mo_usagesOf b_Mo_usagesOf 5 (some .int) :: mm_G
abbrev rm_Mo_usagesOf : Room := { frames := 0, cells := 0, slots := 0, locals := 0 }
def w_Mo_fits : List Cond := .code y_Mo_fits b_Mo_fits 5 (some .boolean) :: mm_G
abbrev rm_Mo_fits : Room := { frames := 1, cells := 0, slots := 0, locals := 24 }
def w_Mo_allows : List Cond := .code y_Mo_allows b_Mo_allows 5 (some .boolean) :: mm_G
abbrev rm_Mo_allows : Room := { frames := 2, cells := 0, slots := 0, locals := 48 }
def w_Mo_access : List Cond := .code y_Mo_access b_Mo_access 6 (some .int) :: mm_G
abbrev rm_Mo_access : Room := { frames := 3, cells := 0, slots := 0, locals := 72 }
def w_Mo_failed : List Cond := .code y_Mo_failed b_Mo_failed 1 (some .int) :: mm_G
abbrev rm_Mo_failed : Room := { frames := 0, cells := 0, slots := 0, locals := 0 }
def w_Mo_provider : List Cond := .code y_Mo_provider b_Mo_provider 5 (some .int) :: mm_G
abbrev rm_Mo_provider : Room := { frames := 2, cells := 0, slots := 0, locals := 43 }
def w_Mo_bound : List Cond := .code y_Mo_bound b_Mo_bound 5 (some .int) :: mm_G
abbrev rm_Mo_bound : Room := { frames := 0, cells := 0, slots := 0, locals := 0 }
def w_Mo_end : List Cond := .code y_Mo_end b_Mo_end 5 (some .int) :: mm_G
abbrev rm_Mo_end : Room := { frames := 2, cells := 0, slots := 0, locals := 43 }
def w_Mo_about : List Cond := .code y_Mo_about b_Mo_about 5 (some .int) :: mm_G
abbrev rm_Mo_about : Room := { frames := 2, cells := 0, slots := 0, locals := 43 }
def w_Mo_nextSpan : List Cond := .code y_Mo_nextSpan b_Mo_nextSpan 5 (some .int) :: mm_G
abbrev rm_Mo_nextSpan : Room := { frames := 0, cells := 0, slots := 0, locals := 0 }
def w_Mo_gap : List Cond := .code y_Mo_gap b_Mo_gap 6 (some .int) :: mm_G
abbrev rm_Mo_gap : Room := { frames := 2, cells := 0, slots := 0, locals := 43 }
def w_Mo_usage : List Cond := .code y_Mo_usage b_Mo_usage 5 (some .int) :: mm_G
abbrev rm_Mo_usage : Room := { frames := 2, cells := 0, slots := 0, locals := 43 }
def w_Mo_told : List Cond := .code y_Mo_told b_Mo_told 3 (some .int) :: mm_G
abbrev rm_Mo_told : Room := { frames := 1, cells := 0, slots := 0, locals := 22 }
def w_Mo_who : List Cond := .code y_Mo_who b_Mo_who 4 (some .int) :: mm_G
abbrev rm_Mo_who : Room := { frames := 2, cells := 0, slots := 0, locals := 43 }
theorem k_Usages_9 : mm_FL R_Usages 9 7 0 := ⟨R_Usages, F_Usages, 4, rfl, by decide, i_Usages, q_4⟩
theorem k_Usages_15 : mm_FL R_Usages 15 7 1 := ⟨R_Usages, F_Usages, 4, rfl, by decide, i_Usages, q_5⟩
theorem k_Usages_18 : mm_FL R_Usages 18 7 2 := ⟨R_Usages, F_Usages, 4, rfl, by decide, i_Usages, q_6⟩
theorem k_Usages_21 : mm_FL R_Usages 21 7 3 := ⟨R_Usages, F_Usages, 4, rfl, by decide, i_Usages, q_7⟩
theorem k_Notices_9 : mm_FL R_Notices 9 3 0 := ⟨R_Notices, F_Notices, 3, rfl, by decide, i_Notices, q_9⟩
theorem k_Notices_15 : mm_FL R_Notices 15 3 1 := ⟨R_Notices, F_Notices, 3, rfl, by decide, i_Notices, q_10⟩
theorem k_Notices_18 : mm_FL R_Notices 18 3 2 := ⟨R_Notices, F_Notices, 3, rfl, by decide, i_Notices, q_11⟩
theorem k_X_11 : mm_FL R_X 11 0 0 := ⟨R_X, F_X, 10, rfl, by decide, i_X, q_14⟩
theorem k_X_15 : mm_FL R_X 15 0 1 := ⟨R_X, F_X, 10, rfl, by decide, i_X, q_15⟩
theorem k_X_21 : mm_FL R_X 21 0 2 := ⟨R_X, F_X, 10, rfl, by decide, i_X, q_17⟩
theorem k_X_25 : mm_FL R_X 25 0 3 := ⟨R_X, F_X, 10, rfl, by decide, i_X, q_18⟩
theorem k_X_30 : mm_FL R_X 30 0 4 := ⟨R_X, F_X, 10, rfl, by decide, i_X, q_20⟩
theorem k_X_34 : mm_FL R_X 34 0 5 := ⟨R_X, F_X, 10, rfl, by decide, i_X, q_21⟩
theorem k_X_37 : mm_FL R_X 37 0 6 := ⟨R_X, F_X, 10, rfl, by decide, i_X, q_22⟩
theorem k_X_44 : mm_FL R_X 44 0 7 := ⟨R_X, F_X, 10, rfl, by decide, i_X, q_28⟩
theorem k_X_51 : mm_FL R_X 51 0 8 := ⟨R_X, F_X, 10, rfl, by decide, i_X, q_34⟩
theorem k_X_55 : mm_FL R_X 55 0 9 := ⟨R_X, F_X, 10, rfl, by decide, i_X, q_35⟩
theorem k_Line_9 : mm_FL R_Line 9 2 0 := ⟨R_Line, F_Line, 2, rfl, by decide, i_Line, q_37⟩
theorem k_Line_15 : mm_FL R_Line 15 2 1 := ⟨R_Line, F_Line, 2, rfl, by decide, i_Line, q_38⟩
theorem k_Pack_12 : mm_FL R_Pack 12 4 2 := ⟨R_Pack, F_Pack, 6, rfl, by decide, i_Pack, q_45⟩
theorem k_Pack_18 : mm_FL R_Pack 18 4 3 := ⟨R_Pack, F_Pack, 6, rfl, by decide, i_Pack, q_46⟩
theorem k_Pack_21 : mm_FL R_Pack 21 4 4 := ⟨R_Pack, F_Pack, 6, rfl, by decide, i_Pack, q_47⟩
theorem k_Pack_25 : mm_FL R_Pack 25 4 5 := ⟨R_Pack, F_Pack, 6, rfl, by decide, i_Pack, q_48⟩
theorem k_Pack_28 : mm_FL R_Pack 28 4 0 := ⟨R_Pack, F_Pack, 6, rfl, by decide, i_Pack, q_49⟩
theorem k_Pack_31 : mm_FL R_Pack 31 4 1 := ⟨R_Pack, F_Pack, 6, rfl, by decide, i_Pack, q_50⟩
theorem k_X_175 : mm_FL R_X 175 6 0 := ⟨R_Title, F_Title, 7, rfl, by decide, i_Title, q_56⟩
theorem k_X_179 : mm_FL R_X 179 4 0 := ⟨R_Pack, F_Pack, 6, rfl, by decide, i_Pack, q_57⟩
theorem k_X_166 : mm_FL R_X 166 6 1 := ⟨R_Title, F_Title, 7, rfl, by decide, i_Title, q_58⟩
theorem k_Title_9 : mm_FL R_Title 9 6 2 := ⟨R_Title, F_Title, 7, rfl, by decide, i_Title, q_60⟩
theorem k_Title_15 : mm_FL R_Title 15 6 3 := ⟨R_Title, F_Title, 7, rfl, by decide, i_Title, q_61⟩
theorem k_Title_19 : mm_FL R_Title 19 6 4 := ⟨R_Title, F_Title, 7, rfl, by decide, i_Title, q_62⟩
theorem k_Title_23 : mm_FL R_Title 23 6 5 := ⟨R_Title, F_Title, 7, rfl, by decide, i_Title, q_63⟩
theorem k_Title_26 : mm_FL R_Title 26 6 6 := ⟨R_Title, F_Title, 7, rfl, by decide, i_Title, q_64⟩
theorem k_Title_29 : mm_FL R_Title 29 6 0 := ⟨R_Title, F_Title, 7, rfl, by decide, i_Title, q_65⟩
theorem k_Title_33 : mm_FL R_Title 33 6 1 := ⟨R_Title, F_Title, 7, rfl, by decide, i_Title, q_66⟩
theorem k_X_84 : mm_FL R_X 84 6 6 := ⟨R_Title, F_Title, 7, rfl, by decide, i_Title, q_93⟩
theorem k_X_91 : mm_FL R_X 91 6 3 := ⟨R_Title, F_Title, 7, rfl, by decide, i_Title, q_100⟩
theorem k_Rule_9 : mm_FL R_Rule 9 5 4 := ⟨R_Rule, F_Rule, 5, rfl, by decide, i_Rule, q_111⟩
theorem k_Rule_15 : mm_FL R_Rule 15 5 0 := ⟨R_Rule, F_Rule, 5, rfl, by decide, i_Rule, q_112⟩
theorem k_Rule_19 : mm_FL R_Rule 19 5 1 := ⟨R_Rule, F_Rule, 5, rfl, by decide, i_Rule, q_113⟩
theorem k_Rule_22 : mm_FL R_Rule 22 5 2 := ⟨R_Rule, F_Rule, 5, rfl, by decide, i_Rule, q_114⟩
theorem k_Rule_25 : mm_FL R_Rule 25 5 3 := ⟨R_Rule, F_Rule, 5, rfl, by decide, i_Rule, q_115⟩
theorem k_X_114 : mm_FL R_X 114 5 4 := ⟨R_Rule, F_Rule, 5, rfl, by decide, i_Rule, q_128⟩
theorem k_Pack_35 : mm_FL R_Pack 35 2 1 := ⟨R_Line, F_Line, 2, rfl, by decide, i_Line, q_132⟩
theorem k_Pack_42 : mm_FL R_Pack 42 2 0 := ⟨R_Line, F_Line, 2, rfl, by decide, i_Line, q_141⟩
theorem k_X_121 : mm_FL R_X 121 4 4 := ⟨R_Pack, F_Pack, 6, rfl, by decide, i_Pack, q_154⟩
theorem k_X_128 : mm_FL R_X 128 4 2 := ⟨R_Pack, F_Pack, 6, rfl, by decide, i_Pack, q_155⟩
theorem k_X_137 : mm_FL R_X 137 4 3 := ⟨R_Pack, F_Pack, 6, rfl, by decide, i_Pack, q_160⟩
theorem k_X_229 : mm_FL R_X 229 5 0 := ⟨R_Rule, F_Rule, 5, rfl, by decide, i_Rule, q_164⟩
theorem k_X_235 : mm_FL R_X 235 5 2 := ⟨R_Rule, F_Rule, 5, rfl, by decide, i_Rule, q_169⟩
theorem k_X_163 : mm_FL R_X 163 6 2 := ⟨R_Title, F_Title, 7, rfl, by decide, i_Title, q_187⟩
theorem k_X_169 : mm_FL R_X 169 4 5 := ⟨R_Pack, F_Pack, 6, rfl, by decide, i_Pack, q_208⟩
theorem k_X_194 : mm_FL R_X 194 6 4 := ⟨R_Title, F_Title, 7, rfl, by decide, i_Title, q_221⟩
theorem k_X_191 : mm_FL R_X 191 6 5 := ⟨R_Title, F_Title, 7, rfl, by decide, i_Title, q_222⟩
theorem k_X_200 : mm_FL R_X 200 3 2 := ⟨R_Notices, F_Notices, 3, rfl, by decide, i_Notices, q_227⟩
theorem k_X_206 : mm_FL R_X 206 3 1 := ⟨R_Notices, F_Notices, 3, rfl, by decide, i_Notices, q_228⟩
theorem k_X_203 : mm_FL R_X 203 3 0 := ⟨R_Notices, F_Notices, 3, rfl, by decide, i_Notices, q_229⟩
theorem k_X_209 : mm_FL R_X 209 2 1 := ⟨R_Line, F_Line, 2, rfl, by decide, i_Line, q_234⟩
theorem k_Mo_7 : mm_FL R_Mo 7 1 2 := ⟨R_Mo, F_Mo, 32, rfl, by decide, i_Mo, q_237⟩
theorem k_Mo_13 : mm_FL R_Mo 13 1 3 := ⟨R_Mo, F_Mo, 32, rfl, by decide, i_Mo, q_238⟩
theorem k_Mo_17 : mm_FL R_Mo 17 1 4 := ⟨R_Mo, F_Mo, 32, rfl, by decide, i_Mo, q_239⟩
theorem k_Mo_20 : mm_FL R_Mo 20 1 5 := ⟨R_Mo, F_Mo, 32, rfl, by decide, i_Mo, q_240⟩
theorem k_Mo_23 : mm_FL R_Mo 23 1 6 := ⟨R_Mo, F_Mo, 32, rfl, by decide, i_Mo, q_241⟩
theorem k_Mo_26 : mm_FL R_Mo 26 1 7 := ⟨R_Mo, F_Mo, 32, rfl, by decide, i_Mo, q_242⟩
theorem k_Mo_29 : mm_FL R_Mo 29 1 8 := ⟨R_Mo, F_Mo, 32, rfl, by decide, i_Mo, q_243⟩
theorem k_Mo_32 : mm_FL R_Mo 32 1 10 := ⟨R_Mo, F_Mo, 32, rfl, by decide, i_Mo, q_244⟩
theorem k_Mo_35 : mm_FL R_Mo 35 1 11 := ⟨R_Mo, F_Mo, 32, rfl, by decide, i_Mo, q_245⟩
theorem k_Mo_38 : mm_FL R_Mo 38 1 12 := ⟨R_Mo, F_Mo, 32, rfl, by decide, i_Mo, q_246⟩
theorem k_Mo_41 : mm_FL R_Mo 41 1 13 := ⟨R_Mo, F_Mo, 32, rfl, by decide, i_Mo, q_247⟩
theorem k_Mo_44 : mm_FL R_Mo 44 1 14 := ⟨R_Mo, F_Mo, 32, rfl, by decide, i_Mo, q_248⟩
theorem k_Mo_47 : mm_FL R_Mo 47 1 15 := ⟨R_Mo, F_Mo, 32, rfl, by decide, i_Mo, q_249⟩
theorem k_Mo_50 : mm_FL R_Mo 50 1 16 := ⟨R_Mo, F_Mo, 32, rfl, by decide, i_Mo, q_250⟩
theorem k_Mo_53 : mm_FL R_Mo 53 1 18 := ⟨R_Mo, F_Mo, 32, rfl, by decide, i_Mo, q_251⟩
theorem k_Mo_56 : mm_FL R_Mo 56 1 19 := ⟨R_Mo, F_Mo, 32, rfl, by decide, i_Mo, q_252⟩
theorem k_Mo_59 : mm_FL R_Mo 59 1 20 := ⟨R_Mo, F_Mo, 32, rfl, by decide, i_Mo, q_253⟩
theorem k_Mo_62 : mm_FL R_Mo 62 1 21 := ⟨R_Mo, F_Mo, 32, rfl, by decide, i_Mo, q_254⟩
theorem k_Mo_65 : mm_FL R_Mo 65 1 22 := ⟨R_Mo, F_Mo, 32, rfl, by decide, i_Mo, q_255⟩
theorem k_Mo_68 : mm_FL R_Mo 68 1 23 := ⟨R_Mo, F_Mo, 32, rfl, by decide, i_Mo, q_256⟩
theorem k_Mo_72 : mm_FL R_Mo 72 1 24 := ⟨R_Mo, F_Mo, 32, rfl, by decide, i_Mo, q_257⟩
theorem k_Mo_75 : mm_FL R_Mo 75 1 26 := ⟨R_Mo, F_Mo, 32, rfl, by decide, i_Mo, q_258⟩
theorem k_Mo_78 : mm_FL R_Mo 78 1 27 := ⟨R_Mo, F_Mo, 32, rfl, by decide, i_Mo, q_259⟩
theorem k_Mo_81 : mm_FL R_Mo 81 1 28 := ⟨R_Mo, F_Mo, 32, rfl, by decide, i_Mo, q_260⟩
theorem k_Mo_84 : mm_FL R_Mo 84 1 30 := ⟨R_Mo, F_Mo, 32, rfl, by decide, i_Mo, q_261⟩
theorem k_Mo_87 : mm_FL R_Mo 87 1 31 := ⟨R_Mo, F_Mo, 32, rfl, by decide, i_Mo, q_262⟩
theorem k_Mo_98 : mm_FL R_Mo 98 1 1 := ⟨R_Mo, F_Mo, 32, rfl, by decide, i_Mo, q_268⟩
theorem k_Mo_101 : mm_FL R_Mo 101 1 9 := ⟨R_Mo, F_Mo, 32, rfl, by decide, i_Mo, q_269⟩
theorem k_Mo_104 : mm_FL R_Mo 104 1 29 := ⟨R_Mo, F_Mo, 32, rfl, by decide, i_Mo, q_270⟩
theorem k_Mo_90 : mm_FL R_Mo 90 1 0 := ⟨R_Mo, F_Mo, 32, rfl, by decide, i_Mo, q_271⟩
theorem k_Mo_122 : mm_FL R_Mo 122 1 17 := ⟨R_Mo, F_Mo, 32, rfl, by decide, i_Mo, q_287⟩
theorem k_Mo_142 : mm_FL R_Mo 142 1 25 := ⟨R_Mo, F_Mo, 32, rfl, by decide, i_Mo, q_309⟩
theorem kp_Usages_9 : mm_FP R_Usages 9 7 0 (.array .int) true := ⟨R_Usages, F_Usages, 4, t_Usages, rfl, by decide, i_Usages, q_4, t_Usages_ok, n_Usages, rfl, by decide +kernel, fun h => by first | rfl | cases h⟩
theorem kp_Usages_15 : mm_FP R_Usages 15 7 1 (.array .int) true := ⟨R_Usages, F_Usages, 4, t_Usages, rfl, by decide, i_Usages, q_5, t_Usages_ok, n_Usages, rfl, by decide +kernel, fun h => by first | rfl | cases h⟩
theorem kp_Usages_18 : mm_FP R_Usages 18 7 2 (.array .int) true := ⟨R_Usages, F_Usages, 4, t_Usages, rfl, by decide, i_Usages, q_6, t_Usages_ok, n_Usages, rfl, by decide +kernel, fun h => by first | rfl | cases h⟩
theorem kp_Usages_21 : mm_FP R_Usages 21 7 3 .int false := ⟨R_Usages, F_Usages, 4, t_Usages, rfl, by decide, i_Usages, q_7, t_Usages_ok, n_Usages, rfl, by decide +kernel, fun h => by first | rfl | cases h⟩
theorem kp_Notices_9 : mm_FP R_Notices 9 3 0 (.array .int) true := ⟨R_Notices, F_Notices, 3, t_Notices, rfl, by decide, i_Notices, q_9, t_Notices_ok, n_Notices, rfl, by decide +kernel, fun h => by first | rfl | cases h⟩
theorem kp_Notices_15 : mm_FP R_Notices 15 3 1 (.array .int) true := ⟨R_Notices, F_Notices, 3, t_Notices, rfl, by decide, i_Notices, q_10, t_Notices_ok, n_Notices, rfl, by decide +kernel, fun h => by first | rfl | cases h⟩
theorem kp_Notices_18 : mm_FP R_Notices 18 3 2 .int false := ⟨R_Notices, F_Notices, 3, t_Notices, rfl, by decide, i_Notices, q_11, t_Notices_ok, n_Notices, rfl, by decide +kernel, fun h => by first | rfl | cases h⟩
theorem kp_X_11 : mm_FP R_X 11 0 0 (.array (.object "LicenceRows2$Pack")) true := ⟨R_X, F_X, 10, t_X, rfl, by decide, i_X, q_14, t_X_ok, n_X, rfl, by decide +kernel, fun h => by first | rfl | cases h⟩
theorem kp_X_15 : mm_FP R_X 15 0 1 .int false := ⟨R_X, F_X, 10, t_X, rfl, by decide, i_X, q_15, t_X_ok, n_X, rfl, by decide +kernel, fun h => by first | rfl | cases h⟩
theorem kp_X_21 : mm_FP R_X 21 0 2 (.array (.object "LicenceRows2$Title")) true := ⟨R_X, F_X, 10, t_X, rfl, by decide, i_X, q_17, t_X_ok, n_X, rfl, by decide +kernel, fun h => by first | rfl | cases h⟩
theorem kp_X_25 : mm_FP R_X 25 0 3 .int false := ⟨R_X, F_X, 10, t_X, rfl, by decide, i_X, q_18, t_X_ok, n_X, rfl, by decide +kernel, fun h => by first | rfl | cases h⟩
theorem kp_X_30 : mm_FP R_X 30 0 4 (.array (.object "LicenceRows2$Rule")) true := ⟨R_X, F_X, 10, t_X, rfl, by decide, i_X, q_20, t_X_ok, n_X, rfl, by decide +kernel, fun h => by first | rfl | cases h⟩
theorem kp_X_34 : mm_FP R_X 34 0 5 .int false := ⟨R_X, F_X, 10, t_X, rfl, by decide, i_X, q_21, t_X_ok, n_X, rfl, by decide +kernel, fun h => by first | rfl | cases h⟩
theorem kp_X_37 : mm_FP R_X 37 0 6 (.array .int) true := ⟨R_X, F_X, 10, t_X, rfl, by decide, i_X, q_22, t_X_ok, n_X, rfl, by decide +kernel, fun h => by first | rfl | cases h⟩
theorem kp_X_44 : mm_FP R_X 44 0 7 (.object "LicenceRows2$Usages") true := ⟨R_X, F_X, 10, t_X, rfl, by decide, i_X, q_28, t_X_ok, n_X, rfl, by decide +kernel, fun h => by first | rfl | cases h⟩
theorem kp_X_51 : mm_FP R_X 51 0 8 (.object "LicenceRows2$Notices") true := ⟨R_X, F_X, 10, t_X, rfl, by decide, i_X, q_34, t_X_ok, n_X, rfl, by decide +kernel, fun h => by first | rfl | cases h⟩
theorem kp_X_55 : mm_FP R_X 55 0 9 .int false := ⟨R_X, F_X, 10, t_X, rfl, by decide, i_X, q_35, t_X_ok, n_X, rfl, by decide +kernel, fun h => by first | rfl | cases h⟩
theorem kp_Line_9 : mm_FP R_Line 9 2 0 (.array .int) true := ⟨R_Line, F_Line, 2, t_Line, rfl, by decide, i_Line, q_37, t_Line_ok, n_Line, rfl, by decide +kernel, fun h => by first | rfl | cases h⟩
theorem kp_Line_15 : mm_FP R_Line 15 2 1 .int false := ⟨R_Line, F_Line, 2, t_Line, rfl, by decide, i_Line, q_38, t_Line_ok, n_Line, rfl, by decide +kernel, fun h => by first | rfl | cases h⟩
theorem kp_Pack_12 : mm_FP R_Pack 12 4 2 (.object "LicenceRows2$Line") true := ⟨R_Pack, F_Pack, 6, t_Pack, rfl, by decide, i_Pack, q_45, t_Pack_ok, n_Pack, rfl, by decide +kernel, fun h => by first | rfl | cases h⟩
theorem kp_Pack_18 : mm_FP R_Pack 18 4 3 (.object "LicenceRows2$Line") true := ⟨R_Pack, F_Pack, 6, t_Pack, rfl, by decide, i_Pack, q_46, t_Pack_ok, n_Pack, rfl, by decide +kernel, fun h => by first | rfl | cases h⟩
theorem kp_Pack_21 : mm_FP R_Pack 21 4 4 .int false := ⟨R_Pack, F_Pack, 6, t_Pack, rfl, by decide, i_Pack, q_47, t_Pack_ok, n_Pack, rfl, by decide +kernel, fun h => by first | rfl | cases h⟩
theorem kp_Pack_25 : mm_FP R_Pack 25 4 5 .int false := ⟨R_Pack, F_Pack, 6, t_Pack, rfl, by decide, i_Pack, q_48, t_Pack_ok, n_Pack, rfl, by decide +kernel, fun h => by first | rfl | cases h⟩
theorem kp_Pack_28 : mm_FP R_Pack 28 4 0 .int true := ⟨R_Pack, F_Pack, 6, t_Pack, rfl, by decide, i_Pack, q_49, t_Pack_ok, n_Pack, rfl, by decide +kernel, fun h => by first | rfl | cases h⟩
theorem kp_Pack_31 : mm_FP R_Pack 31 4 1 .boolean true := ⟨R_Pack, F_Pack, 6, t_Pack, rfl, by decide, i_Pack, q_50, t_Pack_ok, n_Pack, rfl, by decide +kernel, fun h => by first | rfl | cases h⟩
theorem kp_Title_9 : mm_FP R_Title 9 6 2 .boolean false := ⟨R_Title, F_Title, 7, t_Title, rfl, by decide, i_Title, q_60, t_Title_ok, n_Title, rfl, by decide +kernel, fun h => by first | rfl | cases h⟩
theorem kp_Title_15 : mm_FP R_Title 15 6 3 .int false := ⟨R_Title, F_Title, 7, t_Title, rfl, by decide, i_Title, q_61, t_Title_ok, n_Title, rfl, by decide +kernel, fun h => by first | rfl | cases h⟩
theorem kp_Title_19 : mm_FP R_Title 19 6 4 (.array .int) true := ⟨R_Title, F_Title, 7, t_Title, rfl, by decide, i_Title, q_62, t_Title_ok, n_Title, rfl, by decide +kernel, fun h => by first | rfl | cases h⟩
theorem kp_Title_23 : mm_FP R_Title 23 6 5 (.array .int) true := ⟨R_Title, F_Title, 7, t_Title, rfl, by decide, i_Title, q_63, t_Title_ok, n_Title, rfl, by decide +kernel, fun h => by first | rfl | cases h⟩
theorem kp_Title_26 : mm_FP R_Title 26 6 6 .int false := ⟨R_Title, F_Title, 7, t_Title, rfl, by decide, i_Title, q_64, t_Title_ok, n_Title, rfl, by decide +kernel, fun h => by first | rfl | cases h⟩
theorem kp_Title_29 : mm_FP R_Title 29 6 0 (.object "LicenceRows2$Pack") true := ⟨R_Title, F_Title, 7, t_Title, rfl, by decide, i_Title, q_65, t_Title_ok, n_Title, rfl, by decide +kernel, fun h => by first | rfl | cases h⟩
theorem kp_Title_33 : mm_FP R_Title 33 6 1 .int false := ⟨R_Title, F_Title, 7, t_Title, rfl, by decide, i_Title, q_66, t_Title_ok, n_Title, rfl, by decide +kernel, fun h => by first | rfl | cases h⟩
theorem kp_X_91 : mm_FP R_X 91 6 3 .int false := ⟨R_Title, F_Title, 7, t_Title, rfl, by decide, i_Title, q_100, t_Title_ok, n_Title, rfl, by decide +kernel, fun h => by first | rfl | cases h⟩
theorem kp_Rule_9 : mm_FP R_Rule 9 5 4 .boolean false := ⟨R_Rule, F_Rule, 5, t_Rule, rfl, by decide, i_Rule, q_111, t_Rule_ok, n_Rule, rfl, by decide +kernel, fun h => by first | rfl | cases h⟩
theorem kp_Rule_15 : mm_FP R_Rule 15 5 0 .int true := ⟨R_Rule, F_Rule, 5, t_Rule, rfl, by decide, i_Rule, q_112, t_Rule_ok, n_Rule, rfl, by decide +kernel, fun h => by first | rfl | cases h⟩
theorem kp_Rule_19 : mm_FP R_Rule 19 5 1 .int true := ⟨R_Rule, F_Rule, 5, t_Rule, rfl, by decide, i_Rule, q_113, t_Rule_ok, n_Rule, rfl, by decide +kernel, fun h => by first | rfl | cases h⟩
theorem kp_Rule_22 : mm_FP R_Rule 22 5 2 .int true := ⟨R_Rule, F_Rule, 5, t_Rule, rfl, by decide, i_Rule, q_114, t_Rule_ok, n_Rule, rfl, by decide +kernel, fun h => by first | rfl | cases h⟩
theorem kp_Rule_25 : mm_FP R_Rule 25 5 3 .int true := ⟨R_Rule, F_Rule, 5, t_Rule, rfl, by decide, i_Rule, q_115, t_Rule_ok, n_Rule, rfl, by decide +kernel, fun h => by first | rfl | cases h⟩
theorem kp_X_114 : mm_FP R_X 114 5 4 .boolean false := ⟨R_Rule, F_Rule, 5, t_Rule, rfl, by decide, i_Rule, q_128, t_Rule_ok, n_Rule, rfl, by decide +kernel, fun h => by first | rfl | cases h⟩
theorem kp_X_121 : mm_FP R_X 121 4 4 .int false := ⟨R_Pack, F_Pack, 6, t_Pack, rfl, by decide, i_Pack, q_154, t_Pack_ok, n_Pack, rfl, by decide +kernel, fun h => by first | rfl | cases h⟩
theorem kp_X_163 : mm_FP R_X 163 6 2 .boolean false := ⟨R_Title, F_Title, 7, t_Title, rfl, by decide, i_Title, q_187, t_Title_ok, n_Title, rfl, by decide +kernel, fun h => by first | rfl | cases h⟩
theorem kp_X_166 : mm_FP R_X 166 6 1 .int false := ⟨R_Title, F_Title, 7, t_Title, rfl, by decide, i_Title, q_58, t_Title_ok, n_Title, rfl, by decide +kernel, fun h => by first | rfl | cases h⟩
theorem kp_X_169 : mm_FP R_X 169 4 5 .int false := ⟨R_Pack, F_Pack, 6, t_Pack, rfl, by decide, i_Pack, q_208, t_Pack_ok, n_Pack, rfl, by decide +kernel, fun h => by first | rfl | cases h⟩
theorem kp_Mo_7 : mm_FP R_Mo 7 1 2 (.array .boolean) true := ⟨R_Mo, F_Mo, 32, t_Mo, rfl, by decide, i_Mo, q_237, t_Mo_ok, n_Mo, rfl, by decide +kernel, fun h => by first | rfl | cases h⟩
theorem kp_Mo_13 : mm_FP R_Mo 13 1 3 (.array .int) true := ⟨R_Mo, F_Mo, 32, t_Mo, rfl, by decide, i_Mo, q_238, t_Mo_ok, n_Mo, rfl, by decide +kernel, fun h => by first | rfl | cases h⟩
theorem kp_Mo_17 : mm_FP R_Mo 17 1 4 (.array .int) true := ⟨R_Mo, F_Mo, 32, t_Mo, rfl, by decide, i_Mo, q_239, t_Mo_ok, n_Mo, rfl, by decide +kernel, fun h => by first | rfl | cases h⟩
theorem kp_Mo_20 : mm_FP R_Mo 20 1 5 (.array .int) true := ⟨R_Mo, F_Mo, 32, t_Mo, rfl, by decide, i_Mo, q_240, t_Mo_ok, n_Mo, rfl, by decide +kernel, fun h => by first | rfl | cases h⟩
theorem kp_Mo_23 : mm_FP R_Mo 23 1 6 (.array .int) true := ⟨R_Mo, F_Mo, 32, t_Mo, rfl, by decide, i_Mo, q_241, t_Mo_ok, n_Mo, rfl, by decide +kernel, fun h => by first | rfl | cases h⟩
theorem kp_Mo_26 : mm_FP R_Mo 26 1 7 (.array .int) true := ⟨R_Mo, F_Mo, 32, t_Mo, rfl, by decide, i_Mo, q_242, t_Mo_ok, n_Mo, rfl, by decide +kernel, fun h => by first | rfl | cases h⟩
theorem kp_Mo_29 : mm_FP R_Mo 29 1 8 (.array .int) true := ⟨R_Mo, F_Mo, 32, t_Mo, rfl, by decide, i_Mo, q_243, t_Mo_ok, n_Mo, rfl, by decide +kernel, fun h => by first | rfl | cases h⟩
theorem kp_Mo_32 : mm_FP R_Mo 32 1 10 (.array .int) true := ⟨R_Mo, F_Mo, 32, t_Mo, rfl, by decide, i_Mo, q_244, t_Mo_ok, n_Mo, rfl, by decide +kernel, fun h => by first | rfl | cases h⟩
theorem kp_Mo_35 : mm_FP R_Mo 35 1 11 (.array .int) true := ⟨R_Mo, F_Mo, 32, t_Mo, rfl, by decide, i_Mo, q_245, t_Mo_ok, n_Mo, rfl, by decide +kernel, fun h => by first | rfl | cases h⟩
theorem kp_Mo_38 : mm_FP R_Mo 38 1 12 (.array .boolean) true := ⟨R_Mo, F_Mo, 32, t_Mo, rfl, by decide, i_Mo, q_246, t_Mo_ok, n_Mo, rfl, by decide +kernel, fun h => by first | rfl | cases h⟩
theorem kp_Mo_41 : mm_FP R_Mo 41 1 13 (.array .int) true := ⟨R_Mo, F_Mo, 32, t_Mo, rfl, by decide, i_Mo, q_247, t_Mo_ok, n_Mo, rfl, by decide +kernel, fun h => by first | rfl | cases h⟩
theorem kp_Mo_44 : mm_FP R_Mo 44 1 14 (.array .int) true := ⟨R_Mo, F_Mo, 32, t_Mo, rfl, by decide, i_Mo, q_248, t_Mo_ok, n_Mo, rfl, by decide +kernel, fun h => by first | rfl | cases h⟩
theorem kp_Mo_47 : mm_FP R_Mo 47 1 15 (.array .int) true := ⟨R_Mo, F_Mo, 32, t_Mo, rfl, by decide, i_Mo, q_249, t_Mo_ok, n_Mo, rfl, by decide +kernel, fun h => by first | rfl | cases h⟩
theorem kp_Mo_50 : mm_FP R_Mo 50 1 16 (.array .int) true := ⟨R_Mo, F_Mo, 32, t_Mo, rfl, by decide, i_Mo, q_250, t_Mo_ok, n_Mo, rfl, by decide +kernel, fun h => by first | rfl | cases h⟩
theorem kp_Mo_53 : mm_FP R_Mo 53 1 18 (.array .int) true := ⟨R_Mo, F_Mo, 32, t_Mo, rfl, by decide, i_Mo, q_251, t_Mo_ok, n_Mo, rfl, by decide +kernel, fun h => by first | rfl | cases h⟩
theorem kp_Mo_56 : mm_FP R_Mo 56 1 19 (.array .int) true := ⟨R_Mo, F_Mo, 32, t_Mo, rfl, by decide, i_Mo, q_252, t_Mo_ok, n_Mo, rfl, by decide +kernel, fun h => by first | rfl | cases h⟩
theorem kp_Mo_59 : mm_FP R_Mo 59 1 20 (.array .int) true := ⟨R_Mo, F_Mo, 32, t_Mo, rfl, by decide, i_Mo, q_253, t_Mo_ok, n_Mo, rfl, by decide +kernel, fun h => by first | rfl | cases h⟩
theorem kp_Mo_62 : mm_FP R_Mo 62 1 21 (.array .int) true := ⟨R_Mo, F_Mo, 32, t_Mo, rfl, by decide, i_Mo, q_254, t_Mo_ok, n_Mo, rfl, by decide +kernel, fun h => by first | rfl | cases h⟩
theorem kp_Mo_65 : mm_FP R_Mo 65 1 22 (.array .boolean) true := ⟨R_Mo, F_Mo, 32, t_Mo, rfl, by decide, i_Mo, q_255, t_Mo_ok, n_Mo, rfl, by decide +kernel, fun h => by first | rfl | cases h⟩
theorem kp_Mo_68 : mm_FP R_Mo 68 1 23 .int false := ⟨R_Mo, F_Mo, 32, t_Mo, rfl, by decide, i_Mo, q_256, t_Mo_ok, n_Mo, rfl, by decide +kernel, fun h => by first | rfl | cases h⟩
theorem kp_Mo_72 : mm_FP R_Mo 72 1 24 (.array .int) true := ⟨R_Mo, F_Mo, 32, t_Mo, rfl, by decide, i_Mo, q_257, t_Mo_ok, n_Mo, rfl, by decide +kernel, fun h => by first | rfl | cases h⟩
theorem kp_Mo_75 : mm_FP R_Mo 75 1 26 (.array .int) true := ⟨R_Mo, F_Mo, 32, t_Mo, rfl, by decide, i_Mo, q_258, t_Mo_ok, n_Mo, rfl, by decide +kernel, fun h => by first | rfl | cases h⟩
theorem kp_Mo_78 : mm_FP R_Mo 78 1 27 (.array .int) true := ⟨R_Mo, F_Mo, 32, t_Mo, rfl, by decide, i_Mo, q_259, t_Mo_ok, n_Mo, rfl, by decide +kernel, fun h => by first | rfl | cases h⟩
theorem kp_Mo_81 : mm_FP R_Mo 81 1 28 (.array .int) true := ⟨R_Mo, F_Mo, 32, t_Mo, rfl, by decide, i_Mo, q_260, t_Mo_ok, n_Mo, rfl, by decide +kernel, fun h => by first | rfl | cases h⟩
theorem kp_Mo_84 : mm_FP R_Mo 84 1 30 (.array .int) true := ⟨R_Mo, F_Mo, 32, t_Mo, rfl, by decide, i_Mo, q_261, t_Mo_ok, n_Mo, rfl, by decide +kernel, fun h => by first | rfl | cases h⟩
theorem kp_Mo_87 : mm_FP R_Mo 87 1 31 (.array .int) true := ⟨R_Mo, F_Mo, 32, t_Mo, rfl, by decide, i_Mo, q_262, t_Mo_ok, n_Mo, rfl, by decide +kernel, fun h => by first | rfl | cases h⟩
theorem kp_Mo_104 : mm_FP R_Mo 104 1 29 .int false := ⟨R_Mo, F_Mo, 32, t_Mo, rfl, by decide, i_Mo, q_270, t_Mo_ok, n_Mo, rfl, by decide +kernel, fun h => by first | rfl | cases h⟩
theorem kp_Mo_90 : mm_FP R_Mo 90 1 0 .int false := ⟨R_Mo, F_Mo, 32, t_Mo, rfl, by decide, i_Mo, q_271, t_Mo_ok, n_Mo, rfl, by decide +kernel, fun h => by first | rfl | cases h⟩
theorem kp_Mo_98 : mm_FP R_Mo 98 1 1 .int false := ⟨R_Mo, F_Mo, 32, t_Mo, rfl, by decide, i_Mo, q_268, t_Mo_ok, n_Mo, rfl, by decide +kernel, fun h => by first | rfl | cases h⟩
theorem kp_Mo_101 : mm_FP R_Mo 101 1 9 .int false := ⟨R_Mo, F_Mo, 32, t_Mo, rfl, by decide, i_Mo, q_269, t_Mo_ok, n_Mo, rfl, by decide +kernel, fun h => by first | rfl | cases h⟩
theorem kp_Mo_122 : mm_FP R_Mo 122 1 17 .int false := ⟨R_Mo, F_Mo, 32, t_Mo, rfl, by decide, i_Mo, q_287, t_Mo_ok, n_Mo, rfl, by decide +kernel, fun h => by first | rfl | cases h⟩
theorem kp_Mo_142 : mm_FP R_Mo 142 1 25 .int false := ⟨R_Mo, F_Mo, 32, t_Mo, rfl, by decide, i_Mo, q_309, t_Mo_ok, n_Mo, rfl, by decide +kernel, fun h => by first | rfl | cases h⟩
