/-! the words that are used, by their places in the tables -/
def ds_T : List Cond := lw_tbl.filter goodWord
theorem ds_mem {w : Cond} (h : w ∈ lw_tbl) (hg : goodWord w = true) : w ∈ ds_T := List.mem_filter.mpr ⟨h, hg⟩
theorem ds_good : GoodIn ds_T ds_T := fun w hw => ⟨hw, good_of_word (List.mem_filter.mp hw).2⟩
theorem i_DS : ∀ w ∈ u_ws R_DS F_DS 7, w ∈ ds_T := fun w hw => ds_mem (i0_DS w hw) (List.all_eq_true.mp (show (u_ws R_DS F_DS 7).all goodWord = true by decide +kernel) w hw)
theorem i_Day : ∀ w ∈ u_ws R_Day F_Day 17, w ∈ ds_T := fun w hw => ds_mem (i0_Day w hw) (List.all_eq_true.mp (show (u_ws R_Day F_Day 17).all goodWord = true by decide +kernel) w hw)
theorem i_Se : ∀ w ∈ u_ws R_Se F_Se 3, w ∈ ds_T := fun w hw => ds_mem (i0_Se w hw) (List.all_eq_true.mp (show (u_ws R_Se F_Se 3).all goodWord = true by decide +kernel) w hw)
theorem i_Sh : ∀ w ∈ u_ws R_Sh F_Sh 3, w ∈ ds_T := fun w hw => ds_mem (i0_Sh w hw) (List.all_eq_true.mp (show (u_ws R_Sh F_Sh 3).all goodWord = true by decide +kernel) w hw)
theorem i_Mo : ∀ w ∈ u_ws R_Mo F_Mo 28, w ∈ ds_T := fun w hw => ds_mem (i0_Mo w hw) (List.all_eq_true.mp (show (u_ws R_Mo F_Mo 28).all goodWord = true by decide +kernel) w hw)
theorem wd_0 : Cond.initialized "DaySwapsLaw" ∈ ds_T := ds_mem (List.mem_append_right _ (List.mem_of_getElem? (i := 0) (by decide +kernel))) rfl
theorem wd_1 : Cond.initialized "DaySwaps" ∈ ds_T := ds_mem (List.mem_append_right _ (List.mem_of_getElem? (i := 1) (by decide +kernel))) rfl
theorem wd_2 : Cond.initialized "DaySwaps$Day" ∈ ds_T := ds_mem (List.mem_append_right _ (List.mem_of_getElem? (i := 2) (by decide +kernel))) rfl
theorem wd_3 : Cond.initialized "java/util/Arrays" ∈ ds_T := ds_mem (List.mem_append_right _ (List.mem_of_getElem? (i := 3) (by decide +kernel))) rfl
theorem wd_4 : Cond.initialized "DaySwaps$Search" ∈ ds_T := ds_mem (List.mem_append_right _ (List.mem_of_getElem? (i := 4) (by decide +kernel))) rfl
theorem wd_5 : Cond.initialized "DaySwaps$Shelf" ∈ ds_T := ds_mem (List.mem_append_right _ (List.mem_of_getElem? (i := 5) (by decide +kernel))) rfl
theorem wd_6 : Cond.initialized "DaySwapsModel" ∈ ds_T := ds_mem (List.mem_append_right _ (List.mem_of_getElem? (i := 6) (by decide +kernel))) rfl
theorem wd_7 : Cond.initialized "java/lang/Math" ∈ ds_T := ds_mem (List.mem_append_right _ (List.mem_of_getElem? (i := 7) (by decide +kernel))) rfl
theorem wd_8 : Cond.initialized "java/lang/System" ∈ ds_T := ds_mem (List.mem_append_right _ (List.mem_of_getElem? (i := 8) (by decide +kernel))) rfl
theorem wd_9 : Cond.initialized "java/lang/Integer" ∈ ds_T := ds_mem (List.mem_append_right _ (List.mem_of_getElem? (i := 9) (by decide +kernel))) rfl
theorem wd_10 : Cond.classLink "DaySwapsLaw" 7 "DaySwaps" ∈ ds_T := ds_mem (List.mem_append_right _ (List.mem_of_getElem? (i := 10) (by decide +kernel))) rfl
theorem wd_11 : Cond.instantiable "DaySwaps" 7 ∈ ds_T := ds_mem (List.mem_append_right _ (List.mem_of_getElem? (i := 11) (by decide +kernel))) rfl
theorem wd_12 : Cond.methodLink "DaySwapsLaw" 15 y_DS_init ∈ ds_T := ds_mem (List.mem_append_right _ (List.mem_of_getElem? (i := 12) (by decide +kernel))) rfl
theorem wd_13 : Cond.instanceMethod y_DS_init ∈ ds_T := ds_mem (List.mem_append_right _ (List.mem_of_getElem? (i := 13) (by decide +kernel))) rfl
theorem wd_14 : Cond.code y_DS_init prog_1_method_1_code 2 none ∈ ds_T := ds_mem (List.mem_append_right _ (List.mem_of_getElem? (i := 14) (by decide +kernel))) rfl
theorem wd_15 : Cond.methodLink "DaySwaps" 1 ⟨"java/lang/Object", "<init>", "()V"⟩ ∈ ds_T := ds_mem (List.mem_append_right _ (List.mem_of_getElem? (i := 15) (by decide +kernel))) rfl
theorem wd_16 : Cond.instanceMethod ⟨"java/lang/Object", "<init>", "()V"⟩ ∈ ds_T := ds_mem (List.mem_append_right _ (List.mem_of_getElem? (i := 16) (by decide +kernel))) rfl
theorem wd_17 : Cond.code ⟨"java/lang/Object", "<init>", "()V"⟩ object_method_1_code 1 none ∈ ds_T := ds_mem (List.mem_append_right _ (List.mem_of_getElem? (i := 17) (by decide +kernel))) rfl
theorem wd_18 : Cond.classLink "DaySwaps" 7 "DaySwaps$Day" ∈ ds_T := ds_mem (List.mem_append_right _ (List.mem_of_getElem? (i := 18) (by decide +kernel))) rfl
theorem wd_19 : Cond.instantiable "DaySwaps$Day" 17 ∈ ds_T := ds_mem (List.mem_append_right _ (List.mem_of_getElem? (i := 19) (by decide +kernel))) rfl
theorem wd_20 : Cond.methodLink "DaySwaps" 11 y_DS_isWithin ∈ ds_T := ds_mem (List.mem_append_right _ (List.mem_of_getElem? (i := 20) (by decide +kernel))) rfl
theorem wd_21 : Cond.static y_DS_isWithin ∈ ds_T := ds_mem (List.mem_append_right _ (List.mem_of_getElem? (i := 21) (by decide +kernel))) rfl
theorem wd_22 : Cond.code y_DS_isWithin prog_1_method_28_code 3 (some FieldType.boolean) ∈ ds_T := ds_mem (List.mem_append_right _ (List.mem_of_getElem? (i := 22) (by decide +kernel))) rfl
theorem wd_23 : Cond.methodLinkNest "DaySwaps" 15 y_Day_init "DaySwaps" ∈ lw_tbl := List.mem_append_right _ (List.mem_of_getElem? (i := 23) (by decide +kernel))
theorem wd_24 : Cond.instanceMethod y_Day_init ∈ ds_T := ds_mem (List.mem_append_right _ (List.mem_of_getElem? (i := 24) (by decide +kernel))) rfl
theorem wd_25 : Cond.code y_Day_init prog_2_method_1_code 3 none ∈ ds_T := ds_mem (List.mem_append_right _ (List.mem_of_getElem? (i := 25) (by decide +kernel))) rfl
theorem wd_26 : Cond.methodLink "DaySwaps$Day" 3 ⟨"java/lang/Object", "<init>", "()V"⟩ ∈ ds_T := ds_mem (List.mem_append_right _ (List.mem_of_getElem? (i := 26) (by decide +kernel))) rfl
theorem wd_27 : Cond.classLink "DaySwaps$Day" 31 "[[I" ∈ ds_T := ds_mem (List.mem_append_right _ (List.mem_of_getElem? (i := 27) (by decide +kernel))) rfl
theorem wd_28 : Cond.arrayOver (FieldType.array FieldType.int) ∈ lw_tbl := List.mem_append_right _ (List.mem_of_getElem? (i := 28) (by decide +kernel))
theorem wd_29 : Cond.methodLink "DaySwaps$Day" 61 y_Ar_fill ∈ ds_T := ds_mem (List.mem_append_right _ (List.mem_of_getElem? (i := 29) (by decide +kernel))) rfl
theorem wd_30 : Cond.static y_Ar_fill ∈ ds_T := ds_mem (List.mem_append_right _ (List.mem_of_getElem? (i := 30) (by decide +kernel))) rfl
theorem wd_31 : Cond.code y_Ar_fill prog_10_method_103_code 4 none ∈ ds_T := ds_mem (List.mem_append_right _ (List.mem_of_getElem? (i := 31) (by decide +kernel))) rfl
theorem wd_32 : Cond.fieldLink "DaySwaps$Day" 57 "DaySwaps$Day" "vehicles" "I" ∈ ds_T := ds_mem (List.mem_append_right _ (List.mem_of_getElem? (i := 32) (by decide +kernel))) rfl
theorem wd_33 : Cond.fieldLinkNest "DaySwaps$Search" 28 "DaySwaps$Day" "vehicles" "I" "DaySwaps" ∈ lw_tbl := List.mem_append_right _ (List.mem_of_getElem? (i := 33) (by decide +kernel))
theorem wd_34 : Cond.fieldLinkNest "DaySwaps" 127 "DaySwaps$Day" "vehicles" "I" "DaySwaps" ∈ lw_tbl := List.mem_append_right _ (List.mem_of_getElem? (i := 34) (by decide +kernel))
theorem wd_35 : Cond.fieldLinkNest "DaySwaps" 51 "DaySwaps$Day" "stops" "I" "DaySwaps" ∈ lw_tbl := List.mem_append_right _ (List.mem_of_getElem? (i := 35) (by decide +kernel))
theorem wd_36 : Cond.fieldLinkNest "DaySwaps$Search" 22 "DaySwaps$Day" "stops" "I" "DaySwaps" ∈ lw_tbl := List.mem_append_right _ (List.mem_of_getElem? (i := 36) (by decide +kernel))
theorem wd_37 : Cond.fieldLink "DaySwaps$Day" 71 "DaySwaps$Day" "stops" "I" ∈ ds_T := ds_mem (List.mem_append_right _ (List.mem_of_getElem? (i := 37) (by decide +kernel))) rfl
theorem wd_38 : Cond.fieldLink "DaySwaps$Day" 9 "DaySwaps$Day" "placeOf" "[I" ∈ ds_T := ds_mem (List.mem_append_right _ (List.mem_of_getElem? (i := 38) (by decide +kernel))) rfl
theorem wd_39 : Cond.fieldLink "DaySwaps$Day" 15 "DaySwaps$Day" "serviceOf" "[I" ∈ ds_T := ds_mem (List.mem_append_right _ (List.mem_of_getElem? (i := 39) (by decide +kernel))) rfl
theorem wd_40 : Cond.fieldLink "DaySwaps$Day" 18 "DaySwaps$Day" "rowOf" "[I" ∈ ds_T := ds_mem (List.mem_append_right _ (List.mem_of_getElem? (i := 40) (by decide +kernel))) rfl
theorem wd_41 : Cond.fieldLinkNest "DaySwaps$Search" 58 "DaySwaps$Day" "rowOf" "[I" "DaySwaps" ∈ lw_tbl := List.mem_append_right _ (List.mem_of_getElem? (i := 41) (by decide +kernel))
theorem wd_42 : Cond.fieldLinkNest "DaySwaps" 139 "DaySwaps$Day" "rowOf" "[I" "DaySwaps" ∈ lw_tbl := List.mem_append_right _ (List.mem_of_getElem? (i := 42) (by decide +kernel))
theorem wd_43 : Cond.fieldLink "DaySwaps$Day" 21 "DaySwaps$Day" "rankOf" "[I" ∈ ds_T := ds_mem (List.mem_append_right _ (List.mem_of_getElem? (i := 43) (by decide +kernel))) rfl
theorem wd_44 : Cond.fieldLink "DaySwaps$Day" 24 "DaySwaps$Day" "frozen" "[Z" ∈ ds_T := ds_mem (List.mem_append_right _ (List.mem_of_getElem? (i := 44) (by decide +kernel))) rfl
theorem wd_45 : Cond.fieldLinkNest "DaySwaps" 69 "DaySwaps$Day" "frozen" "[Z" "DaySwaps" ∈ lw_tbl := List.mem_append_right _ (List.mem_of_getElem? (i := 45) (by decide +kernel))
theorem wd_46 : Cond.fieldLink "DaySwaps$Day" 28 "DaySwaps$Day" "blocked" "[Z" ∈ ds_T := ds_mem (List.mem_append_right _ (List.mem_of_getElem? (i := 46) (by decide +kernel))) rfl
theorem wd_47 : Cond.fieldLinkNest "DaySwaps" 73 "DaySwaps$Day" "blocked" "[Z" "DaySwaps" ∈ lw_tbl := List.mem_append_right _ (List.mem_of_getElem? (i := 47) (by decide +kernel))
theorem wd_48 : Cond.fieldLink "DaySwaps$Day" 33 "DaySwaps$Day" "rows" "[[I" ∈ ds_T := ds_mem (List.mem_append_right _ (List.mem_of_getElem? (i := 48) (by decide +kernel))) rfl
theorem wd_49 : Cond.fieldLink "DaySwaps$Day" 36 "DaySwaps$Day" "lengthOf" "[I" ∈ ds_T := ds_mem (List.mem_append_right _ (List.mem_of_getElem? (i := 49) (by decide +kernel))) rfl
theorem wd_50 : Cond.fieldLink "DaySwaps$Day" 39 "DaySwaps$Day" "newRows" "[[I" ∈ ds_T := ds_mem (List.mem_append_right _ (List.mem_of_getElem? (i := 50) (by decide +kernel))) rfl
theorem wd_51 : Cond.fieldLink "DaySwaps$Day" 42 "DaySwaps$Day" "newLengthOf" "[I" ∈ ds_T := ds_mem (List.mem_append_right _ (List.mem_of_getElem? (i := 51) (by decide +kernel))) rfl
theorem wd_52 : Cond.fieldLink "DaySwaps$Day" 45 "DaySwaps$Day" "outFrom" "[I" ∈ ds_T := ds_mem (List.mem_append_right _ (List.mem_of_getElem? (i := 52) (by decide +kernel))) rfl
theorem wd_53 : Cond.fieldLinkNest "DaySwaps" 76 "DaySwaps$Day" "outFrom" "[I" "DaySwaps" ∈ lw_tbl := List.mem_append_right _ (List.mem_of_getElem? (i := 53) (by decide +kernel))
theorem wd_54 : Cond.fieldLink "DaySwaps$Day" 48 "DaySwaps$Day" "hoursOf" "[I" ∈ ds_T := ds_mem (List.mem_append_right _ (List.mem_of_getElem? (i := 54) (by decide +kernel))) rfl
theorem wd_55 : Cond.fieldLinkNest "DaySwaps" 84 "DaySwaps$Day" "hoursOf" "[I" "DaySwaps" ∈ lw_tbl := List.mem_append_right _ (List.mem_of_getElem? (i := 55) (by decide +kernel))
theorem wd_56 : Cond.fieldLink "DaySwaps$Day" 51 "DaySwaps$Day" "ways" "[[I" ∈ ds_T := ds_mem (List.mem_append_right _ (List.mem_of_getElem? (i := 56) (by decide +kernel))) rfl
theorem wd_57 : Cond.fieldLinkNest "DaySwaps" 79 "DaySwaps$Day" "ways" "[[I" "DaySwaps" ∈ lw_tbl := List.mem_append_right _ (List.mem_of_getElem? (i := 57) (by decide +kernel))
theorem wd_58 : Cond.fieldLink "DaySwaps$Day" 54 "DaySwaps$Day" "round" "[I" ∈ ds_T := ds_mem (List.mem_append_right _ (List.mem_of_getElem? (i := 58) (by decide +kernel))) rfl
theorem wd_59 : Cond.fieldLinkNest "DaySwaps$Search" 71 "DaySwaps$Day" "mostOver" "I" "DaySwaps" ∈ lw_tbl := List.mem_append_right _ (List.mem_of_getElem? (i := 59) (by decide +kernel))
theorem wd_60 : Cond.fieldLinkNest "DaySwaps" 87 "DaySwaps$Day" "mostOver" "I" "DaySwaps" ∈ lw_tbl := List.mem_append_right _ (List.mem_of_getElem? (i := 60) (by decide +kernel))
theorem wd_96 : Cond.arrayClass FieldType.int ∈ ds_T := ds_mem (List.mem_append_right _ (List.mem_of_getElem? (i := 96) (by decide +kernel))) rfl
theorem wd_97 : Cond.arrayClass FieldType.boolean ∈ ds_T := ds_mem (List.mem_append_right _ (List.mem_of_getElem? (i := 97) (by decide +kernel))) rfl
theorem wd_98 : Cond.classLink "DaySwaps" 22 "DaySwaps$Search" ∈ ds_T := ds_mem (List.mem_append_right _ (List.mem_of_getElem? (i := 98) (by decide +kernel))) rfl
theorem wd_99 : Cond.instantiable "DaySwaps$Search" 3 ∈ ds_T := ds_mem (List.mem_append_right _ (List.mem_of_getElem? (i := 99) (by decide +kernel))) rfl
theorem wd_100 : Cond.methodLinkNest "DaySwaps" 24 y_Se_init "DaySwaps" ∈ lw_tbl := List.mem_append_right _ (List.mem_of_getElem? (i := 100) (by decide +kernel))
theorem wd_101 : Cond.instanceMethod y_Se_init ∈ ds_T := ds_mem (List.mem_append_right _ (List.mem_of_getElem? (i := 101) (by decide +kernel))) rfl
theorem wd_102 : Cond.code y_Se_init prog_3_method_1_code 2 none ∈ ds_T := ds_mem (List.mem_append_right _ (List.mem_of_getElem? (i := 102) (by decide +kernel))) rfl
theorem wd_103 : Cond.methodLink "DaySwaps$Search" 5 ⟨"java/lang/Object", "<init>", "()V"⟩ ∈ ds_T := ds_mem (List.mem_append_right _ (List.mem_of_getElem? (i := 103) (by decide +kernel))) rfl
theorem wd_104 : Cond.fieldLink "DaySwaps$Search" 18 "DaySwaps$Search" "day" "LDaySwaps$Day;" ∈ ds_T := ds_mem (List.mem_append_right _ (List.mem_of_getElem? (i := 104) (by decide +kernel))) rfl
theorem wd_105 : Cond.fieldLink "DaySwaps$Search" 11 "DaySwaps$Search" "weights" "[J" ∈ ds_T := ds_mem (List.mem_append_right _ (List.mem_of_getElem? (i := 105) (by decide +kernel))) rfl
theorem wd_106 : Cond.fieldLink "DaySwaps$Search" 15 "DaySwaps$Search" "best" "[J" ∈ ds_T := ds_mem (List.mem_append_right _ (List.mem_of_getElem? (i := 106) (by decide +kernel))) rfl
theorem wd_114 : Cond.arrayClass FieldType.long ∈ ds_T := ds_mem (List.mem_append_right _ (List.mem_of_getElem? (i := 114) (by decide +kernel))) rfl
theorem wd_115 : Cond.classLink "DaySwaps" 31 "DaySwaps$Shelf" ∈ ds_T := ds_mem (List.mem_append_right _ (List.mem_of_getElem? (i := 115) (by decide +kernel))) rfl
theorem wd_116 : Cond.instantiable "DaySwaps$Shelf" 3 ∈ ds_T := ds_mem (List.mem_append_right _ (List.mem_of_getElem? (i := 116) (by decide +kernel))) rfl
theorem wd_117 : Cond.methodLinkNest "DaySwaps" 33 y_Sh_init "DaySwaps" ∈ lw_tbl := List.mem_append_right _ (List.mem_of_getElem? (i := 117) (by decide +kernel))
theorem wd_118 : Cond.instanceMethod y_Sh_init ∈ ds_T := ds_mem (List.mem_append_right _ (List.mem_of_getElem? (i := 118) (by decide +kernel))) rfl
theorem wd_119 : Cond.code y_Sh_init prog_4_method_1_code 2 none ∈ ds_T := ds_mem (List.mem_append_right _ (List.mem_of_getElem? (i := 119) (by decide +kernel))) rfl
theorem wd_120 : Cond.methodLink "DaySwaps$Shelf" 3 ⟨"java/lang/Object", "<init>", "()V"⟩ ∈ ds_T := ds_mem (List.mem_append_right _ (List.mem_of_getElem? (i := 120) (by decide +kernel))) rfl
theorem wd_121 : Cond.classLink "DaySwaps$Shelf" 9 "[[I" ∈ ds_T := ds_mem (List.mem_append_right _ (List.mem_of_getElem? (i := 121) (by decide +kernel))) rfl
theorem wd_122 : Cond.fieldLink "DaySwaps$Shelf" 11 "DaySwaps$Shelf" "plans" "[[I" ∈ ds_T := ds_mem (List.mem_append_right _ (List.mem_of_getElem? (i := 122) (by decide +kernel))) rfl
theorem wd_123 : Cond.fieldLinkNest "DaySwaps" 136 "DaySwaps$Shelf" "plans" "[[I" "DaySwaps" ∈ lw_tbl := List.mem_append_right _ (List.mem_of_getElem? (i := 123) (by decide +kernel))
theorem wd_124 : Cond.fieldLink "DaySwaps$Shelf" 16 "DaySwaps$Shelf" "stopsOf" "[I" ∈ ds_T := ds_mem (List.mem_append_right _ (List.mem_of_getElem? (i := 124) (by decide +kernel))) rfl
theorem wd_125 : Cond.fieldLinkNest "DaySwaps" 133 "DaySwaps$Shelf" "stopsOf" "[I" "DaySwaps" ∈ lw_tbl := List.mem_append_right _ (List.mem_of_getElem? (i := 125) (by decide +kernel))
theorem wd_126 : Cond.fieldLink "DaySwaps$Shelf" 20 "DaySwaps$Shelf" "size" "I" ∈ ds_T := ds_mem (List.mem_append_right _ (List.mem_of_getElem? (i := 126) (by decide +kernel))) rfl
theorem wd_127 : Cond.fieldLinkNest "DaySwaps" 130 "DaySwaps$Shelf" "size" "I" "DaySwaps" ∈ lw_tbl := List.mem_append_right _ (List.mem_of_getElem? (i := 127) (by decide +kernel))
theorem wd_135 : Cond.fieldLink "DaySwaps" 18 "DaySwaps" "day" "LDaySwaps$Day;" ∈ ds_T := ds_mem (List.mem_append_right _ (List.mem_of_getElem? (i := 135) (by decide +kernel))) rfl
theorem wd_136 : Cond.fieldLink "DaySwaps" 27 "DaySwaps" "search" "LDaySwaps$Search;" ∈ ds_T := ds_mem (List.mem_append_right _ (List.mem_of_getElem? (i := 136) (by decide +kernel))) rfl
theorem wd_137 : Cond.fieldLink "DaySwaps" 34 "DaySwaps" "kept" "LDaySwaps$Shelf;" ∈ ds_T := ds_mem (List.mem_append_right _ (List.mem_of_getElem? (i := 137) (by decide +kernel))) rfl
theorem wd_138 : Cond.fieldLink "DaySwaps" 38 "DaySwaps" "beside" "LDaySwaps$Shelf;" ∈ ds_T := ds_mem (List.mem_append_right _ (List.mem_of_getElem? (i := 138) (by decide +kernel))) rfl
theorem wd_139 : Cond.fieldLink "DaySwaps" 41 "DaySwaps" "plan" "[I" ∈ ds_T := ds_mem (List.mem_append_right _ (List.mem_of_getElem? (i := 139) (by decide +kernel))) rfl
theorem wd_140 : Cond.fieldLink "DaySwaps" 45 "DaySwaps" "noticed" "[I" ∈ ds_T := ds_mem (List.mem_append_right _ (List.mem_of_getElem? (i := 140) (by decide +kernel))) rfl
theorem wd_141 : Cond.fieldLink "DaySwaps" 48 "DaySwaps" "notices" "[I" ∈ ds_T := ds_mem (List.mem_append_right _ (List.mem_of_getElem? (i := 141) (by decide +kernel))) rfl
theorem wd_157 : Cond.methodLink "DaySwapsLaw" 21 y_DS_stop ∈ ds_T := ds_mem (List.mem_append_right _ (List.mem_of_getElem? (i := 157) (by decide +kernel))) rfl
theorem wd_158 : Cond.instanceMethod y_DS_stop ∈ ds_T := ds_mem (List.mem_append_right _ (List.mem_of_getElem? (i := 158) (by decide +kernel))) rfl
theorem wd_159 : Cond.selects "DaySwaps" y_DS_stop y_DS_stop ∈ ds_T := ds_mem (List.mem_append_right _ (List.mem_of_getElem? (i := 159) (by decide +kernel))) rfl
theorem wd_160 : Cond.code y_DS_stop prog_1_method_2_code 5 (some FieldType.int) ∈ ds_T := ds_mem (List.mem_append_right _ (List.mem_of_getElem? (i := 160) (by decide +kernel))) rfl
theorem wd_161 : Cond.methodLinkNest "DaySwaps" 55 y_Day_isVehicle "DaySwaps" ∈ lw_tbl := List.mem_append_right _ (List.mem_of_getElem? (i := 161) (by decide +kernel))
theorem wd_163 : Cond.instanceMethod y_Day_isVehicle ∈ ds_T := ds_mem (List.mem_append_right _ (List.mem_of_getElem? (i := 163) (by decide +kernel))) rfl
theorem wd_164 : Cond.code y_Day_isVehicle prog_2_method_2_code 2 (some FieldType.boolean) ∈ ds_T := ds_mem (List.mem_append_right _ (List.mem_of_getElem? (i := 164) (by decide +kernel))) rfl
theorem wd_165 : Cond.methodLinkNest "DaySwaps$Day" 67 y_DS_isWithin "DaySwaps" ∈ lw_tbl := List.mem_append_right _ (List.mem_of_getElem? (i := 165) (by decide +kernel))
theorem wd_166 : Cond.methodLink "DaySwaps" 59 y_DS_isPlace ∈ ds_T := ds_mem (List.mem_append_right _ (List.mem_of_getElem? (i := 166) (by decide +kernel))) rfl
theorem wd_167 : Cond.static y_DS_isPlace ∈ ds_T := ds_mem (List.mem_append_right _ (List.mem_of_getElem? (i := 167) (by decide +kernel))) rfl
theorem wd_168 : Cond.code y_DS_isPlace prog_1_method_27_code 1 (some FieldType.boolean) ∈ ds_T := ds_mem (List.mem_append_right _ (List.mem_of_getElem? (i := 168) (by decide +kernel))) rfl
theorem wd_169 : Cond.methodLinkNest "DaySwaps" 62 y_Day_tell "DaySwaps" ∈ lw_tbl := List.mem_append_right _ (List.mem_of_getElem? (i := 169) (by decide +kernel))
theorem wd_171 : Cond.instanceMethod y_Day_tell ∈ ds_T := ds_mem (List.mem_append_right _ (List.mem_of_getElem? (i := 171) (by decide +kernel))) rfl
theorem wd_172 : Cond.code y_Day_tell prog_2_method_4_code 5 (some FieldType.int) ∈ ds_T := ds_mem (List.mem_append_right _ (List.mem_of_getElem? (i := 172) (by decide +kernel))) rfl
theorem wd_173 : Cond.methodLink "DaySwaps$Day" 74 y_Day_append ∈ ds_T := ds_mem (List.mem_append_right _ (List.mem_of_getElem? (i := 173) (by decide +kernel))) rfl
theorem wd_175 : Cond.instanceMethod y_Day_append ∈ ds_T := ds_mem (List.mem_append_right _ (List.mem_of_getElem? (i := 175) (by decide +kernel))) rfl
theorem wd_176 : Cond.code y_Day_append prog_2_method_5_code 4 none ∈ ds_T := ds_mem (List.mem_append_right _ (List.mem_of_getElem? (i := 176) (by decide +kernel))) rfl
theorem wd_177 : Cond.methodLink "DaySwapsLaw" 26 y_DS_freeze ∈ ds_T := ds_mem (List.mem_append_right _ (List.mem_of_getElem? (i := 177) (by decide +kernel))) rfl
theorem wd_178 : Cond.instanceMethod y_DS_freeze ∈ ds_T := ds_mem (List.mem_append_right _ (List.mem_of_getElem? (i := 178) (by decide +kernel))) rfl
theorem wd_179 : Cond.selects "DaySwaps" y_DS_freeze y_DS_freeze ∈ ds_T := ds_mem (List.mem_append_right _ (List.mem_of_getElem? (i := 179) (by decide +kernel))) rfl
theorem wd_180 : Cond.code y_DS_freeze prog_1_method_3_code 3 (some FieldType.boolean) ∈ ds_T := ds_mem (List.mem_append_right _ (List.mem_of_getElem? (i := 180) (by decide +kernel))) rfl
theorem wd_181 : Cond.methodLinkNest "DaySwaps" 66 y_Day_isStop "DaySwaps" ∈ lw_tbl := List.mem_append_right _ (List.mem_of_getElem? (i := 181) (by decide +kernel))
theorem wd_183 : Cond.instanceMethod y_Day_isStop ∈ ds_T := ds_mem (List.mem_append_right _ (List.mem_of_getElem? (i := 183) (by decide +kernel))) rfl
theorem wd_184 : Cond.code y_Day_isStop prog_2_method_3_code 2 (some FieldType.boolean) ∈ ds_T := ds_mem (List.mem_append_right _ (List.mem_of_getElem? (i := 184) (by decide +kernel))) rfl
theorem wd_185 : Cond.methodLink "DaySwapsLaw" 31 y_DS_block ∈ ds_T := ds_mem (List.mem_append_right _ (List.mem_of_getElem? (i := 185) (by decide +kernel))) rfl
theorem wd_186 : Cond.instanceMethod y_DS_block ∈ ds_T := ds_mem (List.mem_append_right _ (List.mem_of_getElem? (i := 186) (by decide +kernel))) rfl
theorem wd_187 : Cond.selects "DaySwaps" y_DS_block y_DS_block ∈ ds_T := ds_mem (List.mem_append_right _ (List.mem_of_getElem? (i := 187) (by decide +kernel))) rfl
theorem wd_188 : Cond.code y_DS_block prog_1_method_4_code 3 (some FieldType.boolean) ∈ ds_T := ds_mem (List.mem_append_right _ (List.mem_of_getElem? (i := 188) (by decide +kernel))) rfl
theorem wd_189 : Cond.methodLink "DaySwapsLaw" 35 y_DS_out ∈ ds_T := ds_mem (List.mem_append_right _ (List.mem_of_getElem? (i := 189) (by decide +kernel))) rfl
theorem wd_190 : Cond.instanceMethod y_DS_out ∈ ds_T := ds_mem (List.mem_append_right _ (List.mem_of_getElem? (i := 190) (by decide +kernel))) rfl
theorem wd_191 : Cond.selects "DaySwaps" y_DS_out y_DS_out ∈ ds_T := ds_mem (List.mem_append_right _ (List.mem_of_getElem? (i := 191) (by decide +kernel))) rfl
theorem wd_192 : Cond.code y_DS_out prog_1_method_5_code 3 (some FieldType.boolean) ∈ ds_T := ds_mem (List.mem_append_right _ (List.mem_of_getElem? (i := 192) (by decide +kernel))) rfl
theorem wd_193 : Cond.methodLink "DaySwapsLaw" 40 y_DS_way ∈ ds_T := ds_mem (List.mem_append_right _ (List.mem_of_getElem? (i := 193) (by decide +kernel))) rfl
theorem wd_194 : Cond.instanceMethod y_DS_way ∈ ds_T := ds_mem (List.mem_append_right _ (List.mem_of_getElem? (i := 194) (by decide +kernel))) rfl
theorem wd_195 : Cond.selects "DaySwaps" y_DS_way y_DS_way ∈ ds_T := ds_mem (List.mem_append_right _ (List.mem_of_getElem? (i := 195) (by decide +kernel))) rfl
theorem wd_196 : Cond.code y_DS_way prog_1_method_6_code 4 (some FieldType.boolean) ∈ ds_T := ds_mem (List.mem_append_right _ (List.mem_of_getElem? (i := 196) (by decide +kernel))) rfl
theorem wd_197 : Cond.methodLink "DaySwapsLaw" 45 y_DS_hours ∈ ds_T := ds_mem (List.mem_append_right _ (List.mem_of_getElem? (i := 197) (by decide +kernel))) rfl
theorem wd_198 : Cond.instanceMethod y_DS_hours ∈ ds_T := ds_mem (List.mem_append_right _ (List.mem_of_getElem? (i := 198) (by decide +kernel))) rfl
theorem wd_199 : Cond.selects "DaySwaps" y_DS_hours y_DS_hours ∈ ds_T := ds_mem (List.mem_append_right _ (List.mem_of_getElem? (i := 199) (by decide +kernel))) rfl
theorem wd_200 : Cond.code y_DS_hours prog_1_method_7_code 3 (some FieldType.boolean) ∈ ds_T := ds_mem (List.mem_append_right _ (List.mem_of_getElem? (i := 200) (by decide +kernel))) rfl
theorem wd_201 : Cond.constant "DaySwaps" 83 (100000 : Int32) ∈ ds_T := ds_mem (List.mem_append_right _ (List.mem_of_getElem? (i := 201) (by decide +kernel))) rfl
theorem wd_202 : Cond.methodLink "DaySwapsLaw" 49 y_DS_extra ∈ ds_T := ds_mem (List.mem_append_right _ (List.mem_of_getElem? (i := 202) (by decide +kernel))) rfl
theorem wd_203 : Cond.instanceMethod y_DS_extra ∈ ds_T := ds_mem (List.mem_append_right _ (List.mem_of_getElem? (i := 203) (by decide +kernel))) rfl
theorem wd_204 : Cond.selects "DaySwaps" y_DS_extra y_DS_extra ∈ ds_T := ds_mem (List.mem_append_right _ (List.mem_of_getElem? (i := 204) (by decide +kernel))) rfl
theorem wd_205 : Cond.code y_DS_extra prog_1_method_8_code 2 (some FieldType.boolean) ∈ ds_T := ds_mem (List.mem_append_right _ (List.mem_of_getElem? (i := 205) (by decide +kernel))) rfl
theorem wd_206 : Cond.methodLink "DaySwapsLaw" 54 y_DS_run ∈ ds_T := ds_mem (List.mem_append_right _ (List.mem_of_getElem? (i := 206) (by decide +kernel))) rfl
theorem wd_207 : Cond.instanceMethod y_DS_run ∈ ds_T := ds_mem (List.mem_append_right _ (List.mem_of_getElem? (i := 207) (by decide +kernel))) rfl
theorem wd_208 : Cond.selects "DaySwaps" y_DS_run y_DS_run ∈ ds_T := ds_mem (List.mem_append_right _ (List.mem_of_getElem? (i := 208) (by decide +kernel))) rfl
theorem wd_209 : Cond.code y_DS_run prog_1_method_9_code 4 (some FieldType.int) ∈ ds_T := ds_mem (List.mem_append_right _ (List.mem_of_getElem? (i := 209) (by decide +kernel))) rfl
theorem wd_210 : Cond.methodLinkNest "DaySwaps" 90 y_Se_least "DaySwaps" ∈ lw_tbl := List.mem_append_right _ (List.mem_of_getElem? (i := 210) (by decide +kernel))
theorem wd_212 : Cond.instanceMethod y_Se_least ∈ ds_T := ds_mem (List.mem_append_right _ (List.mem_of_getElem? (i := 212) (by decide +kernel))) rfl
theorem wd_213 : Cond.code y_Se_least prog_3_method_2_code 4 (some FieldType.long) ∈ ds_T := ds_mem (List.mem_append_right _ (List.mem_of_getElem? (i := 213) (by decide +kernel))) rfl
theorem wd_214 : Cond.methodLink "DaySwaps$Search" 31 y_Se_weightOf ∈ ds_T := ds_mem (List.mem_append_right _ (List.mem_of_getElem? (i := 214) (by decide +kernel))) rfl
theorem wd_216 : Cond.instanceMethod y_Se_weightOf ∈ ds_T := ds_mem (List.mem_append_right _ (List.mem_of_getElem? (i := 216) (by decide +kernel))) rfl
theorem wd_217 : Cond.code y_Se_weightOf prog_3_method_4_code 7 (some FieldType.long) ∈ ds_T := ds_mem (List.mem_append_right _ (List.mem_of_getElem? (i := 217) (by decide +kernel))) rfl
theorem wd_218 : Cond.methodLinkNest "DaySwaps$Search" 45 y_DS_isIn "DaySwaps" ∈ lw_tbl := List.mem_append_right _ (List.mem_of_getElem? (i := 218) (by decide +kernel))
theorem wd_219 : Cond.static y_DS_isIn ∈ ds_T := ds_mem (List.mem_append_right _ (List.mem_of_getElem? (i := 219) (by decide +kernel))) rfl
theorem wd_220 : Cond.code y_DS_isIn prog_1_method_26_code 2 (some FieldType.boolean) ∈ ds_T := ds_mem (List.mem_append_right _ (List.mem_of_getElem? (i := 220) (by decide +kernel))) rfl
theorem wd_221 : Cond.methodLinkNest "DaySwaps$Search" 49 y_Day_mayHave "DaySwaps" ∈ lw_tbl := List.mem_append_right _ (List.mem_of_getElem? (i := 221) (by decide +kernel))
theorem wd_223 : Cond.instanceMethod y_Day_mayHave ∈ ds_T := ds_mem (List.mem_append_right _ (List.mem_of_getElem? (i := 223) (by decide +kernel))) rfl
theorem wd_224 : Cond.code y_Day_mayHave prog_2_method_7_code 3 (some FieldType.boolean) ∈ ds_T := ds_mem (List.mem_append_right _ (List.mem_of_getElem? (i := 224) (by decide +kernel))) rfl
theorem wd_225 : Cond.methodLink "DaySwaps$Day" 78 y_Day_canDo ∈ ds_T := ds_mem (List.mem_append_right _ (List.mem_of_getElem? (i := 225) (by decide +kernel))) rfl
theorem wd_227 : Cond.instanceMethod y_Day_canDo ∈ ds_T := ds_mem (List.mem_append_right _ (List.mem_of_getElem? (i := 227) (by decide +kernel))) rfl
theorem wd_228 : Cond.code y_Day_canDo prog_2_method_6_code 3 (some FieldType.boolean) ∈ ds_T := ds_mem (List.mem_append_right _ (List.mem_of_getElem? (i := 228) (by decide +kernel))) rfl
theorem wd_229 : Cond.constantLong "DaySwaps$Search" 52 (1152921504606846976 : Int64) ∈ ds_T := ds_mem (List.mem_append_right _ (List.mem_of_getElem? (i := 229) (by decide +kernel))) rfl
theorem wd_230 : Cond.methodLink "DaySwaps$Search" 54 y_Se_digitShift ∈ ds_T := ds_mem (List.mem_append_right _ (List.mem_of_getElem? (i := 230) (by decide +kernel))) rfl
theorem wd_231 : Cond.static y_Se_digitShift ∈ ds_T := ds_mem (List.mem_append_right _ (List.mem_of_getElem? (i := 231) (by decide +kernel))) rfl
theorem wd_232 : Cond.code y_Se_digitShift prog_3_method_6_code 1 (some FieldType.int) ∈ ds_T := ds_mem (List.mem_append_right _ (List.mem_of_getElem? (i := 232) (by decide +kernel))) rfl
theorem wd_233 : Cond.constantLong "DaySwaps$Search" 62 (1099511627776 : Int64) ∈ ds_T := ds_mem (List.mem_append_right _ (List.mem_of_getElem? (i := 233) (by decide +kernel))) rfl
theorem wd_234 : Cond.methodLinkNest "DaySwaps$Search" 64 y_Day_timeOf "DaySwaps" ∈ lw_tbl := List.mem_append_right _ (List.mem_of_getElem? (i := 234) (by decide +kernel))
theorem wd_236 : Cond.instanceMethod y_Day_timeOf ∈ ds_T := ds_mem (List.mem_append_right _ (List.mem_of_getElem? (i := 236) (by decide +kernel))) rfl
theorem wd_237 : Cond.code y_Day_timeOf prog_2_method_10_code 8 (some FieldType.int) ∈ ds_T := ds_mem (List.mem_append_right _ (List.mem_of_getElem? (i := 237) (by decide +kernel))) rfl
theorem wd_238 : Cond.methodLink "DaySwaps$Day" 85 y_Day_addRound ∈ ds_T := ds_mem (List.mem_append_right _ (List.mem_of_getElem? (i := 238) (by decide +kernel))) rfl
theorem wd_240 : Cond.instanceMethod y_Day_addRound ∈ ds_T := ds_mem (List.mem_append_right _ (List.mem_of_getElem? (i := 240) (by decide +kernel))) rfl
theorem wd_241 : Cond.code y_Day_addRound prog_2_method_8_code 7 (some FieldType.int) ∈ ds_T := ds_mem (List.mem_append_right _ (List.mem_of_getElem? (i := 241) (by decide +kernel))) rfl
theorem wd_242 : Cond.methodLinkNest "DaySwaps$Day" 82 y_DS_isIn "DaySwaps" ∈ lw_tbl := List.mem_append_right _ (List.mem_of_getElem? (i := 242) (by decide +kernel))
theorem wd_243 : Cond.methodLinkNest "DaySwaps$Search" 68 y_Day_overHours "DaySwaps" ∈ lw_tbl := List.mem_append_right _ (List.mem_of_getElem? (i := 243) (by decide +kernel))
theorem wd_245 : Cond.instanceMethod y_Day_overHours ∈ ds_T := ds_mem (List.mem_append_right _ (List.mem_of_getElem? (i := 245) (by decide +kernel))) rfl
theorem wd_246 : Cond.code y_Day_overHours prog_2_method_11_code 3 (some FieldType.int) ∈ ds_T := ds_mem (List.mem_append_right _ (List.mem_of_getElem? (i := 246) (by decide +kernel))) rfl
theorem wd_247 : Cond.methodLink "DaySwaps$Day" 89 ⟨"java/lang/Math", "max", "(II)I"⟩ ∈ ds_T := ds_mem (List.mem_append_right _ (List.mem_of_getElem? (i := 247) (by decide +kernel))) rfl
theorem wd_248 : Cond.static ⟨"java/lang/Math", "max", "(II)I"⟩ ∈ ds_T := ds_mem (List.mem_append_right _ (List.mem_of_getElem? (i := 248) (by decide +kernel))) rfl
theorem wd_249 : Cond.code ⟨"java/lang/Math", "max", "(II)I"⟩ prog_8_method_65_code 2 (some FieldType.int) ∈ ds_T := ds_mem (List.mem_append_right _ (List.mem_of_getElem? (i := 249) (by decide +kernel))) rfl
theorem wd_250 : Cond.methodLink "DaySwaps$Search" 35 y_Se_join ∈ ds_T := ds_mem (List.mem_append_right _ (List.mem_of_getElem? (i := 250) (by decide +kernel))) rfl
theorem wd_252 : Cond.instanceMethod y_Se_join ∈ ds_T := ds_mem (List.mem_append_right _ (List.mem_of_getElem? (i := 252) (by decide +kernel))) rfl
theorem wd_253 : Cond.code y_Se_join prog_3_method_3_code 6 none ∈ ds_T := ds_mem (List.mem_append_right _ (List.mem_of_getElem? (i := 253) (by decide +kernel))) rfl
theorem wd_254 : Cond.methodLink "DaySwaps$Search" 39 ⟨"java/lang/Math", "min", "(JJ)J"⟩ ∈ ds_T := ds_mem (List.mem_append_right _ (List.mem_of_getElem? (i := 254) (by decide +kernel))) rfl
theorem wd_255 : Cond.static ⟨"java/lang/Math", "min", "(JJ)J"⟩ ∈ ds_T := ds_mem (List.mem_append_right _ (List.mem_of_getElem? (i := 255) (by decide +kernel))) rfl
theorem wd_256 : Cond.code ⟨"java/lang/Math", "min", "(JJ)J"⟩ prog_8_method_70_code 4 (some FieldType.long) ∈ ds_T := ds_mem (List.mem_append_right _ (List.mem_of_getElem? (i := 256) (by decide +kernel))) rfl
theorem wd_257 : Cond.constantLong "DaySwaps" 94 (1152921504606846976 : Int64) ∈ ds_T := ds_mem (List.mem_append_right _ (List.mem_of_getElem? (i := 257) (by decide +kernel))) rfl
theorem wd_258 : Cond.methodLink "DaySwaps" 96 y_DS_whyNoPlan ∈ ds_T := ds_mem (List.mem_append_right _ (List.mem_of_getElem? (i := 258) (by decide +kernel))) rfl
theorem wd_260 : Cond.instanceMethod y_DS_whyNoPlan ∈ ds_T := ds_mem (List.mem_append_right _ (List.mem_of_getElem? (i := 260) (by decide +kernel))) rfl
theorem wd_261 : Cond.code y_DS_whyNoPlan prog_1_method_22_code 2 (some FieldType.int) ∈ ds_T := ds_mem (List.mem_append_right _ (List.mem_of_getElem? (i := 261) (by decide +kernel))) rfl
theorem wd_262 : Cond.methodLinkNest "DaySwaps" 155 y_Day_canDo "DaySwaps" ∈ lw_tbl := List.mem_append_right _ (List.mem_of_getElem? (i := 262) (by decide +kernel))
theorem wd_263 : Cond.methodLinkNest "DaySwaps" 100 y_Sh_putLatest "DaySwaps" ∈ lw_tbl := List.mem_append_right _ (List.mem_of_getElem? (i := 263) (by decide +kernel))
theorem wd_265 : Cond.instanceMethod y_Sh_putLatest ∈ ds_T := ds_mem (List.mem_append_right _ (List.mem_of_getElem? (i := 265) (by decide +kernel))) rfl
theorem wd_266 : Cond.code y_Sh_putLatest prog_4_method_2_code 4 none ∈ ds_T := ds_mem (List.mem_append_right _ (List.mem_of_getElem? (i := 266) (by decide +kernel))) rfl
theorem wd_267 : Cond.methodLink "DaySwaps$Shelf" 24 ⟨"java/lang/System", "arraycopy", "(Ljava/lang/Object;ILjava/lang/Object;II)V"⟩ ∈ ds_T := ds_mem (List.mem_append_right _ (List.mem_of_getElem? (i := 267) (by decide +kernel))) rfl
theorem wd_268 : Cond.static ⟨"java/lang/System", "arraycopy", "(Ljava/lang/Object;ILjava/lang/Object;II)V"⟩ ∈ ds_T := ds_mem (List.mem_append_right _ (List.mem_of_getElem? (i := 268) (by decide +kernel))) rfl
theorem wd_269 : Cond.native ⟨"java/lang/System", "arraycopy", "(Ljava/lang/Object;ILjava/lang/Object;II)V"⟩ ∈ ds_T := ds_mem (List.mem_append_right _ (List.mem_of_getElem? (i := 269) (by decide +kernel))) rfl
theorem wd_270 : Cond.methodLinkNest "DaySwaps" 104 y_Se_vehicleIn "DaySwaps" ∈ lw_tbl := List.mem_append_right _ (List.mem_of_getElem? (i := 270) (by decide +kernel))
theorem wd_271 : Cond.static y_Se_vehicleIn ∈ ds_T := ds_mem (List.mem_append_right _ (List.mem_of_getElem? (i := 271) (by decide +kernel))) rfl
theorem wd_272 : Cond.code y_Se_vehicleIn prog_3_method_5_code 3 (some FieldType.int) ∈ ds_T := ds_mem (List.mem_append_right _ (List.mem_of_getElem? (i := 272) (by decide +kernel))) rfl
theorem wd_273 : Cond.methodLink "DaySwaps" 108 y_DS_movedSet ∈ ds_T := ds_mem (List.mem_append_right _ (List.mem_of_getElem? (i := 273) (by decide +kernel))) rfl
theorem wd_275 : Cond.instanceMethod y_DS_movedSet ∈ ds_T := ds_mem (List.mem_append_right _ (List.mem_of_getElem? (i := 275) (by decide +kernel))) rfl
theorem wd_276 : Cond.code y_DS_movedSet prog_1_method_24_code 3 (some FieldType.int) ∈ ds_T := ds_mem (List.mem_append_right _ (List.mem_of_getElem? (i := 276) (by decide +kernel))) rfl
theorem wd_277 : Cond.methodLink "DaySwaps" 111 y_In_bitCount ∈ ds_T := ds_mem (List.mem_append_right _ (List.mem_of_getElem? (i := 277) (by decide +kernel))) rfl
theorem wd_278 : Cond.static y_In_bitCount ∈ ds_T := ds_mem (List.mem_append_right _ (List.mem_of_getElem? (i := 278) (by decide +kernel))) rfl
theorem wd_279 : Cond.code y_In_bitCount prog_7_method_49_code 1 (some FieldType.int) ∈ ds_T := ds_mem (List.mem_append_right _ (List.mem_of_getElem? (i := 279) (by decide +kernel))) rfl
theorem wd_280 : Cond.constant "java/lang/Integer" 265 (1431655765 : Int32) ∈ ds_T := ds_mem (List.mem_append_right _ (List.mem_of_getElem? (i := 280) (by decide +kernel))) rfl
theorem wd_281 : Cond.constant "java/lang/Integer" 266 (858993459 : Int32) ∈ ds_T := ds_mem (List.mem_append_right _ (List.mem_of_getElem? (i := 281) (by decide +kernel))) rfl
theorem wd_282 : Cond.constant "java/lang/Integer" 267 (252645135 : Int32) ∈ ds_T := ds_mem (List.mem_append_right _ (List.mem_of_getElem? (i := 282) (by decide +kernel))) rfl
theorem wd_283 : Cond.methodLink "DaySwapsLaw" 59 y_DS_vehicleOf ∈ ds_T := ds_mem (List.mem_append_right _ (List.mem_of_getElem? (i := 283) (by decide +kernel))) rfl
theorem wd_284 : Cond.instanceMethod y_DS_vehicleOf ∈ ds_T := ds_mem (List.mem_append_right _ (List.mem_of_getElem? (i := 284) (by decide +kernel))) rfl
theorem wd_285 : Cond.selects "DaySwaps" y_DS_vehicleOf y_DS_vehicleOf ∈ ds_T := ds_mem (List.mem_append_right _ (List.mem_of_getElem? (i := 285) (by decide +kernel))) rfl
theorem wd_286 : Cond.code y_DS_vehicleOf prog_1_method_10_code 2 (some FieldType.int) ∈ ds_T := ds_mem (List.mem_append_right _ (List.mem_of_getElem? (i := 286) (by decide +kernel))) rfl
theorem wd_287 : Cond.methodLink "DaySwapsLaw" 64 y_DS_place ∈ ds_T := ds_mem (List.mem_append_right _ (List.mem_of_getElem? (i := 287) (by decide +kernel))) rfl
theorem wd_288 : Cond.instanceMethod y_DS_place ∈ ds_T := ds_mem (List.mem_append_right _ (List.mem_of_getElem? (i := 288) (by decide +kernel))) rfl
theorem wd_289 : Cond.selects "DaySwaps" y_DS_place y_DS_place ∈ ds_T := ds_mem (List.mem_append_right _ (List.mem_of_getElem? (i := 289) (by decide +kernel))) rfl
theorem wd_290 : Cond.code y_DS_place prog_1_method_11_code 2 (some FieldType.int) ∈ ds_T := ds_mem (List.mem_append_right _ (List.mem_of_getElem? (i := 290) (by decide +kernel))) rfl
theorem wd_291 : Cond.methodLink "DaySwaps" 117 y_DS_setOf ∈ ds_T := ds_mem (List.mem_append_right _ (List.mem_of_getElem? (i := 291) (by decide +kernel))) rfl
theorem wd_293 : Cond.instanceMethod y_DS_setOf ∈ ds_T := ds_mem (List.mem_append_right _ (List.mem_of_getElem? (i := 293) (by decide +kernel))) rfl
theorem wd_294 : Cond.code y_DS_setOf prog_1_method_23_code 4 (some FieldType.int) ∈ ds_T := ds_mem (List.mem_append_right _ (List.mem_of_getElem? (i := 294) (by decide +kernel))) rfl
theorem wd_295 : Cond.methodLinkNest "DaySwaps" 120 y_Day_placeInRound "DaySwaps" ∈ lw_tbl := List.mem_append_right _ (List.mem_of_getElem? (i := 295) (by decide +kernel))
theorem wd_297 : Cond.instanceMethod y_Day_placeInRound ∈ ds_T := ds_mem (List.mem_append_right _ (List.mem_of_getElem? (i := 297) (by decide +kernel))) rfl
theorem wd_298 : Cond.code y_Day_placeInRound prog_2_method_9_code 6 (some FieldType.int) ∈ ds_T := ds_mem (List.mem_append_right _ (List.mem_of_getElem? (i := 298) (by decide +kernel))) rfl
theorem wd_299 : Cond.methodLink "DaySwapsLaw" 68 y_DS_moved ∈ ds_T := ds_mem (List.mem_append_right _ (List.mem_of_getElem? (i := 299) (by decide +kernel))) rfl
theorem wd_300 : Cond.instanceMethod y_DS_moved ∈ ds_T := ds_mem (List.mem_append_right _ (List.mem_of_getElem? (i := 300) (by decide +kernel))) rfl
theorem wd_301 : Cond.selects "DaySwaps" y_DS_moved y_DS_moved ∈ ds_T := ds_mem (List.mem_append_right _ (List.mem_of_getElem? (i := 301) (by decide +kernel))) rfl
theorem wd_302 : Cond.code y_DS_moved prog_1_method_12_code 2 (some FieldType.int) ∈ ds_T := ds_mem (List.mem_append_right _ (List.mem_of_getElem? (i := 302) (by decide +kernel))) rfl
theorem wd_303 : Cond.methodLink "DaySwaps" 123 y_DS_stopAt ∈ ds_T := ds_mem (List.mem_append_right _ (List.mem_of_getElem? (i := 303) (by decide +kernel))) rfl
theorem wd_304 : Cond.static y_DS_stopAt ∈ ds_T := ds_mem (List.mem_append_right _ (List.mem_of_getElem? (i := 304) (by decide +kernel))) rfl
theorem wd_305 : Cond.code y_DS_stopAt prog_1_method_25_code 4 (some FieldType.int) ∈ ds_T := ds_mem (List.mem_append_right _ (List.mem_of_getElem? (i := 305) (by decide +kernel))) rfl
theorem wd_306 : Cond.methodLink "DaySwaps" 159 y_DS_isIn ∈ ds_T := ds_mem (List.mem_append_right _ (List.mem_of_getElem? (i := 306) (by decide +kernel))) rfl
theorem wd_307 : Cond.methodLink "DaySwapsLaw" 72 y_DS_carried ∈ ds_T := ds_mem (List.mem_append_right _ (List.mem_of_getElem? (i := 307) (by decide +kernel))) rfl
theorem wd_308 : Cond.instanceMethod y_DS_carried ∈ ds_T := ds_mem (List.mem_append_right _ (List.mem_of_getElem? (i := 308) (by decide +kernel))) rfl
theorem wd_309 : Cond.selects "DaySwaps" y_DS_carried y_DS_carried ∈ ds_T := ds_mem (List.mem_append_right _ (List.mem_of_getElem? (i := 309) (by decide +kernel))) rfl
theorem wd_310 : Cond.code y_DS_carried prog_1_method_13_code 2 (some FieldType.int) ∈ ds_T := ds_mem (List.mem_append_right _ (List.mem_of_getElem? (i := 310) (by decide +kernel))) rfl
theorem wd_311 : Cond.methodLink "DaySwapsLaw" 76 y_DS_send ∈ ds_T := ds_mem (List.mem_append_right _ (List.mem_of_getElem? (i := 311) (by decide +kernel))) rfl
theorem wd_312 : Cond.instanceMethod y_DS_send ∈ ds_T := ds_mem (List.mem_append_right _ (List.mem_of_getElem? (i := 312) (by decide +kernel))) rfl
theorem wd_313 : Cond.selects "DaySwaps" y_DS_send y_DS_send ∈ ds_T := ds_mem (List.mem_append_right _ (List.mem_of_getElem? (i := 313) (by decide +kernel))) rfl
theorem wd_314 : Cond.code y_DS_send prog_1_method_14_code 3 (some FieldType.int) ∈ ds_T := ds_mem (List.mem_append_right _ (List.mem_of_getElem? (i := 314) (by decide +kernel))) rfl
theorem wd_315 : Cond.methodLink "DaySwapsLaw" 80 y_DS_sent ∈ ds_T := ds_mem (List.mem_append_right _ (List.mem_of_getElem? (i := 315) (by decide +kernel))) rfl
theorem wd_316 : Cond.instanceMethod y_DS_sent ∈ ds_T := ds_mem (List.mem_append_right _ (List.mem_of_getElem? (i := 316) (by decide +kernel))) rfl
theorem wd_317 : Cond.selects "DaySwaps" y_DS_sent y_DS_sent ∈ ds_T := ds_mem (List.mem_append_right _ (List.mem_of_getElem? (i := 317) (by decide +kernel))) rfl
theorem wd_318 : Cond.code y_DS_sent prog_1_method_15_code 2 (some FieldType.int) ∈ ds_T := ds_mem (List.mem_append_right _ (List.mem_of_getElem? (i := 318) (by decide +kernel))) rfl
theorem wd_319 : Cond.methodLink "DaySwapsLaw" 84 y_DS_undo ∈ ds_T := ds_mem (List.mem_append_right _ (List.mem_of_getElem? (i := 319) (by decide +kernel))) rfl
theorem wd_320 : Cond.instanceMethod y_DS_undo ∈ ds_T := ds_mem (List.mem_append_right _ (List.mem_of_getElem? (i := 320) (by decide +kernel))) rfl
theorem wd_321 : Cond.selects "DaySwaps" y_DS_undo y_DS_undo ∈ ds_T := ds_mem (List.mem_append_right _ (List.mem_of_getElem? (i := 321) (by decide +kernel))) rfl
theorem wd_322 : Cond.code y_DS_undo prog_1_method_16_code 4 (some FieldType.boolean) ∈ ds_T := ds_mem (List.mem_append_right _ (List.mem_of_getElem? (i := 322) (by decide +kernel))) rfl
theorem wd_323 : Cond.methodLink "DaySwapsLaw" 89 y_DS_copy ∈ ds_T := ds_mem (List.mem_append_right _ (List.mem_of_getElem? (i := 323) (by decide +kernel))) rfl
theorem wd_324 : Cond.instanceMethod y_DS_copy ∈ ds_T := ds_mem (List.mem_append_right _ (List.mem_of_getElem? (i := 324) (by decide +kernel))) rfl
theorem wd_325 : Cond.selects "DaySwaps" y_DS_copy y_DS_copy ∈ ds_T := ds_mem (List.mem_append_right _ (List.mem_of_getElem? (i := 325) (by decide +kernel))) rfl
theorem wd_326 : Cond.code y_DS_copy prog_1_method_17_code 1 (some FieldType.int) ∈ ds_T := ds_mem (List.mem_append_right _ (List.mem_of_getElem? (i := 326) (by decide +kernel))) rfl
theorem wd_327 : Cond.methodLink "DaySwapsLaw" 93 y_DS_compare ∈ ds_T := ds_mem (List.mem_append_right _ (List.mem_of_getElem? (i := 327) (by decide +kernel))) rfl
theorem wd_328 : Cond.instanceMethod y_DS_compare ∈ ds_T := ds_mem (List.mem_append_right _ (List.mem_of_getElem? (i := 328) (by decide +kernel))) rfl
theorem wd_329 : Cond.selects "DaySwaps" y_DS_compare y_DS_compare ∈ ds_T := ds_mem (List.mem_append_right _ (List.mem_of_getElem? (i := 329) (by decide +kernel))) rfl
theorem wd_330 : Cond.code y_DS_compare prog_1_method_18_code 5 (some FieldType.int) ∈ ds_T := ds_mem (List.mem_append_right _ (List.mem_of_getElem? (i := 330) (by decide +kernel))) rfl
theorem wd_331 : Cond.methodLink "DaySwapsLaw" 98 y_DS_cost ∈ ds_T := ds_mem (List.mem_append_right _ (List.mem_of_getElem? (i := 331) (by decide +kernel))) rfl
theorem wd_332 : Cond.instanceMethod y_DS_cost ∈ ds_T := ds_mem (List.mem_append_right _ (List.mem_of_getElem? (i := 332) (by decide +kernel))) rfl
theorem wd_333 : Cond.selects "DaySwaps" y_DS_cost y_DS_cost ∈ ds_T := ds_mem (List.mem_append_right _ (List.mem_of_getElem? (i := 333) (by decide +kernel))) rfl
theorem wd_334 : Cond.code y_DS_cost prog_1_method_19_code 5 (some FieldType.long) ∈ ds_T := ds_mem (List.mem_append_right _ (List.mem_of_getElem? (i := 334) (by decide +kernel))) rfl
theorem wd_335 : Cond.methodLinkNest "DaySwaps" 142 y_Day_timeOf "DaySwaps" ∈ lw_tbl := List.mem_append_right _ (List.mem_of_getElem? (i := 335) (by decide +kernel))
theorem wd_336 : Cond.methodLinkNest "DaySwaps" 145 y_Day_overHours "DaySwaps" ∈ lw_tbl := List.mem_append_right _ (List.mem_of_getElem? (i := 336) (by decide +kernel))
theorem wd_337 : Cond.methodLink "DaySwapsLaw" 103 y_DS_overtime ∈ ds_T := ds_mem (List.mem_append_right _ (List.mem_of_getElem? (i := 337) (by decide +kernel))) rfl
theorem wd_338 : Cond.instanceMethod y_DS_overtime ∈ ds_T := ds_mem (List.mem_append_right _ (List.mem_of_getElem? (i := 338) (by decide +kernel))) rfl
theorem wd_339 : Cond.selects "DaySwaps" y_DS_overtime y_DS_overtime ∈ ds_T := ds_mem (List.mem_append_right _ (List.mem_of_getElem? (i := 339) (by decide +kernel))) rfl
theorem wd_340 : Cond.code y_DS_overtime prog_1_method_20_code 2 (some FieldType.int) ∈ ds_T := ds_mem (List.mem_append_right _ (List.mem_of_getElem? (i := 340) (by decide +kernel))) rfl
theorem wd_341 : Cond.methodLink "DaySwapsLaw" 107 y_DS_next ∈ ds_T := ds_mem (List.mem_append_right _ (List.mem_of_getElem? (i := 341) (by decide +kernel))) rfl
theorem wd_342 : Cond.instanceMethod y_DS_next ∈ ds_T := ds_mem (List.mem_append_right _ (List.mem_of_getElem? (i := 342) (by decide +kernel))) rfl
theorem wd_343 : Cond.selects "DaySwaps" y_DS_next y_DS_next ∈ ds_T := ds_mem (List.mem_append_right _ (List.mem_of_getElem? (i := 343) (by decide +kernel))) rfl
theorem wd_344 : Cond.code y_DS_next prog_1_method_21_code 3 (some FieldType.int) ∈ ds_T := ds_mem (List.mem_append_right _ (List.mem_of_getElem? (i := 344) (by decide +kernel))) rfl
theorem wd_345 : Cond.methodLinkNest "DaySwaps" 148 y_Day_prepareRow "DaySwaps" ∈ lw_tbl := List.mem_append_right _ (List.mem_of_getElem? (i := 345) (by decide +kernel))
theorem wd_347 : Cond.instanceMethod y_Day_prepareRow ∈ ds_T := ds_mem (List.mem_append_right _ (List.mem_of_getElem? (i := 347) (by decide +kernel))) rfl
theorem wd_348 : Cond.code y_Day_prepareRow prog_2_method_12_code 6 none ∈ ds_T := ds_mem (List.mem_append_right _ (List.mem_of_getElem? (i := 348) (by decide +kernel))) rfl
theorem wd_349 : Cond.methodLinkNest "DaySwaps" 152 y_Day_turn "DaySwaps" ∈ lw_tbl := List.mem_append_right _ (List.mem_of_getElem? (i := 349) (by decide +kernel))
theorem wd_351 : Cond.instanceMethod y_Day_turn ∈ ds_T := ds_mem (List.mem_append_right _ (List.mem_of_getElem? (i := 351) (by decide +kernel))) rfl
theorem wd_352 : Cond.code y_Day_turn prog_2_method_13_code 3 none ∈ ds_T := ds_mem (List.mem_append_right _ (List.mem_of_getElem? (i := 352) (by decide +kernel))) rfl
theorem wd_353 : Cond.methodLink "DaySwapsLaw" 9 y_La_cell ∈ ds_T := ds_mem (List.mem_append_right _ (List.mem_of_getElem? (i := 353) (by decide +kernel))) rfl
theorem wd_354 : Cond.static y_La_cell ∈ ds_T := ds_mem (List.mem_append_right _ (List.mem_of_getElem? (i := 354) (by decide +kernel))) rfl
theorem wd_355 : Cond.code y_La_cell method_2_code 2 (some FieldType.int) ∈ ds_T := ds_mem (List.mem_append_right _ (List.mem_of_getElem? (i := 355) (by decide +kernel))) rfl
theorem wd_356 : Cond.classLink "DaySwapsLaw" 18 "DaySwapsModel" ∈ ds_T := ds_mem (List.mem_append_right _ (List.mem_of_getElem? (i := 356) (by decide +kernel))) rfl
theorem wd_357 : Cond.instantiable "DaySwapsModel" 28 ∈ ds_T := ds_mem (List.mem_append_right _ (List.mem_of_getElem? (i := 357) (by decide +kernel))) rfl
theorem wd_358 : Cond.methodLink "DaySwapsLaw" 20 y_Mo_init ∈ ds_T := ds_mem (List.mem_append_right _ (List.mem_of_getElem? (i := 358) (by decide +kernel))) rfl
theorem wd_359 : Cond.instanceMethod y_Mo_init ∈ ds_T := ds_mem (List.mem_append_right _ (List.mem_of_getElem? (i := 359) (by decide +kernel))) rfl
theorem wd_360 : Cond.code y_Mo_init prog_6_method_1_code 4 none ∈ ds_T := ds_mem (List.mem_append_right _ (List.mem_of_getElem? (i := 360) (by decide +kernel))) rfl
theorem wd_361 : Cond.methodLink "DaySwapsModel" 1 ⟨"java/lang/Object", "<init>", "()V"⟩ ∈ ds_T := ds_mem (List.mem_append_right _ (List.mem_of_getElem? (i := 361) (by decide +kernel))) rfl
theorem wd_362 : Cond.fieldLink "DaySwapsModel" 77 "DaySwapsModel" "vehicles" "I" ∈ ds_T := ds_mem (List.mem_append_right _ (List.mem_of_getElem? (i := 362) (by decide +kernel))) rfl
theorem wd_363 : Cond.fieldLink "DaySwapsModel" 81 "DaySwapsModel" "stops" "I" ∈ ds_T := ds_mem (List.mem_append_right _ (List.mem_of_getElem? (i := 363) (by decide +kernel))) rfl
theorem wd_364 : Cond.fieldLink "DaySwapsModel" 7 "DaySwapsModel" "places" "[I" ∈ ds_T := ds_mem (List.mem_append_right _ (List.mem_of_getElem? (i := 364) (by decide +kernel))) rfl
theorem wd_365 : Cond.fieldLink "DaySwapsModel" 13 "DaySwapsModel" "services" "[I" ∈ ds_T := ds_mem (List.mem_append_right _ (List.mem_of_getElem? (i := 365) (by decide +kernel))) rfl
theorem wd_366 : Cond.fieldLink "DaySwapsModel" 16 "DaySwapsModel" "homes" "[I" ∈ ds_T := ds_mem (List.mem_append_right _ (List.mem_of_getElem? (i := 366) (by decide +kernel))) rfl
theorem wd_367 : Cond.fieldLink "DaySwapsModel" 19 "DaySwapsModel" "positions" "[I" ∈ ds_T := ds_mem (List.mem_append_right _ (List.mem_of_getElem? (i := 367) (by decide +kernel))) rfl
theorem wd_368 : Cond.fieldLink "DaySwapsModel" 22 "DaySwapsModel" "rowSizes" "[I" ∈ ds_T := ds_mem (List.mem_append_right _ (List.mem_of_getElem? (i := 368) (by decide +kernel))) rfl
theorem wd_369 : Cond.fieldLink "DaySwapsModel" 25 "DaySwapsModel" "frozen" "[Z" ∈ ds_T := ds_mem (List.mem_append_right _ (List.mem_of_getElem? (i := 369) (by decide +kernel))) rfl
theorem wd_370 : Cond.fieldLink "DaySwapsModel" 29 "DaySwapsModel" "blocked" "[Z" ∈ ds_T := ds_mem (List.mem_append_right _ (List.mem_of_getElem? (i := 370) (by decide +kernel))) rfl
theorem wd_371 : Cond.fieldLink "DaySwapsModel" 32 "DaySwapsModel" "outs" "[I" ∈ ds_T := ds_mem (List.mem_append_right _ (List.mem_of_getElem? (i := 371) (by decide +kernel))) rfl
theorem wd_372 : Cond.fieldLink "DaySwapsModel" 35 "DaySwapsModel" "hours" "[I" ∈ ds_T := ds_mem (List.mem_append_right _ (List.mem_of_getElem? (i := 372) (by decide +kernel))) rfl
theorem wd_373 : Cond.fieldLink "DaySwapsModel" 38 "DaySwapsModel" "ways" "[I" ∈ ds_T := ds_mem (List.mem_append_right _ (List.mem_of_getElem? (i := 373) (by decide +kernel))) rfl
theorem wd_374 : Cond.fieldLink "DaySwapsModel" 103 "DaySwapsModel" "extra" "I" ∈ ds_T := ds_mem (List.mem_append_right _ (List.mem_of_getElem? (i := 374) (by decide +kernel))) rfl
theorem wd_375 : Cond.fieldLink "DaySwapsModel" 41 "DaySwapsModel" "plan" "[I" ∈ ds_T := ds_mem (List.mem_append_right _ (List.mem_of_getElem? (i := 375) (by decide +kernel))) rfl
theorem wd_376 : Cond.fieldLink "DaySwapsModel" 44 "DaySwapsModel" "trying" "[I" ∈ ds_T := ds_mem (List.mem_append_right _ (List.mem_of_getElem? (i := 376) (by decide +kernel))) rfl
theorem wd_377 : Cond.fieldLink "DaySwapsModel" 47 "DaySwapsModel" "best" "[I" ∈ ds_T := ds_mem (List.mem_append_right _ (List.mem_of_getElem? (i := 377) (by decide +kernel))) rfl
theorem wd_378 : Cond.fieldLink "DaySwapsModel" 149 "DaySwapsModel" "kept" "I" ∈ ds_T := ds_mem (List.mem_append_right _ (List.mem_of_getElem? (i := 378) (by decide +kernel))) rfl
theorem wd_379 : Cond.fieldLink "DaySwapsModel" 50 "DaySwapsModel" "keptPlans" "[I" ∈ ds_T := ds_mem (List.mem_append_right _ (List.mem_of_getElem? (i := 379) (by decide +kernel))) rfl
theorem wd_380 : Cond.fieldLink "DaySwapsModel" 53 "DaySwapsModel" "keptStops" "[I" ∈ ds_T := ds_mem (List.mem_append_right _ (List.mem_of_getElem? (i := 380) (by decide +kernel))) rfl
theorem wd_381 : Cond.fieldLink "DaySwapsModel" 152 "DaySwapsModel" "copies" "I" ∈ ds_T := ds_mem (List.mem_append_right _ (List.mem_of_getElem? (i := 381) (by decide +kernel))) rfl
theorem wd_382 : Cond.fieldLink "DaySwapsModel" 56 "DaySwapsModel" "copyPlans" "[I" ∈ ds_T := ds_mem (List.mem_append_right _ (List.mem_of_getElem? (i := 382) (by decide +kernel))) rfl
theorem wd_383 : Cond.fieldLink "DaySwapsModel" 59 "DaySwapsModel" "copyStops" "[I" ∈ ds_T := ds_mem (List.mem_append_right _ (List.mem_of_getElem? (i := 383) (by decide +kernel))) rfl
theorem wd_384 : Cond.fieldLink "DaySwapsModel" 62 "DaySwapsModel" "noticed" "[I" ∈ ds_T := ds_mem (List.mem_append_right _ (List.mem_of_getElem? (i := 384) (by decide +kernel))) rfl
theorem wd_385 : Cond.fieldLink "DaySwapsModel" 65 "DaySwapsModel" "notices" "[I" ∈ ds_T := ds_mem (List.mem_append_right _ (List.mem_of_getElem? (i := 385) (by decide +kernel))) rfl
theorem wd_386 : Cond.fieldLink "DaySwapsModel" 68 "DaySwapsModel" "round" "[I" ∈ ds_T := ds_mem (List.mem_append_right _ (List.mem_of_getElem? (i := 386) (by decide +kernel))) rfl
theorem wd_387 : Cond.fieldLink "DaySwapsModel" 106 "DaySwapsModel" "roundSize" "I" ∈ ds_T := ds_mem (List.mem_append_right _ (List.mem_of_getElem? (i := 387) (by decide +kernel))) rfl
theorem wd_388 : Cond.fieldLink "DaySwapsModel" 71 "DaySwapsModel" "newHomes" "[I" ∈ ds_T := ds_mem (List.mem_append_right _ (List.mem_of_getElem? (i := 388) (by decide +kernel))) rfl
theorem wd_389 : Cond.fieldLink "DaySwapsModel" 74 "DaySwapsModel" "newPositions" "[I" ∈ ds_T := ds_mem (List.mem_append_right _ (List.mem_of_getElem? (i := 389) (by decide +kernel))) rfl
theorem wd_447 : Cond.methodLink "DaySwapsLaw" 25 y_Mo_stop ∈ ds_T := ds_mem (List.mem_append_right _ (List.mem_of_getElem? (i := 447) (by decide +kernel))) rfl
theorem wd_448 : Cond.instanceMethod y_Mo_stop ∈ ds_T := ds_mem (List.mem_append_right _ (List.mem_of_getElem? (i := 448) (by decide +kernel))) rfl
theorem wd_449 : Cond.selects "DaySwapsModel" y_Mo_stop y_Mo_stop ∈ ds_T := ds_mem (List.mem_append_right _ (List.mem_of_getElem? (i := 449) (by decide +kernel))) rfl
theorem wd_450 : Cond.code y_Mo_stop prog_6_method_6_code 4 (some FieldType.int) ∈ ds_T := ds_mem (List.mem_append_right _ (List.mem_of_getElem? (i := 450) (by decide +kernel))) rfl
theorem wd_451 : Cond.methodLink "DaySwapsModel" 84 y_Mo_isVehicle ∈ ds_T := ds_mem (List.mem_append_right _ (List.mem_of_getElem? (i := 451) (by decide +kernel))) rfl
theorem wd_453 : Cond.instanceMethod y_Mo_isVehicle ∈ ds_T := ds_mem (List.mem_append_right _ (List.mem_of_getElem? (i := 453) (by decide +kernel))) rfl
theorem wd_454 : Cond.code y_Mo_isVehicle prog_6_method_4_code 2 (some FieldType.boolean) ∈ ds_T := ds_mem (List.mem_append_right _ (List.mem_of_getElem? (i := 454) (by decide +kernel))) rfl
theorem wd_455 : Cond.constantLong "DaySwapsModel" 88 (9 : Int64) ∈ ds_T := ds_mem (List.mem_append_right _ (List.mem_of_getElem? (i := 455) (by decide +kernel))) rfl
theorem wd_456 : Cond.methodLink "DaySwapsModel" 90 y_Mo_isIn ∈ ds_T := ds_mem (List.mem_append_right _ (List.mem_of_getElem? (i := 456) (by decide +kernel))) rfl
theorem wd_457 : Cond.static y_Mo_isIn ∈ ds_T := ds_mem (List.mem_append_right _ (List.mem_of_getElem? (i := 457) (by decide +kernel))) rfl
theorem wd_458 : Cond.code y_Mo_isIn prog_6_method_3_code 6 (some FieldType.boolean) ∈ ds_T := ds_mem (List.mem_append_right _ (List.mem_of_getElem? (i := 458) (by decide +kernel))) rfl
theorem wd_459 : Cond.constantLong "DaySwapsModel" 94 (10000 : Int64) ∈ ds_T := ds_mem (List.mem_append_right _ (List.mem_of_getElem? (i := 459) (by decide +kernel))) rfl
theorem wd_460 : Cond.methodLink "DaySwapsLaw" 30 y_Mo_freeze ∈ ds_T := ds_mem (List.mem_append_right _ (List.mem_of_getElem? (i := 460) (by decide +kernel))) rfl
theorem wd_461 : Cond.instanceMethod y_Mo_freeze ∈ ds_T := ds_mem (List.mem_append_right _ (List.mem_of_getElem? (i := 461) (by decide +kernel))) rfl
theorem wd_462 : Cond.selects "DaySwapsModel" y_Mo_freeze y_Mo_freeze ∈ ds_T := ds_mem (List.mem_append_right _ (List.mem_of_getElem? (i := 462) (by decide +kernel))) rfl
theorem wd_463 : Cond.code y_Mo_freeze prog_6_method_7_code 3 (some FieldType.boolean) ∈ ds_T := ds_mem (List.mem_append_right _ (List.mem_of_getElem? (i := 463) (by decide +kernel))) rfl
theorem wd_464 : Cond.methodLink "DaySwapsModel" 96 y_Mo_isStop ∈ ds_T := ds_mem (List.mem_append_right _ (List.mem_of_getElem? (i := 464) (by decide +kernel))) rfl
theorem wd_466 : Cond.instanceMethod y_Mo_isStop ∈ ds_T := ds_mem (List.mem_append_right _ (List.mem_of_getElem? (i := 466) (by decide +kernel))) rfl
theorem wd_467 : Cond.code y_Mo_isStop prog_6_method_5_code 2 (some FieldType.boolean) ∈ ds_T := ds_mem (List.mem_append_right _ (List.mem_of_getElem? (i := 467) (by decide +kernel))) rfl
theorem wd_468 : Cond.methodLink "DaySwapsLaw" 34 y_Mo_block ∈ ds_T := ds_mem (List.mem_append_right _ (List.mem_of_getElem? (i := 468) (by decide +kernel))) rfl
theorem wd_469 : Cond.instanceMethod y_Mo_block ∈ ds_T := ds_mem (List.mem_append_right _ (List.mem_of_getElem? (i := 469) (by decide +kernel))) rfl
theorem wd_470 : Cond.selects "DaySwapsModel" y_Mo_block y_Mo_block ∈ ds_T := ds_mem (List.mem_append_right _ (List.mem_of_getElem? (i := 470) (by decide +kernel))) rfl
theorem wd_471 : Cond.code y_Mo_block prog_6_method_8_code 3 (some FieldType.boolean) ∈ ds_T := ds_mem (List.mem_append_right _ (List.mem_of_getElem? (i := 471) (by decide +kernel))) rfl
theorem wd_472 : Cond.methodLink "DaySwapsLaw" 39 y_Mo_out ∈ ds_T := ds_mem (List.mem_append_right _ (List.mem_of_getElem? (i := 472) (by decide +kernel))) rfl
theorem wd_473 : Cond.instanceMethod y_Mo_out ∈ ds_T := ds_mem (List.mem_append_right _ (List.mem_of_getElem? (i := 473) (by decide +kernel))) rfl
theorem wd_474 : Cond.selects "DaySwapsModel" y_Mo_out y_Mo_out ∈ ds_T := ds_mem (List.mem_append_right _ (List.mem_of_getElem? (i := 474) (by decide +kernel))) rfl
theorem wd_475 : Cond.code y_Mo_out prog_6_method_9_code 3 (some FieldType.boolean) ∈ ds_T := ds_mem (List.mem_append_right _ (List.mem_of_getElem? (i := 475) (by decide +kernel))) rfl
theorem wd_476 : Cond.constantLong "DaySwapsModel" 99 (8 : Int64) ∈ ds_T := ds_mem (List.mem_append_right _ (List.mem_of_getElem? (i := 476) (by decide +kernel))) rfl
theorem wd_477 : Cond.methodLink "DaySwapsLaw" 44 y_Mo_way ∈ ds_T := ds_mem (List.mem_append_right _ (List.mem_of_getElem? (i := 477) (by decide +kernel))) rfl
theorem wd_478 : Cond.instanceMethod y_Mo_way ∈ ds_T := ds_mem (List.mem_append_right _ (List.mem_of_getElem? (i := 478) (by decide +kernel))) rfl
theorem wd_479 : Cond.selects "DaySwapsModel" y_Mo_way y_Mo_way ∈ ds_T := ds_mem (List.mem_append_right _ (List.mem_of_getElem? (i := 479) (by decide +kernel))) rfl
theorem wd_480 : Cond.code y_Mo_way prog_6_method_10_code 4 (some FieldType.boolean) ∈ ds_T := ds_mem (List.mem_append_right _ (List.mem_of_getElem? (i := 480) (by decide +kernel))) rfl
theorem wd_481 : Cond.methodLink "DaySwapsLaw" 48 y_Mo_hours ∈ ds_T := ds_mem (List.mem_append_right _ (List.mem_of_getElem? (i := 481) (by decide +kernel))) rfl
theorem wd_482 : Cond.instanceMethod y_Mo_hours ∈ ds_T := ds_mem (List.mem_append_right _ (List.mem_of_getElem? (i := 482) (by decide +kernel))) rfl
theorem wd_483 : Cond.selects "DaySwapsModel" y_Mo_hours y_Mo_hours ∈ ds_T := ds_mem (List.mem_append_right _ (List.mem_of_getElem? (i := 483) (by decide +kernel))) rfl
theorem wd_484 : Cond.code y_Mo_hours prog_6_method_11_code 3 (some FieldType.boolean) ∈ ds_T := ds_mem (List.mem_append_right _ (List.mem_of_getElem? (i := 484) (by decide +kernel))) rfl
theorem wd_485 : Cond.constantLong "DaySwapsModel" 101 (100000 : Int64) ∈ ds_T := ds_mem (List.mem_append_right _ (List.mem_of_getElem? (i := 485) (by decide +kernel))) rfl
theorem wd_486 : Cond.methodLink "DaySwapsLaw" 53 y_Mo_extra ∈ ds_T := ds_mem (List.mem_append_right _ (List.mem_of_getElem? (i := 486) (by decide +kernel))) rfl
theorem wd_487 : Cond.instanceMethod y_Mo_extra ∈ ds_T := ds_mem (List.mem_append_right _ (List.mem_of_getElem? (i := 487) (by decide +kernel))) rfl
theorem wd_488 : Cond.selects "DaySwapsModel" y_Mo_extra y_Mo_extra ∈ ds_T := ds_mem (List.mem_append_right _ (List.mem_of_getElem? (i := 488) (by decide +kernel))) rfl
theorem wd_489 : Cond.code y_Mo_extra prog_6_method_12_code 2 (some FieldType.boolean) ∈ ds_T := ds_mem (List.mem_append_right _ (List.mem_of_getElem? (i := 489) (by decide +kernel))) rfl
theorem wd_490 : Cond.methodLink "DaySwapsLaw" 102 y_Mo_cost ∈ ds_T := ds_mem (List.mem_append_right _ (List.mem_of_getElem? (i := 490) (by decide +kernel))) rfl
theorem wd_491 : Cond.instanceMethod y_Mo_cost ∈ ds_T := ds_mem (List.mem_append_right _ (List.mem_of_getElem? (i := 491) (by decide +kernel))) rfl
theorem wd_492 : Cond.selects "DaySwapsModel" y_Mo_cost y_Mo_cost ∈ ds_T := ds_mem (List.mem_append_right _ (List.mem_of_getElem? (i := 492) (by decide +kernel))) rfl
theorem wd_493 : Cond.code y_Mo_cost prog_6_method_17_code 1 (some FieldType.long) ∈ ds_T := ds_mem (List.mem_append_right _ (List.mem_of_getElem? (i := 493) (by decide +kernel))) rfl
theorem wd_494 : Cond.methodLink "DaySwapsModel" 120 y_Mo_costOf ∈ ds_T := ds_mem (List.mem_append_right _ (List.mem_of_getElem? (i := 494) (by decide +kernel))) rfl
theorem wd_496 : Cond.instanceMethod y_Mo_costOf ∈ ds_T := ds_mem (List.mem_append_right _ (List.mem_of_getElem? (i := 496) (by decide +kernel))) rfl
theorem wd_497 : Cond.code y_Mo_costOf prog_6_method_16_code 5 (some FieldType.long) ∈ ds_T := ds_mem (List.mem_append_right _ (List.mem_of_getElem? (i := 497) (by decide +kernel))) rfl
theorem wd_498 : Cond.methodLink "DaySwapsModel" 113 y_Mo_timeOf ∈ ds_T := ds_mem (List.mem_append_right _ (List.mem_of_getElem? (i := 498) (by decide +kernel))) rfl
theorem wd_500 : Cond.instanceMethod y_Mo_timeOf ∈ ds_T := ds_mem (List.mem_append_right _ (List.mem_of_getElem? (i := 500) (by decide +kernel))) rfl
theorem wd_501 : Cond.code y_Mo_timeOf prog_6_method_14_code 6 (some FieldType.int) ∈ ds_T := ds_mem (List.mem_append_right _ (List.mem_of_getElem? (i := 501) (by decide +kernel))) rfl
theorem wd_502 : Cond.methodLink "DaySwapsModel" 109 y_Mo_go ∈ ds_T := ds_mem (List.mem_append_right _ (List.mem_of_getElem? (i := 502) (by decide +kernel))) rfl
theorem wd_504 : Cond.instanceMethod y_Mo_go ∈ ds_T := ds_mem (List.mem_append_right _ (List.mem_of_getElem? (i := 504) (by decide +kernel))) rfl
theorem wd_505 : Cond.code y_Mo_go prog_6_method_13_code 5 none ∈ ds_T := ds_mem (List.mem_append_right _ (List.mem_of_getElem? (i := 505) (by decide +kernel))) rfl
theorem wd_506 : Cond.methodLink "DaySwapsModel" 117 y_Mo_overtimeOf ∈ ds_T := ds_mem (List.mem_append_right _ (List.mem_of_getElem? (i := 506) (by decide +kernel))) rfl
theorem wd_508 : Cond.instanceMethod y_Mo_overtimeOf ∈ ds_T := ds_mem (List.mem_append_right _ (List.mem_of_getElem? (i := 508) (by decide +kernel))) rfl
theorem wd_509 : Cond.code y_Mo_overtimeOf prog_6_method_15_code 4 (some FieldType.int) ∈ ds_T := ds_mem (List.mem_append_right _ (List.mem_of_getElem? (i := 509) (by decide +kernel))) rfl
theorem wd_510 : Cond.methodLink "DaySwapsLaw" 106 y_Mo_overtime ∈ ds_T := ds_mem (List.mem_append_right _ (List.mem_of_getElem? (i := 510) (by decide +kernel))) rfl
theorem wd_511 : Cond.instanceMethod y_Mo_overtime ∈ ds_T := ds_mem (List.mem_append_right _ (List.mem_of_getElem? (i := 511) (by decide +kernel))) rfl
theorem wd_512 : Cond.selects "DaySwapsModel" y_Mo_overtime y_Mo_overtime ∈ ds_T := ds_mem (List.mem_append_right _ (List.mem_of_getElem? (i := 512) (by decide +kernel))) rfl
theorem wd_513 : Cond.code y_Mo_overtime prog_6_method_18_code 2 (some FieldType.int) ∈ ds_T := ds_mem (List.mem_append_right _ (List.mem_of_getElem? (i := 513) (by decide +kernel))) rfl
theorem wd_514 : Cond.methodLink "DaySwapsLaw" 58 y_Mo_run ∈ ds_T := ds_mem (List.mem_append_right _ (List.mem_of_getElem? (i := 514) (by decide +kernel))) rfl
theorem wd_515 : Cond.instanceMethod y_Mo_run ∈ ds_T := ds_mem (List.mem_append_right _ (List.mem_of_getElem? (i := 515) (by decide +kernel))) rfl
theorem wd_516 : Cond.selects "DaySwapsModel" y_Mo_run y_Mo_run ∈ ds_T := ds_mem (List.mem_append_right _ (List.mem_of_getElem? (i := 516) (by decide +kernel))) rfl
theorem wd_517 : Cond.code y_Mo_run prog_6_method_25_code 9 (some FieldType.int) ∈ ds_T := ds_mem (List.mem_append_right _ (List.mem_of_getElem? (i := 517) (by decide +kernel))) rfl
theorem wd_518 : Cond.methodLink "DaySwapsModel" 128 y_Mo_movedBy ∈ ds_T := ds_mem (List.mem_append_right _ (List.mem_of_getElem? (i := 518) (by decide +kernel))) rfl
theorem wd_520 : Cond.instanceMethod y_Mo_movedBy ∈ ds_T := ds_mem (List.mem_append_right _ (List.mem_of_getElem? (i := 520) (by decide +kernel))) rfl
theorem wd_521 : Cond.code y_Mo_movedBy prog_6_method_22_code 4 (some FieldType.int) ∈ ds_T := ds_mem (List.mem_append_right _ (List.mem_of_getElem? (i := 521) (by decide +kernel))) rfl
theorem wd_522 : Cond.methodLink "DaySwapsModel" 132 y_Mo_holdsApart ∈ ds_T := ds_mem (List.mem_append_right _ (List.mem_of_getElem? (i := 522) (by decide +kernel))) rfl
theorem wd_524 : Cond.instanceMethod y_Mo_holdsApart ∈ ds_T := ds_mem (List.mem_append_right _ (List.mem_of_getElem? (i := 524) (by decide +kernel))) rfl
theorem wd_525 : Cond.code y_Mo_holdsApart prog_6_method_20_code 4 (some FieldType.boolean) ∈ ds_T := ds_mem (List.mem_append_right _ (List.mem_of_getElem? (i := 525) (by decide +kernel))) rfl
theorem wd_526 : Cond.methodLink "DaySwapsModel" 124 y_Mo_can ∈ ds_T := ds_mem (List.mem_append_right _ (List.mem_of_getElem? (i := 526) (by decide +kernel))) rfl
theorem wd_528 : Cond.instanceMethod y_Mo_can ∈ ds_T := ds_mem (List.mem_append_right _ (List.mem_of_getElem? (i := 528) (by decide +kernel))) rfl
theorem wd_529 : Cond.code y_Mo_can prog_6_method_19_code 3 (some FieldType.boolean) ∈ ds_T := ds_mem (List.mem_append_right _ (List.mem_of_getElem? (i := 529) (by decide +kernel))) rfl
theorem wd_530 : Cond.methodLink "DaySwapsModel" 136 y_Mo_holdsOvertime ∈ ds_T := ds_mem (List.mem_append_right _ (List.mem_of_getElem? (i := 530) (by decide +kernel))) rfl
theorem wd_532 : Cond.instanceMethod y_Mo_holdsOvertime ∈ ds_T := ds_mem (List.mem_append_right _ (List.mem_of_getElem? (i := 532) (by decide +kernel))) rfl
theorem wd_533 : Cond.code y_Mo_holdsOvertime prog_6_method_21_code 3 (some FieldType.boolean) ∈ ds_T := ds_mem (List.mem_append_right _ (List.mem_of_getElem? (i := 533) (by decide +kernel))) rfl
theorem wd_534 : Cond.methodLink "DaySwapsModel" 139 y_Mo_turn ∈ ds_T := ds_mem (List.mem_append_right _ (List.mem_of_getElem? (i := 534) (by decide +kernel))) rfl
theorem wd_536 : Cond.instanceMethod y_Mo_turn ∈ ds_T := ds_mem (List.mem_append_right _ (List.mem_of_getElem? (i := 536) (by decide +kernel))) rfl
theorem wd_537 : Cond.code y_Mo_turn prog_6_method_23_code 2 (some FieldType.boolean) ∈ ds_T := ds_mem (List.mem_append_right _ (List.mem_of_getElem? (i := 537) (by decide +kernel))) rfl
theorem wd_538 : Cond.methodLink "DaySwapsModel" 142 y_Mo_why ∈ ds_T := ds_mem (List.mem_append_right _ (List.mem_of_getElem? (i := 538) (by decide +kernel))) rfl
theorem wd_540 : Cond.instanceMethod y_Mo_why ∈ ds_T := ds_mem (List.mem_append_right _ (List.mem_of_getElem? (i := 540) (by decide +kernel))) rfl
theorem wd_541 : Cond.code y_Mo_why prog_6_method_24_code 4 (some FieldType.int) ∈ ds_T := ds_mem (List.mem_append_right _ (List.mem_of_getElem? (i := 541) (by decide +kernel))) rfl
theorem wd_542 : Cond.methodLink "DaySwapsModel" 146 y_Mo_keep ∈ ds_T := ds_mem (List.mem_append_right _ (List.mem_of_getElem? (i := 542) (by decide +kernel))) rfl
theorem wd_544 : Cond.instanceMethod y_Mo_keep ∈ ds_T := ds_mem (List.mem_append_right _ (List.mem_of_getElem? (i := 544) (by decide +kernel))) rfl
theorem wd_545 : Cond.code y_Mo_keep prog_6_method_26_code 3 none ∈ ds_T := ds_mem (List.mem_append_right _ (List.mem_of_getElem? (i := 545) (by decide +kernel))) rfl
theorem wd_546 : Cond.methodLink "DaySwapsLaw" 88 y_Mo_undo ∈ ds_T := ds_mem (List.mem_append_right _ (List.mem_of_getElem? (i := 546) (by decide +kernel))) rfl
theorem wd_547 : Cond.instanceMethod y_Mo_undo ∈ ds_T := ds_mem (List.mem_append_right _ (List.mem_of_getElem? (i := 547) (by decide +kernel))) rfl
theorem wd_548 : Cond.selects "DaySwapsModel" y_Mo_undo y_Mo_undo ∈ ds_T := ds_mem (List.mem_append_right _ (List.mem_of_getElem? (i := 548) (by decide +kernel))) rfl
theorem wd_549 : Cond.code y_Mo_undo prog_6_method_27_code 2 (some FieldType.boolean) ∈ ds_T := ds_mem (List.mem_append_right _ (List.mem_of_getElem? (i := 549) (by decide +kernel))) rfl
theorem wd_550 : Cond.methodLink "DaySwapsLaw" 63 y_Mo_vehicleOf ∈ ds_T := ds_mem (List.mem_append_right _ (List.mem_of_getElem? (i := 550) (by decide +kernel))) rfl
theorem wd_551 : Cond.instanceMethod y_Mo_vehicleOf ∈ ds_T := ds_mem (List.mem_append_right _ (List.mem_of_getElem? (i := 551) (by decide +kernel))) rfl
theorem wd_552 : Cond.selects "DaySwapsModel" y_Mo_vehicleOf y_Mo_vehicleOf ∈ ds_T := ds_mem (List.mem_append_right _ (List.mem_of_getElem? (i := 552) (by decide +kernel))) rfl
theorem wd_553 : Cond.code y_Mo_vehicleOf prog_6_method_28_code 2 (some FieldType.int) ∈ ds_T := ds_mem (List.mem_append_right _ (List.mem_of_getElem? (i := 553) (by decide +kernel))) rfl
theorem wd_554 : Cond.methodLink "DaySwapsLaw" 67 y_Mo_place ∈ ds_T := ds_mem (List.mem_append_right _ (List.mem_of_getElem? (i := 554) (by decide +kernel))) rfl
theorem wd_555 : Cond.instanceMethod y_Mo_place ∈ ds_T := ds_mem (List.mem_append_right _ (List.mem_of_getElem? (i := 555) (by decide +kernel))) rfl
theorem wd_556 : Cond.selects "DaySwapsModel" y_Mo_place y_Mo_place ∈ ds_T := ds_mem (List.mem_append_right _ (List.mem_of_getElem? (i := 556) (by decide +kernel))) rfl
theorem wd_557 : Cond.code y_Mo_place prog_6_method_29_code 3 (some FieldType.int) ∈ ds_T := ds_mem (List.mem_append_right _ (List.mem_of_getElem? (i := 557) (by decide +kernel))) rfl
theorem wd_558 : Cond.methodLink "DaySwapsLaw" 71 y_Mo_moved ∈ ds_T := ds_mem (List.mem_append_right _ (List.mem_of_getElem? (i := 558) (by decide +kernel))) rfl
theorem wd_559 : Cond.instanceMethod y_Mo_moved ∈ ds_T := ds_mem (List.mem_append_right _ (List.mem_of_getElem? (i := 559) (by decide +kernel))) rfl
theorem wd_560 : Cond.selects "DaySwapsModel" y_Mo_moved y_Mo_moved ∈ ds_T := ds_mem (List.mem_append_right _ (List.mem_of_getElem? (i := 560) (by decide +kernel))) rfl
theorem wd_561 : Cond.code y_Mo_moved prog_6_method_30_code 4 (some FieldType.int) ∈ ds_T := ds_mem (List.mem_append_right _ (List.mem_of_getElem? (i := 561) (by decide +kernel))) rfl
theorem wd_562 : Cond.methodLink "DaySwapsLaw" 75 y_Mo_carried ∈ ds_T := ds_mem (List.mem_append_right _ (List.mem_of_getElem? (i := 562) (by decide +kernel))) rfl
theorem wd_563 : Cond.instanceMethod y_Mo_carried ∈ ds_T := ds_mem (List.mem_append_right _ (List.mem_of_getElem? (i := 563) (by decide +kernel))) rfl
theorem wd_564 : Cond.selects "DaySwapsModel" y_Mo_carried y_Mo_carried ∈ ds_T := ds_mem (List.mem_append_right _ (List.mem_of_getElem? (i := 564) (by decide +kernel))) rfl
theorem wd_565 : Cond.code y_Mo_carried prog_6_method_31_code 4 (some FieldType.int) ∈ ds_T := ds_mem (List.mem_append_right _ (List.mem_of_getElem? (i := 565) (by decide +kernel))) rfl
theorem wd_566 : Cond.methodLink "DaySwapsLaw" 79 y_Mo_send ∈ ds_T := ds_mem (List.mem_append_right _ (List.mem_of_getElem? (i := 566) (by decide +kernel))) rfl
theorem wd_567 : Cond.instanceMethod y_Mo_send ∈ ds_T := ds_mem (List.mem_append_right _ (List.mem_of_getElem? (i := 567) (by decide +kernel))) rfl
theorem wd_568 : Cond.selects "DaySwapsModel" y_Mo_send y_Mo_send ∈ ds_T := ds_mem (List.mem_append_right _ (List.mem_of_getElem? (i := 568) (by decide +kernel))) rfl
theorem wd_569 : Cond.code y_Mo_send prog_6_method_32_code 3 (some FieldType.int) ∈ ds_T := ds_mem (List.mem_append_right _ (List.mem_of_getElem? (i := 569) (by decide +kernel))) rfl
theorem wd_570 : Cond.methodLink "DaySwapsLaw" 83 y_Mo_sent ∈ ds_T := ds_mem (List.mem_append_right _ (List.mem_of_getElem? (i := 570) (by decide +kernel))) rfl
theorem wd_571 : Cond.instanceMethod y_Mo_sent ∈ ds_T := ds_mem (List.mem_append_right _ (List.mem_of_getElem? (i := 571) (by decide +kernel))) rfl
theorem wd_572 : Cond.selects "DaySwapsModel" y_Mo_sent y_Mo_sent ∈ ds_T := ds_mem (List.mem_append_right _ (List.mem_of_getElem? (i := 572) (by decide +kernel))) rfl
theorem wd_573 : Cond.code y_Mo_sent prog_6_method_33_code 2 (some FieldType.int) ∈ ds_T := ds_mem (List.mem_append_right _ (List.mem_of_getElem? (i := 573) (by decide +kernel))) rfl
theorem wd_574 : Cond.methodLink "DaySwapsLaw" 92 y_Mo_copy ∈ ds_T := ds_mem (List.mem_append_right _ (List.mem_of_getElem? (i := 574) (by decide +kernel))) rfl
theorem wd_575 : Cond.instanceMethod y_Mo_copy ∈ ds_T := ds_mem (List.mem_append_right _ (List.mem_of_getElem? (i := 575) (by decide +kernel))) rfl
theorem wd_576 : Cond.selects "DaySwapsModel" y_Mo_copy y_Mo_copy ∈ ds_T := ds_mem (List.mem_append_right _ (List.mem_of_getElem? (i := 576) (by decide +kernel))) rfl
theorem wd_577 : Cond.code y_Mo_copy prog_6_method_34_code 2 (some FieldType.int) ∈ ds_T := ds_mem (List.mem_append_right _ (List.mem_of_getElem? (i := 577) (by decide +kernel))) rfl
theorem wd_578 : Cond.methodLink "DaySwapsLaw" 97 y_Mo_compare ∈ ds_T := ds_mem (List.mem_append_right _ (List.mem_of_getElem? (i := 578) (by decide +kernel))) rfl
theorem wd_579 : Cond.instanceMethod y_Mo_compare ∈ ds_T := ds_mem (List.mem_append_right _ (List.mem_of_getElem? (i := 579) (by decide +kernel))) rfl
theorem wd_580 : Cond.selects "DaySwapsModel" y_Mo_compare y_Mo_compare ∈ ds_T := ds_mem (List.mem_append_right _ (List.mem_of_getElem? (i := 580) (by decide +kernel))) rfl
theorem wd_581 : Cond.code y_Mo_compare prog_6_method_35_code 5 (some FieldType.int) ∈ ds_T := ds_mem (List.mem_append_right _ (List.mem_of_getElem? (i := 581) (by decide +kernel))) rfl
theorem wd_582 : Cond.methodLink "DaySwapsLaw" 110 y_Mo_next ∈ ds_T := ds_mem (List.mem_append_right _ (List.mem_of_getElem? (i := 582) (by decide +kernel))) rfl
theorem wd_583 : Cond.instanceMethod y_Mo_next ∈ ds_T := ds_mem (List.mem_append_right _ (List.mem_of_getElem? (i := 583) (by decide +kernel))) rfl
theorem wd_584 : Cond.selects "DaySwapsModel" y_Mo_next y_Mo_next ∈ ds_T := ds_mem (List.mem_append_right _ (List.mem_of_getElem? (i := 584) (by decide +kernel))) rfl
theorem wd_585 : Cond.code y_Mo_next prog_6_method_36_code 5 (some FieldType.int) ∈ ds_T := ds_mem (List.mem_append_right _ (List.mem_of_getElem? (i := 585) (by decide +kernel))) rfl
theorem ws_Day_isVehicle : Cond.selects R_Day y_Day_isVehicle y_Day_isVehicle ∈ ds_T := ds_mem (List.mem_append_left _ (List.mem_of_getElem? (i := 0) (by decide +kernel))) rfl
theorem ws_Day_tell : Cond.selects R_Day y_Day_tell y_Day_tell ∈ ds_T := ds_mem (List.mem_append_left _ (List.mem_of_getElem? (i := 1) (by decide +kernel))) rfl
theorem ws_Day_append : Cond.selects R_Day y_Day_append y_Day_append ∈ ds_T := ds_mem (List.mem_append_left _ (List.mem_of_getElem? (i := 2) (by decide +kernel))) rfl
theorem ws_Day_isStop : Cond.selects R_Day y_Day_isStop y_Day_isStop ∈ ds_T := ds_mem (List.mem_append_left _ (List.mem_of_getElem? (i := 3) (by decide +kernel))) rfl
theorem ws_Se_least : Cond.selects R_Se y_Se_least y_Se_least ∈ ds_T := ds_mem (List.mem_append_left _ (List.mem_of_getElem? (i := 4) (by decide +kernel))) rfl
theorem ws_Se_weightOf : Cond.selects R_Se y_Se_weightOf y_Se_weightOf ∈ ds_T := ds_mem (List.mem_append_left _ (List.mem_of_getElem? (i := 5) (by decide +kernel))) rfl
theorem ws_Day_mayHave : Cond.selects R_Day y_Day_mayHave y_Day_mayHave ∈ ds_T := ds_mem (List.mem_append_left _ (List.mem_of_getElem? (i := 6) (by decide +kernel))) rfl
theorem ws_Day_canDo : Cond.selects R_Day y_Day_canDo y_Day_canDo ∈ ds_T := ds_mem (List.mem_append_left _ (List.mem_of_getElem? (i := 7) (by decide +kernel))) rfl
theorem ws_Day_timeOf : Cond.selects R_Day y_Day_timeOf y_Day_timeOf ∈ ds_T := ds_mem (List.mem_append_left _ (List.mem_of_getElem? (i := 8) (by decide +kernel))) rfl
theorem ws_Day_addRound : Cond.selects R_Day y_Day_addRound y_Day_addRound ∈ ds_T := ds_mem (List.mem_append_left _ (List.mem_of_getElem? (i := 9) (by decide +kernel))) rfl
theorem ws_Day_overHours : Cond.selects R_Day y_Day_overHours y_Day_overHours ∈ ds_T := ds_mem (List.mem_append_left _ (List.mem_of_getElem? (i := 10) (by decide +kernel))) rfl
theorem ws_Se_join : Cond.selects R_Se y_Se_join y_Se_join ∈ ds_T := ds_mem (List.mem_append_left _ (List.mem_of_getElem? (i := 11) (by decide +kernel))) rfl
theorem ws_DS_whyNoPlan : Cond.selects R_DS y_DS_whyNoPlan y_DS_whyNoPlan ∈ ds_T := ds_mem (List.mem_append_left _ (List.mem_of_getElem? (i := 12) (by decide +kernel))) rfl
theorem ws_Sh_putLatest : Cond.selects R_Sh y_Sh_putLatest y_Sh_putLatest ∈ ds_T := ds_mem (List.mem_append_left _ (List.mem_of_getElem? (i := 13) (by decide +kernel))) rfl
theorem ws_DS_movedSet : Cond.selects R_DS y_DS_movedSet y_DS_movedSet ∈ ds_T := ds_mem (List.mem_append_left _ (List.mem_of_getElem? (i := 14) (by decide +kernel))) rfl
theorem ws_DS_setOf : Cond.selects R_DS y_DS_setOf y_DS_setOf ∈ ds_T := ds_mem (List.mem_append_left _ (List.mem_of_getElem? (i := 15) (by decide +kernel))) rfl
theorem ws_Day_placeInRound : Cond.selects R_Day y_Day_placeInRound y_Day_placeInRound ∈ ds_T := ds_mem (List.mem_append_left _ (List.mem_of_getElem? (i := 16) (by decide +kernel))) rfl
theorem ws_Day_prepareRow : Cond.selects R_Day y_Day_prepareRow y_Day_prepareRow ∈ ds_T := ds_mem (List.mem_append_left _ (List.mem_of_getElem? (i := 17) (by decide +kernel))) rfl
theorem ws_Day_turn : Cond.selects R_Day y_Day_turn y_Day_turn ∈ ds_T := ds_mem (List.mem_append_left _ (List.mem_of_getElem? (i := 18) (by decide +kernel))) rfl
theorem ws_Mo_isVehicle : Cond.selects R_Mo y_Mo_isVehicle y_Mo_isVehicle ∈ ds_T := ds_mem (List.mem_append_left _ (List.mem_of_getElem? (i := 19) (by decide +kernel))) rfl
theorem ws_Mo_isStop : Cond.selects R_Mo y_Mo_isStop y_Mo_isStop ∈ ds_T := ds_mem (List.mem_append_left _ (List.mem_of_getElem? (i := 20) (by decide +kernel))) rfl
theorem ws_Mo_costOf : Cond.selects R_Mo y_Mo_costOf y_Mo_costOf ∈ ds_T := ds_mem (List.mem_append_left _ (List.mem_of_getElem? (i := 21) (by decide +kernel))) rfl
theorem ws_Mo_timeOf : Cond.selects R_Mo y_Mo_timeOf y_Mo_timeOf ∈ ds_T := ds_mem (List.mem_append_left _ (List.mem_of_getElem? (i := 22) (by decide +kernel))) rfl
theorem ws_Mo_go : Cond.selects R_Mo y_Mo_go y_Mo_go ∈ ds_T := ds_mem (List.mem_append_left _ (List.mem_of_getElem? (i := 23) (by decide +kernel))) rfl
theorem ws_Mo_overtimeOf : Cond.selects R_Mo y_Mo_overtimeOf y_Mo_overtimeOf ∈ ds_T := ds_mem (List.mem_append_left _ (List.mem_of_getElem? (i := 24) (by decide +kernel))) rfl
theorem ws_Mo_movedBy : Cond.selects R_Mo y_Mo_movedBy y_Mo_movedBy ∈ ds_T := ds_mem (List.mem_append_left _ (List.mem_of_getElem? (i := 25) (by decide +kernel))) rfl
theorem ws_Mo_holdsApart : Cond.selects R_Mo y_Mo_holdsApart y_Mo_holdsApart ∈ ds_T := ds_mem (List.mem_append_left _ (List.mem_of_getElem? (i := 26) (by decide +kernel))) rfl
theorem ws_Mo_can : Cond.selects R_Mo y_Mo_can y_Mo_can ∈ ds_T := ds_mem (List.mem_append_left _ (List.mem_of_getElem? (i := 27) (by decide +kernel))) rfl
theorem ws_Mo_holdsOvertime : Cond.selects R_Mo y_Mo_holdsOvertime y_Mo_holdsOvertime ∈ ds_T := ds_mem (List.mem_append_left _ (List.mem_of_getElem? (i := 28) (by decide +kernel))) rfl
theorem ws_Mo_turn : Cond.selects R_Mo y_Mo_turn y_Mo_turn ∈ ds_T := ds_mem (List.mem_append_left _ (List.mem_of_getElem? (i := 29) (by decide +kernel))) rfl
theorem ws_Mo_why : Cond.selects R_Mo y_Mo_why y_Mo_why ∈ ds_T := ds_mem (List.mem_append_left _ (List.mem_of_getElem? (i := 30) (by decide +kernel))) rfl
theorem ws_Mo_keep : Cond.selects R_Mo y_Mo_keep y_Mo_keep ∈ ds_T := ds_mem (List.mem_append_left _ (List.mem_of_getElem? (i := 31) (by decide +kernel))) rfl
