def lw_good : List Cond := lw_tbl.filter goodWord
theorem lw_good_of {w : Cond} (h : w ∈ lw_tbl) (hg : goodWord w = true) : w ∈ lw_good := List.mem_filter.mpr ⟨h, hg⟩
theorem z_0 : Cond.selects "CourierDesk" y_Dsk_addFourBytes y_Dsk_addFourBytes ∈ lw_good := lw_good_of (List.mem_append_left _ (List.mem_of_getElem? (i := 0) (by decide +kernel))) rfl
theorem z_1 : Cond.selects "CourierDesk$Words" y_Wrd_closeWord y_Wrd_closeWord ∈ lw_good := lw_good_of (List.mem_append_left _ (List.mem_of_getElem? (i := 1) (by decide +kernel))) rfl
theorem z_2 : Cond.selects "CourierDesk$Words" y_Wrd_startOf y_Wrd_startOf ∈ lw_good := lw_good_of (List.mem_append_left _ (List.mem_of_getElem? (i := 2) (by decide +kernel))) rfl
theorem z_3 : Cond.selects "CourierDesk$Row" y_Row_standsAt y_Row_standsAt ∈ lw_good := lw_good_of (List.mem_append_left _ (List.mem_of_getElem? (i := 3) (by decide +kernel))) rfl
theorem z_4 : Cond.selects "CourierDeskModel" y_Mdl_four y_Mdl_four ∈ lw_good := lw_good_of (List.mem_append_left _ (List.mem_of_getElem? (i := 4) (by decide +kernel))) rfl
theorem z_5 : Cond.selects "CourierDeskModel" y_Mdl_bit y_Mdl_bit ∈ lw_good := lw_good_of (List.mem_append_left _ (List.mem_of_getElem? (i := 5) (by decide +kernel))) rfl
theorem z_6 : Cond.selects "CourierDeskModel" y_Mdl_word y_Mdl_word ∈ lw_good := lw_good_of (List.mem_append_left _ (List.mem_of_getElem? (i := 6) (by decide +kernel))) rfl
theorem z_7 : Cond.selects "CourierDeskModel" y_Mdl_none y_Mdl_none ∈ lw_good := lw_good_of (List.mem_append_left _ (List.mem_of_getElem? (i := 7) (by decide +kernel))) rfl
theorem z_8 : Cond.selects "CourierDeskModel" y_Mdl_on y_Mdl_on ∈ lw_good := lw_good_of (List.mem_append_left _ (List.mem_of_getElem? (i := 8) (by decide +kernel))) rfl
theorem z_9 : Cond.selects "CourierDeskModel" y_Mdl_often y_Mdl_often ∈ lw_good := lw_good_of (List.mem_append_left _ (List.mem_of_getElem? (i := 9) (by decide +kernel))) rfl
theorem z_10 : Cond.selects "CourierDeskModel" y_Mdl_stands y_Mdl_stands ∈ lw_good := lw_good_of (List.mem_append_left _ (List.mem_of_getElem? (i := 10) (by decide +kernel))) rfl
theorem k_0 : (Cond.initialized "CourierDeskLaw") ∈ lw_good := lw_good_of (List.mem_append_right _ (List.mem_of_getElem? (i := 0) (by decide +kernel))) rfl
theorem k_1 : (Cond.initialized "CourierDesk") ∈ lw_good := lw_good_of (List.mem_append_right _ (List.mem_of_getElem? (i := 1) (by decide +kernel))) rfl
theorem k_2 : (Cond.initialized "CourierDesk$Row") ∈ lw_good := lw_good_of (List.mem_append_right _ (List.mem_of_getElem? (i := 2) (by decide +kernel))) rfl
theorem k_3 : (Cond.initialized "CourierDesk$Words") ∈ lw_good := lw_good_of (List.mem_append_right _ (List.mem_of_getElem? (i := 3) (by decide +kernel))) rfl
theorem k_4 : (Cond.initialized "CourierDeskModel") ∈ lw_good := lw_good_of (List.mem_append_right _ (List.mem_of_getElem? (i := 4) (by decide +kernel))) rfl
theorem k_5 : (Cond.initialized "CourierDesk$Signs") ∈ lw_good := lw_good_of (List.mem_append_right _ (List.mem_of_getElem? (i := 5) (by decide +kernel))) rfl
theorem k_6 : (Cond.initialized "java/lang/Math") ∈ lw_good := lw_good_of (List.mem_append_right _ (List.mem_of_getElem? (i := 6) (by decide +kernel))) rfl
theorem k_7 : (Cond.initialized "java/lang/System") ∈ lw_good := lw_good_of (List.mem_append_right _ (List.mem_of_getElem? (i := 7) (by decide +kernel))) rfl
theorem k_8 : (Cond.initialized "java/util/Arrays") ∈ lw_good := lw_good_of (List.mem_append_right _ (List.mem_of_getElem? (i := 8) (by decide +kernel))) rfl
theorem k_9 : (Cond.classLink "CourierDeskLaw" 7 "CourierDesk") ∈ lw_good := lw_good_of (List.mem_append_right _ (List.mem_of_getElem? (i := 9) (by decide +kernel))) rfl
theorem k_10 : (Cond.instantiable "CourierDesk" 6) ∈ lw_good := lw_good_of (List.mem_append_right _ (List.mem_of_getElem? (i := 10) (by decide +kernel))) rfl
theorem k_11 : (Cond.methodLink "CourierDeskLaw" 9 y_Dsk_init) ∈ lw_good := lw_good_of (List.mem_append_right _ (List.mem_of_getElem? (i := 11) (by decide +kernel))) rfl
theorem k_12 : (Cond.instanceMethod y_Dsk_init) ∈ lw_good := lw_good_of (List.mem_append_right _ (List.mem_of_getElem? (i := 12) (by decide +kernel))) rfl
theorem k_13 : (Cond.code y_Dsk_init prog_1_method_1_code 1 none) ∈ lw_good := lw_good_of (List.mem_append_right _ (List.mem_of_getElem? (i := 13) (by decide +kernel))) rfl
theorem k_14 : (Cond.methodLink "CourierDesk" 1 y_Obj_init) ∈ lw_good := lw_good_of (List.mem_append_right _ (List.mem_of_getElem? (i := 14) (by decide +kernel))) rfl
theorem k_15 : (Cond.instanceMethod y_Obj_init) ∈ lw_good := lw_good_of (List.mem_append_right _ (List.mem_of_getElem? (i := 15) (by decide +kernel))) rfl
theorem k_16 : (Cond.code y_Obj_init object_method_1_code 1 none) ∈ lw_good := lw_good_of (List.mem_append_right _ (List.mem_of_getElem? (i := 16) (by decide +kernel))) rfl
theorem k_17 : (Cond.classLink "CourierDesk" 7 "CourierDesk$Row") ∈ lw_good := lw_good_of (List.mem_append_right _ (List.mem_of_getElem? (i := 17) (by decide +kernel))) rfl
theorem k_18 : (Cond.instantiable "CourierDesk$Row" 2) ∈ lw_good := lw_good_of (List.mem_append_right _ (List.mem_of_getElem? (i := 18) (by decide +kernel))) rfl
theorem k_19 : (Cond.methodLink "CourierDesk" 11 y_Row_init) ∈ lw_good := lw_good_of (List.mem_append_right _ (List.mem_of_getElem? (i := 19) (by decide +kernel))) rfl
theorem k_20 : (Cond.instanceMethod y_Row_init) ∈ lw_good := lw_good_of (List.mem_append_right _ (List.mem_of_getElem? (i := 20) (by decide +kernel))) rfl
theorem k_21 : (Cond.code y_Row_init prog_2_method_1_code 2 none) ∈ lw_good := lw_good_of (List.mem_append_right _ (List.mem_of_getElem? (i := 21) (by decide +kernel))) rfl
theorem k_22 : (Cond.methodLink "CourierDesk$Row" 1 y_Obj_init) ∈ lw_good := lw_good_of (List.mem_append_right _ (List.mem_of_getElem? (i := 22) (by decide +kernel))) rfl
theorem k_23 : (Cond.fieldLink "CourierDesk$Row" 7 "CourierDesk$Row" "numbers" "[I") ∈ lw_good := lw_good_of (List.mem_append_right _ (List.mem_of_getElem? (i := 23) (by decide +kernel))) rfl
theorem k_24 : (Cond.fieldLink "CourierDesk$Row" 13 "CourierDesk$Row" "length" "I") ∈ lw_good := lw_good_of (List.mem_append_right _ (List.mem_of_getElem? (i := 24) (by decide +kernel))) rfl
theorem k_25 : (Cond.laysFinal "CourierDesk$Row" "CourierDesk$Row" "numbers" "[I") ∈ lw_good := lw_good_of (List.mem_append_right _ (List.mem_of_getElem? (i := 25) (by decide +kernel))) rfl
theorem k_26 : (Cond.soleField "CourierDesk$Row" "numbers") ∈ lw_good := lw_good_of (List.mem_append_right _ (List.mem_of_getElem? (i := 26) (by decide +kernel))) rfl
theorem k_27 : (Cond.lays "CourierDesk$Row" "CourierDesk$Row" "length" "I") ∈ lw_good := lw_good_of (List.mem_append_right _ (List.mem_of_getElem? (i := 27) (by decide +kernel))) rfl
theorem k_28 : (Cond.soleField "CourierDesk$Row" "length") ∈ lw_good := lw_good_of (List.mem_append_right _ (List.mem_of_getElem? (i := 28) (by decide +kernel))) rfl
theorem k_29 : (Cond.superclass "CourierDesk$Row" "java/lang/Object") ∈ lw_good := lw_good_of (List.mem_append_right _ (List.mem_of_getElem? (i := 29) (by decide +kernel))) rfl
theorem k_30 : (Cond.arrayClass Jvm.ClassFile.FieldType.int) ∈ lw_good := lw_good_of (List.mem_append_right _ (List.mem_of_getElem? (i := 30) (by decide +kernel))) rfl
theorem k_31 : (Cond.classLink "CourierDesk" 27 "CourierDesk$Words") ∈ lw_good := lw_good_of (List.mem_append_right _ (List.mem_of_getElem? (i := 31) (by decide +kernel))) rfl
theorem k_32 : (Cond.instantiable "CourierDesk$Words" 2) ∈ lw_good := lw_good_of (List.mem_append_right _ (List.mem_of_getElem? (i := 32) (by decide +kernel))) rfl
theorem k_33 : (Cond.methodLink "CourierDesk" 29 y_Wrd_init) ∈ lw_good := lw_good_of (List.mem_append_right _ (List.mem_of_getElem? (i := 33) (by decide +kernel))) rfl
theorem k_34 : (Cond.instanceMethod y_Wrd_init) ∈ lw_good := lw_good_of (List.mem_append_right _ (List.mem_of_getElem? (i := 34) (by decide +kernel))) rfl
theorem k_35 : (Cond.code y_Wrd_init prog_4_method_1_code 2 none) ∈ lw_good := lw_good_of (List.mem_append_right _ (List.mem_of_getElem? (i := 35) (by decide +kernel))) rfl
theorem k_36 : (Cond.methodLink "CourierDesk$Words" 1 y_Obj_init) ∈ lw_good := lw_good_of (List.mem_append_right _ (List.mem_of_getElem? (i := 36) (by decide +kernel))) rfl
theorem k_37 : (Cond.classLink "CourierDesk$Words" 7 "CourierDesk$Row") ∈ lw_good := lw_good_of (List.mem_append_right _ (List.mem_of_getElem? (i := 37) (by decide +kernel))) rfl
theorem k_38 : (Cond.methodLink "CourierDesk$Words" 9 y_Row_init) ∈ lw_good := lw_good_of (List.mem_append_right _ (List.mem_of_getElem? (i := 38) (by decide +kernel))) rfl
theorem k_39 : (Cond.fieldLink "CourierDesk$Words" 12 "CourierDesk$Words" "bytes" "LCourierDesk$Row;") ∈ lw_good := lw_good_of (List.mem_append_right _ (List.mem_of_getElem? (i := 39) (by decide +kernel))) rfl
theorem k_40 : (Cond.fieldLink "CourierDesk$Words" 18 "CourierDesk$Words" "ends" "LCourierDesk$Row;") ∈ lw_good := lw_good_of (List.mem_append_right _ (List.mem_of_getElem? (i := 40) (by decide +kernel))) rfl
theorem k_41 : (Cond.laysFinal "CourierDesk$Words" "CourierDesk$Words" "bytes" "LCourierDesk$Row;") ∈ lw_good := lw_good_of (List.mem_append_right _ (List.mem_of_getElem? (i := 41) (by decide +kernel))) rfl
theorem k_42 : (Cond.soleField "CourierDesk$Words" "bytes") ∈ lw_good := lw_good_of (List.mem_append_right _ (List.mem_of_getElem? (i := 42) (by decide +kernel))) rfl
theorem k_43 : (Cond.laysFinal "CourierDesk$Words" "CourierDesk$Words" "ends" "LCourierDesk$Row;") ∈ lw_good := lw_good_of (List.mem_append_right _ (List.mem_of_getElem? (i := 43) (by decide +kernel))) rfl
theorem k_44 : (Cond.soleField "CourierDesk$Words" "ends") ∈ lw_good := lw_good_of (List.mem_append_right _ (List.mem_of_getElem? (i := 44) (by decide +kernel))) rfl
theorem k_45 : (Cond.superclass "CourierDesk$Words" "java/lang/Object") ∈ lw_good := lw_good_of (List.mem_append_right _ (List.mem_of_getElem? (i := 45) (by decide +kernel))) rfl
theorem k_46 : (Cond.fieldLink "CourierDesk" 14 "CourierDesk" "tape" "LCourierDesk$Row;") ∈ lw_good := lw_good_of (List.mem_append_right _ (List.mem_of_getElem? (i := 46) (by decide +kernel))) rfl
theorem k_47 : (Cond.fieldLink "CourierDesk" 18 "CourierDesk" "out" "LCourierDesk$Row;") ∈ lw_good := lw_good_of (List.mem_append_right _ (List.mem_of_getElem? (i := 47) (by decide +kernel))) rfl
theorem k_48 : (Cond.fieldLink "CourierDesk" 21 "CourierDesk" "rack" "LCourierDesk$Row;") ∈ lw_good := lw_good_of (List.mem_append_right _ (List.mem_of_getElem? (i := 48) (by decide +kernel))) rfl
theorem k_49 : (Cond.fieldLink "CourierDesk" 24 "CourierDesk" "pile" "LCourierDesk$Row;") ∈ lw_good := lw_good_of (List.mem_append_right _ (List.mem_of_getElem? (i := 49) (by decide +kernel))) rfl
theorem k_50 : (Cond.fieldLink "CourierDesk" 30 "CourierDesk" "latest" "LCourierDesk$Words;") ∈ lw_good := lw_good_of (List.mem_append_right _ (List.mem_of_getElem? (i := 50) (by decide +kernel))) rfl
theorem k_51 : (Cond.fieldLink "CourierDesk" 34 "CourierDesk" "lot" "J") ∈ lw_good := lw_good_of (List.mem_append_right _ (List.mem_of_getElem? (i := 51) (by decide +kernel))) rfl
theorem k_52 : (Cond.laysFinal "CourierDesk" "CourierDesk" "tape" "LCourierDesk$Row;") ∈ lw_good := lw_good_of (List.mem_append_right _ (List.mem_of_getElem? (i := 52) (by decide +kernel))) rfl
theorem k_53 : (Cond.soleField "CourierDesk" "tape") ∈ lw_good := lw_good_of (List.mem_append_right _ (List.mem_of_getElem? (i := 53) (by decide +kernel))) rfl
theorem k_54 : (Cond.laysFinal "CourierDesk" "CourierDesk" "out" "LCourierDesk$Row;") ∈ lw_good := lw_good_of (List.mem_append_right _ (List.mem_of_getElem? (i := 54) (by decide +kernel))) rfl
theorem k_55 : (Cond.soleField "CourierDesk" "out") ∈ lw_good := lw_good_of (List.mem_append_right _ (List.mem_of_getElem? (i := 55) (by decide +kernel))) rfl
theorem k_56 : (Cond.laysFinal "CourierDesk" "CourierDesk" "rack" "LCourierDesk$Row;") ∈ lw_good := lw_good_of (List.mem_append_right _ (List.mem_of_getElem? (i := 56) (by decide +kernel))) rfl
theorem k_57 : (Cond.soleField "CourierDesk" "rack") ∈ lw_good := lw_good_of (List.mem_append_right _ (List.mem_of_getElem? (i := 57) (by decide +kernel))) rfl
theorem k_58 : (Cond.laysFinal "CourierDesk" "CourierDesk" "pile" "LCourierDesk$Row;") ∈ lw_good := lw_good_of (List.mem_append_right _ (List.mem_of_getElem? (i := 58) (by decide +kernel))) rfl
theorem k_59 : (Cond.soleField "CourierDesk" "pile") ∈ lw_good := lw_good_of (List.mem_append_right _ (List.mem_of_getElem? (i := 59) (by decide +kernel))) rfl
theorem k_60 : (Cond.laysFinal "CourierDesk" "CourierDesk" "latest" "LCourierDesk$Words;") ∈ lw_good := lw_good_of (List.mem_append_right _ (List.mem_of_getElem? (i := 60) (by decide +kernel))) rfl
theorem k_61 : (Cond.soleField "CourierDesk" "latest") ∈ lw_good := lw_good_of (List.mem_append_right _ (List.mem_of_getElem? (i := 61) (by decide +kernel))) rfl
theorem k_62 : (Cond.lays "CourierDesk" "CourierDesk" "lot" "J") ∈ lw_good := lw_good_of (List.mem_append_right _ (List.mem_of_getElem? (i := 62) (by decide +kernel))) rfl
theorem k_63 : (Cond.soleField "CourierDesk" "lot") ∈ lw_good := lw_good_of (List.mem_append_right _ (List.mem_of_getElem? (i := 63) (by decide +kernel))) rfl
theorem k_64 : (Cond.superclass "CourierDesk" "java/lang/Object") ∈ lw_good := lw_good_of (List.mem_append_right _ (List.mem_of_getElem? (i := 64) (by decide +kernel))) rfl
theorem k_65 : (Cond.methodLink "CourierDeskLaw" 13 y_Dsk_feed) ∈ lw_good := lw_good_of (List.mem_append_right _ (List.mem_of_getElem? (i := 65) (by decide +kernel))) rfl
theorem k_66 : (Cond.instanceMethod y_Dsk_feed) ∈ lw_good := lw_good_of (List.mem_append_right _ (List.mem_of_getElem? (i := 66) (by decide +kernel))) rfl
theorem k_67 : (Cond.selects "CourierDesk" y_Dsk_feed y_Dsk_feed) ∈ lw_good := lw_good_of (List.mem_append_right _ (List.mem_of_getElem? (i := 67) (by decide +kernel))) rfl
theorem k_68 : (Cond.code y_Dsk_feed prog_1_method_2_code 6 (some .int)) ∈ lw_good := lw_good_of (List.mem_append_right _ (List.mem_of_getElem? (i := 68) (by decide +kernel))) rfl
theorem k_69 : (Cond.methodLink "CourierDesk" 38 y_Row_hasRoomFor) ∈ lw_good := lw_good_of (List.mem_append_right _ (List.mem_of_getElem? (i := 69) (by decide +kernel))) rfl
theorem k_70 : (Cond.instanceMethod y_Row_hasRoomFor) ∈ lw_good := lw_good_of (List.mem_append_right _ (List.mem_of_getElem? (i := 70) (by decide +kernel))) rfl
theorem k_71 : (Cond.selects "CourierDesk$Row" y_Row_hasRoomFor y_Row_hasRoomFor) ∈ lw_good := lw_good_of (List.mem_append_right _ (List.mem_of_getElem? (i := 71) (by decide +kernel))) rfl
theorem k_72 : (Cond.code y_Row_hasRoomFor prog_2_method_4_code 2 (some .boolean)) ∈ lw_good := lw_good_of (List.mem_append_right _ (List.mem_of_getElem? (i := 72) (by decide +kernel))) rfl
theorem k_73 : (Cond.methodLink "CourierDesk" 42 y_Dsk_addFourBytes) ∈ lw_good := lw_good_of (List.mem_append_right _ (List.mem_of_getElem? (i := 73) (by decide +kernel))) rfl
theorem k_75 : (Cond.instanceMethod y_Dsk_addFourBytes) ∈ lw_good := lw_good_of (List.mem_append_right _ (List.mem_of_getElem? (i := 75) (by decide +kernel))) rfl
theorem k_76 : (Cond.code y_Dsk_addFourBytes prog_1_method_3_code 3 none) ∈ lw_good := lw_good_of (List.mem_append_right _ (List.mem_of_getElem? (i := 76) (by decide +kernel))) rfl
theorem k_77 : (Cond.methodLink "CourierDesk" 49 y_Row_add) ∈ lw_good := lw_good_of (List.mem_append_right _ (List.mem_of_getElem? (i := 77) (by decide +kernel))) rfl
theorem k_78 : (Cond.instanceMethod y_Row_add) ∈ lw_good := lw_good_of (List.mem_append_right _ (List.mem_of_getElem? (i := 78) (by decide +kernel))) rfl
theorem k_79 : (Cond.selects "CourierDesk$Row" y_Row_add y_Row_add) ∈ lw_good := lw_good_of (List.mem_append_right _ (List.mem_of_getElem? (i := 79) (by decide +kernel))) rfl
theorem k_80 : (Cond.code y_Row_add prog_2_method_8_code 2 none) ∈ lw_good := lw_good_of (List.mem_append_right _ (List.mem_of_getElem? (i := 80) (by decide +kernel))) rfl
theorem k_81 : (Cond.methodLink "CourierDesk" 45 y_Row_length) ∈ lw_good := lw_good_of (List.mem_append_right _ (List.mem_of_getElem? (i := 81) (by decide +kernel))) rfl
theorem k_82 : (Cond.instanceMethod y_Row_length) ∈ lw_good := lw_good_of (List.mem_append_right _ (List.mem_of_getElem? (i := 82) (by decide +kernel))) rfl
theorem k_83 : (Cond.selects "CourierDesk$Row" y_Row_length y_Row_length) ∈ lw_good := lw_good_of (List.mem_append_right _ (List.mem_of_getElem? (i := 83) (by decide +kernel))) rfl
theorem k_84 : (Cond.code y_Row_length prog_2_method_2_code 1 (some .int)) ∈ lw_good := lw_good_of (List.mem_append_right _ (List.mem_of_getElem? (i := 84) (by decide +kernel))) rfl
theorem k_85 : (Cond.methodLink "CourierDeskLaw" 18 y_Dsk_end) ∈ lw_good := lw_good_of (List.mem_append_right _ (List.mem_of_getElem? (i := 85) (by decide +kernel))) rfl
theorem k_86 : (Cond.instanceMethod y_Dsk_end) ∈ lw_good := lw_good_of (List.mem_append_right _ (List.mem_of_getElem? (i := 86) (by decide +kernel))) rfl
theorem k_87 : (Cond.selects "CourierDesk" y_Dsk_end y_Dsk_end) ∈ lw_good := lw_good_of (List.mem_append_right _ (List.mem_of_getElem? (i := 87) (by decide +kernel))) rfl
theorem k_88 : (Cond.code y_Dsk_end prog_1_method_4_code 2 (some .int)) ∈ lw_good := lw_good_of (List.mem_append_right _ (List.mem_of_getElem? (i := 88) (by decide +kernel))) rfl
theorem k_89 : (Cond.methodLink "CourierDesk" 52 y_Row_resize) ∈ lw_good := lw_good_of (List.mem_append_right _ (List.mem_of_getElem? (i := 89) (by decide +kernel))) rfl
theorem k_90 : (Cond.instanceMethod y_Row_resize) ∈ lw_good := lw_good_of (List.mem_append_right _ (List.mem_of_getElem? (i := 90) (by decide +kernel))) rfl
theorem k_91 : (Cond.selects "CourierDesk$Row" y_Row_resize y_Row_resize) ∈ lw_good := lw_good_of (List.mem_append_right _ (List.mem_of_getElem? (i := 91) (by decide +kernel))) rfl
theorem k_92 : (Cond.code y_Row_resize prog_2_method_12_code 3 none) ∈ lw_good := lw_good_of (List.mem_append_right _ (List.mem_of_getElem? (i := 92) (by decide +kernel))) rfl
theorem k_93 : (Cond.methodLink "CourierDeskLaw" 23 y_Dsk_write) ∈ lw_good := lw_good_of (List.mem_append_right _ (List.mem_of_getElem? (i := 93) (by decide +kernel))) rfl
theorem k_94 : (Cond.instanceMethod y_Dsk_write) ∈ lw_good := lw_good_of (List.mem_append_right _ (List.mem_of_getElem? (i := 94) (by decide +kernel))) rfl
theorem k_95 : (Cond.selects "CourierDesk" y_Dsk_write y_Dsk_write) ∈ lw_good := lw_good_of (List.mem_append_right _ (List.mem_of_getElem? (i := 95) (by decide +kernel))) rfl
theorem k_96 : (Cond.code y_Dsk_write prog_1_method_5_code 4 (some .int)) ∈ lw_good := lw_good_of (List.mem_append_right _ (List.mem_of_getElem? (i := 96) (by decide +kernel))) rfl
theorem k_97 : (Cond.methodLink "CourierDesk" 55 y_Row_clear) ∈ lw_good := lw_good_of (List.mem_append_right _ (List.mem_of_getElem? (i := 97) (by decide +kernel))) rfl
theorem k_98 : (Cond.instanceMethod y_Row_clear) ∈ lw_good := lw_good_of (List.mem_append_right _ (List.mem_of_getElem? (i := 98) (by decide +kernel))) rfl
theorem k_99 : (Cond.selects "CourierDesk$Row" y_Row_clear y_Row_clear) ∈ lw_good := lw_good_of (List.mem_append_right _ (List.mem_of_getElem? (i := 99) (by decide +kernel))) rfl
theorem k_100 : (Cond.code y_Row_clear prog_2_method_7_code 1 none) ∈ lw_good := lw_good_of (List.mem_append_right _ (List.mem_of_getElem? (i := 100) (by decide +kernel))) rfl
theorem k_101 : (Cond.methodLink "CourierDesk" 58 y_Sig_writeGroup) ∈ lw_good := lw_good_of (List.mem_append_right _ (List.mem_of_getElem? (i := 101) (by decide +kernel))) rfl
theorem k_102 : (Cond.static y_Sig_writeGroup) ∈ lw_good := lw_good_of (List.mem_append_right _ (List.mem_of_getElem? (i := 102) (by decide +kernel))) rfl
theorem k_103 : (Cond.code y_Sig_writeGroup prog_3_method_4_code 8 none) ∈ lw_good := lw_good_of (List.mem_append_right _ (List.mem_of_getElem? (i := 103) (by decide +kernel))) rfl
theorem k_104 : (Cond.methodLink "CourierDesk$Signs" 9 y_Row_length) ∈ lw_good := lw_good_of (List.mem_append_right _ (List.mem_of_getElem? (i := 104) (by decide +kernel))) rfl
theorem k_105 : (Cond.methodLink "CourierDesk$Signs" 15 y_Mth_min) ∈ lw_good := lw_good_of (List.mem_append_right _ (List.mem_of_getElem? (i := 105) (by decide +kernel))) rfl
theorem k_106 : (Cond.static y_Mth_min) ∈ lw_good := lw_good_of (List.mem_append_right _ (List.mem_of_getElem? (i := 106) (by decide +kernel))) rfl
theorem k_107 : (Cond.code y_Mth_min prog_7_method_69_code 2 (some .int)) ∈ lw_good := lw_good_of (List.mem_append_right _ (List.mem_of_getElem? (i := 107) (by decide +kernel))) rfl
theorem k_108 : (Cond.methodLink "CourierDesk$Signs" 21 y_Row_at) ∈ lw_good := lw_good_of (List.mem_append_right _ (List.mem_of_getElem? (i := 108) (by decide +kernel))) rfl
theorem k_109 : (Cond.instanceMethod y_Row_at) ∈ lw_good := lw_good_of (List.mem_append_right _ (List.mem_of_getElem? (i := 109) (by decide +kernel))) rfl
theorem k_110 : (Cond.selects "CourierDesk$Row" y_Row_at y_Row_at) ∈ lw_good := lw_good_of (List.mem_append_right _ (List.mem_of_getElem? (i := 110) (by decide +kernel))) rfl
theorem k_111 : (Cond.code y_Row_at prog_2_method_5_code 2 (some .int)) ∈ lw_good := lw_good_of (List.mem_append_right _ (List.mem_of_getElem? (i := 111) (by decide +kernel))) rfl
theorem k_112 : (Cond.methodLink "CourierDesk$Signs" 25 y_Sig_signOf) ∈ lw_good := lw_good_of (List.mem_append_right _ (List.mem_of_getElem? (i := 112) (by decide +kernel))) rfl
theorem k_113 : (Cond.static y_Sig_signOf) ∈ lw_good := lw_good_of (List.mem_append_right _ (List.mem_of_getElem? (i := 113) (by decide +kernel))) rfl
theorem k_114 : (Cond.code y_Sig_signOf prog_3_method_2_code 2 (some .int)) ∈ lw_good := lw_good_of (List.mem_append_right _ (List.mem_of_getElem? (i := 114) (by decide +kernel))) rfl
theorem k_115 : (Cond.methodLink "CourierDesk$Signs" 29 y_Row_add) ∈ lw_good := lw_good_of (List.mem_append_right _ (List.mem_of_getElem? (i := 115) (by decide +kernel))) rfl
theorem k_116 : (Cond.methodLink "CourierDeskLaw" 28 y_Dsk_read) ∈ lw_good := lw_good_of (List.mem_append_right _ (List.mem_of_getElem? (i := 116) (by decide +kernel))) rfl
theorem k_117 : (Cond.instanceMethod y_Dsk_read) ∈ lw_good := lw_good_of (List.mem_append_right _ (List.mem_of_getElem? (i := 117) (by decide +kernel))) rfl
theorem k_118 : (Cond.selects "CourierDesk" y_Dsk_read y_Dsk_read) ∈ lw_good := lw_good_of (List.mem_append_right _ (List.mem_of_getElem? (i := 118) (by decide +kernel))) rfl
theorem k_119 : (Cond.code y_Dsk_read prog_1_method_6_code 3 (some .int)) ∈ lw_good := lw_good_of (List.mem_append_right _ (List.mem_of_getElem? (i := 119) (by decide +kernel))) rfl
theorem k_120 : (Cond.methodLink "CourierDesk" 64 y_Sig_leading) ∈ lw_good := lw_good_of (List.mem_append_right _ (List.mem_of_getElem? (i := 120) (by decide +kernel))) rfl
theorem k_121 : (Cond.static y_Sig_leading) ∈ lw_good := lw_good_of (List.mem_append_right _ (List.mem_of_getElem? (i := 121) (by decide +kernel))) rfl
theorem k_122 : (Cond.code y_Sig_leading prog_3_method_5_code 3 (some .int)) ∈ lw_good := lw_good_of (List.mem_append_right _ (List.mem_of_getElem? (i := 122) (by decide +kernel))) rfl
theorem k_123 : (Cond.methodLink "CourierDesk$Signs" 33 y_Sig_sixBitsOf) ∈ lw_good := lw_good_of (List.mem_append_right _ (List.mem_of_getElem? (i := 123) (by decide +kernel))) rfl
theorem k_124 : (Cond.static y_Sig_sixBitsOf) ∈ lw_good := lw_good_of (List.mem_append_right _ (List.mem_of_getElem? (i := 124) (by decide +kernel))) rfl
theorem k_125 : (Cond.code y_Sig_sixBitsOf prog_3_method_3_code 2 (some .int)) ∈ lw_good := lw_good_of (List.mem_append_right _ (List.mem_of_getElem? (i := 125) (by decide +kernel))) rfl
theorem k_126 : (Cond.methodLink "CourierDesk" 68 y_Sig_mayEnd) ∈ lw_good := lw_good_of (List.mem_append_right _ (List.mem_of_getElem? (i := 126) (by decide +kernel))) rfl
theorem k_127 : (Cond.static y_Sig_mayEnd) ∈ lw_good := lw_good_of (List.mem_append_right _ (List.mem_of_getElem? (i := 127) (by decide +kernel))) rfl
theorem k_128 : (Cond.code y_Sig_mayEnd prog_3_method_6_code 4 (some .boolean)) ∈ lw_good := lw_good_of (List.mem_append_right _ (List.mem_of_getElem? (i := 128) (by decide +kernel))) rfl
theorem k_129 : (Cond.methodLink "CourierDesk" 72 y_Sig_readAll) ∈ lw_good := lw_good_of (List.mem_append_right _ (List.mem_of_getElem? (i := 129) (by decide +kernel))) rfl
theorem k_130 : (Cond.static y_Sig_readAll) ∈ lw_good := lw_good_of (List.mem_append_right _ (List.mem_of_getElem? (i := 130) (by decide +kernel))) rfl
theorem k_131 : (Cond.code y_Sig_readAll prog_3_method_7_code 7 none) ∈ lw_good := lw_good_of (List.mem_append_right _ (List.mem_of_getElem? (i := 131) (by decide +kernel))) rfl
theorem k_132 : (Cond.methodLink "CourierDeskLaw" 33 y_Dsk_check) ∈ lw_good := lw_good_of (List.mem_append_right _ (List.mem_of_getElem? (i := 132) (by decide +kernel))) rfl
theorem k_133 : (Cond.instanceMethod y_Dsk_check) ∈ lw_good := lw_good_of (List.mem_append_right _ (List.mem_of_getElem? (i := 133) (by decide +kernel))) rfl
theorem k_134 : (Cond.selects "CourierDesk" y_Dsk_check y_Dsk_check) ∈ lw_good := lw_good_of (List.mem_append_right _ (List.mem_of_getElem? (i := 134) (by decide +kernel))) rfl
theorem k_135 : (Cond.code y_Dsk_check prog_1_method_7_code 6 (some .long)) ∈ lw_good := lw_good_of (List.mem_append_right _ (List.mem_of_getElem? (i := 135) (by decide +kernel))) rfl
theorem k_136 : (Cond.constantLong "CourierDesk" 76 1099511627776) ∈ lw_good := lw_good_of (List.mem_append_right _ (List.mem_of_getElem? (i := 136) (by decide +kernel))) rfl
theorem k_137 : (Cond.constantLong "CourierDesk" 78 4294967295) ∈ lw_good := lw_good_of (List.mem_append_right _ (List.mem_of_getElem? (i := 137) (by decide +kernel))) rfl
theorem k_138 : (Cond.methodLink "CourierDesk" 80 y_Row_at) ∈ lw_good := lw_good_of (List.mem_append_right _ (List.mem_of_getElem? (i := 138) (by decide +kernel))) rfl
theorem k_139 : (Cond.methodLink "CourierDesk" 84 y_Dsk_checkedWith) ∈ lw_good := lw_good_of (List.mem_append_right _ (List.mem_of_getElem? (i := 139) (by decide +kernel))) rfl
theorem k_140 : (Cond.static y_Dsk_checkedWith) ∈ lw_good := lw_good_of (List.mem_append_right _ (List.mem_of_getElem? (i := 140) (by decide +kernel))) rfl
theorem k_141 : (Cond.code y_Dsk_checkedWith prog_1_method_8_code 7 (some .long)) ∈ lw_good := lw_good_of (List.mem_append_right _ (List.mem_of_getElem? (i := 141) (by decide +kernel))) rfl
theorem k_142 : (Cond.constantLong "CourierDesk" 88 2197175160) ∈ lw_good := lw_good_of (List.mem_append_right _ (List.mem_of_getElem? (i := 142) (by decide +kernel))) rfl
theorem k_143 : (Cond.methodLink "CourierDeskLaw" 38 y_Dsk_words) ∈ lw_good := lw_good_of (List.mem_append_right _ (List.mem_of_getElem? (i := 143) (by decide +kernel))) rfl
theorem k_144 : (Cond.instanceMethod y_Dsk_words) ∈ lw_good := lw_good_of (List.mem_append_right _ (List.mem_of_getElem? (i := 144) (by decide +kernel))) rfl
theorem k_145 : (Cond.selects "CourierDesk" y_Dsk_words y_Dsk_words) ∈ lw_good := lw_good_of (List.mem_append_right _ (List.mem_of_getElem? (i := 145) (by decide +kernel))) rfl
theorem k_146 : (Cond.code y_Dsk_words prog_1_method_9_code 5 (some .int)) ∈ lw_good := lw_good_of (List.mem_append_right _ (List.mem_of_getElem? (i := 146) (by decide +kernel))) rfl
theorem k_147 : (Cond.methodLink "CourierDesk" 90 y_Dsk_cuts) ∈ lw_good := lw_good_of (List.mem_append_right _ (List.mem_of_getElem? (i := 147) (by decide +kernel))) rfl
theorem k_148 : (Cond.static y_Dsk_cuts) ∈ lw_good := lw_good_of (List.mem_append_right _ (List.mem_of_getElem? (i := 148) (by decide +kernel))) rfl
theorem k_149 : (Cond.code y_Dsk_cuts prog_1_method_10_code 1 (some .boolean)) ∈ lw_good := lw_good_of (List.mem_append_right _ (List.mem_of_getElem? (i := 149) (by decide +kernel))) rfl
theorem k_150 : (Cond.methodLink "CourierDesk" 93 y_Wrd_cut) ∈ lw_good := lw_good_of (List.mem_append_right _ (List.mem_of_getElem? (i := 150) (by decide +kernel))) rfl
theorem k_151 : (Cond.instanceMethod y_Wrd_cut) ∈ lw_good := lw_good_of (List.mem_append_right _ (List.mem_of_getElem? (i := 151) (by decide +kernel))) rfl
theorem k_152 : (Cond.selects "CourierDesk$Words" y_Wrd_cut y_Wrd_cut) ∈ lw_good := lw_good_of (List.mem_append_right _ (List.mem_of_getElem? (i := 152) (by decide +kernel))) rfl
theorem k_153 : (Cond.code y_Wrd_cut prog_4_method_3_code 9 none) ∈ lw_good := lw_good_of (List.mem_append_right _ (List.mem_of_getElem? (i := 153) (by decide +kernel))) rfl
theorem k_154 : (Cond.methodLink "CourierDesk$Words" 25 y_Row_clear) ∈ lw_good := lw_good_of (List.mem_append_right _ (List.mem_of_getElem? (i := 154) (by decide +kernel))) rfl
theorem k_155 : (Cond.methodLink "CourierDesk$Words" 21 y_Row_length) ∈ lw_good := lw_good_of (List.mem_append_right _ (List.mem_of_getElem? (i := 155) (by decide +kernel))) rfl
theorem k_156 : (Cond.methodLink "CourierDesk$Words" 28 y_Row_at) ∈ lw_good := lw_good_of (List.mem_append_right _ (List.mem_of_getElem? (i := 156) (by decide +kernel))) rfl
theorem k_157 : (Cond.methodLink "CourierDesk$Words" 32 y_Wrd_closeWord) ∈ lw_good := lw_good_of (List.mem_append_right _ (List.mem_of_getElem? (i := 157) (by decide +kernel))) rfl
theorem k_159 : (Cond.instanceMethod y_Wrd_closeWord) ∈ lw_good := lw_good_of (List.mem_append_right _ (List.mem_of_getElem? (i := 159) (by decide +kernel))) rfl
theorem k_160 : (Cond.code y_Wrd_closeWord prog_4_method_4_code 1 none) ∈ lw_good := lw_good_of (List.mem_append_right _ (List.mem_of_getElem? (i := 160) (by decide +kernel))) rfl
theorem k_161 : (Cond.methodLink "CourierDesk$Words" 38 y_Wrd_startOf) ∈ lw_good := lw_good_of (List.mem_append_right _ (List.mem_of_getElem? (i := 161) (by decide +kernel))) rfl
theorem k_163 : (Cond.instanceMethod y_Wrd_startOf) ∈ lw_good := lw_good_of (List.mem_append_right _ (List.mem_of_getElem? (i := 163) (by decide +kernel))) rfl
theorem k_164 : (Cond.code y_Wrd_startOf prog_4_method_5_code 2 (some .int)) ∈ lw_good := lw_good_of (List.mem_append_right _ (List.mem_of_getElem? (i := 164) (by decide +kernel))) rfl
theorem k_165 : (Cond.methodLink "CourierDesk$Words" 35 y_Row_add) ∈ lw_good := lw_good_of (List.mem_append_right _ (List.mem_of_getElem? (i := 165) (by decide +kernel))) rfl
theorem k_166 : (Cond.methodLink "CourierDesk" 97 y_Wrd_howMany) ∈ lw_good := lw_good_of (List.mem_append_right _ (List.mem_of_getElem? (i := 166) (by decide +kernel))) rfl
theorem k_167 : (Cond.instanceMethod y_Wrd_howMany) ∈ lw_good := lw_good_of (List.mem_append_right _ (List.mem_of_getElem? (i := 167) (by decide +kernel))) rfl
theorem k_168 : (Cond.selects "CourierDesk$Words" y_Wrd_howMany y_Wrd_howMany) ∈ lw_good := lw_good_of (List.mem_append_right _ (List.mem_of_getElem? (i := 168) (by decide +kernel))) rfl
theorem k_169 : (Cond.code y_Wrd_howMany prog_4_method_2_code 1 (some .int)) ∈ lw_good := lw_good_of (List.mem_append_right _ (List.mem_of_getElem? (i := 169) (by decide +kernel))) rfl
theorem k_170 : (Cond.methodLink "CourierDeskLaw" 43 y_Dsk_word) ∈ lw_good := lw_good_of (List.mem_append_right _ (List.mem_of_getElem? (i := 170) (by decide +kernel))) rfl
theorem k_171 : (Cond.instanceMethod y_Dsk_word) ∈ lw_good := lw_good_of (List.mem_append_right _ (List.mem_of_getElem? (i := 171) (by decide +kernel))) rfl
theorem k_172 : (Cond.selects "CourierDesk" y_Dsk_word y_Dsk_word) ∈ lw_good := lw_good_of (List.mem_append_right _ (List.mem_of_getElem? (i := 172) (by decide +kernel))) rfl
theorem k_173 : (Cond.code y_Dsk_word prog_1_method_11_code 2 (some .int)) ∈ lw_good := lw_good_of (List.mem_append_right _ (List.mem_of_getElem? (i := 173) (by decide +kernel))) rfl
theorem k_174 : (Cond.methodLink "CourierDesk" 100 y_Wrd_copyWord) ∈ lw_good := lw_good_of (List.mem_append_right _ (List.mem_of_getElem? (i := 174) (by decide +kernel))) rfl
theorem k_175 : (Cond.instanceMethod y_Wrd_copyWord) ∈ lw_good := lw_good_of (List.mem_append_right _ (List.mem_of_getElem? (i := 175) (by decide +kernel))) rfl
theorem k_176 : (Cond.selects "CourierDesk$Words" y_Wrd_copyWord y_Wrd_copyWord) ∈ lw_good := lw_good_of (List.mem_append_right _ (List.mem_of_getElem? (i := 176) (by decide +kernel))) rfl
theorem k_177 : (Cond.code y_Wrd_copyWord prog_4_method_6_code 3 none) ∈ lw_good := lw_good_of (List.mem_append_right _ (List.mem_of_getElem? (i := 177) (by decide +kernel))) rfl
theorem k_178 : (Cond.methodLink "CourierDesk$Words" 41 y_Row_addPart) ∈ lw_good := lw_good_of (List.mem_append_right _ (List.mem_of_getElem? (i := 178) (by decide +kernel))) rfl
theorem k_179 : (Cond.instanceMethod y_Row_addPart) ∈ lw_good := lw_good_of (List.mem_append_right _ (List.mem_of_getElem? (i := 179) (by decide +kernel))) rfl
theorem k_180 : (Cond.selects "CourierDesk$Row" y_Row_addPart y_Row_addPart) ∈ lw_good := lw_good_of (List.mem_append_right _ (List.mem_of_getElem? (i := 180) (by decide +kernel))) rfl
theorem k_181 : (Cond.code y_Row_addPart prog_2_method_9_code 4 none) ∈ lw_good := lw_good_of (List.mem_append_right _ (List.mem_of_getElem? (i := 181) (by decide +kernel))) rfl
theorem k_182 : (Cond.methodLink "CourierDesk$Row" 17 (⟨"java/lang/System", "arraycopy", "(Ljava/lang/Object;ILjava/lang/Object;II)V"⟩ : MethodName)) ∈ lw_good := lw_good_of (List.mem_append_right _ (List.mem_of_getElem? (i := 182) (by decide +kernel))) rfl
theorem k_183 : (Cond.static (⟨"java/lang/System", "arraycopy", "(Ljava/lang/Object;ILjava/lang/Object;II)V"⟩ : MethodName)) ∈ lw_good := lw_good_of (List.mem_append_right _ (List.mem_of_getElem? (i := 183) (by decide +kernel))) rfl
theorem k_184 : (Cond.native (⟨"java/lang/System", "arraycopy", "(Ljava/lang/Object;ILjava/lang/Object;II)V"⟩ : MethodName)) ∈ lw_good := lw_good_of (List.mem_append_right _ (List.mem_of_getElem? (i := 184) (by decide +kernel))) rfl
theorem k_185 : (Cond.methodLink "CourierDeskLaw" 47 y_Dsk_octet) ∈ lw_good := lw_good_of (List.mem_append_right _ (List.mem_of_getElem? (i := 185) (by decide +kernel))) rfl
theorem k_186 : (Cond.instanceMethod y_Dsk_octet) ∈ lw_good := lw_good_of (List.mem_append_right _ (List.mem_of_getElem? (i := 186) (by decide +kernel))) rfl
theorem k_187 : (Cond.selects "CourierDesk" y_Dsk_octet y_Dsk_octet) ∈ lw_good := lw_good_of (List.mem_append_right _ (List.mem_of_getElem? (i := 187) (by decide +kernel))) rfl
theorem k_188 : (Cond.code y_Dsk_octet prog_1_method_12_code 2 (some .int)) ∈ lw_good := lw_good_of (List.mem_append_right _ (List.mem_of_getElem? (i := 188) (by decide +kernel))) rfl
theorem k_189 : (Cond.methodLink "CourierDesk" 104 y_Row_has) ∈ lw_good := lw_good_of (List.mem_append_right _ (List.mem_of_getElem? (i := 189) (by decide +kernel))) rfl
theorem k_190 : (Cond.instanceMethod y_Row_has) ∈ lw_good := lw_good_of (List.mem_append_right _ (List.mem_of_getElem? (i := 190) (by decide +kernel))) rfl
theorem k_191 : (Cond.selects "CourierDesk$Row" y_Row_has y_Row_has) ∈ lw_good := lw_good_of (List.mem_append_right _ (List.mem_of_getElem? (i := 191) (by decide +kernel))) rfl
theorem k_192 : (Cond.code y_Row_has prog_2_method_3_code 2 (some .boolean)) ∈ lw_good := lw_good_of (List.mem_append_right _ (List.mem_of_getElem? (i := 192) (by decide +kernel))) rfl
theorem k_193 : (Cond.methodLink "CourierDeskLaw" 53 y_Dsk_seed) ∈ lw_good := lw_good_of (List.mem_append_right _ (List.mem_of_getElem? (i := 193) (by decide +kernel))) rfl
theorem k_194 : (Cond.instanceMethod y_Dsk_seed) ∈ lw_good := lw_good_of (List.mem_append_right _ (List.mem_of_getElem? (i := 194) (by decide +kernel))) rfl
theorem k_195 : (Cond.selects "CourierDesk" y_Dsk_seed y_Dsk_seed) ∈ lw_good := lw_good_of (List.mem_append_right _ (List.mem_of_getElem? (i := 195) (by decide +kernel))) rfl
theorem k_196 : (Cond.code y_Dsk_seed prog_1_method_13_code 5 (some .long)) ∈ lw_good := lw_good_of (List.mem_append_right _ (List.mem_of_getElem? (i := 196) (by decide +kernel))) rfl
theorem k_197 : (Cond.methodLink "CourierDeskLaw" 58 y_Dsk_draw) ∈ lw_good := lw_good_of (List.mem_append_right _ (List.mem_of_getElem? (i := 197) (by decide +kernel))) rfl
theorem k_198 : (Cond.instanceMethod y_Dsk_draw) ∈ lw_good := lw_good_of (List.mem_append_right _ (List.mem_of_getElem? (i := 198) (by decide +kernel))) rfl
theorem k_199 : (Cond.selects "CourierDesk" y_Dsk_draw y_Dsk_draw) ∈ lw_good := lw_good_of (List.mem_append_right _ (List.mem_of_getElem? (i := 199) (by decide +kernel))) rfl
theorem k_200 : (Cond.code y_Dsk_draw prog_1_method_14_code 3 (some .long)) ∈ lw_good := lw_good_of (List.mem_append_right _ (List.mem_of_getElem? (i := 200) (by decide +kernel))) rfl
theorem k_201 : (Cond.constantLong "CourierDesk" 107 (-7046029254386353131)) ∈ lw_good := lw_good_of (List.mem_append_right _ (List.mem_of_getElem? (i := 201) (by decide +kernel))) rfl
theorem k_202 : (Cond.constantLong "CourierDesk" 109 (-4658895280553007687)) ∈ lw_good := lw_good_of (List.mem_append_right _ (List.mem_of_getElem? (i := 202) (by decide +kernel))) rfl
theorem k_203 : (Cond.constantLong "CourierDesk" 111 (-7723592293110705685)) ∈ lw_good := lw_good_of (List.mem_append_right _ (List.mem_of_getElem? (i := 203) (by decide +kernel))) rfl
theorem k_204 : (Cond.methodLink "CourierDeskLaw" 63 y_Dsk_push) ∈ lw_good := lw_good_of (List.mem_append_right _ (List.mem_of_getElem? (i := 204) (by decide +kernel))) rfl
theorem k_205 : (Cond.instanceMethod y_Dsk_push) ∈ lw_good := lw_good_of (List.mem_append_right _ (List.mem_of_getElem? (i := 205) (by decide +kernel))) rfl
theorem k_206 : (Cond.selects "CourierDesk" y_Dsk_push y_Dsk_push) ∈ lw_good := lw_good_of (List.mem_append_right _ (List.mem_of_getElem? (i := 206) (by decide +kernel))) rfl
theorem k_207 : (Cond.code y_Dsk_push prog_1_method_15_code 2 (some .int)) ∈ lw_good := lw_good_of (List.mem_append_right _ (List.mem_of_getElem? (i := 207) (by decide +kernel))) rfl
theorem k_208 : (Cond.methodLink "CourierDeskLaw" 67 y_Dsk_pop) ∈ lw_good := lw_good_of (List.mem_append_right _ (List.mem_of_getElem? (i := 208) (by decide +kernel))) rfl
theorem k_209 : (Cond.instanceMethod y_Dsk_pop) ∈ lw_good := lw_good_of (List.mem_append_right _ (List.mem_of_getElem? (i := 209) (by decide +kernel))) rfl
theorem k_210 : (Cond.selects "CourierDesk" y_Dsk_pop y_Dsk_pop) ∈ lw_good := lw_good_of (List.mem_append_right _ (List.mem_of_getElem? (i := 210) (by decide +kernel))) rfl
theorem k_211 : (Cond.code y_Dsk_pop prog_1_method_16_code 4 (some .long)) ∈ lw_good := lw_good_of (List.mem_append_right _ (List.mem_of_getElem? (i := 211) (by decide +kernel))) rfl
theorem k_212 : (Cond.methodLink "CourierDeskLaw" 72 y_Dsk_search) ∈ lw_good := lw_good_of (List.mem_append_right _ (List.mem_of_getElem? (i := 212) (by decide +kernel))) rfl
theorem k_213 : (Cond.instanceMethod y_Dsk_search) ∈ lw_good := lw_good_of (List.mem_append_right _ (List.mem_of_getElem? (i := 213) (by decide +kernel))) rfl
theorem k_214 : (Cond.selects "CourierDesk" y_Dsk_search y_Dsk_search) ∈ lw_good := lw_good_of (List.mem_append_right _ (List.mem_of_getElem? (i := 214) (by decide +kernel))) rfl
theorem k_215 : (Cond.code y_Dsk_search prog_1_method_17_code 3 (some .int)) ∈ lw_good := lw_good_of (List.mem_append_right _ (List.mem_of_getElem? (i := 215) (by decide +kernel))) rfl
theorem k_216 : (Cond.methodLink "CourierDesk" 113 y_Row_lastUpTo) ∈ lw_good := lw_good_of (List.mem_append_right _ (List.mem_of_getElem? (i := 216) (by decide +kernel))) rfl
theorem k_217 : (Cond.instanceMethod y_Row_lastUpTo) ∈ lw_good := lw_good_of (List.mem_append_right _ (List.mem_of_getElem? (i := 217) (by decide +kernel))) rfl
theorem k_218 : (Cond.selects "CourierDesk$Row" y_Row_lastUpTo y_Row_lastUpTo) ∈ lw_good := lw_good_of (List.mem_append_right _ (List.mem_of_getElem? (i := 218) (by decide +kernel))) rfl
theorem k_219 : (Cond.code y_Row_lastUpTo prog_2_method_18_code 4 (some .int)) ∈ lw_good := lw_good_of (List.mem_append_right _ (List.mem_of_getElem? (i := 219) (by decide +kernel))) rfl
theorem k_220 : (Cond.methodLink "CourierDeskLaw" 76 y_Dsk_insert) ∈ lw_good := lw_good_of (List.mem_append_right _ (List.mem_of_getElem? (i := 220) (by decide +kernel))) rfl
theorem k_221 : (Cond.instanceMethod y_Dsk_insert) ∈ lw_good := lw_good_of (List.mem_append_right _ (List.mem_of_getElem? (i := 221) (by decide +kernel))) rfl
theorem k_222 : (Cond.selects "CourierDesk" y_Dsk_insert y_Dsk_insert) ∈ lw_good := lw_good_of (List.mem_append_right _ (List.mem_of_getElem? (i := 222) (by decide +kernel))) rfl
theorem k_223 : (Cond.code y_Dsk_insert prog_1_method_18_code 3 (some .int)) ∈ lw_good := lw_good_of (List.mem_append_right _ (List.mem_of_getElem? (i := 223) (by decide +kernel))) rfl
theorem k_224 : (Cond.methodLink "CourierDesk" 117 y_Row_addAt) ∈ lw_good := lw_good_of (List.mem_append_right _ (List.mem_of_getElem? (i := 224) (by decide +kernel))) rfl
theorem k_225 : (Cond.instanceMethod y_Row_addAt) ∈ lw_good := lw_good_of (List.mem_append_right _ (List.mem_of_getElem? (i := 225) (by decide +kernel))) rfl
theorem k_226 : (Cond.selects "CourierDesk$Row" y_Row_addAt y_Row_addAt) ∈ lw_good := lw_good_of (List.mem_append_right _ (List.mem_of_getElem? (i := 226) (by decide +kernel))) rfl
theorem k_227 : (Cond.code y_Row_addAt prog_2_method_10_code 3 none) ∈ lw_good := lw_good_of (List.mem_append_right _ (List.mem_of_getElem? (i := 227) (by decide +kernel))) rfl
theorem k_228 : (Cond.methodLink "CourierDeskLaw" 81 y_Dsk_remove) ∈ lw_good := lw_good_of (List.mem_append_right _ (List.mem_of_getElem? (i := 228) (by decide +kernel))) rfl
theorem k_229 : (Cond.instanceMethod y_Dsk_remove) ∈ lw_good := lw_good_of (List.mem_append_right _ (List.mem_of_getElem? (i := 229) (by decide +kernel))) rfl
theorem k_230 : (Cond.selects "CourierDesk" y_Dsk_remove y_Dsk_remove) ∈ lw_good := lw_good_of (List.mem_append_right _ (List.mem_of_getElem? (i := 230) (by decide +kernel))) rfl
theorem k_231 : (Cond.code y_Dsk_remove prog_1_method_19_code 3 (some .long)) ∈ lw_good := lw_good_of (List.mem_append_right _ (List.mem_of_getElem? (i := 231) (by decide +kernel))) rfl
theorem k_232 : (Cond.methodLink "CourierDesk" 121 y_Row_dropAt) ∈ lw_good := lw_good_of (List.mem_append_right _ (List.mem_of_getElem? (i := 232) (by decide +kernel))) rfl
theorem k_233 : (Cond.instanceMethod y_Row_dropAt) ∈ lw_good := lw_good_of (List.mem_append_right _ (List.mem_of_getElem? (i := 233) (by decide +kernel))) rfl
theorem k_234 : (Cond.selects "CourierDesk$Row" y_Row_dropAt y_Row_dropAt) ∈ lw_good := lw_good_of (List.mem_append_right _ (List.mem_of_getElem? (i := 234) (by decide +kernel))) rfl
theorem k_235 : (Cond.code y_Row_dropAt prog_2_method_11_code 2 none) ∈ lw_good := lw_good_of (List.mem_append_right _ (List.mem_of_getElem? (i := 235) (by decide +kernel))) rfl
theorem k_236 : (Cond.methodLink "CourierDeskLaw" 86 y_Dsk_set) ∈ lw_good := lw_good_of (List.mem_append_right _ (List.mem_of_getElem? (i := 236) (by decide +kernel))) rfl
theorem k_237 : (Cond.instanceMethod y_Dsk_set) ∈ lw_good := lw_good_of (List.mem_append_right _ (List.mem_of_getElem? (i := 237) (by decide +kernel))) rfl
theorem k_238 : (Cond.selects "CourierDesk" y_Dsk_set y_Dsk_set) ∈ lw_good := lw_good_of (List.mem_append_right _ (List.mem_of_getElem? (i := 238) (by decide +kernel))) rfl
theorem k_239 : (Cond.code y_Dsk_set prog_1_method_20_code 4 (some .long)) ∈ lw_good := lw_good_of (List.mem_append_right _ (List.mem_of_getElem? (i := 239) (by decide +kernel))) rfl
theorem k_240 : (Cond.methodLink "CourierDesk" 124 y_Row_put) ∈ lw_good := lw_good_of (List.mem_append_right _ (List.mem_of_getElem? (i := 240) (by decide +kernel))) rfl
theorem k_241 : (Cond.instanceMethod y_Row_put) ∈ lw_good := lw_good_of (List.mem_append_right _ (List.mem_of_getElem? (i := 241) (by decide +kernel))) rfl
theorem k_242 : (Cond.selects "CourierDesk$Row" y_Row_put y_Row_put) ∈ lw_good := lw_good_of (List.mem_append_right _ (List.mem_of_getElem? (i := 242) (by decide +kernel))) rfl
theorem k_243 : (Cond.code y_Row_put prog_2_method_6_code 3 none) ∈ lw_good := lw_good_of (List.mem_append_right _ (List.mem_of_getElem? (i := 243) (by decide +kernel))) rfl
theorem k_244 : (Cond.methodLink "CourierDeskLaw" 90 y_Dsk_get) ∈ lw_good := lw_good_of (List.mem_append_right _ (List.mem_of_getElem? (i := 244) (by decide +kernel))) rfl
theorem k_245 : (Cond.instanceMethod y_Dsk_get) ∈ lw_good := lw_good_of (List.mem_append_right _ (List.mem_of_getElem? (i := 245) (by decide +kernel))) rfl
theorem k_246 : (Cond.selects "CourierDesk" y_Dsk_get y_Dsk_get) ∈ lw_good := lw_good_of (List.mem_append_right _ (List.mem_of_getElem? (i := 246) (by decide +kernel))) rfl
theorem k_247 : (Cond.code y_Dsk_get prog_1_method_21_code 2 (some .long)) ∈ lw_good := lw_good_of (List.mem_append_right _ (List.mem_of_getElem? (i := 247) (by decide +kernel))) rfl
theorem k_248 : (Cond.methodLink "CourierDeskLaw" 94 y_Dsk_find) ∈ lw_good := lw_good_of (List.mem_append_right _ (List.mem_of_getElem? (i := 248) (by decide +kernel))) rfl
theorem k_249 : (Cond.instanceMethod y_Dsk_find) ∈ lw_good := lw_good_of (List.mem_append_right _ (List.mem_of_getElem? (i := 249) (by decide +kernel))) rfl
theorem k_250 : (Cond.selects "CourierDesk" y_Dsk_find y_Dsk_find) ∈ lw_good := lw_good_of (List.mem_append_right _ (List.mem_of_getElem? (i := 250) (by decide +kernel))) rfl
theorem k_251 : (Cond.code y_Dsk_find prog_1_method_22_code 5 (some .int)) ∈ lw_good := lw_good_of (List.mem_append_right _ (List.mem_of_getElem? (i := 251) (by decide +kernel))) rfl
theorem k_252 : (Cond.methodLink "CourierDesk" 127 y_Row_firstFrom) ∈ lw_good := lw_good_of (List.mem_append_right _ (List.mem_of_getElem? (i := 252) (by decide +kernel))) rfl
theorem k_253 : (Cond.instanceMethod y_Row_firstFrom) ∈ lw_good := lw_good_of (List.mem_append_right _ (List.mem_of_getElem? (i := 253) (by decide +kernel))) rfl
theorem k_254 : (Cond.selects "CourierDesk$Row" y_Row_firstFrom y_Row_firstFrom) ∈ lw_good := lw_good_of (List.mem_append_right _ (List.mem_of_getElem? (i := 254) (by decide +kernel))) rfl
theorem k_255 : (Cond.code y_Row_firstFrom prog_2_method_17_code 4 (some .int)) ∈ lw_good := lw_good_of (List.mem_append_right _ (List.mem_of_getElem? (i := 255) (by decide +kernel))) rfl
theorem k_256 : (Cond.methodLink "CourierDeskLaw" 99 y_Dsk_size) ∈ lw_good := lw_good_of (List.mem_append_right _ (List.mem_of_getElem? (i := 256) (by decide +kernel))) rfl
theorem k_257 : (Cond.instanceMethod y_Dsk_size) ∈ lw_good := lw_good_of (List.mem_append_right _ (List.mem_of_getElem? (i := 257) (by decide +kernel))) rfl
theorem k_258 : (Cond.selects "CourierDesk" y_Dsk_size y_Dsk_size) ∈ lw_good := lw_good_of (List.mem_append_right _ (List.mem_of_getElem? (i := 258) (by decide +kernel))) rfl
theorem k_259 : (Cond.code y_Dsk_size prog_1_method_23_code 2 (some .int)) ∈ lw_good := lw_good_of (List.mem_append_right _ (List.mem_of_getElem? (i := 259) (by decide +kernel))) rfl
theorem k_260 : (Cond.methodLink "CourierDeskLaw" 103 y_Dsk_turn) ∈ lw_good := lw_good_of (List.mem_append_right _ (List.mem_of_getElem? (i := 260) (by decide +kernel))) rfl
theorem k_261 : (Cond.instanceMethod y_Dsk_turn) ∈ lw_good := lw_good_of (List.mem_append_right _ (List.mem_of_getElem? (i := 261) (by decide +kernel))) rfl
theorem k_262 : (Cond.selects "CourierDesk" y_Dsk_turn y_Dsk_turn) ∈ lw_good := lw_good_of (List.mem_append_right _ (List.mem_of_getElem? (i := 262) (by decide +kernel))) rfl
theorem k_263 : (Cond.code y_Dsk_turn prog_1_method_24_code 3 (some .int)) ∈ lw_good := lw_good_of (List.mem_append_right _ (List.mem_of_getElem? (i := 263) (by decide +kernel))) rfl
theorem k_264 : (Cond.methodLink "CourierDesk" 130 y_Row_reverse) ∈ lw_good := lw_good_of (List.mem_append_right _ (List.mem_of_getElem? (i := 264) (by decide +kernel))) rfl
theorem k_265 : (Cond.instanceMethod y_Row_reverse) ∈ lw_good := lw_good_of (List.mem_append_right _ (List.mem_of_getElem? (i := 265) (by decide +kernel))) rfl
theorem k_266 : (Cond.selects "CourierDesk$Row" y_Row_reverse y_Row_reverse) ∈ lw_good := lw_good_of (List.mem_append_right _ (List.mem_of_getElem? (i := 266) (by decide +kernel))) rfl
theorem k_267 : (Cond.code y_Row_reverse prog_2_method_15_code 5 none) ∈ lw_good := lw_good_of (List.mem_append_right _ (List.mem_of_getElem? (i := 267) (by decide +kernel))) rfl
theorem k_268 : (Cond.methodLink "CourierDesk$Row" 29 y_Row_exchange) ∈ lw_good := lw_good_of (List.mem_append_right _ (List.mem_of_getElem? (i := 268) (by decide +kernel))) rfl
theorem k_269 : (Cond.instanceMethod y_Row_exchange) ∈ lw_good := lw_good_of (List.mem_append_right _ (List.mem_of_getElem? (i := 269) (by decide +kernel))) rfl
theorem k_270 : (Cond.selects "CourierDesk$Row" y_Row_exchange y_Row_exchange) ∈ lw_good := lw_good_of (List.mem_append_right _ (List.mem_of_getElem? (i := 270) (by decide +kernel))) rfl
theorem k_271 : (Cond.code y_Row_exchange prog_2_method_14_code 4 none) ∈ lw_good := lw_good_of (List.mem_append_right _ (List.mem_of_getElem? (i := 271) (by decide +kernel))) rfl
theorem k_272 : (Cond.methodLink "CourierDesk" 133 y_Row_rotate) ∈ lw_good := lw_good_of (List.mem_append_right _ (List.mem_of_getElem? (i := 272) (by decide +kernel))) rfl
theorem k_273 : (Cond.instanceMethod y_Row_rotate) ∈ lw_good := lw_good_of (List.mem_append_right _ (List.mem_of_getElem? (i := 273) (by decide +kernel))) rfl
theorem k_274 : (Cond.selects "CourierDesk$Row" y_Row_rotate y_Row_rotate) ∈ lw_good := lw_good_of (List.mem_append_right _ (List.mem_of_getElem? (i := 274) (by decide +kernel))) rfl
theorem k_275 : (Cond.code y_Row_rotate prog_2_method_16_code 3 none) ∈ lw_good := lw_good_of (List.mem_append_right _ (List.mem_of_getElem? (i := 275) (by decide +kernel))) rfl
theorem k_276 : (Cond.methodLink "CourierDesk$Row" 33 y_Mth_floorMod) ∈ lw_good := lw_good_of (List.mem_append_right _ (List.mem_of_getElem? (i := 276) (by decide +kernel))) rfl
theorem k_277 : (Cond.static y_Mth_floorMod) ∈ lw_good := lw_good_of (List.mem_append_right _ (List.mem_of_getElem? (i := 277) (by decide +kernel))) rfl
theorem k_278 : (Cond.code y_Mth_floorMod prog_7_method_50_code 3 (some .int)) ∈ lw_good := lw_good_of (List.mem_append_right _ (List.mem_of_getElem? (i := 278) (by decide +kernel))) rfl
theorem k_279 : (Cond.methodLink "CourierDesk$Row" 39 y_Row_reverse) ∈ lw_good := lw_good_of (List.mem_append_right _ (List.mem_of_getElem? (i := 279) (by decide +kernel))) rfl
theorem k_280 : (Cond.methodLink "CourierDesk" 136 y_Row_fill) ∈ lw_good := lw_good_of (List.mem_append_right _ (List.mem_of_getElem? (i := 280) (by decide +kernel))) rfl
theorem k_281 : (Cond.instanceMethod y_Row_fill) ∈ lw_good := lw_good_of (List.mem_append_right _ (List.mem_of_getElem? (i := 281) (by decide +kernel))) rfl
theorem k_282 : (Cond.selects "CourierDesk$Row" y_Row_fill y_Row_fill) ∈ lw_good := lw_good_of (List.mem_append_right _ (List.mem_of_getElem? (i := 282) (by decide +kernel))) rfl
theorem k_283 : (Cond.code y_Row_fill prog_2_method_13_code 2 none) ∈ lw_good := lw_good_of (List.mem_append_right _ (List.mem_of_getElem? (i := 283) (by decide +kernel))) rfl
theorem k_284 : (Cond.methodLink "CourierDesk$Row" 23 y_Arr_fill) ∈ lw_good := lw_good_of (List.mem_append_right _ (List.mem_of_getElem? (i := 284) (by decide +kernel))) rfl
theorem k_285 : (Cond.static y_Arr_fill) ∈ lw_good := lw_good_of (List.mem_append_right _ (List.mem_of_getElem? (i := 285) (by decide +kernel))) rfl
theorem k_286 : (Cond.code y_Arr_fill prog_9_method_104_code 5 none) ∈ lw_good := lw_good_of (List.mem_append_right _ (List.mem_of_getElem? (i := 286) (by decide +kernel))) rfl
theorem k_287 : (Cond.methodLink "java/util/Arrays" 13 y_Arr_rangeCheck) ∈ lw_good := lw_good_of (List.mem_append_right _ (List.mem_of_getElem? (i := 287) (by decide +kernel))) rfl
theorem k_288 : (Cond.static y_Arr_rangeCheck) ∈ lw_good := lw_good_of (List.mem_append_right _ (List.mem_of_getElem? (i := 288) (by decide +kernel))) rfl
theorem k_289 : (Cond.code y_Arr_rangeCheck prog_9_method_30_code 3 none) ∈ lw_good := lw_good_of (List.mem_append_right _ (List.mem_of_getElem? (i := 289) (by decide +kernel))) rfl
theorem k_290 : (Cond.methodLink "CourierDesk" 139 y_Row_addPart) ∈ lw_good := lw_good_of (List.mem_append_right _ (List.mem_of_getElem? (i := 290) (by decide +kernel))) rfl
theorem k_291 : (Cond.methodLink "CourierDeskLaw" 107 y_Dsk_swap) ∈ lw_good := lw_good_of (List.mem_append_right _ (List.mem_of_getElem? (i := 291) (by decide +kernel))) rfl
theorem k_292 : (Cond.instanceMethod y_Dsk_swap) ∈ lw_good := lw_good_of (List.mem_append_right _ (List.mem_of_getElem? (i := 292) (by decide +kernel))) rfl
theorem k_293 : (Cond.selects "CourierDesk" y_Dsk_swap y_Dsk_swap) ∈ lw_good := lw_good_of (List.mem_append_right _ (List.mem_of_getElem? (i := 293) (by decide +kernel))) rfl
theorem k_294 : (Cond.code y_Dsk_swap prog_1_method_25_code 3 (some .int)) ∈ lw_good := lw_good_of (List.mem_append_right _ (List.mem_of_getElem? (i := 294) (by decide +kernel))) rfl
theorem k_295 : (Cond.methodLink "CourierDesk" 143 y_Row_exchange) ∈ lw_good := lw_good_of (List.mem_append_right _ (List.mem_of_getElem? (i := 295) (by decide +kernel))) rfl
theorem k_296 : (Cond.methodLink "CourierDeskLaw" 111 y_Dsk_tell) ∈ lw_good := lw_good_of (List.mem_append_right _ (List.mem_of_getElem? (i := 296) (by decide +kernel))) rfl
theorem k_297 : (Cond.instanceMethod y_Dsk_tell) ∈ lw_good := lw_good_of (List.mem_append_right _ (List.mem_of_getElem? (i := 297) (by decide +kernel))) rfl
theorem k_298 : (Cond.selects "CourierDesk" y_Dsk_tell y_Dsk_tell) ∈ lw_good := lw_good_of (List.mem_append_right _ (List.mem_of_getElem? (i := 298) (by decide +kernel))) rfl
theorem k_299 : (Cond.code y_Dsk_tell prog_1_method_26_code 3 (some .long)) ∈ lw_good := lw_good_of (List.mem_append_right _ (List.mem_of_getElem? (i := 299) (by decide +kernel))) rfl
theorem k_300 : (Cond.methodLink "CourierDesk" 146 y_Row_greatest) ∈ lw_good := lw_good_of (List.mem_append_right _ (List.mem_of_getElem? (i := 300) (by decide +kernel))) rfl
theorem k_301 : (Cond.instanceMethod y_Row_greatest) ∈ lw_good := lw_good_of (List.mem_append_right _ (List.mem_of_getElem? (i := 301) (by decide +kernel))) rfl
theorem k_302 : (Cond.selects "CourierDesk$Row" y_Row_greatest y_Row_greatest) ∈ lw_good := lw_good_of (List.mem_append_right _ (List.mem_of_getElem? (i := 302) (by decide +kernel))) rfl
theorem k_303 : (Cond.code y_Row_greatest prog_2_method_20_code 3 (some .int)) ∈ lw_good := lw_good_of (List.mem_append_right _ (List.mem_of_getElem? (i := 303) (by decide +kernel))) rfl
theorem k_304 : (Cond.constant "CourierDesk$Row" 44 (-2147483648)) ∈ lw_good := lw_good_of (List.mem_append_right _ (List.mem_of_getElem? (i := 304) (by decide +kernel))) rfl
theorem k_305 : (Cond.methodLink "CourierDesk$Row" 45 y_Mth_max) ∈ lw_good := lw_good_of (List.mem_append_right _ (List.mem_of_getElem? (i := 305) (by decide +kernel))) rfl
theorem k_306 : (Cond.static y_Mth_max) ∈ lw_good := lw_good_of (List.mem_append_right _ (List.mem_of_getElem? (i := 306) (by decide +kernel))) rfl
theorem k_307 : (Cond.code y_Mth_max prog_7_method_65_code 2 (some .int)) ∈ lw_good := lw_good_of (List.mem_append_right _ (List.mem_of_getElem? (i := 307) (by decide +kernel))) rfl
theorem k_308 : (Cond.methodLink "CourierDesk" 149 y_Row_least) ∈ lw_good := lw_good_of (List.mem_append_right _ (List.mem_of_getElem? (i := 308) (by decide +kernel))) rfl
theorem k_309 : (Cond.instanceMethod y_Row_least) ∈ lw_good := lw_good_of (List.mem_append_right _ (List.mem_of_getElem? (i := 309) (by decide +kernel))) rfl
theorem k_310 : (Cond.selects "CourierDesk$Row" y_Row_least y_Row_least) ∈ lw_good := lw_good_of (List.mem_append_right _ (List.mem_of_getElem? (i := 310) (by decide +kernel))) rfl
theorem k_311 : (Cond.code y_Row_least prog_2_method_21_code 3 (some .int)) ∈ lw_good := lw_good_of (List.mem_append_right _ (List.mem_of_getElem? (i := 311) (by decide +kernel))) rfl
theorem k_312 : (Cond.constant "CourierDesk$Row" 48 2147483647) ∈ lw_good := lw_good_of (List.mem_append_right _ (List.mem_of_getElem? (i := 312) (by decide +kernel))) rfl
theorem k_313 : (Cond.methodLink "CourierDesk$Row" 49 y_Mth_min) ∈ lw_good := lw_good_of (List.mem_append_right _ (List.mem_of_getElem? (i := 313) (by decide +kernel))) rfl
theorem k_314 : (Cond.methodLink "CourierDesk" 152 y_Row_howOften) ∈ lw_good := lw_good_of (List.mem_append_right _ (List.mem_of_getElem? (i := 314) (by decide +kernel))) rfl
theorem k_315 : (Cond.instanceMethod y_Row_howOften) ∈ lw_good := lw_good_of (List.mem_append_right _ (List.mem_of_getElem? (i := 315) (by decide +kernel))) rfl
theorem k_316 : (Cond.selects "CourierDesk$Row" y_Row_howOften y_Row_howOften) ∈ lw_good := lw_good_of (List.mem_append_right _ (List.mem_of_getElem? (i := 316) (by decide +kernel))) rfl
theorem k_317 : (Cond.code y_Row_howOften prog_2_method_19_code 4 (some .int)) ∈ lw_good := lw_good_of (List.mem_append_right _ (List.mem_of_getElem? (i := 317) (by decide +kernel))) rfl
theorem k_318 : (Cond.methodLink "CourierDesk" 155 y_Row_sharesWith) ∈ lw_good := lw_good_of (List.mem_append_right _ (List.mem_of_getElem? (i := 318) (by decide +kernel))) rfl
theorem k_319 : (Cond.instanceMethod y_Row_sharesWith) ∈ lw_good := lw_good_of (List.mem_append_right _ (List.mem_of_getElem? (i := 319) (by decide +kernel))) rfl
theorem k_320 : (Cond.selects "CourierDesk$Row" y_Row_sharesWith y_Row_sharesWith) ∈ lw_good := lw_good_of (List.mem_append_right _ (List.mem_of_getElem? (i := 320) (by decide +kernel))) rfl
theorem k_321 : (Cond.code y_Row_sharesWith prog_2_method_22_code 3 (some .boolean)) ∈ lw_good := lw_good_of (List.mem_append_right _ (List.mem_of_getElem? (i := 321) (by decide +kernel))) rfl
theorem k_322 : (Cond.methodLink "CourierDesk$Row" 52 y_Row_firstFrom) ∈ lw_good := lw_good_of (List.mem_append_right _ (List.mem_of_getElem? (i := 322) (by decide +kernel))) rfl
theorem k_323 : (Cond.methodLink "CourierDesk" 159 y_Row_firstPlaceOfAll) ∈ lw_good := lw_good_of (List.mem_append_right _ (List.mem_of_getElem? (i := 323) (by decide +kernel))) rfl
theorem k_324 : (Cond.instanceMethod y_Row_firstPlaceOfAll) ∈ lw_good := lw_good_of (List.mem_append_right _ (List.mem_of_getElem? (i := 324) (by decide +kernel))) rfl
theorem k_325 : (Cond.selects "CourierDesk$Row" y_Row_firstPlaceOfAll y_Row_firstPlaceOfAll) ∈ lw_good := lw_good_of (List.mem_append_right _ (List.mem_of_getElem? (i := 325) (by decide +kernel))) rfl
theorem k_326 : (Cond.code y_Row_firstPlaceOfAll prog_2_method_23_code 3 (some .int)) ∈ lw_good := lw_good_of (List.mem_append_right _ (List.mem_of_getElem? (i := 326) (by decide +kernel))) rfl
theorem k_327 : (Cond.methodLink "CourierDesk$Row" 55 y_Row_standsAt) ∈ lw_good := lw_good_of (List.mem_append_right _ (List.mem_of_getElem? (i := 327) (by decide +kernel))) rfl
theorem k_329 : (Cond.instanceMethod y_Row_standsAt) ∈ lw_good := lw_good_of (List.mem_append_right _ (List.mem_of_getElem? (i := 329) (by decide +kernel))) rfl
theorem k_330 : (Cond.code y_Row_standsAt prog_2_method_25_code 4 (some .boolean)) ∈ lw_good := lw_good_of (List.mem_append_right _ (List.mem_of_getElem? (i := 330) (by decide +kernel))) rfl
theorem k_331 : (Cond.methodLink "CourierDesk" 163 y_Row_lastPlaceOfAll) ∈ lw_good := lw_good_of (List.mem_append_right _ (List.mem_of_getElem? (i := 331) (by decide +kernel))) rfl
theorem k_332 : (Cond.instanceMethod y_Row_lastPlaceOfAll) ∈ lw_good := lw_good_of (List.mem_append_right _ (List.mem_of_getElem? (i := 332) (by decide +kernel))) rfl
theorem k_333 : (Cond.selects "CourierDesk$Row" y_Row_lastPlaceOfAll y_Row_lastPlaceOfAll) ∈ lw_good := lw_good_of (List.mem_append_right _ (List.mem_of_getElem? (i := 333) (by decide +kernel))) rfl
theorem k_334 : (Cond.code y_Row_lastPlaceOfAll prog_2_method_24_code 3 (some .int)) ∈ lw_good := lw_good_of (List.mem_append_right _ (List.mem_of_getElem? (i := 334) (by decide +kernel))) rfl
theorem k_335 : (Cond.methodLink "CourierDeskLaw" 115 y_Dsk_replace) ∈ lw_good := lw_good_of (List.mem_append_right _ (List.mem_of_getElem? (i := 335) (by decide +kernel))) rfl
theorem k_336 : (Cond.instanceMethod y_Dsk_replace) ∈ lw_good := lw_good_of (List.mem_append_right _ (List.mem_of_getElem? (i := 336) (by decide +kernel))) rfl
theorem k_337 : (Cond.selects "CourierDesk" y_Dsk_replace y_Dsk_replace) ∈ lw_good := lw_good_of (List.mem_append_right _ (List.mem_of_getElem? (i := 337) (by decide +kernel))) rfl
theorem k_338 : (Cond.code y_Dsk_replace prog_1_method_27_code 5 (some .int)) ∈ lw_good := lw_good_of (List.mem_append_right _ (List.mem_of_getElem? (i := 338) (by decide +kernel))) rfl
theorem k_339 : (Cond.methodLink "CourierDeskLaw" 119 y_Dsk_seek) ∈ lw_good := lw_good_of (List.mem_append_right _ (List.mem_of_getElem? (i := 339) (by decide +kernel))) rfl
theorem k_340 : (Cond.instanceMethod y_Dsk_seek) ∈ lw_good := lw_good_of (List.mem_append_right _ (List.mem_of_getElem? (i := 340) (by decide +kernel))) rfl
theorem k_341 : (Cond.selects "CourierDesk" y_Dsk_seek y_Dsk_seek) ∈ lw_good := lw_good_of (List.mem_append_right _ (List.mem_of_getElem? (i := 341) (by decide +kernel))) rfl
theorem k_342 : (Cond.code y_Dsk_seek prog_1_method_28_code 4 (some .int)) ∈ lw_good := lw_good_of (List.mem_append_right _ (List.mem_of_getElem? (i := 342) (by decide +kernel))) rfl
theorem k_343 : (Cond.methodLink "CourierDesk" 166 y_Row_rises) ∈ lw_good := lw_good_of (List.mem_append_right _ (List.mem_of_getElem? (i := 343) (by decide +kernel))) rfl
theorem k_344 : (Cond.instanceMethod y_Row_rises) ∈ lw_good := lw_good_of (List.mem_append_right _ (List.mem_of_getElem? (i := 344) (by decide +kernel))) rfl
theorem k_345 : (Cond.selects "CourierDesk$Row" y_Row_rises y_Row_rises) ∈ lw_good := lw_good_of (List.mem_append_right _ (List.mem_of_getElem? (i := 345) (by decide +kernel))) rfl
theorem k_346 : (Cond.code y_Row_rises prog_2_method_26_code 2 (some .boolean)) ∈ lw_good := lw_good_of (List.mem_append_right _ (List.mem_of_getElem? (i := 346) (by decide +kernel))) rfl
theorem k_347 : (Cond.methodLink "CourierDesk" 170 y_Row_firstNotBelow) ∈ lw_good := lw_good_of (List.mem_append_right _ (List.mem_of_getElem? (i := 347) (by decide +kernel))) rfl
theorem k_348 : (Cond.instanceMethod y_Row_firstNotBelow) ∈ lw_good := lw_good_of (List.mem_append_right _ (List.mem_of_getElem? (i := 348) (by decide +kernel))) rfl
theorem k_349 : (Cond.selects "CourierDesk$Row" y_Row_firstNotBelow y_Row_firstNotBelow) ∈ lw_good := lw_good_of (List.mem_append_right _ (List.mem_of_getElem? (i := 349) (by decide +kernel))) rfl
theorem k_350 : (Cond.code y_Row_firstNotBelow prog_2_method_27_code 3 (some .int)) ∈ lw_good := lw_good_of (List.mem_append_right _ (List.mem_of_getElem? (i := 350) (by decide +kernel))) rfl
theorem k_351 : (Cond.methodLink "CourierDeskLaw" 123 y_Dsk_count) ∈ lw_good := lw_good_of (List.mem_append_right _ (List.mem_of_getElem? (i := 351) (by decide +kernel))) rfl
theorem k_352 : (Cond.instanceMethod y_Dsk_count) ∈ lw_good := lw_good_of (List.mem_append_right _ (List.mem_of_getElem? (i := 352) (by decide +kernel))) rfl
theorem k_353 : (Cond.selects "CourierDesk" y_Dsk_count y_Dsk_count) ∈ lw_good := lw_good_of (List.mem_append_right _ (List.mem_of_getElem? (i := 353) (by decide +kernel))) rfl
theorem k_354 : (Cond.code y_Dsk_count prog_1_method_29_code 2 (some .int)) ∈ lw_good := lw_good_of (List.mem_append_right _ (List.mem_of_getElem? (i := 354) (by decide +kernel))) rfl
theorem k_355 : (Cond.classLink "CourierDeskLaw" 10 "CourierDeskModel") ∈ lw_good := lw_good_of (List.mem_append_right _ (List.mem_of_getElem? (i := 355) (by decide +kernel))) rfl
theorem k_356 : (Cond.instantiable "CourierDeskModel" 14) ∈ lw_good := lw_good_of (List.mem_append_right _ (List.mem_of_getElem? (i := 356) (by decide +kernel))) rfl
theorem k_357 : (Cond.methodLink "CourierDeskLaw" 12 y_Mdl_init) ∈ lw_good := lw_good_of (List.mem_append_right _ (List.mem_of_getElem? (i := 357) (by decide +kernel))) rfl
theorem k_358 : (Cond.instanceMethod y_Mdl_init) ∈ lw_good := lw_good_of (List.mem_append_right _ (List.mem_of_getElem? (i := 358) (by decide +kernel))) rfl
theorem k_359 : (Cond.code y_Mdl_init prog_6_method_1_code 1 none) ∈ lw_good := lw_good_of (List.mem_append_right _ (List.mem_of_getElem? (i := 359) (by decide +kernel))) rfl
theorem k_360 : (Cond.methodLink "CourierDeskModel" 1 y_Obj_init) ∈ lw_good := lw_good_of (List.mem_append_right _ (List.mem_of_getElem? (i := 360) (by decide +kernel))) rfl
theorem k_361 : (Cond.fieldLink "CourierDeskModel" 7 "CourierDeskModel" "tape" "[I") ∈ lw_good := lw_good_of (List.mem_append_right _ (List.mem_of_getElem? (i := 361) (by decide +kernel))) rfl
theorem k_362 : (Cond.fieldLink "CourierDeskModel" 13 "CourierDeskModel" "out" "[I") ∈ lw_good := lw_good_of (List.mem_append_right _ (List.mem_of_getElem? (i := 362) (by decide +kernel))) rfl
theorem k_363 : (Cond.fieldLink "CourierDeskModel" 16 "CourierDeskModel" "text" "[I") ∈ lw_good := lw_good_of (List.mem_append_right _ (List.mem_of_getElem? (i := 363) (by decide +kernel))) rfl
theorem k_364 : (Cond.fieldLink "CourierDeskModel" 19 "CourierDeskModel" "begins" "[I") ∈ lw_good := lw_good_of (List.mem_append_right _ (List.mem_of_getElem? (i := 364) (by decide +kernel))) rfl
theorem k_365 : (Cond.fieldLink "CourierDeskModel" 22 "CourierDeskModel" "lengths" "[I") ∈ lw_good := lw_good_of (List.mem_append_right _ (List.mem_of_getElem? (i := 365) (by decide +kernel))) rfl
theorem k_366 : (Cond.fieldLink "CourierDeskModel" 25 "CourierDeskModel" "rack" "[I") ∈ lw_good := lw_good_of (List.mem_append_right _ (List.mem_of_getElem? (i := 366) (by decide +kernel))) rfl
theorem k_367 : (Cond.fieldLink "CourierDeskModel" 28 "CourierDeskModel" "pile" "[I") ∈ lw_good := lw_good_of (List.mem_append_right _ (List.mem_of_getElem? (i := 367) (by decide +kernel))) rfl
theorem k_368 : (Cond.fieldLink "CourierDeskModel" 31 "CourierDeskModel" "other" "[I") ∈ lw_good := lw_good_of (List.mem_append_right _ (List.mem_of_getElem? (i := 368) (by decide +kernel))) rfl
theorem k_369 : (Cond.fieldLink "CourierDeskModel" 34 "CourierDeskModel" "taped" "I") ∈ lw_good := lw_good_of (List.mem_append_right _ (List.mem_of_getElem? (i := 369) (by decide +kernel))) rfl
theorem k_370 : (Cond.fieldLink "CourierDeskModel" 46 "CourierDeskModel" "outs" "I") ∈ lw_good := lw_good_of (List.mem_append_right _ (List.mem_of_getElem? (i := 370) (by decide +kernel))) rfl
theorem k_371 : (Cond.fieldLink "CourierDeskModel" 64 "CourierDeskModel" "words" "I") ∈ lw_good := lw_good_of (List.mem_append_right _ (List.mem_of_getElem? (i := 371) (by decide +kernel))) rfl
theorem k_372 : (Cond.fieldLink "CourierDeskModel" 88 "CourierDeskModel" "racked" "I") ∈ lw_good := lw_good_of (List.mem_append_right _ (List.mem_of_getElem? (i := 372) (by decide +kernel))) rfl
theorem k_373 : (Cond.fieldLink "CourierDeskModel" 85 "CourierDeskModel" "piled" "I") ∈ lw_good := lw_good_of (List.mem_append_right _ (List.mem_of_getElem? (i := 373) (by decide +kernel))) rfl
theorem k_374 : (Cond.fieldLink "CourierDeskModel" 75 "CourierDeskModel" "lot" "J") ∈ lw_good := lw_good_of (List.mem_append_right _ (List.mem_of_getElem? (i := 374) (by decide +kernel))) rfl
theorem k_375 : (Cond.laysFinal "CourierDeskModel" "CourierDeskModel" "tape" "[I") ∈ lw_good := lw_good_of (List.mem_append_right _ (List.mem_of_getElem? (i := 375) (by decide +kernel))) rfl
theorem k_376 : (Cond.soleField "CourierDeskModel" "tape") ∈ lw_good := lw_good_of (List.mem_append_right _ (List.mem_of_getElem? (i := 376) (by decide +kernel))) rfl
theorem k_377 : (Cond.laysFinal "CourierDeskModel" "CourierDeskModel" "out" "[I") ∈ lw_good := lw_good_of (List.mem_append_right _ (List.mem_of_getElem? (i := 377) (by decide +kernel))) rfl
theorem k_378 : (Cond.soleField "CourierDeskModel" "out") ∈ lw_good := lw_good_of (List.mem_append_right _ (List.mem_of_getElem? (i := 378) (by decide +kernel))) rfl
theorem k_379 : (Cond.laysFinal "CourierDeskModel" "CourierDeskModel" "text" "[I") ∈ lw_good := lw_good_of (List.mem_append_right _ (List.mem_of_getElem? (i := 379) (by decide +kernel))) rfl
theorem k_380 : (Cond.soleField "CourierDeskModel" "text") ∈ lw_good := lw_good_of (List.mem_append_right _ (List.mem_of_getElem? (i := 380) (by decide +kernel))) rfl
theorem k_381 : (Cond.laysFinal "CourierDeskModel" "CourierDeskModel" "begins" "[I") ∈ lw_good := lw_good_of (List.mem_append_right _ (List.mem_of_getElem? (i := 381) (by decide +kernel))) rfl
theorem k_382 : (Cond.soleField "CourierDeskModel" "begins") ∈ lw_good := lw_good_of (List.mem_append_right _ (List.mem_of_getElem? (i := 382) (by decide +kernel))) rfl
theorem k_383 : (Cond.laysFinal "CourierDeskModel" "CourierDeskModel" "lengths" "[I") ∈ lw_good := lw_good_of (List.mem_append_right _ (List.mem_of_getElem? (i := 383) (by decide +kernel))) rfl
theorem k_384 : (Cond.soleField "CourierDeskModel" "lengths") ∈ lw_good := lw_good_of (List.mem_append_right _ (List.mem_of_getElem? (i := 384) (by decide +kernel))) rfl
theorem k_385 : (Cond.laysFinal "CourierDeskModel" "CourierDeskModel" "rack" "[I") ∈ lw_good := lw_good_of (List.mem_append_right _ (List.mem_of_getElem? (i := 385) (by decide +kernel))) rfl
theorem k_386 : (Cond.soleField "CourierDeskModel" "rack") ∈ lw_good := lw_good_of (List.mem_append_right _ (List.mem_of_getElem? (i := 386) (by decide +kernel))) rfl
theorem k_387 : (Cond.laysFinal "CourierDeskModel" "CourierDeskModel" "pile" "[I") ∈ lw_good := lw_good_of (List.mem_append_right _ (List.mem_of_getElem? (i := 387) (by decide +kernel))) rfl
theorem k_388 : (Cond.soleField "CourierDeskModel" "pile") ∈ lw_good := lw_good_of (List.mem_append_right _ (List.mem_of_getElem? (i := 388) (by decide +kernel))) rfl
theorem k_389 : (Cond.laysFinal "CourierDeskModel" "CourierDeskModel" "other" "[I") ∈ lw_good := lw_good_of (List.mem_append_right _ (List.mem_of_getElem? (i := 389) (by decide +kernel))) rfl
theorem k_390 : (Cond.soleField "CourierDeskModel" "other") ∈ lw_good := lw_good_of (List.mem_append_right _ (List.mem_of_getElem? (i := 390) (by decide +kernel))) rfl
theorem k_391 : (Cond.lays "CourierDeskModel" "CourierDeskModel" "taped" "I") ∈ lw_good := lw_good_of (List.mem_append_right _ (List.mem_of_getElem? (i := 391) (by decide +kernel))) rfl
theorem k_392 : (Cond.soleField "CourierDeskModel" "taped") ∈ lw_good := lw_good_of (List.mem_append_right _ (List.mem_of_getElem? (i := 392) (by decide +kernel))) rfl
theorem k_393 : (Cond.lays "CourierDeskModel" "CourierDeskModel" "outs" "I") ∈ lw_good := lw_good_of (List.mem_append_right _ (List.mem_of_getElem? (i := 393) (by decide +kernel))) rfl
theorem k_394 : (Cond.soleField "CourierDeskModel" "outs") ∈ lw_good := lw_good_of (List.mem_append_right _ (List.mem_of_getElem? (i := 394) (by decide +kernel))) rfl
theorem k_395 : (Cond.lays "CourierDeskModel" "CourierDeskModel" "words" "I") ∈ lw_good := lw_good_of (List.mem_append_right _ (List.mem_of_getElem? (i := 395) (by decide +kernel))) rfl
theorem k_396 : (Cond.soleField "CourierDeskModel" "words") ∈ lw_good := lw_good_of (List.mem_append_right _ (List.mem_of_getElem? (i := 396) (by decide +kernel))) rfl
theorem k_397 : (Cond.lays "CourierDeskModel" "CourierDeskModel" "racked" "I") ∈ lw_good := lw_good_of (List.mem_append_right _ (List.mem_of_getElem? (i := 397) (by decide +kernel))) rfl
theorem k_398 : (Cond.soleField "CourierDeskModel" "racked") ∈ lw_good := lw_good_of (List.mem_append_right _ (List.mem_of_getElem? (i := 398) (by decide +kernel))) rfl
theorem k_399 : (Cond.lays "CourierDeskModel" "CourierDeskModel" "piled" "I") ∈ lw_good := lw_good_of (List.mem_append_right _ (List.mem_of_getElem? (i := 399) (by decide +kernel))) rfl
theorem k_400 : (Cond.soleField "CourierDeskModel" "piled") ∈ lw_good := lw_good_of (List.mem_append_right _ (List.mem_of_getElem? (i := 400) (by decide +kernel))) rfl
theorem k_401 : (Cond.lays "CourierDeskModel" "CourierDeskModel" "lot" "J") ∈ lw_good := lw_good_of (List.mem_append_right _ (List.mem_of_getElem? (i := 401) (by decide +kernel))) rfl
theorem k_402 : (Cond.soleField "CourierDeskModel" "lot") ∈ lw_good := lw_good_of (List.mem_append_right _ (List.mem_of_getElem? (i := 402) (by decide +kernel))) rfl
theorem k_403 : (Cond.superclass "CourierDeskModel" "java/lang/Object") ∈ lw_good := lw_good_of (List.mem_append_right _ (List.mem_of_getElem? (i := 403) (by decide +kernel))) rfl
theorem k_404 : (Cond.methodLink "CourierDeskLaw" 17 y_Mdl_feed) ∈ lw_good := lw_good_of (List.mem_append_right _ (List.mem_of_getElem? (i := 404) (by decide +kernel))) rfl
theorem k_405 : (Cond.instanceMethod y_Mdl_feed) ∈ lw_good := lw_good_of (List.mem_append_right _ (List.mem_of_getElem? (i := 405) (by decide +kernel))) rfl
theorem k_406 : (Cond.selects "CourierDeskModel" y_Mdl_feed y_Mdl_feed) ∈ lw_good := lw_good_of (List.mem_append_right _ (List.mem_of_getElem? (i := 406) (by decide +kernel))) rfl
theorem k_407 : (Cond.code y_Mdl_feed prog_6_method_3_code 6 (some .int)) ∈ lw_good := lw_good_of (List.mem_append_right _ (List.mem_of_getElem? (i := 407) (by decide +kernel))) rfl
theorem k_408 : (Cond.methodLink "CourierDeskModel" 38 y_Mdl_four) ∈ lw_good := lw_good_of (List.mem_append_right _ (List.mem_of_getElem? (i := 408) (by decide +kernel))) rfl
theorem k_410 : (Cond.instanceMethod y_Mdl_four) ∈ lw_good := lw_good_of (List.mem_append_right _ (List.mem_of_getElem? (i := 410) (by decide +kernel))) rfl
theorem k_411 : (Cond.code y_Mdl_four prog_6_method_2_code 4 none) ∈ lw_good := lw_good_of (List.mem_append_right _ (List.mem_of_getElem? (i := 411) (by decide +kernel))) rfl
theorem k_412 : (Cond.methodLink "CourierDeskLaw" 22 y_Mdl_end) ∈ lw_good := lw_good_of (List.mem_append_right _ (List.mem_of_getElem? (i := 412) (by decide +kernel))) rfl
theorem k_413 : (Cond.instanceMethod y_Mdl_end) ∈ lw_good := lw_good_of (List.mem_append_right _ (List.mem_of_getElem? (i := 413) (by decide +kernel))) rfl
theorem k_414 : (Cond.selects "CourierDeskModel" y_Mdl_end y_Mdl_end) ∈ lw_good := lw_good_of (List.mem_append_right _ (List.mem_of_getElem? (i := 414) (by decide +kernel))) rfl
theorem k_415 : (Cond.code y_Mdl_end prog_6_method_4_code 2 (some .int)) ∈ lw_good := lw_good_of (List.mem_append_right _ (List.mem_of_getElem? (i := 415) (by decide +kernel))) rfl
theorem k_416 : (Cond.methodLink "CourierDeskLaw" 27 y_Mdl_write) ∈ lw_good := lw_good_of (List.mem_append_right _ (List.mem_of_getElem? (i := 416) (by decide +kernel))) rfl
theorem k_417 : (Cond.instanceMethod y_Mdl_write) ∈ lw_good := lw_good_of (List.mem_append_right _ (List.mem_of_getElem? (i := 417) (by decide +kernel))) rfl
theorem k_418 : (Cond.selects "CourierDeskModel" y_Mdl_write y_Mdl_write) ∈ lw_good := lw_good_of (List.mem_append_right _ (List.mem_of_getElem? (i := 418) (by decide +kernel))) rfl
theorem k_419 : (Cond.code y_Mdl_write prog_6_method_8_code 6 (some .int)) ∈ lw_good := lw_good_of (List.mem_append_right _ (List.mem_of_getElem? (i := 419) (by decide +kernel))) rfl
theorem k_420 : (Cond.methodLink "CourierDeskModel" 49 y_Mdl_bit) ∈ lw_good := lw_good_of (List.mem_append_right _ (List.mem_of_getElem? (i := 420) (by decide +kernel))) rfl
theorem k_422 : (Cond.instanceMethod y_Mdl_bit) ∈ lw_good := lw_good_of (List.mem_append_right _ (List.mem_of_getElem? (i := 422) (by decide +kernel))) rfl
theorem k_423 : (Cond.code y_Mdl_bit prog_6_method_7_code 3 (some .int)) ∈ lw_good := lw_good_of (List.mem_append_right _ (List.mem_of_getElem? (i := 423) (by decide +kernel))) rfl
theorem k_424 : (Cond.methodLink "CourierDeskModel" 42 y_Mdl_sign) ∈ lw_good := lw_good_of (List.mem_append_right _ (List.mem_of_getElem? (i := 424) (by decide +kernel))) rfl
theorem k_425 : (Cond.static y_Mdl_sign) ∈ lw_good := lw_good_of (List.mem_append_right _ (List.mem_of_getElem? (i := 425) (by decide +kernel))) rfl
theorem k_426 : (Cond.code y_Mdl_sign prog_6_method_5_code 2 (some .int)) ∈ lw_good := lw_good_of (List.mem_append_right _ (List.mem_of_getElem? (i := 426) (by decide +kernel))) rfl
theorem k_427 : (Cond.methodLink "CourierDeskLaw" 32 y_Mdl_read) ∈ lw_good := lw_good_of (List.mem_append_right _ (List.mem_of_getElem? (i := 427) (by decide +kernel))) rfl
theorem k_428 : (Cond.instanceMethod y_Mdl_read) ∈ lw_good := lw_good_of (List.mem_append_right _ (List.mem_of_getElem? (i := 428) (by decide +kernel))) rfl
theorem k_429 : (Cond.selects "CourierDeskModel" y_Mdl_read y_Mdl_read) ∈ lw_good := lw_good_of (List.mem_append_right _ (List.mem_of_getElem? (i := 429) (by decide +kernel))) rfl
theorem k_430 : (Cond.code y_Mdl_read prog_6_method_9_code 9 (some .int)) ∈ lw_good := lw_good_of (List.mem_append_right _ (List.mem_of_getElem? (i := 430) (by decide +kernel))) rfl
theorem k_431 : (Cond.methodLink "CourierDeskModel" 53 y_Mdl_which) ∈ lw_good := lw_good_of (List.mem_append_right _ (List.mem_of_getElem? (i := 431) (by decide +kernel))) rfl
theorem k_432 : (Cond.static y_Mdl_which) ∈ lw_good := lw_good_of (List.mem_append_right _ (List.mem_of_getElem? (i := 432) (by decide +kernel))) rfl
theorem k_433 : (Cond.code y_Mdl_which prog_6_method_6_code 3 (some .int)) ∈ lw_good := lw_good_of (List.mem_append_right _ (List.mem_of_getElem? (i := 433) (by decide +kernel))) rfl
theorem k_434 : (Cond.methodLink "CourierDeskLaw" 37 y_Mdl_check) ∈ lw_good := lw_good_of (List.mem_append_right _ (List.mem_of_getElem? (i := 434) (by decide +kernel))) rfl
theorem k_435 : (Cond.instanceMethod y_Mdl_check) ∈ lw_good := lw_good_of (List.mem_append_right _ (List.mem_of_getElem? (i := 435) (by decide +kernel))) rfl
theorem k_436 : (Cond.selects "CourierDeskModel" y_Mdl_check y_Mdl_check) ∈ lw_good := lw_good_of (List.mem_append_right _ (List.mem_of_getElem? (i := 436) (by decide +kernel))) rfl
theorem k_437 : (Cond.code y_Mdl_check prog_6_method_10_code 8 (some .long)) ∈ lw_good := lw_good_of (List.mem_append_right _ (List.mem_of_getElem? (i := 437) (by decide +kernel))) rfl
theorem k_438 : (Cond.constantLong "CourierDeskModel" 56 1099511627776) ∈ lw_good := lw_good_of (List.mem_append_right _ (List.mem_of_getElem? (i := 438) (by decide +kernel))) rfl
theorem k_439 : (Cond.constantLong "CourierDeskModel" 58 4294967295) ∈ lw_good := lw_good_of (List.mem_append_right _ (List.mem_of_getElem? (i := 439) (by decide +kernel))) rfl
theorem k_440 : (Cond.constantLong "CourierDeskModel" 60 2) ∈ lw_good := lw_good_of (List.mem_append_right _ (List.mem_of_getElem? (i := 440) (by decide +kernel))) rfl
theorem k_441 : (Cond.constantLong "CourierDeskModel" 62 2197175160) ∈ lw_good := lw_good_of (List.mem_append_right _ (List.mem_of_getElem? (i := 441) (by decide +kernel))) rfl
theorem k_442 : (Cond.methodLink "CourierDeskLaw" 42 y_Mdl_words) ∈ lw_good := lw_good_of (List.mem_append_right _ (List.mem_of_getElem? (i := 442) (by decide +kernel))) rfl
theorem k_443 : (Cond.instanceMethod y_Mdl_words) ∈ lw_good := lw_good_of (List.mem_append_right _ (List.mem_of_getElem? (i := 443) (by decide +kernel))) rfl
theorem k_444 : (Cond.selects "CourierDeskModel" y_Mdl_words y_Mdl_words) ∈ lw_good := lw_good_of (List.mem_append_right _ (List.mem_of_getElem? (i := 444) (by decide +kernel))) rfl
theorem k_445 : (Cond.code y_Mdl_words prog_6_method_13_code 8 (some .int)) ∈ lw_good := lw_good_of (List.mem_append_right _ (List.mem_of_getElem? (i := 445) (by decide +kernel))) rfl
theorem k_446 : (Cond.methodLink "CourierDeskModel" 67 y_Mdl_noSign) ∈ lw_good := lw_good_of (List.mem_append_right _ (List.mem_of_getElem? (i := 446) (by decide +kernel))) rfl
theorem k_447 : (Cond.static y_Mdl_noSign) ∈ lw_good := lw_good_of (List.mem_append_right _ (List.mem_of_getElem? (i := 447) (by decide +kernel))) rfl
theorem k_448 : (Cond.code y_Mdl_noSign prog_6_method_11_code 1 (some .boolean)) ∈ lw_good := lw_good_of (List.mem_append_right _ (List.mem_of_getElem? (i := 448) (by decide +kernel))) rfl
theorem k_449 : (Cond.methodLink "CourierDeskModel" 71 y_Mdl_word) ∈ lw_good := lw_good_of (List.mem_append_right _ (List.mem_of_getElem? (i := 449) (by decide +kernel))) rfl
theorem k_451 : (Cond.instanceMethod y_Mdl_word) ∈ lw_good := lw_good_of (List.mem_append_right _ (List.mem_of_getElem? (i := 451) (by decide +kernel))) rfl
theorem k_452 : (Cond.code y_Mdl_word prog_6_method_12_code 3 none) ∈ lw_good := lw_good_of (List.mem_append_right _ (List.mem_of_getElem? (i := 452) (by decide +kernel))) rfl
theorem k_453 : (Cond.methodLink "CourierDeskLaw" 46 y_Mdl_word2) ∈ lw_good := lw_good_of (List.mem_append_right _ (List.mem_of_getElem? (i := 453) (by decide +kernel))) rfl
theorem k_454 : (Cond.instanceMethod y_Mdl_word2) ∈ lw_good := lw_good_of (List.mem_append_right _ (List.mem_of_getElem? (i := 454) (by decide +kernel))) rfl
theorem k_455 : (Cond.selects "CourierDeskModel" y_Mdl_word2 y_Mdl_word2) ∈ lw_good := lw_good_of (List.mem_append_right _ (List.mem_of_getElem? (i := 455) (by decide +kernel))) rfl
theorem k_456 : (Cond.code y_Mdl_word2 prog_6_method_14_code 3 (some .int)) ∈ lw_good := lw_good_of (List.mem_append_right _ (List.mem_of_getElem? (i := 456) (by decide +kernel))) rfl
theorem k_457 : (Cond.methodLink "CourierDeskLaw" 50 y_Mdl_octet) ∈ lw_good := lw_good_of (List.mem_append_right _ (List.mem_of_getElem? (i := 457) (by decide +kernel))) rfl
theorem k_458 : (Cond.instanceMethod y_Mdl_octet) ∈ lw_good := lw_good_of (List.mem_append_right _ (List.mem_of_getElem? (i := 458) (by decide +kernel))) rfl
theorem k_459 : (Cond.selects "CourierDeskModel" y_Mdl_octet y_Mdl_octet) ∈ lw_good := lw_good_of (List.mem_append_right _ (List.mem_of_getElem? (i := 459) (by decide +kernel))) rfl
theorem k_460 : (Cond.code y_Mdl_octet prog_6_method_15_code 2 (some .int)) ∈ lw_good := lw_good_of (List.mem_append_right _ (List.mem_of_getElem? (i := 460) (by decide +kernel))) rfl
theorem k_461 : (Cond.methodLink "CourierDeskLaw" 57 y_Mdl_seed) ∈ lw_good := lw_good_of (List.mem_append_right _ (List.mem_of_getElem? (i := 461) (by decide +kernel))) rfl
theorem k_462 : (Cond.instanceMethod y_Mdl_seed) ∈ lw_good := lw_good_of (List.mem_append_right _ (List.mem_of_getElem? (i := 462) (by decide +kernel))) rfl
theorem k_463 : (Cond.selects "CourierDeskModel" y_Mdl_seed y_Mdl_seed) ∈ lw_good := lw_good_of (List.mem_append_right _ (List.mem_of_getElem? (i := 463) (by decide +kernel))) rfl
theorem k_464 : (Cond.code y_Mdl_seed prog_6_method_16_code 5 (some .long)) ∈ lw_good := lw_good_of (List.mem_append_right _ (List.mem_of_getElem? (i := 464) (by decide +kernel))) rfl
theorem k_465 : (Cond.methodLink "CourierDeskLaw" 62 y_Mdl_draw) ∈ lw_good := lw_good_of (List.mem_append_right _ (List.mem_of_getElem? (i := 465) (by decide +kernel))) rfl
theorem k_466 : (Cond.instanceMethod y_Mdl_draw) ∈ lw_good := lw_good_of (List.mem_append_right _ (List.mem_of_getElem? (i := 466) (by decide +kernel))) rfl
theorem k_467 : (Cond.selects "CourierDeskModel" y_Mdl_draw y_Mdl_draw) ∈ lw_good := lw_good_of (List.mem_append_right _ (List.mem_of_getElem? (i := 467) (by decide +kernel))) rfl
theorem k_468 : (Cond.code y_Mdl_draw prog_6_method_17_code 3 (some .long)) ∈ lw_good := lw_good_of (List.mem_append_right _ (List.mem_of_getElem? (i := 468) (by decide +kernel))) rfl
theorem k_469 : (Cond.constantLong "CourierDeskModel" 79 (-7046029254386353131)) ∈ lw_good := lw_good_of (List.mem_append_right _ (List.mem_of_getElem? (i := 469) (by decide +kernel))) rfl
theorem k_470 : (Cond.constantLong "CourierDeskModel" 81 (-4658895280553007687)) ∈ lw_good := lw_good_of (List.mem_append_right _ (List.mem_of_getElem? (i := 470) (by decide +kernel))) rfl
theorem k_471 : (Cond.constantLong "CourierDeskModel" 83 (-7723592293110705685)) ∈ lw_good := lw_good_of (List.mem_append_right _ (List.mem_of_getElem? (i := 471) (by decide +kernel))) rfl
theorem k_472 : (Cond.methodLink "CourierDeskLaw" 66 y_Mdl_push) ∈ lw_good := lw_good_of (List.mem_append_right _ (List.mem_of_getElem? (i := 472) (by decide +kernel))) rfl
theorem k_473 : (Cond.instanceMethod y_Mdl_push) ∈ lw_good := lw_good_of (List.mem_append_right _ (List.mem_of_getElem? (i := 473) (by decide +kernel))) rfl
theorem k_474 : (Cond.selects "CourierDeskModel" y_Mdl_push y_Mdl_push) ∈ lw_good := lw_good_of (List.mem_append_right _ (List.mem_of_getElem? (i := 474) (by decide +kernel))) rfl
theorem k_475 : (Cond.code y_Mdl_push prog_6_method_18_code 2 (some .int)) ∈ lw_good := lw_good_of (List.mem_append_right _ (List.mem_of_getElem? (i := 475) (by decide +kernel))) rfl
theorem k_476 : (Cond.methodLink "CourierDeskLaw" 71 y_Mdl_pop) ∈ lw_good := lw_good_of (List.mem_append_right _ (List.mem_of_getElem? (i := 476) (by decide +kernel))) rfl
theorem k_477 : (Cond.instanceMethod y_Mdl_pop) ∈ lw_good := lw_good_of (List.mem_append_right _ (List.mem_of_getElem? (i := 477) (by decide +kernel))) rfl
theorem k_478 : (Cond.selects "CourierDeskModel" y_Mdl_pop y_Mdl_pop) ∈ lw_good := lw_good_of (List.mem_append_right _ (List.mem_of_getElem? (i := 478) (by decide +kernel))) rfl
theorem k_479 : (Cond.code y_Mdl_pop prog_6_method_19_code 2 (some .long)) ∈ lw_good := lw_good_of (List.mem_append_right _ (List.mem_of_getElem? (i := 479) (by decide +kernel))) rfl
theorem k_480 : (Cond.methodLink "CourierDeskLaw" 75 y_Mdl_search) ∈ lw_good := lw_good_of (List.mem_append_right _ (List.mem_of_getElem? (i := 480) (by decide +kernel))) rfl
theorem k_481 : (Cond.instanceMethod y_Mdl_search) ∈ lw_good := lw_good_of (List.mem_append_right _ (List.mem_of_getElem? (i := 481) (by decide +kernel))) rfl
theorem k_482 : (Cond.selects "CourierDeskModel" y_Mdl_search y_Mdl_search) ∈ lw_good := lw_good_of (List.mem_append_right _ (List.mem_of_getElem? (i := 482) (by decide +kernel))) rfl
theorem k_483 : (Cond.code y_Mdl_search prog_6_method_20_code 4 (some .int)) ∈ lw_good := lw_good_of (List.mem_append_right _ (List.mem_of_getElem? (i := 483) (by decide +kernel))) rfl
theorem k_484 : (Cond.methodLink "CourierDeskLaw" 80 y_Mdl_insert) ∈ lw_good := lw_good_of (List.mem_append_right _ (List.mem_of_getElem? (i := 484) (by decide +kernel))) rfl
theorem k_485 : (Cond.instanceMethod y_Mdl_insert) ∈ lw_good := lw_good_of (List.mem_append_right _ (List.mem_of_getElem? (i := 485) (by decide +kernel))) rfl
theorem k_486 : (Cond.selects "CourierDeskModel" y_Mdl_insert y_Mdl_insert) ∈ lw_good := lw_good_of (List.mem_append_right _ (List.mem_of_getElem? (i := 486) (by decide +kernel))) rfl
theorem k_487 : (Cond.code y_Mdl_insert prog_6_method_22_code 4 (some .int)) ∈ lw_good := lw_good_of (List.mem_append_right _ (List.mem_of_getElem? (i := 487) (by decide +kernel))) rfl
theorem k_488 : (Cond.methodLink "CourierDeskLaw" 85 y_Mdl_remove) ∈ lw_good := lw_good_of (List.mem_append_right _ (List.mem_of_getElem? (i := 488) (by decide +kernel))) rfl
theorem k_489 : (Cond.instanceMethod y_Mdl_remove) ∈ lw_good := lw_good_of (List.mem_append_right _ (List.mem_of_getElem? (i := 489) (by decide +kernel))) rfl
theorem k_490 : (Cond.selects "CourierDeskModel" y_Mdl_remove y_Mdl_remove) ∈ lw_good := lw_good_of (List.mem_append_right _ (List.mem_of_getElem? (i := 490) (by decide +kernel))) rfl
theorem k_491 : (Cond.code y_Mdl_remove prog_6_method_23_code 4 (some .long)) ∈ lw_good := lw_good_of (List.mem_append_right _ (List.mem_of_getElem? (i := 491) (by decide +kernel))) rfl
theorem k_492 : (Cond.methodLink "CourierDeskModel" 91 y_Mdl_none) ∈ lw_good := lw_good_of (List.mem_append_right _ (List.mem_of_getElem? (i := 492) (by decide +kernel))) rfl
theorem k_494 : (Cond.instanceMethod y_Mdl_none) ∈ lw_good := lw_good_of (List.mem_append_right _ (List.mem_of_getElem? (i := 494) (by decide +kernel))) rfl
theorem k_495 : (Cond.code y_Mdl_none prog_6_method_21_code 2 (some .boolean)) ∈ lw_good := lw_good_of (List.mem_append_right _ (List.mem_of_getElem? (i := 495) (by decide +kernel))) rfl
theorem k_496 : (Cond.methodLink "CourierDeskLaw" 89 y_Mdl_set) ∈ lw_good := lw_good_of (List.mem_append_right _ (List.mem_of_getElem? (i := 496) (by decide +kernel))) rfl
theorem k_497 : (Cond.instanceMethod y_Mdl_set) ∈ lw_good := lw_good_of (List.mem_append_right _ (List.mem_of_getElem? (i := 497) (by decide +kernel))) rfl
theorem k_498 : (Cond.selects "CourierDeskModel" y_Mdl_set y_Mdl_set) ∈ lw_good := lw_good_of (List.mem_append_right _ (List.mem_of_getElem? (i := 498) (by decide +kernel))) rfl
theorem k_499 : (Cond.code y_Mdl_set prog_6_method_24_code 4 (some .long)) ∈ lw_good := lw_good_of (List.mem_append_right _ (List.mem_of_getElem? (i := 499) (by decide +kernel))) rfl
theorem k_500 : (Cond.methodLink "CourierDeskLaw" 93 y_Mdl_get) ∈ lw_good := lw_good_of (List.mem_append_right _ (List.mem_of_getElem? (i := 500) (by decide +kernel))) rfl
theorem k_501 : (Cond.instanceMethod y_Mdl_get) ∈ lw_good := lw_good_of (List.mem_append_right _ (List.mem_of_getElem? (i := 501) (by decide +kernel))) rfl
theorem k_502 : (Cond.selects "CourierDeskModel" y_Mdl_get y_Mdl_get) ∈ lw_good := lw_good_of (List.mem_append_right _ (List.mem_of_getElem? (i := 502) (by decide +kernel))) rfl
theorem k_503 : (Cond.code y_Mdl_get prog_6_method_25_code 2 (some .long)) ∈ lw_good := lw_good_of (List.mem_append_right _ (List.mem_of_getElem? (i := 503) (by decide +kernel))) rfl
theorem k_504 : (Cond.methodLink "CourierDeskLaw" 98 y_Mdl_find) ∈ lw_good := lw_good_of (List.mem_append_right _ (List.mem_of_getElem? (i := 504) (by decide +kernel))) rfl
theorem k_505 : (Cond.instanceMethod y_Mdl_find) ∈ lw_good := lw_good_of (List.mem_append_right _ (List.mem_of_getElem? (i := 505) (by decide +kernel))) rfl
theorem k_506 : (Cond.selects "CourierDeskModel" y_Mdl_find y_Mdl_find) ∈ lw_good := lw_good_of (List.mem_append_right _ (List.mem_of_getElem? (i := 506) (by decide +kernel))) rfl
theorem k_507 : (Cond.code y_Mdl_find prog_6_method_26_code 6 (some .int)) ∈ lw_good := lw_good_of (List.mem_append_right _ (List.mem_of_getElem? (i := 507) (by decide +kernel))) rfl
theorem k_508 : (Cond.methodLink "CourierDeskLaw" 102 y_Mdl_size) ∈ lw_good := lw_good_of (List.mem_append_right _ (List.mem_of_getElem? (i := 508) (by decide +kernel))) rfl
theorem k_509 : (Cond.instanceMethod y_Mdl_size) ∈ lw_good := lw_good_of (List.mem_append_right _ (List.mem_of_getElem? (i := 509) (by decide +kernel))) rfl
theorem k_510 : (Cond.selects "CourierDeskModel" y_Mdl_size y_Mdl_size) ∈ lw_good := lw_good_of (List.mem_append_right _ (List.mem_of_getElem? (i := 510) (by decide +kernel))) rfl
theorem k_511 : (Cond.code y_Mdl_size prog_6_method_27_code 2 (some .int)) ∈ lw_good := lw_good_of (List.mem_append_right _ (List.mem_of_getElem? (i := 511) (by decide +kernel))) rfl
theorem k_512 : (Cond.methodLink "CourierDeskLaw" 106 y_Mdl_turn) ∈ lw_good := lw_good_of (List.mem_append_right _ (List.mem_of_getElem? (i := 512) (by decide +kernel))) rfl
theorem k_513 : (Cond.instanceMethod y_Mdl_turn) ∈ lw_good := lw_good_of (List.mem_append_right _ (List.mem_of_getElem? (i := 513) (by decide +kernel))) rfl
theorem k_514 : (Cond.selects "CourierDeskModel" y_Mdl_turn y_Mdl_turn) ∈ lw_good := lw_good_of (List.mem_append_right _ (List.mem_of_getElem? (i := 514) (by decide +kernel))) rfl
theorem k_515 : (Cond.code y_Mdl_turn prog_6_method_28_code 4 (some .int)) ∈ lw_good := lw_good_of (List.mem_append_right _ (List.mem_of_getElem? (i := 515) (by decide +kernel))) rfl
theorem k_516 : (Cond.methodLink "CourierDeskModel" 94 y_Mdl_on) ∈ lw_good := lw_good_of (List.mem_append_right _ (List.mem_of_getElem? (i := 516) (by decide +kernel))) rfl
theorem k_518 : (Cond.instanceMethod y_Mdl_on) ∈ lw_good := lw_good_of (List.mem_append_right _ (List.mem_of_getElem? (i := 518) (by decide +kernel))) rfl
theorem k_519 : (Cond.code y_Mdl_on prog_6_method_29_code 5 (some .int)) ∈ lw_good := lw_good_of (List.mem_append_right _ (List.mem_of_getElem? (i := 519) (by decide +kernel))) rfl
theorem k_520 : (Cond.methodLink "CourierDeskLaw" 110 y_Mdl_swap) ∈ lw_good := lw_good_of (List.mem_append_right _ (List.mem_of_getElem? (i := 520) (by decide +kernel))) rfl
theorem k_521 : (Cond.instanceMethod y_Mdl_swap) ∈ lw_good := lw_good_of (List.mem_append_right _ (List.mem_of_getElem? (i := 521) (by decide +kernel))) rfl
theorem k_522 : (Cond.selects "CourierDeskModel" y_Mdl_swap y_Mdl_swap) ∈ lw_good := lw_good_of (List.mem_append_right _ (List.mem_of_getElem? (i := 522) (by decide +kernel))) rfl
theorem k_523 : (Cond.code y_Mdl_swap prog_6_method_30_code 4 (some .int)) ∈ lw_good := lw_good_of (List.mem_append_right _ (List.mem_of_getElem? (i := 523) (by decide +kernel))) rfl
theorem k_524 : (Cond.methodLink "CourierDeskLaw" 114 y_Mdl_tell) ∈ lw_good := lw_good_of (List.mem_append_right _ (List.mem_of_getElem? (i := 524) (by decide +kernel))) rfl
theorem k_525 : (Cond.instanceMethod y_Mdl_tell) ∈ lw_good := lw_good_of (List.mem_append_right _ (List.mem_of_getElem? (i := 525) (by decide +kernel))) rfl
theorem k_526 : (Cond.selects "CourierDeskModel" y_Mdl_tell y_Mdl_tell) ∈ lw_good := lw_good_of (List.mem_append_right _ (List.mem_of_getElem? (i := 526) (by decide +kernel))) rfl
theorem k_527 : (Cond.code y_Mdl_tell prog_6_method_33_code 5 (some .long)) ∈ lw_good := lw_good_of (List.mem_append_right _ (List.mem_of_getElem? (i := 527) (by decide +kernel))) rfl
theorem k_528 : (Cond.methodLink "CourierDeskModel" 98 y_Mdl_often) ∈ lw_good := lw_good_of (List.mem_append_right _ (List.mem_of_getElem? (i := 528) (by decide +kernel))) rfl
theorem k_530 : (Cond.instanceMethod y_Mdl_often) ∈ lw_good := lw_good_of (List.mem_append_right _ (List.mem_of_getElem? (i := 530) (by decide +kernel))) rfl
theorem k_531 : (Cond.code y_Mdl_often prog_6_method_31_code 4 (some .int)) ∈ lw_good := lw_good_of (List.mem_append_right _ (List.mem_of_getElem? (i := 531) (by decide +kernel))) rfl
theorem k_532 : (Cond.methodLink "CourierDeskModel" 101 y_Mdl_stands) ∈ lw_good := lw_good_of (List.mem_append_right _ (List.mem_of_getElem? (i := 532) (by decide +kernel))) rfl
theorem k_534 : (Cond.instanceMethod y_Mdl_stands) ∈ lw_good := lw_good_of (List.mem_append_right _ (List.mem_of_getElem? (i := 534) (by decide +kernel))) rfl
theorem k_535 : (Cond.code y_Mdl_stands prog_6_method_32_code 3 (some .boolean)) ∈ lw_good := lw_good_of (List.mem_append_right _ (List.mem_of_getElem? (i := 535) (by decide +kernel))) rfl
theorem k_536 : (Cond.methodLink "CourierDeskLaw" 118 y_Mdl_replace) ∈ lw_good := lw_good_of (List.mem_append_right _ (List.mem_of_getElem? (i := 536) (by decide +kernel))) rfl
theorem k_537 : (Cond.instanceMethod y_Mdl_replace) ∈ lw_good := lw_good_of (List.mem_append_right _ (List.mem_of_getElem? (i := 537) (by decide +kernel))) rfl
theorem k_538 : (Cond.selects "CourierDeskModel" y_Mdl_replace y_Mdl_replace) ∈ lw_good := lw_good_of (List.mem_append_right _ (List.mem_of_getElem? (i := 538) (by decide +kernel))) rfl
theorem k_539 : (Cond.code y_Mdl_replace prog_6_method_34_code 5 (some .int)) ∈ lw_good := lw_good_of (List.mem_append_right _ (List.mem_of_getElem? (i := 539) (by decide +kernel))) rfl
theorem k_540 : (Cond.methodLink "CourierDeskLaw" 122 y_Mdl_seek) ∈ lw_good := lw_good_of (List.mem_append_right _ (List.mem_of_getElem? (i := 540) (by decide +kernel))) rfl
theorem k_541 : (Cond.instanceMethod y_Mdl_seek) ∈ lw_good := lw_good_of (List.mem_append_right _ (List.mem_of_getElem? (i := 541) (by decide +kernel))) rfl
theorem k_542 : (Cond.selects "CourierDeskModel" y_Mdl_seek y_Mdl_seek) ∈ lw_good := lw_good_of (List.mem_append_right _ (List.mem_of_getElem? (i := 542) (by decide +kernel))) rfl
theorem k_543 : (Cond.code y_Mdl_seek prog_6_method_35_code 4 (some .int)) ∈ lw_good := lw_good_of (List.mem_append_right _ (List.mem_of_getElem? (i := 543) (by decide +kernel))) rfl
theorem k_544 : (Cond.methodLink "CourierDeskLaw" 126 y_Mdl_count) ∈ lw_good := lw_good_of (List.mem_append_right _ (List.mem_of_getElem? (i := 544) (by decide +kernel))) rfl
theorem k_545 : (Cond.instanceMethod y_Mdl_count) ∈ lw_good := lw_good_of (List.mem_append_right _ (List.mem_of_getElem? (i := 545) (by decide +kernel))) rfl
theorem k_546 : (Cond.selects "CourierDeskModel" y_Mdl_count y_Mdl_count) ∈ lw_good := lw_good_of (List.mem_append_right _ (List.mem_of_getElem? (i := 546) (by decide +kernel))) rfl
theorem k_547 : (Cond.code y_Mdl_count prog_6_method_36_code 2 (some .int)) ∈ lw_good := lw_good_of (List.mem_append_right _ (List.mem_of_getElem? (i := 547) (by decide +kernel))) rfl
theorem k_548 : (Cond.constantLong "CourierDeskLaw" 51 4294967295) ∈ lw_good := lw_good_of (List.mem_append_right _ (List.mem_of_getElem? (i := 548) (by decide +kernel))) rfl
