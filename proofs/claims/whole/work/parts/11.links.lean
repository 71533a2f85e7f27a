def R_Sig : String := "CourierDesk$Signs"
def R_Law : String := "CourierDeskLaw"
def R_Mth : String := "java/lang/Math"
def R_Arr : String := "java/util/Arrays"
def R_Sys : String := "java/lang/System"
def R_Obj : String := "java/lang/Object"
theorem i_Dsk : ∀ w ∈ u_ws R_Dsk T_Dsk 6, w ∈ lw_good := by
  intro w hw
  have hw : w ∈ ([(Cond.laysFinal "CourierDesk" "CourierDesk" "tape" "LCourierDesk$Row;"), (Cond.laysFinal "CourierDesk" "CourierDesk" "out" "LCourierDesk$Row;"), (Cond.laysFinal "CourierDesk" "CourierDesk" "rack" "LCourierDesk$Row;"), (Cond.laysFinal "CourierDesk" "CourierDesk" "pile" "LCourierDesk$Row;"), (Cond.laysFinal "CourierDesk" "CourierDesk" "latest" "LCourierDesk$Words;"), (Cond.lays "CourierDesk" "CourierDesk" "lot" "J")] : List Cond) := hw
  simp only [List.mem_cons, List.not_mem_nil, or_false] at hw
  rcases hw with rfl | rfl | rfl | rfl | rfl | rfl
  · exact k_52
  · exact k_54
  · exact k_56
  · exact k_58
  · exact k_60
  · exact k_62
theorem i_Row : ∀ w ∈ u_ws R_Row T_Row 2, w ∈ lw_good := by
  intro w hw
  have hw : w ∈ ([(Cond.laysFinal "CourierDesk$Row" "CourierDesk$Row" "numbers" "[I"), (Cond.lays "CourierDesk$Row" "CourierDesk$Row" "length" "I")] : List Cond) := hw
  simp only [List.mem_cons, List.not_mem_nil, or_false] at hw
  rcases hw with rfl | rfl
  · exact k_25
  · exact k_27
theorem i_Wrd : ∀ w ∈ u_ws R_Wrd T_Wrd 2, w ∈ lw_good := by
  intro w hw
  have hw : w ∈ ([(Cond.laysFinal "CourierDesk$Words" "CourierDesk$Words" "bytes" "LCourierDesk$Row;"), (Cond.laysFinal "CourierDesk$Words" "CourierDesk$Words" "ends" "LCourierDesk$Row;")] : List Cond) := hw
  simp only [List.mem_cons, List.not_mem_nil, or_false] at hw
  rcases hw with rfl | rfl
  · exact k_41
  · exact k_43
theorem i_Mdl : ∀ w ∈ u_ws R_Mdl T_Mdl 14, w ∈ lw_good := by
  intro w hw
  have hw : w ∈ ([(Cond.laysFinal "CourierDeskModel" "CourierDeskModel" "tape" "[I"), (Cond.laysFinal "CourierDeskModel" "CourierDeskModel" "out" "[I"), (Cond.laysFinal "CourierDeskModel" "CourierDeskModel" "text" "[I"), (Cond.laysFinal "CourierDeskModel" "CourierDeskModel" "begins" "[I"), (Cond.laysFinal "CourierDeskModel" "CourierDeskModel" "lengths" "[I"), (Cond.laysFinal "CourierDeskModel" "CourierDeskModel" "rack" "[I"), (Cond.laysFinal "CourierDeskModel" "CourierDeskModel" "pile" "[I"), (Cond.laysFinal "CourierDeskModel" "CourierDeskModel" "other" "[I"), (Cond.lays "CourierDeskModel" "CourierDeskModel" "taped" "I"), (Cond.lays "CourierDeskModel" "CourierDeskModel" "outs" "I"), (Cond.lays "CourierDeskModel" "CourierDeskModel" "words" "I"), (Cond.lays "CourierDeskModel" "CourierDeskModel" "racked" "I"), (Cond.lays "CourierDeskModel" "CourierDeskModel" "piled" "I"), (Cond.lays "CourierDeskModel" "CourierDeskModel" "lot" "J")] : List Cond) := hw
  simp only [List.mem_cons, List.not_mem_nil, or_false] at hw
  rcases hw with rfl | rfl | rfl | rfl | rfl | rfl | rfl | rfl | rfl | rfl | rfl | rfl | rfl | rfl
  · exact k_375
  · exact k_377
  · exact k_379
  · exact k_381
  · exact k_383
  · exact k_385
  · exact k_387
  · exact k_389
  · exact k_391
  · exact k_393
  · exact k_395
  · exact k_397
  · exact k_399
  · exact k_401
theorem f_Dsk_14 : gg_F R_Dsk 14 0 0 := ⟨R_Dsk, T_Dsk, 6, rfl, by decide, i_Dsk, k_46⟩
theorem f_Dsk_18 : gg_F R_Dsk 18 0 1 := ⟨R_Dsk, T_Dsk, 6, rfl, by decide, i_Dsk, k_47⟩
theorem f_Dsk_21 : gg_F R_Dsk 21 0 2 := ⟨R_Dsk, T_Dsk, 6, rfl, by decide, i_Dsk, k_48⟩
theorem f_Dsk_24 : gg_F R_Dsk 24 0 3 := ⟨R_Dsk, T_Dsk, 6, rfl, by decide, i_Dsk, k_49⟩
theorem f_Dsk_30 : gg_F R_Dsk 30 0 4 := ⟨R_Dsk, T_Dsk, 6, rfl, by decide, i_Dsk, k_50⟩
theorem f_Dsk_34 : gg_F R_Dsk 34 0 5 := ⟨R_Dsk, T_Dsk, 6, rfl, by decide, i_Dsk, k_51⟩
theorem u_Dsk_34 : gg_U R_Dsk 34 0 5 .long := ⟨R_Dsk, T_Dsk, 6, t_Dsk, rfl, by decide, i_Dsk, k_51, t_Dsk_ok, n_Dsk, rfl, t_Dsk_ok 5 (by decide)⟩
theorem f_Row_7 : gg_F R_Row 7 1 0 := ⟨R_Row, T_Row, 2, rfl, by decide, i_Row, k_23⟩
theorem f_Row_13 : gg_F R_Row 13 1 1 := ⟨R_Row, T_Row, 2, rfl, by decide, i_Row, k_24⟩
theorem u_Row_13 : gg_U R_Row 13 1 1 .int := ⟨R_Row, T_Row, 2, t_Row, rfl, by decide, i_Row, k_24, t_Row_ok, n_Row, rfl, t_Row_ok 1 (by decide)⟩
theorem f_Wrd_12 : gg_F R_Wrd 12 2 0 := ⟨R_Wrd, T_Wrd, 2, rfl, by decide, i_Wrd, k_39⟩
theorem f_Wrd_18 : gg_F R_Wrd 18 2 1 := ⟨R_Wrd, T_Wrd, 2, rfl, by decide, i_Wrd, k_40⟩
theorem f_Mdl_7 : gg_F R_Mdl 7 3 0 := ⟨R_Mdl, T_Mdl, 14, rfl, by decide, i_Mdl, k_361⟩
theorem f_Mdl_13 : gg_F R_Mdl 13 3 1 := ⟨R_Mdl, T_Mdl, 14, rfl, by decide, i_Mdl, k_362⟩
theorem f_Mdl_16 : gg_F R_Mdl 16 3 2 := ⟨R_Mdl, T_Mdl, 14, rfl, by decide, i_Mdl, k_363⟩
theorem f_Mdl_19 : gg_F R_Mdl 19 3 3 := ⟨R_Mdl, T_Mdl, 14, rfl, by decide, i_Mdl, k_364⟩
theorem f_Mdl_22 : gg_F R_Mdl 22 3 4 := ⟨R_Mdl, T_Mdl, 14, rfl, by decide, i_Mdl, k_365⟩
theorem f_Mdl_25 : gg_F R_Mdl 25 3 5 := ⟨R_Mdl, T_Mdl, 14, rfl, by decide, i_Mdl, k_366⟩
theorem f_Mdl_28 : gg_F R_Mdl 28 3 6 := ⟨R_Mdl, T_Mdl, 14, rfl, by decide, i_Mdl, k_367⟩
theorem f_Mdl_31 : gg_F R_Mdl 31 3 7 := ⟨R_Mdl, T_Mdl, 14, rfl, by decide, i_Mdl, k_368⟩
theorem f_Mdl_34 : gg_F R_Mdl 34 3 8 := ⟨R_Mdl, T_Mdl, 14, rfl, by decide, i_Mdl, k_369⟩
theorem u_Mdl_34 : gg_U R_Mdl 34 3 8 .int := ⟨R_Mdl, T_Mdl, 14, t_Mdl, rfl, by decide, i_Mdl, k_369, t_Mdl_ok, n_Mdl, rfl, t_Mdl_ok 8 (by decide)⟩
theorem f_Mdl_46 : gg_F R_Mdl 46 3 9 := ⟨R_Mdl, T_Mdl, 14, rfl, by decide, i_Mdl, k_370⟩
theorem u_Mdl_46 : gg_U R_Mdl 46 3 9 .int := ⟨R_Mdl, T_Mdl, 14, t_Mdl, rfl, by decide, i_Mdl, k_370, t_Mdl_ok, n_Mdl, rfl, t_Mdl_ok 9 (by decide)⟩
theorem f_Mdl_64 : gg_F R_Mdl 64 3 10 := ⟨R_Mdl, T_Mdl, 14, rfl, by decide, i_Mdl, k_371⟩
theorem u_Mdl_64 : gg_U R_Mdl 64 3 10 .int := ⟨R_Mdl, T_Mdl, 14, t_Mdl, rfl, by decide, i_Mdl, k_371, t_Mdl_ok, n_Mdl, rfl, t_Mdl_ok 10 (by decide)⟩
theorem f_Mdl_75 : gg_F R_Mdl 75 3 13 := ⟨R_Mdl, T_Mdl, 14, rfl, by decide, i_Mdl, k_374⟩
theorem u_Mdl_75 : gg_U R_Mdl 75 3 13 .long := ⟨R_Mdl, T_Mdl, 14, t_Mdl, rfl, by decide, i_Mdl, k_374, t_Mdl_ok, n_Mdl, rfl, t_Mdl_ok 13 (by decide)⟩
theorem f_Mdl_85 : gg_F R_Mdl 85 3 12 := ⟨R_Mdl, T_Mdl, 14, rfl, by decide, i_Mdl, k_373⟩
theorem u_Mdl_85 : gg_U R_Mdl 85 3 12 .int := ⟨R_Mdl, T_Mdl, 14, t_Mdl, rfl, by decide, i_Mdl, k_373, t_Mdl_ok, n_Mdl, rfl, t_Mdl_ok 12 (by decide)⟩
theorem f_Mdl_88 : gg_F R_Mdl 88 3 11 := ⟨R_Mdl, T_Mdl, 14, rfl, by decide, i_Mdl, k_372⟩
theorem u_Mdl_88 : gg_U R_Mdl 88 3 11 .int := ⟨R_Mdl, T_Mdl, 14, t_Mdl, rfl, by decide, i_Mdl, k_372, t_Mdl_ok, n_Mdl, rfl, t_Mdl_ok 11 (by decide)⟩
theorem m_Dsk_38 : gg_MV R_Dsk 38 y_Row_hasRoomFor b_Row_hasRoomFor 2 (some .boolean) 1 := ⟨k_72, k_69, k_2, ⟨by decide, by decide, by decide +kernel⟩, by decide, k_70, k_71⟩
theorem m_Dsk_42 : gg_MV R_Dsk 42 y_Dsk_addFourBytes b_Dsk_addFourBytes 3 none 1 := ⟨k_76, k_73, k_1, ⟨by decide, by decide, by decide +kernel⟩, by decide, k_75, z_0⟩
theorem m_Dsk_45 : gg_MV R_Dsk 45 y_Row_length b_Row_length 1 (some .int) 0 := ⟨k_84, k_81, k_2, ⟨by decide, by decide, by decide +kernel⟩, by decide, k_82, k_83⟩
theorem m_Dsk_49 : gg_MV R_Dsk 49 y_Row_add b_Row_add 2 none 1 := ⟨k_80, k_77, k_2, ⟨by decide, by decide, by decide +kernel⟩, by decide, k_78, k_79⟩
theorem m_Dsk_52 : gg_MV R_Dsk 52 y_Row_resize b_Row_resize 3 none 1 := ⟨k_92, k_89, k_2, ⟨by decide, by decide, by decide +kernel⟩, by decide, k_90, k_91⟩
theorem m_Dsk_55 : gg_MV R_Dsk 55 y_Row_clear b_Row_clear 1 none 0 := ⟨k_100, k_97, k_2, ⟨by decide, by decide, by decide +kernel⟩, by decide, k_98, k_99⟩
theorem m_Dsk_58 : gg_MS R_Dsk 58 y_Sig_writeGroup b_Sig_writeGroup 8 none 5 := ⟨k_103, k_101, k_5, ⟨by decide, by decide, by decide +kernel⟩, by decide, k_102⟩
theorem m_Dsk_64 : gg_MS R_Dsk 64 y_Sig_leading b_Sig_leading 3 (some .int) 2 := ⟨k_122, k_120, k_5, ⟨by decide, by decide, by decide +kernel⟩, by decide, k_121⟩
theorem m_Dsk_68 : gg_MS R_Dsk 68 y_Sig_mayEnd b_Sig_mayEnd 4 (some .boolean) 2 := ⟨k_128, k_126, k_5, ⟨by decide, by decide, by decide +kernel⟩, by decide, k_127⟩
theorem m_Dsk_72 : gg_MS R_Dsk 72 y_Sig_readAll b_Sig_readAll 7 none 4 := ⟨k_131, k_129, k_5, ⟨by decide, by decide, by decide +kernel⟩, by decide, k_130⟩
theorem m_Dsk_80 : gg_MV R_Dsk 80 y_Row_at b_Row_at 2 (some .int) 1 := ⟨k_111, k_138, k_2, ⟨by decide, by decide, by decide +kernel⟩, by decide, k_109, k_110⟩
theorem m_Dsk_84 : gg_MS R_Dsk 84 y_Dsk_checkedWith b_Dsk_checkedWith 7 (some .long) 2 := ⟨k_141, k_139, k_1, ⟨by decide, by decide, by decide +kernel⟩, by decide, k_140⟩
theorem m_Dsk_90 : gg_MS R_Dsk 90 y_Dsk_cuts b_Dsk_cuts 1 (some .boolean) 1 := ⟨k_149, k_147, k_1, ⟨by decide, by decide, by decide +kernel⟩, by decide, k_148⟩
theorem m_Dsk_93 : gg_MV R_Dsk 93 y_Wrd_cut b_Wrd_cut 9 none 5 := ⟨k_153, k_150, k_3, ⟨by decide, by decide, by decide +kernel⟩, by decide, k_151, k_152⟩
theorem m_Dsk_97 : gg_MV R_Dsk 97 y_Wrd_howMany b_Wrd_howMany 1 (some .int) 0 := ⟨k_169, k_166, k_3, ⟨by decide, by decide, by decide +kernel⟩, by decide, k_167, k_168⟩
theorem m_Dsk_100 : gg_MV R_Dsk 100 y_Wrd_copyWord b_Wrd_copyWord 3 none 2 := ⟨k_177, k_174, k_3, ⟨by decide, by decide, by decide +kernel⟩, by decide, k_175, k_176⟩
theorem m_Dsk_104 : gg_MV R_Dsk 104 y_Row_has b_Row_has 2 (some .boolean) 1 := ⟨k_192, k_189, k_2, ⟨by decide, by decide, by decide +kernel⟩, by decide, k_190, k_191⟩
theorem m_Dsk_113 : gg_MV R_Dsk 113 y_Row_lastUpTo b_Row_lastUpTo 4 (some .int) 2 := ⟨k_219, k_216, k_2, ⟨by decide, by decide, by decide +kernel⟩, by decide, k_217, k_218⟩
theorem m_Dsk_117 : gg_MV R_Dsk 117 y_Row_addAt b_Row_addAt 3 none 2 := ⟨k_227, k_224, k_2, ⟨by decide, by decide, by decide +kernel⟩, by decide, k_225, k_226⟩
theorem m_Dsk_121 : gg_MV R_Dsk 121 y_Row_dropAt b_Row_dropAt 2 none 1 := ⟨k_235, k_232, k_2, ⟨by decide, by decide, by decide +kernel⟩, by decide, k_233, k_234⟩
theorem m_Dsk_124 : gg_MV R_Dsk 124 y_Row_put b_Row_put 3 none 2 := ⟨k_243, k_240, k_2, ⟨by decide, by decide, by decide +kernel⟩, by decide, k_241, k_242⟩
theorem m_Dsk_127 : gg_MV R_Dsk 127 y_Row_firstFrom b_Row_firstFrom 4 (some .int) 2 := ⟨k_255, k_252, k_2, ⟨by decide, by decide, by decide +kernel⟩, by decide, k_253, k_254⟩
theorem m_Dsk_130 : gg_MV R_Dsk 130 y_Row_reverse b_Row_reverse 5 none 2 := ⟨k_267, k_264, k_2, ⟨by decide, by decide, by decide +kernel⟩, by decide, k_265, k_266⟩
theorem m_Dsk_133 : gg_MV R_Dsk 133 y_Row_rotate b_Row_rotate 3 none 1 := ⟨k_275, k_272, k_2, ⟨by decide, by decide, by decide +kernel⟩, by decide, k_273, k_274⟩
theorem m_Dsk_136 : gg_MV R_Dsk 136 y_Row_fill b_Row_fill 2 none 1 := ⟨k_283, k_280, k_2, ⟨by decide, by decide, by decide +kernel⟩, by decide, k_281, k_282⟩
theorem m_Dsk_139 : gg_MV R_Dsk 139 y_Row_addPart b_Row_addPart 4 none 3 := ⟨k_181, k_290, k_2, ⟨by decide, by decide, by decide +kernel⟩, by decide, k_179, k_180⟩
theorem m_Dsk_143 : gg_MV R_Dsk 143 y_Row_exchange b_Row_exchange 4 none 2 := ⟨k_271, k_295, k_2, ⟨by decide, by decide, by decide +kernel⟩, by decide, k_269, k_270⟩
theorem m_Dsk_146 : gg_MV R_Dsk 146 y_Row_greatest b_Row_greatest 3 (some .int) 0 := ⟨k_303, k_300, k_2, ⟨by decide, by decide, by decide +kernel⟩, by decide, k_301, k_302⟩
theorem m_Dsk_149 : gg_MV R_Dsk 149 y_Row_least b_Row_least 3 (some .int) 0 := ⟨k_311, k_308, k_2, ⟨by decide, by decide, by decide +kernel⟩, by decide, k_309, k_310⟩
theorem m_Dsk_152 : gg_MV R_Dsk 152 y_Row_howOften b_Row_howOften 4 (some .int) 1 := ⟨k_317, k_314, k_2, ⟨by decide, by decide, by decide +kernel⟩, by decide, k_315, k_316⟩
theorem m_Dsk_155 : gg_MV R_Dsk 155 y_Row_sharesWith b_Row_sharesWith 3 (some .boolean) 1 := ⟨k_321, k_318, k_2, ⟨by decide, by decide, by decide +kernel⟩, by decide, k_319, k_320⟩
theorem m_Dsk_159 : gg_MV R_Dsk 159 y_Row_firstPlaceOfAll b_Row_firstPlaceOfAll 3 (some .int) 1 := ⟨k_326, k_323, k_2, ⟨by decide, by decide, by decide +kernel⟩, by decide, k_324, k_325⟩
theorem m_Dsk_163 : gg_MV R_Dsk 163 y_Row_lastPlaceOfAll b_Row_lastPlaceOfAll 3 (some .int) 1 := ⟨k_334, k_331, k_2, ⟨by decide, by decide, by decide +kernel⟩, by decide, k_332, k_333⟩
theorem m_Dsk_166 : gg_MV R_Dsk 166 y_Row_rises b_Row_rises 2 (some .boolean) 0 := ⟨k_346, k_343, k_2, ⟨by decide, by decide, by decide +kernel⟩, by decide, k_344, k_345⟩
theorem m_Dsk_170 : gg_MV R_Dsk 170 y_Row_firstNotBelow b_Row_firstNotBelow 3 (some .int) 1 := ⟨k_350, k_347, k_2, ⟨by decide, by decide, by decide +kernel⟩, by decide, k_348, k_349⟩
theorem m_Row_23 : gg_MS R_Row 23 y_Arr_fill b_Arr_fill 5 none 4 := ⟨k_286, k_284, k_8, ⟨by decide, by decide, by decide +kernel⟩, by decide, k_285⟩
theorem m_Row_29 : gg_MV R_Row 29 y_Row_exchange b_Row_exchange 4 none 2 := ⟨k_271, k_268, k_2, ⟨by decide, by decide, by decide +kernel⟩, by decide, k_269, k_270⟩
theorem m_Row_33 : gg_MS R_Row 33 y_Mth_floorMod b_Mth_floorMod 3 (some .int) 2 := ⟨k_278, k_276, k_6, ⟨by decide, by decide, by decide +kernel⟩, by decide, k_277⟩
theorem m_Row_39 : gg_MV R_Row 39 y_Row_reverse b_Row_reverse 5 none 2 := ⟨k_267, k_279, k_2, ⟨by decide, by decide, by decide +kernel⟩, by decide, k_265, k_266⟩
theorem m_Row_45 : gg_MS R_Row 45 y_Mth_max b_Mth_max 2 (some .int) 2 := ⟨k_307, k_305, k_6, ⟨by decide, by decide, by decide +kernel⟩, by decide, k_306⟩
theorem m_Row_49 : gg_MS R_Row 49 y_Mth_min b_Mth_min 2 (some .int) 2 := ⟨k_107, k_313, k_6, ⟨by decide, by decide, by decide +kernel⟩, by decide, k_106⟩
theorem m_Row_52 : gg_MV R_Row 52 y_Row_firstFrom b_Row_firstFrom 4 (some .int) 2 := ⟨k_255, k_322, k_2, ⟨by decide, by decide, by decide +kernel⟩, by decide, k_253, k_254⟩
theorem m_Row_55 : gg_MV R_Row 55 y_Row_standsAt b_Row_standsAt 4 (some .boolean) 2 := ⟨k_330, k_327, k_2, ⟨by decide, by decide, by decide +kernel⟩, by decide, k_329, z_3⟩
theorem m_Sig_9 : gg_MV R_Sig 9 y_Row_length b_Row_length 1 (some .int) 0 := ⟨k_84, k_104, k_2, ⟨by decide, by decide, by decide +kernel⟩, by decide, k_82, k_83⟩
theorem m_Sig_15 : gg_MS R_Sig 15 y_Mth_min b_Mth_min 2 (some .int) 2 := ⟨k_107, k_105, k_6, ⟨by decide, by decide, by decide +kernel⟩, by decide, k_106⟩
theorem m_Sig_21 : gg_MV R_Sig 21 y_Row_at b_Row_at 2 (some .int) 1 := ⟨k_111, k_108, k_2, ⟨by decide, by decide, by decide +kernel⟩, by decide, k_109, k_110⟩
theorem m_Sig_25 : gg_MS R_Sig 25 y_Sig_signOf b_Sig_signOf 2 (some .int) 2 := ⟨k_114, k_112, k_5, ⟨by decide, by decide, by decide +kernel⟩, by decide, k_113⟩
theorem m_Sig_29 : gg_MV R_Sig 29 y_Row_add b_Row_add 2 none 1 := ⟨k_80, k_115, k_2, ⟨by decide, by decide, by decide +kernel⟩, by decide, k_78, k_79⟩
theorem m_Sig_33 : gg_MS R_Sig 33 y_Sig_sixBitsOf b_Sig_sixBitsOf 2 (some .int) 2 := ⟨k_125, k_123, k_5, ⟨by decide, by decide, by decide +kernel⟩, by decide, k_124⟩
theorem m_Wrd_21 : gg_MV R_Wrd 21 y_Row_length b_Row_length 1 (some .int) 0 := ⟨k_84, k_155, k_2, ⟨by decide, by decide, by decide +kernel⟩, by decide, k_82, k_83⟩
theorem m_Wrd_25 : gg_MV R_Wrd 25 y_Row_clear b_Row_clear 1 none 0 := ⟨k_100, k_154, k_2, ⟨by decide, by decide, by decide +kernel⟩, by decide, k_98, k_99⟩
theorem m_Wrd_28 : gg_MV R_Wrd 28 y_Row_at b_Row_at 2 (some .int) 1 := ⟨k_111, k_156, k_2, ⟨by decide, by decide, by decide +kernel⟩, by decide, k_109, k_110⟩
theorem m_Wrd_32 : gg_MV R_Wrd 32 y_Wrd_closeWord b_Wrd_closeWord 1 none 0 := ⟨k_160, k_157, k_3, ⟨by decide, by decide, by decide +kernel⟩, by decide, k_159, z_1⟩
theorem m_Wrd_35 : gg_MV R_Wrd 35 y_Row_add b_Row_add 2 none 1 := ⟨k_80, k_165, k_2, ⟨by decide, by decide, by decide +kernel⟩, by decide, k_78, k_79⟩
theorem m_Wrd_38 : gg_MV R_Wrd 38 y_Wrd_startOf b_Wrd_startOf 2 (some .int) 1 := ⟨k_164, k_161, k_3, ⟨by decide, by decide, by decide +kernel⟩, by decide, k_163, z_2⟩
theorem m_Wrd_41 : gg_MV R_Wrd 41 y_Row_addPart b_Row_addPart 4 none 3 := ⟨k_181, k_178, k_2, ⟨by decide, by decide, by decide +kernel⟩, by decide, k_179, k_180⟩
theorem m_Law_13 : gg_MV R_Law 13 y_Dsk_feed b_Dsk_feed 6 (some .int) 5 := ⟨k_68, k_65, k_1, ⟨by decide, by decide, by decide +kernel⟩, by decide, k_66, k_67⟩
theorem m_Law_17 : gg_MV R_Law 17 y_Mdl_feed b_Mdl_feed 6 (some .int) 5 := ⟨k_407, k_404, k_4, ⟨by decide, by decide, by decide +kernel⟩, by decide, k_405, k_406⟩
theorem m_Law_18 : gg_MV R_Law 18 y_Dsk_end b_Dsk_end 2 (some .int) 1 := ⟨k_88, k_85, k_1, ⟨by decide, by decide, by decide +kernel⟩, by decide, k_86, k_87⟩
theorem m_Law_22 : gg_MV R_Law 22 y_Mdl_end b_Mdl_end 2 (some .int) 1 := ⟨k_415, k_412, k_4, ⟨by decide, by decide, by decide +kernel⟩, by decide, k_413, k_414⟩
theorem m_Law_23 : gg_MV R_Law 23 y_Dsk_write b_Dsk_write 4 (some .int) 2 := ⟨k_96, k_93, k_1, ⟨by decide, by decide, by decide +kernel⟩, by decide, k_94, k_95⟩
theorem m_Law_27 : gg_MV R_Law 27 y_Mdl_write b_Mdl_write 6 (some .int) 2 := ⟨k_419, k_416, k_4, ⟨by decide, by decide, by decide +kernel⟩, by decide, k_417, k_418⟩
theorem m_Law_28 : gg_MV R_Law 28 y_Dsk_read b_Dsk_read 3 (some .int) 1 := ⟨k_119, k_116, k_1, ⟨by decide, by decide, by decide +kernel⟩, by decide, k_117, k_118⟩
theorem m_Law_32 : gg_MV R_Law 32 y_Mdl_read b_Mdl_read 9 (some .int) 1 := ⟨k_430, k_427, k_4, ⟨by decide, by decide, by decide +kernel⟩, by decide, k_428, k_429⟩
theorem m_Law_33 : gg_MV R_Law 33 y_Dsk_check b_Dsk_check 6 (some .long) 2 := ⟨k_135, k_132, k_1, ⟨by decide, by decide, by decide +kernel⟩, by decide, k_133, k_134⟩
theorem m_Law_37 : gg_MV R_Law 37 y_Mdl_check b_Mdl_check 8 (some .long) 2 := ⟨k_437, k_434, k_4, ⟨by decide, by decide, by decide +kernel⟩, by decide, k_435, k_436⟩
theorem m_Law_38 : gg_MV R_Law 38 y_Dsk_words b_Dsk_words 5 (some .int) 4 := ⟨k_146, k_143, k_1, ⟨by decide, by decide, by decide +kernel⟩, by decide, k_144, k_145⟩
theorem m_Law_42 : gg_MV R_Law 42 y_Mdl_words b_Mdl_words 8 (some .int) 4 := ⟨k_445, k_442, k_4, ⟨by decide, by decide, by decide +kernel⟩, by decide, k_443, k_444⟩
theorem m_Law_43 : gg_MV R_Law 43 y_Dsk_word b_Dsk_word 2 (some .int) 1 := ⟨k_173, k_170, k_1, ⟨by decide, by decide, by decide +kernel⟩, by decide, k_171, k_172⟩
theorem m_Law_46 : gg_MV R_Law 46 y_Mdl_word2 b_Mdl_word2 3 (some .int) 1 := ⟨k_456, k_453, k_4, ⟨by decide, by decide, by decide +kernel⟩, by decide, k_454, k_455⟩
theorem m_Law_47 : gg_MV R_Law 47 y_Dsk_octet b_Dsk_octet 2 (some .int) 1 := ⟨k_188, k_185, k_1, ⟨by decide, by decide, by decide +kernel⟩, by decide, k_186, k_187⟩
theorem m_Law_50 : gg_MV R_Law 50 y_Mdl_octet b_Mdl_octet 2 (some .int) 1 := ⟨k_460, k_457, k_4, ⟨by decide, by decide, by decide +kernel⟩, by decide, k_458, k_459⟩
theorem m_Law_53 : gg_MV R_Law 53 y_Dsk_seed b_Dsk_seed 5 (some .long) 1 := ⟨k_196, k_193, k_1, ⟨by decide, by decide, by decide +kernel⟩, by decide, k_194, k_195⟩
theorem m_Law_57 : gg_MV R_Law 57 y_Mdl_seed b_Mdl_seed 5 (some .long) 1 := ⟨k_464, k_461, k_4, ⟨by decide, by decide, by decide +kernel⟩, by decide, k_462, k_463⟩
theorem m_Law_58 : gg_MV R_Law 58 y_Dsk_draw b_Dsk_draw 3 (some .long) 0 := ⟨k_200, k_197, k_1, ⟨by decide, by decide, by decide +kernel⟩, by decide, k_198, k_199⟩
theorem m_Law_62 : gg_MV R_Law 62 y_Mdl_draw b_Mdl_draw 3 (some .long) 0 := ⟨k_468, k_465, k_4, ⟨by decide, by decide, by decide +kernel⟩, by decide, k_466, k_467⟩
theorem m_Law_63 : gg_MV R_Law 63 y_Dsk_push b_Dsk_push 2 (some .int) 1 := ⟨k_207, k_204, k_1, ⟨by decide, by decide, by decide +kernel⟩, by decide, k_205, k_206⟩
theorem m_Law_66 : gg_MV R_Law 66 y_Mdl_push b_Mdl_push 2 (some .int) 1 := ⟨k_475, k_472, k_4, ⟨by decide, by decide, by decide +kernel⟩, by decide, k_473, k_474⟩
theorem m_Law_67 : gg_MV R_Law 67 y_Dsk_pop b_Dsk_pop 4 (some .long) 1 := ⟨k_211, k_208, k_1, ⟨by decide, by decide, by decide +kernel⟩, by decide, k_209, k_210⟩
theorem m_Law_71 : gg_MV R_Law 71 y_Mdl_pop b_Mdl_pop 2 (some .long) 1 := ⟨k_479, k_476, k_4, ⟨by decide, by decide, by decide +kernel⟩, by decide, k_477, k_478⟩
theorem m_Law_72 : gg_MV R_Law 72 y_Dsk_search b_Dsk_search 3 (some .int) 1 := ⟨k_215, k_212, k_1, ⟨by decide, by decide, by decide +kernel⟩, by decide, k_213, k_214⟩
theorem m_Law_75 : gg_MV R_Law 75 y_Mdl_search b_Mdl_search 4 (some .int) 1 := ⟨k_483, k_480, k_4, ⟨by decide, by decide, by decide +kernel⟩, by decide, k_481, k_482⟩
theorem m_Law_76 : gg_MV R_Law 76 y_Dsk_insert b_Dsk_insert 3 (some .int) 2 := ⟨k_223, k_220, k_1, ⟨by decide, by decide, by decide +kernel⟩, by decide, k_221, k_222⟩
theorem m_Law_80 : gg_MV R_Law 80 y_Mdl_insert b_Mdl_insert 4 (some .int) 2 := ⟨k_487, k_484, k_4, ⟨by decide, by decide, by decide +kernel⟩, by decide, k_485, k_486⟩
theorem m_Law_81 : gg_MV R_Law 81 y_Dsk_remove b_Dsk_remove 3 (some .long) 1 := ⟨k_231, k_228, k_1, ⟨by decide, by decide, by decide +kernel⟩, by decide, k_229, k_230⟩
theorem m_Law_85 : gg_MV R_Law 85 y_Mdl_remove b_Mdl_remove 4 (some .long) 1 := ⟨k_491, k_488, k_4, ⟨by decide, by decide, by decide +kernel⟩, by decide, k_489, k_490⟩
theorem m_Law_86 : gg_MV R_Law 86 y_Dsk_set b_Dsk_set 4 (some .long) 2 := ⟨k_239, k_236, k_1, ⟨by decide, by decide, by decide +kernel⟩, by decide, k_237, k_238⟩
theorem m_Law_89 : gg_MV R_Law 89 y_Mdl_set b_Mdl_set 4 (some .long) 2 := ⟨k_499, k_496, k_4, ⟨by decide, by decide, by decide +kernel⟩, by decide, k_497, k_498⟩
theorem m_Law_90 : gg_MV R_Law 90 y_Dsk_get b_Dsk_get 2 (some .long) 1 := ⟨k_247, k_244, k_1, ⟨by decide, by decide, by decide +kernel⟩, by decide, k_245, k_246⟩
theorem m_Law_93 : gg_MV R_Law 93 y_Mdl_get b_Mdl_get 2 (some .long) 1 := ⟨k_503, k_500, k_4, ⟨by decide, by decide, by decide +kernel⟩, by decide, k_501, k_502⟩
theorem m_Law_94 : gg_MV R_Law 94 y_Dsk_find b_Dsk_find 5 (some .int) 3 := ⟨k_251, k_248, k_1, ⟨by decide, by decide, by decide +kernel⟩, by decide, k_249, k_250⟩
theorem m_Law_98 : gg_MV R_Law 98 y_Mdl_find b_Mdl_find 6 (some .int) 3 := ⟨k_507, k_504, k_4, ⟨by decide, by decide, by decide +kernel⟩, by decide, k_505, k_506⟩
theorem m_Law_99 : gg_MV R_Law 99 y_Dsk_size b_Dsk_size 2 (some .int) 1 := ⟨k_259, k_256, k_1, ⟨by decide, by decide, by decide +kernel⟩, by decide, k_257, k_258⟩
theorem m_Law_102 : gg_MV R_Law 102 y_Mdl_size b_Mdl_size 2 (some .int) 1 := ⟨k_511, k_508, k_4, ⟨by decide, by decide, by decide +kernel⟩, by decide, k_509, k_510⟩
theorem m_Law_103 : gg_MV R_Law 103 y_Dsk_turn b_Dsk_turn 3 (some .int) 2 := ⟨k_263, k_260, k_1, ⟨by decide, by decide, by decide +kernel⟩, by decide, k_261, k_262⟩
theorem m_Law_106 : gg_MV R_Law 106 y_Mdl_turn b_Mdl_turn 4 (some .int) 2 := ⟨k_515, k_512, k_4, ⟨by decide, by decide, by decide +kernel⟩, by decide, k_513, k_514⟩
theorem m_Law_107 : gg_MV R_Law 107 y_Dsk_swap b_Dsk_swap 3 (some .int) 2 := ⟨k_294, k_291, k_1, ⟨by decide, by decide, by decide +kernel⟩, by decide, k_292, k_293⟩
theorem m_Law_110 : gg_MV R_Law 110 y_Mdl_swap b_Mdl_swap 4 (some .int) 2 := ⟨k_523, k_520, k_4, ⟨by decide, by decide, by decide +kernel⟩, by decide, k_521, k_522⟩
theorem m_Law_111 : gg_MV R_Law 111 y_Dsk_tell b_Dsk_tell 3 (some .long) 2 := ⟨k_299, k_296, k_1, ⟨by decide, by decide, by decide +kernel⟩, by decide, k_297, k_298⟩
theorem m_Law_114 : gg_MV R_Law 114 y_Mdl_tell b_Mdl_tell 5 (some .long) 2 := ⟨k_527, k_524, k_4, ⟨by decide, by decide, by decide +kernel⟩, by decide, k_525, k_526⟩
theorem m_Law_115 : gg_MV R_Law 115 y_Dsk_replace b_Dsk_replace 5 (some .int) 2 := ⟨k_338, k_335, k_1, ⟨by decide, by decide, by decide +kernel⟩, by decide, k_336, k_337⟩
theorem m_Law_118 : gg_MV R_Law 118 y_Mdl_replace b_Mdl_replace 5 (some .int) 2 := ⟨k_539, k_536, k_4, ⟨by decide, by decide, by decide +kernel⟩, by decide, k_537, k_538⟩
theorem m_Law_119 : gg_MV R_Law 119 y_Dsk_seek b_Dsk_seek 4 (some .int) 1 := ⟨k_342, k_339, k_1, ⟨by decide, by decide, by decide +kernel⟩, by decide, k_340, k_341⟩
theorem m_Law_122 : gg_MV R_Law 122 y_Mdl_seek b_Mdl_seek 4 (some .int) 1 := ⟨k_543, k_540, k_4, ⟨by decide, by decide, by decide +kernel⟩, by decide, k_541, k_542⟩
theorem m_Law_123 : gg_MV R_Law 123 y_Dsk_count b_Dsk_count 2 (some .int) 1 := ⟨k_354, k_351, k_1, ⟨by decide, by decide, by decide +kernel⟩, by decide, k_352, k_353⟩
theorem m_Law_126 : gg_MV R_Law 126 y_Mdl_count b_Mdl_count 2 (some .int) 1 := ⟨k_547, k_544, k_4, ⟨by decide, by decide, by decide +kernel⟩, by decide, k_545, k_546⟩
theorem m_Mdl_38 : gg_MV R_Mdl 38 y_Mdl_four b_Mdl_four 4 none 1 := ⟨k_411, k_408, k_4, ⟨by decide, by decide, by decide +kernel⟩, by decide, k_410, z_4⟩
theorem m_Mdl_42 : gg_MS R_Mdl 42 y_Mdl_sign b_Mdl_sign 2 (some .int) 2 := ⟨k_426, k_424, k_4, ⟨by decide, by decide, by decide +kernel⟩, by decide, k_425⟩
theorem m_Mdl_49 : gg_MV R_Mdl 49 y_Mdl_bit b_Mdl_bit 3 (some .int) 1 := ⟨k_423, k_420, k_4, ⟨by decide, by decide, by decide +kernel⟩, by decide, k_422, z_5⟩
theorem m_Mdl_53 : gg_MS R_Mdl 53 y_Mdl_which b_Mdl_which 3 (some .int) 2 := ⟨k_433, k_431, k_4, ⟨by decide, by decide, by decide +kernel⟩, by decide, k_432⟩
theorem m_Mdl_67 : gg_MS R_Mdl 67 y_Mdl_noSign b_Mdl_noSign 1 (some .boolean) 1 := ⟨k_448, k_446, k_4, ⟨by decide, by decide, by decide +kernel⟩, by decide, k_447⟩
theorem m_Mdl_71 : gg_MV R_Mdl 71 y_Mdl_word b_Mdl_word 3 none 2 := ⟨k_452, k_449, k_4, ⟨by decide, by decide, by decide +kernel⟩, by decide, k_451, z_6⟩
theorem m_Mdl_91 : gg_MV R_Mdl 91 y_Mdl_none b_Mdl_none 2 (some .boolean) 1 := ⟨k_495, k_492, k_4, ⟨by decide, by decide, by decide +kernel⟩, by decide, k_494, z_7⟩
theorem m_Mdl_94 : gg_MV R_Mdl 94 y_Mdl_on b_Mdl_on 5 (some .int) 2 := ⟨k_519, k_516, k_4, ⟨by decide, by decide, by decide +kernel⟩, by decide, k_518, z_8⟩
theorem m_Mdl_98 : gg_MV R_Mdl 98 y_Mdl_often b_Mdl_often 4 (some .int) 1 := ⟨k_531, k_528, k_4, ⟨by decide, by decide, by decide +kernel⟩, by decide, k_530, z_9⟩
theorem m_Mdl_101 : gg_MV R_Mdl 101 y_Mdl_stands b_Mdl_stands 3 (some .boolean) 1 := ⟨k_535, k_532, k_4, ⟨by decide, by decide, by decide +kernel⟩, by decide, k_534, z_10⟩
theorem m_Arr_13 : gg_MS R_Arr 13 y_Arr_rangeCheck b_Arr_rangeCheck 3 none 3 := ⟨k_289, k_287, k_8, ⟨by decide, by decide, by decide +kernel⟩, by decide, k_288⟩
