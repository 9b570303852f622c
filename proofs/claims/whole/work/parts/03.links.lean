theorem obT_1 : Cond.methodLink "TwoSlots" 1 Lib.objectInit ∈ lw_tg := tb_32
theorem nwT_7 : Nok "TwoSlots" 7 0 [.null, .int 0] := ⟨_, _, _, tR, rfl, tb_35, tb_36, tb_22, tyR, by decide +kernel, rfl⟩
theorem clT_11 : CokI "TwoSlots" 11 mtR_init 1 := ⟨⟨tb_37, tb_22, tb_39, by decide +kernel, by decide⟩, rfl, rfl, tb_38⟩
theorem fT_14 : Fok "TwoSlots" 14 3 0 (.object "TwoSlots$Row") true := ⟨_, _, _, rfl, by decide, tb_110, by decide +kernel, rfl, fun _ => rfl⟩
theorem anT_7 : Cond.classLink "TwoSlots" 7 "TwoSlots$Row" ∈ lw_tg := tb_35
theorem fT_18 : Fok "TwoSlots" 18 3 1 (.array (.object "TwoSlots$Row")) true := ⟨_, _, _, rfl, by decide, tb_111, by decide +kernel, rfl, fun _ => rfl⟩
theorem fT_22 : Fok "TwoSlots" 22 3 2 (.int) false := ⟨_, _, _, rfl, by decide, tb_112, by decide +kernel, rfl, fun _ => rfl⟩
theorem nwT_26 : Nok "TwoSlots" 26 1 [.null, .int 0] := ⟨_, _, _, tP, rfl, tb_50, tb_51, tb_23, tyP, by decide +kernel, rfl⟩
theorem clT_28 : CokI "TwoSlots" 28 mtP_init 0 := ⟨⟨tb_52, tb_23, tb_54, by decide +kernel, by decide⟩, rfl, rfl, tb_53⟩
theorem fT_29 : Fok "TwoSlots" 29 3 3 (.object "TwoSlots$Patch") true := ⟨_, _, _, rfl, by decide, tb_113, by decide +kernel, rfl, fun _ => rfl⟩
theorem fT_33 : Fok "TwoSlots" 33 3 4 (.int) false := ⟨_, _, _, rfl, by decide, tb_114, by decide +kernel, rfl, fun _ => rfl⟩
theorem fT_36 : Fok "TwoSlots" 36 3 5 (.int) false := ⟨_, _, _, rfl, by decide, tb_115, by decide +kernel, rfl, fun _ => rfl⟩
theorem nwT_39 : Nok "TwoSlots" 39 2 [.null, .null, .null, .int 0, .int 0, .int 0, .int 0, .null, .null, .int 0, .int 0] := ⟨_, _, _, tD, rfl, tb_65, tb_66, tb_24, tyD, by decide +kernel, rfl⟩
theorem clT_41 : CokI "TwoSlots" 41 mtD_init 1 := ⟨⟨tb_67, tb_24, tb_69, by decide +kernel, by decide⟩, rfl, rfl, tb_68⟩
theorem fT_44 : Fok "TwoSlots" 44 3 6 (.object "TwoSlots$Device") true := ⟨_, _, _, rfl, by decide, tb_116, by decide +kernel, rfl, fun _ => rfl⟩
theorem clT_48 : CokS "TwoSlots" 48 mtT_isByte 1 := ⟨⟨tb_136, tb_21, tb_138, by decide +kernel, by decide⟩, tb_137⟩
theorem clT_52 : CokV "TwoSlots" 52 mtR_length 0 := ⟨⟨tb_139, tb_22, tb_142, by decide +kernel, by decide⟩, tb_140, tb_141⟩
theorem clT_56 : CokV "TwoSlots" 56 mtR_append 1 := ⟨⟨tb_143, tb_22, tb_146, by decide +kernel, by decide⟩, tb_144, tb_145⟩
theorem clT_59 : CokV "TwoSlots" 59 mtT_isVersion 1 := ⟨⟨tb_151, tb_21, tb_154, by decide +kernel, by decide⟩, tb_153, tb_0⟩
theorem clT_62 : CokV "TwoSlots" 62 mtR_appendFrom 3 := ⟨⟨tb_155, tb_22, tb_158, by decide +kernel, by decide⟩, tb_156, tb_157⟩
theorem clT_66 : CokV "TwoSlots" 66 mtR_empty 0 := ⟨⟨tb_172, tb_22, tb_175, by decide +kernel, by decide⟩, tb_173, tb_174⟩
theorem clT_69 : CokV "TwoSlots" 69 mtT_findPatch 2 := ⟨⟨tb_180, tb_21, tb_183, by decide +kernel, by decide⟩, tb_182, tb_1⟩
theorem clT_73 : CokV "TwoSlots" 73 mtP_length 0 := ⟨⟨tb_210, tb_23, tb_213, by decide +kernel, by decide⟩, tb_211, tb_212⟩
theorem clT_74 : CokV "TwoSlots" 74 mtP_has 1 := ⟨⟨tb_218, tb_23, tb_221, by decide +kernel, by decide⟩, tb_219, tb_220⟩
theorem clT_77 : CokV "TwoSlots" 77 mtP_at 1 := ⟨⟨tb_223, tb_23, tb_226, by decide +kernel, by decide⟩, tb_224, tb_225⟩
theorem clT_81 : CokV "TwoSlots" 81 mtP_copied 0 := ⟨⟨tb_231, tb_23, tb_234, by decide +kernel, by decide⟩, tb_232, tb_233⟩
theorem clT_84 : CokV "TwoSlots" 84 mtD_isIn 1 := ⟨⟨tb_239, tb_24, tb_242, by decide +kernel, by decide⟩, tb_240, tb_241⟩
theorem clT_87 : CokV "TwoSlots" 87 mtD_beginUpdate 1 := ⟨⟨tb_243, tb_24, tb_246, by decide +kernel, by decide⟩, tb_244, tb_245⟩
theorem clT_90 : CokV "TwoSlots" 90 mtD_hasBlock 1 := ⟨⟨tb_256, tb_24, tb_259, by decide +kernel, by decide⟩, tb_257, tb_258⟩
theorem clT_93 : CokV "TwoSlots" 93 mtD_takeBlock 1 := ⟨⟨tb_264, tb_24, tb_267, by decide +kernel, by decide⟩, tb_265, tb_266⟩
theorem clT_96 : CokV "TwoSlots" 96 mtD_installPieces 1 := ⟨⟨tb_281, tb_24, tb_284, by decide +kernel, by decide⟩, tb_282, tb_283⟩
theorem clT_99 : CokV "TwoSlots" 99 mtD_start 0 := ⟨⟨tb_307, tb_24, tb_310, by decide +kernel, by decide⟩, tb_308, tb_309⟩
theorem clT_102 : CokV "TwoSlots" 102 mtD_keep 0 := ⟨⟨tb_327, tb_24, tb_330, by decide +kernel, by decide⟩, tb_328, tb_329⟩
theorem clT_105 : CokS "TwoSlots" 105 mtT_isSlot 1 := ⟨⟨tb_335, tb_21, tb_337, by decide +kernel, by decide⟩, tb_336⟩
theorem clT_108 : CokV "TwoSlots" 108 mtD_row 1 := ⟨⟨tb_338, tb_24, tb_341, by decide +kernel, by decide⟩, tb_339, tb_340⟩
theorem clT_112 : CokV "TwoSlots" 112 mtR_has 1 := ⟨⟨tb_342, tb_22, tb_166, by decide +kernel, by decide⟩, tb_164, tb_165⟩
theorem clT_113 : CokV "TwoSlots" 113 mtR_change 2 := ⟨⟨tb_343, tb_22, tb_346, by decide +kernel, by decide⟩, tb_344, tb_345⟩
theorem clT_117 : CokV "TwoSlots" 117 mtR_at 1 := ⟨⟨tb_351, tb_22, tb_162, by decide +kernel, by decide⟩, tb_160, tb_161⟩
theorem clT_118 : CokV "TwoSlots" 118 mtD_stateNow 0 := ⟨⟨tb_356, tb_24, tb_359, by decide +kernel, by decide⟩, tb_357, tb_358⟩
theorem clT_121 : CokV "TwoSlots" 121 mtD_runningSlot 0 := ⟨⟨tb_360, tb_24, tb_363, by decide +kernel, by decide⟩, tb_361, tb_362⟩
theorem clT_124 : CokV "TwoSlots" 124 mtD_triesNow 0 := ⟨⟨tb_364, tb_24, tb_367, by decide +kernel, by decide⟩, tb_365, tb_366⟩
theorem clT_127 : CokV "TwoSlots" 127 mtD_mark 1 := ⟨⟨tb_368, tb_24, tb_371, by decide +kernel, by decide⟩, tb_369, tb_370⟩
theorem clT_130 : CokV "TwoSlots" 130 mtD_updateVersion 0 := ⟨⟨tb_372, tb_24, tb_375, by decide +kernel, by decide⟩, tb_373, tb_374⟩
theorem clT_133 : CokV "TwoSlots" 133 mtD_blocksThere 0 := ⟨⟨tb_376, tb_24, tb_379, by decide +kernel, by decide⟩, tb_377, tb_378⟩
theorem clT_136 : CokV "TwoSlots" 136 mtD_isSound 1 := ⟨⟨tb_384, tb_24, tb_293, by decide +kernel, by decide⟩, tb_291, tb_292⟩
theorem clT_139 : CokV "TwoSlots" 139 mtP_make 2 := ⟨⟨tb_184, tb_23, tb_187, by decide +kernel, by decide⟩, tb_185, tb_186⟩
theorem obM_1 : Cond.methodLink "TwoSlotsModel" 1 Lib.objectInit ∈ lw_tg := tb_390
theorem fM_7 : Fok "TwoSlotsModel" 7 4 0 (.array .int) true := ⟨_, _, _, rfl, by decide, tb_391, by decide +kernel, rfl, fun _ => rfl⟩
theorem fM_13 : Fok "TwoSlotsModel" 13 4 1 (.array .int) true := ⟨_, _, _, rfl, by decide, tb_392, by decide +kernel, rfl, fun _ => rfl⟩
theorem fM_16 : Fok "TwoSlotsModel" 16 4 3 (.array .int) true := ⟨_, _, _, rfl, by decide, tb_394, by decide +kernel, rfl, fun _ => rfl⟩
theorem fM_19 : Fok "TwoSlotsModel" 19 4 5 (.array .int) true := ⟨_, _, _, rfl, by decide, tb_396, by decide +kernel, rfl, fun _ => rfl⟩
theorem fM_22 : Fok "TwoSlotsModel" 22 4 8 (.array .int) true := ⟨_, _, _, rfl, by decide, tb_399, by decide +kernel, rfl, fun _ => rfl⟩
theorem fM_25 : Fok "TwoSlotsModel" 25 4 9 (.array .int) true := ⟨_, _, _, rfl, by decide, tb_400, by decide +kernel, rfl, fun _ => rfl⟩
theorem fM_28 : Fok "TwoSlotsModel" 28 4 10 (.array .int) true := ⟨_, _, _, rfl, by decide, tb_401, by decide +kernel, rfl, fun _ => rfl⟩
theorem fM_31 : Fok "TwoSlotsModel" 31 4 15 (.array .boolean) true := ⟨_, _, _, rfl, by decide, tb_406, by decide +kernel, rfl, fun _ => rfl⟩
theorem clM_35 : CokS "TwoSlotsModel" 35 mtM_in 3 := ⟨⟨tb_450, tb_25, tb_452, by decide +kernel, by decide⟩, tb_451⟩
theorem fM_39 : Fok "TwoSlotsModel" 39 4 4 (.int) false := ⟨_, _, _, rfl, by decide, tb_395, by decide +kernel, rfl, fun _ => rfl⟩
theorem fM_43 : Fok "TwoSlotsModel" 43 4 2 (.int) false := ⟨_, _, _, rfl, by decide, tb_393, by decide +kernel, rfl, fun _ => rfl⟩
theorem fM_46 : Fok "TwoSlotsModel" 46 4 6 (.int) false := ⟨_, _, _, rfl, by decide, tb_397, by decide +kernel, rfl, fun _ => rfl⟩
theorem fM_49 : Fok "TwoSlotsModel" 49 4 7 (.int) false := ⟨_, _, _, rfl, by decide, tb_398, by decide +kernel, rfl, fun _ => rfl⟩
theorem clM_52 : CokV "TwoSlotsModel" 52 mtM_agree 4 := ⟨⟨tb_473, tb_25, tb_476, by decide +kernel, by decide⟩, tb_475, tb_12⟩
theorem clM_56 : CokV "TwoSlotsModel" 56 mtM_put 1 := ⟨⟨tb_477, tb_25, tb_480, by decide +kernel, by decide⟩, tb_479, tb_13⟩
theorem clM_60 : CokV "TwoSlotsModel" 60 mtM_pair 2 := ⟨⟨tb_465, tb_25, tb_468, by decide +kernel, by decide⟩, tb_467, tb_10⟩
theorem clM_64 : CokV "TwoSlotsModel" 64 mtM_make 2 := ⟨⟨tb_469, tb_25, tb_472, by decide +kernel, by decide⟩, tb_471, tb_11⟩
theorem fM_68 : Fok "TwoSlotsModel" 68 4 12 (.int) false := ⟨_, _, _, rfl, by decide, tb_403, by decide +kernel, rfl, fun _ => rfl⟩
theorem fM_71 : Fok "TwoSlotsModel" 71 4 11 (.int) false := ⟨_, _, _, rfl, by decide, tb_402, by decide +kernel, rfl, fun _ => rfl⟩
theorem fM_74 : Fok "TwoSlotsModel" 74 4 14 (.int) false := ⟨_, _, _, rfl, by decide, tb_405, by decide +kernel, rfl, fun _ => rfl⟩
theorem fM_77 : Fok "TwoSlotsModel" 77 4 16 (.int) false := ⟨_, _, _, rfl, by decide, tb_407, by decide +kernel, rfl, fun _ => rfl⟩
theorem fM_80 : Fok "TwoSlotsModel" 80 4 17 (.int) false := ⟨_, _, _, rfl, by decide, tb_408, by decide +kernel, rfl, fun _ => rfl⟩
theorem clM_83 : CokV "TwoSlotsModel" 83 mtM_underWay 0 := ⟨⟨tb_497, tb_25, tb_500, by decide +kernel, by decide⟩, tb_499, tb_14⟩
theorem clM_87 : CokV "TwoSlotsModel" 87 mtM_missing 0 := ⟨⟨tb_501, tb_25, tb_504, by decide +kernel, by decide⟩, tb_503, tb_15⟩
theorem clM_91 : CokV "TwoSlotsModel" 91 mtM_beginInstall 0 := ⟨⟨tb_505, tb_25, tb_508, by decide +kernel, by decide⟩, tb_507, tb_16⟩
theorem clM_94 : CokV "TwoSlotsModel" 94 mtM_grow 1 := ⟨⟨tb_517, tb_25, tb_520, by decide +kernel, by decide⟩, tb_519, tb_18⟩
theorem clM_97 : CokV "TwoSlotsModel" 97 mtM_sound 1 := ⟨⟨tb_521, tb_25, tb_524, by decide +kernel, by decide⟩, tb_522, tb_523⟩
theorem clM_101 : CokV "TwoSlotsModel" 101 mtM_piece 0 := ⟨⟨tb_513, tb_25, tb_516, by decide +kernel, by decide⟩, tb_515, tb_17⟩
theorem ldM_104 : Cond.constant "TwoSlotsModel" 104 65535 ∈ lw_tg := tb_529
theorem fM_105 : Fok "TwoSlotsModel" 105 4 13 (.int) false := ⟨_, _, _, rfl, by decide, tb_404, by decide +kernel, rfl, fun _ => rfl⟩
theorem clM_108 : CokV "TwoSlotsModel" 108 mtM_check 3 := ⟨⟨tb_525, tb_25, tb_528, by decide +kernel, by decide⟩, tb_527, tb_19⟩
theorem obD_3 : Cond.methodLink "TwoSlots$Device" 3 Lib.objectInit ∈ lw_tg := tb_70
theorem fD_9 : Fok "TwoSlots$Device" 9 2 0 (.array (.object "TwoSlots$Row")) true := ⟨_, _, _, rfl, by decide, tb_75, by decide +kernel, rfl, fun _ => rfl⟩
theorem anD_15 : Cond.classLink "TwoSlots$Device" 15 "TwoSlots$Row" ∈ lw_tg := tb_71
theorem nwD_15 : Nok "TwoSlots$Device" 15 0 [.null, .int 0] := ⟨_, _, _, tR, rfl, tb_71, tb_36, tb_22, tyR, by decide +kernel, rfl⟩
theorem clD_17 : CokI "TwoSlots$Device" 17 mtR_init 1 := ⟨⟨tb_72, tb_22, tb_39, by decide +kernel, by decide⟩, rfl, rfl, tb_38⟩
theorem fD_20 : Fok "TwoSlots$Device" 20 2 1 (.array (.object "TwoSlots$Row")) true := ⟨_, _, _, rfl, by decide, tb_76, by decide +kernel, rfl, fun _ => rfl⟩
theorem fD_23 : Fok "TwoSlots$Device" 23 2 2 (.array .int) true := ⟨_, _, _, rfl, by decide, tb_77, by decide +kernel, rfl, fun _ => rfl⟩
theorem fD_27 : Fok "TwoSlots$Device" 27 2 3 (.int) false := ⟨_, _, _, rfl, by decide, tb_78, by decide +kernel, rfl, fun _ => rfl⟩
theorem fD_31 : Fok "TwoSlots$Device" 31 2 4 (.int) false := ⟨_, _, _, rfl, by decide, tb_79, by decide +kernel, rfl, fun _ => rfl⟩
theorem fD_34 : Fok "TwoSlots$Device" 34 2 5 (.int) false := ⟨_, _, _, rfl, by decide, tb_80, by decide +kernel, rfl, fun _ => rfl⟩
theorem fD_37 : Fok "TwoSlots$Device" 37 2 6 (.int) false := ⟨_, _, _, rfl, by decide, tb_81, by decide +kernel, rfl, fun _ => rfl⟩
theorem nwD_40 : Nok "TwoSlots$Device" 40 1 [.null, .int 0] := ⟨_, _, _, tP, rfl, tb_73, tb_51, tb_23, tyP, by decide +kernel, rfl⟩
theorem clD_42 : CokI "TwoSlots$Device" 42 mtP_init 0 := ⟨⟨tb_74, tb_23, tb_54, by decide +kernel, by decide⟩, rfl, rfl, tb_53⟩
theorem fD_43 : Fok "TwoSlots$Device" 43 2 7 (.object "TwoSlots$Patch") true := ⟨_, _, _, rfl, by decide, tb_82, by decide +kernel, rfl, fun _ => rfl⟩
theorem fD_47 : Fok "TwoSlots$Device" 47 2 8 (.array .boolean) true := ⟨_, _, _, rfl, by decide, tb_83, by decide +kernel, rfl, fun _ => rfl⟩
theorem fD_51 : Fok "TwoSlots$Device" 51 2 9 (.int) false := ⟨_, _, _, rfl, by decide, tb_84, by decide +kernel, rfl, fun _ => rfl⟩
theorem fD_54 : Fok "TwoSlots$Device" 54 2 10 (.int) false := ⟨_, _, _, rfl, by decide, tb_85, by decide +kernel, rfl, fun _ => rfl⟩
theorem clD_57 : CokV "TwoSlots$Device" 57 mtR_looksLike 1 := ⟨⟨tb_294, tb_22, tb_297, by decide +kernel, by decide⟩, tb_295, tb_296⟩
theorem clD_61 : CokV "TwoSlots$Device" 61 mtD_isUnderWay 0 := ⟨⟨tb_260, tb_24, tb_263, by decide +kernel, by decide⟩, tb_262, tb_4⟩
theorem clD_65 : CokV "TwoSlots$Device" 65 mtP_blocks 0 := ⟨⟨tb_248, tb_23, tb_251, by decide +kernel, by decide⟩, tb_249, tb_250⟩
theorem clD_69 : CokV "TwoSlots$Device" 69 mtP_make 2 := ⟨⟨tb_247, tb_23, tb_187, by decide +kernel, by decide⟩, tb_185, tb_186⟩
theorem clD_73 : CokV "TwoSlots$Device" 73 mtD_beginInstalling 0 := ⟨⟨tb_268, tb_24, tb_271, by decide +kernel, by decide⟩, tb_270, tb_5⟩
theorem clD_76 : CokV "TwoSlots$Device" 76 mtD_spare 0 := ⟨⟨tb_272, tb_24, tb_275, by decide +kernel, by decide⟩, tb_274, tb_6⟩
theorem clD_79 : CokV "TwoSlots$Device" 79 mtP_putPiece 3 := ⟨⟨tb_285, tb_23, tb_288, by decide +kernel, by decide⟩, tb_286, tb_287⟩
theorem clD_83 : CokV "TwoSlots$Device" 83 mtP_length 0 := ⟨⟨tb_289, tb_23, tb_213, by decide +kernel, by decide⟩, tb_211, tb_212⟩
theorem clD_86 : CokV "TwoSlots$Device" 86 mtD_isSound 1 := ⟨⟨tb_290, tb_24, tb_293, by decide +kernel, by decide⟩, tb_291, tb_292⟩
theorem clD_90 : CokV "TwoSlots$Device" 90 mtD_stepAtBoot 0 := ⟨⟨tb_311, tb_24, tb_314, by decide +kernel, by decide⟩, tb_313, tb_7⟩
theorem clD_93 : CokV "TwoSlots$Device" 93 mtD_goBack 0 := ⟨⟨tb_319, tb_24, tb_322, by decide +kernel, by decide⟩, tb_321, tb_9⟩
theorem clD_96 : CokV "TwoSlots$Device" 96 mtR_empty 0 := ⟨⟨tb_276, tb_22, tb_175, by decide +kernel, by decide⟩, tb_173, tb_174⟩
theorem clD_99 : CokV "TwoSlots$Device" 99 mtD_useTry 0 := ⟨⟨tb_315, tb_24, tb_318, by decide +kernel, by decide⟩, tb_317, tb_8⟩
theorem obP_3 : Cond.methodLink "TwoSlots$Patch" 3 Lib.objectInit ∈ lw_tg := tb_55
theorem nwP_9 : Nok "TwoSlots$Patch" 9 0 [.null, .int 0] := ⟨_, _, _, tR, rfl, tb_56, tb_36, tb_22, tyR, by decide +kernel, rfl⟩
theorem clP_11 : CokI "TwoSlots$Patch" 11 mtR_init 1 := ⟨⟨tb_57, tb_22, tb_39, by decide +kernel, by decide⟩, rfl, rfl, tb_38⟩
theorem fP_14 : Fok "TwoSlots$Patch" 14 1 0 (.object "TwoSlots$Row") true := ⟨_, _, _, rfl, by decide, tb_58, by decide +kernel, rfl, fun _ => rfl⟩
theorem fP_20 : Fok "TwoSlots$Patch" 20 1 1 (.int) false := ⟨_, _, _, rfl, by decide, tb_59, by decide +kernel, rfl, fun _ => rfl⟩
theorem clP_24 : CokV "TwoSlots$Patch" 24 mtR_length 0 := ⟨⟨tb_189, tb_22, tb_142, by decide +kernel, by decide⟩, tb_140, tb_141⟩
theorem clP_28 : CokV "TwoSlots$Patch" 28 mtR_has 1 := ⟨⟨tb_222, tb_22, tb_166, by decide +kernel, by decide⟩, tb_164, tb_165⟩
theorem clP_32 : CokV "TwoSlots$Patch" 32 mtR_at 1 := ⟨⟨tb_199, tb_22, tb_162, by decide +kernel, by decide⟩, tb_160, tb_161⟩
theorem clP_36 : CokV "TwoSlots$Patch" 36 mtR_empty 0 := ⟨⟨tb_188, tb_22, tb_175, by decide +kernel, by decide⟩, tb_173, tb_174⟩
theorem clP_39 : CokS "TwoSlots$Patch" 39 mtP_matchPlace 3 := ⟨⟨tb_190, tb_23, tb_192, by decide +kernel, by decide⟩, tb_191⟩
theorem clP_43 : CokS "TwoSlots$Patch" 43 mtP_common 4 := ⟨⟨tb_193, tb_23, tb_195, by decide +kernel, by decide⟩, tb_194⟩
theorem clP_47 : CokV "TwoSlots$Patch" 47 mtP_putLoose 3 := ⟨⟨tb_200, tb_23, tb_203, by decide +kernel, by decide⟩, tb_202, tb_2⟩
theorem clP_51 : CokV "TwoSlots$Patch" 51 mtP_putCopy 2 := ⟨⟨tb_206, tb_23, tb_209, by decide +kernel, by decide⟩, tb_208, tb_3⟩
theorem maP_55 : Cond.methodLink "TwoSlots$Patch" 55 Lib.Math.min.name ∈ lw_tg := tb_196
theorem clP_61 : CokV "TwoSlots$Patch" 61 mtR_append 1 := ⟨⟨tb_204, tb_22, tb_146, by decide +kernel, by decide⟩, tb_144, tb_145⟩
theorem clP_64 : CokV "TwoSlots$Patch" 64 mtR_appendFrom 3 := ⟨⟨tb_205, tb_22, tb_158, by decide +kernel, by decide⟩, tb_156, tb_157⟩
theorem obR_1 : Cond.methodLink "TwoSlots$Row" 1 Lib.objectInit ∈ lw_tg := tb_40
theorem fR_7 : Fok "TwoSlots$Row" 7 0 0 (.array .int) true := ⟨_, _, _, rfl, by decide, tb_41, by decide +kernel, rfl, fun _ => rfl⟩
theorem fR_13 : Fok "TwoSlots$Row" 13 0 1 (.int) false := ⟨_, _, _, rfl, by decide, tb_42, by decide +kernel, rfl, fun _ => rfl⟩
theorem clR_17 : CokV "TwoSlots$Row" 17 mtR_has 1 := ⟨⟨tb_163, tb_22, tb_166, by decide +kernel, by decide⟩, tb_164, tb_165⟩
theorem clR_21 : CokV "TwoSlots$Row" 21 mtR_at 1 := ⟨⟨tb_159, tb_22, tb_162, by decide +kernel, by decide⟩, tb_160, tb_161⟩
theorem clR_25 : CokV "TwoSlots$Row" 25 mtR_append 1 := ⟨⟨tb_167, tb_22, tb_146, by decide +kernel, by decide⟩, tb_144, tb_145⟩
theorem ldR_29 : Cond.constant "TwoSlots$Row" 29 65535 ∈ lw_tg := tb_302
theorem clR_30 : CokV "TwoSlots$Row" 30 mtR_check 0 := ⟨⟨tb_298, tb_22, tb_301, by decide +kernel, by decide⟩, tb_299, tb_300⟩
theorem nwL_7 : Nok "TwoSlotsLaw" 7 3 [.null, .null, .int 0, .null, .int 0, .int 0, .null] := ⟨_, _, _, tT, rfl, tb_27, tb_28, tb_21, tyT, by decide +kernel, rfl⟩
theorem clL_9 : CokI "TwoSlotsLaw" 9 mtT_init 0 := ⟨⟨tb_29, tb_21, tb_31, by decide +kernel, by decide⟩, rfl, rfl, tb_30⟩
theorem nwL_10 : Nok "TwoSlotsLaw" 10 4 [.null, .null, .int 0, .null, .int 0, .null, .int 0, .int 0, .null, .null, .null, .int 0, .int 0, .int 0, .int 0, .null, .int 0, .int 0] := ⟨_, _, _, tM, rfl, tb_385, tb_386, tb_25, tyM, by decide +kernel, rfl⟩
theorem clL_12 : CokI "TwoSlotsLaw" 12 mtM_init 0 := ⟨⟨tb_387, tb_25, tb_389, by decide +kernel, by decide⟩, rfl, rfl, tb_388⟩
theorem clL_13 : CokV "TwoSlotsLaw" 13 mtT_feed 1 := ⟨⟨tb_132, tb_21, tb_135, by decide +kernel, by decide⟩, tb_133, tb_134⟩
theorem clL_17 : CokV "TwoSlotsLaw" 17 mtM_feed 1 := ⟨⟨tb_446, tb_25, tb_449, by decide +kernel, by decide⟩, tb_447, tb_448⟩
theorem clL_18 : CokV "TwoSlotsLaw" 18 mtT_reuse 3 := ⟨⟨tb_147, tb_21, tb_150, by decide +kernel, by decide⟩, tb_148, tb_149⟩
theorem clL_22 : CokV "TwoSlotsLaw" 22 mtM_reuse 3 := ⟨⟨tb_453, tb_25, tb_456, by decide +kernel, by decide⟩, tb_454, tb_455⟩
theorem clL_23 : CokV "TwoSlotsLaw" 23 mtT_publish 0 := ⟨⟨tb_168, tb_21, tb_171, by decide +kernel, by decide⟩, tb_169, tb_170⟩
theorem clL_27 : CokV "TwoSlotsLaw" 27 mtM_publish 0 := ⟨⟨tb_457, tb_25, tb_460, by decide +kernel, by decide⟩, tb_458, tb_459⟩
theorem clL_28 : CokV "TwoSlotsLaw" 28 mtT_patch 2 := ⟨⟨tb_176, tb_21, tb_179, by decide +kernel, by decide⟩, tb_177, tb_178⟩
theorem clL_32 : CokV "TwoSlotsLaw" 32 mtM_patch 2 := ⟨⟨tb_461, tb_25, tb_464, by decide +kernel, by decide⟩, tb_462, tb_463⟩
theorem clL_33 : CokV "TwoSlotsLaw" 33 mtT_patchByte 3 := ⟨⟨tb_214, tb_21, tb_217, by decide +kernel, by decide⟩, tb_215, tb_216⟩
theorem clL_36 : CokV "TwoSlotsLaw" 36 mtM_patchByte 3 := ⟨⟨tb_481, tb_25, tb_484, by decide +kernel, by decide⟩, tb_482, tb_483⟩
theorem clL_37 : CokV "TwoSlotsLaw" 37 mtT_saved 2 := ⟨⟨tb_227, tb_21, tb_230, by decide +kernel, by decide⟩, tb_228, tb_229⟩
theorem clL_40 : CokV "TwoSlotsLaw" 40 mtM_saved 2 := ⟨⟨tb_485, tb_25, tb_488, by decide +kernel, by decide⟩, tb_486, tb_487⟩
theorem clL_41 : CokV "TwoSlotsLaw" 41 mtT_offer 1 := ⟨⟨tb_235, tb_21, tb_238, by decide +kernel, by decide⟩, tb_236, tb_237⟩
theorem clL_44 : CokV "TwoSlotsLaw" 44 mtM_offer 1 := ⟨⟨tb_489, tb_25, tb_492, by decide +kernel, by decide⟩, tb_490, tb_491⟩
theorem clL_45 : CokV "TwoSlotsLaw" 45 mtT_block 2 := ⟨⟨tb_252, tb_21, tb_255, by decide +kernel, by decide⟩, tb_253, tb_254⟩
theorem clL_48 : CokV "TwoSlotsLaw" 48 mtM_block 2 := ⟨⟨tb_493, tb_25, tb_496, by decide +kernel, by decide⟩, tb_494, tb_495⟩
theorem clL_49 : CokV "TwoSlotsLaw" 49 mtT_install 1 := ⟨⟨tb_277, tb_21, tb_280, by decide +kernel, by decide⟩, tb_278, tb_279⟩
theorem clL_52 : CokV "TwoSlotsLaw" 52 mtM_install 1 := ⟨⟨tb_509, tb_25, tb_512, by decide +kernel, by decide⟩, tb_510, tb_511⟩
theorem clL_53 : CokV "TwoSlotsLaw" 53 mtT_boot 0 := ⟨⟨tb_303, tb_21, tb_306, by decide +kernel, by decide⟩, tb_304, tb_305⟩
theorem clL_56 : CokV "TwoSlotsLaw" 56 mtM_boot 0 := ⟨⟨tb_530, tb_25, tb_533, by decide +kernel, by decide⟩, tb_531, tb_532⟩
theorem clL_57 : CokV "TwoSlotsLaw" 57 mtT_confirm 0 := ⟨⟨tb_323, tb_21, tb_326, by decide +kernel, by decide⟩, tb_324, tb_325⟩
theorem clL_60 : CokV "TwoSlotsLaw" 60 mtM_confirm 0 := ⟨⟨tb_534, tb_25, tb_537, by decide +kernel, by decide⟩, tb_535, tb_536⟩
theorem clL_61 : CokV "TwoSlotsLaw" 61 mtT_damage 3 := ⟨⟨tb_331, tb_21, tb_334, by decide +kernel, by decide⟩, tb_332, tb_333⟩
theorem clL_64 : CokV "TwoSlotsLaw" 64 mtM_damage 3 := ⟨⟨tb_538, tb_25, tb_541, by decide +kernel, by decide⟩, tb_539, tb_540⟩
theorem clL_65 : CokV "TwoSlotsLaw" 65 mtT_slot 2 := ⟨⟨tb_347, tb_21, tb_350, by decide +kernel, by decide⟩, tb_348, tb_349⟩
theorem clL_68 : CokV "TwoSlotsLaw" 68 mtM_slot 2 := ⟨⟨tb_542, tb_25, tb_545, by decide +kernel, by decide⟩, tb_543, tb_544⟩
theorem clL_69 : CokV "TwoSlotsLaw" 69 mtT_state 1 := ⟨⟨tb_352, tb_21, tb_355, by decide +kernel, by decide⟩, tb_353, tb_354⟩
theorem clL_72 : CokV "TwoSlotsLaw" 72 mtM_state 1 := ⟨⟨tb_546, tb_25, tb_549, by decide +kernel, by decide⟩, tb_547, tb_548⟩
theorem clL_73 : CokV "TwoSlotsLaw" 73 mtT_sound 1 := ⟨⟨tb_380, tb_21, tb_383, by decide +kernel, by decide⟩, tb_381, tb_382⟩
theorem clL_77 : CokV "TwoSlotsLaw" 77 mtM_sound 1 := ⟨⟨tb_550, tb_25, tb_524, by decide +kernel, by decide⟩, tb_522, tb_523⟩
theorem ob_w : Cond.instanceMethod Lib.objectInit ∈ lw_tg ∧ Cond.code Lib.objectInit ⟨#[0xb1]⟩ 1 none ∈ lw_tg := ⟨tb_33, tb_34⟩
theorem ma_min : Cond.static Lib.Math.min.name ∈ lw_tg ∧ Cond.initialized "java/lang/Math" ∈ lw_tg ∧ Cond.code Lib.Math.min.name Lib.Math.min.code 2 (some .int) ∈ lw_tg := ⟨tb_197, tb_26, tb_198⟩
theorem ac_int : Cond.arrayClass .int ∈ lw_tg := tb_48
theorem ac_boolean : Cond.arrayClass .boolean ∈ lw_tg := tb_109
