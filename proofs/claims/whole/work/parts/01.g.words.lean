set_option maxRecDepth 20000 in
theorem tb_0 : (.selects "TwoSlots" ⟨"TwoSlots", "isVersion", "(I)Z"⟩ ⟨"TwoSlots", "isVersion", "(I)Z"⟩ : Cond) ∈ lw_tg := lw_tg_in (List.mem_of_getElem? (i := 0) rfl) rfl
set_option maxRecDepth 20000 in
theorem tb_1 : (.selects "TwoSlots" ⟨"TwoSlots", "findPatch", "(II)Z"⟩ ⟨"TwoSlots", "findPatch", "(II)Z"⟩ : Cond) ∈ lw_tg := lw_tg_in (List.mem_of_getElem? (i := 1) rfl) rfl
set_option maxRecDepth 20000 in
theorem tb_2 : (.selects "TwoSlots$Patch" ⟨"TwoSlots$Patch", "putLoose", "(LTwoSlots$Row;II)V"⟩ ⟨"TwoSlots$Patch", "putLoose", "(LTwoSlots$Row;II)V"⟩ : Cond) ∈ lw_tg := lw_tg_in (List.mem_of_getElem? (i := 2) rfl) rfl
set_option maxRecDepth 20000 in
theorem tb_3 : (.selects "TwoSlots$Patch" ⟨"TwoSlots$Patch", "putCopy", "(II)V"⟩ ⟨"TwoSlots$Patch", "putCopy", "(II)V"⟩ : Cond) ∈ lw_tg := lw_tg_in (List.mem_of_getElem? (i := 3) rfl) rfl
set_option maxRecDepth 20000 in
theorem tb_4 : (.selects "TwoSlots$Device" ⟨"TwoSlots$Device", "isUnderWay", "()Z"⟩ ⟨"TwoSlots$Device", "isUnderWay", "()Z"⟩ : Cond) ∈ lw_tg := lw_tg_in (List.mem_of_getElem? (i := 4) rfl) rfl
set_option maxRecDepth 20000 in
theorem tb_5 : (.selects "TwoSlots$Device" ⟨"TwoSlots$Device", "beginInstalling", "()V"⟩ ⟨"TwoSlots$Device", "beginInstalling", "()V"⟩ : Cond) ∈ lw_tg := lw_tg_in (List.mem_of_getElem? (i := 5) rfl) rfl
set_option maxRecDepth 20000 in
theorem tb_6 : (.selects "TwoSlots$Device" ⟨"TwoSlots$Device", "spare", "()I"⟩ ⟨"TwoSlots$Device", "spare", "()I"⟩ : Cond) ∈ lw_tg := lw_tg_in (List.mem_of_getElem? (i := 6) rfl) rfl
set_option maxRecDepth 20000 in
theorem tb_7 : (.selects "TwoSlots$Device" ⟨"TwoSlots$Device", "stepAtBoot", "()V"⟩ ⟨"TwoSlots$Device", "stepAtBoot", "()V"⟩ : Cond) ∈ lw_tg := lw_tg_in (List.mem_of_getElem? (i := 7) rfl) rfl
set_option maxRecDepth 20000 in
theorem tb_8 : (.selects "TwoSlots$Device" ⟨"TwoSlots$Device", "useTry", "()V"⟩ ⟨"TwoSlots$Device", "useTry", "()V"⟩ : Cond) ∈ lw_tg := lw_tg_in (List.mem_of_getElem? (i := 8) rfl) rfl
set_option maxRecDepth 20000 in
theorem tb_9 : (.selects "TwoSlots$Device" ⟨"TwoSlots$Device", "goBack", "()V"⟩ ⟨"TwoSlots$Device", "goBack", "()V"⟩ : Cond) ∈ lw_tg := lw_tg_in (List.mem_of_getElem? (i := 9) rfl) rfl
set_option maxRecDepth 20000 in
theorem tb_10 : (.selects "TwoSlotsModel" ⟨"TwoSlotsModel", "pair", "(II)Z"⟩ ⟨"TwoSlotsModel", "pair", "(II)Z"⟩ : Cond) ∈ lw_tg := lw_tg_in (List.mem_of_getElem? (i := 10) rfl) rfl
set_option maxRecDepth 20000 in
theorem tb_11 : (.selects "TwoSlotsModel" ⟨"TwoSlotsModel", "make", "(II)V"⟩ ⟨"TwoSlotsModel", "make", "(II)V"⟩ : Cond) ∈ lw_tg := lw_tg_in (List.mem_of_getElem? (i := 11) rfl) rfl
set_option maxRecDepth 20000 in
theorem tb_12 : (.selects "TwoSlotsModel" ⟨"TwoSlotsModel", "agree", "(IIII)I"⟩ ⟨"TwoSlotsModel", "agree", "(IIII)I"⟩ : Cond) ∈ lw_tg := lw_tg_in (List.mem_of_getElem? (i := 12) rfl) rfl
set_option maxRecDepth 20000 in
theorem tb_13 : (.selects "TwoSlotsModel" ⟨"TwoSlotsModel", "put", "(I)V"⟩ ⟨"TwoSlotsModel", "put", "(I)V"⟩ : Cond) ∈ lw_tg := lw_tg_in (List.mem_of_getElem? (i := 13) rfl) rfl
set_option maxRecDepth 20000 in
theorem tb_14 : (.selects "TwoSlotsModel" ⟨"TwoSlotsModel", "underWay", "()Z"⟩ ⟨"TwoSlotsModel", "underWay", "()Z"⟩ : Cond) ∈ lw_tg := lw_tg_in (List.mem_of_getElem? (i := 14) rfl) rfl
set_option maxRecDepth 20000 in
theorem tb_15 : (.selects "TwoSlotsModel" ⟨"TwoSlotsModel", "missing", "()I"⟩ ⟨"TwoSlotsModel", "missing", "()I"⟩ : Cond) ∈ lw_tg := lw_tg_in (List.mem_of_getElem? (i := 15) rfl) rfl
set_option maxRecDepth 20000 in
theorem tb_16 : (.selects "TwoSlotsModel" ⟨"TwoSlotsModel", "beginInstall", "()V"⟩ ⟨"TwoSlotsModel", "beginInstall", "()V"⟩ : Cond) ∈ lw_tg := lw_tg_in (List.mem_of_getElem? (i := 16) rfl) rfl
set_option maxRecDepth 20000 in
theorem tb_17 : (.selects "TwoSlotsModel" ⟨"TwoSlotsModel", "piece", "()V"⟩ ⟨"TwoSlotsModel", "piece", "()V"⟩ : Cond) ∈ lw_tg := lw_tg_in (List.mem_of_getElem? (i := 17) rfl) rfl
set_option maxRecDepth 20000 in
theorem tb_18 : (.selects "TwoSlotsModel" ⟨"TwoSlotsModel", "grow", "(I)V"⟩ ⟨"TwoSlotsModel", "grow", "(I)V"⟩ : Cond) ∈ lw_tg := lw_tg_in (List.mem_of_getElem? (i := 18) rfl) rfl
set_option maxRecDepth 20000 in
theorem tb_19 : (.selects "TwoSlotsModel" ⟨"TwoSlotsModel", "check", "(IIZ)I"⟩ ⟨"TwoSlotsModel", "check", "(IIZ)I"⟩ : Cond) ∈ lw_tg := lw_tg_in (List.mem_of_getElem? (i := 19) rfl) rfl
set_option maxRecDepth 20000 in
theorem tb_21 : (.initialized "TwoSlots" : Cond) ∈ lw_tg := lw_tg_in (List.mem_of_getElem? (i := 21) rfl) rfl
set_option maxRecDepth 20000 in
theorem tb_22 : (.initialized "TwoSlots$Row" : Cond) ∈ lw_tg := lw_tg_in (List.mem_of_getElem? (i := 22) rfl) rfl
set_option maxRecDepth 20000 in
theorem tb_23 : (.initialized "TwoSlots$Patch" : Cond) ∈ lw_tg := lw_tg_in (List.mem_of_getElem? (i := 23) rfl) rfl
set_option maxRecDepth 20000 in
theorem tb_24 : (.initialized "TwoSlots$Device" : Cond) ∈ lw_tg := lw_tg_in (List.mem_of_getElem? (i := 24) rfl) rfl
set_option maxRecDepth 20000 in
theorem tb_25 : (.initialized "TwoSlotsModel" : Cond) ∈ lw_tg := lw_tg_in (List.mem_of_getElem? (i := 25) rfl) rfl
set_option maxRecDepth 20000 in
theorem tb_26 : (.initialized "java/lang/Math" : Cond) ∈ lw_tg := lw_tg_in (List.mem_of_getElem? (i := 26) rfl) rfl
set_option maxRecDepth 20000 in
theorem tb_27 : (.classLink "TwoSlotsLaw" 7 "TwoSlots" : Cond) ∈ lw_tg := lw_tg_in (List.mem_of_getElem? (i := 27) rfl) rfl
set_option maxRecDepth 20000 in
theorem tb_28 : (.instantiable "TwoSlots" 7 : Cond) ∈ lw_tg := lw_tg_in (List.mem_of_getElem? (i := 28) rfl) rfl
set_option maxRecDepth 20000 in
theorem tb_29 : (.methodLink "TwoSlotsLaw" 9 ⟨"TwoSlots", "<init>", "()V"⟩ : Cond) ∈ lw_tg := lw_tg_in (List.mem_of_getElem? (i := 29) rfl) rfl
set_option maxRecDepth 20000 in
theorem tb_30 : (.instanceMethod ⟨"TwoSlots", "<init>", "()V"⟩ : Cond) ∈ lw_tg := lw_tg_in (List.mem_of_getElem? (i := 30) rfl) rfl
set_option maxRecDepth 20000 in
theorem tb_31 : (.code ⟨"TwoSlots", "<init>", "()V"⟩ prog_1_method_1_code 2 none : Cond) ∈ lw_tg := lw_tg_in (List.mem_of_getElem? (i := 31) rfl) rfl
set_option maxRecDepth 20000 in
theorem tb_32 : (.methodLink "TwoSlots" 1 ⟨"java/lang/Object", "<init>", "()V"⟩ : Cond) ∈ lw_tg := lw_tg_in (List.mem_of_getElem? (i := 32) rfl) rfl
set_option maxRecDepth 20000 in
theorem tb_33 : (.instanceMethod ⟨"java/lang/Object", "<init>", "()V"⟩ : Cond) ∈ lw_tg := lw_tg_in (List.mem_of_getElem? (i := 33) rfl) rfl
set_option maxRecDepth 20000 in
theorem tb_34 : (.code ⟨"java/lang/Object", "<init>", "()V"⟩ object_method_1_code 1 none : Cond) ∈ lw_tg := lw_tg_in (List.mem_of_getElem? (i := 34) rfl) rfl
set_option maxRecDepth 20000 in
theorem tb_35 : (.classLink "TwoSlots" 7 "TwoSlots$Row" : Cond) ∈ lw_tg := lw_tg_in (List.mem_of_getElem? (i := 35) rfl) rfl
set_option maxRecDepth 20000 in
theorem tb_36 : (.instantiable "TwoSlots$Row" 2 : Cond) ∈ lw_tg := lw_tg_in (List.mem_of_getElem? (i := 36) rfl) rfl
set_option maxRecDepth 20000 in
theorem tb_37 : (.methodLink "TwoSlots" 11 ⟨"TwoSlots$Row", "<init>", "(I)V"⟩ : Cond) ∈ lw_tg := lw_tg_in (List.mem_of_getElem? (i := 37) rfl) rfl
set_option maxRecDepth 20000 in
theorem tb_38 : (.instanceMethod ⟨"TwoSlots$Row", "<init>", "(I)V"⟩ : Cond) ∈ lw_tg := lw_tg_in (List.mem_of_getElem? (i := 38) rfl) rfl
set_option maxRecDepth 20000 in
theorem tb_39 : (.code ⟨"TwoSlots$Row", "<init>", "(I)V"⟩ prog_4_method_1_code 2 none : Cond) ∈ lw_tg := lw_tg_in (List.mem_of_getElem? (i := 39) rfl) rfl
set_option maxRecDepth 20000 in
theorem tb_40 : (.methodLink "TwoSlots$Row" 1 ⟨"java/lang/Object", "<init>", "()V"⟩ : Cond) ∈ lw_tg := lw_tg_in (List.mem_of_getElem? (i := 40) rfl) rfl
set_option maxRecDepth 20000 in
theorem tb_41 : (.fieldLink "TwoSlots$Row" 7 "TwoSlots$Row" "bytes" "[I" : Cond) ∈ lw_tg := lw_tg_in (List.mem_of_getElem? (i := 41) rfl) rfl
set_option maxRecDepth 20000 in
theorem tb_42 : (.fieldLink "TwoSlots$Row" 13 "TwoSlots$Row" "length" "I" : Cond) ∈ lw_tg := lw_tg_in (List.mem_of_getElem? (i := 42) rfl) rfl
set_option maxRecDepth 20000 in
theorem tb_48 : (.arrayClass FieldType.int : Cond) ∈ lw_tg := lw_tg_in (List.mem_of_getElem? (i := 48) rfl) rfl
set_option maxRecDepth 20000 in
theorem tb_50 : (.classLink "TwoSlots" 26 "TwoSlots$Patch" : Cond) ∈ lw_tg := lw_tg_in (List.mem_of_getElem? (i := 50) rfl) rfl
set_option maxRecDepth 20000 in
theorem tb_51 : (.instantiable "TwoSlots$Patch" 2 : Cond) ∈ lw_tg := lw_tg_in (List.mem_of_getElem? (i := 51) rfl) rfl
set_option maxRecDepth 20000 in
theorem tb_52 : (.methodLink "TwoSlots" 28 ⟨"TwoSlots$Patch", "<init>", "()V"⟩ : Cond) ∈ lw_tg := lw_tg_in (List.mem_of_getElem? (i := 52) rfl) rfl
set_option maxRecDepth 20000 in
theorem tb_53 : (.instanceMethod ⟨"TwoSlots$Patch", "<init>", "()V"⟩ : Cond) ∈ lw_tg := lw_tg_in (List.mem_of_getElem? (i := 53) rfl) rfl
set_option maxRecDepth 20000 in
theorem tb_54 : (.code ⟨"TwoSlots$Patch", "<init>", "()V"⟩ prog_3_method_1_code 1 none : Cond) ∈ lw_tg := lw_tg_in (List.mem_of_getElem? (i := 54) rfl) rfl
set_option maxRecDepth 20000 in
theorem tb_55 : (.methodLink "TwoSlots$Patch" 3 ⟨"java/lang/Object", "<init>", "()V"⟩ : Cond) ∈ lw_tg := lw_tg_in (List.mem_of_getElem? (i := 55) rfl) rfl
set_option maxRecDepth 20000 in
theorem tb_56 : (.classLink "TwoSlots$Patch" 9 "TwoSlots$Row" : Cond) ∈ lw_tg := lw_tg_in (List.mem_of_getElem? (i := 56) rfl) rfl
set_option maxRecDepth 20000 in
theorem tb_57 : (.methodLink "TwoSlots$Patch" 11 ⟨"TwoSlots$Row", "<init>", "(I)V"⟩ : Cond) ∈ lw_tg := lw_tg_in (List.mem_of_getElem? (i := 57) rfl) rfl
set_option maxRecDepth 20000 in
theorem tb_58 : (.fieldLink "TwoSlots$Patch" 14 "TwoSlots$Patch" "bytes" "LTwoSlots$Row;" : Cond) ∈ lw_tg := lw_tg_in (List.mem_of_getElem? (i := 58) rfl) rfl
set_option maxRecDepth 20000 in
theorem tb_59 : (.fieldLink "TwoSlots$Patch" 20 "TwoSlots$Patch" "copied" "I" : Cond) ∈ lw_tg := lw_tg_in (List.mem_of_getElem? (i := 59) rfl) rfl
set_option maxRecDepth 20000 in
theorem tb_65 : (.classLink "TwoSlots" 39 "TwoSlots$Device" : Cond) ∈ lw_tg := lw_tg_in (List.mem_of_getElem? (i := 65) rfl) rfl
set_option maxRecDepth 20000 in
theorem tb_66 : (.instantiable "TwoSlots$Device" 11 : Cond) ∈ lw_tg := lw_tg_in (List.mem_of_getElem? (i := 66) rfl) rfl
set_option maxRecDepth 20000 in
theorem tb_67 : (.methodLink "TwoSlots" 41 ⟨"TwoSlots$Device", "<init>", "([LTwoSlots$Row;)V"⟩ : Cond) ∈ lw_tg := lw_tg_in (List.mem_of_getElem? (i := 67) rfl) rfl
set_option maxRecDepth 20000 in
theorem tb_68 : (.instanceMethod ⟨"TwoSlots$Device", "<init>", "([LTwoSlots$Row;)V"⟩ : Cond) ∈ lw_tg := lw_tg_in (List.mem_of_getElem? (i := 68) rfl) rfl
set_option maxRecDepth 20000 in
theorem tb_69 : (.code ⟨"TwoSlots$Device", "<init>", "([LTwoSlots$Row;)V"⟩ prog_2_method_1_code 2 none : Cond) ∈ lw_tg := lw_tg_in (List.mem_of_getElem? (i := 69) rfl) rfl
set_option maxRecDepth 20000 in
theorem tb_70 : (.methodLink "TwoSlots$Device" 3 ⟨"java/lang/Object", "<init>", "()V"⟩ : Cond) ∈ lw_tg := lw_tg_in (List.mem_of_getElem? (i := 70) rfl) rfl
set_option maxRecDepth 20000 in
theorem tb_71 : (.classLink "TwoSlots$Device" 15 "TwoSlots$Row" : Cond) ∈ lw_tg := lw_tg_in (List.mem_of_getElem? (i := 71) rfl) rfl
set_option maxRecDepth 20000 in
theorem tb_72 : (.methodLink "TwoSlots$Device" 17 ⟨"TwoSlots$Row", "<init>", "(I)V"⟩ : Cond) ∈ lw_tg := lw_tg_in (List.mem_of_getElem? (i := 72) rfl) rfl
set_option maxRecDepth 20000 in
theorem tb_73 : (.classLink "TwoSlots$Device" 40 "TwoSlots$Patch" : Cond) ∈ lw_tg := lw_tg_in (List.mem_of_getElem? (i := 73) rfl) rfl
set_option maxRecDepth 20000 in
theorem tb_74 : (.methodLink "TwoSlots$Device" 42 ⟨"TwoSlots$Patch", "<init>", "()V"⟩ : Cond) ∈ lw_tg := lw_tg_in (List.mem_of_getElem? (i := 74) rfl) rfl
set_option maxRecDepth 20000 in
theorem tb_75 : (.fieldLink "TwoSlots$Device" 9 "TwoSlots$Device" "versions" "[LTwoSlots$Row;" : Cond) ∈ lw_tg := lw_tg_in (List.mem_of_getElem? (i := 75) rfl) rfl
set_option maxRecDepth 20000 in
theorem tb_76 : (.fieldLink "TwoSlots$Device" 20 "TwoSlots$Device" "rows" "[LTwoSlots$Row;" : Cond) ∈ lw_tg := lw_tg_in (List.mem_of_getElem? (i := 76) rfl) rfl
set_option maxRecDepth 20000 in
theorem tb_77 : (.fieldLink "TwoSlots$Device" 23 "TwoSlots$Device" "marks" "[I" : Cond) ∈ lw_tg := lw_tg_in (List.mem_of_getElem? (i := 77) rfl) rfl
set_option maxRecDepth 20000 in
theorem tb_78 : (.fieldLink "TwoSlots$Device" 27 "TwoSlots$Device" "running" "I" : Cond) ∈ lw_tg := lw_tg_in (List.mem_of_getElem? (i := 78) rfl) rfl
set_option maxRecDepth 20000 in
theorem tb_79 : (.fieldLink "TwoSlots$Device" 31 "TwoSlots$Device" "state" "I" : Cond) ∈ lw_tg := lw_tg_in (List.mem_of_getElem? (i := 79) rfl) rfl
set_option maxRecDepth 20000 in
theorem tb_80 : (.fieldLink "TwoSlots$Device" 34 "TwoSlots$Device" "tries" "I" : Cond) ∈ lw_tg := lw_tg_in (List.mem_of_getElem? (i := 80) rfl) rfl
set_option maxRecDepth 20000 in
theorem tb_81 : (.fieldLink "TwoSlots$Device" 37 "TwoSlots$Device" "target" "I" : Cond) ∈ lw_tg := lw_tg_in (List.mem_of_getElem? (i := 81) rfl) rfl
set_option maxRecDepth 20000 in
theorem tb_82 : (.fieldLink "TwoSlots$Device" 43 "TwoSlots$Device" "update" "LTwoSlots$Patch;" : Cond) ∈ lw_tg := lw_tg_in (List.mem_of_getElem? (i := 82) rfl) rfl
set_option maxRecDepth 20000 in
theorem tb_83 : (.fieldLink "TwoSlots$Device" 47 "TwoSlots$Device" "there" "[Z" : Cond) ∈ lw_tg := lw_tg_in (List.mem_of_getElem? (i := 83) rfl) rfl
set_option maxRecDepth 20000 in
theorem tb_84 : (.fieldLink "TwoSlots$Device" 51 "TwoSlots$Device" "missing" "I" : Cond) ∈ lw_tg := lw_tg_in (List.mem_of_getElem? (i := 84) rfl) rfl
set_option maxRecDepth 20000 in
theorem tb_85 : (.fieldLink "TwoSlots$Device" 54 "TwoSlots$Device" "next" "I" : Cond) ∈ lw_tg := lw_tg_in (List.mem_of_getElem? (i := 85) rfl) rfl
set_option maxRecDepth 20000 in
theorem tb_109 : (.arrayClass FieldType.boolean : Cond) ∈ lw_tg := lw_tg_in (List.mem_of_getElem? (i := 109) rfl) rfl
set_option maxRecDepth 20000 in
theorem tb_110 : (.fieldLink "TwoSlots" 14 "TwoSlots" "draft" "LTwoSlots$Row;" : Cond) ∈ lw_tg := lw_tg_in (List.mem_of_getElem? (i := 110) rfl) rfl
set_option maxRecDepth 20000 in
theorem tb_111 : (.fieldLink "TwoSlots" 18 "TwoSlots" "versions" "[LTwoSlots$Row;" : Cond) ∈ lw_tg := lw_tg_in (List.mem_of_getElem? (i := 111) rfl) rfl
set_option maxRecDepth 20000 in
theorem tb_112 : (.fieldLink "TwoSlots" 22 "TwoSlots" "published" "I" : Cond) ∈ lw_tg := lw_tg_in (List.mem_of_getElem? (i := 112) rfl) rfl
set_option maxRecDepth 20000 in
theorem tb_113 : (.fieldLink "TwoSlots" 29 "TwoSlots" "asked" "LTwoSlots$Patch;" : Cond) ∈ lw_tg := lw_tg_in (List.mem_of_getElem? (i := 113) rfl) rfl
set_option maxRecDepth 20000 in
theorem tb_114 : (.fieldLink "TwoSlots" 33 "TwoSlots" "askedVersion" "I" : Cond) ∈ lw_tg := lw_tg_in (List.mem_of_getElem? (i := 114) rfl) rfl
set_option maxRecDepth 20000 in
theorem tb_115 : (.fieldLink "TwoSlots" 36 "TwoSlots" "askedOld" "I" : Cond) ∈ lw_tg := lw_tg_in (List.mem_of_getElem? (i := 115) rfl) rfl
set_option maxRecDepth 20000 in
theorem tb_116 : (.fieldLink "TwoSlots" 44 "TwoSlots" "device" "LTwoSlots$Device;" : Cond) ∈ lw_tg := lw_tg_in (List.mem_of_getElem? (i := 116) rfl) rfl
set_option maxRecDepth 20000 in
theorem tb_132 : (.methodLink "TwoSlotsLaw" 13 ⟨"TwoSlots", "feed", "(I)I"⟩ : Cond) ∈ lw_tg := lw_tg_in (List.mem_of_getElem? (i := 132) rfl) rfl
set_option maxRecDepth 20000 in
theorem tb_133 : (.instanceMethod ⟨"TwoSlots", "feed", "(I)I"⟩ : Cond) ∈ lw_tg := lw_tg_in (List.mem_of_getElem? (i := 133) rfl) rfl
set_option maxRecDepth 20000 in
theorem tb_134 : (.selects "TwoSlots" ⟨"TwoSlots", "feed", "(I)I"⟩ ⟨"TwoSlots", "feed", "(I)I"⟩ : Cond) ∈ lw_tg := lw_tg_in (List.mem_of_getElem? (i := 134) rfl) rfl
set_option maxRecDepth 20000 in
theorem tb_135 : (.code ⟨"TwoSlots", "feed", "(I)I"⟩ prog_1_method_2_code 2 (some FieldType.int) : Cond) ∈ lw_tg := lw_tg_in (List.mem_of_getElem? (i := 135) rfl) rfl
set_option maxRecDepth 20000 in
theorem tb_136 : (.methodLink "TwoSlots" 48 ⟨"TwoSlots", "isByte", "(I)Z"⟩ : Cond) ∈ lw_tg := lw_tg_in (List.mem_of_getElem? (i := 136) rfl) rfl
set_option maxRecDepth 20000 in
theorem tb_137 : (.static ⟨"TwoSlots", "isByte", "(I)Z"⟩ : Cond) ∈ lw_tg := lw_tg_in (List.mem_of_getElem? (i := 137) rfl) rfl
set_option maxRecDepth 20000 in
theorem tb_138 : (.code ⟨"TwoSlots", "isByte", "(I)Z"⟩ prog_1_method_17_code 1 (some FieldType.boolean) : Cond) ∈ lw_tg := lw_tg_in (List.mem_of_getElem? (i := 138) rfl) rfl
set_option maxRecDepth 20000 in
theorem tb_139 : (.methodLink "TwoSlots" 52 ⟨"TwoSlots$Row", "length", "()I"⟩ : Cond) ∈ lw_tg := lw_tg_in (List.mem_of_getElem? (i := 139) rfl) rfl
set_option maxRecDepth 20000 in
theorem tb_140 : (.instanceMethod ⟨"TwoSlots$Row", "length", "()I"⟩ : Cond) ∈ lw_tg := lw_tg_in (List.mem_of_getElem? (i := 140) rfl) rfl
set_option maxRecDepth 20000 in
theorem tb_141 : (.selects "TwoSlots$Row" ⟨"TwoSlots$Row", "length", "()I"⟩ ⟨"TwoSlots$Row", "length", "()I"⟩ : Cond) ∈ lw_tg := lw_tg_in (List.mem_of_getElem? (i := 141) rfl) rfl
set_option maxRecDepth 20000 in
theorem tb_142 : (.code ⟨"TwoSlots$Row", "length", "()I"⟩ prog_4_method_2_code 1 (some FieldType.int) : Cond) ∈ lw_tg := lw_tg_in (List.mem_of_getElem? (i := 142) rfl) rfl
set_option maxRecDepth 20000 in
theorem tb_143 : (.methodLink "TwoSlots" 56 ⟨"TwoSlots$Row", "append", "(I)V"⟩ : Cond) ∈ lw_tg := lw_tg_in (List.mem_of_getElem? (i := 143) rfl) rfl
set_option maxRecDepth 20000 in
theorem tb_144 : (.instanceMethod ⟨"TwoSlots$Row", "append", "(I)V"⟩ : Cond) ∈ lw_tg := lw_tg_in (List.mem_of_getElem? (i := 144) rfl) rfl
set_option maxRecDepth 20000 in
theorem tb_145 : (.selects "TwoSlots$Row" ⟨"TwoSlots$Row", "append", "(I)V"⟩ ⟨"TwoSlots$Row", "append", "(I)V"⟩ : Cond) ∈ lw_tg := lw_tg_in (List.mem_of_getElem? (i := 145) rfl) rfl
set_option maxRecDepth 20000 in
theorem tb_146 : (.code ⟨"TwoSlots$Row", "append", "(I)V"⟩ prog_4_method_6_code 2 none : Cond) ∈ lw_tg := lw_tg_in (List.mem_of_getElem? (i := 146) rfl) rfl
set_option maxRecDepth 20000 in
theorem tb_147 : (.methodLink "TwoSlotsLaw" 18 ⟨"TwoSlots", "reuse", "(III)I"⟩ : Cond) ∈ lw_tg := lw_tg_in (List.mem_of_getElem? (i := 147) rfl) rfl
set_option maxRecDepth 20000 in
theorem tb_148 : (.instanceMethod ⟨"TwoSlots", "reuse", "(III)I"⟩ : Cond) ∈ lw_tg := lw_tg_in (List.mem_of_getElem? (i := 148) rfl) rfl
set_option maxRecDepth 20000 in
theorem tb_149 : (.selects "TwoSlots" ⟨"TwoSlots", "reuse", "(III)I"⟩ ⟨"TwoSlots", "reuse", "(III)I"⟩ : Cond) ∈ lw_tg := lw_tg_in (List.mem_of_getElem? (i := 149) rfl) rfl
set_option maxRecDepth 20000 in
theorem tb_150 : (.code ⟨"TwoSlots", "reuse", "(III)I"⟩ prog_1_method_3_code 4 (some FieldType.int) : Cond) ∈ lw_tg := lw_tg_in (List.mem_of_getElem? (i := 150) rfl) rfl
set_option maxRecDepth 20000 in
theorem tb_151 : (.methodLink "TwoSlots" 59 ⟨"TwoSlots", "isVersion", "(I)Z"⟩ : Cond) ∈ lw_tg := lw_tg_in (List.mem_of_getElem? (i := 151) rfl) rfl
set_option maxRecDepth 20000 in
theorem tb_153 : (.instanceMethod ⟨"TwoSlots", "isVersion", "(I)Z"⟩ : Cond) ∈ lw_tg := lw_tg_in (List.mem_of_getElem? (i := 153) rfl) rfl
set_option maxRecDepth 20000 in
theorem tb_154 : (.code ⟨"TwoSlots", "isVersion", "(I)Z"⟩ prog_1_method_19_code 2 (some FieldType.boolean) : Cond) ∈ lw_tg := lw_tg_in (List.mem_of_getElem? (i := 154) rfl) rfl
set_option maxRecDepth 20000 in
theorem tb_155 : (.methodLink "TwoSlots" 62 ⟨"TwoSlots$Row", "appendFrom", "(LTwoSlots$Row;II)V"⟩ : Cond) ∈ lw_tg := lw_tg_in (List.mem_of_getElem? (i := 155) rfl) rfl
set_option maxRecDepth 20000 in
theorem tb_156 : (.instanceMethod ⟨"TwoSlots$Row", "appendFrom", "(LTwoSlots$Row;II)V"⟩ : Cond) ∈ lw_tg := lw_tg_in (List.mem_of_getElem? (i := 156) rfl) rfl
set_option maxRecDepth 20000 in
theorem tb_157 : (.selects "TwoSlots$Row" ⟨"TwoSlots$Row", "appendFrom", "(LTwoSlots$Row;II)V"⟩ ⟨"TwoSlots$Row", "appendFrom", "(LTwoSlots$Row;II)V"⟩ : Cond) ∈ lw_tg := lw_tg_in (List.mem_of_getElem? (i := 157) rfl) rfl
set_option maxRecDepth 20000 in
theorem tb_158 : (.code ⟨"TwoSlots$Row", "appendFrom", "(LTwoSlots$Row;II)V"⟩ prog_4_method_7_code 5 none : Cond) ∈ lw_tg := lw_tg_in (List.mem_of_getElem? (i := 158) rfl) rfl
set_option maxRecDepth 20000 in
theorem tb_159 : (.methodLink "TwoSlots$Row" 21 ⟨"TwoSlots$Row", "at", "(I)I"⟩ : Cond) ∈ lw_tg := lw_tg_in (List.mem_of_getElem? (i := 159) rfl) rfl
set_option maxRecDepth 20000 in
theorem tb_160 : (.instanceMethod ⟨"TwoSlots$Row", "at", "(I)I"⟩ : Cond) ∈ lw_tg := lw_tg_in (List.mem_of_getElem? (i := 160) rfl) rfl
set_option maxRecDepth 20000 in
theorem tb_161 : (.selects "TwoSlots$Row" ⟨"TwoSlots$Row", "at", "(I)I"⟩ ⟨"TwoSlots$Row", "at", "(I)I"⟩ : Cond) ∈ lw_tg := lw_tg_in (List.mem_of_getElem? (i := 161) rfl) rfl
set_option maxRecDepth 20000 in
theorem tb_162 : (.code ⟨"TwoSlots$Row", "at", "(I)I"⟩ prog_4_method_4_code 2 (some FieldType.int) : Cond) ∈ lw_tg := lw_tg_in (List.mem_of_getElem? (i := 162) rfl) rfl
set_option maxRecDepth 20000 in
theorem tb_163 : (.methodLink "TwoSlots$Row" 17 ⟨"TwoSlots$Row", "has", "(I)Z"⟩ : Cond) ∈ lw_tg := lw_tg_in (List.mem_of_getElem? (i := 163) rfl) rfl
set_option maxRecDepth 20000 in
theorem tb_164 : (.instanceMethod ⟨"TwoSlots$Row", "has", "(I)Z"⟩ : Cond) ∈ lw_tg := lw_tg_in (List.mem_of_getElem? (i := 164) rfl) rfl
set_option maxRecDepth 20000 in
theorem tb_165 : (.selects "TwoSlots$Row" ⟨"TwoSlots$Row", "has", "(I)Z"⟩ ⟨"TwoSlots$Row", "has", "(I)Z"⟩ : Cond) ∈ lw_tg := lw_tg_in (List.mem_of_getElem? (i := 165) rfl) rfl
set_option maxRecDepth 20000 in
theorem tb_166 : (.code ⟨"TwoSlots$Row", "has", "(I)Z"⟩ prog_4_method_3_code 2 (some FieldType.boolean) : Cond) ∈ lw_tg := lw_tg_in (List.mem_of_getElem? (i := 166) rfl) rfl
set_option maxRecDepth 20000 in
theorem tb_167 : (.methodLink "TwoSlots$Row" 25 ⟨"TwoSlots$Row", "append", "(I)V"⟩ : Cond) ∈ lw_tg := lw_tg_in (List.mem_of_getElem? (i := 167) rfl) rfl
set_option maxRecDepth 20000 in
theorem tb_168 : (.methodLink "TwoSlotsLaw" 23 ⟨"TwoSlots", "publish", "()I"⟩ : Cond) ∈ lw_tg := lw_tg_in (List.mem_of_getElem? (i := 168) rfl) rfl
set_option maxRecDepth 20000 in
theorem tb_169 : (.instanceMethod ⟨"TwoSlots", "publish", "()I"⟩ : Cond) ∈ lw_tg := lw_tg_in (List.mem_of_getElem? (i := 169) rfl) rfl
set_option maxRecDepth 20000 in
theorem tb_170 : (.selects "TwoSlots" ⟨"TwoSlots", "publish", "()I"⟩ ⟨"TwoSlots", "publish", "()I"⟩ : Cond) ∈ lw_tg := lw_tg_in (List.mem_of_getElem? (i := 170) rfl) rfl
set_option maxRecDepth 20000 in
theorem tb_171 : (.code ⟨"TwoSlots", "publish", "()I"⟩ prog_1_method_4_code 1 (some FieldType.int) : Cond) ∈ lw_tg := lw_tg_in (List.mem_of_getElem? (i := 171) rfl) rfl
set_option maxRecDepth 20000 in
theorem tb_172 : (.methodLink "TwoSlots" 66 ⟨"TwoSlots$Row", "empty", "()V"⟩ : Cond) ∈ lw_tg := lw_tg_in (List.mem_of_getElem? (i := 172) rfl) rfl
set_option maxRecDepth 20000 in
theorem tb_173 : (.instanceMethod ⟨"TwoSlots$Row", "empty", "()V"⟩ : Cond) ∈ lw_tg := lw_tg_in (List.mem_of_getElem? (i := 173) rfl) rfl
set_option maxRecDepth 20000 in
theorem tb_174 : (.selects "TwoSlots$Row" ⟨"TwoSlots$Row", "empty", "()V"⟩ ⟨"TwoSlots$Row", "empty", "()V"⟩ : Cond) ∈ lw_tg := lw_tg_in (List.mem_of_getElem? (i := 174) rfl) rfl
set_option maxRecDepth 20000 in
theorem tb_175 : (.code ⟨"TwoSlots$Row", "empty", "()V"⟩ prog_4_method_5_code 1 none : Cond) ∈ lw_tg := lw_tg_in (List.mem_of_getElem? (i := 175) rfl) rfl
set_option maxRecDepth 20000 in
theorem tb_176 : (.methodLink "TwoSlotsLaw" 28 ⟨"TwoSlots", "patch", "(II)I"⟩ : Cond) ∈ lw_tg := lw_tg_in (List.mem_of_getElem? (i := 176) rfl) rfl
set_option maxRecDepth 20000 in
theorem tb_177 : (.instanceMethod ⟨"TwoSlots", "patch", "(II)I"⟩ : Cond) ∈ lw_tg := lw_tg_in (List.mem_of_getElem? (i := 177) rfl) rfl
set_option maxRecDepth 20000 in
theorem tb_178 : (.selects "TwoSlots" ⟨"TwoSlots", "patch", "(II)I"⟩ ⟨"TwoSlots", "patch", "(II)I"⟩ : Cond) ∈ lw_tg := lw_tg_in (List.mem_of_getElem? (i := 178) rfl) rfl
set_option maxRecDepth 20000 in
theorem tb_179 : (.code ⟨"TwoSlots", "patch", "(II)I"⟩ prog_1_method_5_code 3 (some FieldType.int) : Cond) ∈ lw_tg := lw_tg_in (List.mem_of_getElem? (i := 179) rfl) rfl
set_option maxRecDepth 20000 in
theorem tb_180 : (.methodLink "TwoSlots" 69 ⟨"TwoSlots", "findPatch", "(II)Z"⟩ : Cond) ∈ lw_tg := lw_tg_in (List.mem_of_getElem? (i := 180) rfl) rfl
set_option maxRecDepth 20000 in
theorem tb_182 : (.instanceMethod ⟨"TwoSlots", "findPatch", "(II)Z"⟩ : Cond) ∈ lw_tg := lw_tg_in (List.mem_of_getElem? (i := 182) rfl) rfl
set_option maxRecDepth 20000 in
theorem tb_183 : (.code ⟨"TwoSlots", "findPatch", "(II)Z"⟩ prog_1_method_20_code 3 (some FieldType.boolean) : Cond) ∈ lw_tg := lw_tg_in (List.mem_of_getElem? (i := 183) rfl) rfl
set_option maxRecDepth 20000 in
theorem tb_184 : (.methodLink "TwoSlots" 139 ⟨"TwoSlots$Patch", "make", "(LTwoSlots$Row;LTwoSlots$Row;)V"⟩ : Cond) ∈ lw_tg := lw_tg_in (List.mem_of_getElem? (i := 184) rfl) rfl
set_option maxRecDepth 20000 in
theorem tb_185 : (.instanceMethod ⟨"TwoSlots$Patch", "make", "(LTwoSlots$Row;LTwoSlots$Row;)V"⟩ : Cond) ∈ lw_tg := lw_tg_in (List.mem_of_getElem? (i := 185) rfl) rfl
set_option maxRecDepth 20000 in
theorem tb_186 : (.selects "TwoSlots$Patch" ⟨"TwoSlots$Patch", "make", "(LTwoSlots$Row;LTwoSlots$Row;)V"⟩ ⟨"TwoSlots$Patch", "make", "(LTwoSlots$Row;LTwoSlots$Row;)V"⟩ : Cond) ∈ lw_tg := lw_tg_in (List.mem_of_getElem? (i := 186) rfl) rfl
set_option maxRecDepth 20000 in
theorem tb_187 : (.code ⟨"TwoSlots$Patch", "make", "(LTwoSlots$Row;LTwoSlots$Row;)V"⟩ prog_3_method_6_code 8 none : Cond) ∈ lw_tg := lw_tg_in (List.mem_of_getElem? (i := 187) rfl) rfl
set_option maxRecDepth 20000 in
theorem tb_188 : (.methodLink "TwoSlots$Patch" 36 ⟨"TwoSlots$Row", "empty", "()V"⟩ : Cond) ∈ lw_tg := lw_tg_in (List.mem_of_getElem? (i := 188) rfl) rfl
set_option maxRecDepth 20000 in
theorem tb_189 : (.methodLink "TwoSlots$Patch" 24 ⟨"TwoSlots$Row", "length", "()I"⟩ : Cond) ∈ lw_tg := lw_tg_in (List.mem_of_getElem? (i := 189) rfl) rfl
set_option maxRecDepth 20000 in
theorem tb_190 : (.methodLink "TwoSlots$Patch" 39 ⟨"TwoSlots$Patch", "matchPlace", "(LTwoSlots$Row;ILTwoSlots$Row;)I"⟩ : Cond) ∈ lw_tg := lw_tg_in (List.mem_of_getElem? (i := 190) rfl) rfl
set_option maxRecDepth 20000 in
theorem tb_191 : (.static ⟨"TwoSlots$Patch", "matchPlace", "(LTwoSlots$Row;ILTwoSlots$Row;)I"⟩ : Cond) ∈ lw_tg := lw_tg_in (List.mem_of_getElem? (i := 191) rfl) rfl
set_option maxRecDepth 20000 in
theorem tb_192 : (.code ⟨"TwoSlots$Patch", "matchPlace", "(LTwoSlots$Row;ILTwoSlots$Row;)I"⟩ prog_3_method_7_code 7 (some FieldType.int) : Cond) ∈ lw_tg := lw_tg_in (List.mem_of_getElem? (i := 192) rfl) rfl
set_option maxRecDepth 20000 in
theorem tb_193 : (.methodLink "TwoSlots$Patch" 43 ⟨"TwoSlots$Patch", "common", "(LTwoSlots$Row;ILTwoSlots$Row;I)I"⟩ : Cond) ∈ lw_tg := lw_tg_in (List.mem_of_getElem? (i := 193) rfl) rfl
set_option maxRecDepth 20000 in
theorem tb_194 : (.static ⟨"TwoSlots$Patch", "common", "(LTwoSlots$Row;ILTwoSlots$Row;I)I"⟩ : Cond) ∈ lw_tg := lw_tg_in (List.mem_of_getElem? (i := 194) rfl) rfl
set_option maxRecDepth 20000 in
theorem tb_195 : (.code ⟨"TwoSlots$Patch", "common", "(LTwoSlots$Row;ILTwoSlots$Row;I)I"⟩ prog_3_method_8_code 6 (some FieldType.int) : Cond) ∈ lw_tg := lw_tg_in (List.mem_of_getElem? (i := 195) rfl) rfl
set_option maxRecDepth 20000 in
theorem tb_196 : (.methodLink "TwoSlots$Patch" 55 ⟨"java/lang/Math", "min", "(II)I"⟩ : Cond) ∈ lw_tg := lw_tg_in (List.mem_of_getElem? (i := 196) rfl) rfl
set_option maxRecDepth 20000 in
theorem tb_197 : (.static ⟨"java/lang/Math", "min", "(II)I"⟩ : Cond) ∈ lw_tg := lw_tg_in (List.mem_of_getElem? (i := 197) rfl) rfl
set_option maxRecDepth 20000 in
theorem tb_198 : (.code ⟨"java/lang/Math", "min", "(II)I"⟩ prog_7_method_69_code 2 (some FieldType.int) : Cond) ∈ lw_tg := lw_tg_in (List.mem_of_getElem? (i := 198) rfl) rfl
set_option maxRecDepth 20000 in
theorem tb_199 : (.methodLink "TwoSlots$Patch" 32 ⟨"TwoSlots$Row", "at", "(I)I"⟩ : Cond) ∈ lw_tg := lw_tg_in (List.mem_of_getElem? (i := 199) rfl) rfl
set_option maxRecDepth 20000 in
theorem tb_200 : (.methodLink "TwoSlots$Patch" 47 ⟨"TwoSlots$Patch", "putLoose", "(LTwoSlots$Row;II)V"⟩ : Cond) ∈ lw_tg := lw_tg_in (List.mem_of_getElem? (i := 200) rfl) rfl
set_option maxRecDepth 20000 in
theorem tb_202 : (.instanceMethod ⟨"TwoSlots$Patch", "putLoose", "(LTwoSlots$Row;II)V"⟩ : Cond) ∈ lw_tg := lw_tg_in (List.mem_of_getElem? (i := 202) rfl) rfl
set_option maxRecDepth 20000 in
theorem tb_203 : (.code ⟨"TwoSlots$Patch", "putLoose", "(LTwoSlots$Row;II)V"⟩ prog_3_method_10_code 6 none : Cond) ∈ lw_tg := lw_tg_in (List.mem_of_getElem? (i := 203) rfl) rfl
set_option maxRecDepth 20000 in
theorem tb_204 : (.methodLink "TwoSlots$Patch" 61 ⟨"TwoSlots$Row", "append", "(I)V"⟩ : Cond) ∈ lw_tg := lw_tg_in (List.mem_of_getElem? (i := 204) rfl) rfl
set_option maxRecDepth 20000 in
theorem tb_205 : (.methodLink "TwoSlots$Patch" 64 ⟨"TwoSlots$Row", "appendFrom", "(LTwoSlots$Row;II)V"⟩ : Cond) ∈ lw_tg := lw_tg_in (List.mem_of_getElem? (i := 205) rfl) rfl
set_option maxRecDepth 20000 in
theorem tb_206 : (.methodLink "TwoSlots$Patch" 51 ⟨"TwoSlots$Patch", "putCopy", "(II)V"⟩ : Cond) ∈ lw_tg := lw_tg_in (List.mem_of_getElem? (i := 206) rfl) rfl
set_option maxRecDepth 20000 in
theorem tb_208 : (.instanceMethod ⟨"TwoSlots$Patch", "putCopy", "(II)V"⟩ : Cond) ∈ lw_tg := lw_tg_in (List.mem_of_getElem? (i := 208) rfl) rfl
set_option maxRecDepth 20000 in
theorem tb_209 : (.code ⟨"TwoSlots$Patch", "putCopy", "(II)V"⟩ prog_3_method_9_code 3 none : Cond) ∈ lw_tg := lw_tg_in (List.mem_of_getElem? (i := 209) rfl) rfl
set_option maxRecDepth 20000 in
theorem tb_210 : (.methodLink "TwoSlots" 73 ⟨"TwoSlots$Patch", "length", "()I"⟩ : Cond) ∈ lw_tg := lw_tg_in (List.mem_of_getElem? (i := 210) rfl) rfl
set_option maxRecDepth 20000 in
theorem tb_211 : (.instanceMethod ⟨"TwoSlots$Patch", "length", "()I"⟩ : Cond) ∈ lw_tg := lw_tg_in (List.mem_of_getElem? (i := 211) rfl) rfl
set_option maxRecDepth 20000 in
theorem tb_212 : (.selects "TwoSlots$Patch" ⟨"TwoSlots$Patch", "length", "()I"⟩ ⟨"TwoSlots$Patch", "length", "()I"⟩ : Cond) ∈ lw_tg := lw_tg_in (List.mem_of_getElem? (i := 212) rfl) rfl
set_option maxRecDepth 20000 in
theorem tb_213 : (.code ⟨"TwoSlots$Patch", "length", "()I"⟩ prog_3_method_2_code 1 (some FieldType.int) : Cond) ∈ lw_tg := lw_tg_in (List.mem_of_getElem? (i := 213) rfl) rfl
set_option maxRecDepth 20000 in
theorem tb_214 : (.methodLink "TwoSlotsLaw" 33 ⟨"TwoSlots", "patchByte", "(III)I"⟩ : Cond) ∈ lw_tg := lw_tg_in (List.mem_of_getElem? (i := 214) rfl) rfl
set_option maxRecDepth 20000 in
theorem tb_215 : (.instanceMethod ⟨"TwoSlots", "patchByte", "(III)I"⟩ : Cond) ∈ lw_tg := lw_tg_in (List.mem_of_getElem? (i := 215) rfl) rfl
set_option maxRecDepth 20000 in
theorem tb_216 : (.selects "TwoSlots" ⟨"TwoSlots", "patchByte", "(III)I"⟩ ⟨"TwoSlots", "patchByte", "(III)I"⟩ : Cond) ∈ lw_tg := lw_tg_in (List.mem_of_getElem? (i := 216) rfl) rfl
set_option maxRecDepth 20000 in
theorem tb_217 : (.code ⟨"TwoSlots", "patchByte", "(III)I"⟩ prog_1_method_6_code 4 (some FieldType.int) : Cond) ∈ lw_tg := lw_tg_in (List.mem_of_getElem? (i := 217) rfl) rfl
set_option maxRecDepth 20000 in
theorem tb_218 : (.methodLink "TwoSlots" 74 ⟨"TwoSlots$Patch", "has", "(I)Z"⟩ : Cond) ∈ lw_tg := lw_tg_in (List.mem_of_getElem? (i := 218) rfl) rfl
set_option maxRecDepth 20000 in
theorem tb_219 : (.instanceMethod ⟨"TwoSlots$Patch", "has", "(I)Z"⟩ : Cond) ∈ lw_tg := lw_tg_in (List.mem_of_getElem? (i := 219) rfl) rfl
set_option maxRecDepth 20000 in
theorem tb_220 : (.selects "TwoSlots$Patch" ⟨"TwoSlots$Patch", "has", "(I)Z"⟩ ⟨"TwoSlots$Patch", "has", "(I)Z"⟩ : Cond) ∈ lw_tg := lw_tg_in (List.mem_of_getElem? (i := 220) rfl) rfl
set_option maxRecDepth 20000 in
theorem tb_221 : (.code ⟨"TwoSlots$Patch", "has", "(I)Z"⟩ prog_3_method_3_code 2 (some FieldType.boolean) : Cond) ∈ lw_tg := lw_tg_in (List.mem_of_getElem? (i := 221) rfl) rfl
set_option maxRecDepth 20000 in
theorem tb_222 : (.methodLink "TwoSlots$Patch" 28 ⟨"TwoSlots$Row", "has", "(I)Z"⟩ : Cond) ∈ lw_tg := lw_tg_in (List.mem_of_getElem? (i := 222) rfl) rfl
set_option maxRecDepth 20000 in
theorem tb_223 : (.methodLink "TwoSlots" 77 ⟨"TwoSlots$Patch", "at", "(I)I"⟩ : Cond) ∈ lw_tg := lw_tg_in (List.mem_of_getElem? (i := 223) rfl) rfl
set_option maxRecDepth 20000 in
theorem tb_224 : (.instanceMethod ⟨"TwoSlots$Patch", "at", "(I)I"⟩ : Cond) ∈ lw_tg := lw_tg_in (List.mem_of_getElem? (i := 224) rfl) rfl
set_option maxRecDepth 20000 in
theorem tb_225 : (.selects "TwoSlots$Patch" ⟨"TwoSlots$Patch", "at", "(I)I"⟩ ⟨"TwoSlots$Patch", "at", "(I)I"⟩ : Cond) ∈ lw_tg := lw_tg_in (List.mem_of_getElem? (i := 225) rfl) rfl
set_option maxRecDepth 20000 in
theorem tb_226 : (.code ⟨"TwoSlots$Patch", "at", "(I)I"⟩ prog_3_method_4_code 2 (some FieldType.int) : Cond) ∈ lw_tg := lw_tg_in (List.mem_of_getElem? (i := 226) rfl) rfl
set_option maxRecDepth 20000 in
theorem tb_227 : (.methodLink "TwoSlotsLaw" 37 ⟨"TwoSlots", "saved", "(II)I"⟩ : Cond) ∈ lw_tg := lw_tg_in (List.mem_of_getElem? (i := 227) rfl) rfl
set_option maxRecDepth 20000 in
theorem tb_228 : (.instanceMethod ⟨"TwoSlots", "saved", "(II)I"⟩ : Cond) ∈ lw_tg := lw_tg_in (List.mem_of_getElem? (i := 228) rfl) rfl
set_option maxRecDepth 20000 in
theorem tb_229 : (.selects "TwoSlots" ⟨"TwoSlots", "saved", "(II)I"⟩ ⟨"TwoSlots", "saved", "(II)I"⟩ : Cond) ∈ lw_tg := lw_tg_in (List.mem_of_getElem? (i := 229) rfl) rfl
set_option maxRecDepth 20000 in
theorem tb_230 : (.code ⟨"TwoSlots", "saved", "(II)I"⟩ prog_1_method_7_code 3 (some FieldType.int) : Cond) ∈ lw_tg := lw_tg_in (List.mem_of_getElem? (i := 230) rfl) rfl
set_option maxRecDepth 20000 in
theorem tb_231 : (.methodLink "TwoSlots" 81 ⟨"TwoSlots$Patch", "copied", "()I"⟩ : Cond) ∈ lw_tg := lw_tg_in (List.mem_of_getElem? (i := 231) rfl) rfl
set_option maxRecDepth 20000 in
theorem tb_232 : (.instanceMethod ⟨"TwoSlots$Patch", "copied", "()I"⟩ : Cond) ∈ lw_tg := lw_tg_in (List.mem_of_getElem? (i := 232) rfl) rfl
set_option maxRecDepth 20000 in
theorem tb_233 : (.selects "TwoSlots$Patch" ⟨"TwoSlots$Patch", "copied", "()I"⟩ ⟨"TwoSlots$Patch", "copied", "()I"⟩ : Cond) ∈ lw_tg := lw_tg_in (List.mem_of_getElem? (i := 233) rfl) rfl
set_option maxRecDepth 20000 in
theorem tb_234 : (.code ⟨"TwoSlots$Patch", "copied", "()I"⟩ prog_3_method_5_code 1 (some FieldType.int) : Cond) ∈ lw_tg := lw_tg_in (List.mem_of_getElem? (i := 234) rfl) rfl
set_option maxRecDepth 20000 in
theorem tb_235 : (.methodLink "TwoSlotsLaw" 41 ⟨"TwoSlots", "offer", "(I)I"⟩ : Cond) ∈ lw_tg := lw_tg_in (List.mem_of_getElem? (i := 235) rfl) rfl
set_option maxRecDepth 20000 in
theorem tb_236 : (.instanceMethod ⟨"TwoSlots", "offer", "(I)I"⟩ : Cond) ∈ lw_tg := lw_tg_in (List.mem_of_getElem? (i := 236) rfl) rfl
set_option maxRecDepth 20000 in
theorem tb_237 : (.selects "TwoSlots" ⟨"TwoSlots", "offer", "(I)I"⟩ ⟨"TwoSlots", "offer", "(I)I"⟩ : Cond) ∈ lw_tg := lw_tg_in (List.mem_of_getElem? (i := 237) rfl) rfl
set_option maxRecDepth 20000 in
theorem tb_238 : (.code ⟨"TwoSlots", "offer", "(I)I"⟩ prog_1_method_8_code 2 (some FieldType.int) : Cond) ∈ lw_tg := lw_tg_in (List.mem_of_getElem? (i := 238) rfl) rfl
set_option maxRecDepth 20000 in
theorem tb_239 : (.methodLink "TwoSlots" 84 ⟨"TwoSlots$Device", "isIn", "(I)Z"⟩ : Cond) ∈ lw_tg := lw_tg_in (List.mem_of_getElem? (i := 239) rfl) rfl
set_option maxRecDepth 20000 in
theorem tb_240 : (.instanceMethod ⟨"TwoSlots$Device", "isIn", "(I)Z"⟩ : Cond) ∈ lw_tg := lw_tg_in (List.mem_of_getElem? (i := 240) rfl) rfl
set_option maxRecDepth 20000 in
theorem tb_241 : (.selects "TwoSlots$Device" ⟨"TwoSlots$Device", "isIn", "(I)Z"⟩ ⟨"TwoSlots$Device", "isIn", "(I)Z"⟩ : Cond) ∈ lw_tg := lw_tg_in (List.mem_of_getElem? (i := 241) rfl) rfl
set_option maxRecDepth 20000 in
theorem tb_242 : (.code ⟨"TwoSlots$Device", "isIn", "(I)Z"⟩ prog_2_method_2_code 2 (some FieldType.boolean) : Cond) ∈ lw_tg := lw_tg_in (List.mem_of_getElem? (i := 242) rfl) rfl
set_option maxRecDepth 20000 in
theorem tb_243 : (.methodLink "TwoSlots" 87 ⟨"TwoSlots$Device", "beginUpdate", "(I)I"⟩ : Cond) ∈ lw_tg := lw_tg_in (List.mem_of_getElem? (i := 243) rfl) rfl
set_option maxRecDepth 20000 in
theorem tb_244 : (.instanceMethod ⟨"TwoSlots$Device", "beginUpdate", "(I)I"⟩ : Cond) ∈ lw_tg := lw_tg_in (List.mem_of_getElem? (i := 244) rfl) rfl
set_option maxRecDepth 20000 in
theorem tb_245 : (.selects "TwoSlots$Device" ⟨"TwoSlots$Device", "beginUpdate", "(I)I"⟩ ⟨"TwoSlots$Device", "beginUpdate", "(I)I"⟩ : Cond) ∈ lw_tg := lw_tg_in (List.mem_of_getElem? (i := 245) rfl) rfl
set_option maxRecDepth 20000 in
theorem tb_246 : (.code ⟨"TwoSlots$Device", "beginUpdate", "(I)I"⟩ prog_2_method_12_code 3 (some FieldType.int) : Cond) ∈ lw_tg := lw_tg_in (List.mem_of_getElem? (i := 246) rfl) rfl
set_option maxRecDepth 20000 in
theorem tb_247 : (.methodLink "TwoSlots$Device" 69 ⟨"TwoSlots$Patch", "make", "(LTwoSlots$Row;LTwoSlots$Row;)V"⟩ : Cond) ∈ lw_tg := lw_tg_in (List.mem_of_getElem? (i := 247) rfl) rfl
set_option maxRecDepth 20000 in
theorem tb_248 : (.methodLink "TwoSlots$Device" 65 ⟨"TwoSlots$Patch", "blocks", "()I"⟩ : Cond) ∈ lw_tg := lw_tg_in (List.mem_of_getElem? (i := 248) rfl) rfl
set_option maxRecDepth 20000 in
theorem tb_249 : (.instanceMethod ⟨"TwoSlots$Patch", "blocks", "()I"⟩ : Cond) ∈ lw_tg := lw_tg_in (List.mem_of_getElem? (i := 249) rfl) rfl
set_option maxRecDepth 20000 in
theorem tb_250 : (.selects "TwoSlots$Patch" ⟨"TwoSlots$Patch", "blocks", "()I"⟩ ⟨"TwoSlots$Patch", "blocks", "()I"⟩ : Cond) ∈ lw_tg := lw_tg_in (List.mem_of_getElem? (i := 250) rfl) rfl
set_option maxRecDepth 20000 in
theorem tb_251 : (.code ⟨"TwoSlots$Patch", "blocks", "()I"⟩ prog_3_method_11_code 1 (some FieldType.int) : Cond) ∈ lw_tg := lw_tg_in (List.mem_of_getElem? (i := 251) rfl) rfl
set_option maxRecDepth 20000 in
theorem tb_252 : (.methodLink "TwoSlotsLaw" 45 ⟨"TwoSlots", "block", "(II)I"⟩ : Cond) ∈ lw_tg := lw_tg_in (List.mem_of_getElem? (i := 252) rfl) rfl
set_option maxRecDepth 20000 in
theorem tb_253 : (.instanceMethod ⟨"TwoSlots", "block", "(II)I"⟩ : Cond) ∈ lw_tg := lw_tg_in (List.mem_of_getElem? (i := 253) rfl) rfl
set_option maxRecDepth 20000 in
theorem tb_254 : (.selects "TwoSlots" ⟨"TwoSlots", "block", "(II)I"⟩ ⟨"TwoSlots", "block", "(II)I"⟩ : Cond) ∈ lw_tg := lw_tg_in (List.mem_of_getElem? (i := 254) rfl) rfl
set_option maxRecDepth 20000 in
theorem tb_255 : (.code ⟨"TwoSlots", "block", "(II)I"⟩ prog_1_method_9_code 3 (some FieldType.int) : Cond) ∈ lw_tg := lw_tg_in (List.mem_of_getElem? (i := 255) rfl) rfl
set_option maxRecDepth 20000 in
theorem tb_256 : (.methodLink "TwoSlots" 90 ⟨"TwoSlots$Device", "hasBlock", "(I)Z"⟩ : Cond) ∈ lw_tg := lw_tg_in (List.mem_of_getElem? (i := 256) rfl) rfl
set_option maxRecDepth 20000 in
theorem tb_257 : (.instanceMethod ⟨"TwoSlots$Device", "hasBlock", "(I)Z"⟩ : Cond) ∈ lw_tg := lw_tg_in (List.mem_of_getElem? (i := 257) rfl) rfl
set_option maxRecDepth 20000 in
theorem tb_258 : (.selects "TwoSlots$Device" ⟨"TwoSlots$Device", "hasBlock", "(I)Z"⟩ ⟨"TwoSlots$Device", "hasBlock", "(I)Z"⟩ : Cond) ∈ lw_tg := lw_tg_in (List.mem_of_getElem? (i := 258) rfl) rfl
set_option maxRecDepth 20000 in
theorem tb_259 : (.code ⟨"TwoSlots$Device", "hasBlock", "(I)Z"⟩ prog_2_method_11_code 2 (some FieldType.boolean) : Cond) ∈ lw_tg := lw_tg_in (List.mem_of_getElem? (i := 259) rfl) rfl
set_option maxRecDepth 20000 in
theorem tb_260 : (.methodLink "TwoSlots$Device" 61 ⟨"TwoSlots$Device", "isUnderWay", "()Z"⟩ : Cond) ∈ lw_tg := lw_tg_in (List.mem_of_getElem? (i := 260) rfl) rfl
set_option maxRecDepth 20000 in
theorem tb_262 : (.instanceMethod ⟨"TwoSlots$Device", "isUnderWay", "()Z"⟩ : Cond) ∈ lw_tg := lw_tg_in (List.mem_of_getElem? (i := 262) rfl) rfl
set_option maxRecDepth 20000 in
theorem tb_263 : (.code ⟨"TwoSlots$Device", "isUnderWay", "()Z"⟩ prog_2_method_17_code 1 (some FieldType.boolean) : Cond) ∈ lw_tg := lw_tg_in (List.mem_of_getElem? (i := 263) rfl) rfl
set_option maxRecDepth 20000 in
theorem tb_264 : (.methodLink "TwoSlots" 93 ⟨"TwoSlots$Device", "takeBlock", "(I)I"⟩ : Cond) ∈ lw_tg := lw_tg_in (List.mem_of_getElem? (i := 264) rfl) rfl
set_option maxRecDepth 20000 in
theorem tb_265 : (.instanceMethod ⟨"TwoSlots$Device", "takeBlock", "(I)I"⟩ : Cond) ∈ lw_tg := lw_tg_in (List.mem_of_getElem? (i := 265) rfl) rfl
set_option maxRecDepth 20000 in
theorem tb_266 : (.selects "TwoSlots$Device" ⟨"TwoSlots$Device", "takeBlock", "(I)I"⟩ ⟨"TwoSlots$Device", "takeBlock", "(I)I"⟩ : Cond) ∈ lw_tg := lw_tg_in (List.mem_of_getElem? (i := 266) rfl) rfl
set_option maxRecDepth 20000 in
theorem tb_267 : (.code ⟨"TwoSlots$Device", "takeBlock", "(I)I"⟩ prog_2_method_13_code 2 (some FieldType.int) : Cond) ∈ lw_tg := lw_tg_in (List.mem_of_getElem? (i := 267) rfl) rfl
set_option maxRecDepth 20000 in
theorem tb_268 : (.methodLink "TwoSlots$Device" 73 ⟨"TwoSlots$Device", "beginInstalling", "()V"⟩ : Cond) ∈ lw_tg := lw_tg_in (List.mem_of_getElem? (i := 268) rfl) rfl
set_option maxRecDepth 20000 in
theorem tb_270 : (.instanceMethod ⟨"TwoSlots$Device", "beginInstalling", "()V"⟩ : Cond) ∈ lw_tg := lw_tg_in (List.mem_of_getElem? (i := 270) rfl) rfl
set_option maxRecDepth 20000 in
theorem tb_271 : (.code ⟨"TwoSlots$Device", "beginInstalling", "()V"⟩ prog_2_method_19_code 1 none : Cond) ∈ lw_tg := lw_tg_in (List.mem_of_getElem? (i := 271) rfl) rfl
set_option maxRecDepth 20000 in
theorem tb_272 : (.methodLink "TwoSlots$Device" 76 ⟨"TwoSlots$Device", "spare", "()I"⟩ : Cond) ∈ lw_tg := lw_tg_in (List.mem_of_getElem? (i := 272) rfl) rfl
set_option maxRecDepth 20000 in
theorem tb_274 : (.instanceMethod ⟨"TwoSlots$Device", "spare", "()I"⟩ : Cond) ∈ lw_tg := lw_tg_in (List.mem_of_getElem? (i := 274) rfl) rfl
set_option maxRecDepth 20000 in
theorem tb_275 : (.code ⟨"TwoSlots$Device", "spare", "()I"⟩ prog_2_method_18_code 1 (some FieldType.int) : Cond) ∈ lw_tg := lw_tg_in (List.mem_of_getElem? (i := 275) rfl) rfl
set_option maxRecDepth 20000 in
theorem tb_276 : (.methodLink "TwoSlots$Device" 96 ⟨"TwoSlots$Row", "empty", "()V"⟩ : Cond) ∈ lw_tg := lw_tg_in (List.mem_of_getElem? (i := 276) rfl) rfl
set_option maxRecDepth 20000 in
theorem tb_277 : (.methodLink "TwoSlotsLaw" 49 ⟨"TwoSlots", "install", "(I)I"⟩ : Cond) ∈ lw_tg := lw_tg_in (List.mem_of_getElem? (i := 277) rfl) rfl
set_option maxRecDepth 20000 in
theorem tb_278 : (.instanceMethod ⟨"TwoSlots", "install", "(I)I"⟩ : Cond) ∈ lw_tg := lw_tg_in (List.mem_of_getElem? (i := 278) rfl) rfl
set_option maxRecDepth 20000 in
theorem tb_279 : (.selects "TwoSlots" ⟨"TwoSlots", "install", "(I)I"⟩ ⟨"TwoSlots", "install", "(I)I"⟩ : Cond) ∈ lw_tg := lw_tg_in (List.mem_of_getElem? (i := 279) rfl) rfl
set_option maxRecDepth 20000 in
theorem tb_280 : (.code ⟨"TwoSlots", "install", "(I)I"⟩ prog_1_method_10_code 2 (some FieldType.int) : Cond) ∈ lw_tg := lw_tg_in (List.mem_of_getElem? (i := 280) rfl) rfl
set_option maxRecDepth 20000 in
theorem tb_281 : (.methodLink "TwoSlots" 96 ⟨"TwoSlots$Device", "installPieces", "(I)I"⟩ : Cond) ∈ lw_tg := lw_tg_in (List.mem_of_getElem? (i := 281) rfl) rfl
set_option maxRecDepth 20000 in
theorem tb_282 : (.instanceMethod ⟨"TwoSlots$Device", "installPieces", "(I)I"⟩ : Cond) ∈ lw_tg := lw_tg_in (List.mem_of_getElem? (i := 282) rfl) rfl
set_option maxRecDepth 20000 in
theorem tb_283 : (.selects "TwoSlots$Device" ⟨"TwoSlots$Device", "installPieces", "(I)I"⟩ ⟨"TwoSlots$Device", "installPieces", "(I)I"⟩ : Cond) ∈ lw_tg := lw_tg_in (List.mem_of_getElem? (i := 283) rfl) rfl
set_option maxRecDepth 20000 in
theorem tb_284 : (.code ⟨"TwoSlots$Device", "installPieces", "(I)I"⟩ prog_2_method_14_code 3 (some FieldType.int) : Cond) ∈ lw_tg := lw_tg_in (List.mem_of_getElem? (i := 284) rfl) rfl
set_option maxRecDepth 20000 in
theorem tb_285 : (.methodLink "TwoSlots$Device" 79 ⟨"TwoSlots$Patch", "putPiece", "(ILTwoSlots$Row;LTwoSlots$Row;)I"⟩ : Cond) ∈ lw_tg := lw_tg_in (List.mem_of_getElem? (i := 285) rfl) rfl
set_option maxRecDepth 20000 in
theorem tb_286 : (.instanceMethod ⟨"TwoSlots$Patch", "putPiece", "(ILTwoSlots$Row;LTwoSlots$Row;)I"⟩ : Cond) ∈ lw_tg := lw_tg_in (List.mem_of_getElem? (i := 286) rfl) rfl
set_option maxRecDepth 20000 in
theorem tb_287 : (.selects "TwoSlots$Patch" ⟨"TwoSlots$Patch", "putPiece", "(ILTwoSlots$Row;LTwoSlots$Row;)I"⟩ ⟨"TwoSlots$Patch", "putPiece", "(ILTwoSlots$Row;LTwoSlots$Row;)I"⟩ : Cond) ∈ lw_tg := lw_tg_in (List.mem_of_getElem? (i := 287) rfl) rfl
set_option maxRecDepth 20000 in
theorem tb_288 : (.code ⟨"TwoSlots$Patch", "putPiece", "(ILTwoSlots$Row;LTwoSlots$Row;)I"⟩ prog_3_method_12_code 5 (some FieldType.int) : Cond) ∈ lw_tg := lw_tg_in (List.mem_of_getElem? (i := 288) rfl) rfl
set_option maxRecDepth 20000 in
theorem tb_289 : (.methodLink "TwoSlots$Device" 83 ⟨"TwoSlots$Patch", "length", "()I"⟩ : Cond) ∈ lw_tg := lw_tg_in (List.mem_of_getElem? (i := 289) rfl) rfl
set_option maxRecDepth 20000 in
theorem tb_290 : (.methodLink "TwoSlots$Device" 86 ⟨"TwoSlots$Device", "isSound", "(I)Z"⟩ : Cond) ∈ lw_tg := lw_tg_in (List.mem_of_getElem? (i := 290) rfl) rfl
set_option maxRecDepth 20000 in
theorem tb_291 : (.instanceMethod ⟨"TwoSlots$Device", "isSound", "(I)Z"⟩ : Cond) ∈ lw_tg := lw_tg_in (List.mem_of_getElem? (i := 291) rfl) rfl
set_option maxRecDepth 20000 in
theorem tb_292 : (.selects "TwoSlots$Device" ⟨"TwoSlots$Device", "isSound", "(I)Z"⟩ ⟨"TwoSlots$Device", "isSound", "(I)Z"⟩ : Cond) ∈ lw_tg := lw_tg_in (List.mem_of_getElem? (i := 292) rfl) rfl
set_option maxRecDepth 20000 in
theorem tb_293 : (.code ⟨"TwoSlots$Device", "isSound", "(I)Z"⟩ prog_2_method_8_code 2 (some FieldType.boolean) : Cond) ∈ lw_tg := lw_tg_in (List.mem_of_getElem? (i := 293) rfl) rfl
set_option maxRecDepth 20000 in
theorem tb_294 : (.methodLink "TwoSlots$Device" 57 ⟨"TwoSlots$Row", "looksLike", "(LTwoSlots$Row;)Z"⟩ : Cond) ∈ lw_tg := lw_tg_in (List.mem_of_getElem? (i := 294) rfl) rfl
set_option maxRecDepth 20000 in
theorem tb_295 : (.instanceMethod ⟨"TwoSlots$Row", "looksLike", "(LTwoSlots$Row;)Z"⟩ : Cond) ∈ lw_tg := lw_tg_in (List.mem_of_getElem? (i := 295) rfl) rfl
set_option maxRecDepth 20000 in
theorem tb_296 : (.selects "TwoSlots$Row" ⟨"TwoSlots$Row", "looksLike", "(LTwoSlots$Row;)Z"⟩ ⟨"TwoSlots$Row", "looksLike", "(LTwoSlots$Row;)Z"⟩ : Cond) ∈ lw_tg := lw_tg_in (List.mem_of_getElem? (i := 296) rfl) rfl
set_option maxRecDepth 20000 in
theorem tb_297 : (.code ⟨"TwoSlots$Row", "looksLike", "(LTwoSlots$Row;)Z"⟩ prog_4_method_10_code 2 (some FieldType.boolean) : Cond) ∈ lw_tg := lw_tg_in (List.mem_of_getElem? (i := 297) rfl) rfl
set_option maxRecDepth 20000 in
theorem tb_298 : (.methodLink "TwoSlots$Row" 30 ⟨"TwoSlots$Row", "check", "()I"⟩ : Cond) ∈ lw_tg := lw_tg_in (List.mem_of_getElem? (i := 298) rfl) rfl
set_option maxRecDepth 20000 in
theorem tb_299 : (.instanceMethod ⟨"TwoSlots$Row", "check", "()I"⟩ : Cond) ∈ lw_tg := lw_tg_in (List.mem_of_getElem? (i := 299) rfl) rfl
set_option maxRecDepth 20000 in
theorem tb_300 : (.selects "TwoSlots$Row" ⟨"TwoSlots$Row", "check", "()I"⟩ ⟨"TwoSlots$Row", "check", "()I"⟩ : Cond) ∈ lw_tg := lw_tg_in (List.mem_of_getElem? (i := 300) rfl) rfl
set_option maxRecDepth 20000 in
theorem tb_301 : (.code ⟨"TwoSlots$Row", "check", "()I"⟩ prog_4_method_9_code 3 (some FieldType.int) : Cond) ∈ lw_tg := lw_tg_in (List.mem_of_getElem? (i := 301) rfl) rfl
set_option maxRecDepth 20000 in
theorem tb_302 : (.constant "TwoSlots$Row" 29 (65535 : Int32) : Cond) ∈ lw_tg := lw_tg_in (List.mem_of_getElem? (i := 302) rfl) rfl
set_option maxRecDepth 20000 in
theorem tb_303 : (.methodLink "TwoSlotsLaw" 53 ⟨"TwoSlots", "boot", "()I"⟩ : Cond) ∈ lw_tg := lw_tg_in (List.mem_of_getElem? (i := 303) rfl) rfl
set_option maxRecDepth 20000 in
theorem tb_304 : (.instanceMethod ⟨"TwoSlots", "boot", "()I"⟩ : Cond) ∈ lw_tg := lw_tg_in (List.mem_of_getElem? (i := 304) rfl) rfl
set_option maxRecDepth 20000 in
theorem tb_305 : (.selects "TwoSlots" ⟨"TwoSlots", "boot", "()I"⟩ ⟨"TwoSlots", "boot", "()I"⟩ : Cond) ∈ lw_tg := lw_tg_in (List.mem_of_getElem? (i := 305) rfl) rfl
set_option maxRecDepth 20000 in
theorem tb_306 : (.code ⟨"TwoSlots", "boot", "()I"⟩ prog_1_method_11_code 1 (some FieldType.int) : Cond) ∈ lw_tg := lw_tg_in (List.mem_of_getElem? (i := 306) rfl) rfl
set_option maxRecDepth 20000 in
theorem tb_307 : (.methodLink "TwoSlots" 99 ⟨"TwoSlots$Device", "start", "()I"⟩ : Cond) ∈ lw_tg := lw_tg_in (List.mem_of_getElem? (i := 307) rfl) rfl
set_option maxRecDepth 20000 in
theorem tb_308 : (.instanceMethod ⟨"TwoSlots$Device", "start", "()I"⟩ : Cond) ∈ lw_tg := lw_tg_in (List.mem_of_getElem? (i := 308) rfl) rfl
set_option maxRecDepth 20000 in
theorem tb_309 : (.selects "TwoSlots$Device" ⟨"TwoSlots$Device", "start", "()I"⟩ ⟨"TwoSlots$Device", "start", "()I"⟩ : Cond) ∈ lw_tg := lw_tg_in (List.mem_of_getElem? (i := 309) rfl) rfl
set_option maxRecDepth 20000 in
theorem tb_310 : (.code ⟨"TwoSlots$Device", "start", "()I"⟩ prog_2_method_15_code 1 (some FieldType.int) : Cond) ∈ lw_tg := lw_tg_in (List.mem_of_getElem? (i := 310) rfl) rfl
set_option maxRecDepth 20000 in
theorem tb_311 : (.methodLink "TwoSlots$Device" 90 ⟨"TwoSlots$Device", "stepAtBoot", "()V"⟩ : Cond) ∈ lw_tg := lw_tg_in (List.mem_of_getElem? (i := 311) rfl) rfl
set_option maxRecDepth 20000 in
theorem tb_313 : (.instanceMethod ⟨"TwoSlots$Device", "stepAtBoot", "()V"⟩ : Cond) ∈ lw_tg := lw_tg_in (List.mem_of_getElem? (i := 313) rfl) rfl
set_option maxRecDepth 20000 in
theorem tb_314 : (.code ⟨"TwoSlots$Device", "stepAtBoot", "()V"⟩ prog_2_method_20_code 1 none : Cond) ∈ lw_tg := lw_tg_in (List.mem_of_getElem? (i := 314) rfl) rfl
set_option maxRecDepth 20000 in
theorem tb_315 : (.methodLink "TwoSlots$Device" 99 ⟨"TwoSlots$Device", "useTry", "()V"⟩ : Cond) ∈ lw_tg := lw_tg_in (List.mem_of_getElem? (i := 315) rfl) rfl
set_option maxRecDepth 20000 in
theorem tb_317 : (.instanceMethod ⟨"TwoSlots$Device", "useTry", "()V"⟩ : Cond) ∈ lw_tg := lw_tg_in (List.mem_of_getElem? (i := 317) rfl) rfl
set_option maxRecDepth 20000 in
theorem tb_318 : (.code ⟨"TwoSlots$Device", "useTry", "()V"⟩ prog_2_method_21_code 1 none : Cond) ∈ lw_tg := lw_tg_in (List.mem_of_getElem? (i := 318) rfl) rfl
set_option maxRecDepth 20000 in
theorem tb_319 : (.methodLink "TwoSlots$Device" 93 ⟨"TwoSlots$Device", "goBack", "()V"⟩ : Cond) ∈ lw_tg := lw_tg_in (List.mem_of_getElem? (i := 319) rfl) rfl
set_option maxRecDepth 20000 in
theorem tb_321 : (.instanceMethod ⟨"TwoSlots$Device", "goBack", "()V"⟩ : Cond) ∈ lw_tg := lw_tg_in (List.mem_of_getElem? (i := 321) rfl) rfl
set_option maxRecDepth 20000 in
theorem tb_322 : (.code ⟨"TwoSlots$Device", "goBack", "()V"⟩ prog_2_method_22_code 1 none : Cond) ∈ lw_tg := lw_tg_in (List.mem_of_getElem? (i := 322) rfl) rfl
set_option maxRecDepth 20000 in
theorem tb_323 : (.methodLink "TwoSlotsLaw" 57 ⟨"TwoSlots", "confirm", "()I"⟩ : Cond) ∈ lw_tg := lw_tg_in (List.mem_of_getElem? (i := 323) rfl) rfl
set_option maxRecDepth 20000 in
theorem tb_324 : (.instanceMethod ⟨"TwoSlots", "confirm", "()I"⟩ : Cond) ∈ lw_tg := lw_tg_in (List.mem_of_getElem? (i := 324) rfl) rfl
set_option maxRecDepth 20000 in
theorem tb_325 : (.selects "TwoSlots" ⟨"TwoSlots", "confirm", "()I"⟩ ⟨"TwoSlots", "confirm", "()I"⟩ : Cond) ∈ lw_tg := lw_tg_in (List.mem_of_getElem? (i := 325) rfl) rfl
set_option maxRecDepth 20000 in
theorem tb_326 : (.code ⟨"TwoSlots", "confirm", "()I"⟩ prog_1_method_12_code 1 (some FieldType.int) : Cond) ∈ lw_tg := lw_tg_in (List.mem_of_getElem? (i := 326) rfl) rfl
set_option maxRecDepth 20000 in
theorem tb_327 : (.methodLink "TwoSlots" 102 ⟨"TwoSlots$Device", "keep", "()V"⟩ : Cond) ∈ lw_tg := lw_tg_in (List.mem_of_getElem? (i := 327) rfl) rfl
set_option maxRecDepth 20000 in
theorem tb_328 : (.instanceMethod ⟨"TwoSlots$Device", "keep", "()V"⟩ : Cond) ∈ lw_tg := lw_tg_in (List.mem_of_getElem? (i := 328) rfl) rfl
set_option maxRecDepth 20000 in
theorem tb_329 : (.selects "TwoSlots$Device" ⟨"TwoSlots$Device", "keep", "()V"⟩ ⟨"TwoSlots$Device", "keep", "()V"⟩ : Cond) ∈ lw_tg := lw_tg_in (List.mem_of_getElem? (i := 329) rfl) rfl
set_option maxRecDepth 20000 in
theorem tb_330 : (.code ⟨"TwoSlots$Device", "keep", "()V"⟩ prog_2_method_16_code 1 none : Cond) ∈ lw_tg := lw_tg_in (List.mem_of_getElem? (i := 330) rfl) rfl
set_option maxRecDepth 20000 in
theorem tb_331 : (.methodLink "TwoSlotsLaw" 61 ⟨"TwoSlots", "damage", "(III)I"⟩ : Cond) ∈ lw_tg := lw_tg_in (List.mem_of_getElem? (i := 331) rfl) rfl
set_option maxRecDepth 20000 in
theorem tb_332 : (.instanceMethod ⟨"TwoSlots", "damage", "(III)I"⟩ : Cond) ∈ lw_tg := lw_tg_in (List.mem_of_getElem? (i := 332) rfl) rfl
set_option maxRecDepth 20000 in
theorem tb_333 : (.selects "TwoSlots" ⟨"TwoSlots", "damage", "(III)I"⟩ ⟨"TwoSlots", "damage", "(III)I"⟩ : Cond) ∈ lw_tg := lw_tg_in (List.mem_of_getElem? (i := 333) rfl) rfl
set_option maxRecDepth 20000 in
theorem tb_334 : (.code ⟨"TwoSlots", "damage", "(III)I"⟩ prog_1_method_13_code 4 (some FieldType.int) : Cond) ∈ lw_tg := lw_tg_in (List.mem_of_getElem? (i := 334) rfl) rfl
set_option maxRecDepth 20000 in
theorem tb_335 : (.methodLink "TwoSlots" 105 ⟨"TwoSlots", "isSlot", "(I)Z"⟩ : Cond) ∈ lw_tg := lw_tg_in (List.mem_of_getElem? (i := 335) rfl) rfl
set_option maxRecDepth 20000 in
theorem tb_336 : (.static ⟨"TwoSlots", "isSlot", "(I)Z"⟩ : Cond) ∈ lw_tg := lw_tg_in (List.mem_of_getElem? (i := 336) rfl) rfl
set_option maxRecDepth 20000 in
theorem tb_337 : (.code ⟨"TwoSlots", "isSlot", "(I)Z"⟩ prog_1_method_18_code 1 (some FieldType.boolean) : Cond) ∈ lw_tg := lw_tg_in (List.mem_of_getElem? (i := 337) rfl) rfl
set_option maxRecDepth 20000 in
theorem tb_338 : (.methodLink "TwoSlots" 108 ⟨"TwoSlots$Device", "row", "(I)LTwoSlots$Row;"⟩ : Cond) ∈ lw_tg := lw_tg_in (List.mem_of_getElem? (i := 338) rfl) rfl
set_option maxRecDepth 20000 in
theorem tb_339 : (.instanceMethod ⟨"TwoSlots$Device", "row", "(I)LTwoSlots$Row;"⟩ : Cond) ∈ lw_tg := lw_tg_in (List.mem_of_getElem? (i := 339) rfl) rfl
set_option maxRecDepth 20000 in
theorem tb_340 : (.selects "TwoSlots$Device" ⟨"TwoSlots$Device", "row", "(I)LTwoSlots$Row;"⟩ ⟨"TwoSlots$Device", "row", "(I)LTwoSlots$Row;"⟩ : Cond) ∈ lw_tg := lw_tg_in (List.mem_of_getElem? (i := 340) rfl) rfl
set_option maxRecDepth 20000 in
theorem tb_341 : (.code ⟨"TwoSlots$Device", "row", "(I)LTwoSlots$Row;"⟩ prog_2_method_7_code 2 (some (FieldType.object "TwoSlots$Row")) : Cond) ∈ lw_tg := lw_tg_in (List.mem_of_getElem? (i := 341) rfl) rfl
set_option maxRecDepth 20000 in
theorem tb_342 : (.methodLink "TwoSlots" 112 ⟨"TwoSlots$Row", "has", "(I)Z"⟩ : Cond) ∈ lw_tg := lw_tg_in (List.mem_of_getElem? (i := 342) rfl) rfl
set_option maxRecDepth 20000 in
theorem tb_343 : (.methodLink "TwoSlots" 113 ⟨"TwoSlots$Row", "change", "(II)V"⟩ : Cond) ∈ lw_tg := lw_tg_in (List.mem_of_getElem? (i := 343) rfl) rfl
set_option maxRecDepth 20000 in
theorem tb_344 : (.instanceMethod ⟨"TwoSlots$Row", "change", "(II)V"⟩ : Cond) ∈ lw_tg := lw_tg_in (List.mem_of_getElem? (i := 344) rfl) rfl
set_option maxRecDepth 20000 in
theorem tb_345 : (.selects "TwoSlots$Row" ⟨"TwoSlots$Row", "change", "(II)V"⟩ ⟨"TwoSlots$Row", "change", "(II)V"⟩ : Cond) ∈ lw_tg := lw_tg_in (List.mem_of_getElem? (i := 345) rfl) rfl
set_option maxRecDepth 20000 in
theorem tb_346 : (.code ⟨"TwoSlots$Row", "change", "(II)V"⟩ prog_4_method_8_code 3 none : Cond) ∈ lw_tg := lw_tg_in (List.mem_of_getElem? (i := 346) rfl) rfl
set_option maxRecDepth 20000 in
theorem tb_347 : (.methodLink "TwoSlotsLaw" 65 ⟨"TwoSlots", "slot", "(II)I"⟩ : Cond) ∈ lw_tg := lw_tg_in (List.mem_of_getElem? (i := 347) rfl) rfl
set_option maxRecDepth 20000 in
theorem tb_348 : (.instanceMethod ⟨"TwoSlots", "slot", "(II)I"⟩ : Cond) ∈ lw_tg := lw_tg_in (List.mem_of_getElem? (i := 348) rfl) rfl
set_option maxRecDepth 20000 in
theorem tb_349 : (.selects "TwoSlots" ⟨"TwoSlots", "slot", "(II)I"⟩ ⟨"TwoSlots", "slot", "(II)I"⟩ : Cond) ∈ lw_tg := lw_tg_in (List.mem_of_getElem? (i := 349) rfl) rfl
set_option maxRecDepth 20000 in
theorem tb_350 : (.code ⟨"TwoSlots", "slot", "(II)I"⟩ prog_1_method_14_code 3 (some FieldType.int) : Cond) ∈ lw_tg := lw_tg_in (List.mem_of_getElem? (i := 350) rfl) rfl
set_option maxRecDepth 20000 in
theorem tb_351 : (.methodLink "TwoSlots" 117 ⟨"TwoSlots$Row", "at", "(I)I"⟩ : Cond) ∈ lw_tg := lw_tg_in (List.mem_of_getElem? (i := 351) rfl) rfl
set_option maxRecDepth 20000 in
theorem tb_352 : (.methodLink "TwoSlotsLaw" 69 ⟨"TwoSlots", "state", "(I)I"⟩ : Cond) ∈ lw_tg := lw_tg_in (List.mem_of_getElem? (i := 352) rfl) rfl
set_option maxRecDepth 20000 in
theorem tb_353 : (.instanceMethod ⟨"TwoSlots", "state", "(I)I"⟩ : Cond) ∈ lw_tg := lw_tg_in (List.mem_of_getElem? (i := 353) rfl) rfl
set_option maxRecDepth 20000 in
theorem tb_354 : (.selects "TwoSlots" ⟨"TwoSlots", "state", "(I)I"⟩ ⟨"TwoSlots", "state", "(I)I"⟩ : Cond) ∈ lw_tg := lw_tg_in (List.mem_of_getElem? (i := 354) rfl) rfl
set_option maxRecDepth 20000 in
theorem tb_355 : (.code ⟨"TwoSlots", "state", "(I)I"⟩ prog_1_method_15_code 2 (some FieldType.int) : Cond) ∈ lw_tg := lw_tg_in (List.mem_of_getElem? (i := 355) rfl) rfl
set_option maxRecDepth 20000 in
theorem tb_356 : (.methodLink "TwoSlots" 118 ⟨"TwoSlots$Device", "stateNow", "()I"⟩ : Cond) ∈ lw_tg := lw_tg_in (List.mem_of_getElem? (i := 356) rfl) rfl
set_option maxRecDepth 20000 in
theorem tb_357 : (.instanceMethod ⟨"TwoSlots$Device", "stateNow", "()I"⟩ : Cond) ∈ lw_tg := lw_tg_in (List.mem_of_getElem? (i := 357) rfl) rfl
set_option maxRecDepth 20000 in
theorem tb_358 : (.selects "TwoSlots$Device" ⟨"TwoSlots$Device", "stateNow", "()I"⟩ ⟨"TwoSlots$Device", "stateNow", "()I"⟩ : Cond) ∈ lw_tg := lw_tg_in (List.mem_of_getElem? (i := 358) rfl) rfl
set_option maxRecDepth 20000 in
theorem tb_359 : (.code ⟨"TwoSlots$Device", "stateNow", "()I"⟩ prog_2_method_3_code 1 (some FieldType.int) : Cond) ∈ lw_tg := lw_tg_in (List.mem_of_getElem? (i := 359) rfl) rfl
set_option maxRecDepth 20000 in
theorem tb_360 : (.methodLink "TwoSlots" 121 ⟨"TwoSlots$Device", "runningSlot", "()I"⟩ : Cond) ∈ lw_tg := lw_tg_in (List.mem_of_getElem? (i := 360) rfl) rfl
set_option maxRecDepth 20000 in
theorem tb_361 : (.instanceMethod ⟨"TwoSlots$Device", "runningSlot", "()I"⟩ : Cond) ∈ lw_tg := lw_tg_in (List.mem_of_getElem? (i := 361) rfl) rfl
set_option maxRecDepth 20000 in
theorem tb_362 : (.selects "TwoSlots$Device" ⟨"TwoSlots$Device", "runningSlot", "()I"⟩ ⟨"TwoSlots$Device", "runningSlot", "()I"⟩ : Cond) ∈ lw_tg := lw_tg_in (List.mem_of_getElem? (i := 362) rfl) rfl
set_option maxRecDepth 20000 in
theorem tb_363 : (.code ⟨"TwoSlots$Device", "runningSlot", "()I"⟩ prog_2_method_4_code 1 (some FieldType.int) : Cond) ∈ lw_tg := lw_tg_in (List.mem_of_getElem? (i := 363) rfl) rfl
set_option maxRecDepth 20000 in
theorem tb_364 : (.methodLink "TwoSlots" 124 ⟨"TwoSlots$Device", "triesNow", "()I"⟩ : Cond) ∈ lw_tg := lw_tg_in (List.mem_of_getElem? (i := 364) rfl) rfl
set_option maxRecDepth 20000 in
theorem tb_365 : (.instanceMethod ⟨"TwoSlots$Device", "triesNow", "()I"⟩ : Cond) ∈ lw_tg := lw_tg_in (List.mem_of_getElem? (i := 365) rfl) rfl
set_option maxRecDepth 20000 in
theorem tb_366 : (.selects "TwoSlots$Device" ⟨"TwoSlots$Device", "triesNow", "()I"⟩ ⟨"TwoSlots$Device", "triesNow", "()I"⟩ : Cond) ∈ lw_tg := lw_tg_in (List.mem_of_getElem? (i := 366) rfl) rfl
set_option maxRecDepth 20000 in
theorem tb_367 : (.code ⟨"TwoSlots$Device", "triesNow", "()I"⟩ prog_2_method_5_code 1 (some FieldType.int) : Cond) ∈ lw_tg := lw_tg_in (List.mem_of_getElem? (i := 367) rfl) rfl
set_option maxRecDepth 20000 in
theorem tb_368 : (.methodLink "TwoSlots" 127 ⟨"TwoSlots$Device", "mark", "(I)I"⟩ : Cond) ∈ lw_tg := lw_tg_in (List.mem_of_getElem? (i := 368) rfl) rfl
set_option maxRecDepth 20000 in
theorem tb_369 : (.instanceMethod ⟨"TwoSlots$Device", "mark", "(I)I"⟩ : Cond) ∈ lw_tg := lw_tg_in (List.mem_of_getElem? (i := 369) rfl) rfl
set_option maxRecDepth 20000 in
theorem tb_370 : (.selects "TwoSlots$Device" ⟨"TwoSlots$Device", "mark", "(I)I"⟩ ⟨"TwoSlots$Device", "mark", "(I)I"⟩ : Cond) ∈ lw_tg := lw_tg_in (List.mem_of_getElem? (i := 370) rfl) rfl
set_option maxRecDepth 20000 in
theorem tb_371 : (.code ⟨"TwoSlots$Device", "mark", "(I)I"⟩ prog_2_method_6_code 2 (some FieldType.int) : Cond) ∈ lw_tg := lw_tg_in (List.mem_of_getElem? (i := 371) rfl) rfl
set_option maxRecDepth 20000 in
theorem tb_372 : (.methodLink "TwoSlots" 130 ⟨"TwoSlots$Device", "updateVersion", "()I"⟩ : Cond) ∈ lw_tg := lw_tg_in (List.mem_of_getElem? (i := 372) rfl) rfl
set_option maxRecDepth 20000 in
theorem tb_373 : (.instanceMethod ⟨"TwoSlots$Device", "updateVersion", "()I"⟩ : Cond) ∈ lw_tg := lw_tg_in (List.mem_of_getElem? (i := 373) rfl) rfl
set_option maxRecDepth 20000 in
theorem tb_374 : (.selects "TwoSlots$Device" ⟨"TwoSlots$Device", "updateVersion", "()I"⟩ ⟨"TwoSlots$Device", "updateVersion", "()I"⟩ : Cond) ∈ lw_tg := lw_tg_in (List.mem_of_getElem? (i := 374) rfl) rfl
set_option maxRecDepth 20000 in
theorem tb_375 : (.code ⟨"TwoSlots$Device", "updateVersion", "()I"⟩ prog_2_method_9_code 1 (some FieldType.int) : Cond) ∈ lw_tg := lw_tg_in (List.mem_of_getElem? (i := 375) rfl) rfl
set_option maxRecDepth 20000 in
theorem tb_376 : (.methodLink "TwoSlots" 133 ⟨"TwoSlots$Device", "blocksThere", "()I"⟩ : Cond) ∈ lw_tg := lw_tg_in (List.mem_of_getElem? (i := 376) rfl) rfl
set_option maxRecDepth 20000 in
theorem tb_377 : (.instanceMethod ⟨"TwoSlots$Device", "blocksThere", "()I"⟩ : Cond) ∈ lw_tg := lw_tg_in (List.mem_of_getElem? (i := 377) rfl) rfl
set_option maxRecDepth 20000 in
theorem tb_378 : (.selects "TwoSlots$Device" ⟨"TwoSlots$Device", "blocksThere", "()I"⟩ ⟨"TwoSlots$Device", "blocksThere", "()I"⟩ : Cond) ∈ lw_tg := lw_tg_in (List.mem_of_getElem? (i := 378) rfl) rfl
set_option maxRecDepth 20000 in
theorem tb_379 : (.code ⟨"TwoSlots$Device", "blocksThere", "()I"⟩ prog_2_method_10_code 1 (some FieldType.int) : Cond) ∈ lw_tg := lw_tg_in (List.mem_of_getElem? (i := 379) rfl) rfl
set_option maxRecDepth 20000 in
theorem tb_380 : (.methodLink "TwoSlotsLaw" 73 ⟨"TwoSlots", "sound", "(I)Z"⟩ : Cond) ∈ lw_tg := lw_tg_in (List.mem_of_getElem? (i := 380) rfl) rfl
set_option maxRecDepth 20000 in
theorem tb_381 : (.instanceMethod ⟨"TwoSlots", "sound", "(I)Z"⟩ : Cond) ∈ lw_tg := lw_tg_in (List.mem_of_getElem? (i := 381) rfl) rfl
set_option maxRecDepth 20000 in
theorem tb_382 : (.selects "TwoSlots" ⟨"TwoSlots", "sound", "(I)Z"⟩ ⟨"TwoSlots", "sound", "(I)Z"⟩ : Cond) ∈ lw_tg := lw_tg_in (List.mem_of_getElem? (i := 382) rfl) rfl
set_option maxRecDepth 20000 in
theorem tb_383 : (.code ⟨"TwoSlots", "sound", "(I)Z"⟩ prog_1_method_16_code 2 (some FieldType.boolean) : Cond) ∈ lw_tg := lw_tg_in (List.mem_of_getElem? (i := 383) rfl) rfl
set_option maxRecDepth 20000 in
theorem tb_384 : (.methodLink "TwoSlots" 136 ⟨"TwoSlots$Device", "isSound", "(I)Z"⟩ : Cond) ∈ lw_tg := lw_tg_in (List.mem_of_getElem? (i := 384) rfl) rfl
set_option maxRecDepth 20000 in
theorem tb_385 : (.classLink "TwoSlotsLaw" 10 "TwoSlotsModel" : Cond) ∈ lw_tg := lw_tg_in (List.mem_of_getElem? (i := 385) rfl) rfl
set_option maxRecDepth 20000 in
theorem tb_386 : (.instantiable "TwoSlotsModel" 18 : Cond) ∈ lw_tg := lw_tg_in (List.mem_of_getElem? (i := 386) rfl) rfl
set_option maxRecDepth 20000 in
theorem tb_387 : (.methodLink "TwoSlotsLaw" 12 ⟨"TwoSlotsModel", "<init>", "()V"⟩ : Cond) ∈ lw_tg := lw_tg_in (List.mem_of_getElem? (i := 387) rfl) rfl
set_option maxRecDepth 20000 in
theorem tb_388 : (.instanceMethod ⟨"TwoSlotsModel", "<init>", "()V"⟩ : Cond) ∈ lw_tg := lw_tg_in (List.mem_of_getElem? (i := 388) rfl) rfl
set_option maxRecDepth 20000 in
theorem tb_389 : (.code ⟨"TwoSlotsModel", "<init>", "()V"⟩ prog_6_method_1_code 1 none : Cond) ∈ lw_tg := lw_tg_in (List.mem_of_getElem? (i := 389) rfl) rfl
set_option maxRecDepth 20000 in
theorem tb_390 : (.methodLink "TwoSlotsModel" 1 ⟨"java/lang/Object", "<init>", "()V"⟩ : Cond) ∈ lw_tg := lw_tg_in (List.mem_of_getElem? (i := 390) rfl) rfl
set_option maxRecDepth 20000 in
theorem tb_391 : (.fieldLink "TwoSlotsModel" 7 "TwoSlotsModel" "version" "[I" : Cond) ∈ lw_tg := lw_tg_in (List.mem_of_getElem? (i := 391) rfl) rfl
set_option maxRecDepth 20000 in
theorem tb_392 : (.fieldLink "TwoSlotsModel" 13 "TwoSlotsModel" "length" "[I" : Cond) ∈ lw_tg := lw_tg_in (List.mem_of_getElem? (i := 392) rfl) rfl
set_option maxRecDepth 20000 in
theorem tb_393 : (.fieldLink "TwoSlotsModel" 43 "TwoSlotsModel" "versions" "I" : Cond) ∈ lw_tg := lw_tg_in (List.mem_of_getElem? (i := 393) rfl) rfl
set_option maxRecDepth 20000 in
theorem tb_394 : (.fieldLink "TwoSlotsModel" 16 "TwoSlotsModel" "draft" "[I" : Cond) ∈ lw_tg := lw_tg_in (List.mem_of_getElem? (i := 394) rfl) rfl
set_option maxRecDepth 20000 in
theorem tb_395 : (.fieldLink "TwoSlotsModel" 39 "TwoSlotsModel" "drafted" "I" : Cond) ∈ lw_tg := lw_tg_in (List.mem_of_getElem? (i := 395) rfl) rfl
set_option maxRecDepth 20000 in
theorem tb_396 : (.fieldLink "TwoSlotsModel" 19 "TwoSlotsModel" "patch" "[I" : Cond) ∈ lw_tg := lw_tg_in (List.mem_of_getElem? (i := 396) rfl) rfl
set_option maxRecDepth 20000 in
theorem tb_397 : (.fieldLink "TwoSlotsModel" 46 "TwoSlotsModel" "size" "I" : Cond) ∈ lw_tg := lw_tg_in (List.mem_of_getElem? (i := 397) rfl) rfl
set_option maxRecDepth 20000 in
theorem tb_398 : (.fieldLink "TwoSlotsModel" 49 "TwoSlotsModel" "copied" "I" : Cond) ∈ lw_tg := lw_tg_in (List.mem_of_getElem? (i := 398) rfl) rfl
set_option maxRecDepth 20000 in
theorem tb_399 : (.fieldLink "TwoSlotsModel" 22 "TwoSlotsModel" "row" "[I" : Cond) ∈ lw_tg := lw_tg_in (List.mem_of_getElem? (i := 399) rfl) rfl
set_option maxRecDepth 20000 in
theorem tb_400 : (.fieldLink "TwoSlotsModel" 25 "TwoSlotsModel" "rowLength" "[I" : Cond) ∈ lw_tg := lw_tg_in (List.mem_of_getElem? (i := 400) rfl) rfl
set_option maxRecDepth 20000 in
theorem tb_401 : (.fieldLink "TwoSlotsModel" 28 "TwoSlotsModel" "mark" "[I" : Cond) ∈ lw_tg := lw_tg_in (List.mem_of_getElem? (i := 401) rfl) rfl
set_option maxRecDepth 20000 in
theorem tb_402 : (.fieldLink "TwoSlotsModel" 71 "TwoSlotsModel" "runs" "I" : Cond) ∈ lw_tg := lw_tg_in (List.mem_of_getElem? (i := 402) rfl) rfl
set_option maxRecDepth 20000 in
theorem tb_403 : (.fieldLink "TwoSlotsModel" 68 "TwoSlotsModel" "state" "I" : Cond) ∈ lw_tg := lw_tg_in (List.mem_of_getElem? (i := 403) rfl) rfl
set_option maxRecDepth 20000 in
theorem tb_404 : (.fieldLink "TwoSlotsModel" 105 "TwoSlotsModel" "tries" "I" : Cond) ∈ lw_tg := lw_tg_in (List.mem_of_getElem? (i := 404) rfl) rfl
set_option maxRecDepth 20000 in
theorem tb_405 : (.fieldLink "TwoSlotsModel" 74 "TwoSlotsModel" "update" "I" : Cond) ∈ lw_tg := lw_tg_in (List.mem_of_getElem? (i := 405) rfl) rfl
set_option maxRecDepth 20000 in
theorem tb_406 : (.fieldLink "TwoSlotsModel" 31 "TwoSlotsModel" "there" "[Z" : Cond) ∈ lw_tg := lw_tg_in (List.mem_of_getElem? (i := 406) rfl) rfl
set_option maxRecDepth 20000 in
theorem tb_407 : (.fieldLink "TwoSlotsModel" 77 "TwoSlotsModel" "blocks" "I" : Cond) ∈ lw_tg := lw_tg_in (List.mem_of_getElem? (i := 407) rfl) rfl
set_option maxRecDepth 20000 in
theorem tb_408 : (.fieldLink "TwoSlotsModel" 80 "TwoSlotsModel" "next" "I" : Cond) ∈ lw_tg := lw_tg_in (List.mem_of_getElem? (i := 408) rfl) rfl
set_option maxRecDepth 20000 in
theorem tb_446 : (.methodLink "TwoSlotsLaw" 17 ⟨"TwoSlotsModel", "feed", "(I)I"⟩ : Cond) ∈ lw_tg := lw_tg_in (List.mem_of_getElem? (i := 446) rfl) rfl
set_option maxRecDepth 20000 in
theorem tb_447 : (.instanceMethod ⟨"TwoSlotsModel", "feed", "(I)I"⟩ : Cond) ∈ lw_tg := lw_tg_in (List.mem_of_getElem? (i := 447) rfl) rfl
set_option maxRecDepth 20000 in
theorem tb_448 : (.selects "TwoSlotsModel" ⟨"TwoSlotsModel", "feed", "(I)I"⟩ ⟨"TwoSlotsModel", "feed", "(I)I"⟩ : Cond) ∈ lw_tg := lw_tg_in (List.mem_of_getElem? (i := 448) rfl) rfl
set_option maxRecDepth 20000 in
theorem tb_449 : (.code ⟨"TwoSlotsModel", "feed", "(I)I"⟩ prog_6_method_3_code 2 (some FieldType.int) : Cond) ∈ lw_tg := lw_tg_in (List.mem_of_getElem? (i := 449) rfl) rfl
set_option maxRecDepth 20000 in
theorem tb_450 : (.methodLink "TwoSlotsModel" 35 ⟨"TwoSlotsModel", "in", "(III)Z"⟩ : Cond) ∈ lw_tg := lw_tg_in (List.mem_of_getElem? (i := 450) rfl) rfl
set_option maxRecDepth 20000 in
theorem tb_451 : (.static ⟨"TwoSlotsModel", "in", "(III)Z"⟩ : Cond) ∈ lw_tg := lw_tg_in (List.mem_of_getElem? (i := 451) rfl) rfl
set_option maxRecDepth 20000 in
theorem tb_452 : (.code ⟨"TwoSlotsModel", "in", "(III)Z"⟩ prog_6_method_2_code 3 (some FieldType.boolean) : Cond) ∈ lw_tg := lw_tg_in (List.mem_of_getElem? (i := 452) rfl) rfl
set_option maxRecDepth 20000 in
theorem tb_453 : (.methodLink "TwoSlotsLaw" 22 ⟨"TwoSlotsModel", "reuse", "(III)I"⟩ : Cond) ∈ lw_tg := lw_tg_in (List.mem_of_getElem? (i := 453) rfl) rfl
set_option maxRecDepth 20000 in
theorem tb_454 : (.instanceMethod ⟨"TwoSlotsModel", "reuse", "(III)I"⟩ : Cond) ∈ lw_tg := lw_tg_in (List.mem_of_getElem? (i := 454) rfl) rfl
set_option maxRecDepth 20000 in
theorem tb_455 : (.selects "TwoSlotsModel" ⟨"TwoSlotsModel", "reuse", "(III)I"⟩ ⟨"TwoSlotsModel", "reuse", "(III)I"⟩ : Cond) ∈ lw_tg := lw_tg_in (List.mem_of_getElem? (i := 455) rfl) rfl
set_option maxRecDepth 20000 in
theorem tb_456 : (.code ⟨"TwoSlotsModel", "reuse", "(III)I"⟩ prog_6_method_4_code 5 (some FieldType.int) : Cond) ∈ lw_tg := lw_tg_in (List.mem_of_getElem? (i := 456) rfl) rfl
set_option maxRecDepth 20000 in
theorem tb_457 : (.methodLink "TwoSlotsLaw" 27 ⟨"TwoSlotsModel", "publish", "()I"⟩ : Cond) ∈ lw_tg := lw_tg_in (List.mem_of_getElem? (i := 457) rfl) rfl
set_option maxRecDepth 20000 in
theorem tb_458 : (.instanceMethod ⟨"TwoSlotsModel", "publish", "()I"⟩ : Cond) ∈ lw_tg := lw_tg_in (List.mem_of_getElem? (i := 458) rfl) rfl
set_option maxRecDepth 20000 in
theorem tb_459 : (.selects "TwoSlotsModel" ⟨"TwoSlotsModel", "publish", "()I"⟩ ⟨"TwoSlotsModel", "publish", "()I"⟩ : Cond) ∈ lw_tg := lw_tg_in (List.mem_of_getElem? (i := 459) rfl) rfl
set_option maxRecDepth 20000 in
theorem tb_460 : (.code ⟨"TwoSlotsModel", "publish", "()I"⟩ prog_6_method_5_code 2 (some FieldType.int) : Cond) ∈ lw_tg := lw_tg_in (List.mem_of_getElem? (i := 460) rfl) rfl
set_option maxRecDepth 20000 in
theorem tb_461 : (.methodLink "TwoSlotsLaw" 32 ⟨"TwoSlotsModel", "patch", "(II)I"⟩ : Cond) ∈ lw_tg := lw_tg_in (List.mem_of_getElem? (i := 461) rfl) rfl
set_option maxRecDepth 20000 in
theorem tb_462 : (.instanceMethod ⟨"TwoSlotsModel", "patch", "(II)I"⟩ : Cond) ∈ lw_tg := lw_tg_in (List.mem_of_getElem? (i := 462) rfl) rfl
set_option maxRecDepth 20000 in
theorem tb_463 : (.selects "TwoSlotsModel" ⟨"TwoSlotsModel", "patch", "(II)I"⟩ ⟨"TwoSlotsModel", "patch", "(II)I"⟩ : Cond) ∈ lw_tg := lw_tg_in (List.mem_of_getElem? (i := 463) rfl) rfl
set_option maxRecDepth 20000 in
theorem tb_464 : (.code ⟨"TwoSlotsModel", "patch", "(II)I"⟩ prog_6_method_10_code 3 (some FieldType.int) : Cond) ∈ lw_tg := lw_tg_in (List.mem_of_getElem? (i := 464) rfl) rfl
set_option maxRecDepth 20000 in
theorem tb_465 : (.methodLink "TwoSlotsModel" 60 ⟨"TwoSlotsModel", "pair", "(II)Z"⟩ : Cond) ∈ lw_tg := lw_tg_in (List.mem_of_getElem? (i := 465) rfl) rfl
set_option maxRecDepth 20000 in
theorem tb_467 : (.instanceMethod ⟨"TwoSlotsModel", "pair", "(II)Z"⟩ : Cond) ∈ lw_tg := lw_tg_in (List.mem_of_getElem? (i := 467) rfl) rfl
set_option maxRecDepth 20000 in
theorem tb_468 : (.code ⟨"TwoSlotsModel", "pair", "(II)Z"⟩ prog_6_method_9_code 3 (some FieldType.boolean) : Cond) ∈ lw_tg := lw_tg_in (List.mem_of_getElem? (i := 468) rfl) rfl
set_option maxRecDepth 20000 in
theorem tb_469 : (.methodLink "TwoSlotsModel" 64 ⟨"TwoSlotsModel", "make", "(II)V"⟩ : Cond) ∈ lw_tg := lw_tg_in (List.mem_of_getElem? (i := 469) rfl) rfl
set_option maxRecDepth 20000 in
theorem tb_471 : (.instanceMethod ⟨"TwoSlotsModel", "make", "(II)V"⟩ : Cond) ∈ lw_tg := lw_tg_in (List.mem_of_getElem? (i := 471) rfl) rfl
set_option maxRecDepth 20000 in
theorem tb_472 : (.code ⟨"TwoSlotsModel", "make", "(II)V"⟩ prog_6_method_8_code 9 none : Cond) ∈ lw_tg := lw_tg_in (List.mem_of_getElem? (i := 472) rfl) rfl
set_option maxRecDepth 20000 in
theorem tb_473 : (.methodLink "TwoSlotsModel" 52 ⟨"TwoSlotsModel", "agree", "(IIII)I"⟩ : Cond) ∈ lw_tg := lw_tg_in (List.mem_of_getElem? (i := 473) rfl) rfl
set_option maxRecDepth 20000 in
theorem tb_475 : (.instanceMethod ⟨"TwoSlotsModel", "agree", "(IIII)I"⟩ : Cond) ∈ lw_tg := lw_tg_in (List.mem_of_getElem? (i := 475) rfl) rfl
set_option maxRecDepth 20000 in
theorem tb_476 : (.code ⟨"TwoSlotsModel", "agree", "(IIII)I"⟩ prog_6_method_6_code 6 (some FieldType.int) : Cond) ∈ lw_tg := lw_tg_in (List.mem_of_getElem? (i := 476) rfl) rfl
set_option maxRecDepth 20000 in
theorem tb_477 : (.methodLink "TwoSlotsModel" 56 ⟨"TwoSlotsModel", "put", "(I)V"⟩ : Cond) ∈ lw_tg := lw_tg_in (List.mem_of_getElem? (i := 477) rfl) rfl
set_option maxRecDepth 20000 in
theorem tb_479 : (.instanceMethod ⟨"TwoSlotsModel", "put", "(I)V"⟩ : Cond) ∈ lw_tg := lw_tg_in (List.mem_of_getElem? (i := 479) rfl) rfl
set_option maxRecDepth 20000 in
theorem tb_480 : (.code ⟨"TwoSlotsModel", "put", "(I)V"⟩ prog_6_method_7_code 2 none : Cond) ∈ lw_tg := lw_tg_in (List.mem_of_getElem? (i := 480) rfl) rfl
set_option maxRecDepth 20000 in
theorem tb_481 : (.methodLink "TwoSlotsLaw" 36 ⟨"TwoSlotsModel", "patchByte", "(III)I"⟩ : Cond) ∈ lw_tg := lw_tg_in (List.mem_of_getElem? (i := 481) rfl) rfl
set_option maxRecDepth 20000 in
theorem tb_482 : (.instanceMethod ⟨"TwoSlotsModel", "patchByte", "(III)I"⟩ : Cond) ∈ lw_tg := lw_tg_in (List.mem_of_getElem? (i := 482) rfl) rfl
set_option maxRecDepth 20000 in
theorem tb_483 : (.selects "TwoSlotsModel" ⟨"TwoSlotsModel", "patchByte", "(III)I"⟩ ⟨"TwoSlotsModel", "patchByte", "(III)I"⟩ : Cond) ∈ lw_tg := lw_tg_in (List.mem_of_getElem? (i := 483) rfl) rfl
set_option maxRecDepth 20000 in
theorem tb_484 : (.code ⟨"TwoSlotsModel", "patchByte", "(III)I"⟩ prog_6_method_11_code 4 (some FieldType.int) : Cond) ∈ lw_tg := lw_tg_in (List.mem_of_getElem? (i := 484) rfl) rfl
set_option maxRecDepth 20000 in
theorem tb_485 : (.methodLink "TwoSlotsLaw" 40 ⟨"TwoSlotsModel", "saved", "(II)I"⟩ : Cond) ∈ lw_tg := lw_tg_in (List.mem_of_getElem? (i := 485) rfl) rfl
set_option maxRecDepth 20000 in
theorem tb_486 : (.instanceMethod ⟨"TwoSlotsModel", "saved", "(II)I"⟩ : Cond) ∈ lw_tg := lw_tg_in (List.mem_of_getElem? (i := 486) rfl) rfl
set_option maxRecDepth 20000 in
theorem tb_487 : (.selects "TwoSlotsModel" ⟨"TwoSlotsModel", "saved", "(II)I"⟩ ⟨"TwoSlotsModel", "saved", "(II)I"⟩ : Cond) ∈ lw_tg := lw_tg_in (List.mem_of_getElem? (i := 487) rfl) rfl
set_option maxRecDepth 20000 in
theorem tb_488 : (.code ⟨"TwoSlotsModel", "saved", "(II)I"⟩ prog_6_method_12_code 3 (some FieldType.int) : Cond) ∈ lw_tg := lw_tg_in (List.mem_of_getElem? (i := 488) rfl) rfl
set_option maxRecDepth 20000 in
theorem tb_489 : (.methodLink "TwoSlotsLaw" 44 ⟨"TwoSlotsModel", "offer", "(I)I"⟩ : Cond) ∈ lw_tg := lw_tg_in (List.mem_of_getElem? (i := 489) rfl) rfl
set_option maxRecDepth 20000 in
theorem tb_490 : (.instanceMethod ⟨"TwoSlotsModel", "offer", "(I)I"⟩ : Cond) ∈ lw_tg := lw_tg_in (List.mem_of_getElem? (i := 490) rfl) rfl
set_option maxRecDepth 20000 in
theorem tb_491 : (.selects "TwoSlotsModel" ⟨"TwoSlotsModel", "offer", "(I)I"⟩ ⟨"TwoSlotsModel", "offer", "(I)I"⟩ : Cond) ∈ lw_tg := lw_tg_in (List.mem_of_getElem? (i := 491) rfl) rfl
set_option maxRecDepth 20000 in
theorem tb_492 : (.code ⟨"TwoSlotsModel", "offer", "(I)I"⟩ prog_6_method_14_code 3 (some FieldType.int) : Cond) ∈ lw_tg := lw_tg_in (List.mem_of_getElem? (i := 492) rfl) rfl
set_option maxRecDepth 20000 in
theorem tb_493 : (.methodLink "TwoSlotsLaw" 48 ⟨"TwoSlotsModel", "block", "(II)I"⟩ : Cond) ∈ lw_tg := lw_tg_in (List.mem_of_getElem? (i := 493) rfl) rfl
set_option maxRecDepth 20000 in
theorem tb_494 : (.instanceMethod ⟨"TwoSlotsModel", "block", "(II)I"⟩ : Cond) ∈ lw_tg := lw_tg_in (List.mem_of_getElem? (i := 494) rfl) rfl
set_option maxRecDepth 20000 in
theorem tb_495 : (.selects "TwoSlotsModel" ⟨"TwoSlotsModel", "block", "(II)I"⟩ ⟨"TwoSlotsModel", "block", "(II)I"⟩ : Cond) ∈ lw_tg := lw_tg_in (List.mem_of_getElem? (i := 495) rfl) rfl
set_option maxRecDepth 20000 in
theorem tb_496 : (.code ⟨"TwoSlotsModel", "block", "(II)I"⟩ prog_6_method_17_code 4 (some FieldType.int) : Cond) ∈ lw_tg := lw_tg_in (List.mem_of_getElem? (i := 496) rfl) rfl
set_option maxRecDepth 20000 in
theorem tb_497 : (.methodLink "TwoSlotsModel" 83 ⟨"TwoSlotsModel", "underWay", "()Z"⟩ : Cond) ∈ lw_tg := lw_tg_in (List.mem_of_getElem? (i := 497) rfl) rfl
set_option maxRecDepth 20000 in
theorem tb_499 : (.instanceMethod ⟨"TwoSlotsModel", "underWay", "()Z"⟩ : Cond) ∈ lw_tg := lw_tg_in (List.mem_of_getElem? (i := 499) rfl) rfl
set_option maxRecDepth 20000 in
theorem tb_500 : (.code ⟨"TwoSlotsModel", "underWay", "()Z"⟩ prog_6_method_13_code 1 (some FieldType.boolean) : Cond) ∈ lw_tg := lw_tg_in (List.mem_of_getElem? (i := 500) rfl) rfl
set_option maxRecDepth 20000 in
theorem tb_501 : (.methodLink "TwoSlotsModel" 87 ⟨"TwoSlotsModel", "missing", "()I"⟩ : Cond) ∈ lw_tg := lw_tg_in (List.mem_of_getElem? (i := 501) rfl) rfl
set_option maxRecDepth 20000 in
theorem tb_503 : (.instanceMethod ⟨"TwoSlotsModel", "missing", "()I"⟩ : Cond) ∈ lw_tg := lw_tg_in (List.mem_of_getElem? (i := 503) rfl) rfl
set_option maxRecDepth 20000 in
theorem tb_504 : (.code ⟨"TwoSlotsModel", "missing", "()I"⟩ prog_6_method_15_code 3 (some FieldType.int) : Cond) ∈ lw_tg := lw_tg_in (List.mem_of_getElem? (i := 504) rfl) rfl
set_option maxRecDepth 20000 in
theorem tb_505 : (.methodLink "TwoSlotsModel" 91 ⟨"TwoSlotsModel", "beginInstall", "()V"⟩ : Cond) ∈ lw_tg := lw_tg_in (List.mem_of_getElem? (i := 505) rfl) rfl
set_option maxRecDepth 20000 in
theorem tb_507 : (.instanceMethod ⟨"TwoSlotsModel", "beginInstall", "()V"⟩ : Cond) ∈ lw_tg := lw_tg_in (List.mem_of_getElem? (i := 507) rfl) rfl
set_option maxRecDepth 20000 in
theorem tb_508 : (.code ⟨"TwoSlotsModel", "beginInstall", "()V"⟩ prog_6_method_16_code 1 none : Cond) ∈ lw_tg := lw_tg_in (List.mem_of_getElem? (i := 508) rfl) rfl
set_option maxRecDepth 20000 in
theorem tb_509 : (.methodLink "TwoSlotsLaw" 52 ⟨"TwoSlotsModel", "install", "(I)I"⟩ : Cond) ∈ lw_tg := lw_tg_in (List.mem_of_getElem? (i := 509) rfl) rfl
set_option maxRecDepth 20000 in
theorem tb_510 : (.instanceMethod ⟨"TwoSlotsModel", "install", "(I)I"⟩ : Cond) ∈ lw_tg := lw_tg_in (List.mem_of_getElem? (i := 510) rfl) rfl
set_option maxRecDepth 20000 in
theorem tb_511 : (.selects "TwoSlotsModel" ⟨"TwoSlotsModel", "install", "(I)I"⟩ ⟨"TwoSlotsModel", "install", "(I)I"⟩ : Cond) ∈ lw_tg := lw_tg_in (List.mem_of_getElem? (i := 511) rfl) rfl
set_option maxRecDepth 20000 in
theorem tb_512 : (.code ⟨"TwoSlotsModel", "install", "(I)I"⟩ prog_6_method_20_code 3 (some FieldType.int) : Cond) ∈ lw_tg := lw_tg_in (List.mem_of_getElem? (i := 512) rfl) rfl
set_option maxRecDepth 20000 in
theorem tb_513 : (.methodLink "TwoSlotsModel" 101 ⟨"TwoSlotsModel", "piece", "()V"⟩ : Cond) ∈ lw_tg := lw_tg_in (List.mem_of_getElem? (i := 513) rfl) rfl
set_option maxRecDepth 20000 in
theorem tb_515 : (.instanceMethod ⟨"TwoSlotsModel", "piece", "()V"⟩ : Cond) ∈ lw_tg := lw_tg_in (List.mem_of_getElem? (i := 515) rfl) rfl
set_option maxRecDepth 20000 in
theorem tb_516 : (.code ⟨"TwoSlotsModel", "piece", "()V"⟩ prog_6_method_19_code 4 none : Cond) ∈ lw_tg := lw_tg_in (List.mem_of_getElem? (i := 516) rfl) rfl
set_option maxRecDepth 20000 in
theorem tb_517 : (.methodLink "TwoSlotsModel" 94 ⟨"TwoSlotsModel", "grow", "(I)V"⟩ : Cond) ∈ lw_tg := lw_tg_in (List.mem_of_getElem? (i := 517) rfl) rfl
set_option maxRecDepth 20000 in
theorem tb_519 : (.instanceMethod ⟨"TwoSlotsModel", "grow", "(I)V"⟩ : Cond) ∈ lw_tg := lw_tg_in (List.mem_of_getElem? (i := 519) rfl) rfl
set_option maxRecDepth 20000 in
theorem tb_520 : (.code ⟨"TwoSlotsModel", "grow", "(I)V"⟩ prog_6_method_18_code 3 none : Cond) ∈ lw_tg := lw_tg_in (List.mem_of_getElem? (i := 520) rfl) rfl
set_option maxRecDepth 20000 in
theorem tb_521 : (.methodLink "TwoSlotsModel" 97 ⟨"TwoSlotsModel", "sound", "(I)Z"⟩ : Cond) ∈ lw_tg := lw_tg_in (List.mem_of_getElem? (i := 521) rfl) rfl
set_option maxRecDepth 20000 in
theorem tb_522 : (.instanceMethod ⟨"TwoSlotsModel", "sound", "(I)Z"⟩ : Cond) ∈ lw_tg := lw_tg_in (List.mem_of_getElem? (i := 522) rfl) rfl
set_option maxRecDepth 20000 in
theorem tb_523 : (.selects "TwoSlotsModel" ⟨"TwoSlotsModel", "sound", "(I)Z"⟩ ⟨"TwoSlotsModel", "sound", "(I)Z"⟩ : Cond) ∈ lw_tg := lw_tg_in (List.mem_of_getElem? (i := 523) rfl) rfl
set_option maxRecDepth 20000 in
theorem tb_524 : (.code ⟨"TwoSlotsModel", "sound", "(I)Z"⟩ prog_6_method_27_code 2 (some FieldType.boolean) : Cond) ∈ lw_tg := lw_tg_in (List.mem_of_getElem? (i := 524) rfl) rfl
set_option maxRecDepth 20000 in
theorem tb_525 : (.methodLink "TwoSlotsModel" 108 ⟨"TwoSlotsModel", "check", "(IIZ)I"⟩ : Cond) ∈ lw_tg := lw_tg_in (List.mem_of_getElem? (i := 525) rfl) rfl
set_option maxRecDepth 20000 in
theorem tb_527 : (.instanceMethod ⟨"TwoSlotsModel", "check", "(IIZ)I"⟩ : Cond) ∈ lw_tg := lw_tg_in (List.mem_of_getElem? (i := 527) rfl) rfl
set_option maxRecDepth 20000 in
theorem tb_528 : (.code ⟨"TwoSlotsModel", "check", "(IIZ)I"⟩ prog_6_method_21_code 6 (some FieldType.int) : Cond) ∈ lw_tg := lw_tg_in (List.mem_of_getElem? (i := 528) rfl) rfl
set_option maxRecDepth 20000 in
theorem tb_529 : (.constant "TwoSlotsModel" 104 (65535 : Int32) : Cond) ∈ lw_tg := lw_tg_in (List.mem_of_getElem? (i := 529) rfl) rfl
set_option maxRecDepth 20000 in
theorem tb_530 : (.methodLink "TwoSlotsLaw" 56 ⟨"TwoSlotsModel", "boot", "()I"⟩ : Cond) ∈ lw_tg := lw_tg_in (List.mem_of_getElem? (i := 530) rfl) rfl
set_option maxRecDepth 20000 in
theorem tb_531 : (.instanceMethod ⟨"TwoSlotsModel", "boot", "()I"⟩ : Cond) ∈ lw_tg := lw_tg_in (List.mem_of_getElem? (i := 531) rfl) rfl
set_option maxRecDepth 20000 in
theorem tb_532 : (.selects "TwoSlotsModel" ⟨"TwoSlotsModel", "boot", "()I"⟩ ⟨"TwoSlotsModel", "boot", "()I"⟩ : Cond) ∈ lw_tg := lw_tg_in (List.mem_of_getElem? (i := 532) rfl) rfl
set_option maxRecDepth 20000 in
theorem tb_533 : (.code ⟨"TwoSlotsModel", "boot", "()I"⟩ prog_6_method_22_code 1 (some FieldType.int) : Cond) ∈ lw_tg := lw_tg_in (List.mem_of_getElem? (i := 533) rfl) rfl
set_option maxRecDepth 20000 in
theorem tb_534 : (.methodLink "TwoSlotsLaw" 60 ⟨"TwoSlotsModel", "confirm", "()I"⟩ : Cond) ∈ lw_tg := lw_tg_in (List.mem_of_getElem? (i := 534) rfl) rfl
set_option maxRecDepth 20000 in
theorem tb_535 : (.instanceMethod ⟨"TwoSlotsModel", "confirm", "()I"⟩ : Cond) ∈ lw_tg := lw_tg_in (List.mem_of_getElem? (i := 535) rfl) rfl
set_option maxRecDepth 20000 in
theorem tb_536 : (.selects "TwoSlotsModel" ⟨"TwoSlotsModel", "confirm", "()I"⟩ ⟨"TwoSlotsModel", "confirm", "()I"⟩ : Cond) ∈ lw_tg := lw_tg_in (List.mem_of_getElem? (i := 536) rfl) rfl
set_option maxRecDepth 20000 in
theorem tb_537 : (.code ⟨"TwoSlotsModel", "confirm", "()I"⟩ prog_6_method_23_code 1 (some FieldType.int) : Cond) ∈ lw_tg := lw_tg_in (List.mem_of_getElem? (i := 537) rfl) rfl
set_option maxRecDepth 20000 in
theorem tb_538 : (.methodLink "TwoSlotsLaw" 64 ⟨"TwoSlotsModel", "damage", "(III)I"⟩ : Cond) ∈ lw_tg := lw_tg_in (List.mem_of_getElem? (i := 538) rfl) rfl
set_option maxRecDepth 20000 in
theorem tb_539 : (.instanceMethod ⟨"TwoSlotsModel", "damage", "(III)I"⟩ : Cond) ∈ lw_tg := lw_tg_in (List.mem_of_getElem? (i := 539) rfl) rfl
set_option maxRecDepth 20000 in
theorem tb_540 : (.selects "TwoSlotsModel" ⟨"TwoSlotsModel", "damage", "(III)I"⟩ ⟨"TwoSlotsModel", "damage", "(III)I"⟩ : Cond) ∈ lw_tg := lw_tg_in (List.mem_of_getElem? (i := 540) rfl) rfl
set_option maxRecDepth 20000 in
theorem tb_541 : (.code ⟨"TwoSlotsModel", "damage", "(III)I"⟩ prog_6_method_24_code 4 (some FieldType.int) : Cond) ∈ lw_tg := lw_tg_in (List.mem_of_getElem? (i := 541) rfl) rfl
set_option maxRecDepth 20000 in
theorem tb_542 : (.methodLink "TwoSlotsLaw" 68 ⟨"TwoSlotsModel", "slot", "(II)I"⟩ : Cond) ∈ lw_tg := lw_tg_in (List.mem_of_getElem? (i := 542) rfl) rfl
set_option maxRecDepth 20000 in
theorem tb_543 : (.instanceMethod ⟨"TwoSlotsModel", "slot", "(II)I"⟩ : Cond) ∈ lw_tg := lw_tg_in (List.mem_of_getElem? (i := 543) rfl) rfl
set_option maxRecDepth 20000 in
theorem tb_544 : (.selects "TwoSlotsModel" ⟨"TwoSlotsModel", "slot", "(II)I"⟩ ⟨"TwoSlotsModel", "slot", "(II)I"⟩ : Cond) ∈ lw_tg := lw_tg_in (List.mem_of_getElem? (i := 544) rfl) rfl
set_option maxRecDepth 20000 in
theorem tb_545 : (.code ⟨"TwoSlotsModel", "slot", "(II)I"⟩ prog_6_method_25_code 3 (some FieldType.int) : Cond) ∈ lw_tg := lw_tg_in (List.mem_of_getElem? (i := 545) rfl) rfl
set_option maxRecDepth 20000 in
theorem tb_546 : (.methodLink "TwoSlotsLaw" 72 ⟨"TwoSlotsModel", "state", "(I)I"⟩ : Cond) ∈ lw_tg := lw_tg_in (List.mem_of_getElem? (i := 546) rfl) rfl
set_option maxRecDepth 20000 in
theorem tb_547 : (.instanceMethod ⟨"TwoSlotsModel", "state", "(I)I"⟩ : Cond) ∈ lw_tg := lw_tg_in (List.mem_of_getElem? (i := 547) rfl) rfl
set_option maxRecDepth 20000 in
theorem tb_548 : (.selects "TwoSlotsModel" ⟨"TwoSlotsModel", "state", "(I)I"⟩ ⟨"TwoSlotsModel", "state", "(I)I"⟩ : Cond) ∈ lw_tg := lw_tg_in (List.mem_of_getElem? (i := 548) rfl) rfl
set_option maxRecDepth 20000 in
theorem tb_549 : (.code ⟨"TwoSlotsModel", "state", "(I)I"⟩ prog_6_method_26_code 2 (some FieldType.int) : Cond) ∈ lw_tg := lw_tg_in (List.mem_of_getElem? (i := 549) rfl) rfl
set_option maxRecDepth 20000 in
theorem tb_550 : (.methodLink "TwoSlotsLaw" 77 ⟨"TwoSlotsModel", "sound", "(I)Z"⟩ : Cond) ∈ lw_tg := lw_tg_in (List.mem_of_getElem? (i := 550) rfl) rfl
