/-! names: written by wip/whole/gen/names.py out of the Statement -/
def gW : List Cond := lw_tbl.filter goodWord
theorem gW_good : GoodIn gW gW := fun w h => ⟨h, good_of_word (List.mem_filter.mp h).2⟩
theorem gW_t {w : Cond} (h : w ∈ tables_1) (g : goodWord w = true) : w ∈ gW := List.mem_filter.mpr ⟨List.mem_append_right _ h, g⟩
theorem gW_s {w : Cond} (h : w ∈ k2_sels lw_privs) (g : goodWord w = true) : w ∈ gW := List.mem_filter.mpr ⟨List.mem_append_left _ h, g⟩
def mw (y : MethodName) (b : ByteArray) (n : Nat) (ret : Option FieldType) : List Cond := .code y b n ret :: gW
abbrev b_P_init : ByteArray := prog_1_method_1_code
abbrev y_P_init : MethodName := ⟨"PinModule", "<init>", "()V"⟩
abbrev b_O_init : ByteArray := object_method_1_code
abbrev y_O_init : MethodName := ⟨"java/lang/Object", "<init>", "()V"⟩
abbrev b_S_init : ByteArray := prog_6_method_1_code
abbrev y_S_init : MethodName := ⟨"PinModule$Slots", "<init>", "()V"⟩
abbrev b_T_init : ByteArray := prog_7_method_1_code
abbrev y_T_init : MethodName := ⟨"PinModule$Terminals", "<init>", "()V"⟩
abbrev b_D_init : ByteArray := prog_3_method_1_code
abbrev y_D_init : MethodName := ⟨"PinModule$Des", "<init>", "()V"⟩
abbrev b_C_init : ByteArray := prog_2_method_1_code
abbrev y_C_init : MethodName := ⟨"PinModule$Cipher", "<init>", "()V"⟩
abbrev b_P_load : ByteArray := prog_1_method_7_code
abbrev y_P_load : MethodName := ⟨"PinModule", "load", "(IIZ)I"⟩
abbrev b_S_isNumber : ByteArray := prog_6_method_2_code
abbrev y_S_isNumber : MethodName := ⟨"PinModule$Slots", "isNumber", "(I)Z"⟩
abbrev b_P_withOddParity : ByteArray := prog_1_method_31_code
abbrev y_P_withOddParity : MethodName := ⟨"PinModule", "withOddParity", "(J)J"⟩
abbrev b_JL_bitCount : ByteArray := prog_14_method_50_code
abbrev y_JL_bitCount : MethodName := ⟨"java/lang/Long", "bitCount", "(J)I"⟩
abbrev b_S_fill : ByteArray := prog_6_method_3_code
abbrev y_S_fill : MethodName := ⟨"PinModule$Slots", "fill", "(IIZJJ)V"⟩
abbrev b_C_take : ByteArray := prog_2_method_2_code
abbrev y_C_take : MethodName := ⟨"PinModule$Cipher", "take", "(JJ)V"⟩
abbrev b_D_take : ByteArray := prog_3_method_2_code
abbrev y_D_take : MethodName := ⟨"PinModule$Des", "take", "(J)V"⟩
abbrev b_D_picked : ByteArray := prog_3_method_8_code
abbrev y_D_picked : MethodName := ⟨"PinModule$Des", "picked", "(JI[B)J"⟩
abbrev b_D_turned : ByteArray := prog_3_method_7_code
abbrev y_D_turned : MethodName := ⟨"PinModule$Des", "turned", "(JI)J"⟩
abbrev b_C_checkValue : ByteArray := prog_2_method_5_code
abbrev y_C_checkValue : MethodName := ⟨"PinModule$Cipher", "checkValue", "()I"⟩
abbrev b_C_sealBlock : ByteArray := prog_2_method_3_code
abbrev y_C_sealBlock : MethodName := ⟨"PinModule$Cipher", "sealBlock", "(J)J"⟩
abbrev b_D_encrypted : ByteArray := prog_3_method_3_code
abbrev y_D_encrypted : MethodName := ⟨"PinModule$Des", "encrypted", "(J)J"⟩
abbrev b_D_done : ByteArray := prog_3_method_5_code
abbrev y_D_done : MethodName := ⟨"PinModule$Des", "done", "(JZ)J"⟩
abbrev b_D_boxed : ByteArray := prog_3_method_6_code
abbrev y_D_boxed : MethodName := ⟨"PinModule$Des", "boxed", "(IJ)I"⟩
abbrev b_D_decrypted : ByteArray := prog_3_method_4_code
abbrev y_D_decrypted : MethodName := ⟨"PinModule$Des", "decrypted", "(J)J"⟩
abbrev b_P_clear : ByteArray := prog_1_method_8_code
abbrev y_P_clear : MethodName := ⟨"PinModule", "clear", "(I)I"⟩
abbrev b_P_refusalOfSlot : ByteArray := prog_1_method_21_code
abbrev y_P_refusalOfSlot : MethodName := ⟨"PinModule", "refusalOfSlot", "(I)I"⟩
abbrev b_S_empty : ByteArray := prog_6_method_4_code
abbrev y_S_empty : MethodName := ⟨"PinModule$Slots", "empty", "(I)V"⟩
abbrev b_P_usage : ByteArray := prog_1_method_9_code
abbrev y_P_usage : MethodName := ⟨"PinModule", "usage", "(I)I"⟩
abbrev b_P_wrap : ByteArray := prog_1_method_10_code
abbrev y_P_wrap : MethodName := ⟨"PinModule", "wrap", "(I)I"⟩
abbrev b_K_header : ByteArray := prog_4_method_2_code
abbrev y_K_header : MethodName := ⟨"PinModule$KeyBlock", "header", "(I)J"⟩
abbrev b_K_firstLong : ByteArray := prog_4_method_4_code
abbrev y_K_firstLong : MethodName := ⟨"PinModule$KeyBlock", "firstLong", "(J)J"⟩
abbrev b_K_secondLong : ByteArray := prog_4_method_5_code
abbrev y_K_secondLong : MethodName := ⟨"PinModule$KeyBlock", "secondLong", "(JJ)J"⟩
abbrev b_K_thirdLong : ByteArray := prog_4_method_6_code
abbrev y_K_thirdLong : MethodName := ⟨"PinModule$KeyBlock", "thirdLong", "(J)J"⟩
abbrev b_P_codeOfKeyBlock : ByteArray := prog_1_method_27_code
abbrev y_P_codeOfKeyBlock : MethodName := ⟨"PinModule", "codeOfKeyBlock", "()J"⟩
abbrev b_P_unwrap : ByteArray := prog_1_method_11_code
abbrev y_P_unwrap : MethodName := ⟨"PinModule", "unwrap", "(I)I"⟩
abbrev b_K_usageOfHeader : ByteArray := prog_4_method_3_code
abbrev y_K_usageOfHeader : MethodName := ⟨"PinModule$KeyBlock", "usageOfHeader", "(J)I"⟩
abbrev b_C_openBlock : ByteArray := prog_2_method_4_code
abbrev y_C_openBlock : MethodName := ⟨"PinModule$Cipher", "openBlock", "(J)J"⟩
abbrev b_K_leftHalf : ByteArray := prog_4_method_7_code
abbrev y_K_leftHalf : MethodName := ⟨"PinModule$KeyBlock", "leftHalf", "(JJ)J"⟩
abbrev b_K_rightHalf : ByteArray := prog_4_method_8_code
abbrev y_K_rightHalf : MethodName := ⟨"PinModule$KeyBlock", "rightHalf", "(JJ)J"⟩
abbrev b_K_isFramed : ByteArray := prog_4_method_9_code
abbrev y_K_isFramed : MethodName := ⟨"PinModule$KeyBlock", "isFramed", "(JJ)Z"⟩
abbrev b_P_terminal : ByteArray := prog_1_method_12_code
abbrev y_P_terminal : MethodName := ⟨"PinModule", "terminal", "(IIJ)I"⟩
abbrev b_T_isNumber : ByteArray := prog_7_method_2_code
abbrev y_T_isNumber : MethodName := ⟨"PinModule$Terminals", "isNumber", "(I)Z"⟩
abbrev b_T_isSerial : ByteArray := prog_7_method_3_code
abbrev y_T_isSerial : MethodName := ⟨"PinModule$Terminals", "isSerial", "(J)Z"⟩
abbrev b_T_make : ByteArray := prog_7_method_4_code
abbrev y_T_make : MethodName := ⟨"PinModule$Terminals", "make", "(IJJJLPinModule$Cipher;)V"⟩
abbrev b_P_next : ByteArray := prog_1_method_13_code
abbrev y_P_next : MethodName := ⟨"PinModule", "next", "(I)I"⟩
abbrev b_T_counter : ByteArray := prog_7_method_5_code
abbrev y_T_counter : MethodName := ⟨"PinModule$Terminals", "counter", "(I)I"⟩
abbrev b_T_advance : ByteArray := prog_7_method_7_code
abbrev y_T_advance : MethodName := ⟨"PinModule$Terminals", "advance", "(II)I"⟩
abbrev b_T_leastAllowed : ByteArray := prog_7_method_8_code
abbrev y_T_leastAllowed : MethodName := ⟨"PinModule$Terminals", "leastAllowed", "(I)I"⟩
abbrev b_JI_bitCount : ByteArray := prog_13_method_49_code
abbrev y_JI_bitCount : MethodName := ⟨"java/lang/Integer", "bitCount", "(I)I"⟩
abbrev b_T_withoutCounter : ByteArray := prog_7_method_6_code
abbrev y_T_withoutCounter : MethodName := ⟨"PinModule$Terminals", "withoutCounter", "(I)J"⟩
abbrev b_P_skip : ByteArray := prog_1_method_14_code
abbrev y_P_skip : MethodName := ⟨"PinModule", "skip", "(II)I"⟩
abbrev b_P_check : ByteArray := prog_1_method_15_code
abbrev y_P_check : MethodName := ⟨"PinModule", "check", "(I)I"⟩
abbrev b_P_isKeyNumber : ByteArray := prog_1_method_22_code
abbrev y_P_isKeyNumber : MethodName := ⟨"PinModule", "isKeyNumber", "(I)Z"⟩
abbrev b_P_hasKey : ByteArray := prog_1_method_23_code
abbrev y_P_hasKey : MethodName := ⟨"PinModule", "hasKey", "(I)Z"⟩
abbrev b_P_takeKey : ByteArray := prog_1_method_25_code
abbrev y_P_takeKey : MethodName := ⟨"PinModule", "takeKey", "(IJ)V"⟩
abbrev b_T_deriveCurrentKey : ByteArray := prog_7_method_9_code
abbrev y_T_deriveCurrentKey : MethodName := ⟨"PinModule$Terminals", "deriveCurrentKey", "(I)V"⟩
abbrev b_T_derivedHalf : ByteArray := prog_7_method_10_code
abbrev y_T_derivedHalf : MethodName := ⟨"PinModule$Terminals", "derivedHalf", "(JJJ)J"⟩
abbrev b_P_pin : ByteArray := prog_1_method_16_code
abbrev y_P_pin : MethodName := ⟨"PinModule", "pin", "(IIJJJ)I"⟩
abbrev b_B_isFormat : ByteArray := prog_5_method_2_code
abbrev y_B_isFormat : MethodName := ⟨"PinModule$PinBlock", "isFormat", "(I)Z"⟩
abbrev b_B_isLength : ByteArray := prog_5_method_3_code
abbrev y_B_isLength : MethodName := ⟨"PinModule$PinBlock", "isLength", "(I)Z"⟩
abbrev b_P_areDigits : ByteArray := prog_1_method_29_code
abbrev y_P_areDigits : MethodName := ⟨"PinModule", "areDigits", "(JI)Z"⟩
abbrev b_B_fillCount : ByteArray := prog_5_method_4_code
abbrev y_B_fillCount : MethodName := ⟨"PinModule$PinBlock", "fillCount", "(I)I"⟩
abbrev b_B_mayFill : ByteArray := prog_5_method_5_code
abbrev y_B_mayFill : MethodName := ⟨"PinModule$PinBlock", "mayFill", "(IJI)Z"⟩
abbrev b_B_areAtLeast : ByteArray := prog_5_method_11_code
abbrev y_B_areAtLeast : MethodName := ⟨"PinModule$PinBlock", "areAtLeast", "(IJI)Z"⟩
abbrev b_P_isPinKey : ByteArray := prog_1_method_24_code
abbrev y_P_isPinKey : MethodName := ⟨"PinModule", "isPinKey", "(I)Z"⟩
abbrev b_B_made : ByteArray := prog_5_method_6_code
abbrev y_B_made : MethodName := ⟨"PinModule$PinBlock", "made", "(IJIJJ)J"⟩
abbrev b_B_accountPart : ByteArray := prog_5_method_7_code
abbrev y_B_accountPart : MethodName := ⟨"PinModule$PinBlock", "accountPart", "(IJ)J"⟩
abbrev b_P_translate : ByteArray := prog_1_method_17_code
abbrev y_P_translate : MethodName := ⟨"PinModule", "translate", "(IIIJJ)I"⟩
abbrev b_P_openedPinBlock : ByteArray := prog_1_method_26_code
abbrev y_P_openedPinBlock : MethodName := ⟨"PinModule", "openedPinBlock", "(IJ)J"⟩
abbrev b_B_isOf : ByteArray := prog_5_method_8_code
abbrev y_B_isOf : MethodName := ⟨"PinModule$PinBlock", "isOf", "(IJ)Z"⟩
abbrev b_B_lengthOf : ByteArray := prog_5_method_9_code
abbrev y_B_lengthOf : MethodName := ⟨"PinModule$PinBlock", "lengthOf", "(J)I"⟩
abbrev b_B_digitsOf : ByteArray := prog_5_method_10_code
abbrev y_B_digitsOf : MethodName := ⟨"PinModule$PinBlock", "digitsOf", "(JI)J"⟩
abbrev b_P_verify : ByteArray := prog_1_method_18_code
abbrev y_P_verify : MethodName := ⟨"PinModule", "verify", "(IIJI)I"⟩
abbrev b_P_isRightPin : ByteArray := prog_1_method_30_code
abbrev y_P_isRightPin : MethodName := ⟨"PinModule", "isRightPin", "(JJJ)Z"⟩
abbrev b_P_code : ByteArray := prog_1_method_19_code
abbrev y_P_code : MethodName := ⟨"PinModule", "code", "(II)I"⟩
abbrev b_P_paddedLong : ByteArray := prog_1_method_28_code
abbrev y_P_paddedLong : MethodName := ⟨"PinModule", "paddedLong", "(II)J"⟩
abbrev b_L_component : ByteArray := method_3_code
abbrev y_L_component : MethodName := ⟨"PinModuleLaw", "component", "(LPinModule;IIJ)I"⟩
abbrev b_P_component : ByteArray := prog_1_method_2_code
abbrev y_P_component : MethodName := ⟨"PinModule", "component", "(IIJ)V"⟩
abbrev b_Th_init0 : ByteArray := prog_17_method_1_code
abbrev y_Th_init0 : MethodName := ⟨"java/lang/Throwable", "<init>", "()V"⟩
abbrev b_Th_fill0 : ByteArray := prog_17_method_18_code
abbrev y_Th_fill0 : MethodName := ⟨"java/lang/Throwable", "fillInStackTrace", "()Ljava/lang/Throwable;"⟩
abbrev b_Ia_initS : ByteArray := prog_11_method_2_code
abbrev y_Ia_initS : MethodName := ⟨"java/lang/IllegalArgumentException", "<init>", "(Ljava/lang/String;)V"⟩
abbrev b_Rt_initS : ByteArray := prog_15_method_2_code
abbrev y_Rt_initS : MethodName := ⟨"java/lang/RuntimeException", "<init>", "(Ljava/lang/String;)V"⟩
abbrev b_Ex_initS : ByteArray := prog_10_method_2_code
abbrev y_Ex_initS : MethodName := ⟨"java/lang/Exception", "<init>", "(Ljava/lang/String;)V"⟩
abbrev b_Th_initS : ByteArray := prog_17_method_2_code
abbrev y_Th_initS : MethodName := ⟨"java/lang/Throwable", "<init>", "(Ljava/lang/String;)V"⟩
abbrev b_Is_initS : ByteArray := prog_12_method_2_code
abbrev y_Is_initS : MethodName := ⟨"java/lang/IllegalStateException", "<init>", "(Ljava/lang/String;)V"⟩
abbrev b_L_seal : ByteArray := method_4_code
abbrev y_L_seal : MethodName := ⟨"PinModuleLaw", "seal", "(LPinModule;[J)I"⟩
abbrev b_P_seal : ByteArray := prog_1_method_3_code
abbrev y_P_seal : MethodName := ⟨"PinModule", "seal", "()I"⟩
abbrev b_P_allHalvesTold : ByteArray := prog_1_method_20_code
abbrev y_P_allHalvesTold : MethodName := ⟨"PinModule", "allHalvesTold", "()Z"⟩
abbrev b_L_poke : ByteArray := method_5_code
abbrev y_L_poke : MethodName := ⟨"PinModuleLaw", "poke", "(LPinModule;IJ)I"⟩
abbrev b_P_poke : ByteArray := prog_1_method_4_code
abbrev y_P_poke : MethodName := ⟨"PinModule", "poke", "(IJ)V"⟩
abbrev b_L_peek : ByteArray := method_6_code
abbrev y_L_peek : MethodName := ⟨"PinModuleLaw", "peek", "(LPinModule;I[J)I"⟩
abbrev b_P_peek : ByteArray := prog_1_method_5_code
abbrev y_P_peek : MethodName := ⟨"PinModule", "peek", "(I)J"⟩
abbrev b_L_message : ByteArray := method_7_code
abbrev y_L_message : MethodName := ⟨"PinModuleLaw", "message", "(LPinModule;IJ)I"⟩
abbrev b_P_message : ByteArray := prog_1_method_6_code
abbrev y_P_message : MethodName := ⟨"PinModule", "message", "(IJ)V"⟩
abbrev b_M_init : ByteArray := prog_9_method_1_code
abbrev y_M_init : MethodName := ⟨"PinModuleModel", "<init>", "()V"⟩
abbrev b_M_thrown : ByteArray := prog_9_method_2_code
abbrev y_M_thrown : MethodName := ⟨"PinModuleModel", "thrown", "()I"⟩
abbrev b_M_component : ByteArray := prog_9_method_14_code
abbrev y_M_component : MethodName := ⟨"PinModuleModel", "component", "(IIJ)V"⟩
abbrev b_M_in : ByteArray := prog_9_method_4_code
abbrev y_M_in : MethodName := ⟨"PinModuleModel", "in", "(JJJ)Z"⟩
abbrev b_M_throwing : ByteArray := prog_9_method_3_code
abbrev y_M_throwing : MethodName := ⟨"PinModuleModel", "throwing", "(ZZ)Z"⟩
abbrev b_M_seal : ByteArray := prog_9_method_15_code
abbrev y_M_seal : MethodName := ⟨"PinModuleModel", "seal", "()I"⟩
abbrev b_M_odd : ByteArray := prog_9_method_12_code
abbrev y_M_odd : MethodName := ⟨"PinModuleModel", "odd", "(J)J"⟩
abbrev b_M_checkOf : ByteArray := prog_9_method_13_code
abbrev y_M_checkOf : MethodName := ⟨"PinModuleModel", "checkOf", "(JJ)I"⟩
abbrev b_M_sealBlock : ByteArray := prog_9_method_10_code
abbrev y_M_sealBlock : MethodName := ⟨"PinModuleModel", "sealBlock", "(JJJ)J"⟩
abbrev b_M_des : ByteArray := prog_9_method_9_code
abbrev y_M_des : MethodName := ⟨"PinModuleModel", "des", "(JJZ)J"⟩
abbrev b_M_schedule : ByteArray := prog_9_method_6_code
abbrev y_M_schedule : MethodName := ⟨"PinModuleModel", "schedule", "(J)V"⟩
abbrev b_M_bit : ByteArray := prog_9_method_5_code
abbrev y_M_bit : MethodName := ⟨"PinModuleModel", "bit", "(JII)J"⟩
abbrev b_M_initial : ByteArray := prog_9_method_8_code
abbrev y_M_initial : MethodName := ⟨"PinModuleModel", "initial", "(I)I"⟩
abbrev b_M_mangle : ByteArray := prog_9_method_7_code
abbrev y_M_mangle : MethodName := ⟨"PinModuleModel", "mangle", "(JJ)J"⟩
abbrev b_M_poke : ByteArray := prog_9_method_16_code
abbrev y_M_poke : MethodName := ⟨"PinModuleModel", "poke", "(IJ)V"⟩
abbrev b_M_peek : ByteArray := prog_9_method_17_code
abbrev y_M_peek : MethodName := ⟨"PinModuleModel", "peek", "(I)J"⟩
abbrev b_M_message : ByteArray := prog_9_method_18_code
abbrev y_M_message : MethodName := ⟨"PinModuleModel", "message", "(IJ)V"⟩
abbrev b_M_load : ByteArray := prog_9_method_21_code
abbrev y_M_load : MethodName := ⟨"PinModuleModel", "load", "(IIZ)I"⟩
abbrev b_M_isSlot : ByteArray := prog_9_method_19_code
abbrev y_M_isSlot : MethodName := ⟨"PinModuleModel", "isSlot", "(I)Z"⟩
abbrev b_M_fill : ByteArray := prog_9_method_20_code
abbrev y_M_fill : MethodName := ⟨"PinModuleModel", "fill", "(IIZJJ)V"⟩
abbrev b_M_clear : ByteArray := prog_9_method_22_code
abbrev y_M_clear : MethodName := ⟨"PinModuleModel", "clear", "(I)I"⟩
abbrev b_M_usage : ByteArray := prog_9_method_23_code
abbrev y_M_usage : MethodName := ⟨"PinModuleModel", "usage", "(I)I"⟩
abbrev b_M_wrap : ByteArray := prog_9_method_27_code
abbrev y_M_wrap : MethodName := ⟨"PinModuleModel", "wrap", "(I)I"⟩
abbrev b_M_header : ByteArray := prog_9_method_25_code
abbrev y_M_header : MethodName := ⟨"PinModuleModel", "header", "(I)J"⟩
abbrev b_M_letter : ByteArray := prog_9_method_24_code
abbrev y_M_letter : MethodName := ⟨"PinModuleModel", "letter", "(I)J"⟩
abbrev b_M_codeOfBlock : ByteArray := prog_9_method_26_code
abbrev y_M_codeOfBlock : MethodName := ⟨"PinModuleModel", "codeOfBlock", "()J"⟩
abbrev b_M_unwrap : ByteArray := prog_9_method_28_code
abbrev y_M_unwrap : MethodName := ⟨"PinModuleModel", "unwrap", "(I)I"⟩
abbrev b_M_openBlock : ByteArray := prog_9_method_11_code
abbrev y_M_openBlock : MethodName := ⟨"PinModuleModel", "openBlock", "(JJJ)J"⟩
abbrev b_M_terminal : ByteArray := prog_9_method_30_code
abbrev y_M_terminal : MethodName := ⟨"PinModuleModel", "terminal", "(IIJ)I"⟩
abbrev b_M_isTerminal : ByteArray := prog_9_method_29_code
abbrev y_M_isTerminal : MethodName := ⟨"PinModuleModel", "isTerminal", "(I)Z"⟩
abbrev b_M_next : ByteArray := prog_9_method_33_code
abbrev y_M_next : MethodName := ⟨"PinModuleModel", "next", "(I)I"⟩
abbrev b_M_counterFrom : ByteArray := prog_9_method_32_code
abbrev y_M_counterFrom : MethodName := ⟨"PinModuleModel", "counterFrom", "(I)I"⟩
abbrev b_M_ones : ByteArray := prog_9_method_31_code
abbrev y_M_ones : MethodName := ⟨"PinModuleModel", "ones", "(I)I"⟩
abbrev b_M_skip : ByteArray := prog_9_method_34_code
abbrev y_M_skip : MethodName := ⟨"PinModuleModel", "skip", "(II)I"⟩
abbrev b_M_check : ByteArray := prog_9_method_36_code
abbrev y_M_check : MethodName := ⟨"PinModuleModel", "check", "(I)I"⟩
abbrev b_M_current : ByteArray := prog_9_method_35_code
abbrev y_M_current : MethodName := ⟨"PinModuleModel", "current", "(I)V"⟩
abbrev b_M_pin : ByteArray := prog_9_method_46_code
abbrev y_M_pin : MethodName := ⟨"PinModuleModel", "pin", "(IIJJJ)I"⟩
abbrev b_M_isFormat : ByteArray := prog_9_method_42_code
abbrev y_M_isFormat : MethodName := ⟨"PinModuleModel", "isFormat", "(I)Z"⟩
abbrev b_M_isAccount : ByteArray := prog_9_method_41_code
abbrev y_M_isAccount : MethodName := ⟨"PinModuleModel", "isAccount", "(J)Z"⟩
abbrev b_M_areDigits : ByteArray := prog_9_method_40_code
abbrev y_M_areDigits : MethodName := ⟨"PinModuleModel", "areDigits", "(JIIII)Z"⟩
abbrev b_M_isThere : ByteArray := prog_9_method_37_code
abbrev y_M_isThere : MethodName := ⟨"PinModuleModel", "isThere", "(I)Z"⟩
abbrev b_M_isPinKey : ByteArray := prog_9_method_38_code
abbrev y_M_isPinKey : MethodName := ⟨"PinModuleModel", "isPinKey", "(I)Z"⟩
abbrev b_M_pinKey : ByteArray := prog_9_method_39_code
abbrev y_M_pinKey : MethodName := ⟨"PinModuleModel", "pinKey", "(I)V"⟩
abbrev b_M_form : ByteArray := prog_9_method_44_code
abbrev y_M_form : MethodName := ⟨"PinModuleModel", "form", "(IIJJJ)J"⟩
abbrev b_M_accountPart : ByteArray := prog_9_method_43_code
abbrev y_M_accountPart : MethodName := ⟨"PinModuleModel", "accountPart", "(J)J"⟩
abbrev b_M_translate : ByteArray := prog_9_method_47_code
abbrev y_M_translate : MethodName := ⟨"PinModuleModel", "translate", "(IIIJJ)I"⟩
abbrev b_M_reads : ByteArray := prog_9_method_45_code
abbrev y_M_reads : MethodName := ⟨"PinModuleModel", "reads", "(JIJ)Z"⟩
abbrev b_M_verify : ByteArray := prog_9_method_48_code
abbrev y_M_verify : MethodName := ⟨"PinModuleModel", "verify", "(IIJI)I"⟩
abbrev b_M_code : ByteArray := prog_9_method_49_code
abbrev y_M_code : MethodName := ⟨"PinModuleModel", "code", "(II)I"⟩
abbrev b_L_law : ByteArray := code
abbrev y_L_law : MethodName := ⟨"PinModuleLaw", "law", "([I)Z"⟩
def R_P : String := "PinModule"
def F_P : u_T := fun k => match k with
  | 0 => ("PinModule", "halves", "[J", true)
  | 1 => ("PinModule", "halfTold", "[Z", true)
  | 2 => ("PinModule", "hasMaster", "Z", false)
  | 3 => ("PinModule", "masterLeft", "J", false)
  | 4 => ("PinModule", "masterRight", "J", false)
  | 5 => ("PinModule", "slots", "LPinModule$Slots;", true)
  | 6 => ("PinModule", "terminals", "LPinModule$Terminals;", true)
  | 7 => ("PinModule", "cipher", "LPinModule$Cipher;", true)
  | 8 => ("PinModule", "buffer", "[J", true)
  | _ => ("PinModule", "messageLongs", "[J", true)
def ty_P : Nat → FieldType := fun k => match k with
  | 0 => .array .long
  | 1 => .array .boolean
  | 2 => .boolean
  | 3 => .long
  | 4 => .long
  | 5 => .object "PinModule$Slots"
  | 6 => .object "PinModule$Terminals"
  | 7 => .object "PinModule$Cipher"
  | 8 => .array .long
  | _ => .array .long
theorem n_P : ∀ a, a < 10 → ∀ b, b < 10 → a ≠ b → (F_P a).2.1 ≠ (F_P b).2.1 := by decide +kernel
theorem ty_P_ok : ∀ k, k < 10 → parseFieldDescriptor (F_P k).2.2.1 = some (ty_P k) := by decide +kernel
def R_S : String := "PinModule$Slots"
def F_S : u_T := fun k => match k with
  | 0 => ("PinModule$Slots", "filled", "[Z", true)
  | 1 => ("PinModule$Slots", "usageOf", "[I", true)
  | 2 => ("PinModule$Slots", "exported", "[Z", true)
  | 3 => ("PinModule$Slots", "left", "[J", true)
  | _ => ("PinModule$Slots", "right", "[J", true)
def ty_S : Nat → FieldType := fun k => match k with
  | 0 => .array .boolean
  | 1 => .array .int
  | 2 => .array .boolean
  | 3 => .array .long
  | _ => .array .long
theorem n_S : ∀ a, a < 5 → ∀ b, b < 5 → a ≠ b → (F_S a).2.1 ≠ (F_S b).2.1 := by decide +kernel
theorem ty_S_ok : ∀ k, k < 5 → parseFieldDescriptor (F_S k).2.2.1 = some (ty_S k) := by decide +kernel
def R_T : String := "PinModule$Terminals"
def F_T : u_T := fun k => match k with
  | 0 => ("PinModule$Terminals", "made", "[Z", true)
  | 1 => ("PinModule$Terminals", "register", "[J", true)
  | 2 => ("PinModule$Terminals", "firstLeft", "[J", true)
  | 3 => ("PinModule$Terminals", "firstRight", "[J", true)
  | 4 => ("PinModule$Terminals", "des", "LPinModule$Des;", true)
  | 5 => ("PinModule$Terminals", "currentLeft", "J", false)
  | _ => ("PinModule$Terminals", "currentRight", "J", false)
def ty_T : Nat → FieldType := fun k => match k with
  | 0 => .array .boolean
  | 1 => .array .long
  | 2 => .array .long
  | 3 => .array .long
  | 4 => .object "PinModule$Des"
  | 5 => .long
  | _ => .long
theorem n_T : ∀ a, a < 7 → ∀ b, b < 7 → a ≠ b → (F_T a).2.1 ≠ (F_T b).2.1 := by decide +kernel
theorem ty_T_ok : ∀ k, k < 7 → parseFieldDescriptor (F_T k).2.2.1 = some (ty_T k) := by decide +kernel
def R_C : String := "PinModule$Cipher"
def F_C : u_T := fun k => match k with
  | 0 => ("PinModule$Cipher", "leftDes", "LPinModule$Des;", true)
  | _ => ("PinModule$Cipher", "rightDes", "LPinModule$Des;", true)
def ty_C : Nat → FieldType := fun k => match k with
  | 0 => .object "PinModule$Des"
  | _ => .object "PinModule$Des"
theorem n_C : ∀ a, a < 2 → ∀ b, b < 2 → a ≠ b → (F_C a).2.1 ≠ (F_C b).2.1 := by decide +kernel
theorem ty_C_ok : ∀ k, k < 2 → parseFieldDescriptor (F_C k).2.2.1 = some (ty_C k) := by decide +kernel
def R_D : String := "PinModule$Des"
def F_D : u_T := fun k => match k with
  | 0 => ("PinModule$Des", "roundKeys", "[J", true)
  | _ => ("PinModule$Des", "key", "J", false)
def ty_D : Nat → FieldType := fun k => match k with
  | 0 => .array .long
  | _ => .long
theorem n_D : ∀ a, a < 2 → ∀ b, b < 2 → a ≠ b → (F_D a).2.1 ≠ (F_D b).2.1 := by decide +kernel
theorem ty_D_ok : ∀ k, k < 2 → parseFieldDescriptor (F_D k).2.2.1 = some (ty_D k) := by decide +kernel
def R_M : String := "PinModuleModel"
def F_M : u_T := fun k => match k with
  | 0 => ("PinModuleModel", "permuted", "[I", true)
  | 1 => ("PinModuleModel", "choiceOne", "[I", true)
  | 2 => ("PinModuleModel", "choiceTwo", "[I", true)
  | 3 => ("PinModuleModel", "boxes", "[I", true)
  | 4 => ("PinModuleModel", "thrown", "I", false)
  | 5 => ("PinModuleModel", "halves", "[J", true)
  | 6 => ("PinModuleModel", "toldHalves", "[Z", true)
  | 7 => ("PinModuleModel", "sealed", "Z", false)
  | 8 => ("PinModuleModel", "masterLeft", "J", false)
  | 9 => ("PinModuleModel", "masterRight", "J", false)
  | 10 => ("PinModuleModel", "usages", "[I", true)
  | 11 => ("PinModuleModel", "exported", "[Z", true)
  | 12 => ("PinModuleModel", "lefts", "[J", true)
  | 13 => ("PinModuleModel", "rights", "[J", true)
  | 14 => ("PinModuleModel", "known", "[Z", true)
  | 15 => ("PinModuleModel", "baseLeft", "[J", true)
  | 16 => ("PinModuleModel", "baseRight", "[J", true)
  | 17 => ("PinModuleModel", "serials", "[J", true)
  | 18 => ("PinModuleModel", "counters", "[I", true)
  | 19 => ("PinModuleModel", "buffer", "[J", true)
  | 20 => ("PinModuleModel", "text", "[J", true)
  | 21 => ("PinModuleModel", "rounds", "[J", true)
  | 22 => ("PinModuleModel", "keyLeft", "J", false)
  | 23 => ("PinModuleModel", "keyRight", "J", false)
  | 24 => ("PinModuleModel", "pinLength", "I", false)
  | _ => ("PinModuleModel", "pinDigits", "J", false)
def ty_M : Nat → FieldType := fun k => match k with
  | 0 => .array .int
  | 1 => .array .int
  | 2 => .array .int
  | 3 => .array .int
  | 4 => .int
  | 5 => .array .long
  | 6 => .array .boolean
  | 7 => .boolean
  | 8 => .long
  | 9 => .long
  | 10 => .array .int
  | 11 => .array .boolean
  | 12 => .array .long
  | 13 => .array .long
  | 14 => .array .boolean
  | 15 => .array .long
  | 16 => .array .long
  | 17 => .array .long
  | 18 => .array .int
  | 19 => .array .long
  | 20 => .array .long
  | 21 => .array .long
  | 22 => .long
  | 23 => .long
  | 24 => .int
  | _ => .long
theorem n_M : ∀ a, a < 26 → ∀ b, b < 26 → a ≠ b → (F_M a).2.1 ≠ (F_M b).2.1 := by decide +kernel
theorem ty_M_ok : ∀ k, k < 26 → parseFieldDescriptor (F_M k).2.2.1 = some (ty_M k) := by decide +kernel
abbrev pCl : List vw_C := [("PinModule", F_P, 10), ("PinModule$Slots", F_S, 5), ("PinModule$Terminals", F_T, 7), ("PinModule$Cipher", F_C, 2), ("PinModule$Des", F_D, 2), ("PinModuleModel", F_M, 26)]
theorem m_0 : Cond.initialized "PinModuleLaw" ∈ gW := gW_t (List.mem_append_left _ (List.mem_of_getElem? (i := 0) rfl)) rfl
theorem m_1 : Cond.initialized "PinModule" ∈ gW := gW_t (List.mem_append_left _ (List.mem_of_getElem? (i := 1) rfl)) rfl
theorem m_2 : Cond.initialized "PinModule$Slots" ∈ gW := gW_t (List.mem_append_left _ (List.mem_of_getElem? (i := 2) rfl)) rfl
theorem m_3 : Cond.initialized "PinModule$Terminals" ∈ gW := gW_t (List.mem_append_left _ (List.mem_of_getElem? (i := 3) rfl)) rfl
theorem m_4 : Cond.initialized "PinModule$Des" ∈ gW := gW_t (List.mem_append_left _ (List.mem_of_getElem? (i := 4) rfl)) rfl
theorem m_5 : Cond.initialized "PinModule$Cipher" ∈ gW := gW_t (List.mem_append_left _ (List.mem_of_getElem? (i := 5) rfl)) rfl
theorem m_6 : Cond.initialized "PinModuleModel" ∈ gW := gW_t (List.mem_append_left _ (List.mem_of_getElem? (i := 6) rfl)) rfl
theorem m_7 : Cond.initialized "java/lang/Throwable" ∈ gW := gW_t (List.mem_append_left _ (List.mem_of_getElem? (i := 7) rfl)) rfl
theorem m_8 : Cond.initialized "java/lang/Exception" ∈ gW := gW_t (List.mem_append_left _ (List.mem_of_getElem? (i := 8) rfl)) rfl
theorem m_9 : Cond.initialized "java/lang/RuntimeException" ∈ gW := gW_t (List.mem_append_left _ (List.mem_of_getElem? (i := 9) rfl)) rfl
theorem m_10 : Cond.initialized "java/lang/IllegalArgumentException" ∈ gW := gW_t (List.mem_append_left _ (List.mem_of_getElem? (i := 10) rfl)) rfl
theorem m_11 : Cond.initialized "java/lang/IllegalStateException" ∈ gW := gW_t (List.mem_append_left _ (List.mem_of_getElem? (i := 11) rfl)) rfl
theorem m_12 : Cond.initialized "java/lang/Long" ∈ gW := gW_t (List.mem_append_left _ (List.mem_of_getElem? (i := 12) rfl)) rfl
theorem m_13 : Cond.initialized "PinModule$KeyBlock" ∈ gW := gW_t (List.mem_append_left _ (List.mem_of_getElem? (i := 13) rfl)) rfl
theorem m_14 : Cond.initialized "java/lang/Integer" ∈ gW := gW_t (List.mem_append_left _ (List.mem_of_getElem? (i := 14) rfl)) rfl
theorem m_15 : Cond.initialized "PinModule$PinBlock" ∈ gW := gW_t (List.mem_append_left _ (List.mem_of_getElem? (i := 15) rfl)) rfl
theorem m_16 : Cond.classLink "PinModuleLaw" 8 "PinModule" ∈ gW := gW_t (List.mem_append_left _ (List.mem_of_getElem? (i := 16) rfl)) rfl
theorem m_17 : Cond.instantiable "PinModule" 10 ∈ gW := gW_t (List.mem_append_left _ (List.mem_of_getElem? (i := 17) rfl)) rfl
theorem m_18 : Cond.methodLink "PinModuleLaw" 32 y_P_init ∈ gW := gW_t (List.mem_append_left _ (List.mem_of_getElem? (i := 18) rfl)) rfl
theorem m_19 : Cond.instanceMethod y_P_init ∈ gW := gW_t (List.mem_append_left _ (List.mem_of_getElem? (i := 19) rfl)) rfl
theorem m_20 : Cond.code y_P_init b_P_init 1 none ∈ gW := gW_t (List.mem_append_left _ (List.mem_of_getElem? (i := 20) rfl)) rfl
theorem m_21 : Cond.methodLink "PinModule" 3 y_O_init ∈ gW := gW_t (List.mem_append_left _ (List.mem_of_getElem? (i := 21) rfl)) rfl
theorem m_22 : Cond.instanceMethod y_O_init ∈ gW := gW_t (List.mem_append_left _ (List.mem_of_getElem? (i := 22) rfl)) rfl
theorem m_23 : Cond.code y_O_init b_O_init 1 none ∈ gW := gW_t (List.mem_append_left _ (List.mem_of_getElem? (i := 23) rfl)) rfl
theorem m_24 : Cond.classLink "PinModule" 1 "PinModule$Slots" ∈ gW := gW_t (List.mem_append_left _ (List.mem_of_getElem? (i := 24) rfl)) rfl
theorem m_25 : Cond.instantiable "PinModule$Slots" 5 ∈ gW := gW_t (List.mem_append_left _ (List.mem_of_getElem? (i := 25) rfl)) rfl
theorem m_27 : Cond.instanceMethod y_S_init ∈ gW := gW_t (List.mem_append_left _ (List.mem_of_getElem? (i := 27) rfl)) rfl
theorem m_28 : Cond.code y_S_init b_S_init 1 none ∈ gW := gW_t (List.mem_append_left _ (List.mem_of_getElem? (i := 28) rfl)) rfl
theorem m_29 : Cond.methodLink "PinModule$Slots" 1 y_O_init ∈ gW := gW_t (List.mem_append_left _ (List.mem_of_getElem? (i := 29) rfl)) rfl
theorem m_30 : Cond.fieldLink "PinModule$Slots" 9 "PinModule$Slots" "filled" "[Z" ∈ gW := gW_t (List.mem_append_left _ (List.mem_of_getElem? (i := 30) rfl)) rfl
theorem m_31 : Cond.fieldLink "PinModule" 93 "PinModule$Slots" "filled" "[Z" ∈ gW := gW_t (List.mem_append_left _ (List.mem_of_getElem? (i := 31) rfl)) rfl
theorem m_32 : Cond.fieldLink "PinModule$Slots" 13 "PinModule$Slots" "usageOf" "[I" ∈ gW := gW_t (List.mem_append_left _ (List.mem_of_getElem? (i := 32) rfl)) rfl
theorem m_33 : Cond.fieldLink "PinModule" 114 "PinModule$Slots" "usageOf" "[I" ∈ gW := gW_t (List.mem_append_left _ (List.mem_of_getElem? (i := 33) rfl)) rfl
theorem m_34 : Cond.fieldLink "PinModule$Slots" 17 "PinModule$Slots" "exported" "[Z" ∈ gW := gW_t (List.mem_append_left _ (List.mem_of_getElem? (i := 34) rfl)) rfl
theorem m_35 : Cond.fieldLink "PinModule" 118 "PinModule$Slots" "exported" "[Z" ∈ gW := gW_t (List.mem_append_left _ (List.mem_of_getElem? (i := 35) rfl)) rfl
theorem m_36 : Cond.fieldLink "PinModule$Slots" 20 "PinModule$Slots" "left" "[J" ∈ gW := gW_t (List.mem_append_left _ (List.mem_of_getElem? (i := 36) rfl)) rfl
theorem m_37 : Cond.fieldLink "PinModule" 100 "PinModule$Slots" "left" "[J" ∈ gW := gW_t (List.mem_append_left _ (List.mem_of_getElem? (i := 37) rfl)) rfl
theorem m_38 : Cond.fieldLink "PinModule$Slots" 24 "PinModule$Slots" "right" "[J" ∈ gW := gW_t (List.mem_append_left _ (List.mem_of_getElem? (i := 38) rfl)) rfl
theorem m_39 : Cond.fieldLink "PinModule" 103 "PinModule$Slots" "right" "[J" ∈ gW := gW_t (List.mem_append_left _ (List.mem_of_getElem? (i := 39) rfl)) rfl
theorem m_40 : Cond.laysFinal "PinModule$Slots" "PinModule$Slots" "filled" "[Z" ∈ gW := gW_t (List.mem_append_left _ (List.mem_of_getElem? (i := 40) rfl)) rfl
theorem m_42 : Cond.laysFinal "PinModule$Slots" "PinModule$Slots" "usageOf" "[I" ∈ gW := gW_t (List.mem_append_left _ (List.mem_of_getElem? (i := 42) rfl)) rfl
theorem m_44 : Cond.laysFinal "PinModule$Slots" "PinModule$Slots" "exported" "[Z" ∈ gW := gW_t (List.mem_append_left _ (List.mem_of_getElem? (i := 44) rfl)) rfl
theorem m_46 : Cond.laysFinal "PinModule$Slots" "PinModule$Slots" "left" "[J" ∈ gW := gW_t (List.mem_append_left _ (List.mem_of_getElem? (i := 46) rfl)) rfl
theorem m_48 : Cond.laysFinal "PinModule$Slots" "PinModule$Slots" "right" "[J" ∈ gW := gW_t (List.mem_append_left _ (List.mem_of_getElem? (i := 48) rfl)) rfl
theorem m_51 : Cond.arrayClass FieldType.long ∈ gW := gW_t (List.mem_append_left _ (List.mem_of_getElem? (i := 51) rfl)) rfl
theorem m_52 : Cond.arrayClass FieldType.boolean ∈ gW := gW_t (List.mem_append_left _ (List.mem_of_getElem? (i := 52) rfl)) rfl
theorem m_53 : Cond.arrayClass FieldType.int ∈ gW := gW_t (List.mem_append_left _ (List.mem_of_getElem? (i := 53) rfl)) rfl
theorem m_54 : Cond.classLink "PinModule" 24 "PinModule$Terminals" ∈ gW := gW_t (List.mem_append_left _ (List.mem_of_getElem? (i := 54) rfl)) rfl
theorem m_55 : Cond.instantiable "PinModule$Terminals" 7 ∈ gW := gW_t (List.mem_append_left _ (List.mem_of_getElem? (i := 55) rfl)) rfl
theorem m_57 : Cond.instanceMethod y_T_init ∈ gW := gW_t (List.mem_append_left _ (List.mem_of_getElem? (i := 57) rfl)) rfl
theorem m_58 : Cond.code y_T_init b_T_init 1 none ∈ gW := gW_t (List.mem_append_left _ (List.mem_of_getElem? (i := 58) rfl)) rfl
theorem m_59 : Cond.methodLink "PinModule$Terminals" 5 y_O_init ∈ gW := gW_t (List.mem_append_left _ (List.mem_of_getElem? (i := 59) rfl)) rfl
theorem m_60 : Cond.classLink "PinModule$Terminals" 25 "PinModule$Des" ∈ gW := gW_t (List.mem_append_left _ (List.mem_of_getElem? (i := 60) rfl)) rfl
theorem m_61 : Cond.instantiable "PinModule$Des" 2 ∈ gW := gW_t (List.mem_append_left _ (List.mem_of_getElem? (i := 61) rfl)) rfl
theorem m_63 : Cond.instanceMethod y_D_init ∈ gW := gW_t (List.mem_append_left _ (List.mem_of_getElem? (i := 63) rfl)) rfl
theorem m_64 : Cond.code y_D_init b_D_init 1 none ∈ gW := gW_t (List.mem_append_left _ (List.mem_of_getElem? (i := 64) rfl)) rfl
theorem m_65 : Cond.methodLink "PinModule$Des" 3 y_O_init ∈ gW := gW_t (List.mem_append_left _ (List.mem_of_getElem? (i := 65) rfl)) rfl
theorem m_66 : Cond.fieldLink "PinModule$Des" 9 "PinModule$Des" "roundKeys" "[J" ∈ gW := gW_t (List.mem_append_left _ (List.mem_of_getElem? (i := 66) rfl)) rfl
theorem m_67 : Cond.fieldLink "PinModule$Des" 13 "PinModule$Des" "key" "J" ∈ gW := gW_t (List.mem_append_left _ (List.mem_of_getElem? (i := 67) rfl)) rfl
theorem m_68 : Cond.laysFinal "PinModule$Des" "PinModule$Des" "roundKeys" "[J" ∈ gW := gW_t (List.mem_append_left _ (List.mem_of_getElem? (i := 68) rfl)) rfl
theorem m_70 : Cond.lays "PinModule$Des" "PinModule$Des" "key" "J" ∈ gW := gW_t (List.mem_append_left _ (List.mem_of_getElem? (i := 70) rfl)) rfl
theorem m_73 : Cond.fieldLink "PinModule$Terminals" 11 "PinModule$Terminals" "made" "[Z" ∈ gW := gW_t (List.mem_append_left _ (List.mem_of_getElem? (i := 73) rfl)) rfl
theorem m_74 : Cond.fieldLink "PinModule" 166 "PinModule$Terminals" "made" "[Z" ∈ gW := gW_t (List.mem_append_left _ (List.mem_of_getElem? (i := 74) rfl)) rfl
theorem m_75 : Cond.fieldLink "PinModule$Terminals" 15 "PinModule$Terminals" "register" "[J" ∈ gW := gW_t (List.mem_append_left _ (List.mem_of_getElem? (i := 75) rfl)) rfl
theorem m_76 : Cond.fieldLink "PinModule$Terminals" 19 "PinModule$Terminals" "firstLeft" "[J" ∈ gW := gW_t (List.mem_append_left _ (List.mem_of_getElem? (i := 76) rfl)) rfl
theorem m_77 : Cond.fieldLink "PinModule$Terminals" 22 "PinModule$Terminals" "firstRight" "[J" ∈ gW := gW_t (List.mem_append_left _ (List.mem_of_getElem? (i := 77) rfl)) rfl
theorem m_78 : Cond.fieldLink "PinModule$Terminals" 28 "PinModule$Terminals" "des" "LPinModule$Des;" ∈ gW := gW_t (List.mem_append_left _ (List.mem_of_getElem? (i := 78) rfl)) rfl
theorem m_79 : Cond.fieldLink "PinModule$Terminals" 69 "PinModule$Terminals" "currentLeft" "J" ∈ gW := gW_t (List.mem_append_left _ (List.mem_of_getElem? (i := 79) rfl)) rfl
theorem m_80 : Cond.fieldLink "PinModule" 259 "PinModule$Terminals" "currentLeft" "J" ∈ gW := gW_t (List.mem_append_left _ (List.mem_of_getElem? (i := 80) rfl)) rfl
theorem m_81 : Cond.fieldLink "PinModule$Terminals" 73 "PinModule$Terminals" "currentRight" "J" ∈ gW := gW_t (List.mem_append_left _ (List.mem_of_getElem? (i := 81) rfl)) rfl
theorem m_82 : Cond.fieldLink "PinModule" 262 "PinModule$Terminals" "currentRight" "J" ∈ gW := gW_t (List.mem_append_left _ (List.mem_of_getElem? (i := 82) rfl)) rfl
theorem m_83 : Cond.laysFinal "PinModule$Terminals" "PinModule$Terminals" "made" "[Z" ∈ gW := gW_t (List.mem_append_left _ (List.mem_of_getElem? (i := 83) rfl)) rfl
theorem m_85 : Cond.laysFinal "PinModule$Terminals" "PinModule$Terminals" "register" "[J" ∈ gW := gW_t (List.mem_append_left _ (List.mem_of_getElem? (i := 85) rfl)) rfl
theorem m_87 : Cond.laysFinal "PinModule$Terminals" "PinModule$Terminals" "firstLeft" "[J" ∈ gW := gW_t (List.mem_append_left _ (List.mem_of_getElem? (i := 87) rfl)) rfl
theorem m_89 : Cond.laysFinal "PinModule$Terminals" "PinModule$Terminals" "firstRight" "[J" ∈ gW := gW_t (List.mem_append_left _ (List.mem_of_getElem? (i := 89) rfl)) rfl
theorem m_91 : Cond.laysFinal "PinModule$Terminals" "PinModule$Terminals" "des" "LPinModule$Des;" ∈ gW := gW_t (List.mem_append_left _ (List.mem_of_getElem? (i := 91) rfl)) rfl
theorem m_93 : Cond.lays "PinModule$Terminals" "PinModule$Terminals" "currentLeft" "J" ∈ gW := gW_t (List.mem_append_left _ (List.mem_of_getElem? (i := 93) rfl)) rfl
theorem m_95 : Cond.lays "PinModule$Terminals" "PinModule$Terminals" "currentRight" "J" ∈ gW := gW_t (List.mem_append_left _ (List.mem_of_getElem? (i := 95) rfl)) rfl
theorem m_98 : Cond.classLink "PinModule" 31 "PinModule$Cipher" ∈ gW := gW_t (List.mem_append_left _ (List.mem_of_getElem? (i := 98) rfl)) rfl
theorem m_99 : Cond.instantiable "PinModule$Cipher" 2 ∈ gW := gW_t (List.mem_append_left _ (List.mem_of_getElem? (i := 99) rfl)) rfl
theorem m_101 : Cond.instanceMethod y_C_init ∈ gW := gW_t (List.mem_append_left _ (List.mem_of_getElem? (i := 101) rfl)) rfl
theorem m_102 : Cond.code y_C_init b_C_init 1 none ∈ gW := gW_t (List.mem_append_left _ (List.mem_of_getElem? (i := 102) rfl)) rfl
theorem m_103 : Cond.methodLink "PinModule$Cipher" 1 y_O_init ∈ gW := gW_t (List.mem_append_left _ (List.mem_of_getElem? (i := 103) rfl)) rfl
theorem m_104 : Cond.classLink "PinModule$Cipher" 7 "PinModule$Des" ∈ gW := gW_t (List.mem_append_left _ (List.mem_of_getElem? (i := 104) rfl)) rfl
theorem m_106 : Cond.fieldLink "PinModule$Cipher" 10 "PinModule$Cipher" "leftDes" "LPinModule$Des;" ∈ gW := gW_t (List.mem_append_left _ (List.mem_of_getElem? (i := 106) rfl)) rfl
theorem m_107 : Cond.fieldLink "PinModule" 237 "PinModule$Cipher" "leftDes" "LPinModule$Des;" ∈ gW := gW_t (List.mem_append_left _ (List.mem_of_getElem? (i := 107) rfl)) rfl
theorem m_108 : Cond.fieldLink "PinModule$Cipher" 16 "PinModule$Cipher" "rightDes" "LPinModule$Des;" ∈ gW := gW_t (List.mem_append_left _ (List.mem_of_getElem? (i := 108) rfl)) rfl
theorem m_109 : Cond.fieldLink "PinModule" 250 "PinModule$Cipher" "rightDes" "LPinModule$Des;" ∈ gW := gW_t (List.mem_append_left _ (List.mem_of_getElem? (i := 109) rfl)) rfl
theorem m_110 : Cond.laysFinal "PinModule$Cipher" "PinModule$Cipher" "leftDes" "LPinModule$Des;" ∈ gW := gW_t (List.mem_append_left _ (List.mem_of_getElem? (i := 110) rfl)) rfl
theorem m_112 : Cond.laysFinal "PinModule$Cipher" "PinModule$Cipher" "rightDes" "LPinModule$Des;" ∈ gW := gW_t (List.mem_append_left _ (List.mem_of_getElem? (i := 112) rfl)) rfl
theorem m_115 : Cond.fieldLink "PinModule" 11 "PinModule" "halves" "[J" ∈ gW := gW_t (List.mem_append_left _ (List.mem_of_getElem? (i := 115) rfl)) rfl
theorem m_116 : Cond.fieldLink "PinModule" 15 "PinModule" "halfTold" "[Z" ∈ gW := gW_t (List.mem_append_left _ (List.mem_of_getElem? (i := 116) rfl)) rfl
theorem m_117 : Cond.fieldLink "PinModule" 51 "PinModule" "hasMaster" "Z" ∈ gW := gW_t (List.mem_append_left _ (List.mem_of_getElem? (i := 117) rfl)) rfl
theorem m_118 : Cond.fieldLink "PinModule" 70 "PinModule" "masterLeft" "J" ∈ gW := gW_t (List.mem_append_left _ (List.mem_of_getElem? (i := 118) rfl)) rfl
theorem m_119 : Cond.fieldLink "PinModule" 74 "PinModule" "masterRight" "J" ∈ gW := gW_t (List.mem_append_left _ (List.mem_of_getElem? (i := 119) rfl)) rfl
theorem m_120 : Cond.fieldLink "PinModule" 20 "PinModule" "slots" "LPinModule$Slots;" ∈ gW := gW_t (List.mem_append_left _ (List.mem_of_getElem? (i := 120) rfl)) rfl
theorem m_121 : Cond.fieldLink "PinModule" 27 "PinModule" "terminals" "LPinModule$Terminals;" ∈ gW := gW_t (List.mem_append_left _ (List.mem_of_getElem? (i := 121) rfl)) rfl
theorem m_122 : Cond.fieldLink "PinModule" 34 "PinModule" "cipher" "LPinModule$Cipher;" ∈ gW := gW_t (List.mem_append_left _ (List.mem_of_getElem? (i := 122) rfl)) rfl
theorem m_123 : Cond.fieldLink "PinModule" 38 "PinModule" "buffer" "[J" ∈ gW := gW_t (List.mem_append_left _ (List.mem_of_getElem? (i := 123) rfl)) rfl
theorem m_124 : Cond.fieldLink "PinModule" 41 "PinModule" "messageLongs" "[J" ∈ gW := gW_t (List.mem_append_left _ (List.mem_of_getElem? (i := 124) rfl)) rfl
theorem m_125 : Cond.laysFinal "PinModule" "PinModule" "halves" "[J" ∈ gW := gW_t (List.mem_append_left _ (List.mem_of_getElem? (i := 125) rfl)) rfl
theorem m_127 : Cond.laysFinal "PinModule" "PinModule" "halfTold" "[Z" ∈ gW := gW_t (List.mem_append_left _ (List.mem_of_getElem? (i := 127) rfl)) rfl
theorem m_129 : Cond.lays "PinModule" "PinModule" "hasMaster" "Z" ∈ gW := gW_t (List.mem_append_left _ (List.mem_of_getElem? (i := 129) rfl)) rfl
theorem m_131 : Cond.lays "PinModule" "PinModule" "masterLeft" "J" ∈ gW := gW_t (List.mem_append_left _ (List.mem_of_getElem? (i := 131) rfl)) rfl
theorem m_133 : Cond.lays "PinModule" "PinModule" "masterRight" "J" ∈ gW := gW_t (List.mem_append_left _ (List.mem_of_getElem? (i := 133) rfl)) rfl
theorem m_135 : Cond.laysFinal "PinModule" "PinModule" "slots" "LPinModule$Slots;" ∈ gW := gW_t (List.mem_append_left _ (List.mem_of_getElem? (i := 135) rfl)) rfl
theorem m_137 : Cond.laysFinal "PinModule" "PinModule" "terminals" "LPinModule$Terminals;" ∈ gW := gW_t (List.mem_append_left _ (List.mem_of_getElem? (i := 137) rfl)) rfl
theorem m_139 : Cond.laysFinal "PinModule" "PinModule" "cipher" "LPinModule$Cipher;" ∈ gW := gW_t (List.mem_append_left _ (List.mem_of_getElem? (i := 139) rfl)) rfl
theorem m_141 : Cond.laysFinal "PinModule" "PinModule" "buffer" "[J" ∈ gW := gW_t (List.mem_append_left _ (List.mem_of_getElem? (i := 141) rfl)) rfl
theorem m_143 : Cond.laysFinal "PinModule" "PinModule" "messageLongs" "[J" ∈ gW := gW_t (List.mem_append_left _ (List.mem_of_getElem? (i := 143) rfl)) rfl
theorem m_146 : Cond.methodLink "PinModuleLaw" 62 y_P_load ∈ gW := gW_t (List.mem_append_left _ (List.mem_of_getElem? (i := 146) rfl)) rfl
theorem m_147 : Cond.instanceMethod y_P_load ∈ gW := gW_t (List.mem_append_left _ (List.mem_of_getElem? (i := 147) rfl)) rfl
theorem m_148 : Cond.selects "PinModule" y_P_load y_P_load ∈ gW := gW_t (List.mem_append_left _ (List.mem_of_getElem? (i := 148) rfl)) rfl
theorem m_149 : Cond.code y_P_load b_P_load 4 (some .int) ∈ gW := gW_t (List.mem_append_left _ (List.mem_of_getElem? (i := 149) rfl)) rfl
theorem m_150 : Cond.methodLink "PinModule" 89 y_S_isNumber ∈ gW := gW_t (List.mem_append_left _ (List.mem_of_getElem? (i := 150) rfl)) rfl
theorem m_151 : Cond.static y_S_isNumber ∈ gW := gW_t (List.mem_append_left _ (List.mem_of_getElem? (i := 151) rfl)) rfl
theorem m_152 : Cond.code y_S_isNumber b_S_isNumber 1 (some .boolean) ∈ gW := gW_t (List.mem_append_left _ (List.mem_of_getElem? (i := 152) rfl)) rfl
theorem m_153 : Cond.methodLink "PinModule" 66 y_P_withOddParity ∈ gW := gW_t (List.mem_append_left _ (List.mem_of_getElem? (i := 153) rfl)) rfl
theorem m_154 : Cond.static y_P_withOddParity ∈ gW := gW_t (List.mem_append_left _ (List.mem_of_getElem? (i := 154) rfl)) rfl
theorem m_155 : Cond.code y_P_withOddParity b_P_withOddParity 5 (some .long) ∈ gW := gW_t (List.mem_append_left _ (List.mem_of_getElem? (i := 155) rfl)) rfl
theorem m_156 : Cond.constantLong "PinModule" 213 (255 : Int64) ∈ gW := gW_t (List.mem_append_left _ (List.mem_of_getElem? (i := 156) rfl)) rfl
theorem m_157 : Cond.methodLink "PinModule" 280 y_JL_bitCount ∈ gW := gW_t (List.mem_append_left _ (List.mem_of_getElem? (i := 157) rfl)) rfl
theorem m_158 : Cond.static y_JL_bitCount ∈ gW := gW_t (List.mem_append_left _ (List.mem_of_getElem? (i := 158) rfl)) rfl
theorem m_159 : Cond.code y_JL_bitCount b_JL_bitCount 2 (some .int) ∈ gW := gW_t (List.mem_append_left _ (List.mem_of_getElem? (i := 159) rfl)) rfl
theorem m_160 : Cond.constantLong "java/lang/Long" 314 (6148914691236517205 : Int64) ∈ gW := gW_t (List.mem_append_left _ (List.mem_of_getElem? (i := 160) rfl)) rfl
theorem m_161 : Cond.constantLong "java/lang/Long" 316 (3689348814741910323 : Int64) ∈ gW := gW_t (List.mem_append_left _ (List.mem_of_getElem? (i := 161) rfl)) rfl
theorem m_162 : Cond.constantLong "java/lang/Long" 318 (1085102592571150095 : Int64) ∈ gW := gW_t (List.mem_append_left _ (List.mem_of_getElem? (i := 162) rfl)) rfl
theorem m_163 : Cond.methodLink "PinModule" 96 y_S_fill ∈ gW := gW_t (List.mem_append_left _ (List.mem_of_getElem? (i := 163) rfl)) rfl
theorem m_164 : Cond.instanceMethod y_S_fill ∈ gW := gW_t (List.mem_append_left _ (List.mem_of_getElem? (i := 164) rfl)) rfl
theorem m_165 : Cond.selects "PinModule$Slots" y_S_fill y_S_fill ∈ gW := gW_t (List.mem_append_left _ (List.mem_of_getElem? (i := 165) rfl)) rfl
theorem m_166 : Cond.code y_S_fill b_S_fill 8 none ∈ gW := gW_t (List.mem_append_left _ (List.mem_of_getElem? (i := 166) rfl)) rfl
theorem m_167 : Cond.methodLink "PinModule" 77 y_C_take ∈ gW := gW_t (List.mem_append_left _ (List.mem_of_getElem? (i := 167) rfl)) rfl
theorem m_168 : Cond.instanceMethod y_C_take ∈ gW := gW_t (List.mem_append_left _ (List.mem_of_getElem? (i := 168) rfl)) rfl
theorem m_169 : Cond.selects "PinModule$Cipher" y_C_take y_C_take ∈ gW := gW_t (List.mem_append_left _ (List.mem_of_getElem? (i := 169) rfl)) rfl
theorem m_170 : Cond.code y_C_take b_C_take 5 none ∈ gW := gW_t (List.mem_append_left _ (List.mem_of_getElem? (i := 170) rfl)) rfl
theorem m_171 : Cond.methodLink "PinModule$Cipher" 19 y_D_take ∈ gW := gW_t (List.mem_append_left _ (List.mem_of_getElem? (i := 171) rfl)) rfl
theorem m_172 : Cond.instanceMethod y_D_take ∈ gW := gW_t (List.mem_append_left _ (List.mem_of_getElem? (i := 172) rfl)) rfl
theorem m_173 : Cond.selects "PinModule$Des" y_D_take y_D_take ∈ gW := gW_t (List.mem_append_left _ (List.mem_of_getElem? (i := 173) rfl)) rfl
theorem m_174 : Cond.code y_D_take b_D_take 10 none ∈ gW := gW_t (List.mem_append_left _ (List.mem_of_getElem? (i := 174) rfl)) rfl
theorem m_175 : Cond.fieldLink "PinModule$Des" 17 "PinModule$Des" "KEY_CHOICE" "[B" ∈ gW := gW_t (List.mem_append_left _ (List.mem_of_getElem? (i := 175) rfl)) rfl
theorem m_177 : Cond.methodLink "PinModule$Des" 21 y_D_picked ∈ gW := gW_t (List.mem_append_left _ (List.mem_of_getElem? (i := 177) rfl)) rfl
theorem m_178 : Cond.static y_D_picked ∈ gW := gW_t (List.mem_append_left _ (List.mem_of_getElem? (i := 178) rfl)) rfl
theorem m_179 : Cond.code y_D_picked b_D_picked 7 (some .long) ∈ gW := gW_t (List.mem_append_left _ (List.mem_of_getElem? (i := 179) rfl)) rfl
theorem m_180 : Cond.constantLong "PinModule$Des" 25 (268435455 : Int64) ∈ gW := gW_t (List.mem_append_left _ (List.mem_of_getElem? (i := 180) rfl)) rfl
theorem m_181 : Cond.fieldLink "PinModule$Des" 27 "PinModule$Des" "KEY_TURNS" "[B" ∈ gW := gW_t (List.mem_append_left _ (List.mem_of_getElem? (i := 181) rfl)) rfl
theorem m_183 : Cond.methodLink "PinModule$Des" 30 y_D_turned ∈ gW := gW_t (List.mem_append_left _ (List.mem_of_getElem? (i := 183) rfl)) rfl
theorem m_184 : Cond.static y_D_turned ∈ gW := gW_t (List.mem_append_left _ (List.mem_of_getElem? (i := 184) rfl)) rfl
theorem m_185 : Cond.code y_D_turned b_D_turned 3 (some .long) ∈ gW := gW_t (List.mem_append_left _ (List.mem_of_getElem? (i := 185) rfl)) rfl
theorem m_186 : Cond.fieldLink "PinModule$Des" 34 "PinModule$Des" "ROUND_CHOICE" "[B" ∈ gW := gW_t (List.mem_append_left _ (List.mem_of_getElem? (i := 186) rfl)) rfl
theorem m_188 : Cond.methodLink "PinModule" 81 y_C_checkValue ∈ gW := gW_t (List.mem_append_left _ (List.mem_of_getElem? (i := 188) rfl)) rfl
theorem m_189 : Cond.instanceMethod y_C_checkValue ∈ gW := gW_t (List.mem_append_left _ (List.mem_of_getElem? (i := 189) rfl)) rfl
theorem m_190 : Cond.selects "PinModule$Cipher" y_C_checkValue y_C_checkValue ∈ gW := gW_t (List.mem_append_left _ (List.mem_of_getElem? (i := 190) rfl)) rfl
theorem m_191 : Cond.code y_C_checkValue b_C_checkValue 1 (some .int) ∈ gW := gW_t (List.mem_append_left _ (List.mem_of_getElem? (i := 191) rfl)) rfl
theorem m_192 : Cond.methodLink "PinModule$Cipher" 30 y_C_sealBlock ∈ gW := gW_t (List.mem_append_left _ (List.mem_of_getElem? (i := 192) rfl)) rfl
theorem m_193 : Cond.instanceMethod y_C_sealBlock ∈ gW := gW_t (List.mem_append_left _ (List.mem_of_getElem? (i := 193) rfl)) rfl
theorem m_194 : Cond.selects "PinModule$Cipher" y_C_sealBlock y_C_sealBlock ∈ gW := gW_t (List.mem_append_left _ (List.mem_of_getElem? (i := 194) rfl)) rfl
theorem m_195 : Cond.code y_C_sealBlock b_C_sealBlock 3 (some .long) ∈ gW := gW_t (List.mem_append_left _ (List.mem_of_getElem? (i := 195) rfl)) rfl
theorem m_196 : Cond.methodLink "PinModule$Cipher" 23 y_D_encrypted ∈ gW := gW_t (List.mem_append_left _ (List.mem_of_getElem? (i := 196) rfl)) rfl
theorem m_197 : Cond.instanceMethod y_D_encrypted ∈ gW := gW_t (List.mem_append_left _ (List.mem_of_getElem? (i := 197) rfl)) rfl
theorem m_198 : Cond.selects "PinModule$Des" y_D_encrypted y_D_encrypted ∈ gW := gW_t (List.mem_append_left _ (List.mem_of_getElem? (i := 198) rfl)) rfl
theorem m_199 : Cond.code y_D_encrypted b_D_encrypted 3 (some .long) ∈ gW := gW_t (List.mem_append_left _ (List.mem_of_getElem? (i := 199) rfl)) rfl
theorem m_200 : Cond.methodLink "PinModule$Des" 37 y_D_done ∈ gW := gW_t (List.mem_append_left _ (List.mem_of_getElem? (i := 200) rfl)) rfl
theorem m_202 : Cond.instanceMethod y_D_done ∈ gW := gW_t (List.mem_append_left _ (List.mem_of_getElem? (i := 202) rfl)) rfl
theorem m_203 : Cond.code y_D_done b_D_done 10 (some .long) ∈ gW := gW_t (List.mem_append_left _ (List.mem_of_getElem? (i := 203) rfl)) rfl
theorem m_204 : Cond.fieldLink "PinModule$Des" 41 "PinModule$Des" "INITIAL" "[B" ∈ gW := gW_t (List.mem_append_left _ (List.mem_of_getElem? (i := 204) rfl)) rfl
theorem m_206 : Cond.methodLink "PinModule$Des" 44 y_D_boxed ∈ gW := gW_t (List.mem_append_left _ (List.mem_of_getElem? (i := 206) rfl)) rfl
theorem m_207 : Cond.static y_D_boxed ∈ gW := gW_t (List.mem_append_left _ (List.mem_of_getElem? (i := 207) rfl)) rfl
theorem m_208 : Cond.code y_D_boxed b_D_boxed 8 (some .int) ∈ gW := gW_t (List.mem_append_left _ (List.mem_of_getElem? (i := 208) rfl)) rfl
theorem m_209 : Cond.fieldLink "PinModule$Des" 53 "PinModule$Des" "BOXES" "[I" ∈ gW := gW_t (List.mem_append_left _ (List.mem_of_getElem? (i := 209) rfl)) rfl
theorem m_211 : Cond.constantLong "PinModule$Des" 48 (4294967295 : Int64) ∈ gW := gW_t (List.mem_append_left _ (List.mem_of_getElem? (i := 211) rfl)) rfl
theorem m_212 : Cond.fieldLink "PinModule$Des" 50 "PinModule$Des" "FINAL" "[B" ∈ gW := gW_t (List.mem_append_left _ (List.mem_of_getElem? (i := 212) rfl)) rfl
theorem m_214 : Cond.methodLink "PinModule$Cipher" 27 y_D_decrypted ∈ gW := gW_t (List.mem_append_left _ (List.mem_of_getElem? (i := 214) rfl)) rfl
theorem m_215 : Cond.instanceMethod y_D_decrypted ∈ gW := gW_t (List.mem_append_left _ (List.mem_of_getElem? (i := 215) rfl)) rfl
theorem m_216 : Cond.selects "PinModule$Des" y_D_decrypted y_D_decrypted ∈ gW := gW_t (List.mem_append_left _ (List.mem_of_getElem? (i := 216) rfl)) rfl
theorem m_217 : Cond.code y_D_decrypted b_D_decrypted 3 (some .long) ∈ gW := gW_t (List.mem_append_left _ (List.mem_of_getElem? (i := 217) rfl)) rfl
theorem m_218 : Cond.methodLink "PinModuleLaw" 67 y_P_clear ∈ gW := gW_t (List.mem_append_left _ (List.mem_of_getElem? (i := 218) rfl)) rfl
theorem m_219 : Cond.instanceMethod y_P_clear ∈ gW := gW_t (List.mem_append_left _ (List.mem_of_getElem? (i := 219) rfl)) rfl
theorem m_220 : Cond.selects "PinModule" y_P_clear y_P_clear ∈ gW := gW_t (List.mem_append_left _ (List.mem_of_getElem? (i := 220) rfl)) rfl
theorem m_221 : Cond.code y_P_clear b_P_clear 3 (some .int) ∈ gW := gW_t (List.mem_append_left _ (List.mem_of_getElem? (i := 221) rfl)) rfl
theorem m_222 : Cond.methodLink "PinModule" 106 y_P_refusalOfSlot ∈ gW := gW_t (List.mem_append_left _ (List.mem_of_getElem? (i := 222) rfl)) rfl
theorem m_224 : Cond.instanceMethod y_P_refusalOfSlot ∈ gW := gW_t (List.mem_append_left _ (List.mem_of_getElem? (i := 224) rfl)) rfl
theorem m_225 : Cond.code y_P_refusalOfSlot b_P_refusalOfSlot 2 (some .int) ∈ gW := gW_t (List.mem_append_left _ (List.mem_of_getElem? (i := 225) rfl)) rfl
theorem m_226 : Cond.methodLink "PinModule" 110 y_S_empty ∈ gW := gW_t (List.mem_append_left _ (List.mem_of_getElem? (i := 226) rfl)) rfl
theorem m_227 : Cond.instanceMethod y_S_empty ∈ gW := gW_t (List.mem_append_left _ (List.mem_of_getElem? (i := 227) rfl)) rfl
theorem m_228 : Cond.selects "PinModule$Slots" y_S_empty y_S_empty ∈ gW := gW_t (List.mem_append_left _ (List.mem_of_getElem? (i := 228) rfl)) rfl
theorem m_229 : Cond.code y_S_empty b_S_empty 2 none ∈ gW := gW_t (List.mem_append_left _ (List.mem_of_getElem? (i := 229) rfl)) rfl
theorem m_230 : Cond.methodLink "PinModule$Slots" 27 y_S_fill ∈ gW := gW_t (List.mem_append_left _ (List.mem_of_getElem? (i := 230) rfl)) rfl
theorem m_231 : Cond.methodLink "PinModuleLaw" 72 y_P_usage ∈ gW := gW_t (List.mem_append_left _ (List.mem_of_getElem? (i := 231) rfl)) rfl
theorem m_232 : Cond.instanceMethod y_P_usage ∈ gW := gW_t (List.mem_append_left _ (List.mem_of_getElem? (i := 232) rfl)) rfl
theorem m_233 : Cond.selects "PinModule" y_P_usage y_P_usage ∈ gW := gW_t (List.mem_append_left _ (List.mem_of_getElem? (i := 233) rfl)) rfl
theorem m_234 : Cond.code y_P_usage b_P_usage 3 (some .int) ∈ gW := gW_t (List.mem_append_left _ (List.mem_of_getElem? (i := 234) rfl)) rfl
theorem m_235 : Cond.methodLink "PinModuleLaw" 76 y_P_wrap ∈ gW := gW_t (List.mem_append_left _ (List.mem_of_getElem? (i := 235) rfl)) rfl
theorem m_236 : Cond.instanceMethod y_P_wrap ∈ gW := gW_t (List.mem_append_left _ (List.mem_of_getElem? (i := 236) rfl)) rfl
theorem m_237 : Cond.selects "PinModule" y_P_wrap y_P_wrap ∈ gW := gW_t (List.mem_append_left _ (List.mem_of_getElem? (i := 237) rfl)) rfl
theorem m_238 : Cond.code y_P_wrap b_P_wrap 4 (some .int) ∈ gW := gW_t (List.mem_append_left _ (List.mem_of_getElem? (i := 238) rfl)) rfl
theorem m_239 : Cond.methodLink "PinModule" 121 y_K_header ∈ gW := gW_t (List.mem_append_left _ (List.mem_of_getElem? (i := 239) rfl)) rfl
theorem m_240 : Cond.static y_K_header ∈ gW := gW_t (List.mem_append_right _ (List.mem_append_left _ (List.mem_of_getElem? (i := 0) rfl))) rfl
theorem m_241 : Cond.code y_K_header b_K_header 1 (some .long) ∈ gW := gW_t (List.mem_append_right _ (List.mem_append_left _ (List.mem_of_getElem? (i := 1) rfl))) rfl
theorem m_242 : Cond.constantLong "PinModule$KeyBlock" 9 (5422897263212053760 : Int64) ∈ gW := gW_t (List.mem_append_right _ (List.mem_append_left _ (List.mem_of_getElem? (i := 2) rfl))) rfl
theorem m_243 : Cond.fieldLink "PinModule$KeyBlock" 11 "PinModule$KeyBlock" "LETTERS" "[C" ∈ gW := gW_t (List.mem_append_right _ (List.mem_append_left _ (List.mem_of_getElem? (i := 3) rfl))) rfl
theorem m_245 : Cond.methodLink "PinModule" 127 y_K_firstLong ∈ gW := gW_t (List.mem_append_right _ (List.mem_append_left _ (List.mem_of_getElem? (i := 5) rfl))) rfl
theorem m_246 : Cond.static y_K_firstLong ∈ gW := gW_t (List.mem_append_right _ (List.mem_append_left _ (List.mem_of_getElem? (i := 6) rfl))) rfl
theorem m_247 : Cond.code y_K_firstLong b_K_firstLong 2 (some .long) ∈ gW := gW_t (List.mem_append_right _ (List.mem_append_left _ (List.mem_of_getElem? (i := 7) rfl))) rfl
theorem m_248 : Cond.constantLong "PinModule$KeyBlock" 19 (36028797018963968 : Int64) ∈ gW := gW_t (List.mem_append_right _ (List.mem_append_left _ (List.mem_of_getElem? (i := 8) rfl))) rfl
theorem m_249 : Cond.methodLink "PinModule" 130 y_K_secondLong ∈ gW := gW_t (List.mem_append_right _ (List.mem_append_left _ (List.mem_of_getElem? (i := 9) rfl))) rfl
theorem m_250 : Cond.static y_K_secondLong ∈ gW := gW_t (List.mem_append_right _ (List.mem_append_left _ (List.mem_of_getElem? (i := 10) rfl))) rfl
theorem m_251 : Cond.code y_K_secondLong b_K_secondLong 4 (some .long) ∈ gW := gW_t (List.mem_append_right _ (List.mem_append_left _ (List.mem_of_getElem? (i := 11) rfl))) rfl
theorem m_252 : Cond.methodLink "PinModule" 134 y_K_thirdLong ∈ gW := gW_t (List.mem_append_right _ (List.mem_append_left _ (List.mem_of_getElem? (i := 12) rfl))) rfl
theorem m_253 : Cond.static y_K_thirdLong ∈ gW := gW_t (List.mem_append_right _ (List.mem_append_left _ (List.mem_of_getElem? (i := 13) rfl))) rfl
theorem m_254 : Cond.code y_K_thirdLong b_K_thirdLong 2 (some .long) ∈ gW := gW_t (List.mem_append_right _ (List.mem_append_left _ (List.mem_of_getElem? (i := 14) rfl))) rfl
theorem m_255 : Cond.methodLink "PinModule" 137 y_C_sealBlock ∈ gW := gW_t (List.mem_append_right _ (List.mem_append_left _ (List.mem_of_getElem? (i := 15) rfl))) rfl
theorem m_256 : Cond.methodLink "PinModule" 140 y_P_codeOfKeyBlock ∈ gW := gW_t (List.mem_append_right _ (List.mem_append_left _ (List.mem_of_getElem? (i := 16) rfl))) rfl
theorem m_258 : Cond.instanceMethod y_P_codeOfKeyBlock ∈ gW := gW_t (List.mem_append_right _ (List.mem_append_left _ (List.mem_of_getElem? (i := 18) rfl))) rfl
theorem m_259 : Cond.code y_P_codeOfKeyBlock b_P_codeOfKeyBlock 4 (some .long) ∈ gW := gW_t (List.mem_append_right _ (List.mem_append_left _ (List.mem_of_getElem? (i := 19) rfl))) rfl
theorem m_260 : Cond.constantLong "PinModule" 268 (5570193308531903821 : Int64) ∈ gW := gW_t (List.mem_append_right _ (List.mem_append_left _ (List.mem_of_getElem? (i := 20) rfl))) rfl
theorem m_261 : Cond.methodLink "PinModuleLaw" 80 y_P_unwrap ∈ gW := gW_t (List.mem_append_right _ (List.mem_append_left _ (List.mem_of_getElem? (i := 21) rfl))) rfl
theorem m_262 : Cond.instanceMethod y_P_unwrap ∈ gW := gW_t (List.mem_append_right _ (List.mem_append_left _ (List.mem_of_getElem? (i := 22) rfl))) rfl
theorem m_263 : Cond.selects "PinModule" y_P_unwrap y_P_unwrap ∈ gW := gW_t (List.mem_append_right _ (List.mem_append_left _ (List.mem_of_getElem? (i := 23) rfl))) rfl
theorem m_264 : Cond.code y_P_unwrap b_P_unwrap 13 (some .int) ∈ gW := gW_t (List.mem_append_right _ (List.mem_append_left _ (List.mem_of_getElem? (i := 24) rfl))) rfl
theorem m_265 : Cond.methodLink "PinModule" 144 y_K_usageOfHeader ∈ gW := gW_t (List.mem_append_right _ (List.mem_append_left _ (List.mem_of_getElem? (i := 25) rfl))) rfl
theorem m_266 : Cond.static y_K_usageOfHeader ∈ gW := gW_t (List.mem_append_right _ (List.mem_append_left _ (List.mem_of_getElem? (i := 26) rfl))) rfl
theorem m_267 : Cond.code y_K_usageOfHeader b_K_usageOfHeader 3 (some .int) ∈ gW := gW_t (List.mem_append_right _ (List.mem_append_left _ (List.mem_of_getElem? (i := 27) rfl))) rfl
theorem m_268 : Cond.methodLink "PinModule$KeyBlock" 15 y_K_header ∈ gW := gW_t (List.mem_append_right _ (List.mem_append_left _ (List.mem_of_getElem? (i := 28) rfl))) rfl
theorem m_269 : Cond.methodLink "PinModule" 148 y_C_openBlock ∈ gW := gW_t (List.mem_append_right _ (List.mem_append_left _ (List.mem_of_getElem? (i := 29) rfl))) rfl
theorem m_270 : Cond.instanceMethod y_C_openBlock ∈ gW := gW_t (List.mem_append_right _ (List.mem_append_left _ (List.mem_of_getElem? (i := 30) rfl))) rfl
theorem m_271 : Cond.selects "PinModule$Cipher" y_C_openBlock y_C_openBlock ∈ gW := gW_t (List.mem_append_right _ (List.mem_append_left _ (List.mem_of_getElem? (i := 31) rfl))) rfl
theorem m_272 : Cond.code y_C_openBlock b_C_openBlock 3 (some .long) ∈ gW := gW_t (List.mem_append_right _ (List.mem_append_left _ (List.mem_of_getElem? (i := 32) rfl))) rfl
theorem m_273 : Cond.methodLink "PinModule" 151 y_K_leftHalf ∈ gW := gW_t (List.mem_append_right _ (List.mem_append_left _ (List.mem_of_getElem? (i := 33) rfl))) rfl
theorem m_274 : Cond.static y_K_leftHalf ∈ gW := gW_t (List.mem_append_right _ (List.mem_append_left _ (List.mem_of_getElem? (i := 34) rfl))) rfl
theorem m_275 : Cond.code y_K_leftHalf b_K_leftHalf 4 (some .long) ∈ gW := gW_t (List.mem_append_right _ (List.mem_append_left _ (List.mem_of_getElem? (i := 35) rfl))) rfl
theorem m_276 : Cond.methodLink "PinModule" 154 y_K_rightHalf ∈ gW := gW_t (List.mem_append_right _ (List.mem_append_left _ (List.mem_of_getElem? (i := 36) rfl))) rfl
theorem m_277 : Cond.static y_K_rightHalf ∈ gW := gW_t (List.mem_append_right _ (List.mem_append_left _ (List.mem_of_getElem? (i := 37) rfl))) rfl
theorem m_278 : Cond.code y_K_rightHalf b_K_rightHalf 4 (some .long) ∈ gW := gW_t (List.mem_append_right _ (List.mem_append_left _ (List.mem_of_getElem? (i := 38) rfl))) rfl
theorem m_279 : Cond.methodLink "PinModule" 157 y_K_isFramed ∈ gW := gW_t (List.mem_append_right _ (List.mem_append_left _ (List.mem_of_getElem? (i := 39) rfl))) rfl
theorem m_280 : Cond.static y_K_isFramed ∈ gW := gW_t (List.mem_append_right _ (List.mem_append_left _ (List.mem_of_getElem? (i := 40) rfl))) rfl
theorem m_281 : Cond.code y_K_isFramed b_K_isFramed 4 (some .boolean) ∈ gW := gW_t (List.mem_append_right _ (List.mem_append_left _ (List.mem_of_getElem? (i := 41) rfl))) rfl
theorem m_282 : Cond.constantLong "PinModule$KeyBlock" 21 (128 : Int64) ∈ gW := gW_t (List.mem_append_right _ (List.mem_append_left _ (List.mem_of_getElem? (i := 42) rfl))) rfl
theorem m_283 : Cond.methodLink "PinModuleLaw" 84 y_P_terminal ∈ gW := gW_t (List.mem_append_right _ (List.mem_append_left _ (List.mem_of_getElem? (i := 43) rfl))) rfl
theorem m_284 : Cond.instanceMethod y_P_terminal ∈ gW := gW_t (List.mem_append_right _ (List.mem_append_left _ (List.mem_of_getElem? (i := 44) rfl))) rfl
theorem m_285 : Cond.selects "PinModule" y_P_terminal y_P_terminal ∈ gW := gW_t (List.mem_append_right _ (List.mem_append_left _ (List.mem_of_getElem? (i := 45) rfl))) rfl
theorem m_286 : Cond.code y_P_terminal b_P_terminal 5 (some .int) ∈ gW := gW_t (List.mem_append_right _ (List.mem_append_left _ (List.mem_of_getElem? (i := 46) rfl))) rfl
theorem m_287 : Cond.methodLink "PinModule" 161 y_T_isNumber ∈ gW := gW_t (List.mem_append_right _ (List.mem_append_left _ (List.mem_of_getElem? (i := 47) rfl))) rfl
theorem m_288 : Cond.static y_T_isNumber ∈ gW := gW_t (List.mem_append_right _ (List.mem_append_left _ (List.mem_of_getElem? (i := 48) rfl))) rfl
theorem m_289 : Cond.code y_T_isNumber b_T_isNumber 1 (some .boolean) ∈ gW := gW_t (List.mem_append_right _ (List.mem_append_left _ (List.mem_of_getElem? (i := 49) rfl))) rfl
theorem m_290 : Cond.methodLink "PinModule" 162 y_T_isSerial ∈ gW := gW_t (List.mem_append_right _ (List.mem_append_left _ (List.mem_of_getElem? (i := 50) rfl))) rfl
theorem m_291 : Cond.static y_T_isSerial ∈ gW := gW_t (List.mem_append_right _ (List.mem_append_left _ (List.mem_of_getElem? (i := 51) rfl))) rfl
theorem m_292 : Cond.code y_T_isSerial b_T_isSerial 2 (some .boolean) ∈ gW := gW_t (List.mem_append_right _ (List.mem_append_left _ (List.mem_of_getElem? (i := 52) rfl))) rfl
theorem m_293 : Cond.constantLong "PinModule$Terminals" 32 (8796093022207 : Int64) ∈ gW := gW_t (List.mem_append_right _ (List.mem_append_left _ (List.mem_of_getElem? (i := 53) rfl))) rfl
theorem m_294 : Cond.methodLink "PinModule" 169 y_T_make ∈ gW := gW_t (List.mem_append_right _ (List.mem_append_left _ (List.mem_of_getElem? (i := 54) rfl))) rfl
theorem m_295 : Cond.instanceMethod y_T_make ∈ gW := gW_t (List.mem_append_right _ (List.mem_append_left _ (List.mem_of_getElem? (i := 55) rfl))) rfl
theorem m_296 : Cond.selects "PinModule$Terminals" y_T_make y_T_make ∈ gW := gW_t (List.mem_append_right _ (List.mem_append_left _ (List.mem_of_getElem? (i := 56) rfl))) rfl
theorem m_297 : Cond.code y_T_make b_T_make 11 none ∈ gW := gW_t (List.mem_append_right _ (List.mem_append_left _ (List.mem_of_getElem? (i := 57) rfl))) rfl
theorem m_298 : Cond.constantLong "PinModule$Terminals" 34 (-281474976710656 : Int64) ∈ gW := gW_t (List.mem_append_right _ (List.mem_append_left _ (List.mem_of_getElem? (i := 58) rfl))) rfl
theorem m_299 : Cond.methodLink "PinModule$Terminals" 36 y_C_take ∈ gW := gW_t (List.mem_append_right _ (List.mem_append_left _ (List.mem_of_getElem? (i := 59) rfl))) rfl
theorem m_300 : Cond.methodLink "PinModule$Terminals" 42 y_C_sealBlock ∈ gW := gW_t (List.mem_append_right _ (List.mem_append_left _ (List.mem_of_getElem? (i := 60) rfl))) rfl
theorem m_301 : Cond.constantLong "PinModule$Terminals" 46 (-4557430892032688128 : Int64) ∈ gW := gW_t (List.mem_append_right _ (List.mem_append_left _ (List.mem_of_getElem? (i := 61) rfl))) rfl
theorem m_302 : Cond.methodLink "PinModuleLaw" 89 y_P_next ∈ gW := gW_t (List.mem_append_right _ (List.mem_append_left _ (List.mem_of_getElem? (i := 62) rfl))) rfl
theorem m_303 : Cond.instanceMethod y_P_next ∈ gW := gW_t (List.mem_append_right _ (List.mem_append_left _ (List.mem_of_getElem? (i := 63) rfl))) rfl
theorem m_304 : Cond.selects "PinModule" y_P_next y_P_next ∈ gW := gW_t (List.mem_append_right _ (List.mem_append_left _ (List.mem_of_getElem? (i := 64) rfl))) rfl
theorem m_305 : Cond.code y_P_next b_P_next 2 (some .int) ∈ gW := gW_t (List.mem_append_right _ (List.mem_append_left _ (List.mem_of_getElem? (i := 65) rfl))) rfl
theorem m_306 : Cond.methodLink "PinModule" 173 y_T_counter ∈ gW := gW_t (List.mem_append_right _ (List.mem_append_left _ (List.mem_of_getElem? (i := 66) rfl))) rfl
theorem m_307 : Cond.instanceMethod y_T_counter ∈ gW := gW_t (List.mem_append_right _ (List.mem_append_left _ (List.mem_of_getElem? (i := 67) rfl))) rfl
theorem m_308 : Cond.selects "PinModule$Terminals" y_T_counter y_T_counter ∈ gW := gW_t (List.mem_append_right _ (List.mem_append_left _ (List.mem_of_getElem? (i := 68) rfl))) rfl
theorem m_309 : Cond.code y_T_counter b_T_counter 2 (some .int) ∈ gW := gW_t (List.mem_append_right _ (List.mem_append_left _ (List.mem_of_getElem? (i := 69) rfl))) rfl
theorem m_310 : Cond.constantLong "PinModule$Terminals" 48 (2097151 : Int64) ∈ gW := gW_t (List.mem_append_right _ (List.mem_append_left _ (List.mem_of_getElem? (i := 70) rfl))) rfl
theorem m_311 : Cond.methodLink "PinModule" 176 y_T_advance ∈ gW := gW_t (List.mem_append_right _ (List.mem_append_left _ (List.mem_of_getElem? (i := 71) rfl))) rfl
theorem m_312 : Cond.instanceMethod y_T_advance ∈ gW := gW_t (List.mem_append_right _ (List.mem_append_left _ (List.mem_of_getElem? (i := 72) rfl))) rfl
theorem m_313 : Cond.selects "PinModule$Terminals" y_T_advance y_T_advance ∈ gW := gW_t (List.mem_append_right _ (List.mem_append_left _ (List.mem_of_getElem? (i := 73) rfl))) rfl
theorem m_314 : Cond.code y_T_advance b_T_advance 4 (some .int) ∈ gW := gW_t (List.mem_append_right _ (List.mem_append_left _ (List.mem_of_getElem? (i := 74) rfl))) rfl
theorem m_315 : Cond.methodLink "PinModule$Terminals" 52 y_T_leastAllowed ∈ gW := gW_t (List.mem_append_right _ (List.mem_append_left _ (List.mem_of_getElem? (i := 75) rfl))) rfl
theorem m_316 : Cond.static y_T_leastAllowed ∈ gW := gW_t (List.mem_append_right _ (List.mem_append_left _ (List.mem_of_getElem? (i := 76) rfl))) rfl
theorem m_317 : Cond.code y_T_leastAllowed b_T_leastAllowed 3 (some .int) ∈ gW := gW_t (List.mem_append_right _ (List.mem_append_left _ (List.mem_of_getElem? (i := 77) rfl))) rfl
theorem m_318 : Cond.methodLink "PinModule$Terminals" 64 y_JI_bitCount ∈ gW := gW_t (List.mem_append_right _ (List.mem_append_left _ (List.mem_of_getElem? (i := 78) rfl))) rfl
theorem m_319 : Cond.static y_JI_bitCount ∈ gW := gW_t (List.mem_append_right _ (List.mem_append_left _ (List.mem_of_getElem? (i := 79) rfl))) rfl
theorem m_320 : Cond.code y_JI_bitCount b_JI_bitCount 1 (some .int) ∈ gW := gW_t (List.mem_append_right _ (List.mem_append_left _ (List.mem_of_getElem? (i := 80) rfl))) rfl
theorem m_321 : Cond.constant "java/lang/Integer" 265 (1431655765 : Int32) ∈ gW := gW_t (List.mem_append_right _ (List.mem_append_left _ (List.mem_of_getElem? (i := 81) rfl))) rfl
theorem m_322 : Cond.constant "java/lang/Integer" 266 (858993459 : Int32) ∈ gW := gW_t (List.mem_append_right _ (List.mem_append_left _ (List.mem_of_getElem? (i := 82) rfl))) rfl
theorem m_323 : Cond.constant "java/lang/Integer" 267 (252645135 : Int32) ∈ gW := gW_t (List.mem_append_right _ (List.mem_append_left _ (List.mem_of_getElem? (i := 83) rfl))) rfl
theorem m_324 : Cond.constant "PinModule$Terminals" 56 (2097151 : Int32) ∈ gW := gW_t (List.mem_append_right _ (List.mem_append_left _ (List.mem_of_getElem? (i := 84) rfl))) rfl
theorem m_325 : Cond.methodLink "PinModule$Terminals" 57 y_T_counter ∈ gW := gW_t (List.mem_append_right _ (List.mem_append_left _ (List.mem_of_getElem? (i := 85) rfl))) rfl
theorem m_326 : Cond.methodLink "PinModule$Terminals" 60 y_T_withoutCounter ∈ gW := gW_t (List.mem_append_right _ (List.mem_append_left _ (List.mem_of_getElem? (i := 86) rfl))) rfl
theorem m_328 : Cond.instanceMethod y_T_withoutCounter ∈ gW := gW_t (List.mem_append_right _ (List.mem_append_left _ (List.mem_of_getElem? (i := 88) rfl))) rfl
theorem m_329 : Cond.code y_T_withoutCounter b_T_withoutCounter 2 (some .long) ∈ gW := gW_t (List.mem_append_right _ (List.mem_append_left _ (List.mem_of_getElem? (i := 89) rfl))) rfl
theorem m_330 : Cond.constantLong "PinModule$Terminals" 50 (-2097152 : Int64) ∈ gW := gW_t (List.mem_append_right _ (List.mem_append_left _ (List.mem_of_getElem? (i := 90) rfl))) rfl
theorem m_331 : Cond.methodLink "PinModuleLaw" 93 y_P_skip ∈ gW := gW_t (List.mem_append_right _ (List.mem_append_left _ (List.mem_of_getElem? (i := 91) rfl))) rfl
theorem m_332 : Cond.instanceMethod y_P_skip ∈ gW := gW_t (List.mem_append_right _ (List.mem_append_left _ (List.mem_of_getElem? (i := 92) rfl))) rfl
theorem m_333 : Cond.selects "PinModule" y_P_skip y_P_skip ∈ gW := gW_t (List.mem_append_right _ (List.mem_append_left _ (List.mem_of_getElem? (i := 93) rfl))) rfl
theorem m_334 : Cond.code y_P_skip b_P_skip 3 (some .int) ∈ gW := gW_t (List.mem_append_right _ (List.mem_append_left _ (List.mem_of_getElem? (i := 94) rfl))) rfl
theorem m_335 : Cond.constant "PinModule" 180 (2097151 : Int32) ∈ gW := gW_t (List.mem_append_right _ (List.mem_append_left _ (List.mem_of_getElem? (i := 95) rfl))) rfl
theorem m_336 : Cond.methodLink "PinModuleLaw" 98 y_P_check ∈ gW := gW_t (List.mem_append_right _ (List.mem_append_left _ (List.mem_of_getElem? (i := 96) rfl))) rfl
theorem m_337 : Cond.instanceMethod y_P_check ∈ gW := gW_t (List.mem_append_right _ (List.mem_append_left _ (List.mem_of_getElem? (i := 97) rfl))) rfl
theorem m_338 : Cond.selects "PinModule" y_P_check y_P_check ∈ gW := gW_t (List.mem_append_right _ (List.mem_append_left _ (List.mem_of_getElem? (i := 98) rfl))) rfl
theorem m_339 : Cond.code y_P_check b_P_check 2 (some .int) ∈ gW := gW_t (List.mem_append_right _ (List.mem_append_left _ (List.mem_of_getElem? (i := 99) rfl))) rfl
theorem m_340 : Cond.methodLink "PinModule" 181 y_P_isKeyNumber ∈ gW := gW_t (List.mem_append_right _ (List.mem_append_left _ (List.mem_of_getElem? (i := 100) rfl))) rfl
theorem m_341 : Cond.static y_P_isKeyNumber ∈ gW := gW_t (List.mem_append_right _ (List.mem_append_left _ (List.mem_of_getElem? (i := 101) rfl))) rfl
theorem m_342 : Cond.code y_P_isKeyNumber b_P_isKeyNumber 1 (some .boolean) ∈ gW := gW_t (List.mem_append_right _ (List.mem_append_left _ (List.mem_of_getElem? (i := 102) rfl))) rfl
theorem m_343 : Cond.methodLink "PinModule" 184 y_P_hasKey ∈ gW := gW_t (List.mem_append_right _ (List.mem_append_left _ (List.mem_of_getElem? (i := 103) rfl))) rfl
theorem m_345 : Cond.instanceMethod y_P_hasKey ∈ gW := gW_t (List.mem_append_right _ (List.mem_append_left _ (List.mem_of_getElem? (i := 105) rfl))) rfl
theorem m_346 : Cond.code y_P_hasKey b_P_hasKey 2 (some .boolean) ∈ gW := gW_t (List.mem_append_right _ (List.mem_append_left _ (List.mem_of_getElem? (i := 106) rfl))) rfl
theorem m_347 : Cond.methodLink "PinModule" 187 y_P_takeKey ∈ gW := gW_t (List.mem_append_right _ (List.mem_append_left _ (List.mem_of_getElem? (i := 107) rfl))) rfl
theorem m_349 : Cond.instanceMethod y_P_takeKey ∈ gW := gW_t (List.mem_append_right _ (List.mem_append_left _ (List.mem_of_getElem? (i := 109) rfl))) rfl
theorem m_350 : Cond.code y_P_takeKey b_P_takeKey 4 none ∈ gW := gW_t (List.mem_append_right _ (List.mem_append_left _ (List.mem_of_getElem? (i := 110) rfl))) rfl
theorem m_351 : Cond.methodLink "PinModule" 256 y_T_deriveCurrentKey ∈ gW := gW_t (List.mem_append_right _ (List.mem_append_left _ (List.mem_of_getElem? (i := 111) rfl))) rfl
theorem m_352 : Cond.instanceMethod y_T_deriveCurrentKey ∈ gW := gW_t (List.mem_append_right _ (List.mem_append_left _ (List.mem_of_getElem? (i := 112) rfl))) rfl
theorem m_353 : Cond.selects "PinModule$Terminals" y_T_deriveCurrentKey y_T_deriveCurrentKey ∈ gW := gW_t (List.mem_append_right _ (List.mem_append_left _ (List.mem_of_getElem? (i := 113) rfl))) rfl
theorem m_354 : Cond.code y_T_deriveCurrentKey b_T_deriveCurrentKey 9 none ∈ gW := gW_t (List.mem_append_right _ (List.mem_append_left _ (List.mem_of_getElem? (i := 114) rfl))) rfl
theorem m_355 : Cond.methodLink "PinModule$Terminals" 76 y_T_derivedHalf ∈ gW := gW_t (List.mem_append_right _ (List.mem_append_left _ (List.mem_of_getElem? (i := 115) rfl))) rfl
theorem m_357 : Cond.instanceMethod y_T_derivedHalf ∈ gW := gW_t (List.mem_append_right _ (List.mem_append_left _ (List.mem_of_getElem? (i := 117) rfl))) rfl
theorem m_358 : Cond.code y_T_derivedHalf b_T_derivedHalf 7 (some .long) ∈ gW := gW_t (List.mem_append_right _ (List.mem_append_left _ (List.mem_of_getElem? (i := 118) rfl))) rfl
theorem m_359 : Cond.methodLink "PinModule$Terminals" 80 y_D_take ∈ gW := gW_t (List.mem_append_right _ (List.mem_append_left _ (List.mem_of_getElem? (i := 119) rfl))) rfl
theorem m_360 : Cond.methodLink "PinModule$Terminals" 83 y_D_encrypted ∈ gW := gW_t (List.mem_append_right _ (List.mem_append_left _ (List.mem_of_getElem? (i := 120) rfl))) rfl
theorem m_361 : Cond.methodLink "PinModuleLaw" 102 y_P_pin ∈ gW := gW_t (List.mem_append_right _ (List.mem_append_left _ (List.mem_of_getElem? (i := 121) rfl))) rfl
theorem m_362 : Cond.instanceMethod y_P_pin ∈ gW := gW_t (List.mem_append_right _ (List.mem_append_left _ (List.mem_of_getElem? (i := 122) rfl))) rfl
theorem m_363 : Cond.selects "PinModule" y_P_pin y_P_pin ∈ gW := gW_t (List.mem_append_right _ (List.mem_append_left _ (List.mem_of_getElem? (i := 123) rfl))) rfl
theorem m_364 : Cond.code y_P_pin b_P_pin 11 (some .int) ∈ gW := gW_t (List.mem_append_right _ (List.mem_append_left _ (List.mem_of_getElem? (i := 124) rfl))) rfl
theorem m_365 : Cond.methodLink "PinModule" 191 y_B_isFormat ∈ gW := gW_t (List.mem_append_right _ (List.mem_append_left _ (List.mem_of_getElem? (i := 125) rfl))) rfl
theorem m_366 : Cond.static y_B_isFormat ∈ gW := gW_t (List.mem_append_right _ (List.mem_append_left _ (List.mem_of_getElem? (i := 126) rfl))) rfl
theorem m_367 : Cond.code y_B_isFormat b_B_isFormat 1 (some .boolean) ∈ gW := gW_t (List.mem_append_right _ (List.mem_append_left _ (List.mem_of_getElem? (i := 127) rfl))) rfl
theorem m_368 : Cond.methodLink "PinModule" 196 y_B_isLength ∈ gW := gW_t (List.mem_append_right _ (List.mem_append_left _ (List.mem_of_getElem? (i := 128) rfl))) rfl
theorem m_369 : Cond.static y_B_isLength ∈ gW := gW_t (List.mem_append_right _ (List.mem_append_left _ (List.mem_of_getElem? (i := 129) rfl))) rfl
theorem m_370 : Cond.code y_B_isLength b_B_isLength 1 (some .boolean) ∈ gW := gW_t (List.mem_append_right _ (List.mem_append_left _ (List.mem_of_getElem? (i := 130) rfl))) rfl
theorem m_371 : Cond.methodLink "PinModule" 199 y_P_areDigits ∈ gW := gW_t (List.mem_append_right _ (List.mem_append_left _ (List.mem_of_getElem? (i := 131) rfl))) rfl
theorem m_372 : Cond.static y_P_areDigits ∈ gW := gW_t (List.mem_append_right _ (List.mem_append_left _ (List.mem_of_getElem? (i := 132) rfl))) rfl
theorem m_373 : Cond.code y_P_areDigits b_P_areDigits 6 (some .boolean) ∈ gW := gW_t (List.mem_append_right _ (List.mem_append_left _ (List.mem_of_getElem? (i := 133) rfl))) rfl
theorem m_374 : Cond.constantLong "PinModule" 274 (9 : Int64) ∈ gW := gW_t (List.mem_append_right _ (List.mem_append_left _ (List.mem_of_getElem? (i := 134) rfl))) rfl
theorem m_375 : Cond.constantLong "PinModule" 276 (15 : Int64) ∈ gW := gW_t (List.mem_append_right _ (List.mem_append_left _ (List.mem_of_getElem? (i := 135) rfl))) rfl
theorem m_376 : Cond.methodLink "PinModule" 203 y_B_fillCount ∈ gW := gW_t (List.mem_append_right _ (List.mem_append_left _ (List.mem_of_getElem? (i := 136) rfl))) rfl
theorem m_377 : Cond.static y_B_fillCount ∈ gW := gW_t (List.mem_append_right _ (List.mem_append_left _ (List.mem_of_getElem? (i := 137) rfl))) rfl
theorem m_378 : Cond.code y_B_fillCount b_B_fillCount 1 (some .int) ∈ gW := gW_t (List.mem_append_right _ (List.mem_append_left _ (List.mem_of_getElem? (i := 138) rfl))) rfl
theorem m_379 : Cond.methodLink "PinModule" 206 y_B_mayFill ∈ gW := gW_t (List.mem_append_right _ (List.mem_append_left _ (List.mem_of_getElem? (i := 139) rfl))) rfl
theorem m_380 : Cond.static y_B_mayFill ∈ gW := gW_t (List.mem_append_right _ (List.mem_append_left _ (List.mem_of_getElem? (i := 140) rfl))) rfl
theorem m_381 : Cond.code y_B_mayFill b_B_mayFill 4 (some .boolean) ∈ gW := gW_t (List.mem_append_right _ (List.mem_append_left _ (List.mem_of_getElem? (i := 141) rfl))) rfl
theorem m_382 : Cond.methodLink "PinModule$PinBlock" 9 y_B_areAtLeast ∈ gW := gW_t (List.mem_append_right _ (List.mem_append_left _ (List.mem_of_getElem? (i := 142) rfl))) rfl
theorem m_383 : Cond.static y_B_areAtLeast ∈ gW := gW_t (List.mem_append_right _ (List.mem_append_left _ (List.mem_of_getElem? (i := 143) rfl))) rfl
theorem m_384 : Cond.code y_B_areAtLeast b_B_areAtLeast 5 (some .boolean) ∈ gW := gW_t (List.mem_append_right _ (List.mem_append_left _ (List.mem_of_getElem? (i := 144) rfl))) rfl
theorem m_385 : Cond.constantLong "PinModule$PinBlock" 43 (15 : Int64) ∈ gW := gW_t (List.mem_append_right _ (List.mem_append_left _ (List.mem_of_getElem? (i := 145) rfl))) rfl
theorem m_386 : Cond.methodLink "PinModule" 210 y_P_isPinKey ∈ gW := gW_t (List.mem_append_right _ (List.mem_append_left _ (List.mem_of_getElem? (i := 146) rfl))) rfl
theorem m_388 : Cond.instanceMethod y_P_isPinKey ∈ gW := gW_t (List.mem_append_right _ (List.mem_append_left _ (List.mem_of_getElem? (i := 148) rfl))) rfl
theorem m_389 : Cond.code y_P_isPinKey b_P_isPinKey 2 (some .boolean) ∈ gW := gW_t (List.mem_append_right _ (List.mem_append_left _ (List.mem_of_getElem? (i := 149) rfl))) rfl
theorem m_390 : Cond.methodLink "PinModule" 215 y_B_made ∈ gW := gW_t (List.mem_append_right _ (List.mem_append_left _ (List.mem_of_getElem? (i := 150) rfl))) rfl
theorem m_391 : Cond.static y_B_made ∈ gW := gW_t (List.mem_append_right _ (List.mem_append_left _ (List.mem_of_getElem? (i := 151) rfl))) rfl
theorem m_392 : Cond.code y_B_made b_B_made 13 (some .long) ∈ gW := gW_t (List.mem_append_right _ (List.mem_append_left _ (List.mem_of_getElem? (i := 152) rfl))) rfl
theorem m_393 : Cond.methodLink "PinModule$PinBlock" 13 y_B_fillCount ∈ gW := gW_t (List.mem_append_right _ (List.mem_append_left _ (List.mem_of_getElem? (i := 153) rfl))) rfl
theorem m_394 : Cond.constantLong "PinModule$PinBlock" 17 (-1 : Int64) ∈ gW := gW_t (List.mem_append_right _ (List.mem_append_left _ (List.mem_of_getElem? (i := 154) rfl))) rfl
theorem m_395 : Cond.methodLink "PinModule$PinBlock" 19 y_B_accountPart ∈ gW := gW_t (List.mem_append_right _ (List.mem_append_left _ (List.mem_of_getElem? (i := 155) rfl))) rfl
theorem m_396 : Cond.static y_B_accountPart ∈ gW := gW_t (List.mem_append_right _ (List.mem_append_left _ (List.mem_of_getElem? (i := 156) rfl))) rfl
theorem m_397 : Cond.code y_B_accountPart b_B_accountPart 3 (some .long) ∈ gW := gW_t (List.mem_append_right _ (List.mem_append_left _ (List.mem_of_getElem? (i := 157) rfl))) rfl
theorem m_398 : Cond.constantLong "PinModule$PinBlock" 23 (281474976710655 : Int64) ∈ gW := gW_t (List.mem_append_right _ (List.mem_append_left _ (List.mem_of_getElem? (i := 158) rfl))) rfl
theorem m_399 : Cond.methodLink "PinModuleLaw" 107 y_P_translate ∈ gW := gW_t (List.mem_append_right _ (List.mem_append_left _ (List.mem_of_getElem? (i := 159) rfl))) rfl
theorem m_400 : Cond.instanceMethod y_P_translate ∈ gW := gW_t (List.mem_append_right _ (List.mem_append_left _ (List.mem_of_getElem? (i := 160) rfl))) rfl
theorem m_401 : Cond.selects "PinModule" y_P_translate y_P_translate ∈ gW := gW_t (List.mem_append_right _ (List.mem_append_left _ (List.mem_of_getElem? (i := 161) rfl))) rfl
theorem m_402 : Cond.code y_P_translate b_P_translate 13 (some .int) ∈ gW := gW_t (List.mem_append_right _ (List.mem_append_left _ (List.mem_of_getElem? (i := 162) rfl))) rfl
theorem m_403 : Cond.methodLink "PinModule" 218 y_P_openedPinBlock ∈ gW := gW_t (List.mem_append_right _ (List.mem_append_left _ (List.mem_of_getElem? (i := 163) rfl))) rfl
theorem m_405 : Cond.instanceMethod y_P_openedPinBlock ∈ gW := gW_t (List.mem_append_right _ (List.mem_append_left _ (List.mem_of_getElem? (i := 165) rfl))) rfl
theorem m_406 : Cond.code y_P_openedPinBlock b_P_openedPinBlock 4 (some .long) ∈ gW := gW_t (List.mem_append_right _ (List.mem_append_left _ (List.mem_of_getElem? (i := 166) rfl))) rfl
theorem m_407 : Cond.methodLink "PinModule" 265 y_B_accountPart ∈ gW := gW_t (List.mem_append_right _ (List.mem_append_left _ (List.mem_of_getElem? (i := 167) rfl))) rfl
theorem m_408 : Cond.methodLink "PinModule" 222 y_B_isOf ∈ gW := gW_t (List.mem_append_right _ (List.mem_append_left _ (List.mem_of_getElem? (i := 168) rfl))) rfl
theorem m_409 : Cond.static y_B_isOf ∈ gW := gW_t (List.mem_append_right _ (List.mem_append_left _ (List.mem_of_getElem? (i := 169) rfl))) rfl
theorem m_410 : Cond.code y_B_isOf b_B_isOf 4 (some .boolean) ∈ gW := gW_t (List.mem_append_right _ (List.mem_append_left _ (List.mem_of_getElem? (i := 170) rfl))) rfl
theorem m_411 : Cond.methodLink "PinModule$PinBlock" 25 y_B_lengthOf ∈ gW := gW_t (List.mem_append_right _ (List.mem_append_left _ (List.mem_of_getElem? (i := 171) rfl))) rfl
theorem m_412 : Cond.static y_B_lengthOf ∈ gW := gW_t (List.mem_append_right _ (List.mem_append_left _ (List.mem_of_getElem? (i := 172) rfl))) rfl
theorem m_413 : Cond.code y_B_lengthOf b_B_lengthOf 2 (some .int) ∈ gW := gW_t (List.mem_append_right _ (List.mem_append_left _ (List.mem_of_getElem? (i := 173) rfl))) rfl
theorem m_414 : Cond.methodLink "PinModule$PinBlock" 29 y_B_isLength ∈ gW := gW_t (List.mem_append_right _ (List.mem_append_left _ (List.mem_of_getElem? (i := 174) rfl))) rfl
theorem m_415 : Cond.methodLink "PinModule$PinBlock" 33 y_B_digitsOf ∈ gW := gW_t (List.mem_append_right _ (List.mem_append_left _ (List.mem_of_getElem? (i := 175) rfl))) rfl
theorem m_416 : Cond.static y_B_digitsOf ∈ gW := gW_t (List.mem_append_right _ (List.mem_append_left _ (List.mem_of_getElem? (i := 176) rfl))) rfl
theorem m_417 : Cond.code y_B_digitsOf b_B_digitsOf 3 (some .long) ∈ gW := gW_t (List.mem_append_right _ (List.mem_append_left _ (List.mem_of_getElem? (i := 177) rfl))) rfl
theorem m_419 : Cond.methodLink "PinModule" 226 y_B_lengthOf ∈ gW := gW_t (List.mem_append_right _ (List.mem_append_left _ (List.mem_of_getElem? (i := 179) rfl))) rfl
theorem m_420 : Cond.methodLink "PinModule" 229 y_B_digitsOf ∈ gW := gW_t (List.mem_append_right _ (List.mem_append_left _ (List.mem_of_getElem? (i := 180) rfl))) rfl
theorem m_421 : Cond.methodLink "PinModuleLaw" 112 y_P_verify ∈ gW := gW_t (List.mem_append_right _ (List.mem_append_left _ (List.mem_of_getElem? (i := 181) rfl))) rfl
theorem m_422 : Cond.instanceMethod y_P_verify ∈ gW := gW_t (List.mem_append_right _ (List.mem_append_left _ (List.mem_of_getElem? (i := 182) rfl))) rfl
theorem m_423 : Cond.selects "PinModule" y_P_verify y_P_verify ∈ gW := gW_t (List.mem_append_right _ (List.mem_append_left _ (List.mem_of_getElem? (i := 183) rfl))) rfl
theorem m_424 : Cond.code y_P_verify b_P_verify 12 (some .int) ∈ gW := gW_t (List.mem_append_right _ (List.mem_append_left _ (List.mem_of_getElem? (i := 184) rfl))) rfl
theorem m_425 : Cond.methodLink "PinModule" 233 y_P_isRightPin ∈ gW := gW_t (List.mem_append_right _ (List.mem_append_left _ (List.mem_of_getElem? (i := 185) rfl))) rfl
theorem m_426 : Cond.static y_P_isRightPin ∈ gW := gW_t (List.mem_append_right _ (List.mem_append_left _ (List.mem_of_getElem? (i := 186) rfl))) rfl
theorem m_427 : Cond.code y_P_isRightPin b_P_isRightPin 11 (some .boolean) ∈ gW := gW_t (List.mem_append_right _ (List.mem_append_left _ (List.mem_of_getElem? (i := 187) rfl))) rfl
theorem m_428 : Cond.constantLong "PinModule" 278 (10 : Int64) ∈ gW := gW_t (List.mem_append_right _ (List.mem_append_left _ (List.mem_of_getElem? (i := 188) rfl))) rfl
theorem m_429 : Cond.methodLink "PinModuleLaw" 117 y_P_code ∈ gW := gW_t (List.mem_append_right _ (List.mem_append_left _ (List.mem_of_getElem? (i := 189) rfl))) rfl
theorem m_430 : Cond.instanceMethod y_P_code ∈ gW := gW_t (List.mem_append_right _ (List.mem_append_left _ (List.mem_of_getElem? (i := 190) rfl))) rfl
theorem m_431 : Cond.selects "PinModule" y_P_code y_P_code ∈ gW := gW_t (List.mem_append_right _ (List.mem_append_left _ (List.mem_of_getElem? (i := 191) rfl))) rfl
theorem m_432 : Cond.code y_P_code b_P_code 6 (some .int) ∈ gW := gW_t (List.mem_append_right _ (List.mem_append_left _ (List.mem_of_getElem? (i := 192) rfl))) rfl
theorem m_433 : Cond.methodLink "PinModule" 241 y_P_paddedLong ∈ gW := gW_t (List.mem_append_right _ (List.mem_append_left _ (List.mem_of_getElem? (i := 193) rfl))) rfl
theorem m_435 : Cond.instanceMethod y_P_paddedLong ∈ gW := gW_t (List.mem_append_right _ (List.mem_append_left _ (List.mem_of_getElem? (i := 195) rfl))) rfl
theorem m_436 : Cond.code y_P_paddedLong b_P_paddedLong 6 (some .long) ∈ gW := gW_t (List.mem_append_right _ (List.mem_append_left _ (List.mem_of_getElem? (i := 196) rfl))) rfl
theorem m_437 : Cond.constantLong "PinModule" 270 (128 : Int64) ∈ gW := gW_t (List.mem_append_right _ (List.mem_append_left _ (List.mem_of_getElem? (i := 197) rfl))) rfl
theorem m_438 : Cond.constantLong "PinModule" 272 (-1 : Int64) ∈ gW := gW_t (List.mem_append_right _ (List.mem_append_left _ (List.mem_of_getElem? (i := 198) rfl))) rfl
theorem m_439 : Cond.methodLink "PinModule" 245 y_D_encrypted ∈ gW := gW_t (List.mem_append_right _ (List.mem_append_left _ (List.mem_of_getElem? (i := 199) rfl))) rfl
theorem m_440 : Cond.methodLink "PinModule" 253 y_D_decrypted ∈ gW := gW_t (List.mem_append_right _ (List.mem_append_left _ (List.mem_of_getElem? (i := 200) rfl))) rfl
theorem m_441 : Cond.methodLink "PinModuleLaw" 38 y_L_component ∈ gW := gW_t (List.mem_append_right _ (List.mem_append_left _ (List.mem_of_getElem? (i := 201) rfl))) rfl
theorem m_442 : Cond.static y_L_component ∈ gW := gW_t (List.mem_append_right _ (List.mem_append_left _ (List.mem_of_getElem? (i := 202) rfl))) rfl
theorem m_444 : Cond.classLink "PinModuleLaw" 13 "java/lang/IllegalArgumentException" ∈ gW := gW_t (List.mem_append_right _ (List.mem_append_left _ (List.mem_of_getElem? (i := 204) rfl))) rfl
theorem m_445 : Cond.classLink "PinModuleLaw" 15 "java/lang/IllegalStateException" ∈ gW := gW_t (List.mem_append_right _ (List.mem_append_left _ (List.mem_of_getElem? (i := 205) rfl))) rfl
theorem m_446 : Cond.methodLink "PinModuleLaw" 7 y_P_component ∈ gW := gW_t (List.mem_append_right _ (List.mem_append_left _ (List.mem_of_getElem? (i := 206) rfl))) rfl
theorem m_447 : Cond.instanceMethod y_P_component ∈ gW := gW_t (List.mem_append_right _ (List.mem_append_left _ (List.mem_of_getElem? (i := 207) rfl))) rfl
theorem m_448 : Cond.selects "PinModule" y_P_component y_P_component ∈ gW := gW_t (List.mem_append_right _ (List.mem_append_left _ (List.mem_of_getElem? (i := 208) rfl))) rfl
theorem m_449 : Cond.code y_P_component b_P_component 5 none ∈ gW := gW_t (List.mem_append_right _ (List.mem_append_left _ (List.mem_of_getElem? (i := 209) rfl))) rfl
theorem m_450 : Cond.classLink "PinModule" 44 "java/lang/IllegalArgumentException" ∈ gW := gW_t (List.mem_append_right _ (List.mem_append_left _ (List.mem_of_getElem? (i := 210) rfl))) rfl
theorem m_451 : Cond.instantiable "java/lang/IllegalArgumentException" 6 ∈ gW := gW_t (List.mem_append_right _ (List.mem_append_left _ (List.mem_of_getElem? (i := 211) rfl))) rfl
theorem m_459 : Cond.selects "java/lang/IllegalArgumentException" ⟨"java/lang/Throwable", "fillInStackTrace", "(I)Ljava/lang/Throwable;"⟩ ⟨"java/lang/Throwable", "fillInStackTrace", "(I)Ljava/lang/Throwable;"⟩ ∈ gW := gW_t (List.mem_append_right _ (List.mem_append_left _ (List.mem_of_getElem? (i := 219) rfl))) rfl
theorem m_460 : Cond.selects "java/lang/IllegalArgumentException" y_Th_fill0 y_Th_fill0 ∈ gW := gW_t (List.mem_append_right _ (List.mem_append_left _ (List.mem_of_getElem? (i := 220) rfl))) rfl
theorem m_461 : Cond.lays "java/lang/IllegalArgumentException" "java/lang/Throwable" "cause" "Ljava/lang/Throwable;" ∈ gW := gW_t (List.mem_append_right _ (List.mem_append_left _ (List.mem_of_getElem? (i := 221) rfl))) rfl
theorem m_462 : Cond.lays "java/lang/Throwable" "java/lang/Throwable" "cause" "Ljava/lang/Throwable;" ∈ gW := gW_t (List.mem_append_right _ (List.mem_append_left _ (List.mem_of_getElem? (i := 222) rfl))) rfl
theorem m_463 : Cond.lays "java/lang/IllegalArgumentException" "java/lang/Throwable" "stackTrace" "[Ljava/lang/StackTraceElement;" ∈ gW := gW_t (List.mem_append_right _ (List.mem_append_left _ (List.mem_of_getElem? (i := 223) rfl))) rfl
theorem m_464 : Cond.lays "java/lang/Throwable" "java/lang/Throwable" "stackTrace" "[Ljava/lang/StackTraceElement;" ∈ gW := gW_t (List.mem_append_right _ (List.mem_append_left _ (List.mem_of_getElem? (i := 224) rfl))) rfl
theorem m_465 : Cond.lays "java/lang/IllegalArgumentException" "java/lang/Throwable" "suppressedExceptions" "Ljava/util/List;" ∈ gW := gW_t (List.mem_append_right _ (List.mem_append_left _ (List.mem_of_getElem? (i := 225) rfl))) rfl
theorem m_466 : Cond.lays "java/lang/Throwable" "java/lang/Throwable" "suppressedExceptions" "Ljava/util/List;" ∈ gW := gW_t (List.mem_append_right _ (List.mem_append_left _ (List.mem_of_getElem? (i := 226) rfl))) rfl
theorem m_467 : Cond.lays "java/lang/IllegalArgumentException" "java/lang/Throwable" "detailMessage" "Ljava/lang/String;" ∈ gW := gW_t (List.mem_append_right _ (List.mem_append_left _ (List.mem_of_getElem? (i := 227) rfl))) rfl
theorem m_468 : Cond.lays "java/lang/Throwable" "java/lang/Throwable" "detailMessage" "Ljava/lang/String;" ∈ gW := gW_t (List.mem_append_right _ (List.mem_append_left _ (List.mem_of_getElem? (i := 228) rfl))) rfl
theorem m_469 : Cond.lays "java/lang/IllegalArgumentException" "java/lang/Throwable" "backtrace" "Ljava/lang/Object;" ∈ gW := gW_t (List.mem_append_right _ (List.mem_append_left _ (List.mem_of_getElem? (i := 229) rfl))) rfl
theorem m_470 : Cond.lays "java/lang/Throwable" "java/lang/Throwable" "backtrace" "Ljava/lang/Object;" ∈ gW := gW_t (List.mem_append_right _ (List.mem_append_left _ (List.mem_of_getElem? (i := 230) rfl))) rfl
theorem m_471 : Cond.fieldLink "java/lang/Throwable" 198 "java/lang/Throwable" "backtrace" "Ljava/lang/Object;" ∈ gW := gW_t (List.mem_append_right _ (List.mem_append_left _ (List.mem_of_getElem? (i := 231) rfl))) rfl
theorem m_473 : Cond.instanceMethod y_Th_init0 ∈ gW := gW_t (List.mem_append_right _ (List.mem_append_left _ (List.mem_of_getElem? (i := 233) rfl))) rfl
theorem m_474 : Cond.code y_Th_init0 b_Th_init0 1 none ∈ gW := gW_t (List.mem_append_right _ (List.mem_append_left _ (List.mem_of_getElem? (i := 234) rfl))) rfl
theorem m_475 : Cond.methodLink "java/lang/Throwable" 1 y_O_init ∈ gW := gW_t (List.mem_append_right _ (List.mem_append_left _ (List.mem_of_getElem? (i := 235) rfl))) rfl
theorem m_476 : Cond.fieldLink "java/lang/Throwable" 13 "java/lang/Throwable" "UNASSIGNED_STACK" "[Ljava/lang/StackTraceElement;" ∈ gW := gW_t (List.mem_append_right _ (List.mem_append_left _ (List.mem_of_getElem? (i := 236) rfl))) rfl
theorem m_478 : Cond.fieldLink "java/lang/Throwable" 20 "java/lang/Throwable" "SUPPRESSED_SENTINEL" "Ljava/util/List;" ∈ gW := gW_t (List.mem_append_right _ (List.mem_append_left _ (List.mem_of_getElem? (i := 238) rfl))) rfl
theorem m_480 : Cond.methodLink "java/lang/Throwable" 27 y_Th_fill0 ∈ gW := gW_t (List.mem_append_right _ (List.mem_append_right _ (List.mem_append_left _ (List.mem_of_getElem? (i := 0) rfl)))) rfl
theorem m_481 : Cond.instanceMethod y_Th_fill0 ∈ gW := gW_t (List.mem_append_right _ (List.mem_append_right _ (List.mem_append_left _ (List.mem_of_getElem? (i := 1) rfl)))) rfl
theorem m_483 : Cond.selects "java/lang/IllegalStateException" y_Th_fill0 y_Th_fill0 ∈ gW := gW_t (List.mem_append_right _ (List.mem_append_right _ (List.mem_append_left _ (List.mem_of_getElem? (i := 3) rfl)))) rfl
theorem m_485 : Cond.methodLink "java/lang/Throwable" 202 ⟨"java/lang/Throwable", "fillInStackTrace", "(I)Ljava/lang/Throwable;"⟩ ∈ gW := gW_t (List.mem_append_right _ (List.mem_append_right _ (List.mem_append_left _ (List.mem_of_getElem? (i := 5) rfl)))) rfl
theorem m_487 : Cond.instanceMethod ⟨"java/lang/Throwable", "fillInStackTrace", "(I)Ljava/lang/Throwable;"⟩ ∈ gW := gW_t (List.mem_append_right _ (List.mem_append_right _ (List.mem_append_left _ (List.mem_of_getElem? (i := 7) rfl)))) rfl
theorem m_488 : Cond.instantiable "java/lang/Throwable" 6 ∈ gW := gW_t (List.mem_append_right _ (List.mem_append_right _ (List.mem_append_left _ (List.mem_of_getElem? (i := 8) rfl)))) rfl
theorem m_491 : Cond.methodLink "PinModule" 48 y_Ia_initS ∈ gW := gW_t (List.mem_append_right _ (List.mem_append_right _ (List.mem_append_left _ (List.mem_of_getElem? (i := 11) rfl)))) rfl
theorem m_492 : Cond.instanceMethod y_Ia_initS ∈ gW := gW_t (List.mem_append_right _ (List.mem_append_right _ (List.mem_append_left _ (List.mem_of_getElem? (i := 12) rfl)))) rfl
theorem m_493 : Cond.code y_Ia_initS b_Ia_initS 2 none ∈ gW := gW_t (List.mem_append_right _ (List.mem_append_right _ (List.mem_append_left _ (List.mem_of_getElem? (i := 13) rfl)))) rfl
theorem m_494 : Cond.methodLink "java/lang/IllegalArgumentException" 7 y_Rt_initS ∈ gW := gW_t (List.mem_append_right _ (List.mem_append_right _ (List.mem_append_left _ (List.mem_of_getElem? (i := 14) rfl)))) rfl
theorem m_495 : Cond.instanceMethod y_Rt_initS ∈ gW := gW_t (List.mem_append_right _ (List.mem_append_right _ (List.mem_append_left _ (List.mem_of_getElem? (i := 15) rfl)))) rfl
theorem m_496 : Cond.code y_Rt_initS b_Rt_initS 2 none ∈ gW := gW_t (List.mem_append_right _ (List.mem_append_right _ (List.mem_append_left _ (List.mem_of_getElem? (i := 16) rfl)))) rfl
theorem m_497 : Cond.methodLink "java/lang/RuntimeException" 7 y_Ex_initS ∈ gW := gW_t (List.mem_append_right _ (List.mem_append_right _ (List.mem_append_left _ (List.mem_of_getElem? (i := 17) rfl)))) rfl
theorem m_498 : Cond.instanceMethod y_Ex_initS ∈ gW := gW_t (List.mem_append_right _ (List.mem_append_right _ (List.mem_append_left _ (List.mem_of_getElem? (i := 18) rfl)))) rfl
theorem m_499 : Cond.code y_Ex_initS b_Ex_initS 2 none ∈ gW := gW_t (List.mem_append_right _ (List.mem_append_right _ (List.mem_append_left _ (List.mem_of_getElem? (i := 19) rfl)))) rfl
theorem m_500 : Cond.methodLink "java/lang/Exception" 7 y_Th_initS ∈ gW := gW_t (List.mem_append_right _ (List.mem_append_right _ (List.mem_append_left _ (List.mem_of_getElem? (i := 20) rfl)))) rfl
theorem m_501 : Cond.instanceMethod y_Th_initS ∈ gW := gW_t (List.mem_append_right _ (List.mem_append_right _ (List.mem_append_left _ (List.mem_of_getElem? (i := 21) rfl)))) rfl
theorem m_502 : Cond.code y_Th_initS b_Th_initS 2 none ∈ gW := gW_t (List.mem_append_right _ (List.mem_append_right _ (List.mem_append_left _ (List.mem_of_getElem? (i := 22) rfl)))) rfl
theorem m_504 : Cond.fieldLink "java/lang/Throwable" 31 "java/lang/Throwable" "detailMessage" "Ljava/lang/String;" ∈ gW := gW_t (List.mem_append_right _ (List.mem_append_right _ (List.mem_append_left _ (List.mem_of_getElem? (i := 24) rfl)))) rfl
theorem m_505 : Cond.fieldLink "java/lang/Throwable" 7 "java/lang/Throwable" "cause" "Ljava/lang/Throwable;" ∈ gW := gW_t (List.mem_append_right _ (List.mem_append_right _ (List.mem_append_left _ (List.mem_of_getElem? (i := 25) rfl)))) rfl
theorem m_506 : Cond.fieldLink "java/lang/Throwable" 17 "java/lang/Throwable" "stackTrace" "[Ljava/lang/StackTraceElement;" ∈ gW := gW_t (List.mem_append_right _ (List.mem_append_right _ (List.mem_append_left _ (List.mem_of_getElem? (i := 26) rfl)))) rfl
theorem m_507 : Cond.fieldLink "java/lang/Throwable" 24 "java/lang/Throwable" "suppressedExceptions" "Ljava/util/List;" ∈ gW := gW_t (List.mem_append_right _ (List.mem_append_right _ (List.mem_append_left _ (List.mem_of_getElem? (i := 27) rfl)))) rfl
theorem m_512 : Cond.lays "java/lang/IllegalArgumentException" "java/lang/Throwable" "depth" "I" ∈ gW := gW_t (List.mem_append_right _ (List.mem_append_right _ (List.mem_append_left _ (List.mem_of_getElem? (i := 32) rfl)))) rfl
theorem m_516 : Cond.arrayClass FieldType.byte ∈ gW := gW_t (List.mem_append_right _ (List.mem_append_right _ (List.mem_append_left _ (List.mem_of_getElem? (i := 36) rfl)))) rfl
theorem m_517 : Cond.classLink "PinModule" 55 "java/lang/IllegalStateException" ∈ gW := gW_t (List.mem_append_right _ (List.mem_append_right _ (List.mem_append_left _ (List.mem_of_getElem? (i := 37) rfl)))) rfl
theorem m_518 : Cond.instantiable "java/lang/IllegalStateException" 6 ∈ gW := gW_t (List.mem_append_right _ (List.mem_append_right _ (List.mem_append_left _ (List.mem_of_getElem? (i := 38) rfl)))) rfl
theorem m_520 : Cond.selects "java/lang/IllegalStateException" ⟨"java/lang/Throwable", "fillInStackTrace", "(I)Ljava/lang/Throwable;"⟩ ⟨"java/lang/Throwable", "fillInStackTrace", "(I)Ljava/lang/Throwable;"⟩ ∈ gW := gW_t (List.mem_append_right _ (List.mem_append_right _ (List.mem_append_left _ (List.mem_of_getElem? (i := 40) rfl)))) rfl
theorem m_521 : Cond.lays "java/lang/IllegalStateException" "java/lang/Throwable" "cause" "Ljava/lang/Throwable;" ∈ gW := gW_t (List.mem_append_right _ (List.mem_append_right _ (List.mem_append_left _ (List.mem_of_getElem? (i := 41) rfl)))) rfl
theorem m_522 : Cond.lays "java/lang/IllegalStateException" "java/lang/Throwable" "stackTrace" "[Ljava/lang/StackTraceElement;" ∈ gW := gW_t (List.mem_append_right _ (List.mem_append_right _ (List.mem_append_left _ (List.mem_of_getElem? (i := 42) rfl)))) rfl
theorem m_523 : Cond.lays "java/lang/IllegalStateException" "java/lang/Throwable" "suppressedExceptions" "Ljava/util/List;" ∈ gW := gW_t (List.mem_append_right _ (List.mem_append_right _ (List.mem_append_left _ (List.mem_of_getElem? (i := 43) rfl)))) rfl
theorem m_524 : Cond.lays "java/lang/IllegalStateException" "java/lang/Throwable" "detailMessage" "Ljava/lang/String;" ∈ gW := gW_t (List.mem_append_right _ (List.mem_append_right _ (List.mem_append_left _ (List.mem_of_getElem? (i := 44) rfl)))) rfl
theorem m_525 : Cond.lays "java/lang/IllegalStateException" "java/lang/Throwable" "backtrace" "Ljava/lang/Object;" ∈ gW := gW_t (List.mem_append_right _ (List.mem_append_right _ (List.mem_append_left _ (List.mem_of_getElem? (i := 45) rfl)))) rfl
theorem m_527 : Cond.methodLink "PinModule" 59 y_Is_initS ∈ gW := gW_t (List.mem_append_right _ (List.mem_append_right _ (List.mem_append_left _ (List.mem_of_getElem? (i := 47) rfl)))) rfl
theorem m_528 : Cond.instanceMethod y_Is_initS ∈ gW := gW_t (List.mem_append_right _ (List.mem_append_right _ (List.mem_append_left _ (List.mem_of_getElem? (i := 48) rfl)))) rfl
theorem m_529 : Cond.code y_Is_initS b_Is_initS 2 none ∈ gW := gW_t (List.mem_append_right _ (List.mem_append_right _ (List.mem_append_left _ (List.mem_of_getElem? (i := 49) rfl)))) rfl
theorem m_530 : Cond.methodLink "java/lang/IllegalStateException" 7 y_Rt_initS ∈ gW := gW_t (List.mem_append_right _ (List.mem_append_right _ (List.mem_append_left _ (List.mem_of_getElem? (i := 50) rfl)))) rfl
theorem m_531 : Cond.lays "java/lang/IllegalStateException" "java/lang/Throwable" "depth" "I" ∈ gW := gW_t (List.mem_append_right _ (List.mem_append_right _ (List.mem_append_left _ (List.mem_of_getElem? (i := 51) rfl)))) rfl
theorem m_533 : Cond.methodLink "PinModuleLaw" 47 y_L_seal ∈ gW := gW_t (List.mem_append_right _ (List.mem_append_right _ (List.mem_append_left _ (List.mem_of_getElem? (i := 53) rfl)))) rfl
theorem m_534 : Cond.static y_L_seal ∈ gW := gW_t (List.mem_append_right _ (List.mem_append_right _ (List.mem_append_left _ (List.mem_of_getElem? (i := 54) rfl)))) rfl
theorem m_536 : Cond.methodLink "PinModuleLaw" 17 y_P_seal ∈ gW := gW_t (List.mem_append_right _ (List.mem_append_right _ (List.mem_append_left _ (List.mem_of_getElem? (i := 56) rfl)))) rfl
theorem m_537 : Cond.instanceMethod y_P_seal ∈ gW := gW_t (List.mem_append_right _ (List.mem_append_right _ (List.mem_append_left _ (List.mem_of_getElem? (i := 57) rfl)))) rfl
theorem m_538 : Cond.selects "PinModule" y_P_seal y_P_seal ∈ gW := gW_t (List.mem_append_right _ (List.mem_append_right _ (List.mem_append_left _ (List.mem_of_getElem? (i := 58) rfl)))) rfl
theorem m_539 : Cond.code y_P_seal b_P_seal 1 (some .int) ∈ gW := gW_t (List.mem_append_right _ (List.mem_append_right _ (List.mem_append_left _ (List.mem_of_getElem? (i := 59) rfl)))) rfl
theorem m_540 : Cond.methodLink "PinModule" 60 y_P_allHalvesTold ∈ gW := gW_t (List.mem_append_right _ (List.mem_append_right _ (List.mem_append_left _ (List.mem_of_getElem? (i := 60) rfl)))) rfl
theorem m_542 : Cond.instanceMethod y_P_allHalvesTold ∈ gW := gW_t (List.mem_append_right _ (List.mem_append_right _ (List.mem_append_left _ (List.mem_of_getElem? (i := 62) rfl)))) rfl
theorem m_543 : Cond.code y_P_allHalvesTold b_P_allHalvesTold 2 (some .boolean) ∈ gW := gW_t (List.mem_append_right _ (List.mem_append_right _ (List.mem_append_left _ (List.mem_of_getElem? (i := 63) rfl)))) rfl
theorem m_545 : Cond.methodLink "PinModuleLaw" 51 y_L_poke ∈ gW := gW_t (List.mem_append_right _ (List.mem_append_right _ (List.mem_append_left _ (List.mem_of_getElem? (i := 65) rfl)))) rfl
theorem m_546 : Cond.static y_L_poke ∈ gW := gW_t (List.mem_append_right _ (List.mem_append_right _ (List.mem_append_left _ (List.mem_of_getElem? (i := 66) rfl)))) rfl
theorem m_548 : Cond.methodLink "PinModuleLaw" 21 y_P_poke ∈ gW := gW_t (List.mem_append_right _ (List.mem_append_right _ (List.mem_append_left _ (List.mem_of_getElem? (i := 68) rfl)))) rfl
theorem m_549 : Cond.instanceMethod y_P_poke ∈ gW := gW_t (List.mem_append_right _ (List.mem_append_right _ (List.mem_append_left _ (List.mem_of_getElem? (i := 69) rfl)))) rfl
theorem m_550 : Cond.selects "PinModule" y_P_poke y_P_poke ∈ gW := gW_t (List.mem_append_right _ (List.mem_append_right _ (List.mem_append_left _ (List.mem_of_getElem? (i := 70) rfl)))) rfl
theorem m_551 : Cond.code y_P_poke b_P_poke 4 none ∈ gW := gW_t (List.mem_append_right _ (List.mem_append_right _ (List.mem_append_left _ (List.mem_of_getElem? (i := 71) rfl)))) rfl
theorem m_553 : Cond.methodLink "PinModuleLaw" 55 y_L_peek ∈ gW := gW_t (List.mem_append_right _ (List.mem_append_right _ (List.mem_append_left _ (List.mem_of_getElem? (i := 73) rfl)))) rfl
theorem m_554 : Cond.static y_L_peek ∈ gW := gW_t (List.mem_append_right _ (List.mem_append_right _ (List.mem_append_left _ (List.mem_of_getElem? (i := 74) rfl)))) rfl
theorem m_556 : Cond.methodLink "PinModuleLaw" 25 y_P_peek ∈ gW := gW_t (List.mem_append_right _ (List.mem_append_right _ (List.mem_append_left _ (List.mem_of_getElem? (i := 76) rfl)))) rfl
theorem m_557 : Cond.instanceMethod y_P_peek ∈ gW := gW_t (List.mem_append_right _ (List.mem_append_right _ (List.mem_append_left _ (List.mem_of_getElem? (i := 77) rfl)))) rfl
theorem m_558 : Cond.selects "PinModule" y_P_peek y_P_peek ∈ gW := gW_t (List.mem_append_right _ (List.mem_append_right _ (List.mem_append_left _ (List.mem_of_getElem? (i := 78) rfl)))) rfl
theorem m_559 : Cond.code y_P_peek b_P_peek 2 (some .long) ∈ gW := gW_t (List.mem_append_right _ (List.mem_append_right _ (List.mem_append_left _ (List.mem_of_getElem? (i := 79) rfl)))) rfl
theorem m_560 : Cond.methodLink "PinModuleLaw" 59 y_L_message ∈ gW := gW_t (List.mem_append_right _ (List.mem_append_right _ (List.mem_append_left _ (List.mem_of_getElem? (i := 80) rfl)))) rfl
theorem m_561 : Cond.static y_L_message ∈ gW := gW_t (List.mem_append_right _ (List.mem_append_right _ (List.mem_append_left _ (List.mem_of_getElem? (i := 81) rfl)))) rfl
theorem m_563 : Cond.methodLink "PinModuleLaw" 29 y_P_message ∈ gW := gW_t (List.mem_append_right _ (List.mem_append_right _ (List.mem_append_left _ (List.mem_of_getElem? (i := 83) rfl)))) rfl
theorem m_564 : Cond.instanceMethod y_P_message ∈ gW := gW_t (List.mem_append_right _ (List.mem_append_right _ (List.mem_append_left _ (List.mem_of_getElem? (i := 84) rfl)))) rfl
theorem m_565 : Cond.selects "PinModule" y_P_message y_P_message ∈ gW := gW_t (List.mem_append_right _ (List.mem_append_right _ (List.mem_append_left _ (List.mem_of_getElem? (i := 85) rfl)))) rfl
theorem m_566 : Cond.code y_P_message b_P_message 4 none ∈ gW := gW_t (List.mem_append_right _ (List.mem_append_right _ (List.mem_append_left _ (List.mem_of_getElem? (i := 86) rfl)))) rfl
theorem m_568 : Cond.classLink "PinModuleLaw" 33 "PinModuleModel" ∈ gW := gW_t (List.mem_append_right _ (List.mem_append_right _ (List.mem_append_left _ (List.mem_of_getElem? (i := 88) rfl)))) rfl
theorem m_569 : Cond.instantiable "PinModuleModel" 26 ∈ gW := gW_t (List.mem_append_right _ (List.mem_append_right _ (List.mem_append_left _ (List.mem_of_getElem? (i := 89) rfl)))) rfl
theorem m_570 : Cond.methodLink "PinModuleLaw" 35 y_M_init ∈ gW := gW_t (List.mem_append_right _ (List.mem_append_right _ (List.mem_append_left _ (List.mem_of_getElem? (i := 90) rfl)))) rfl
theorem m_571 : Cond.instanceMethod y_M_init ∈ gW := gW_t (List.mem_append_right _ (List.mem_append_right _ (List.mem_append_left _ (List.mem_of_getElem? (i := 91) rfl)))) rfl
theorem m_572 : Cond.code y_M_init b_M_init 2 none ∈ gW := gW_t (List.mem_append_right _ (List.mem_append_right _ (List.mem_append_left _ (List.mem_of_getElem? (i := 92) rfl)))) rfl
theorem m_573 : Cond.methodLink "PinModuleModel" 1 y_O_init ∈ gW := gW_t (List.mem_append_right _ (List.mem_append_right _ (List.mem_append_left _ (List.mem_of_getElem? (i := 93) rfl)))) rfl
theorem m_574 : Cond.fieldLink "PinModuleModel" 7 "PinModuleModel" "permuted" "[I" ∈ gW := gW_t (List.mem_append_right _ (List.mem_append_right _ (List.mem_append_left _ (List.mem_of_getElem? (i := 94) rfl)))) rfl
theorem m_575 : Cond.fieldLink "PinModuleModel" 13 "PinModuleModel" "choiceOne" "[I" ∈ gW := gW_t (List.mem_append_right _ (List.mem_append_right _ (List.mem_append_left _ (List.mem_of_getElem? (i := 95) rfl)))) rfl
theorem m_576 : Cond.fieldLink "PinModuleModel" 16 "PinModuleModel" "choiceTwo" "[I" ∈ gW := gW_t (List.mem_append_right _ (List.mem_append_right _ (List.mem_append_left _ (List.mem_of_getElem? (i := 96) rfl)))) rfl
theorem m_577 : Cond.fieldLink "PinModuleModel" 19 "PinModuleModel" "boxes" "[I" ∈ gW := gW_t (List.mem_append_right _ (List.mem_append_right _ (List.mem_append_left _ (List.mem_of_getElem? (i := 97) rfl)))) rfl
theorem m_578 : Cond.fieldLink "PinModuleModel" 66 "PinModuleModel" "thrown" "I" ∈ gW := gW_t (List.mem_append_right _ (List.mem_append_right _ (List.mem_append_left _ (List.mem_of_getElem? (i := 98) rfl)))) rfl
theorem m_579 : Cond.fieldLink "PinModuleModel" 22 "PinModuleModel" "halves" "[J" ∈ gW := gW_t (List.mem_append_right _ (List.mem_append_right _ (List.mem_append_left _ (List.mem_of_getElem? (i := 99) rfl)))) rfl
theorem m_580 : Cond.fieldLink "PinModuleModel" 26 "PinModuleModel" "toldHalves" "[Z" ∈ gW := gW_t (List.mem_append_right _ (List.mem_append_right _ (List.mem_append_left _ (List.mem_of_getElem? (i := 100) rfl)))) rfl
theorem m_581 : Cond.fieldLink "PinModuleModel" 108 "PinModuleModel" "sealed" "Z" ∈ gW := gW_t (List.mem_append_right _ (List.mem_append_right _ (List.mem_append_left _ (List.mem_of_getElem? (i := 101) rfl)))) rfl
theorem m_582 : Cond.fieldLink "PinModuleModel" 120 "PinModuleModel" "masterLeft" "J" ∈ gW := gW_t (List.mem_append_right _ (List.mem_append_right _ (List.mem_append_left _ (List.mem_of_getElem? (i := 102) rfl)))) rfl
theorem m_583 : Cond.fieldLink "PinModuleModel" 124 "PinModuleModel" "masterRight" "J" ∈ gW := gW_t (List.mem_append_right _ (List.mem_append_right _ (List.mem_append_left _ (List.mem_of_getElem? (i := 103) rfl)))) rfl
theorem m_584 : Cond.fieldLink "PinModuleModel" 30 "PinModuleModel" "usages" "[I" ∈ gW := gW_t (List.mem_append_right _ (List.mem_append_right _ (List.mem_append_left _ (List.mem_of_getElem? (i := 104) rfl)))) rfl
theorem m_585 : Cond.fieldLink "PinModuleModel" 33 "PinModuleModel" "exported" "[Z" ∈ gW := gW_t (List.mem_append_right _ (List.mem_append_right _ (List.mem_append_left _ (List.mem_of_getElem? (i := 105) rfl)))) rfl
theorem m_586 : Cond.fieldLink "PinModuleModel" 36 "PinModuleModel" "lefts" "[J" ∈ gW := gW_t (List.mem_append_right _ (List.mem_append_right _ (List.mem_append_left _ (List.mem_of_getElem? (i := 106) rfl)))) rfl
theorem m_587 : Cond.fieldLink "PinModuleModel" 39 "PinModuleModel" "rights" "[J" ∈ gW := gW_t (List.mem_append_right _ (List.mem_append_right _ (List.mem_append_left _ (List.mem_of_getElem? (i := 107) rfl)))) rfl
theorem m_588 : Cond.fieldLink "PinModuleModel" 42 "PinModuleModel" "known" "[Z" ∈ gW := gW_t (List.mem_append_right _ (List.mem_append_right _ (List.mem_append_left _ (List.mem_of_getElem? (i := 108) rfl)))) rfl
theorem m_589 : Cond.fieldLink "PinModuleModel" 45 "PinModuleModel" "baseLeft" "[J" ∈ gW := gW_t (List.mem_append_right _ (List.mem_append_right _ (List.mem_append_left _ (List.mem_of_getElem? (i := 109) rfl)))) rfl
theorem m_590 : Cond.fieldLink "PinModuleModel" 48 "PinModuleModel" "baseRight" "[J" ∈ gW := gW_t (List.mem_append_right _ (List.mem_append_right _ (List.mem_append_left _ (List.mem_of_getElem? (i := 110) rfl)))) rfl
theorem m_591 : Cond.fieldLink "PinModuleModel" 51 "PinModuleModel" "serials" "[J" ∈ gW := gW_t (List.mem_append_right _ (List.mem_append_right _ (List.mem_append_left _ (List.mem_of_getElem? (i := 111) rfl)))) rfl
theorem m_592 : Cond.fieldLink "PinModuleModel" 54 "PinModuleModel" "counters" "[I" ∈ gW := gW_t (List.mem_append_right _ (List.mem_append_right _ (List.mem_append_left _ (List.mem_of_getElem? (i := 112) rfl)))) rfl
theorem m_593 : Cond.fieldLink "PinModuleModel" 57 "PinModuleModel" "buffer" "[J" ∈ gW := gW_t (List.mem_append_right _ (List.mem_append_right _ (List.mem_append_left _ (List.mem_of_getElem? (i := 113) rfl)))) rfl
theorem m_594 : Cond.fieldLink "PinModuleModel" 60 "PinModuleModel" "text" "[J" ∈ gW := gW_t (List.mem_append_right _ (List.mem_append_right _ (List.mem_append_left _ (List.mem_of_getElem? (i := 114) rfl)))) rfl
theorem m_595 : Cond.fieldLink "PinModuleModel" 63 "PinModuleModel" "rounds" "[J" ∈ gW := gW_t (List.mem_append_right _ (List.mem_append_right _ (List.mem_append_left _ (List.mem_of_getElem? (i := 115) rfl)))) rfl
theorem m_596 : Cond.fieldLink "PinModuleModel" 203 "PinModuleModel" "keyLeft" "J" ∈ gW := gW_t (List.mem_append_right _ (List.mem_append_right _ (List.mem_append_left _ (List.mem_of_getElem? (i := 116) rfl)))) rfl
theorem m_597 : Cond.fieldLink "PinModuleModel" 208 "PinModuleModel" "keyRight" "J" ∈ gW := gW_t (List.mem_append_right _ (List.mem_append_right _ (List.mem_append_left _ (List.mem_of_getElem? (i := 117) rfl)))) rfl
theorem m_598 : Cond.fieldLink "PinModuleModel" 226 "PinModuleModel" "pinLength" "I" ∈ gW := gW_t (List.mem_append_right _ (List.mem_append_right _ (List.mem_append_left _ (List.mem_of_getElem? (i := 118) rfl)))) rfl
theorem m_599 : Cond.fieldLink "PinModuleModel" 229 "PinModuleModel" "pinDigits" "J" ∈ gW := gW_t (List.mem_append_right _ (List.mem_append_right _ (List.mem_append_left _ (List.mem_of_getElem? (i := 119) rfl)))) rfl
theorem m_600 : Cond.laysFinal "PinModuleModel" "PinModuleModel" "permuted" "[I" ∈ gW := gW_t (List.mem_append_right _ (List.mem_append_right _ (List.mem_append_left _ (List.mem_of_getElem? (i := 120) rfl)))) rfl
theorem m_602 : Cond.laysFinal "PinModuleModel" "PinModuleModel" "choiceOne" "[I" ∈ gW := gW_t (List.mem_append_right _ (List.mem_append_right _ (List.mem_append_left _ (List.mem_of_getElem? (i := 122) rfl)))) rfl
theorem m_604 : Cond.laysFinal "PinModuleModel" "PinModuleModel" "choiceTwo" "[I" ∈ gW := gW_t (List.mem_append_right _ (List.mem_append_right _ (List.mem_append_left _ (List.mem_of_getElem? (i := 124) rfl)))) rfl
theorem m_606 : Cond.laysFinal "PinModuleModel" "PinModuleModel" "boxes" "[I" ∈ gW := gW_t (List.mem_append_right _ (List.mem_append_right _ (List.mem_append_left _ (List.mem_of_getElem? (i := 126) rfl)))) rfl
theorem m_608 : Cond.lays "PinModuleModel" "PinModuleModel" "thrown" "I" ∈ gW := gW_t (List.mem_append_right _ (List.mem_append_right _ (List.mem_append_left _ (List.mem_of_getElem? (i := 128) rfl)))) rfl
theorem m_610 : Cond.laysFinal "PinModuleModel" "PinModuleModel" "halves" "[J" ∈ gW := gW_t (List.mem_append_right _ (List.mem_append_right _ (List.mem_append_left _ (List.mem_of_getElem? (i := 130) rfl)))) rfl
theorem m_612 : Cond.laysFinal "PinModuleModel" "PinModuleModel" "toldHalves" "[Z" ∈ gW := gW_t (List.mem_append_right _ (List.mem_append_right _ (List.mem_append_left _ (List.mem_of_getElem? (i := 132) rfl)))) rfl
theorem m_614 : Cond.lays "PinModuleModel" "PinModuleModel" "sealed" "Z" ∈ gW := gW_t (List.mem_append_right _ (List.mem_append_right _ (List.mem_append_left _ (List.mem_of_getElem? (i := 134) rfl)))) rfl
theorem m_616 : Cond.lays "PinModuleModel" "PinModuleModel" "masterLeft" "J" ∈ gW := gW_t (List.mem_append_right _ (List.mem_append_right _ (List.mem_append_left _ (List.mem_of_getElem? (i := 136) rfl)))) rfl
theorem m_618 : Cond.lays "PinModuleModel" "PinModuleModel" "masterRight" "J" ∈ gW := gW_t (List.mem_append_right _ (List.mem_append_right _ (List.mem_append_left _ (List.mem_of_getElem? (i := 138) rfl)))) rfl
theorem m_620 : Cond.laysFinal "PinModuleModel" "PinModuleModel" "usages" "[I" ∈ gW := gW_t (List.mem_append_right _ (List.mem_append_right _ (List.mem_append_left _ (List.mem_of_getElem? (i := 140) rfl)))) rfl
theorem m_622 : Cond.laysFinal "PinModuleModel" "PinModuleModel" "exported" "[Z" ∈ gW := gW_t (List.mem_append_right _ (List.mem_append_right _ (List.mem_append_left _ (List.mem_of_getElem? (i := 142) rfl)))) rfl
theorem m_624 : Cond.laysFinal "PinModuleModel" "PinModuleModel" "lefts" "[J" ∈ gW := gW_t (List.mem_append_right _ (List.mem_append_right _ (List.mem_append_left _ (List.mem_of_getElem? (i := 144) rfl)))) rfl
theorem m_626 : Cond.laysFinal "PinModuleModel" "PinModuleModel" "rights" "[J" ∈ gW := gW_t (List.mem_append_right _ (List.mem_append_right _ (List.mem_append_left _ (List.mem_of_getElem? (i := 146) rfl)))) rfl
theorem m_628 : Cond.laysFinal "PinModuleModel" "PinModuleModel" "known" "[Z" ∈ gW := gW_t (List.mem_append_right _ (List.mem_append_right _ (List.mem_append_left _ (List.mem_of_getElem? (i := 148) rfl)))) rfl
theorem m_630 : Cond.laysFinal "PinModuleModel" "PinModuleModel" "baseLeft" "[J" ∈ gW := gW_t (List.mem_append_right _ (List.mem_append_right _ (List.mem_append_left _ (List.mem_of_getElem? (i := 150) rfl)))) rfl
theorem m_632 : Cond.laysFinal "PinModuleModel" "PinModuleModel" "baseRight" "[J" ∈ gW := gW_t (List.mem_append_right _ (List.mem_append_right _ (List.mem_append_left _ (List.mem_of_getElem? (i := 152) rfl)))) rfl
theorem m_634 : Cond.laysFinal "PinModuleModel" "PinModuleModel" "serials" "[J" ∈ gW := gW_t (List.mem_append_right _ (List.mem_append_right _ (List.mem_append_left _ (List.mem_of_getElem? (i := 154) rfl)))) rfl
theorem m_636 : Cond.laysFinal "PinModuleModel" "PinModuleModel" "counters" "[I" ∈ gW := gW_t (List.mem_append_right _ (List.mem_append_right _ (List.mem_append_left _ (List.mem_of_getElem? (i := 156) rfl)))) rfl
theorem m_638 : Cond.laysFinal "PinModuleModel" "PinModuleModel" "buffer" "[J" ∈ gW := gW_t (List.mem_append_right _ (List.mem_append_right _ (List.mem_append_left _ (List.mem_of_getElem? (i := 158) rfl)))) rfl
theorem m_640 : Cond.laysFinal "PinModuleModel" "PinModuleModel" "text" "[J" ∈ gW := gW_t (List.mem_append_right _ (List.mem_append_right _ (List.mem_append_left _ (List.mem_of_getElem? (i := 160) rfl)))) rfl
theorem m_642 : Cond.laysFinal "PinModuleModel" "PinModuleModel" "rounds" "[J" ∈ gW := gW_t (List.mem_append_right _ (List.mem_append_right _ (List.mem_append_left _ (List.mem_of_getElem? (i := 162) rfl)))) rfl
theorem m_644 : Cond.lays "PinModuleModel" "PinModuleModel" "keyLeft" "J" ∈ gW := gW_t (List.mem_append_right _ (List.mem_append_right _ (List.mem_append_left _ (List.mem_of_getElem? (i := 164) rfl)))) rfl
theorem m_646 : Cond.lays "PinModuleModel" "PinModuleModel" "keyRight" "J" ∈ gW := gW_t (List.mem_append_right _ (List.mem_append_right _ (List.mem_append_left _ (List.mem_of_getElem? (i := 166) rfl)))) rfl
theorem m_648 : Cond.lays "PinModuleModel" "PinModuleModel" "pinLength" "I" ∈ gW := gW_t (List.mem_append_right _ (List.mem_append_right _ (List.mem_append_left _ (List.mem_of_getElem? (i := 168) rfl)))) rfl
theorem m_650 : Cond.lays "PinModuleModel" "PinModuleModel" "pinDigits" "J" ∈ gW := gW_t (List.mem_append_right _ (List.mem_append_right _ (List.mem_append_left _ (List.mem_of_getElem? (i := 170) rfl)))) rfl
theorem m_653 : Cond.methodLink "PinModuleLaw" 44 y_M_thrown ∈ gW := gW_t (List.mem_append_right _ (List.mem_append_right _ (List.mem_append_left _ (List.mem_of_getElem? (i := 173) rfl)))) rfl
theorem m_654 : Cond.instanceMethod y_M_thrown ∈ gW := gW_t (List.mem_append_right _ (List.mem_append_right _ (List.mem_append_left _ (List.mem_of_getElem? (i := 174) rfl)))) rfl
theorem m_655 : Cond.selects "PinModuleModel" y_M_thrown y_M_thrown ∈ gW := gW_t (List.mem_append_right _ (List.mem_append_right _ (List.mem_append_left _ (List.mem_of_getElem? (i := 175) rfl)))) rfl
theorem m_656 : Cond.code y_M_thrown b_M_thrown 1 (some .int) ∈ gW := gW_t (List.mem_append_right _ (List.mem_append_right _ (List.mem_append_left _ (List.mem_of_getElem? (i := 176) rfl)))) rfl
theorem m_657 : Cond.methodLink "PinModuleLaw" 43 y_M_component ∈ gW := gW_t (List.mem_append_right _ (List.mem_append_right _ (List.mem_append_left _ (List.mem_of_getElem? (i := 177) rfl)))) rfl
theorem m_658 : Cond.instanceMethod y_M_component ∈ gW := gW_t (List.mem_append_right _ (List.mem_append_right _ (List.mem_append_left _ (List.mem_of_getElem? (i := 178) rfl)))) rfl
theorem m_659 : Cond.selects "PinModuleModel" y_M_component y_M_component ∈ gW := gW_t (List.mem_append_right _ (List.mem_append_right _ (List.mem_append_left _ (List.mem_of_getElem? (i := 179) rfl)))) rfl
theorem m_660 : Cond.code y_M_component b_M_component 6 none ∈ gW := gW_t (List.mem_append_right _ (List.mem_append_right _ (List.mem_append_left _ (List.mem_of_getElem? (i := 180) rfl)))) rfl
theorem m_661 : Cond.constantLong "PinModuleModel" 102 (2 : Int64) ∈ gW := gW_t (List.mem_append_right _ (List.mem_append_right _ (List.mem_append_left _ (List.mem_of_getElem? (i := 181) rfl)))) rfl
theorem m_662 : Cond.methodLink "PinModuleModel" 104 y_M_in ∈ gW := gW_t (List.mem_append_right _ (List.mem_append_right _ (List.mem_append_left _ (List.mem_of_getElem? (i := 182) rfl)))) rfl
theorem m_663 : Cond.static y_M_in ∈ gW := gW_t (List.mem_append_right _ (List.mem_append_right _ (List.mem_append_left _ (List.mem_of_getElem? (i := 183) rfl)))) rfl
theorem m_664 : Cond.code y_M_in b_M_in 6 (some .boolean) ∈ gW := gW_t (List.mem_append_right _ (List.mem_append_right _ (List.mem_append_left _ (List.mem_of_getElem? (i := 184) rfl)))) rfl
theorem m_665 : Cond.methodLink "PinModuleModel" 112 y_M_throwing ∈ gW := gW_t (List.mem_append_right _ (List.mem_append_right _ (List.mem_append_left _ (List.mem_of_getElem? (i := 185) rfl)))) rfl
theorem m_667 : Cond.instanceMethod y_M_throwing ∈ gW := gW_t (List.mem_append_right _ (List.mem_append_right _ (List.mem_append_left _ (List.mem_of_getElem? (i := 187) rfl)))) rfl
theorem m_668 : Cond.code y_M_throwing b_M_throwing 3 (some .boolean) ∈ gW := gW_t (List.mem_append_right _ (List.mem_append_right _ (List.mem_append_left _ (List.mem_of_getElem? (i := 188) rfl)))) rfl
theorem m_669 : Cond.methodLink "PinModuleLaw" 50 y_M_seal ∈ gW := gW_t (List.mem_append_right _ (List.mem_append_right _ (List.mem_append_left _ (List.mem_of_getElem? (i := 189) rfl)))) rfl
theorem m_670 : Cond.instanceMethod y_M_seal ∈ gW := gW_t (List.mem_append_right _ (List.mem_append_right _ (List.mem_append_left _ (List.mem_of_getElem? (i := 190) rfl)))) rfl
theorem m_671 : Cond.selects "PinModuleModel" y_M_seal y_M_seal ∈ gW := gW_t (List.mem_append_right _ (List.mem_append_right _ (List.mem_append_left _ (List.mem_of_getElem? (i := 191) rfl)))) rfl
theorem m_672 : Cond.code y_M_seal b_M_seal 3 (some .int) ∈ gW := gW_t (List.mem_append_right _ (List.mem_append_right _ (List.mem_append_left _ (List.mem_of_getElem? (i := 192) rfl)))) rfl
theorem m_673 : Cond.methodLink "PinModuleModel" 116 y_M_odd ∈ gW := gW_t (List.mem_append_right _ (List.mem_append_right _ (List.mem_append_left _ (List.mem_of_getElem? (i := 193) rfl)))) rfl
theorem m_674 : Cond.static y_M_odd ∈ gW := gW_t (List.mem_append_right _ (List.mem_append_right _ (List.mem_append_left _ (List.mem_of_getElem? (i := 194) rfl)))) rfl
theorem m_675 : Cond.code y_M_odd b_M_odd 9 (some .long) ∈ gW := gW_t (List.mem_append_right _ (List.mem_append_right _ (List.mem_append_left _ (List.mem_of_getElem? (i := 195) rfl)))) rfl
theorem m_676 : Cond.constantLong "PinModuleModel" 94 (255 : Int64) ∈ gW := gW_t (List.mem_append_right _ (List.mem_append_right _ (List.mem_append_left _ (List.mem_of_getElem? (i := 196) rfl)))) rfl
theorem m_677 : Cond.constantLong "PinModuleModel" 96 (254 : Int64) ∈ gW := gW_t (List.mem_append_right _ (List.mem_append_right _ (List.mem_append_left _ (List.mem_of_getElem? (i := 197) rfl)))) rfl
theorem m_678 : Cond.methodLink "PinModuleModel" 127 y_M_checkOf ∈ gW := gW_t (List.mem_append_right _ (List.mem_append_right _ (List.mem_append_left _ (List.mem_of_getElem? (i := 198) rfl)))) rfl
theorem m_680 : Cond.instanceMethod y_M_checkOf ∈ gW := gW_t (List.mem_append_right _ (List.mem_append_right _ (List.mem_append_left _ (List.mem_of_getElem? (i := 200) rfl)))) rfl
theorem m_681 : Cond.code y_M_checkOf b_M_checkOf 5 (some .int) ∈ gW := gW_t (List.mem_append_right _ (List.mem_append_right _ (List.mem_append_left _ (List.mem_of_getElem? (i := 201) rfl)))) rfl
theorem m_682 : Cond.methodLink "PinModuleModel" 98 y_M_sealBlock ∈ gW := gW_t (List.mem_append_right _ (List.mem_append_right _ (List.mem_append_left _ (List.mem_of_getElem? (i := 202) rfl)))) rfl
theorem m_684 : Cond.instanceMethod y_M_sealBlock ∈ gW := gW_t (List.mem_append_right _ (List.mem_append_right _ (List.mem_append_left _ (List.mem_of_getElem? (i := 204) rfl)))) rfl
theorem m_685 : Cond.code y_M_sealBlock b_M_sealBlock 7 (some .long) ∈ gW := gW_t (List.mem_append_right _ (List.mem_append_right _ (List.mem_append_left _ (List.mem_of_getElem? (i := 205) rfl)))) rfl
theorem m_686 : Cond.methodLink "PinModuleModel" 90 y_M_des ∈ gW := gW_t (List.mem_append_right _ (List.mem_append_right _ (List.mem_append_left _ (List.mem_of_getElem? (i := 206) rfl)))) rfl
theorem m_688 : Cond.instanceMethod y_M_des ∈ gW := gW_t (List.mem_append_right _ (List.mem_append_right _ (List.mem_append_left _ (List.mem_of_getElem? (i := 208) rfl)))) rfl
theorem m_689 : Cond.code y_M_des b_M_des 15 (some .long) ∈ gW := gW_t (List.mem_append_right _ (List.mem_append_right _ (List.mem_append_left _ (List.mem_of_getElem? (i := 209) rfl)))) rfl
theorem m_690 : Cond.methodLink "PinModuleModel" 76 y_M_schedule ∈ gW := gW_t (List.mem_append_right _ (List.mem_append_right _ (List.mem_append_left _ (List.mem_of_getElem? (i := 210) rfl)))) rfl
theorem m_692 : Cond.instanceMethod y_M_schedule ∈ gW := gW_t (List.mem_append_right _ (List.mem_append_right _ (List.mem_append_left _ (List.mem_of_getElem? (i := 212) rfl)))) rfl
theorem m_693 : Cond.code y_M_schedule b_M_schedule 14 none ∈ gW := gW_t (List.mem_append_right _ (List.mem_append_right _ (List.mem_append_left _ (List.mem_of_getElem? (i := 213) rfl)))) rfl
theorem m_694 : Cond.methodLink "PinModuleModel" 70 y_M_bit ∈ gW := gW_t (List.mem_append_right _ (List.mem_append_right _ (List.mem_append_left _ (List.mem_of_getElem? (i := 214) rfl)))) rfl
theorem m_695 : Cond.static y_M_bit ∈ gW := gW_t (List.mem_append_right _ (List.mem_append_right _ (List.mem_append_left _ (List.mem_of_getElem? (i := 215) rfl)))) rfl
theorem m_696 : Cond.code y_M_bit b_M_bit 4 (some .long) ∈ gW := gW_t (List.mem_append_right _ (List.mem_append_right _ (List.mem_append_left _ (List.mem_of_getElem? (i := 216) rfl)))) rfl
theorem m_697 : Cond.constantLong "PinModuleModel" 74 (268435455 : Int64) ∈ gW := gW_t (List.mem_append_right _ (List.mem_append_right _ (List.mem_append_left _ (List.mem_of_getElem? (i := 217) rfl)))) rfl
theorem m_698 : Cond.methodLink "PinModuleModel" 80 y_M_initial ∈ gW := gW_t (List.mem_append_right _ (List.mem_append_right _ (List.mem_append_left _ (List.mem_of_getElem? (i := 218) rfl)))) rfl
theorem m_699 : Cond.static y_M_initial ∈ gW := gW_t (List.mem_append_right _ (List.mem_append_right _ (List.mem_append_left _ (List.mem_of_getElem? (i := 219) rfl)))) rfl
theorem m_700 : Cond.code y_M_initial b_M_initial 2 (some .int) ∈ gW := gW_t (List.mem_append_right _ (List.mem_append_right _ (List.mem_append_left _ (List.mem_of_getElem? (i := 220) rfl)))) rfl
theorem m_701 : Cond.constantLong "PinModuleModel" 84 (4294967295 : Int64) ∈ gW := gW_t (List.mem_append_right _ (List.mem_append_right _ (List.mem_append_left _ (List.mem_of_getElem? (i := 221) rfl)))) rfl
theorem m_702 : Cond.methodLink "PinModuleModel" 86 y_M_mangle ∈ gW := gW_t (List.mem_append_right _ (List.mem_append_right _ (List.mem_append_left _ (List.mem_of_getElem? (i := 222) rfl)))) rfl
theorem m_704 : Cond.instanceMethod y_M_mangle ∈ gW := gW_t (List.mem_append_right _ (List.mem_append_right _ (List.mem_append_left _ (List.mem_of_getElem? (i := 224) rfl)))) rfl
theorem m_705 : Cond.code y_M_mangle b_M_mangle 11 (some .long) ∈ gW := gW_t (List.mem_append_right _ (List.mem_append_right _ (List.mem_append_left _ (List.mem_of_getElem? (i := 225) rfl)))) rfl
theorem m_706 : Cond.methodLink "PinModuleLaw" 54 y_M_poke ∈ gW := gW_t (List.mem_append_right _ (List.mem_append_right _ (List.mem_append_left _ (List.mem_of_getElem? (i := 226) rfl)))) rfl
theorem m_707 : Cond.instanceMethod y_M_poke ∈ gW := gW_t (List.mem_append_right _ (List.mem_append_right _ (List.mem_append_left _ (List.mem_of_getElem? (i := 227) rfl)))) rfl
theorem m_708 : Cond.selects "PinModuleModel" y_M_poke y_M_poke ∈ gW := gW_t (List.mem_append_right _ (List.mem_append_right _ (List.mem_append_left _ (List.mem_of_getElem? (i := 228) rfl)))) rfl
theorem m_709 : Cond.code y_M_poke b_M_poke 4 none ∈ gW := gW_t (List.mem_append_right _ (List.mem_append_right _ (List.mem_append_left _ (List.mem_of_getElem? (i := 229) rfl)))) rfl
theorem m_710 : Cond.constantLong "PinModuleModel" 131 (4 : Int64) ∈ gW := gW_t (List.mem_append_right _ (List.mem_append_right _ (List.mem_append_left _ (List.mem_of_getElem? (i := 230) rfl)))) rfl
theorem m_711 : Cond.methodLink "PinModuleLaw" 58 y_M_peek ∈ gW := gW_t (List.mem_append_right _ (List.mem_append_right _ (List.mem_append_left _ (List.mem_of_getElem? (i := 231) rfl)))) rfl
theorem m_712 : Cond.instanceMethod y_M_peek ∈ gW := gW_t (List.mem_append_right _ (List.mem_append_right _ (List.mem_append_left _ (List.mem_of_getElem? (i := 232) rfl)))) rfl
theorem m_713 : Cond.selects "PinModuleModel" y_M_peek y_M_peek ∈ gW := gW_t (List.mem_append_right _ (List.mem_append_right _ (List.mem_append_left _ (List.mem_of_getElem? (i := 233) rfl)))) rfl
theorem m_714 : Cond.code y_M_peek b_M_peek 2 (some .long) ∈ gW := gW_t (List.mem_append_right _ (List.mem_append_right _ (List.mem_append_left _ (List.mem_of_getElem? (i := 234) rfl)))) rfl
theorem m_715 : Cond.methodLink "PinModuleLaw" 61 y_M_message ∈ gW := gW_t (List.mem_append_right _ (List.mem_append_right _ (List.mem_append_left _ (List.mem_of_getElem? (i := 235) rfl)))) rfl
theorem m_716 : Cond.instanceMethod y_M_message ∈ gW := gW_t (List.mem_append_right _ (List.mem_append_right _ (List.mem_append_left _ (List.mem_of_getElem? (i := 236) rfl)))) rfl
theorem m_717 : Cond.selects "PinModuleModel" y_M_message y_M_message ∈ gW := gW_t (List.mem_append_right _ (List.mem_append_right _ (List.mem_append_left _ (List.mem_of_getElem? (i := 237) rfl)))) rfl
theorem m_718 : Cond.code y_M_message b_M_message 4 none ∈ gW := gW_t (List.mem_append_right _ (List.mem_append_right _ (List.mem_append_left _ (List.mem_of_getElem? (i := 238) rfl)))) rfl
theorem m_719 : Cond.constantLong "PinModuleModel" 133 (7 : Int64) ∈ gW := gW_t (List.mem_append_right _ (List.mem_append_right _ (List.mem_append_left _ (List.mem_of_getElem? (i := 239) rfl)))) rfl
theorem m_720 : Cond.methodLink "PinModuleLaw" 66 y_M_load ∈ gW := gW_t (List.mem_append_right _ (List.mem_append_right _ (List.mem_append_right _ (List.mem_of_getElem? (i := 0) rfl)))) rfl
theorem m_721 : Cond.instanceMethod y_M_load ∈ gW := gW_t (List.mem_append_right _ (List.mem_append_right _ (List.mem_append_right _ (List.mem_of_getElem? (i := 1) rfl)))) rfl
theorem m_722 : Cond.selects "PinModuleModel" y_M_load y_M_load ∈ gW := gW_t (List.mem_append_right _ (List.mem_append_right _ (List.mem_append_right _ (List.mem_of_getElem? (i := 2) rfl)))) rfl
theorem m_723 : Cond.code y_M_load b_M_load 4 (some .int) ∈ gW := gW_t (List.mem_append_right _ (List.mem_append_right _ (List.mem_append_right _ (List.mem_of_getElem? (i := 3) rfl)))) rfl
theorem m_724 : Cond.methodLink "PinModuleModel" 137 y_M_isSlot ∈ gW := gW_t (List.mem_append_right _ (List.mem_append_right _ (List.mem_append_right _ (List.mem_of_getElem? (i := 4) rfl)))) rfl
theorem m_725 : Cond.static y_M_isSlot ∈ gW := gW_t (List.mem_append_right _ (List.mem_append_right _ (List.mem_append_right _ (List.mem_of_getElem? (i := 5) rfl)))) rfl
theorem m_726 : Cond.code y_M_isSlot b_M_isSlot 1 (some .boolean) ∈ gW := gW_t (List.mem_append_right _ (List.mem_append_right _ (List.mem_append_right _ (List.mem_of_getElem? (i := 6) rfl)))) rfl
theorem m_727 : Cond.constantLong "PinModuleModel" 135 (15 : Int64) ∈ gW := gW_t (List.mem_append_right _ (List.mem_append_right _ (List.mem_append_right _ (List.mem_of_getElem? (i := 7) rfl)))) rfl
theorem m_728 : Cond.constantLong "PinModuleModel" 141 (3 : Int64) ∈ gW := gW_t (List.mem_append_right _ (List.mem_append_right _ (List.mem_append_right _ (List.mem_of_getElem? (i := 8) rfl)))) rfl
theorem m_729 : Cond.methodLink "PinModuleModel" 143 y_M_fill ∈ gW := gW_t (List.mem_append_right _ (List.mem_append_right _ (List.mem_append_right _ (List.mem_of_getElem? (i := 9) rfl)))) rfl
theorem m_731 : Cond.instanceMethod y_M_fill ∈ gW := gW_t (List.mem_append_right _ (List.mem_append_right _ (List.mem_append_right _ (List.mem_of_getElem? (i := 11) rfl)))) rfl
theorem m_732 : Cond.code y_M_fill b_M_fill 8 none ∈ gW := gW_t (List.mem_append_right _ (List.mem_append_right _ (List.mem_append_right _ (List.mem_of_getElem? (i := 12) rfl)))) rfl
theorem m_733 : Cond.methodLink "PinModuleLaw" 71 y_M_clear ∈ gW := gW_t (List.mem_append_right _ (List.mem_append_right _ (List.mem_append_right _ (List.mem_of_getElem? (i := 13) rfl)))) rfl
theorem m_734 : Cond.instanceMethod y_M_clear ∈ gW := gW_t (List.mem_append_right _ (List.mem_append_right _ (List.mem_append_right _ (List.mem_of_getElem? (i := 14) rfl)))) rfl
theorem m_735 : Cond.selects "PinModuleModel" y_M_clear y_M_clear ∈ gW := gW_t (List.mem_append_right _ (List.mem_append_right _ (List.mem_append_right _ (List.mem_of_getElem? (i := 15) rfl)))) rfl
theorem m_736 : Cond.code y_M_clear b_M_clear 2 (some .int) ∈ gW := gW_t (List.mem_append_right _ (List.mem_append_right _ (List.mem_append_right _ (List.mem_of_getElem? (i := 16) rfl)))) rfl
theorem m_737 : Cond.methodLink "PinModuleLaw" 75 y_M_usage ∈ gW := gW_t (List.mem_append_right _ (List.mem_append_right _ (List.mem_append_right _ (List.mem_of_getElem? (i := 17) rfl)))) rfl
theorem m_738 : Cond.instanceMethod y_M_usage ∈ gW := gW_t (List.mem_append_right _ (List.mem_append_right _ (List.mem_append_right _ (List.mem_of_getElem? (i := 18) rfl)))) rfl
theorem m_739 : Cond.selects "PinModuleModel" y_M_usage y_M_usage ∈ gW := gW_t (List.mem_append_right _ (List.mem_append_right _ (List.mem_append_right _ (List.mem_of_getElem? (i := 19) rfl)))) rfl
theorem m_740 : Cond.code y_M_usage b_M_usage 2 (some .int) ∈ gW := gW_t (List.mem_append_right _ (List.mem_append_right _ (List.mem_append_right _ (List.mem_of_getElem? (i := 20) rfl)))) rfl
theorem m_741 : Cond.methodLink "PinModuleLaw" 79 y_M_wrap ∈ gW := gW_t (List.mem_append_right _ (List.mem_append_right _ (List.mem_append_right _ (List.mem_of_getElem? (i := 21) rfl)))) rfl
theorem m_742 : Cond.instanceMethod y_M_wrap ∈ gW := gW_t (List.mem_append_right _ (List.mem_append_right _ (List.mem_append_right _ (List.mem_of_getElem? (i := 22) rfl)))) rfl
theorem m_743 : Cond.selects "PinModuleModel" y_M_wrap y_M_wrap ∈ gW := gW_t (List.mem_append_right _ (List.mem_append_right _ (List.mem_append_right _ (List.mem_of_getElem? (i := 23) rfl)))) rfl
theorem m_744 : Cond.code y_M_wrap b_M_wrap 6 (some .int) ∈ gW := gW_t (List.mem_append_right _ (List.mem_append_right _ (List.mem_append_right _ (List.mem_of_getElem? (i := 24) rfl)))) rfl
theorem m_745 : Cond.methodLink "PinModuleModel" 171 y_M_header ∈ gW := gW_t (List.mem_append_right _ (List.mem_append_right _ (List.mem_append_right _ (List.mem_of_getElem? (i := 25) rfl)))) rfl
theorem m_746 : Cond.static y_M_header ∈ gW := gW_t (List.mem_append_right _ (List.mem_append_right _ (List.mem_append_right _ (List.mem_of_getElem? (i := 26) rfl)))) rfl
theorem m_747 : Cond.code y_M_header b_M_header 1 (some .long) ∈ gW := gW_t (List.mem_append_right _ (List.mem_append_right _ (List.mem_append_right _ (List.mem_of_getElem? (i := 27) rfl)))) rfl
theorem m_748 : Cond.constantLong "PinModuleModel" 155 (5422896901307498496 : Int64) ∈ gW := gW_t (List.mem_append_right _ (List.mem_append_right _ (List.mem_append_right _ (List.mem_of_getElem? (i := 28) rfl)))) rfl
theorem m_749 : Cond.methodLink "PinModuleModel" 157 y_M_letter ∈ gW := gW_t (List.mem_append_right _ (List.mem_append_right _ (List.mem_append_right _ (List.mem_of_getElem? (i := 29) rfl)))) rfl
theorem m_750 : Cond.static y_M_letter ∈ gW := gW_t (List.mem_append_right _ (List.mem_append_right _ (List.mem_append_right _ (List.mem_of_getElem? (i := 30) rfl)))) rfl
theorem m_751 : Cond.code y_M_letter b_M_letter 1 (some .long) ∈ gW := gW_t (List.mem_append_right _ (List.mem_append_right _ (List.mem_append_right _ (List.mem_of_getElem? (i := 31) rfl)))) rfl
theorem m_752 : Cond.constantLong "PinModuleModel" 147 (80 : Int64) ∈ gW := gW_t (List.mem_append_right _ (List.mem_append_right _ (List.mem_append_right _ (List.mem_of_getElem? (i := 32) rfl)))) rfl
theorem m_753 : Cond.constantLong "PinModuleModel" 149 (77 : Int64) ∈ gW := gW_t (List.mem_append_right _ (List.mem_append_right _ (List.mem_append_right _ (List.mem_of_getElem? (i := 33) rfl)))) rfl
theorem m_754 : Cond.constantLong "PinModuleModel" 151 (66 : Int64) ∈ gW := gW_t (List.mem_append_right _ (List.mem_append_right _ (List.mem_append_right _ (List.mem_of_getElem? (i := 34) rfl)))) rfl
theorem m_755 : Cond.constantLong "PinModuleModel" 153 (79 : Int64) ∈ gW := gW_t (List.mem_append_right _ (List.mem_append_right _ (List.mem_append_right _ (List.mem_of_getElem? (i := 35) rfl)))) rfl
theorem m_756 : Cond.constantLong "PinModuleModel" 161 (360777252864 : Int64) ∈ gW := gW_t (List.mem_append_right _ (List.mem_append_right _ (List.mem_append_right _ (List.mem_of_getElem? (i := 36) rfl)))) rfl
theorem m_757 : Cond.constantLong "PinModuleModel" 163 (1124073472 : Int64) ∈ gW := gW_t (List.mem_append_right _ (List.mem_append_right _ (List.mem_append_right _ (List.mem_of_getElem? (i := 37) rfl)))) rfl
theorem m_758 : Cond.constantLong "PinModuleModel" 165 (3211264 : Int64) ∈ gW := gW_t (List.mem_append_right _ (List.mem_append_right _ (List.mem_append_right _ (List.mem_of_getElem? (i := 38) rfl)))) rfl
theorem m_759 : Cond.constantLong "PinModuleModel" 167 (17664 : Int64) ∈ gW := gW_t (List.mem_append_right _ (List.mem_append_right _ (List.mem_append_right _ (List.mem_of_getElem? (i := 39) rfl)))) rfl
theorem m_760 : Cond.constantLong "PinModuleModel" 174 (36028797018963968 : Int64) ∈ gW := gW_t (List.mem_append_right _ (List.mem_append_right _ (List.mem_append_right _ (List.mem_of_getElem? (i := 40) rfl)))) rfl
theorem m_761 : Cond.methodLink "PinModuleModel" 176 y_M_codeOfBlock ∈ gW := gW_t (List.mem_append_right _ (List.mem_append_right _ (List.mem_append_right _ (List.mem_of_getElem? (i := 41) rfl)))) rfl
theorem m_763 : Cond.instanceMethod y_M_codeOfBlock ∈ gW := gW_t (List.mem_append_right _ (List.mem_append_right _ (List.mem_append_right _ (List.mem_of_getElem? (i := 43) rfl)))) rfl
theorem m_764 : Cond.code y_M_codeOfBlock b_M_codeOfBlock 4 (some .long) ∈ gW := gW_t (List.mem_append_right _ (List.mem_append_right _ (List.mem_append_right _ (List.mem_of_getElem? (i := 44) rfl)))) rfl
theorem m_765 : Cond.constantLong "PinModuleModel" 169 (5570193308531903821 : Int64) ∈ gW := gW_t (List.mem_append_right _ (List.mem_append_right _ (List.mem_append_right _ (List.mem_of_getElem? (i := 45) rfl)))) rfl
theorem m_766 : Cond.methodLink "PinModuleLaw" 83 y_M_unwrap ∈ gW := gW_t (List.mem_append_right _ (List.mem_append_right _ (List.mem_append_right _ (List.mem_of_getElem? (i := 46) rfl)))) rfl
theorem m_767 : Cond.instanceMethod y_M_unwrap ∈ gW := gW_t (List.mem_append_right _ (List.mem_append_right _ (List.mem_append_right _ (List.mem_of_getElem? (i := 47) rfl)))) rfl
theorem m_768 : Cond.selects "PinModuleModel" y_M_unwrap y_M_unwrap ∈ gW := gW_t (List.mem_append_right _ (List.mem_append_right _ (List.mem_append_right _ (List.mem_of_getElem? (i := 48) rfl)))) rfl
theorem m_769 : Cond.code y_M_unwrap b_M_unwrap 13 (some .int) ∈ gW := gW_t (List.mem_append_right _ (List.mem_append_right _ (List.mem_append_right _ (List.mem_of_getElem? (i := 49) rfl)))) rfl
theorem m_770 : Cond.methodLink "PinModuleModel" 180 y_M_openBlock ∈ gW := gW_t (List.mem_append_right _ (List.mem_append_right _ (List.mem_append_right _ (List.mem_of_getElem? (i := 50) rfl)))) rfl
theorem m_772 : Cond.instanceMethod y_M_openBlock ∈ gW := gW_t (List.mem_append_right _ (List.mem_append_right _ (List.mem_append_right _ (List.mem_of_getElem? (i := 52) rfl)))) rfl
theorem m_773 : Cond.code y_M_openBlock b_M_openBlock 7 (some .long) ∈ gW := gW_t (List.mem_append_right _ (List.mem_append_right _ (List.mem_append_right _ (List.mem_of_getElem? (i := 53) rfl)))) rfl
theorem m_774 : Cond.constantLong "PinModuleModel" 183 (128 : Int64) ∈ gW := gW_t (List.mem_append_right _ (List.mem_append_right _ (List.mem_append_right _ (List.mem_of_getElem? (i := 54) rfl)))) rfl
theorem m_775 : Cond.constantLong "PinModuleModel" 185 (281474976710655 : Int64) ∈ gW := gW_t (List.mem_append_right _ (List.mem_append_right _ (List.mem_append_right _ (List.mem_of_getElem? (i := 55) rfl)))) rfl
theorem m_776 : Cond.methodLink "PinModuleLaw" 88 y_M_terminal ∈ gW := gW_t (List.mem_append_right _ (List.mem_append_right _ (List.mem_append_right _ (List.mem_of_getElem? (i := 56) rfl)))) rfl
theorem m_777 : Cond.instanceMethod y_M_terminal ∈ gW := gW_t (List.mem_append_right _ (List.mem_append_right _ (List.mem_append_right _ (List.mem_of_getElem? (i := 57) rfl)))) rfl
theorem m_778 : Cond.selects "PinModuleModel" y_M_terminal y_M_terminal ∈ gW := gW_t (List.mem_append_right _ (List.mem_append_right _ (List.mem_append_right _ (List.mem_of_getElem? (i := 58) rfl)))) rfl
theorem m_779 : Cond.code y_M_terminal b_M_terminal 5 (some .int) ∈ gW := gW_t (List.mem_append_right _ (List.mem_append_right _ (List.mem_append_right _ (List.mem_of_getElem? (i := 59) rfl)))) rfl
theorem m_780 : Cond.methodLink "PinModuleModel" 187 y_M_isTerminal ∈ gW := gW_t (List.mem_append_right _ (List.mem_append_right _ (List.mem_append_right _ (List.mem_of_getElem? (i := 60) rfl)))) rfl
theorem m_781 : Cond.static y_M_isTerminal ∈ gW := gW_t (List.mem_append_right _ (List.mem_append_right _ (List.mem_append_right _ (List.mem_of_getElem? (i := 61) rfl)))) rfl
theorem m_782 : Cond.code y_M_isTerminal b_M_isTerminal 1 (some .boolean) ∈ gW := gW_t (List.mem_append_right _ (List.mem_append_right _ (List.mem_append_right _ (List.mem_of_getElem? (i := 62) rfl)))) rfl
theorem m_783 : Cond.constantLong "PinModuleModel" 190 (8796093022207 : Int64) ∈ gW := gW_t (List.mem_append_right _ (List.mem_append_right _ (List.mem_append_right _ (List.mem_of_getElem? (i := 63) rfl)))) rfl
theorem m_784 : Cond.methodLink "PinModuleLaw" 92 y_M_next ∈ gW := gW_t (List.mem_append_right _ (List.mem_append_right _ (List.mem_append_right _ (List.mem_of_getElem? (i := 64) rfl)))) rfl
theorem m_785 : Cond.instanceMethod y_M_next ∈ gW := gW_t (List.mem_append_right _ (List.mem_append_right _ (List.mem_append_right _ (List.mem_of_getElem? (i := 65) rfl)))) rfl
theorem m_786 : Cond.selects "PinModuleModel" y_M_next y_M_next ∈ gW := gW_t (List.mem_append_right _ (List.mem_append_right _ (List.mem_append_right _ (List.mem_of_getElem? (i := 66) rfl)))) rfl
theorem m_787 : Cond.code y_M_next b_M_next 3 (some .int) ∈ gW := gW_t (List.mem_append_right _ (List.mem_append_right _ (List.mem_append_right _ (List.mem_of_getElem? (i := 67) rfl)))) rfl
theorem m_788 : Cond.methodLink "PinModuleModel" 196 y_M_counterFrom ∈ gW := gW_t (List.mem_append_right _ (List.mem_append_right _ (List.mem_append_right _ (List.mem_of_getElem? (i := 68) rfl)))) rfl
theorem m_789 : Cond.static y_M_counterFrom ∈ gW := gW_t (List.mem_append_right _ (List.mem_append_right _ (List.mem_append_right _ (List.mem_of_getElem? (i := 69) rfl)))) rfl
theorem m_790 : Cond.code y_M_counterFrom b_M_counterFrom 2 (some .int) ∈ gW := gW_t (List.mem_append_right _ (List.mem_append_right _ (List.mem_append_right _ (List.mem_of_getElem? (i := 70) rfl)))) rfl
theorem m_791 : Cond.constant "PinModuleModel" 192 (2097152 : Int32) ∈ gW := gW_t (List.mem_append_right _ (List.mem_append_right _ (List.mem_append_right _ (List.mem_of_getElem? (i := 71) rfl)))) rfl
theorem m_792 : Cond.methodLink "PinModuleModel" 193 y_M_ones ∈ gW := gW_t (List.mem_append_right _ (List.mem_append_right _ (List.mem_append_right _ (List.mem_of_getElem? (i := 72) rfl)))) rfl
theorem m_793 : Cond.static y_M_ones ∈ gW := gW_t (List.mem_append_right _ (List.mem_append_right _ (List.mem_append_right _ (List.mem_of_getElem? (i := 73) rfl)))) rfl
theorem m_794 : Cond.code y_M_ones b_M_ones 3 (some .int) ∈ gW := gW_t (List.mem_append_right _ (List.mem_append_right _ (List.mem_append_right _ (List.mem_of_getElem? (i := 74) rfl)))) rfl
theorem m_795 : Cond.methodLink "PinModuleLaw" 97 y_M_skip ∈ gW := gW_t (List.mem_append_right _ (List.mem_append_right _ (List.mem_append_right _ (List.mem_of_getElem? (i := 75) rfl)))) rfl
theorem m_796 : Cond.instanceMethod y_M_skip ∈ gW := gW_t (List.mem_append_right _ (List.mem_append_right _ (List.mem_append_right _ (List.mem_of_getElem? (i := 76) rfl)))) rfl
theorem m_797 : Cond.selects "PinModuleModel" y_M_skip y_M_skip ∈ gW := gW_t (List.mem_append_right _ (List.mem_append_right _ (List.mem_append_right _ (List.mem_of_getElem? (i := 77) rfl)))) rfl
theorem m_798 : Cond.code y_M_skip b_M_skip 4 (some .int) ∈ gW := gW_t (List.mem_append_right _ (List.mem_append_right _ (List.mem_append_right _ (List.mem_of_getElem? (i := 78) rfl)))) rfl
theorem m_799 : Cond.constantLong "PinModuleModel" 199 (2097151 : Int64) ∈ gW := gW_t (List.mem_append_right _ (List.mem_append_right _ (List.mem_append_right _ (List.mem_of_getElem? (i := 79) rfl)))) rfl
theorem m_800 : Cond.methodLink "PinModuleLaw" 101 y_M_check ∈ gW := gW_t (List.mem_append_right _ (List.mem_append_right _ (List.mem_append_right _ (List.mem_of_getElem? (i := 80) rfl)))) rfl
theorem m_801 : Cond.instanceMethod y_M_check ∈ gW := gW_t (List.mem_append_right _ (List.mem_append_right _ (List.mem_append_right _ (List.mem_of_getElem? (i := 81) rfl)))) rfl
theorem m_802 : Cond.selects "PinModuleModel" y_M_check y_M_check ∈ gW := gW_t (List.mem_append_right _ (List.mem_append_right _ (List.mem_append_right _ (List.mem_of_getElem? (i := 82) rfl)))) rfl
theorem m_803 : Cond.code y_M_check b_M_check 2 (some .int) ∈ gW := gW_t (List.mem_append_right _ (List.mem_append_right _ (List.mem_append_right _ (List.mem_of_getElem? (i := 83) rfl)))) rfl
theorem m_804 : Cond.constantLong "PinModuleModel" 211 (23 : Int64) ∈ gW := gW_t (List.mem_append_right _ (List.mem_append_right _ (List.mem_append_right _ (List.mem_of_getElem? (i := 84) rfl)))) rfl
theorem m_805 : Cond.methodLink "PinModuleModel" 213 y_M_current ∈ gW := gW_t (List.mem_append_right _ (List.mem_append_right _ (List.mem_append_right _ (List.mem_of_getElem? (i := 85) rfl)))) rfl
theorem m_807 : Cond.instanceMethod y_M_current ∈ gW := gW_t (List.mem_append_right _ (List.mem_append_right _ (List.mem_append_right _ (List.mem_of_getElem? (i := 87) rfl)))) rfl
theorem m_808 : Cond.code y_M_current b_M_current 11 none ∈ gW := gW_t (List.mem_append_right _ (List.mem_append_right _ (List.mem_append_right _ (List.mem_of_getElem? (i := 88) rfl)))) rfl
theorem m_809 : Cond.constantLong "PinModuleModel" 201 (-281474976710656 : Int64) ∈ gW := gW_t (List.mem_append_right _ (List.mem_append_right _ (List.mem_append_right _ (List.mem_of_getElem? (i := 89) rfl)))) rfl
theorem m_810 : Cond.constantLong "PinModuleModel" 206 (-4557430892032688128 : Int64) ∈ gW := gW_t (List.mem_append_right _ (List.mem_append_right _ (List.mem_append_right _ (List.mem_of_getElem? (i := 90) rfl)))) rfl
theorem m_811 : Cond.methodLink "PinModuleLaw" 106 y_M_pin ∈ gW := gW_t (List.mem_append_right _ (List.mem_append_right _ (List.mem_append_right _ (List.mem_of_getElem? (i := 91) rfl)))) rfl
theorem m_812 : Cond.instanceMethod y_M_pin ∈ gW := gW_t (List.mem_append_right _ (List.mem_append_right _ (List.mem_append_right _ (List.mem_of_getElem? (i := 92) rfl)))) rfl
theorem m_813 : Cond.selects "PinModuleModel" y_M_pin y_M_pin ∈ gW := gW_t (List.mem_append_right _ (List.mem_append_right _ (List.mem_append_right _ (List.mem_of_getElem? (i := 93) rfl)))) rfl
theorem m_814 : Cond.code y_M_pin b_M_pin 12 (some .int) ∈ gW := gW_t (List.mem_append_right _ (List.mem_append_right _ (List.mem_append_right _ (List.mem_of_getElem? (i := 94) rfl)))) rfl
theorem m_815 : Cond.methodLink "PinModuleModel" 232 y_M_isFormat ∈ gW := gW_t (List.mem_append_right _ (List.mem_append_right _ (List.mem_append_right _ (List.mem_of_getElem? (i := 95) rfl)))) rfl
theorem m_816 : Cond.static y_M_isFormat ∈ gW := gW_t (List.mem_append_right _ (List.mem_append_right _ (List.mem_append_right _ (List.mem_of_getElem? (i := 96) rfl)))) rfl
theorem m_817 : Cond.code y_M_isFormat b_M_isFormat 1 (some .boolean) ∈ gW := gW_t (List.mem_append_right _ (List.mem_append_right _ (List.mem_append_right _ (List.mem_of_getElem? (i := 97) rfl)))) rfl
theorem m_818 : Cond.constantLong "PinModuleModel" 224 (12 : Int64) ∈ gW := gW_t (List.mem_append_right _ (List.mem_append_right _ (List.mem_append_right _ (List.mem_of_getElem? (i := 98) rfl)))) rfl
theorem m_819 : Cond.methodLink "PinModuleModel" 235 y_M_isAccount ∈ gW := gW_t (List.mem_append_right _ (List.mem_append_right _ (List.mem_append_right _ (List.mem_of_getElem? (i := 99) rfl)))) rfl
theorem m_820 : Cond.static y_M_isAccount ∈ gW := gW_t (List.mem_append_right _ (List.mem_append_right _ (List.mem_append_right _ (List.mem_of_getElem? (i := 100) rfl)))) rfl
theorem m_821 : Cond.code y_M_isAccount b_M_isAccount 2 (some .boolean) ∈ gW := gW_t (List.mem_append_right _ (List.mem_append_right _ (List.mem_append_right _ (List.mem_of_getElem? (i := 101) rfl)))) rfl
theorem m_822 : Cond.methodLink "PinModuleModel" 217 y_M_areDigits ∈ gW := gW_t (List.mem_append_right _ (List.mem_append_right _ (List.mem_append_right _ (List.mem_of_getElem? (i := 102) rfl)))) rfl
theorem m_823 : Cond.static y_M_areDigits ∈ gW := gW_t (List.mem_append_right _ (List.mem_append_right _ (List.mem_append_right _ (List.mem_of_getElem? (i := 103) rfl)))) rfl
theorem m_824 : Cond.code y_M_areDigits b_M_areDigits 8 (some .boolean) ∈ gW := gW_t (List.mem_append_right _ (List.mem_append_right _ (List.mem_append_right _ (List.mem_of_getElem? (i := 104) rfl)))) rfl
theorem m_825 : Cond.methodLink "PinModuleModel" 239 y_M_isThere ∈ gW := gW_t (List.mem_append_right _ (List.mem_append_right _ (List.mem_append_right _ (List.mem_of_getElem? (i := 105) rfl)))) rfl
theorem m_827 : Cond.instanceMethod y_M_isThere ∈ gW := gW_t (List.mem_append_right _ (List.mem_append_right _ (List.mem_append_right _ (List.mem_of_getElem? (i := 107) rfl)))) rfl
theorem m_828 : Cond.code y_M_isThere b_M_isThere 2 (some .boolean) ∈ gW := gW_t (List.mem_append_right _ (List.mem_append_right _ (List.mem_append_right _ (List.mem_of_getElem? (i := 108) rfl)))) rfl
theorem m_829 : Cond.methodLink "PinModuleModel" 242 y_M_isPinKey ∈ gW := gW_t (List.mem_append_right _ (List.mem_append_right _ (List.mem_append_right _ (List.mem_of_getElem? (i := 109) rfl)))) rfl
theorem m_831 : Cond.instanceMethod y_M_isPinKey ∈ gW := gW_t (List.mem_append_right _ (List.mem_append_right _ (List.mem_append_right _ (List.mem_of_getElem? (i := 111) rfl)))) rfl
theorem m_832 : Cond.code y_M_isPinKey b_M_isPinKey 2 (some .boolean) ∈ gW := gW_t (List.mem_append_right _ (List.mem_append_right _ (List.mem_append_right _ (List.mem_of_getElem? (i := 112) rfl)))) rfl
theorem m_833 : Cond.methodLink "PinModuleModel" 245 y_M_pinKey ∈ gW := gW_t (List.mem_append_right _ (List.mem_append_right _ (List.mem_append_right _ (List.mem_of_getElem? (i := 113) rfl)))) rfl
theorem m_835 : Cond.instanceMethod y_M_pinKey ∈ gW := gW_t (List.mem_append_right _ (List.mem_append_right _ (List.mem_append_right _ (List.mem_of_getElem? (i := 115) rfl)))) rfl
theorem m_836 : Cond.code y_M_pinKey b_M_pinKey 2 none ∈ gW := gW_t (List.mem_append_right _ (List.mem_append_right _ (List.mem_append_right _ (List.mem_of_getElem? (i := 116) rfl)))) rfl
theorem m_837 : Cond.methodLink "PinModuleModel" 248 y_M_form ∈ gW := gW_t (List.mem_append_right _ (List.mem_append_right _ (List.mem_append_right _ (List.mem_of_getElem? (i := 117) rfl)))) rfl
theorem m_838 : Cond.static y_M_form ∈ gW := gW_t (List.mem_append_right _ (List.mem_append_right _ (List.mem_append_right _ (List.mem_of_getElem? (i := 118) rfl)))) rfl
theorem m_839 : Cond.code y_M_form b_M_form 13 (some .long) ∈ gW := gW_t (List.mem_append_right _ (List.mem_append_right _ (List.mem_append_right _ (List.mem_of_getElem? (i := 119) rfl)))) rfl
theorem m_840 : Cond.methodLink "PinModuleModel" 221 y_M_accountPart ∈ gW := gW_t (List.mem_append_right _ (List.mem_append_right _ (List.mem_append_right _ (List.mem_of_getElem? (i := 120) rfl)))) rfl
theorem m_841 : Cond.static y_M_accountPart ∈ gW := gW_t (List.mem_append_right _ (List.mem_append_right _ (List.mem_append_right _ (List.mem_of_getElem? (i := 121) rfl)))) rfl
theorem m_842 : Cond.code y_M_accountPart b_M_accountPart 2 (some .long) ∈ gW := gW_t (List.mem_append_right _ (List.mem_append_right _ (List.mem_append_right _ (List.mem_of_getElem? (i := 122) rfl)))) rfl
theorem m_843 : Cond.methodLink "PinModuleLaw" 111 y_M_translate ∈ gW := gW_t (List.mem_append_right _ (List.mem_append_right _ (List.mem_append_right _ (List.mem_of_getElem? (i := 123) rfl)))) rfl
theorem m_844 : Cond.instanceMethod y_M_translate ∈ gW := gW_t (List.mem_append_right _ (List.mem_append_right _ (List.mem_append_right _ (List.mem_of_getElem? (i := 124) rfl)))) rfl
theorem m_845 : Cond.selects "PinModuleModel" y_M_translate y_M_translate ∈ gW := gW_t (List.mem_append_right _ (List.mem_append_right _ (List.mem_append_right _ (List.mem_of_getElem? (i := 125) rfl)))) rfl
theorem m_846 : Cond.code y_M_translate b_M_translate 10 (some .int) ∈ gW := gW_t (List.mem_append_right _ (List.mem_append_right _ (List.mem_append_right _ (List.mem_of_getElem? (i := 126) rfl)))) rfl
theorem m_847 : Cond.methodLink "PinModuleModel" 252 y_M_reads ∈ gW := gW_t (List.mem_append_right _ (List.mem_append_right _ (List.mem_append_right _ (List.mem_of_getElem? (i := 127) rfl)))) rfl
theorem m_849 : Cond.instanceMethod y_M_reads ∈ gW := gW_t (List.mem_append_right _ (List.mem_append_right _ (List.mem_append_right _ (List.mem_of_getElem? (i := 129) rfl)))) rfl
theorem m_850 : Cond.code y_M_reads b_M_reads 10 (some .boolean) ∈ gW := gW_t (List.mem_append_right _ (List.mem_append_right _ (List.mem_append_right _ (List.mem_of_getElem? (i := 130) rfl)))) rfl
theorem m_851 : Cond.methodLink "PinModuleLaw" 116 y_M_verify ∈ gW := gW_t (List.mem_append_right _ (List.mem_append_right _ (List.mem_append_right _ (List.mem_of_getElem? (i := 131) rfl)))) rfl
theorem m_852 : Cond.instanceMethod y_M_verify ∈ gW := gW_t (List.mem_append_right _ (List.mem_append_right _ (List.mem_append_right _ (List.mem_of_getElem? (i := 132) rfl)))) rfl
theorem m_853 : Cond.selects "PinModuleModel" y_M_verify y_M_verify ∈ gW := gW_t (List.mem_append_right _ (List.mem_append_right _ (List.mem_append_right _ (List.mem_of_getElem? (i := 133) rfl)))) rfl
theorem m_854 : Cond.code y_M_verify b_M_verify 13 (some .int) ∈ gW := gW_t (List.mem_append_right _ (List.mem_append_right _ (List.mem_append_right _ (List.mem_of_getElem? (i := 134) rfl)))) rfl
theorem m_855 : Cond.constantLong "PinModuleModel" 256 (65535 : Int64) ∈ gW := gW_t (List.mem_append_right _ (List.mem_append_right _ (List.mem_append_right _ (List.mem_of_getElem? (i := 135) rfl)))) rfl
theorem m_856 : Cond.methodLink "PinModuleLaw" 120 y_M_code ∈ gW := gW_t (List.mem_append_right _ (List.mem_append_right _ (List.mem_append_right _ (List.mem_of_getElem? (i := 136) rfl)))) rfl
theorem m_857 : Cond.instanceMethod y_M_code ∈ gW := gW_t (List.mem_append_right _ (List.mem_append_right _ (List.mem_append_right _ (List.mem_of_getElem? (i := 137) rfl)))) rfl
theorem m_858 : Cond.selects "PinModuleModel" y_M_code y_M_code ∈ gW := gW_t (List.mem_append_right _ (List.mem_append_right _ (List.mem_append_right _ (List.mem_of_getElem? (i := 138) rfl)))) rfl
theorem m_859 : Cond.code y_M_code b_M_code 9 (some .int) ∈ gW := gW_t (List.mem_append_right _ (List.mem_append_right _ (List.mem_append_right _ (List.mem_of_getElem? (i := 139) rfl)))) rfl
theorem m_860 : Cond.constantLong "PinModuleModel" 258 (64 : Int64) ∈ gW := gW_t (List.mem_append_right _ (List.mem_append_right _ (List.mem_append_right _ (List.mem_of_getElem? (i := 140) rfl)))) rfl
theorem m_861 : Cond.constantLong "PinModuleLaw" 36 (4294967295 : Int64) ∈ gW := gW_t (List.mem_append_right _ (List.mem_append_right _ (List.mem_append_right _ (List.mem_of_getElem? (i := 141) rfl)))) rfl
theorem m_863 : Cond.arrayClass FieldType.char ∈ gW := gW_t (List.mem_append_right _ (List.mem_append_right _ (List.mem_append_right _ (List.mem_of_getElem? (i := 143) rfl)))) rfl
theorem ms_0 : Cond.selects "PinModule$Des" y_D_done y_D_done ∈ gW := gW_s (List.mem_of_getElem? (i := 0) (by decide +kernel)) rfl
theorem ms_1 : Cond.selects "PinModule" y_P_refusalOfSlot y_P_refusalOfSlot ∈ gW := gW_s (List.mem_of_getElem? (i := 1) (by decide +kernel)) rfl
theorem ms_2 : Cond.selects "PinModule" y_P_codeOfKeyBlock y_P_codeOfKeyBlock ∈ gW := gW_s (List.mem_of_getElem? (i := 2) (by decide +kernel)) rfl
theorem ms_3 : Cond.selects "PinModule$Terminals" y_T_withoutCounter y_T_withoutCounter ∈ gW := gW_s (List.mem_of_getElem? (i := 3) (by decide +kernel)) rfl
theorem ms_4 : Cond.selects "PinModule" y_P_hasKey y_P_hasKey ∈ gW := gW_s (List.mem_of_getElem? (i := 4) (by decide +kernel)) rfl
theorem ms_5 : Cond.selects "PinModule" y_P_takeKey y_P_takeKey ∈ gW := gW_s (List.mem_of_getElem? (i := 5) (by decide +kernel)) rfl
theorem ms_6 : Cond.selects "PinModule$Terminals" y_T_derivedHalf y_T_derivedHalf ∈ gW := gW_s (List.mem_of_getElem? (i := 6) (by decide +kernel)) rfl
theorem ms_7 : Cond.selects "PinModule" y_P_isPinKey y_P_isPinKey ∈ gW := gW_s (List.mem_of_getElem? (i := 7) (by decide +kernel)) rfl
theorem ms_8 : Cond.selects "PinModule" y_P_openedPinBlock y_P_openedPinBlock ∈ gW := gW_s (List.mem_of_getElem? (i := 8) (by decide +kernel)) rfl
theorem ms_9 : Cond.selects "PinModule" y_P_paddedLong y_P_paddedLong ∈ gW := gW_s (List.mem_of_getElem? (i := 9) (by decide +kernel)) rfl
theorem ms_11 : Cond.selects "PinModule" y_P_allHalvesTold y_P_allHalvesTold ∈ gW := gW_s (List.mem_of_getElem? (i := 11) (by decide +kernel)) rfl
theorem ms_12 : Cond.selects "PinModuleModel" y_M_throwing y_M_throwing ∈ gW := gW_s (List.mem_of_getElem? (i := 12) (by decide +kernel)) rfl
theorem ms_13 : Cond.selects "PinModuleModel" y_M_checkOf y_M_checkOf ∈ gW := gW_s (List.mem_of_getElem? (i := 13) (by decide +kernel)) rfl
theorem ms_14 : Cond.selects "PinModuleModel" y_M_sealBlock y_M_sealBlock ∈ gW := gW_s (List.mem_of_getElem? (i := 14) (by decide +kernel)) rfl
theorem ms_15 : Cond.selects "PinModuleModel" y_M_des y_M_des ∈ gW := gW_s (List.mem_of_getElem? (i := 15) (by decide +kernel)) rfl
theorem ms_16 : Cond.selects "PinModuleModel" y_M_schedule y_M_schedule ∈ gW := gW_s (List.mem_of_getElem? (i := 16) (by decide +kernel)) rfl
theorem ms_17 : Cond.selects "PinModuleModel" y_M_mangle y_M_mangle ∈ gW := gW_s (List.mem_of_getElem? (i := 17) (by decide +kernel)) rfl
theorem ms_18 : Cond.selects "PinModuleModel" y_M_fill y_M_fill ∈ gW := gW_s (List.mem_of_getElem? (i := 18) (by decide +kernel)) rfl
theorem ms_19 : Cond.selects "PinModuleModel" y_M_codeOfBlock y_M_codeOfBlock ∈ gW := gW_s (List.mem_of_getElem? (i := 19) (by decide +kernel)) rfl
theorem ms_20 : Cond.selects "PinModuleModel" y_M_openBlock y_M_openBlock ∈ gW := gW_s (List.mem_of_getElem? (i := 20) (by decide +kernel)) rfl
theorem ms_21 : Cond.selects "PinModuleModel" y_M_current y_M_current ∈ gW := gW_s (List.mem_of_getElem? (i := 21) (by decide +kernel)) rfl
theorem ms_22 : Cond.selects "PinModuleModel" y_M_isThere y_M_isThere ∈ gW := gW_s (List.mem_of_getElem? (i := 22) (by decide +kernel)) rfl
theorem ms_23 : Cond.selects "PinModuleModel" y_M_isPinKey y_M_isPinKey ∈ gW := gW_s (List.mem_of_getElem? (i := 23) (by decide +kernel)) rfl
theorem ms_24 : Cond.selects "PinModuleModel" y_M_pinKey y_M_pinKey ∈ gW := gW_s (List.mem_of_getElem? (i := 24) (by decide +kernel)) rfl
theorem ms_25 : Cond.selects "PinModuleModel" y_M_reads y_M_reads ∈ gW := gW_s (List.mem_of_getElem? (i := 25) (by decide +kernel)) rfl
theorem u_P_in : ∀ w ∈ u_ws "PinModule" F_P 10, w ∈ gW := by
  show ∀ w ∈ ([Cond.laysFinal "PinModule" "PinModule" "halves" "[J", Cond.laysFinal "PinModule" "PinModule" "halfTold" "[Z", Cond.lays "PinModule" "PinModule" "hasMaster" "Z", Cond.lays "PinModule" "PinModule" "masterLeft" "J", Cond.lays "PinModule" "PinModule" "masterRight" "J", Cond.laysFinal "PinModule" "PinModule" "slots" "LPinModule$Slots;", Cond.laysFinal "PinModule" "PinModule" "terminals" "LPinModule$Terminals;", Cond.laysFinal "PinModule" "PinModule" "cipher" "LPinModule$Cipher;", Cond.laysFinal "PinModule" "PinModule" "buffer" "[J", Cond.laysFinal "PinModule" "PinModule" "messageLongs" "[J"] : List Cond), w ∈ gW
  exact List.forall_mem_cons.mpr ⟨m_125, List.forall_mem_cons.mpr ⟨m_127, List.forall_mem_cons.mpr ⟨m_129, List.forall_mem_cons.mpr ⟨m_131, List.forall_mem_cons.mpr ⟨m_133, List.forall_mem_cons.mpr ⟨m_135, List.forall_mem_cons.mpr ⟨m_137, List.forall_mem_cons.mpr ⟨m_139, List.forall_mem_cons.mpr ⟨m_141, List.forall_mem_cons.mpr ⟨m_143, fun _ h => absurd h List.not_mem_nil⟩⟩⟩⟩⟩⟩⟩⟩⟩⟩
theorem u_S_in : ∀ w ∈ u_ws "PinModule$Slots" F_S 5, w ∈ gW := by
  show ∀ w ∈ ([Cond.laysFinal "PinModule$Slots" "PinModule$Slots" "filled" "[Z", Cond.laysFinal "PinModule$Slots" "PinModule$Slots" "usageOf" "[I", Cond.laysFinal "PinModule$Slots" "PinModule$Slots" "exported" "[Z", Cond.laysFinal "PinModule$Slots" "PinModule$Slots" "left" "[J", Cond.laysFinal "PinModule$Slots" "PinModule$Slots" "right" "[J"] : List Cond), w ∈ gW
  exact List.forall_mem_cons.mpr ⟨m_40, List.forall_mem_cons.mpr ⟨m_42, List.forall_mem_cons.mpr ⟨m_44, List.forall_mem_cons.mpr ⟨m_46, List.forall_mem_cons.mpr ⟨m_48, fun _ h => absurd h List.not_mem_nil⟩⟩⟩⟩⟩
theorem u_T_in : ∀ w ∈ u_ws "PinModule$Terminals" F_T 7, w ∈ gW := by
  show ∀ w ∈ ([Cond.laysFinal "PinModule$Terminals" "PinModule$Terminals" "made" "[Z", Cond.laysFinal "PinModule$Terminals" "PinModule$Terminals" "register" "[J", Cond.laysFinal "PinModule$Terminals" "PinModule$Terminals" "firstLeft" "[J", Cond.laysFinal "PinModule$Terminals" "PinModule$Terminals" "firstRight" "[J", Cond.laysFinal "PinModule$Terminals" "PinModule$Terminals" "des" "LPinModule$Des;", Cond.lays "PinModule$Terminals" "PinModule$Terminals" "currentLeft" "J", Cond.lays "PinModule$Terminals" "PinModule$Terminals" "currentRight" "J"] : List Cond), w ∈ gW
  exact List.forall_mem_cons.mpr ⟨m_83, List.forall_mem_cons.mpr ⟨m_85, List.forall_mem_cons.mpr ⟨m_87, List.forall_mem_cons.mpr ⟨m_89, List.forall_mem_cons.mpr ⟨m_91, List.forall_mem_cons.mpr ⟨m_93, List.forall_mem_cons.mpr ⟨m_95, fun _ h => absurd h List.not_mem_nil⟩⟩⟩⟩⟩⟩⟩
theorem u_C_in : ∀ w ∈ u_ws "PinModule$Cipher" F_C 2, w ∈ gW := by
  show ∀ w ∈ ([Cond.laysFinal "PinModule$Cipher" "PinModule$Cipher" "leftDes" "LPinModule$Des;", Cond.laysFinal "PinModule$Cipher" "PinModule$Cipher" "rightDes" "LPinModule$Des;"] : List Cond), w ∈ gW
  exact List.forall_mem_cons.mpr ⟨m_110, List.forall_mem_cons.mpr ⟨m_112, fun _ h => absurd h List.not_mem_nil⟩⟩
theorem u_D_in : ∀ w ∈ u_ws "PinModule$Des" F_D 2, w ∈ gW := by
  show ∀ w ∈ ([Cond.laysFinal "PinModule$Des" "PinModule$Des" "roundKeys" "[J", Cond.lays "PinModule$Des" "PinModule$Des" "key" "J"] : List Cond), w ∈ gW
  exact List.forall_mem_cons.mpr ⟨m_68, List.forall_mem_cons.mpr ⟨m_70, fun _ h => absurd h List.not_mem_nil⟩⟩
theorem u_M_in : ∀ w ∈ u_ws "PinModuleModel" F_M 26, w ∈ gW := by
  show ∀ w ∈ ([Cond.laysFinal "PinModuleModel" "PinModuleModel" "permuted" "[I", Cond.laysFinal "PinModuleModel" "PinModuleModel" "choiceOne" "[I", Cond.laysFinal "PinModuleModel" "PinModuleModel" "choiceTwo" "[I", Cond.laysFinal "PinModuleModel" "PinModuleModel" "boxes" "[I", Cond.lays "PinModuleModel" "PinModuleModel" "thrown" "I", Cond.laysFinal "PinModuleModel" "PinModuleModel" "halves" "[J", Cond.laysFinal "PinModuleModel" "PinModuleModel" "toldHalves" "[Z", Cond.lays "PinModuleModel" "PinModuleModel" "sealed" "Z", Cond.lays "PinModuleModel" "PinModuleModel" "masterLeft" "J", Cond.lays "PinModuleModel" "PinModuleModel" "masterRight" "J", Cond.laysFinal "PinModuleModel" "PinModuleModel" "usages" "[I", Cond.laysFinal "PinModuleModel" "PinModuleModel" "exported" "[Z", Cond.laysFinal "PinModuleModel" "PinModuleModel" "lefts" "[J", Cond.laysFinal "PinModuleModel" "PinModuleModel" "rights" "[J", Cond.laysFinal "PinModuleModel" "PinModuleModel" "known" "[Z", Cond.laysFinal "PinModuleModel" "PinModuleModel" "baseLeft" "[J", Cond.laysFinal "PinModuleModel" "PinModuleModel" "baseRight" "[J", Cond.laysFinal "PinModuleModel" "PinModuleModel" "serials" "[J", Cond.laysFinal "PinModuleModel" "PinModuleModel" "counters" "[I", Cond.laysFinal "PinModuleModel" "PinModuleModel" "buffer" "[J", Cond.laysFinal "PinModuleModel" "PinModuleModel" "text" "[J", Cond.laysFinal "PinModuleModel" "PinModuleModel" "rounds" "[J", Cond.lays "PinModuleModel" "PinModuleModel" "keyLeft" "J", Cond.lays "PinModuleModel" "PinModuleModel" "keyRight" "J", Cond.lays "PinModuleModel" "PinModuleModel" "pinLength" "I", Cond.lays "PinModuleModel" "PinModuleModel" "pinDigits" "J"] : List Cond), w ∈ gW
  exact List.forall_mem_cons.mpr ⟨m_600, List.forall_mem_cons.mpr ⟨m_602, List.forall_mem_cons.mpr ⟨m_604, List.forall_mem_cons.mpr ⟨m_606, List.forall_mem_cons.mpr ⟨m_608, List.forall_mem_cons.mpr ⟨m_610, List.forall_mem_cons.mpr ⟨m_612, List.forall_mem_cons.mpr ⟨m_614, List.forall_mem_cons.mpr ⟨m_616, List.forall_mem_cons.mpr ⟨m_618, List.forall_mem_cons.mpr ⟨m_620, List.forall_mem_cons.mpr ⟨m_622, List.forall_mem_cons.mpr ⟨m_624, List.forall_mem_cons.mpr ⟨m_626, List.forall_mem_cons.mpr ⟨m_628, List.forall_mem_cons.mpr ⟨m_630, List.forall_mem_cons.mpr ⟨m_632, List.forall_mem_cons.mpr ⟨m_634, List.forall_mem_cons.mpr ⟨m_636, List.forall_mem_cons.mpr ⟨m_638, List.forall_mem_cons.mpr ⟨m_640, List.forall_mem_cons.mpr ⟨m_642, List.forall_mem_cons.mpr ⟨m_644, List.forall_mem_cons.mpr ⟨m_646, List.forall_mem_cons.mpr ⟨m_648, List.forall_mem_cons.mpr ⟨m_650, fun _ h => absurd h List.not_mem_nil⟩⟩⟩⟩⟩⟩⟩⟩⟩⟩⟩⟩⟩⟩⟩⟩⟩⟩⟩⟩⟩⟩⟩⟩⟩⟩
