def M_PR_init : xM := (⟨"PicturedRecord", "<init>", "()V"⟩, prog_1_method_1_code, 1, none)
def M_PC_init : xM := (⟨"PicturedRecord$Picture", "<init>", "()V"⟩, prog_5_method_1_code, 1, none)
def M_SG_init : xM := (⟨"PicturedRecord$Storage", "<init>", "()V"⟩, prog_6_method_1_code, 1, none)
def M_ED_init : xM := (⟨"PicturedRecord$Editor", "<init>", "()V"⟩, prog_3_method_1_code, 1, none)
def M_PR_pic : xM := (⟨"PicturedRecord", "pic", "(C)Z"⟩, prog_1_method_2_code, 2, some .boolean)
def M_PR_scrap : xM := (⟨"PicturedRecord", "scrap", "()V"⟩, prog_1_method_3_code, 1, none)
def M_PR_field : xM := (⟨"PicturedRecord", "field", "(II)I"⟩, prog_1_method_4_code, 4, some .int)
def M_PC_readDraft : xM := (⟨"PicturedRecord$Picture", "readDraft", "([CI)Z"⟩, prog_5_method_2_code, 3, some .boolean)
def M_PC_writeOut : xM := (⟨"PicturedRecord$Picture", "writeOut", "([CI)Z"⟩, prog_5_method_5_code, 6, some .boolean)
def M_PC_repetitionLength : xM := (⟨"PicturedRecord$Picture", "repetitionLength", "([CII)I"⟩, prog_5_method_6_code, 4, some .int)
def M_PC_isOneOf : xM := (⟨"PicturedRecord$Picture", "isOneOf", "(Ljava/lang/String;C)Z"⟩, prog_5_method_17_code, 2, some .boolean)
def M_ST_indexOf_I : xM := (⟨"java/lang/String", "indexOf", "(I)I"⟩, prog_12_method_79_code, 2, some .int)
def M_ST_indexOf_II : xM := (⟨"java/lang/String", "indexOf", "(II)I"⟩, prog_12_method_80_code, 3, some .int)
def M_ST_isLatin1 : xM := (⟨"java/lang/String", "isLatin1", "()Z"⟩, prog_12_method_154_code, 1, some .boolean)
def M_ST_length : xM := (⟨"java/lang/String", "length", "()I"⟩, prog_12_method_54_code, 1, some .int)
def M_ST_coder : xM := (⟨"java/lang/String", "coder", "()B"⟩, prog_12_method_152_code, 1, some .byte)
def M_L1_indexOf : xM := (⟨"java/lang/StringLatin1", "indexOf", "([BIII)I"⟩, prog_13_method_22_code, 4, some .int)
def M_L1_canEncode : xM := (⟨"java/lang/StringLatin1", "canEncode", "(I)Z"⟩, prog_13_method_4_code, 1, some .boolean)
def M_MA_max : xM := (⟨"java/lang/Math", "max", "(II)I"⟩, prog_11_method_65_code, 2, some .int)
def M_MA_min : xM := (⟨"java/lang/Math", "min", "(II)I"⟩, prog_11_method_69_code, 2, some .int)
def M_L1_indexOfChar : xM := (⟨"java/lang/StringLatin1", "indexOfChar", "([BIII)I"⟩, prog_13_method_23_code, 6, some .int)
def M_ST_checkBoundsBeginEnd : xM := (⟨"java/lang/String", "checkBoundsBeginEnd", "(III)V"⟩, prog_12_method_158_code, 3, none)
def M_PC_isDigit : xM := (⟨"PicturedRecord$Picture", "isDigit", "(C)Z"⟩, prog_5_method_18_code, 1, some .boolean)
def M_PC_repetitions : xM := (⟨"PicturedRecord$Picture", "repetitions", "([CII)I"⟩, prog_5_method_7_code, 4, some .int)
def M_PC_append : xM := (⟨"PicturedRecord$Picture", "append", "(CI)Z"⟩, prog_5_method_8_code, 4, some .boolean)
def M_PC_readNumeric : xM := (⟨"PicturedRecord$Picture", "readNumeric", "()Z"⟩, prog_5_method_9_code, 3, some .boolean)
def M_PC_isWithinLimits : xM := (⟨"PicturedRecord$Picture", "isWithinLimits", "()Z"⟩, prog_5_method_10_code, 1, some .boolean)
def M_PC_readEdited : xM := (⟨"PicturedRecord$Picture", "readEdited", "()Z"⟩, prog_5_method_11_code, 5, some .boolean)
def M_PC_countOf : xM := (⟨"PicturedRecord$Picture", "countOf", "(C)I"⟩, prog_5_method_12_code, 4, some .int)
def M_PC_endsWith : xM := (⟨"PicturedRecord$Picture", "endsWith", "(CC)Z"⟩, prog_5_method_13_code, 3, some .boolean)
def M_PC_readBody : xM := (⟨"PicturedRecord$Picture", "readBody", "()Z"⟩, prog_5_method_14_code, 6, some .boolean)
def M_PC_isNextFiller : xM := (⟨"PicturedRecord$Picture", "isNextFiller", "(CI)Z"⟩, prog_5_method_15_code, 3, some .boolean)
def M_PC_goesWith : xM := (⟨"PicturedRecord$Picture", "goesWith", "(I)Z"⟩, prog_5_method_3_code, 2, some .boolean)
def M_PC_lengthAs : xM := (⟨"PicturedRecord$Picture", "lengthAs", "(I)I"⟩, prog_5_method_4_code, 2, some .int)
def M_FD_init : xM := (⟨"PicturedRecord$Field", "<init>", "(LPicturedRecord$Picture;III)V"⟩, prog_4_method_1_code, 5, none)
def M_PR_fields : xM := (⟨"PicturedRecord", "fields", "()I"⟩, prog_1_method_5_code, 1, some .int)
def M_PR_size : xM := (⟨"PicturedRecord", "size", "(I)I"⟩, prog_1_method_6_code, 3, some .int)
def M_PR_fieldAt : xM := (⟨"PicturedRecord", "fieldAt", "(I)LPicturedRecord$Field;"⟩, prog_1_method_19_code, 2, some (.object "PicturedRecord$Field"))
def M_PR_shape : xM := (⟨"PicturedRecord", "shape", "(I)I"⟩, prog_1_method_7_code, 3, some .int)
def M_FD_isEdited : xM := (⟨"PicturedRecord$Field", "isEdited", "()Z"⟩, prog_4_method_2_code, 1, some .boolean)
def M_PR_peek : xM := (⟨"PicturedRecord", "peek", "(I)I"⟩, prog_1_method_8_code, 2, some .int)
def M_PR_isPlace : xM := (⟨"PicturedRecord", "isPlace", "(I)Z"⟩, prog_1_method_20_code, 1, some .boolean)
def M_PR_poke : xM := (⟨"PicturedRecord", "poke", "(II)Z"⟩, prog_1_method_9_code, 3, some .boolean)
def M_PR_value : xM := (⟨"PicturedRecord", "value", "(I)J"⟩, prog_1_method_10_code, 3, some .long)
def M_SG_unitsOf : xM := (⟨"PicturedRecord$Storage", "unitsOf", "(LPicturedRecord$Field;)J"⟩, prog_6_method_2_code, 2, some .long)
def M_SG_packedUnits : xM := (⟨"PicturedRecord$Storage", "packedUnits", "(LPicturedRecord$Field;)J"⟩, prog_6_method_10_code, 7, some .long)
def M_SG_halfAt : xM := (⟨"PicturedRecord$Storage", "halfAt", "(II)I"⟩, prog_6_method_11_code, 4, some .int)
def M_SG_isDigit : xM := (⟨"PicturedRecord$Storage", "isDigit", "(I)Z"⟩, prog_6_method_4_code, 1, some .boolean)
def M_DC_tenTo : xM := (⟨"PicturedRecord$Decimal", "tenTo", "(I)J"⟩, prog_2_method_2_code, 1, some .long)
def M_SG_withSign : xM := (⟨"PicturedRecord$Storage", "withSign", "(JZ)J"⟩, prog_6_method_5_code, 3, some .long)
def M_SG_separateUnits : xM := (⟨"PicturedRecord$Storage", "separateUnits", "(LPicturedRecord$Field;)J"⟩, prog_6_method_7_code, 5, some .long)
def M_SG_digitsAt : xM := (⟨"PicturedRecord$Storage", "digitsAt", "(II)J"⟩, prog_6_method_8_code, 7, some .long)
def M_SG_binaryUnits : xM := (⟨"PicturedRecord$Storage", "binaryUnits", "(LPicturedRecord$Field;)J"⟩, prog_6_method_13_code, 5, some .long)
def M_MA_abs : xM := (⟨"java/lang/Math", "abs", "(J)J"⟩, prog_11_method_61_code, 2, some .long)
def M_SG_editedUnits : xM := (⟨"PicturedRecord$Storage", "editedUnits", "(LPicturedRecord$Field;)J"⟩, prog_6_method_15_code, 6, some .long)
def M_PC_isDigitPlace : xM := (⟨"PicturedRecord$Picture", "isDigitPlace", "(I)Z"⟩, prog_5_method_16_code, 3, some .boolean)
def M_ED_edit : xM := (⟨"PicturedRecord$Editor", "edit", "(LPicturedRecord$Picture;J)V"⟩, prog_3_method_2_code, 6, none)
def M_ED_signCharacter : xM := (⟨"PicturedRecord$Editor", "signCharacter", "(CZ)I"⟩, prog_3_method_6_code, 2, some .int)
def M_ED_writeBody : xM := (⟨"PicturedRecord$Editor", "writeBody", "(LPicturedRecord$Picture;J)V"⟩, prog_3_method_3_code, 7, none)
def M_ED_firstShown : xM := (⟨"PicturedRecord$Editor", "firstShown", "(LPicturedRecord$Picture;)I"⟩, prog_3_method_4_code, 4, some .int)
def M_ED_suppress : xM := (⟨"PicturedRecord$Editor", "suppress", "(LPicturedRecord$Picture;IZ)V"⟩, prog_3_method_5_code, 5, none)
def M_SG_holdsText : xM := (⟨"PicturedRecord$Storage", "holdsText", "(LPicturedRecord$Field;)Z"⟩, prog_6_method_16_code, 3, some .boolean)
def M_SG_zonedUnits : xM := (⟨"PicturedRecord$Storage", "zonedUnits", "(LPicturedRecord$Field;)J"⟩, prog_6_method_6_code, 6, some .long)
def M_PR_put : xM := (⟨"PicturedRecord", "put", "(III)Z"⟩, prog_1_method_11_code, 5, some .boolean)
def M_PR_storeByMove : xM := (⟨"PicturedRecord", "storeByMove", "(LPicturedRecord$Field;JI)V"⟩, prog_1_method_29_code, 7, none)
def M_SG_store : xM := (⟨"PicturedRecord$Storage", "store", "(LPicturedRecord$Field;J)V"⟩, prog_6_method_3_code, 6, none)
def M_SG_storePacked : xM := (⟨"PicturedRecord$Storage", "storePacked", "(LPicturedRecord$Field;J)V"⟩, prog_6_method_12_code, 8, none)
def M_SG_storeDigits : xM := (⟨"PicturedRecord$Storage", "storeDigits", "(LPicturedRecord$Field;J)V"⟩, prog_6_method_9_code, 7, none)
def M_SG_storeBinary : xM := (⟨"PicturedRecord$Storage", "storeBinary", "(LPicturedRecord$Field;J)V"⟩, prog_6_method_14_code, 7, none)
def M_SG_storeEdited : xM := (⟨"PicturedRecord$Storage", "storeEdited", "(LPicturedRecord$Field;J)V"⟩, prog_6_method_17_code, 4, none)
def M_PR_move : xM := (⟨"PicturedRecord", "move", "(II)I"⟩, prog_1_method_12_code, 7, some .int)
def M_PR_dataError : xM := (⟨"PicturedRecord", "dataError", "()I"⟩, prog_1_method_25_code, 1, some .int)
def M_PR_compute : xM := (⟨"PicturedRecord", "compute", "(IIIII)I"⟩, prog_1_method_13_code, 16, some .int)
def M_PR_isOperation : xM := (⟨"PicturedRecord", "isOperation", "(I)Z"⟩, prog_1_method_21_code, 1, some .boolean)
def M_PR_isMode : xM := (⟨"PicturedRecord", "isMode", "(I)Z"⟩, prog_1_method_22_code, 1, some .boolean)
def M_PR_isOperand : xM := (⟨"PicturedRecord", "isOperand", "(LPicturedRecord$Field;)Z"⟩, prog_1_method_23_code, 1, some .boolean)
def M_PR_storeResult : xM := (⟨"PicturedRecord", "storeResult", "(LPicturedRecord$Field;JIJI)Z"⟩, prog_1_method_28_code, 10, some .boolean)
def M_DC_result : xM := (⟨"PicturedRecord$Decimal", "result", "(JIJI)J"⟩, prog_2_method_4_code, 10, some .long)
def M_DC_rounded : xM := (⟨"PicturedRecord$Decimal", "rounded", "(JJI)J"⟩, prog_2_method_5_code, 10, some .long)
def M_LO_compare : xM := (⟨"java/lang/Long", "compare", "(JJ)I"⟩, prog_10_method_42_code, 4, some .int)
def M_DC_goesAway : xM := (⟨"PicturedRecord$Decimal", "goesAway", "(IZIZ)Z"⟩, prog_2_method_6_code, 4, some .boolean)
def M_DC_atFullScale : xM := (⟨"PicturedRecord$Decimal", "atFullScale", "(JI)J"⟩, prog_2_method_3_code, 3, some .long)
def M_PR_divide : xM := (⟨"PicturedRecord", "divide", "(IIIII)I"⟩, prog_1_method_14_code, 18, some .int)
def M_PR_remainderAt : xM := (⟨"PicturedRecord", "remainderAt", "(IJIJI)J"⟩, prog_1_method_27_code, 9, some .long)
def M_PR_addTo : xM := (⟨"PicturedRecord", "addTo", "(IIII)I"⟩, prog_1_method_15_code, 15, some .int)
def M_PR_isRange : xM := (⟨"PicturedRecord", "isRange", "(II)Z"⟩, prog_1_method_24_code, 3, some .boolean)
def M_PR_readRange : xM := (⟨"PicturedRecord", "readRange", "(II)Z"⟩, prog_1_method_26_code, 5, some .boolean)
def M_PR_total : xM := (⟨"PicturedRecord", "total", "(IIII)I"⟩, prog_1_method_16_code, 10, some .int)
def M_PR_sizeErrors : xM := (⟨"PicturedRecord", "sizeErrors", "()I"⟩, prog_1_method_17_code, 1, some .int)
def M_PR_dataErrors : xM := (⟨"PicturedRecord", "dataErrors", "()I"⟩, prog_1_method_18_code, 1, some .int)
def M_MD_init : xM := (⟨"PicturedRecordModel", "<init>", "()V"⟩, prog_8_method_1_code, 1, none)
def M_MD_pic : xM := (⟨"PicturedRecordModel", "pic", "(C)Z"⟩, prog_8_method_2_code, 2, some .boolean)
def M_MD_scrap : xM := (⟨"PicturedRecordModel", "scrap", "()V"⟩, prog_8_method_3_code, 1, none)
def M_MD_field : xM := (⟨"PicturedRecordModel", "field", "(II)I"⟩, prog_8_method_16_code, 6, some .int)
def M_MD_writeOut : xM := (⟨"PicturedRecordModel", "writeOut", "()Z"⟩, prog_8_method_10_code, 5, some .boolean)
def M_MD_repeats : xM := (⟨"PicturedRecordModel", "repeats", "(I)Z"⟩, prog_8_method_7_code, 1, some .boolean)
def M_MD_floating : xM := (⟨"PicturedRecordModel", "floating", "(I)Z"⟩, prog_8_method_5_code, 1, some .boolean)
def M_MD_plusMinus : xM := (⟨"PicturedRecordModel", "plusMinus", "(I)Z"⟩, prog_8_method_4_code, 1, some .boolean)
def M_MD_insertion : xM := (⟨"PicturedRecordModel", "insertion", "(I)Z"⟩, prog_8_method_6_code, 1, some .boolean)
def M_MD_drawn : xM := (⟨"PicturedRecordModel", "drawn", "(I)I"⟩, prog_8_method_8_code, 2, some .int)
def M_MD_figure : xM := (⟨"PicturedRecordModel", "figure", "(I)Z"⟩, prog_8_method_9_code, 1, some .boolean)
def M_MD_numeric : xM := (⟨"PicturedRecordModel", "numeric", "()Z"⟩, prog_8_method_11_code, 3, some .boolean)
def M_MD_editing : xM := (⟨"PicturedRecordModel", "editing", "()Z"⟩, prog_8_method_14_code, 6, some .boolean)
def M_MD_ends : xM := (⟨"PicturedRecordModel", "ends", "()V"⟩, prog_8_method_13_code, 5, none)
def M_MD_howMany : xM := (⟨"PicturedRecordModel", "howMany", "(II)I"⟩, prog_8_method_12_code, 5, some .int)
def M_MD_widthOf : xM := (⟨"PicturedRecordModel", "widthOf", "(II)I"⟩, prog_8_method_15_code, 2, some .int)
def M_MD_fields : xM := (⟨"PicturedRecordModel", "fields", "()I"⟩, prog_8_method_17_code, 1, some .int)
def M_MD_size : xM := (⟨"PicturedRecordModel", "size", "(I)I"⟩, prog_8_method_19_code, 2, some .int)
def M_MD_there : xM := (⟨"PicturedRecordModel", "there", "(I)Z"⟩, prog_8_method_18_code, 2, some .boolean)
def M_MD_shape : xM := (⟨"PicturedRecordModel", "shape", "(I)I"⟩, prog_8_method_20_code, 2, some .int)
def M_MD_peek : xM := (⟨"PicturedRecordModel", "peek", "(I)I"⟩, prog_8_method_21_code, 2, some .int)
def M_MD_poke : xM := (⟨"PicturedRecordModel", "poke", "(II)Z"⟩, prog_8_method_22_code, 3, some .boolean)
def M_MD_value : xM := (⟨"PicturedRecordModel", "value", "(I)J"⟩, prog_8_method_37_code, 4, some .long)
def M_MD_units : xM := (⟨"PicturedRecordModel", "units", "(I)J"⟩, prog_8_method_35_code, 3, some .long)
def M_MD_readEdited : xM := (⟨"PicturedRecordModel", "readEdited", "(I)J"⟩, prog_8_method_30_code, 6, some .long)
def M_MD_digitPlace : xM := (⟨"PicturedRecordModel", "digitPlace", "(II)Z"⟩, prog_8_method_25_code, 6, some .boolean)
def M_MD_symbolAt : xM := (⟨"PicturedRecordModel", "symbolAt", "(II)I"⟩, prog_8_method_24_code, 3, some .int)
def M_MD_shows : xM := (⟨"PicturedRecordModel", "shows", "(IJ)Z"⟩, prog_8_method_29_code, 6, some .boolean)
def M_MD_show : xM := (⟨"PicturedRecordModel", "show", "(IJ)V"⟩, prog_8_method_28_code, 14, none)
def M_MD_digitOf : xM := (⟨"PicturedRecordModel", "digitOf", "(IIJ)I"⟩, prog_8_method_26_code, 7, some .int)
def M_MD_power : xM := (⟨"PicturedRecordModel", "power", "(I)J"⟩, prog_8_method_23_code, 4, some .long)
def M_MD_signOf : xM := (⟨"PicturedRecordModel", "signOf", "(IZ)I"⟩, prog_8_method_27_code, 2, some .int)
def M_MD_readPacked : xM := (⟨"PicturedRecordModel", "readPacked", "(II)J"⟩, prog_8_method_33_code, 8, some .long)
def M_MD_half : xM := (⟨"PicturedRecordModel", "half", "(II)I"⟩, prog_8_method_32_code, 4, some .int)
def M_MD_readBinary : xM := (⟨"PicturedRecordModel", "readBinary", "(II)J"⟩, prog_8_method_34_code, 10, some .long)
def M_MD_readZoned : xM := (⟨"PicturedRecordModel", "readZoned", "(II)J"⟩, prog_8_method_31_code, 8, some .long)
def M_MD_put : xM := (⟨"PicturedRecordModel", "put", "(III)Z"⟩, prog_8_method_42_code, 4, some .boolean)
def M_MD_transfer : xM := (⟨"PicturedRecordModel", "transfer", "(JJI)V"⟩, prog_8_method_41_code, 10, none)
def M_MD_store : xM := (⟨"PicturedRecordModel", "store", "(IJ)V"⟩, prog_8_method_38_code, 12, none)
def M_MD_move : xM := (⟨"PicturedRecordModel", "move", "(II)I"⟩, prog_8_method_44_code, 3, some .int)
def M_MD_isSound : xM := (⟨"PicturedRecordModel", "isSound", "(I)Z"⟩, prog_8_method_36_code, 4, some .boolean)
def M_MD_badData : xM := (⟨"PicturedRecordModel", "badData", "()I"⟩, prog_8_method_43_code, 1, some .int)
def M_MD_compute : xM := (⟨"PicturedRecordModel", "compute", "(IIIII)I"⟩, prog_8_method_47_code, 17, some .int)
def M_MD_isMode : xM := (⟨"PicturedRecordModel", "isMode", "(I)Z"⟩, prog_8_method_46_code, 1, some .boolean)
def M_MD_number : xM := (⟨"PicturedRecordModel", "number", "(I)Z"⟩, prog_8_method_45_code, 2, some .boolean)
def M_MD_quotient : xM := (⟨"PicturedRecordModel", "quotient", "(IIII)Z"⟩, prog_8_method_48_code, 9, some .boolean)
def M_MD_result : xM := (⟨"PicturedRecordModel", "result", "(JJII)Z"⟩, prog_8_method_40_code, 20, some .boolean)
def M_MD_step : xM := (⟨"PicturedRecordModel", "step", "(JJJI)I"⟩, prog_8_method_39_code, 11, some .int)
def M_MD_divide : xM := (⟨"PicturedRecordModel", "divide", "(IIIII)I"⟩, prog_8_method_49_code, 18, some .int)
def M_MD_addTo : xM := (⟨"PicturedRecordModel", "addTo", "(IIII)I"⟩, prog_8_method_52_code, 14, some .int)
def M_MD_range : xM := (⟨"PicturedRecordModel", "range", "(II)Z"⟩, prog_8_method_50_code, 3, some .boolean)
def M_MD_hold : xM := (⟨"PicturedRecordModel", "hold", "(II)Z"⟩, prog_8_method_51_code, 5, some .boolean)
def M_MD_total : xM := (⟨"PicturedRecordModel", "total", "(IIII)I"⟩, prog_8_method_53_code, 8, some .int)
def M_MD_sizeErrors : xM := (⟨"PicturedRecordModel", "sizeErrors", "()I"⟩, prog_8_method_54_code, 1, some .int)
def M_MD_dataErrors : xM := (⟨"PicturedRecordModel", "dataErrors", "()I"⟩, prog_8_method_55_code, 1, some .int)
def M_LW_law : xM := (x, code, 4, some .boolean)
theorem mt_PR_init : xMt M_PR_init 0 := ⟨gwT1 20 rfl rfl, gwT1 1 rfl rfl, ⟨by decide, by decide, by decide +kernel⟩, by decide⟩
theorem im_PR_init : Cond.instanceMethod M_PR_init.1 ∈ GW := gwT1 19 rfl rfl
theorem mt_PC_init : xMt M_PC_init 0 := ⟨gwT1 28 rfl rfl, gwT1 2 rfl rfl, ⟨by decide, by decide, by decide +kernel⟩, by decide⟩
theorem im_PC_init : Cond.instanceMethod M_PC_init.1 ∈ GW := gwT1 27 rfl rfl
theorem mt_SG_init : xMt M_SG_init 0 := ⟨gwT1 80 rfl rfl, gwT1 3 rfl rfl, ⟨by decide, by decide, by decide +kernel⟩, by decide⟩
theorem im_SG_init : Cond.instanceMethod M_SG_init.1 ∈ GW := gwT1 79 rfl rfl
theorem mt_ED_init : xMt M_ED_init 0 := ⟨gwT1 86 rfl rfl, gwT1 4 rfl rfl, ⟨by decide, by decide, by decide +kernel⟩, by decide⟩
theorem im_ED_init : Cond.instanceMethod M_ED_init.1 ∈ GW := gwT1 85 rfl rfl
theorem mt_PR_pic : xMt M_PR_pic 1 := ⟨gwT1 134 rfl rfl, gwT1 1 rfl rfl, ⟨by decide, by decide, by decide +kernel⟩, by decide⟩
theorem im_PR_pic : Cond.instanceMethod M_PR_pic.1 ∈ GW := gwT1 132 rfl rfl
theorem se_PR_pic : Cond.selects M_PR_pic.1.cls M_PR_pic.1 M_PR_pic.1 ∈ GW := gwT1 133 rfl rfl
theorem mt_PR_scrap : xMt M_PR_scrap 0 := ⟨gwT1 138 rfl rfl, gwT1 1 rfl rfl, ⟨by decide, by decide, by decide +kernel⟩, by decide⟩
theorem im_PR_scrap : Cond.instanceMethod M_PR_scrap.1 ∈ GW := gwT1 136 rfl rfl
theorem se_PR_scrap : Cond.selects M_PR_scrap.1.cls M_PR_scrap.1 M_PR_scrap.1 ∈ GW := gwT1 137 rfl rfl
theorem mt_PR_field : xMt M_PR_field 2 := ⟨gwT1 142 rfl rfl, gwT1 1 rfl rfl, ⟨by decide, by decide, by decide +kernel⟩, by decide⟩
theorem im_PR_field : Cond.instanceMethod M_PR_field.1 ∈ GW := gwT1 140 rfl rfl
theorem se_PR_field : Cond.selects M_PR_field.1.cls M_PR_field.1 M_PR_field.1 ∈ GW := gwT1 141 rfl rfl
theorem mt_PC_readDraft : xMt M_PC_readDraft 2 := ⟨gwT1 146 rfl rfl, gwT1 2 rfl rfl, ⟨by decide, by decide, by decide +kernel⟩, by decide⟩
theorem im_PC_readDraft : Cond.instanceMethod M_PC_readDraft.1 ∈ GW := gwT1 145 rfl rfl
theorem se_PC_readDraft : Cond.selects M_PC_readDraft.1.cls M_PC_readDraft.1 M_PC_readDraft.1 ∈ GW := gwS (n := 10) (by decide +kernel) rfl
theorem mt_PC_writeOut : xMt M_PC_writeOut 2 := ⟨gwT1 150 rfl rfl, gwT1 2 rfl rfl, ⟨by decide, by decide, by decide +kernel⟩, by decide⟩
theorem im_PC_writeOut : Cond.instanceMethod M_PC_writeOut.1 ∈ GW := gwT1 149 rfl rfl
theorem se_PC_writeOut : Cond.selects M_PC_writeOut.1.cls M_PC_writeOut.1 M_PC_writeOut.1 ∈ GW := gwS (n := 10) (by decide +kernel) rfl
theorem mt_PC_repetitionLength : xMt M_PC_repetitionLength 3 := ⟨gwT1 153 rfl rfl, gwT1 2 rfl rfl, ⟨by decide, by decide, by decide +kernel⟩, by decide⟩
theorem st_PC_repetitionLength : Cond.static M_PC_repetitionLength.1 ∈ GW := gwT1 152 rfl rfl
theorem mt_PC_isOneOf : xMt M_PC_isOneOf 2 := ⟨gwT1 157 rfl rfl, gwT1 2 rfl rfl, ⟨by decide, by decide, by decide +kernel⟩, by decide⟩
theorem st_PC_isOneOf : Cond.static M_PC_isOneOf.1 ∈ GW := gwT1 156 rfl rfl
theorem mt_ST_indexOf_I : xMt M_ST_indexOf_I 1 := ⟨gwT1 161 rfl rfl, gwT1 6 rfl rfl, ⟨by decide, by decide, by decide +kernel⟩, by decide⟩
theorem im_ST_indexOf_I : Cond.instanceMethod M_ST_indexOf_I.1 ∈ GW := gwT1 159 rfl rfl
theorem se_ST_indexOf_I : Cond.selects M_ST_indexOf_I.1.cls M_ST_indexOf_I.1 M_ST_indexOf_I.1 ∈ GW := gwT1 160 rfl rfl
theorem mt_ST_indexOf_II : xMt M_ST_indexOf_II 2 := ⟨gwT1 165 rfl rfl, gwT1 6 rfl rfl, ⟨by decide, by decide, by decide +kernel⟩, by decide⟩
theorem im_ST_indexOf_II : Cond.instanceMethod M_ST_indexOf_II.1 ∈ GW := gwT1 163 rfl rfl
theorem se_ST_indexOf_II : Cond.selects M_ST_indexOf_II.1.cls M_ST_indexOf_II.1 M_ST_indexOf_II.1 ∈ GW := gwT1 164 rfl rfl
theorem mt_ST_isLatin1 : xMt M_ST_isLatin1 0 := ⟨gwT1 169 rfl rfl, gwT1 6 rfl rfl, ⟨by decide, by decide, by decide +kernel⟩, by decide⟩
theorem im_ST_isLatin1 : Cond.instanceMethod M_ST_isLatin1.1 ∈ GW := gwT1 167 rfl rfl
theorem se_ST_isLatin1 : Cond.selects M_ST_isLatin1.1.cls M_ST_isLatin1.1 M_ST_isLatin1.1 ∈ GW := gwT1 168 rfl rfl
theorem mt_ST_length : xMt M_ST_length 0 := ⟨gwT1 175 rfl rfl, gwT1 6 rfl rfl, ⟨by decide, by decide, by decide +kernel⟩, by decide⟩
theorem im_ST_length : Cond.instanceMethod M_ST_length.1 ∈ GW := gwT1 173 rfl rfl
theorem se_ST_length : Cond.selects M_ST_length.1.cls M_ST_length.1 M_ST_length.1 ∈ GW := gwT1 174 rfl rfl
theorem mt_ST_coder : xMt M_ST_coder 0 := ⟨gwT1 179 rfl rfl, gwT1 6 rfl rfl, ⟨by decide, by decide, by decide +kernel⟩, by decide⟩
theorem im_ST_coder : Cond.instanceMethod M_ST_coder.1 ∈ GW := gwT1 177 rfl rfl
theorem se_ST_coder : Cond.selects M_ST_coder.1.cls M_ST_coder.1 M_ST_coder.1 ∈ GW := gwT1 178 rfl rfl
theorem mt_L1_indexOf : xMt M_L1_indexOf 4 := ⟨gwT1 182 rfl rfl, gwT1 7 rfl rfl, ⟨by decide, by decide, by decide +kernel⟩, by decide⟩
theorem st_L1_indexOf : Cond.static M_L1_indexOf.1 ∈ GW := gwT1 181 rfl rfl
theorem mt_L1_canEncode : xMt M_L1_canEncode 1 := ⟨gwT1 185 rfl rfl, gwT1 7 rfl rfl, ⟨by decide, by decide, by decide +kernel⟩, by decide⟩
theorem st_L1_canEncode : Cond.static M_L1_canEncode.1 ∈ GW := gwT1 184 rfl rfl
theorem mt_MA_max : xMt M_MA_max 2 := ⟨gwT1 188 rfl rfl, gwT1 8 rfl rfl, ⟨by decide, by decide, by decide +kernel⟩, by decide⟩
theorem st_MA_max : Cond.static M_MA_max.1 ∈ GW := gwT1 187 rfl rfl
theorem mt_MA_min : xMt M_MA_min 2 := ⟨gwT1 191 rfl rfl, gwT1 8 rfl rfl, ⟨by decide, by decide, by decide +kernel⟩, by decide⟩
theorem st_MA_min : Cond.static M_MA_min.1 ∈ GW := gwT1 190 rfl rfl
theorem mt_L1_indexOfChar : xMt M_L1_indexOfChar 4 := ⟨gwT1 194 rfl rfl, gwT1 7 rfl rfl, ⟨by decide, by decide, by decide +kernel⟩, by decide⟩
theorem st_L1_indexOfChar : Cond.static M_L1_indexOfChar.1 ∈ GW := gwT1 193 rfl rfl
theorem mt_ST_checkBoundsBeginEnd : xMt M_ST_checkBoundsBeginEnd 3 := ⟨gwT1 212 rfl rfl, gwT1 6 rfl rfl, ⟨by decide, by decide, by decide +kernel⟩, by decide⟩
theorem st_ST_checkBoundsBeginEnd : Cond.static M_ST_checkBoundsBeginEnd.1 ∈ GW := gwT1 211 rfl rfl
theorem mt_PC_isDigit : xMt M_PC_isDigit 1 := ⟨gwT2 6 rfl rfl, gwT1 2 rfl rfl, ⟨by decide, by decide, by decide +kernel⟩, by decide⟩
theorem st_PC_isDigit : Cond.static M_PC_isDigit.1 ∈ GW := gwT2 5 rfl rfl
theorem mt_PC_repetitions : xMt M_PC_repetitions 3 := ⟨gwT2 9 rfl rfl, gwT1 2 rfl rfl, ⟨by decide, by decide, by decide +kernel⟩, by decide⟩
theorem st_PC_repetitions : Cond.static M_PC_repetitions.1 ∈ GW := gwT2 8 rfl rfl
theorem mt_PC_append : xMt M_PC_append 2 := ⟨gwT2 13 rfl rfl, gwT1 2 rfl rfl, ⟨by decide, by decide, by decide +kernel⟩, by decide⟩
theorem im_PC_append : Cond.instanceMethod M_PC_append.1 ∈ GW := gwT2 12 rfl rfl
theorem se_PC_append : Cond.selects M_PC_append.1.cls M_PC_append.1 M_PC_append.1 ∈ GW := gwS (n := 10) (by decide +kernel) rfl
theorem mt_PC_readNumeric : xMt M_PC_readNumeric 0 := ⟨gwT2 18 rfl rfl, gwT1 2 rfl rfl, ⟨by decide, by decide, by decide +kernel⟩, by decide⟩
theorem im_PC_readNumeric : Cond.instanceMethod M_PC_readNumeric.1 ∈ GW := gwT2 17 rfl rfl
theorem se_PC_readNumeric : Cond.selects M_PC_readNumeric.1.cls M_PC_readNumeric.1 M_PC_readNumeric.1 ∈ GW := gwS (n := 10) (by decide +kernel) rfl
theorem mt_PC_isWithinLimits : xMt M_PC_isWithinLimits 0 := ⟨gwT2 22 rfl rfl, gwT1 2 rfl rfl, ⟨by decide, by decide, by decide +kernel⟩, by decide⟩
theorem im_PC_isWithinLimits : Cond.instanceMethod M_PC_isWithinLimits.1 ∈ GW := gwT2 21 rfl rfl
theorem se_PC_isWithinLimits : Cond.selects M_PC_isWithinLimits.1.cls M_PC_isWithinLimits.1 M_PC_isWithinLimits.1 ∈ GW := gwS (n := 10) (by decide +kernel) rfl
theorem mt_PC_readEdited : xMt M_PC_readEdited 0 := ⟨gwT2 26 rfl rfl, gwT1 2 rfl rfl, ⟨by decide, by decide, by decide +kernel⟩, by decide⟩
theorem im_PC_readEdited : Cond.instanceMethod M_PC_readEdited.1 ∈ GW := gwT2 25 rfl rfl
theorem se_PC_readEdited : Cond.selects M_PC_readEdited.1.cls M_PC_readEdited.1 M_PC_readEdited.1 ∈ GW := gwS (n := 10) (by decide +kernel) rfl
theorem mt_PC_countOf : xMt M_PC_countOf 1 := ⟨gwT2 30 rfl rfl, gwT1 2 rfl rfl, ⟨by decide, by decide, by decide +kernel⟩, by decide⟩
theorem im_PC_countOf : Cond.instanceMethod M_PC_countOf.1 ∈ GW := gwT2 29 rfl rfl
theorem se_PC_countOf : Cond.selects M_PC_countOf.1.cls M_PC_countOf.1 M_PC_countOf.1 ∈ GW := gwS (n := 10) (by decide +kernel) rfl
theorem mt_PC_endsWith : xMt M_PC_endsWith 2 := ⟨gwT2 35 rfl rfl, gwT1 2 rfl rfl, ⟨by decide, by decide, by decide +kernel⟩, by decide⟩
theorem im_PC_endsWith : Cond.instanceMethod M_PC_endsWith.1 ∈ GW := gwT2 34 rfl rfl
theorem se_PC_endsWith : Cond.selects M_PC_endsWith.1.cls M_PC_endsWith.1 M_PC_endsWith.1 ∈ GW := gwS (n := 10) (by decide +kernel) rfl
theorem mt_PC_readBody : xMt M_PC_readBody 0 := ⟨gwT2 39 rfl rfl, gwT1 2 rfl rfl, ⟨by decide, by decide, by decide +kernel⟩, by decide⟩
theorem im_PC_readBody : Cond.instanceMethod M_PC_readBody.1 ∈ GW := gwT2 38 rfl rfl
theorem se_PC_readBody : Cond.selects M_PC_readBody.1.cls M_PC_readBody.1 M_PC_readBody.1 ∈ GW := gwS (n := 10) (by decide +kernel) rfl
theorem mt_PC_isNextFiller : xMt M_PC_isNextFiller 2 := ⟨gwT2 44 rfl rfl, gwT1 2 rfl rfl, ⟨by decide, by decide, by decide +kernel⟩, by decide⟩
theorem im_PC_isNextFiller : Cond.instanceMethod M_PC_isNextFiller.1 ∈ GW := gwT2 43 rfl rfl
theorem se_PC_isNextFiller : Cond.selects M_PC_isNextFiller.1.cls M_PC_isNextFiller.1 M_PC_isNextFiller.1 ∈ GW := gwS (n := 10) (by decide +kernel) rfl
theorem mt_PC_goesWith : xMt M_PC_goesWith 1 := ⟨gwT2 50 rfl rfl, gwT1 2 rfl rfl, ⟨by decide, by decide, by decide +kernel⟩, by decide⟩
theorem im_PC_goesWith : Cond.instanceMethod M_PC_goesWith.1 ∈ GW := gwT2 49 rfl rfl
theorem se_PC_goesWith : Cond.selects M_PC_goesWith.1.cls M_PC_goesWith.1 M_PC_goesWith.1 ∈ GW := gwS (n := 10) (by decide +kernel) rfl
theorem mt_PC_lengthAs : xMt M_PC_lengthAs 1 := ⟨gwT2 54 rfl rfl, gwT1 2 rfl rfl, ⟨by decide, by decide, by decide +kernel⟩, by decide⟩
theorem im_PC_lengthAs : Cond.instanceMethod M_PC_lengthAs.1 ∈ GW := gwT2 53 rfl rfl
theorem se_PC_lengthAs : Cond.selects M_PC_lengthAs.1.cls M_PC_lengthAs.1 M_PC_lengthAs.1 ∈ GW := gwS (n := 10) (by decide +kernel) rfl
theorem mt_FD_init : xMt M_FD_init 4 := ⟨gwT2 58 rfl rfl, gwT1 12 rfl rfl, ⟨by decide, by decide, by decide +kernel⟩, by decide⟩
theorem im_FD_init : Cond.instanceMethod M_FD_init.1 ∈ GW := gwT2 57 rfl rfl
theorem mt_PR_fields : xMt M_PR_fields 0 := ⟨gwT2 96 rfl rfl, gwT1 1 rfl rfl, ⟨by decide, by decide, by decide +kernel⟩, by decide⟩
theorem im_PR_fields : Cond.instanceMethod M_PR_fields.1 ∈ GW := gwT2 94 rfl rfl
theorem se_PR_fields : Cond.selects M_PR_fields.1.cls M_PR_fields.1 M_PR_fields.1 ∈ GW := gwT2 95 rfl rfl
theorem mt_PR_size : xMt M_PR_size 1 := ⟨gwT2 100 rfl rfl, gwT1 1 rfl rfl, ⟨by decide, by decide, by decide +kernel⟩, by decide⟩
theorem im_PR_size : Cond.instanceMethod M_PR_size.1 ∈ GW := gwT2 98 rfl rfl
theorem se_PR_size : Cond.selects M_PR_size.1.cls M_PR_size.1 M_PR_size.1 ∈ GW := gwT2 99 rfl rfl
theorem mt_PR_fieldAt : xMt M_PR_fieldAt 1 := ⟨gwT2 104 rfl rfl, gwT1 1 rfl rfl, ⟨by decide, by decide, by decide +kernel⟩, by decide⟩
theorem im_PR_fieldAt : Cond.instanceMethod M_PR_fieldAt.1 ∈ GW := gwT2 103 rfl rfl
theorem se_PR_fieldAt : Cond.selects M_PR_fieldAt.1.cls M_PR_fieldAt.1 M_PR_fieldAt.1 ∈ GW := gwS (n := 9) (by decide +kernel) rfl
theorem mt_PR_shape : xMt M_PR_shape 1 := ⟨gwT2 108 rfl rfl, gwT1 1 rfl rfl, ⟨by decide, by decide, by decide +kernel⟩, by decide⟩
theorem im_PR_shape : Cond.instanceMethod M_PR_shape.1 ∈ GW := gwT2 106 rfl rfl
theorem se_PR_shape : Cond.selects M_PR_shape.1.cls M_PR_shape.1 M_PR_shape.1 ∈ GW := gwT2 107 rfl rfl
theorem mt_FD_isEdited : xMt M_FD_isEdited 0 := ⟨gwT2 112 rfl rfl, gwT1 12 rfl rfl, ⟨by decide, by decide, by decide +kernel⟩, by decide⟩
theorem im_FD_isEdited : Cond.instanceMethod M_FD_isEdited.1 ∈ GW := gwT2 111 rfl rfl
theorem se_FD_isEdited : Cond.selects M_FD_isEdited.1.cls M_FD_isEdited.1 M_FD_isEdited.1 ∈ GW := gwS (n := 7) (by decide +kernel) rfl
theorem mt_PR_peek : xMt M_PR_peek 1 := ⟨gwT2 116 rfl rfl, gwT1 1 rfl rfl, ⟨by decide, by decide, by decide +kernel⟩, by decide⟩
theorem im_PR_peek : Cond.instanceMethod M_PR_peek.1 ∈ GW := gwT2 114 rfl rfl
theorem se_PR_peek : Cond.selects M_PR_peek.1.cls M_PR_peek.1 M_PR_peek.1 ∈ GW := gwT2 115 rfl rfl
theorem mt_PR_isPlace : xMt M_PR_isPlace 1 := ⟨gwT2 119 rfl rfl, gwT1 1 rfl rfl, ⟨by decide, by decide, by decide +kernel⟩, by decide⟩
theorem st_PR_isPlace : Cond.static M_PR_isPlace.1 ∈ GW := gwT2 118 rfl rfl
theorem mt_PR_poke : xMt M_PR_poke 2 := ⟨gwT2 123 rfl rfl, gwT1 1 rfl rfl, ⟨by decide, by decide, by decide +kernel⟩, by decide⟩
theorem im_PR_poke : Cond.instanceMethod M_PR_poke.1 ∈ GW := gwT2 121 rfl rfl
theorem se_PR_poke : Cond.selects M_PR_poke.1.cls M_PR_poke.1 M_PR_poke.1 ∈ GW := gwT2 122 rfl rfl
theorem mt_PR_value : xMt M_PR_value 1 := ⟨gwT2 127 rfl rfl, gwT1 1 rfl rfl, ⟨by decide, by decide, by decide +kernel⟩, by decide⟩
theorem im_PR_value : Cond.instanceMethod M_PR_value.1 ∈ GW := gwT2 125 rfl rfl
theorem se_PR_value : Cond.selects M_PR_value.1.cls M_PR_value.1 M_PR_value.1 ∈ GW := gwT2 126 rfl rfl
theorem mt_SG_unitsOf : xMt M_SG_unitsOf 1 := ⟨gwT2 132 rfl rfl, gwT1 3 rfl rfl, ⟨by decide, by decide, by decide +kernel⟩, by decide⟩
theorem im_SG_unitsOf : Cond.instanceMethod M_SG_unitsOf.1 ∈ GW := gwT2 131 rfl rfl
theorem se_SG_unitsOf : Cond.selects M_SG_unitsOf.1.cls M_SG_unitsOf.1 M_SG_unitsOf.1 ∈ GW := gwS (n := 2) (by decide +kernel) rfl
theorem mt_SG_packedUnits : xMt M_SG_packedUnits 1 := ⟨gwT2 136 rfl rfl, gwT1 3 rfl rfl, ⟨by decide, by decide, by decide +kernel⟩, by decide⟩
theorem im_SG_packedUnits : Cond.instanceMethod M_SG_packedUnits.1 ∈ GW := gwT2 135 rfl rfl
theorem se_SG_packedUnits : Cond.selects M_SG_packedUnits.1.cls M_SG_packedUnits.1 M_SG_packedUnits.1 ∈ GW := gwS (n := 2) (by decide +kernel) rfl
theorem mt_SG_halfAt : xMt M_SG_halfAt 2 := ⟨gwT2 140 rfl rfl, gwT1 3 rfl rfl, ⟨by decide, by decide, by decide +kernel⟩, by decide⟩
theorem im_SG_halfAt : Cond.instanceMethod M_SG_halfAt.1 ∈ GW := gwT2 139 rfl rfl
theorem se_SG_halfAt : Cond.selects M_SG_halfAt.1.cls M_SG_halfAt.1 M_SG_halfAt.1 ∈ GW := gwS (n := 2) (by decide +kernel) rfl
theorem mt_SG_isDigit : xMt M_SG_isDigit 1 := ⟨gwT2 143 rfl rfl, gwT1 3 rfl rfl, ⟨by decide, by decide, by decide +kernel⟩, by decide⟩
theorem st_SG_isDigit : Cond.static M_SG_isDigit.1 ∈ GW := gwT2 142 rfl rfl
theorem mt_DC_tenTo : xMt M_DC_tenTo 1 := ⟨gwT2 148 rfl rfl, gwT1 13 rfl rfl, ⟨by decide, by decide, by decide +kernel⟩, by decide⟩
theorem st_DC_tenTo : Cond.static M_DC_tenTo.1 ∈ GW := gwT2 147 rfl rfl
theorem mt_SG_withSign : xMt M_SG_withSign 2 := ⟨gwT2 153 rfl rfl, gwT1 3 rfl rfl, ⟨by decide, by decide, by decide +kernel⟩, by decide⟩
theorem st_SG_withSign : Cond.static M_SG_withSign.1 ∈ GW := gwT2 152 rfl rfl
theorem mt_SG_separateUnits : xMt M_SG_separateUnits 1 := ⟨gwT2 157 rfl rfl, gwT1 3 rfl rfl, ⟨by decide, by decide, by decide +kernel⟩, by decide⟩
theorem im_SG_separateUnits : Cond.instanceMethod M_SG_separateUnits.1 ∈ GW := gwT2 156 rfl rfl
theorem se_SG_separateUnits : Cond.selects M_SG_separateUnits.1.cls M_SG_separateUnits.1 M_SG_separateUnits.1 ∈ GW := gwS (n := 2) (by decide +kernel) rfl
theorem mt_SG_digitsAt : xMt M_SG_digitsAt 2 := ⟨gwT2 161 rfl rfl, gwT1 3 rfl rfl, ⟨by decide, by decide, by decide +kernel⟩, by decide⟩
theorem im_SG_digitsAt : Cond.instanceMethod M_SG_digitsAt.1 ∈ GW := gwT2 160 rfl rfl
theorem se_SG_digitsAt : Cond.selects M_SG_digitsAt.1.cls M_SG_digitsAt.1 M_SG_digitsAt.1 ∈ GW := gwS (n := 2) (by decide +kernel) rfl
theorem mt_SG_binaryUnits : xMt M_SG_binaryUnits 1 := ⟨gwT2 165 rfl rfl, gwT1 3 rfl rfl, ⟨by decide, by decide, by decide +kernel⟩, by decide⟩
theorem im_SG_binaryUnits : Cond.instanceMethod M_SG_binaryUnits.1 ∈ GW := gwT2 164 rfl rfl
theorem se_SG_binaryUnits : Cond.selects M_SG_binaryUnits.1.cls M_SG_binaryUnits.1 M_SG_binaryUnits.1 ∈ GW := gwS (n := 2) (by decide +kernel) rfl
theorem mt_MA_abs : xMt M_MA_abs 1 := ⟨gwT2 169 rfl rfl, gwT1 8 rfl rfl, ⟨by decide, by decide, by decide +kernel⟩, by decide⟩
theorem st_MA_abs : Cond.static M_MA_abs.1 ∈ GW := gwT2 168 rfl rfl
theorem mt_SG_editedUnits : xMt M_SG_editedUnits 1 := ⟨gwT2 173 rfl rfl, gwT1 3 rfl rfl, ⟨by decide, by decide, by decide +kernel⟩, by decide⟩
theorem im_SG_editedUnits : Cond.instanceMethod M_SG_editedUnits.1 ∈ GW := gwT2 172 rfl rfl
theorem se_SG_editedUnits : Cond.selects M_SG_editedUnits.1.cls M_SG_editedUnits.1 M_SG_editedUnits.1 ∈ GW := gwS (n := 2) (by decide +kernel) rfl
theorem mt_PC_isDigitPlace : xMt M_PC_isDigitPlace 1 := ⟨gwT2 177 rfl rfl, gwT1 2 rfl rfl, ⟨by decide, by decide, by decide +kernel⟩, by decide⟩
theorem im_PC_isDigitPlace : Cond.instanceMethod M_PC_isDigitPlace.1 ∈ GW := gwT2 176 rfl rfl
theorem se_PC_isDigitPlace : Cond.selects M_PC_isDigitPlace.1.cls M_PC_isDigitPlace.1 M_PC_isDigitPlace.1 ∈ GW := gwS (n := 10) (by decide +kernel) rfl
theorem mt_ED_edit : xMt M_ED_edit 2 := ⟨gwT2 181 rfl rfl, gwT1 4 rfl rfl, ⟨by decide, by decide, by decide +kernel⟩, by decide⟩
theorem im_ED_edit : Cond.instanceMethod M_ED_edit.1 ∈ GW := gwT2 180 rfl rfl
theorem se_ED_edit : Cond.selects M_ED_edit.1.cls M_ED_edit.1 M_ED_edit.1 ∈ GW := gwS (n := 1) (by decide +kernel) rfl
theorem mt_ED_signCharacter : xMt M_ED_signCharacter 2 := ⟨gwT2 184 rfl rfl, gwT1 4 rfl rfl, ⟨by decide, by decide, by decide +kernel⟩, by decide⟩
theorem st_ED_signCharacter : Cond.static M_ED_signCharacter.1 ∈ GW := gwT2 183 rfl rfl
theorem mt_ED_writeBody : xMt M_ED_writeBody 2 := ⟨gwT2 189 rfl rfl, gwT1 4 rfl rfl, ⟨by decide, by decide, by decide +kernel⟩, by decide⟩
theorem im_ED_writeBody : Cond.instanceMethod M_ED_writeBody.1 ∈ GW := gwT2 188 rfl rfl
theorem se_ED_writeBody : Cond.selects M_ED_writeBody.1.cls M_ED_writeBody.1 M_ED_writeBody.1 ∈ GW := gwS (n := 1) (by decide +kernel) rfl
theorem mt_ED_firstShown : xMt M_ED_firstShown 1 := ⟨gwT2 195 rfl rfl, gwT1 4 rfl rfl, ⟨by decide, by decide, by decide +kernel⟩, by decide⟩
theorem im_ED_firstShown : Cond.instanceMethod M_ED_firstShown.1 ∈ GW := gwT2 194 rfl rfl
theorem se_ED_firstShown : Cond.selects M_ED_firstShown.1.cls M_ED_firstShown.1 M_ED_firstShown.1 ∈ GW := gwS (n := 1) (by decide +kernel) rfl
theorem mt_ED_suppress : xMt M_ED_suppress 3 := ⟨gwT2 199 rfl rfl, gwT1 4 rfl rfl, ⟨by decide, by decide, by decide +kernel⟩, by decide⟩
theorem im_ED_suppress : Cond.instanceMethod M_ED_suppress.1 ∈ GW := gwT2 198 rfl rfl
theorem se_ED_suppress : Cond.selects M_ED_suppress.1.cls M_ED_suppress.1 M_ED_suppress.1 ∈ GW := gwS (n := 1) (by decide +kernel) rfl
theorem mt_SG_holdsText : xMt M_SG_holdsText 1 := ⟨gwT2 203 rfl rfl, gwT1 3 rfl rfl, ⟨by decide, by decide, by decide +kernel⟩, by decide⟩
theorem im_SG_holdsText : Cond.instanceMethod M_SG_holdsText.1 ∈ GW := gwT2 202 rfl rfl
theorem se_SG_holdsText : Cond.selects M_SG_holdsText.1.cls M_SG_holdsText.1 M_SG_holdsText.1 ∈ GW := gwS (n := 2) (by decide +kernel) rfl
theorem mt_SG_zonedUnits : xMt M_SG_zonedUnits 1 := ⟨gwT2 207 rfl rfl, gwT1 3 rfl rfl, ⟨by decide, by decide, by decide +kernel⟩, by decide⟩
theorem im_SG_zonedUnits : Cond.instanceMethod M_SG_zonedUnits.1 ∈ GW := gwT2 206 rfl rfl
theorem se_SG_zonedUnits : Cond.selects M_SG_zonedUnits.1.cls M_SG_zonedUnits.1 M_SG_zonedUnits.1 ∈ GW := gwS (n := 2) (by decide +kernel) rfl
theorem mt_PR_put : xMt M_PR_put 3 := ⟨gwT2 211 rfl rfl, gwT1 1 rfl rfl, ⟨by decide, by decide, by decide +kernel⟩, by decide⟩
theorem im_PR_put : Cond.instanceMethod M_PR_put.1 ∈ GW := gwT2 209 rfl rfl
theorem se_PR_put : Cond.selects M_PR_put.1.cls M_PR_put.1 M_PR_put.1 ∈ GW := gwT2 210 rfl rfl
theorem mt_PR_storeByMove : xMt M_PR_storeByMove 3 := ⟨gwT2 215 rfl rfl, gwT1 1 rfl rfl, ⟨by decide, by decide, by decide +kernel⟩, by decide⟩
theorem im_PR_storeByMove : Cond.instanceMethod M_PR_storeByMove.1 ∈ GW := gwT2 214 rfl rfl
theorem se_PR_storeByMove : Cond.selects M_PR_storeByMove.1.cls M_PR_storeByMove.1 M_PR_storeByMove.1 ∈ GW := gwS (n := 9) (by decide +kernel) rfl
theorem mt_SG_store : xMt M_SG_store 2 := ⟨gwT2 220 rfl rfl, gwT1 3 rfl rfl, ⟨by decide, by decide, by decide +kernel⟩, by decide⟩
theorem im_SG_store : Cond.instanceMethod M_SG_store.1 ∈ GW := gwT2 219 rfl rfl
theorem se_SG_store : Cond.selects M_SG_store.1.cls M_SG_store.1 M_SG_store.1 ∈ GW := gwS (n := 2) (by decide +kernel) rfl
theorem mt_SG_storePacked : xMt M_SG_storePacked 2 := ⟨gwT2 224 rfl rfl, gwT1 3 rfl rfl, ⟨by decide, by decide, by decide +kernel⟩, by decide⟩
theorem im_SG_storePacked : Cond.instanceMethod M_SG_storePacked.1 ∈ GW := gwT2 223 rfl rfl
theorem se_SG_storePacked : Cond.selects M_SG_storePacked.1.cls M_SG_storePacked.1 M_SG_storePacked.1 ∈ GW := gwS (n := 2) (by decide +kernel) rfl
theorem mt_SG_storeDigits : xMt M_SG_storeDigits 2 := ⟨gwT2 229 rfl rfl, gwT1 3 rfl rfl, ⟨by decide, by decide, by decide +kernel⟩, by decide⟩
theorem im_SG_storeDigits : Cond.instanceMethod M_SG_storeDigits.1 ∈ GW := gwT2 228 rfl rfl
theorem se_SG_storeDigits : Cond.selects M_SG_storeDigits.1.cls M_SG_storeDigits.1 M_SG_storeDigits.1 ∈ GW := gwS (n := 2) (by decide +kernel) rfl
theorem mt_SG_storeBinary : xMt M_SG_storeBinary 2 := ⟨gwT2 233 rfl rfl, gwT1 3 rfl rfl, ⟨by decide, by decide, by decide +kernel⟩, by decide⟩
theorem im_SG_storeBinary : Cond.instanceMethod M_SG_storeBinary.1 ∈ GW := gwT2 232 rfl rfl
theorem se_SG_storeBinary : Cond.selects M_SG_storeBinary.1.cls M_SG_storeBinary.1 M_SG_storeBinary.1 ∈ GW := gwS (n := 2) (by decide +kernel) rfl
theorem mt_SG_storeEdited : xMt M_SG_storeEdited 2 := ⟨gwT2 238 rfl rfl, gwT1 3 rfl rfl, ⟨by decide, by decide, by decide +kernel⟩, by decide⟩
theorem im_SG_storeEdited : Cond.instanceMethod M_SG_storeEdited.1 ∈ GW := gwT2 237 rfl rfl
theorem se_SG_storeEdited : Cond.selects M_SG_storeEdited.1.cls M_SG_storeEdited.1 M_SG_storeEdited.1 ∈ GW := gwS (n := 2) (by decide +kernel) rfl
theorem mt_PR_move : xMt M_PR_move 2 := ⟨gwT3 5 rfl rfl, gwT1 1 rfl rfl, ⟨by decide, by decide, by decide +kernel⟩, by decide⟩
theorem im_PR_move : Cond.instanceMethod M_PR_move.1 ∈ GW := gwT3 3 rfl rfl
theorem se_PR_move : Cond.selects M_PR_move.1.cls M_PR_move.1 M_PR_move.1 ∈ GW := gwT3 4 rfl rfl
theorem mt_PR_dataError : xMt M_PR_dataError 0 := ⟨gwT3 9 rfl rfl, gwT1 1 rfl rfl, ⟨by decide, by decide, by decide +kernel⟩, by decide⟩
theorem im_PR_dataError : Cond.instanceMethod M_PR_dataError.1 ∈ GW := gwT3 8 rfl rfl
theorem se_PR_dataError : Cond.selects M_PR_dataError.1.cls M_PR_dataError.1 M_PR_dataError.1 ∈ GW := gwS (n := 9) (by decide +kernel) rfl
theorem mt_PR_compute : xMt M_PR_compute 5 := ⟨gwT3 13 rfl rfl, gwT1 1 rfl rfl, ⟨by decide, by decide, by decide +kernel⟩, by decide⟩
theorem im_PR_compute : Cond.instanceMethod M_PR_compute.1 ∈ GW := gwT3 11 rfl rfl
theorem se_PR_compute : Cond.selects M_PR_compute.1.cls M_PR_compute.1 M_PR_compute.1 ∈ GW := gwT3 12 rfl rfl
theorem mt_PR_isOperation : xMt M_PR_isOperation 1 := ⟨gwT3 16 rfl rfl, gwT1 1 rfl rfl, ⟨by decide, by decide, by decide +kernel⟩, by decide⟩
theorem st_PR_isOperation : Cond.static M_PR_isOperation.1 ∈ GW := gwT3 15 rfl rfl
theorem mt_PR_isMode : xMt M_PR_isMode 1 := ⟨gwT3 19 rfl rfl, gwT1 1 rfl rfl, ⟨by decide, by decide, by decide +kernel⟩, by decide⟩
theorem st_PR_isMode : Cond.static M_PR_isMode.1 ∈ GW := gwT3 18 rfl rfl
theorem mt_PR_isOperand : xMt M_PR_isOperand 1 := ⟨gwT3 22 rfl rfl, gwT1 1 rfl rfl, ⟨by decide, by decide, by decide +kernel⟩, by decide⟩
theorem st_PR_isOperand : Cond.static M_PR_isOperand.1 ∈ GW := gwT3 21 rfl rfl
theorem mt_PR_storeResult : xMt M_PR_storeResult 5 := ⟨gwT3 26 rfl rfl, gwT1 1 rfl rfl, ⟨by decide, by decide, by decide +kernel⟩, by decide⟩
theorem im_PR_storeResult : Cond.instanceMethod M_PR_storeResult.1 ∈ GW := gwT3 25 rfl rfl
theorem se_PR_storeResult : Cond.selects M_PR_storeResult.1.cls M_PR_storeResult.1 M_PR_storeResult.1 ∈ GW := gwS (n := 9) (by decide +kernel) rfl
theorem mt_DC_result : xMt M_DC_result 4 := ⟨gwT3 29 rfl rfl, gwT1 13 rfl rfl, ⟨by decide, by decide, by decide +kernel⟩, by decide⟩
theorem st_DC_result : Cond.static M_DC_result.1 ∈ GW := gwT3 28 rfl rfl
theorem mt_DC_rounded : xMt M_DC_rounded 3 := ⟨gwT3 35 rfl rfl, gwT1 13 rfl rfl, ⟨by decide, by decide, by decide +kernel⟩, by decide⟩
theorem st_DC_rounded : Cond.static M_DC_rounded.1 ∈ GW := gwT3 34 rfl rfl
theorem mt_LO_compare : xMt M_LO_compare 2 := ⟨gwT3 39 rfl rfl, gwT1 15 rfl rfl, ⟨by decide, by decide, by decide +kernel⟩, by decide⟩
theorem st_LO_compare : Cond.static M_LO_compare.1 ∈ GW := gwT3 38 rfl rfl
theorem mt_DC_goesAway : xMt M_DC_goesAway 4 := ⟨gwT3 42 rfl rfl, gwT1 13 rfl rfl, ⟨by decide, by decide, by decide +kernel⟩, by decide⟩
theorem st_DC_goesAway : Cond.static M_DC_goesAway.1 ∈ GW := gwT3 41 rfl rfl
theorem mt_DC_atFullScale : xMt M_DC_atFullScale 2 := ⟨gwT3 46 rfl rfl, gwT1 13 rfl rfl, ⟨by decide, by decide, by decide +kernel⟩, by decide⟩
theorem st_DC_atFullScale : Cond.static M_DC_atFullScale.1 ∈ GW := gwT3 45 rfl rfl
theorem mt_PR_divide : xMt M_PR_divide 5 := ⟨gwT3 50 rfl rfl, gwT1 1 rfl rfl, ⟨by decide, by decide, by decide +kernel⟩, by decide⟩
theorem im_PR_divide : Cond.instanceMethod M_PR_divide.1 ∈ GW := gwT3 48 rfl rfl
theorem se_PR_divide : Cond.selects M_PR_divide.1.cls M_PR_divide.1 M_PR_divide.1 ∈ GW := gwT3 49 rfl rfl
theorem mt_PR_remainderAt : xMt M_PR_remainderAt 5 := ⟨gwT3 54 rfl rfl, gwT1 1 rfl rfl, ⟨by decide, by decide, by decide +kernel⟩, by decide⟩
theorem st_PR_remainderAt : Cond.static M_PR_remainderAt.1 ∈ GW := gwT3 53 rfl rfl
theorem mt_PR_addTo : xMt M_PR_addTo 4 := ⟨gwT3 58 rfl rfl, gwT1 1 rfl rfl, ⟨by decide, by decide, by decide +kernel⟩, by decide⟩
theorem im_PR_addTo : Cond.instanceMethod M_PR_addTo.1 ∈ GW := gwT3 56 rfl rfl
theorem se_PR_addTo : Cond.selects M_PR_addTo.1.cls M_PR_addTo.1 M_PR_addTo.1 ∈ GW := gwT3 57 rfl rfl
theorem mt_PR_isRange : xMt M_PR_isRange 2 := ⟨gwT3 62 rfl rfl, gwT1 1 rfl rfl, ⟨by decide, by decide, by decide +kernel⟩, by decide⟩
theorem im_PR_isRange : Cond.instanceMethod M_PR_isRange.1 ∈ GW := gwT3 61 rfl rfl
theorem se_PR_isRange : Cond.selects M_PR_isRange.1.cls M_PR_isRange.1 M_PR_isRange.1 ∈ GW := gwS (n := 9) (by decide +kernel) rfl
theorem mt_PR_readRange : xMt M_PR_readRange 2 := ⟨gwT3 66 rfl rfl, gwT1 1 rfl rfl, ⟨by decide, by decide, by decide +kernel⟩, by decide⟩
theorem im_PR_readRange : Cond.instanceMethod M_PR_readRange.1 ∈ GW := gwT3 65 rfl rfl
theorem se_PR_readRange : Cond.selects M_PR_readRange.1.cls M_PR_readRange.1 M_PR_readRange.1 ∈ GW := gwS (n := 9) (by decide +kernel) rfl
theorem mt_PR_total : xMt M_PR_total 4 := ⟨gwT3 70 rfl rfl, gwT1 1 rfl rfl, ⟨by decide, by decide, by decide +kernel⟩, by decide⟩
theorem im_PR_total : Cond.instanceMethod M_PR_total.1 ∈ GW := gwT3 68 rfl rfl
theorem se_PR_total : Cond.selects M_PR_total.1.cls M_PR_total.1 M_PR_total.1 ∈ GW := gwT3 69 rfl rfl
theorem mt_PR_sizeErrors : xMt M_PR_sizeErrors 0 := ⟨gwT3 74 rfl rfl, gwT1 1 rfl rfl, ⟨by decide, by decide, by decide +kernel⟩, by decide⟩
theorem im_PR_sizeErrors : Cond.instanceMethod M_PR_sizeErrors.1 ∈ GW := gwT3 72 rfl rfl
theorem se_PR_sizeErrors : Cond.selects M_PR_sizeErrors.1.cls M_PR_sizeErrors.1 M_PR_sizeErrors.1 ∈ GW := gwT3 73 rfl rfl
theorem mt_PR_dataErrors : xMt M_PR_dataErrors 0 := ⟨gwT3 78 rfl rfl, gwT1 1 rfl rfl, ⟨by decide, by decide, by decide +kernel⟩, by decide⟩
theorem im_PR_dataErrors : Cond.instanceMethod M_PR_dataErrors.1 ∈ GW := gwT3 76 rfl rfl
theorem se_PR_dataErrors : Cond.selects M_PR_dataErrors.1.cls M_PR_dataErrors.1 M_PR_dataErrors.1 ∈ GW := gwT3 77 rfl rfl
theorem mt_MD_init : xMt M_MD_init 0 := ⟨gwT3 83 rfl rfl, gwT1 5 rfl rfl, ⟨by decide, by decide, by decide +kernel⟩, by decide⟩
theorem im_MD_init : Cond.instanceMethod M_MD_init.1 ∈ GW := gwT3 82 rfl rfl
theorem mt_MD_pic : xMt M_MD_pic 1 := ⟨gwT3 171 rfl rfl, gwT1 5 rfl rfl, ⟨by decide, by decide, by decide +kernel⟩, by decide⟩
theorem im_MD_pic : Cond.instanceMethod M_MD_pic.1 ∈ GW := gwT3 169 rfl rfl
theorem se_MD_pic : Cond.selects M_MD_pic.1.cls M_MD_pic.1 M_MD_pic.1 ∈ GW := gwT3 170 rfl rfl
theorem mt_MD_scrap : xMt M_MD_scrap 0 := ⟨gwT3 175 rfl rfl, gwT1 5 rfl rfl, ⟨by decide, by decide, by decide +kernel⟩, by decide⟩
theorem im_MD_scrap : Cond.instanceMethod M_MD_scrap.1 ∈ GW := gwT3 173 rfl rfl
theorem se_MD_scrap : Cond.selects M_MD_scrap.1.cls M_MD_scrap.1 M_MD_scrap.1 ∈ GW := gwT3 174 rfl rfl
theorem mt_MD_field : xMt M_MD_field 2 := ⟨gwT3 179 rfl rfl, gwT1 5 rfl rfl, ⟨by decide, by decide, by decide +kernel⟩, by decide⟩
theorem im_MD_field : Cond.instanceMethod M_MD_field.1 ∈ GW := gwT3 177 rfl rfl
theorem se_MD_field : Cond.selects M_MD_field.1.cls M_MD_field.1 M_MD_field.1 ∈ GW := gwT3 178 rfl rfl
theorem mt_MD_writeOut : xMt M_MD_writeOut 0 := ⟨gwT3 183 rfl rfl, gwT1 5 rfl rfl, ⟨by decide, by decide, by decide +kernel⟩, by decide⟩
theorem im_MD_writeOut : Cond.instanceMethod M_MD_writeOut.1 ∈ GW := gwT3 182 rfl rfl
theorem se_MD_writeOut : Cond.selects M_MD_writeOut.1.cls M_MD_writeOut.1 M_MD_writeOut.1 ∈ GW := gwS (n := 27) (by decide +kernel) rfl
theorem mt_MD_repeats : xMt M_MD_repeats 1 := ⟨gwT3 186 rfl rfl, gwT1 5 rfl rfl, ⟨by decide, by decide, by decide +kernel⟩, by decide⟩
theorem st_MD_repeats : Cond.static M_MD_repeats.1 ∈ GW := gwT3 185 rfl rfl
theorem mt_MD_floating : xMt M_MD_floating 1 := ⟨gwT3 189 rfl rfl, gwT1 5 rfl rfl, ⟨by decide, by decide, by decide +kernel⟩, by decide⟩
theorem st_MD_floating : Cond.static M_MD_floating.1 ∈ GW := gwT3 188 rfl rfl
theorem mt_MD_plusMinus : xMt M_MD_plusMinus 1 := ⟨gwT3 192 rfl rfl, gwT1 5 rfl rfl, ⟨by decide, by decide, by decide +kernel⟩, by decide⟩
theorem st_MD_plusMinus : Cond.static M_MD_plusMinus.1 ∈ GW := gwT3 191 rfl rfl
theorem mt_MD_insertion : xMt M_MD_insertion 1 := ⟨gwT3 195 rfl rfl, gwT1 5 rfl rfl, ⟨by decide, by decide, by decide +kernel⟩, by decide⟩
theorem st_MD_insertion : Cond.static M_MD_insertion.1 ∈ GW := gwT3 194 rfl rfl
theorem mt_MD_drawn : xMt M_MD_drawn 1 := ⟨gwT3 199 rfl rfl, gwT1 5 rfl rfl, ⟨by decide, by decide, by decide +kernel⟩, by decide⟩
theorem im_MD_drawn : Cond.instanceMethod M_MD_drawn.1 ∈ GW := gwT3 198 rfl rfl
theorem se_MD_drawn : Cond.selects M_MD_drawn.1.cls M_MD_drawn.1 M_MD_drawn.1 ∈ GW := gwS (n := 27) (by decide +kernel) rfl
theorem mt_MD_figure : xMt M_MD_figure 1 := ⟨gwT3 202 rfl rfl, gwT1 5 rfl rfl, ⟨by decide, by decide, by decide +kernel⟩, by decide⟩
theorem st_MD_figure : Cond.static M_MD_figure.1 ∈ GW := gwT3 201 rfl rfl
theorem mt_MD_numeric : xMt M_MD_numeric 0 := ⟨gwT3 206 rfl rfl, gwT1 5 rfl rfl, ⟨by decide, by decide, by decide +kernel⟩, by decide⟩
theorem im_MD_numeric : Cond.instanceMethod M_MD_numeric.1 ∈ GW := gwT3 205 rfl rfl
theorem se_MD_numeric : Cond.selects M_MD_numeric.1.cls M_MD_numeric.1 M_MD_numeric.1 ∈ GW := gwS (n := 27) (by decide +kernel) rfl
theorem mt_MD_editing : xMt M_MD_editing 0 := ⟨gwT3 210 rfl rfl, gwT1 5 rfl rfl, ⟨by decide, by decide, by decide +kernel⟩, by decide⟩
theorem im_MD_editing : Cond.instanceMethod M_MD_editing.1 ∈ GW := gwT3 209 rfl rfl
theorem se_MD_editing : Cond.selects M_MD_editing.1.cls M_MD_editing.1 M_MD_editing.1 ∈ GW := gwS (n := 27) (by decide +kernel) rfl
theorem mt_MD_ends : xMt M_MD_ends 0 := ⟨gwT3 214 rfl rfl, gwT1 5 rfl rfl, ⟨by decide, by decide, by decide +kernel⟩, by decide⟩
theorem im_MD_ends : Cond.instanceMethod M_MD_ends.1 ∈ GW := gwT3 213 rfl rfl
theorem se_MD_ends : Cond.selects M_MD_ends.1.cls M_MD_ends.1 M_MD_ends.1 ∈ GW := gwS (n := 27) (by decide +kernel) rfl
theorem mt_MD_howMany : xMt M_MD_howMany 2 := ⟨gwT3 218 rfl rfl, gwT1 5 rfl rfl, ⟨by decide, by decide, by decide +kernel⟩, by decide⟩
theorem im_MD_howMany : Cond.instanceMethod M_MD_howMany.1 ∈ GW := gwT3 217 rfl rfl
theorem se_MD_howMany : Cond.selects M_MD_howMany.1.cls M_MD_howMany.1 M_MD_howMany.1 ∈ GW := gwS (n := 27) (by decide +kernel) rfl
theorem mt_MD_widthOf : xMt M_MD_widthOf 2 := ⟨gwT3 221 rfl rfl, gwT1 5 rfl rfl, ⟨by decide, by decide, by decide +kernel⟩, by decide⟩
theorem st_MD_widthOf : Cond.static M_MD_widthOf.1 ∈ GW := gwT3 220 rfl rfl
theorem mt_MD_fields : xMt M_MD_fields 0 := ⟨gwT3 225 rfl rfl, gwT1 5 rfl rfl, ⟨by decide, by decide, by decide +kernel⟩, by decide⟩
theorem im_MD_fields : Cond.instanceMethod M_MD_fields.1 ∈ GW := gwT3 223 rfl rfl
theorem se_MD_fields : Cond.selects M_MD_fields.1.cls M_MD_fields.1 M_MD_fields.1 ∈ GW := gwT3 224 rfl rfl
theorem mt_MD_size : xMt M_MD_size 1 := ⟨gwT3 229 rfl rfl, gwT1 5 rfl rfl, ⟨by decide, by decide, by decide +kernel⟩, by decide⟩
theorem im_MD_size : Cond.instanceMethod M_MD_size.1 ∈ GW := gwT3 227 rfl rfl
theorem se_MD_size : Cond.selects M_MD_size.1.cls M_MD_size.1 M_MD_size.1 ∈ GW := gwT3 228 rfl rfl
theorem mt_MD_there : xMt M_MD_there 1 := ⟨gwT3 233 rfl rfl, gwT1 5 rfl rfl, ⟨by decide, by decide, by decide +kernel⟩, by decide⟩
theorem im_MD_there : Cond.instanceMethod M_MD_there.1 ∈ GW := gwT3 232 rfl rfl
theorem se_MD_there : Cond.selects M_MD_there.1.cls M_MD_there.1 M_MD_there.1 ∈ GW := gwS (n := 27) (by decide +kernel) rfl
theorem mt_MD_shape : xMt M_MD_shape 1 := ⟨gwT3 237 rfl rfl, gwT1 5 rfl rfl, ⟨by decide, by decide, by decide +kernel⟩, by decide⟩
theorem im_MD_shape : Cond.instanceMethod M_MD_shape.1 ∈ GW := gwT3 235 rfl rfl
theorem se_MD_shape : Cond.selects M_MD_shape.1.cls M_MD_shape.1 M_MD_shape.1 ∈ GW := gwT3 236 rfl rfl
theorem mt_MD_peek : xMt M_MD_peek 1 := ⟨gwT4 1 rfl rfl, gwT1 5 rfl rfl, ⟨by decide, by decide, by decide +kernel⟩, by decide⟩
theorem im_MD_peek : Cond.instanceMethod M_MD_peek.1 ∈ GW := gwT3 239 rfl rfl
theorem se_MD_peek : Cond.selects M_MD_peek.1.cls M_MD_peek.1 M_MD_peek.1 ∈ GW := gwT4 0 rfl rfl
theorem mt_MD_poke : xMt M_MD_poke 2 := ⟨gwT4 5 rfl rfl, gwT1 5 rfl rfl, ⟨by decide, by decide, by decide +kernel⟩, by decide⟩
theorem im_MD_poke : Cond.instanceMethod M_MD_poke.1 ∈ GW := gwT4 3 rfl rfl
theorem se_MD_poke : Cond.selects M_MD_poke.1.cls M_MD_poke.1 M_MD_poke.1 ∈ GW := gwT4 4 rfl rfl
theorem mt_MD_value : xMt M_MD_value 1 := ⟨gwT4 9 rfl rfl, gwT1 5 rfl rfl, ⟨by decide, by decide, by decide +kernel⟩, by decide⟩
theorem im_MD_value : Cond.instanceMethod M_MD_value.1 ∈ GW := gwT4 7 rfl rfl
theorem se_MD_value : Cond.selects M_MD_value.1.cls M_MD_value.1 M_MD_value.1 ∈ GW := gwT4 8 rfl rfl
theorem mt_MD_units : xMt M_MD_units 1 := ⟨gwT4 14 rfl rfl, gwT1 5 rfl rfl, ⟨by decide, by decide, by decide +kernel⟩, by decide⟩
theorem im_MD_units : Cond.instanceMethod M_MD_units.1 ∈ GW := gwT4 13 rfl rfl
theorem se_MD_units : Cond.selects M_MD_units.1.cls M_MD_units.1 M_MD_units.1 ∈ GW := gwS (n := 27) (by decide +kernel) rfl
theorem mt_MD_readEdited : xMt M_MD_readEdited 1 := ⟨gwT4 18 rfl rfl, gwT1 5 rfl rfl, ⟨by decide, by decide, by decide +kernel⟩, by decide⟩
theorem im_MD_readEdited : Cond.instanceMethod M_MD_readEdited.1 ∈ GW := gwT4 17 rfl rfl
theorem se_MD_readEdited : Cond.selects M_MD_readEdited.1.cls M_MD_readEdited.1 M_MD_readEdited.1 ∈ GW := gwS (n := 27) (by decide +kernel) rfl
theorem mt_MD_digitPlace : xMt M_MD_digitPlace 2 := ⟨gwT4 22 rfl rfl, gwT1 5 rfl rfl, ⟨by decide, by decide, by decide +kernel⟩, by decide⟩
theorem im_MD_digitPlace : Cond.instanceMethod M_MD_digitPlace.1 ∈ GW := gwT4 21 rfl rfl
theorem se_MD_digitPlace : Cond.selects M_MD_digitPlace.1.cls M_MD_digitPlace.1 M_MD_digitPlace.1 ∈ GW := gwS (n := 27) (by decide +kernel) rfl
theorem mt_MD_symbolAt : xMt M_MD_symbolAt 2 := ⟨gwT4 26 rfl rfl, gwT1 5 rfl rfl, ⟨by decide, by decide, by decide +kernel⟩, by decide⟩
theorem im_MD_symbolAt : Cond.instanceMethod M_MD_symbolAt.1 ∈ GW := gwT4 25 rfl rfl
theorem se_MD_symbolAt : Cond.selects M_MD_symbolAt.1.cls M_MD_symbolAt.1 M_MD_symbolAt.1 ∈ GW := gwS (n := 27) (by decide +kernel) rfl
theorem mt_MD_shows : xMt M_MD_shows 2 := ⟨gwT4 31 rfl rfl, gwT1 5 rfl rfl, ⟨by decide, by decide, by decide +kernel⟩, by decide⟩
theorem im_MD_shows : Cond.instanceMethod M_MD_shows.1 ∈ GW := gwT4 30 rfl rfl
theorem se_MD_shows : Cond.selects M_MD_shows.1.cls M_MD_shows.1 M_MD_shows.1 ∈ GW := gwS (n := 27) (by decide +kernel) rfl
theorem mt_MD_show : xMt M_MD_show 2 := ⟨gwT4 35 rfl rfl, gwT1 5 rfl rfl, ⟨by decide, by decide, by decide +kernel⟩, by decide⟩
theorem im_MD_show : Cond.instanceMethod M_MD_show.1 ∈ GW := gwT4 34 rfl rfl
theorem se_MD_show : Cond.selects M_MD_show.1.cls M_MD_show.1 M_MD_show.1 ∈ GW := gwS (n := 27) (by decide +kernel) rfl
theorem mt_MD_digitOf : xMt M_MD_digitOf 3 := ⟨gwT4 39 rfl rfl, gwT1 5 rfl rfl, ⟨by decide, by decide, by decide +kernel⟩, by decide⟩
theorem im_MD_digitOf : Cond.instanceMethod M_MD_digitOf.1 ∈ GW := gwT4 38 rfl rfl
theorem se_MD_digitOf : Cond.selects M_MD_digitOf.1.cls M_MD_digitOf.1 M_MD_digitOf.1 ∈ GW := gwS (n := 27) (by decide +kernel) rfl
theorem mt_MD_power : xMt M_MD_power 1 := ⟨gwT4 42 rfl rfl, gwT1 5 rfl rfl, ⟨by decide, by decide, by decide +kernel⟩, by decide⟩
theorem st_MD_power : Cond.static M_MD_power.1 ∈ GW := gwT4 41 rfl rfl
theorem mt_MD_signOf : xMt M_MD_signOf 2 := ⟨gwT4 45 rfl rfl, gwT1 5 rfl rfl, ⟨by decide, by decide, by decide +kernel⟩, by decide⟩
theorem st_MD_signOf : Cond.static M_MD_signOf.1 ∈ GW := gwT4 44 rfl rfl
theorem mt_MD_readPacked : xMt M_MD_readPacked 2 := ⟨gwT4 49 rfl rfl, gwT1 5 rfl rfl, ⟨by decide, by decide, by decide +kernel⟩, by decide⟩
theorem im_MD_readPacked : Cond.instanceMethod M_MD_readPacked.1 ∈ GW := gwT4 48 rfl rfl
theorem se_MD_readPacked : Cond.selects M_MD_readPacked.1.cls M_MD_readPacked.1 M_MD_readPacked.1 ∈ GW := gwS (n := 27) (by decide +kernel) rfl
theorem mt_MD_half : xMt M_MD_half 2 := ⟨gwT4 53 rfl rfl, gwT1 5 rfl rfl, ⟨by decide, by decide, by decide +kernel⟩, by decide⟩
theorem im_MD_half : Cond.instanceMethod M_MD_half.1 ∈ GW := gwT4 52 rfl rfl
theorem se_MD_half : Cond.selects M_MD_half.1.cls M_MD_half.1 M_MD_half.1 ∈ GW := gwS (n := 27) (by decide +kernel) rfl
theorem mt_MD_readBinary : xMt M_MD_readBinary 2 := ⟨gwT4 57 rfl rfl, gwT1 5 rfl rfl, ⟨by decide, by decide, by decide +kernel⟩, by decide⟩
theorem im_MD_readBinary : Cond.instanceMethod M_MD_readBinary.1 ∈ GW := gwT4 56 rfl rfl
theorem se_MD_readBinary : Cond.selects M_MD_readBinary.1.cls M_MD_readBinary.1 M_MD_readBinary.1 ∈ GW := gwS (n := 27) (by decide +kernel) rfl
theorem mt_MD_readZoned : xMt M_MD_readZoned 2 := ⟨gwT4 63 rfl rfl, gwT1 5 rfl rfl, ⟨by decide, by decide, by decide +kernel⟩, by decide⟩
theorem im_MD_readZoned : Cond.instanceMethod M_MD_readZoned.1 ∈ GW := gwT4 62 rfl rfl
theorem se_MD_readZoned : Cond.selects M_MD_readZoned.1.cls M_MD_readZoned.1 M_MD_readZoned.1 ∈ GW := gwS (n := 27) (by decide +kernel) rfl
theorem mt_MD_put : xMt M_MD_put 3 := ⟨gwT4 67 rfl rfl, gwT1 5 rfl rfl, ⟨by decide, by decide, by decide +kernel⟩, by decide⟩
theorem im_MD_put : Cond.instanceMethod M_MD_put.1 ∈ GW := gwT4 65 rfl rfl
theorem se_MD_put : Cond.selects M_MD_put.1.cls M_MD_put.1 M_MD_put.1 ∈ GW := gwT4 66 rfl rfl
theorem mt_MD_transfer : xMt M_MD_transfer 3 := ⟨gwT4 71 rfl rfl, gwT1 5 rfl rfl, ⟨by decide, by decide, by decide +kernel⟩, by decide⟩
theorem im_MD_transfer : Cond.instanceMethod M_MD_transfer.1 ∈ GW := gwT4 70 rfl rfl
theorem se_MD_transfer : Cond.selects M_MD_transfer.1.cls M_MD_transfer.1 M_MD_transfer.1 ∈ GW := gwS (n := 27) (by decide +kernel) rfl
theorem mt_MD_store : xMt M_MD_store 2 := ⟨gwT4 75 rfl rfl, gwT1 5 rfl rfl, ⟨by decide, by decide, by decide +kernel⟩, by decide⟩
theorem im_MD_store : Cond.instanceMethod M_MD_store.1 ∈ GW := gwT4 74 rfl rfl
theorem se_MD_store : Cond.selects M_MD_store.1.cls M_MD_store.1 M_MD_store.1 ∈ GW := gwS (n := 27) (by decide +kernel) rfl
theorem mt_MD_move : xMt M_MD_move 2 := ⟨gwT4 80 rfl rfl, gwT1 5 rfl rfl, ⟨by decide, by decide, by decide +kernel⟩, by decide⟩
theorem im_MD_move : Cond.instanceMethod M_MD_move.1 ∈ GW := gwT4 78 rfl rfl
theorem se_MD_move : Cond.selects M_MD_move.1.cls M_MD_move.1 M_MD_move.1 ∈ GW := gwT4 79 rfl rfl
theorem mt_MD_isSound : xMt M_MD_isSound 1 := ⟨gwT4 84 rfl rfl, gwT1 5 rfl rfl, ⟨by decide, by decide, by decide +kernel⟩, by decide⟩
theorem im_MD_isSound : Cond.instanceMethod M_MD_isSound.1 ∈ GW := gwT4 83 rfl rfl
theorem se_MD_isSound : Cond.selects M_MD_isSound.1.cls M_MD_isSound.1 M_MD_isSound.1 ∈ GW := gwS (n := 27) (by decide +kernel) rfl
theorem mt_MD_badData : xMt M_MD_badData 0 := ⟨gwT4 88 rfl rfl, gwT1 5 rfl rfl, ⟨by decide, by decide, by decide +kernel⟩, by decide⟩
theorem im_MD_badData : Cond.instanceMethod M_MD_badData.1 ∈ GW := gwT4 87 rfl rfl
theorem se_MD_badData : Cond.selects M_MD_badData.1.cls M_MD_badData.1 M_MD_badData.1 ∈ GW := gwS (n := 27) (by decide +kernel) rfl
theorem mt_MD_compute : xMt M_MD_compute 5 := ⟨gwT4 92 rfl rfl, gwT1 5 rfl rfl, ⟨by decide, by decide, by decide +kernel⟩, by decide⟩
theorem im_MD_compute : Cond.instanceMethod M_MD_compute.1 ∈ GW := gwT4 90 rfl rfl
theorem se_MD_compute : Cond.selects M_MD_compute.1.cls M_MD_compute.1 M_MD_compute.1 ∈ GW := gwT4 91 rfl rfl
theorem mt_MD_isMode : xMt M_MD_isMode 1 := ⟨gwT4 95 rfl rfl, gwT1 5 rfl rfl, ⟨by decide, by decide, by decide +kernel⟩, by decide⟩
theorem st_MD_isMode : Cond.static M_MD_isMode.1 ∈ GW := gwT4 94 rfl rfl
theorem mt_MD_number : xMt M_MD_number 1 := ⟨gwT4 99 rfl rfl, gwT1 5 rfl rfl, ⟨by decide, by decide, by decide +kernel⟩, by decide⟩
theorem im_MD_number : Cond.instanceMethod M_MD_number.1 ∈ GW := gwT4 98 rfl rfl
theorem se_MD_number : Cond.selects M_MD_number.1.cls M_MD_number.1 M_MD_number.1 ∈ GW := gwS (n := 27) (by decide +kernel) rfl
theorem mt_MD_quotient : xMt M_MD_quotient 4 := ⟨gwT4 103 rfl rfl, gwT1 5 rfl rfl, ⟨by decide, by decide, by decide +kernel⟩, by decide⟩
theorem im_MD_quotient : Cond.instanceMethod M_MD_quotient.1 ∈ GW := gwT4 102 rfl rfl
theorem se_MD_quotient : Cond.selects M_MD_quotient.1.cls M_MD_quotient.1 M_MD_quotient.1 ∈ GW := gwS (n := 27) (by decide +kernel) rfl
theorem mt_MD_result : xMt M_MD_result 4 := ⟨gwT4 107 rfl rfl, gwT1 5 rfl rfl, ⟨by decide, by decide, by decide +kernel⟩, by decide⟩
theorem im_MD_result : Cond.instanceMethod M_MD_result.1 ∈ GW := gwT4 106 rfl rfl
theorem se_MD_result : Cond.selects M_MD_result.1.cls M_MD_result.1 M_MD_result.1 ∈ GW := gwS (n := 27) (by decide +kernel) rfl
theorem mt_MD_step : xMt M_MD_step 4 := ⟨gwT4 112 rfl rfl, gwT1 5 rfl rfl, ⟨by decide, by decide, by decide +kernel⟩, by decide⟩
theorem st_MD_step : Cond.static M_MD_step.1 ∈ GW := gwT4 111 rfl rfl
theorem mt_MD_divide : xMt M_MD_divide 5 := ⟨gwT4 117 rfl rfl, gwT1 5 rfl rfl, ⟨by decide, by decide, by decide +kernel⟩, by decide⟩
theorem im_MD_divide : Cond.instanceMethod M_MD_divide.1 ∈ GW := gwT4 115 rfl rfl
theorem se_MD_divide : Cond.selects M_MD_divide.1.cls M_MD_divide.1 M_MD_divide.1 ∈ GW := gwT4 116 rfl rfl
theorem mt_MD_addTo : xMt M_MD_addTo 4 := ⟨gwT4 121 rfl rfl, gwT1 5 rfl rfl, ⟨by decide, by decide, by decide +kernel⟩, by decide⟩
theorem im_MD_addTo : Cond.instanceMethod M_MD_addTo.1 ∈ GW := gwT4 119 rfl rfl
theorem se_MD_addTo : Cond.selects M_MD_addTo.1.cls M_MD_addTo.1 M_MD_addTo.1 ∈ GW := gwT4 120 rfl rfl
theorem mt_MD_range : xMt M_MD_range 2 := ⟨gwT4 125 rfl rfl, gwT1 5 rfl rfl, ⟨by decide, by decide, by decide +kernel⟩, by decide⟩
theorem im_MD_range : Cond.instanceMethod M_MD_range.1 ∈ GW := gwT4 124 rfl rfl
theorem se_MD_range : Cond.selects M_MD_range.1.cls M_MD_range.1 M_MD_range.1 ∈ GW := gwS (n := 27) (by decide +kernel) rfl
theorem mt_MD_hold : xMt M_MD_hold 2 := ⟨gwT4 129 rfl rfl, gwT1 5 rfl rfl, ⟨by decide, by decide, by decide +kernel⟩, by decide⟩
theorem im_MD_hold : Cond.instanceMethod M_MD_hold.1 ∈ GW := gwT4 128 rfl rfl
theorem se_MD_hold : Cond.selects M_MD_hold.1.cls M_MD_hold.1 M_MD_hold.1 ∈ GW := gwS (n := 27) (by decide +kernel) rfl
theorem mt_MD_total : xMt M_MD_total 4 := ⟨gwT4 133 rfl rfl, gwT1 5 rfl rfl, ⟨by decide, by decide, by decide +kernel⟩, by decide⟩
theorem im_MD_total : Cond.instanceMethod M_MD_total.1 ∈ GW := gwT4 131 rfl rfl
theorem se_MD_total : Cond.selects M_MD_total.1.cls M_MD_total.1 M_MD_total.1 ∈ GW := gwT4 132 rfl rfl
theorem mt_MD_sizeErrors : xMt M_MD_sizeErrors 0 := ⟨gwT4 138 rfl rfl, gwT1 5 rfl rfl, ⟨by decide, by decide, by decide +kernel⟩, by decide⟩
theorem im_MD_sizeErrors : Cond.instanceMethod M_MD_sizeErrors.1 ∈ GW := gwT4 136 rfl rfl
theorem se_MD_sizeErrors : Cond.selects M_MD_sizeErrors.1.cls M_MD_sizeErrors.1 M_MD_sizeErrors.1 ∈ GW := gwT4 137 rfl rfl
theorem mt_MD_dataErrors : xMt M_MD_dataErrors 0 := ⟨gwT4 142 rfl rfl, gwT1 5 rfl rfl, ⟨by decide, by decide, by decide +kernel⟩, by decide⟩
theorem im_MD_dataErrors : Cond.instanceMethod M_MD_dataErrors.1 ∈ GW := gwT4 140 rfl rfl
theorem se_MD_dataErrors : Cond.selects M_MD_dataErrors.1.cls M_MD_dataErrors.1 M_MD_dataErrors.1 ∈ GW := gwT4 141 rfl rfl
theorem lk_LW_9w : Cond.methodLink "PicturedRecordLaw" 9 ⟨"PicturedRecord", "<init>", "()V"⟩ ∈ GW := gwT1 18 rfl rfl
theorem lk_LW_9 : xLk "PicturedRecordLaw" 9 ⟨"PicturedRecord", "<init>", "()V"⟩ := Or.inl lk_LW_9w
theorem lk_PR_1w : Cond.methodLink "PicturedRecord" 1 ⟨"java/lang/Object", "<init>", "()V"⟩ ∈ GW := gwT1 21 rfl rfl
theorem lk_PR_1 : xLk "PicturedRecord" 1 ⟨"java/lang/Object", "<init>", "()V"⟩ := Or.inl lk_PR_1w
theorem lk_PR_15 : xLk "PicturedRecord" 15 ⟨"PicturedRecord$Picture", "<init>", "()V"⟩ := Or.inr ⟨"PicturedRecord", List.mem_of_getElem? (i := 0) rfl⟩
theorem lk_PC_3w : Cond.methodLink "PicturedRecord$Picture" 3 ⟨"java/lang/Object", "<init>", "()V"⟩ ∈ GW := gwT1 29 rfl rfl
theorem lk_PC_3 : xLk "PicturedRecord$Picture" 3 ⟨"java/lang/Object", "<init>", "()V"⟩ := Or.inl lk_PC_3w
theorem lk_PR_28 : xLk "PicturedRecord" 28 ⟨"PicturedRecord$Storage", "<init>", "()V"⟩ := Or.inr ⟨"PicturedRecord", List.mem_of_getElem? (i := 13) rfl⟩
theorem lk_SG_3w : Cond.methodLink "PicturedRecord$Storage" 3 ⟨"java/lang/Object", "<init>", "()V"⟩ ∈ GW := gwT1 81 rfl rfl
theorem lk_SG_3 : xLk "PicturedRecord$Storage" 3 ⟨"java/lang/Object", "<init>", "()V"⟩ := Or.inl lk_SG_3w
theorem lk_SG_17 : xLk "PicturedRecord$Storage" 17 ⟨"PicturedRecord$Editor", "<init>", "()V"⟩ := Or.inr ⟨"PicturedRecord", List.mem_of_getElem? (i := 14) rfl⟩
theorem lk_ED_3w : Cond.methodLink "PicturedRecord$Editor" 3 ⟨"java/lang/Object", "<init>", "()V"⟩ ∈ GW := gwT1 87 rfl rfl
theorem lk_ED_3 : xLk "PicturedRecord$Editor" 3 ⟨"java/lang/Object", "<init>", "()V"⟩ := Or.inl lk_ED_3w
theorem lk_LW_13w : Cond.methodLink "PicturedRecordLaw" 13 ⟨"PicturedRecord", "pic", "(C)Z"⟩ ∈ GW := gwT1 131 rfl rfl
theorem lk_LW_13 : xLk "PicturedRecordLaw" 13 ⟨"PicturedRecord", "pic", "(C)Z"⟩ := Or.inl lk_LW_13w
theorem lk_LW_18w : Cond.methodLink "PicturedRecordLaw" 18 ⟨"PicturedRecord", "scrap", "()V"⟩ ∈ GW := gwT1 135 rfl rfl
theorem lk_LW_18 : xLk "PicturedRecordLaw" 18 ⟨"PicturedRecord", "scrap", "()V"⟩ := Or.inl lk_LW_18w
theorem lk_LW_22w : Cond.methodLink "PicturedRecordLaw" 22 ⟨"PicturedRecord", "field", "(II)I"⟩ ∈ GW := gwT1 139 rfl rfl
theorem lk_LW_22 : xLk "PicturedRecordLaw" 22 ⟨"PicturedRecord", "field", "(II)I"⟩ := Or.inl lk_LW_22w
theorem lk_PR_41 : xLk "PicturedRecord" 41 ⟨"PicturedRecord$Picture", "readDraft", "([CI)Z"⟩ := Or.inr ⟨"PicturedRecord", List.mem_of_getElem? (i := 17) rfl⟩
theorem lk_PC_19w : Cond.methodLink "PicturedRecord$Picture" 19 ⟨"PicturedRecord$Picture", "writeOut", "([CI)Z"⟩ ∈ GW := gwT1 147 rfl rfl
theorem lk_PC_19 : xLk "PicturedRecord$Picture" 19 ⟨"PicturedRecord$Picture", "writeOut", "([CI)Z"⟩ := Or.inl lk_PC_19w
theorem lk_PC_44w : Cond.methodLink "PicturedRecord$Picture" 44 ⟨"PicturedRecord$Picture", "repetitionLength", "([CII)I"⟩ ∈ GW := gwT1 151 rfl rfl
theorem lk_PC_44 : xLk "PicturedRecord$Picture" 44 ⟨"PicturedRecord$Picture", "repetitionLength", "([CII)I"⟩ := Or.inl lk_PC_44w
theorem lk_PC_63w : Cond.methodLink "PicturedRecord$Picture" 63 ⟨"PicturedRecord$Picture", "isOneOf", "(Ljava/lang/String;C)Z"⟩ ∈ GW := gwT1 155 rfl rfl
theorem lk_PC_63 : xLk "PicturedRecord$Picture" 63 ⟨"PicturedRecord$Picture", "isOneOf", "(Ljava/lang/String;C)Z"⟩ := Or.inl lk_PC_63w
theorem lk_PC_108w : Cond.methodLink "PicturedRecord$Picture" 108 ⟨"java/lang/String", "indexOf", "(I)I"⟩ ∈ GW := gwT1 158 rfl rfl
theorem lk_PC_108 : xLk "PicturedRecord$Picture" 108 ⟨"java/lang/String", "indexOf", "(I)I"⟩ := Or.inl lk_PC_108w
theorem lk_ST_633w : Cond.methodLink "java/lang/String" 633 ⟨"java/lang/String", "indexOf", "(II)I"⟩ ∈ GW := gwT1 162 rfl rfl
theorem lk_ST_633 : xLk "java/lang/String" 633 ⟨"java/lang/String", "indexOf", "(II)I"⟩ := Or.inl lk_ST_633w
theorem lk_ST_492w : Cond.methodLink "java/lang/String" 492 ⟨"java/lang/String", "isLatin1", "()Z"⟩ ∈ GW := gwT1 166 rfl rfl
theorem lk_ST_492 : xLk "java/lang/String" 492 ⟨"java/lang/String", "isLatin1", "()Z"⟩ := Or.inl lk_ST_492w
theorem lk_ST_505w : Cond.methodLink "java/lang/String" 505 ⟨"java/lang/String", "length", "()I"⟩ ∈ GW := gwT1 172 rfl rfl
theorem lk_ST_505 : xLk "java/lang/String" 505 ⟨"java/lang/String", "length", "()I"⟩ := Or.inl lk_ST_505w
theorem lk_ST_335w : Cond.methodLink "java/lang/String" 335 ⟨"java/lang/String", "coder", "()B"⟩ ∈ GW := gwT1 176 rfl rfl
theorem lk_ST_335 : xLk "java/lang/String" 335 ⟨"java/lang/String", "coder", "()B"⟩ := Or.inl lk_ST_335w
theorem lk_ST_637w : Cond.methodLink "java/lang/String" 637 ⟨"java/lang/StringLatin1", "indexOf", "([BIII)I"⟩ ∈ GW := gwT1 180 rfl rfl
theorem lk_ST_637 : xLk "java/lang/String" 637 ⟨"java/lang/StringLatin1", "indexOf", "([BIII)I"⟩ := Or.inl lk_ST_637w
theorem lk_L1_88w : Cond.methodLink "java/lang/StringLatin1" 88 ⟨"java/lang/StringLatin1", "canEncode", "(I)Z"⟩ ∈ GW := gwT1 183 rfl rfl
theorem lk_L1_88 : xLk "java/lang/StringLatin1" 88 ⟨"java/lang/StringLatin1", "canEncode", "(I)Z"⟩ := Or.inl lk_L1_88w
theorem lk_L1_92w : Cond.methodLink "java/lang/StringLatin1" 92 ⟨"java/lang/Math", "max", "(II)I"⟩ ∈ GW := gwT1 186 rfl rfl
theorem lk_L1_92 : xLk "java/lang/StringLatin1" 92 ⟨"java/lang/Math", "max", "(II)I"⟩ := Or.inl lk_L1_92w
theorem lk_L1_38w : Cond.methodLink "java/lang/StringLatin1" 38 ⟨"java/lang/Math", "min", "(II)I"⟩ ∈ GW := gwT1 189 rfl rfl
theorem lk_L1_38 : xLk "java/lang/StringLatin1" 38 ⟨"java/lang/Math", "min", "(II)I"⟩ := Or.inl lk_L1_38w
theorem lk_L1_95w : Cond.methodLink "java/lang/StringLatin1" 95 ⟨"java/lang/StringLatin1", "indexOfChar", "([BIII)I"⟩ ∈ GW := gwT1 192 rfl rfl
theorem lk_L1_95 : xLk "java/lang/StringLatin1" 95 ⟨"java/lang/StringLatin1", "indexOfChar", "([BIII)I"⟩ := Or.inl lk_L1_95w
theorem lk_ST_640w : Cond.methodLink "java/lang/String" 640 ⟨"java/lang/StringUTF16", "indexOf", "([BIII)I"⟩ ∈ GW := gwT1 195 rfl rfl
theorem lk_ST_640 : xLk "java/lang/String" 640 ⟨"java/lang/StringUTF16", "indexOf", "([BIII)I"⟩ := Or.inl lk_ST_640w
theorem lk_ST_1062w : Cond.methodLink "java/lang/String" 1062 ⟨"jdk/internal/util/Preconditions", "checkFromToIndex", "(IIILjava/util/function/BiFunction;)I"⟩ ∈ GW := gwT1 215 rfl rfl
theorem lk_ST_1062 : xLk "java/lang/String" 1062 ⟨"jdk/internal/util/Preconditions", "checkFromToIndex", "(IIILjava/util/function/BiFunction;)I"⟩ := Or.inl lk_ST_1062w
theorem lk_PC_67w : Cond.methodLink "PicturedRecord$Picture" 67 ⟨"PicturedRecord$Picture", "isDigit", "(C)Z"⟩ ∈ GW := gwT2 4 rfl rfl
theorem lk_PC_67 : xLk "PicturedRecord$Picture" 67 ⟨"PicturedRecord$Picture", "isDigit", "(C)Z"⟩ := Or.inl lk_PC_67w
theorem lk_PC_48w : Cond.methodLink "PicturedRecord$Picture" 48 ⟨"PicturedRecord$Picture", "repetitions", "([CII)I"⟩ ∈ GW := gwT2 7 rfl rfl
theorem lk_PC_48 : xLk "PicturedRecord$Picture" 48 ⟨"PicturedRecord$Picture", "repetitions", "([CII)I"⟩ := Or.inl lk_PC_48w
theorem lk_PC_51w : Cond.methodLink "PicturedRecord$Picture" 51 ⟨"PicturedRecord$Picture", "append", "(CI)Z"⟩ ∈ GW := gwT2 10 rfl rfl
theorem lk_PC_51 : xLk "PicturedRecord$Picture" 51 ⟨"PicturedRecord$Picture", "append", "(CI)Z"⟩ := Or.inl lk_PC_51w
theorem lk_PC_55w : Cond.methodLink "PicturedRecord$Picture" 55 ⟨"java/lang/Math", "max", "(II)I"⟩ ∈ GW := gwT2 14 rfl rfl
theorem lk_PC_55 : xLk "PicturedRecord$Picture" 55 ⟨"java/lang/Math", "max", "(II)I"⟩ := Or.inl lk_PC_55w
theorem lk_PC_23w : Cond.methodLink "PicturedRecord$Picture" 23 ⟨"PicturedRecord$Picture", "readNumeric", "()Z"⟩ ∈ GW := gwT2 15 rfl rfl
theorem lk_PC_23 : xLk "PicturedRecord$Picture" 23 ⟨"PicturedRecord$Picture", "readNumeric", "()Z"⟩ := Or.inl lk_PC_23w
theorem lk_PC_74w : Cond.methodLink "PicturedRecord$Picture" 74 ⟨"PicturedRecord$Picture", "isWithinLimits", "()Z"⟩ ∈ GW := gwT2 19 rfl rfl
theorem lk_PC_74 : xLk "PicturedRecord$Picture" 74 ⟨"PicturedRecord$Picture", "isWithinLimits", "()Z"⟩ := Or.inl lk_PC_74w
theorem lk_PC_27w : Cond.methodLink "PicturedRecord$Picture" 27 ⟨"PicturedRecord$Picture", "readEdited", "()Z"⟩ ∈ GW := gwT2 23 rfl rfl
theorem lk_PC_27 : xLk "PicturedRecord$Picture" 27 ⟨"PicturedRecord$Picture", "readEdited", "()Z"⟩ := Or.inl lk_PC_27w
theorem lk_PC_77w : Cond.methodLink "PicturedRecord$Picture" 77 ⟨"PicturedRecord$Picture", "countOf", "(C)I"⟩ ∈ GW := gwT2 27 rfl rfl
theorem lk_PC_77 : xLk "PicturedRecord$Picture" 77 ⟨"PicturedRecord$Picture", "countOf", "(C)I"⟩ := Or.inl lk_PC_77w
theorem lk_PC_83w : Cond.methodLink "PicturedRecord$Picture" 83 ⟨"PicturedRecord$Picture", "endsWith", "(CC)Z"⟩ ∈ GW := gwT2 32 rfl rfl
theorem lk_PC_83 : xLk "PicturedRecord$Picture" 83 ⟨"PicturedRecord$Picture", "endsWith", "(CC)Z"⟩ := Or.inl lk_PC_83w
theorem lk_PC_93w : Cond.methodLink "PicturedRecord$Picture" 93 ⟨"PicturedRecord$Picture", "readBody", "()Z"⟩ ∈ GW := gwT2 36 rfl rfl
theorem lk_PC_93 : xLk "PicturedRecord$Picture" 93 ⟨"PicturedRecord$Picture", "readBody", "()Z"⟩ := Or.inl lk_PC_93w
theorem lk_PC_98w : Cond.methodLink "PicturedRecord$Picture" 98 ⟨"PicturedRecord$Picture", "isNextFiller", "(CI)Z"⟩ ∈ GW := gwT2 41 rfl rfl
theorem lk_PC_98 : xLk "PicturedRecord$Picture" 98 ⟨"PicturedRecord$Picture", "isNextFiller", "(CI)Z"⟩ := Or.inl lk_PC_98w
theorem lk_PR_45 : xLk "PicturedRecord" 45 ⟨"PicturedRecord$Picture", "goesWith", "(I)Z"⟩ := Or.inr ⟨"PicturedRecord", List.mem_of_getElem? (i := 18) rfl⟩
theorem lk_PR_49 : xLk "PicturedRecord" 49 ⟨"PicturedRecord$Picture", "lengthAs", "(I)I"⟩ := Or.inr ⟨"PicturedRecord", List.mem_of_getElem? (i := 19) rfl⟩
theorem lk_PR_56 : xLk "PicturedRecord" 56 ⟨"PicturedRecord$Field", "<init>", "(LPicturedRecord$Picture;III)V"⟩ := Or.inr ⟨"PicturedRecord", List.mem_of_getElem? (i := 20) rfl⟩
theorem lk_FD_3w : Cond.methodLink "PicturedRecord$Field" 3 ⟨"java/lang/Object", "<init>", "()V"⟩ ∈ GW := gwT2 59 rfl rfl
theorem lk_FD_3 : xLk "PicturedRecord$Field" 3 ⟨"java/lang/Object", "<init>", "()V"⟩ := Or.inl lk_FD_3w
theorem lk_LW_27w : Cond.methodLink "PicturedRecordLaw" 27 ⟨"PicturedRecord", "fields", "()I"⟩ ∈ GW := gwT2 93 rfl rfl
theorem lk_LW_27 : xLk "PicturedRecordLaw" 27 ⟨"PicturedRecord", "fields", "()I"⟩ := Or.inl lk_LW_27w
theorem lk_LW_32w : Cond.methodLink "PicturedRecordLaw" 32 ⟨"PicturedRecord", "size", "(I)I"⟩ ∈ GW := gwT2 97 rfl rfl
theorem lk_LW_32 : xLk "PicturedRecordLaw" 32 ⟨"PicturedRecord", "size", "(I)I"⟩ := Or.inl lk_LW_32w
theorem lk_PR_59w : Cond.methodLink "PicturedRecord" 59 ⟨"PicturedRecord", "fieldAt", "(I)LPicturedRecord$Field;"⟩ ∈ GW := gwT2 101 rfl rfl
theorem lk_PR_59 : xLk "PicturedRecord" 59 ⟨"PicturedRecord", "fieldAt", "(I)LPicturedRecord$Field;"⟩ := Or.inl lk_PR_59w
theorem lk_LW_37w : Cond.methodLink "PicturedRecordLaw" 37 ⟨"PicturedRecord", "shape", "(I)I"⟩ ∈ GW := gwT2 105 rfl rfl
theorem lk_LW_37 : xLk "PicturedRecordLaw" 37 ⟨"PicturedRecord", "shape", "(I)I"⟩ := Or.inl lk_LW_37w
theorem lk_PR_76 : xLk "PicturedRecord" 76 ⟨"PicturedRecord$Field", "isEdited", "()Z"⟩ := Or.inr ⟨"PicturedRecord", List.mem_of_getElem? (i := 31) rfl⟩
theorem lk_LW_41w : Cond.methodLink "PicturedRecordLaw" 41 ⟨"PicturedRecord", "peek", "(I)I"⟩ ∈ GW := gwT2 113 rfl rfl
theorem lk_LW_41 : xLk "PicturedRecordLaw" 41 ⟨"PicturedRecord", "peek", "(I)I"⟩ := Or.inl lk_LW_41w
theorem lk_PR_80w : Cond.methodLink "PicturedRecord" 80 ⟨"PicturedRecord", "isPlace", "(I)Z"⟩ ∈ GW := gwT2 117 rfl rfl
theorem lk_PR_80 : xLk "PicturedRecord" 80 ⟨"PicturedRecord", "isPlace", "(I)Z"⟩ := Or.inl lk_PR_80w
theorem lk_LW_45w : Cond.methodLink "PicturedRecordLaw" 45 ⟨"PicturedRecord", "poke", "(II)Z"⟩ ∈ GW := gwT2 120 rfl rfl
theorem lk_LW_45 : xLk "PicturedRecordLaw" 45 ⟨"PicturedRecord", "poke", "(II)Z"⟩ := Or.inl lk_LW_45w
theorem lk_LW_50w : Cond.methodLink "PicturedRecordLaw" 50 ⟨"PicturedRecord", "value", "(I)J"⟩ ∈ GW := gwT2 124 rfl rfl
theorem lk_LW_50 : xLk "PicturedRecordLaw" 50 ⟨"PicturedRecord", "value", "(I)J"⟩ := Or.inl lk_LW_50w
theorem lk_PR_89 : xLk "PicturedRecord" 89 ⟨"PicturedRecord$Storage", "unitsOf", "(LPicturedRecord$Field;)J"⟩ := Or.inr ⟨"PicturedRecord", List.mem_of_getElem? (i := 32) rfl⟩
theorem lk_SG_28w : Cond.methodLink "PicturedRecord$Storage" 28 ⟨"PicturedRecord$Storage", "packedUnits", "(LPicturedRecord$Field;)J"⟩ ∈ GW := gwT2 133 rfl rfl
theorem lk_SG_28 : xLk "PicturedRecord$Storage" 28 ⟨"PicturedRecord$Storage", "packedUnits", "(LPicturedRecord$Field;)J"⟩ := Or.inl lk_SG_28w
theorem lk_SG_92w : Cond.methodLink "PicturedRecord$Storage" 92 ⟨"PicturedRecord$Storage", "halfAt", "(II)I"⟩ ∈ GW := gwT2 137 rfl rfl
theorem lk_SG_92 : xLk "PicturedRecord$Storage" 92 ⟨"PicturedRecord$Storage", "halfAt", "(II)I"⟩ := Or.inl lk_SG_92w
theorem lk_SG_73w : Cond.methodLink "PicturedRecord$Storage" 73 ⟨"PicturedRecord$Storage", "isDigit", "(I)Z"⟩ ∈ GW := gwT2 141 rfl rfl
theorem lk_SG_73 : xLk "PicturedRecord$Storage" 73 ⟨"PicturedRecord$Storage", "isDigit", "(I)Z"⟩ := Or.inl lk_SG_73w
theorem lk_SG_96 : xLk "PicturedRecord$Storage" 96 ⟨"PicturedRecord$Decimal", "tenTo", "(I)J"⟩ := Or.inr ⟨"PicturedRecord", List.mem_of_getElem? (i := 33) rfl⟩
theorem lk_SG_85w : Cond.methodLink "PicturedRecord$Storage" 85 ⟨"PicturedRecord$Storage", "withSign", "(JZ)J"⟩ ∈ GW := gwT2 151 rfl rfl
theorem lk_SG_85 : xLk "PicturedRecord$Storage" 85 ⟨"PicturedRecord$Storage", "withSign", "(JZ)J"⟩ := Or.inl lk_SG_85w
theorem lk_SG_32w : Cond.methodLink "PicturedRecord$Storage" 32 ⟨"PicturedRecord$Storage", "separateUnits", "(LPicturedRecord$Field;)J"⟩ ∈ GW := gwT2 154 rfl rfl
theorem lk_SG_32 : xLk "PicturedRecord$Storage" 32 ⟨"PicturedRecord$Storage", "separateUnits", "(LPicturedRecord$Field;)J"⟩ := Or.inl lk_SG_32w
theorem lk_SG_77w : Cond.methodLink "PicturedRecord$Storage" 77 ⟨"PicturedRecord$Storage", "digitsAt", "(II)J"⟩ ∈ GW := gwT2 158 rfl rfl
theorem lk_SG_77 : xLk "PicturedRecord$Storage" 77 ⟨"PicturedRecord$Storage", "digitsAt", "(II)J"⟩ := Or.inl lk_SG_77w
theorem lk_SG_35w : Cond.methodLink "PicturedRecord$Storage" 35 ⟨"PicturedRecord$Storage", "binaryUnits", "(LPicturedRecord$Field;)J"⟩ ∈ GW := gwT2 162 rfl rfl
theorem lk_SG_35 : xLk "PicturedRecord$Storage" 35 ⟨"PicturedRecord$Storage", "binaryUnits", "(LPicturedRecord$Field;)J"⟩ := Or.inl lk_SG_35w
theorem lk_SG_48w : Cond.methodLink "PicturedRecord$Storage" 48 ⟨"java/lang/Math", "abs", "(J)J"⟩ ∈ GW := gwT2 167 rfl rfl
theorem lk_SG_48 : xLk "PicturedRecord$Storage" 48 ⟨"java/lang/Math", "abs", "(J)J"⟩ := Or.inl lk_SG_48w
theorem lk_SG_38w : Cond.methodLink "PicturedRecord$Storage" 38 ⟨"PicturedRecord$Storage", "editedUnits", "(LPicturedRecord$Field;)J"⟩ ∈ GW := gwT2 170 rfl rfl
theorem lk_SG_38 : xLk "PicturedRecord$Storage" 38 ⟨"PicturedRecord$Storage", "editedUnits", "(LPicturedRecord$Field;)J"⟩ := Or.inl lk_SG_38w
theorem lk_SG_120 : xLk "PicturedRecord$Storage" 120 ⟨"PicturedRecord$Picture", "isDigitPlace", "(I)Z"⟩ := Or.inr ⟨"PicturedRecord", List.mem_of_getElem? (i := 34) rfl⟩
theorem lk_SG_123 : xLk "PicturedRecord$Storage" 123 ⟨"PicturedRecord$Editor", "edit", "(LPicturedRecord$Picture;J)V"⟩ := Or.inr ⟨"PicturedRecord", List.mem_of_getElem? (i := 35) rfl⟩
theorem lk_ED_25w : Cond.methodLink "PicturedRecord$Editor" 25 ⟨"PicturedRecord$Editor", "signCharacter", "(CZ)I"⟩ ∈ GW := gwT2 182 rfl rfl
theorem lk_ED_25 : xLk "PicturedRecord$Editor" 25 ⟨"PicturedRecord$Editor", "signCharacter", "(CZ)I"⟩ := Or.inl lk_ED_25w
theorem lk_ED_29w : Cond.methodLink "PicturedRecord$Editor" 29 ⟨"java/lang/Math", "abs", "(J)J"⟩ ∈ GW := gwT2 185 rfl rfl
theorem lk_ED_29 : xLk "PicturedRecord$Editor" 29 ⟨"java/lang/Math", "abs", "(J)J"⟩ := Or.inl lk_ED_29w
theorem lk_ED_35w : Cond.methodLink "PicturedRecord$Editor" 35 ⟨"PicturedRecord$Editor", "writeBody", "(LPicturedRecord$Picture;J)V"⟩ ∈ GW := gwT2 186 rfl rfl
theorem lk_ED_35 : xLk "PicturedRecord$Editor" 35 ⟨"PicturedRecord$Editor", "writeBody", "(LPicturedRecord$Picture;J)V"⟩ := Or.inl lk_ED_35w
theorem lk_ED_53 : xLk "PicturedRecord$Editor" 53 ⟨"PicturedRecord$Picture", "isDigitPlace", "(I)Z"⟩ := Or.inr ⟨"PicturedRecord", List.mem_of_getElem? (i := 36) rfl⟩
theorem lk_ED_39w : Cond.methodLink "PicturedRecord$Editor" 39 ⟨"PicturedRecord$Editor", "firstShown", "(LPicturedRecord$Picture;)I"⟩ ∈ GW := gwT2 192 rfl rfl
theorem lk_ED_39 : xLk "PicturedRecord$Editor" 39 ⟨"PicturedRecord$Editor", "firstShown", "(LPicturedRecord$Picture;)I"⟩ := Or.inl lk_ED_39w
theorem lk_ED_43w : Cond.methodLink "PicturedRecord$Editor" 43 ⟨"PicturedRecord$Editor", "suppress", "(LPicturedRecord$Picture;IZ)V"⟩ ∈ GW := gwT2 196 rfl rfl
theorem lk_ED_43 : xLk "PicturedRecord$Editor" 43 ⟨"PicturedRecord$Editor", "suppress", "(LPicturedRecord$Picture;IZ)V"⟩ := Or.inl lk_ED_43w
theorem lk_SG_127w : Cond.methodLink "PicturedRecord$Storage" 127 ⟨"PicturedRecord$Storage", "holdsText", "(LPicturedRecord$Field;)Z"⟩ ∈ GW := gwT2 200 rfl rfl
theorem lk_SG_127 : xLk "PicturedRecord$Storage" 127 ⟨"PicturedRecord$Storage", "holdsText", "(LPicturedRecord$Field;)Z"⟩ := Or.inl lk_SG_127w
theorem lk_SG_41w : Cond.methodLink "PicturedRecord$Storage" 41 ⟨"PicturedRecord$Storage", "zonedUnits", "(LPicturedRecord$Field;)J"⟩ ∈ GW := gwT2 204 rfl rfl
theorem lk_SG_41 : xLk "PicturedRecord$Storage" 41 ⟨"PicturedRecord$Storage", "zonedUnits", "(LPicturedRecord$Field;)J"⟩ := Or.inl lk_SG_41w
theorem lk_LW_55w : Cond.methodLink "PicturedRecordLaw" 55 ⟨"PicturedRecord", "put", "(III)Z"⟩ ∈ GW := gwT2 208 rfl rfl
theorem lk_LW_55 : xLk "PicturedRecordLaw" 55 ⟨"PicturedRecord", "put", "(III)Z"⟩ := Or.inl lk_LW_55w
theorem lk_PR_93w : Cond.methodLink "PicturedRecord" 93 ⟨"PicturedRecord", "storeByMove", "(LPicturedRecord$Field;JI)V"⟩ ∈ GW := gwT2 212 rfl rfl
theorem lk_PR_93 : xLk "PicturedRecord" 93 ⟨"PicturedRecord", "storeByMove", "(LPicturedRecord$Field;JI)V"⟩ := Or.inl lk_PR_93w
theorem lk_PR_148 : xLk "PicturedRecord" 148 ⟨"PicturedRecord$Decimal", "tenTo", "(I)J"⟩ := Or.inr ⟨"PicturedRecord", List.mem_of_getElem? (i := 37) rfl⟩
theorem lk_PR_156 : xLk "PicturedRecord" 156 ⟨"PicturedRecord$Storage", "store", "(LPicturedRecord$Field;J)V"⟩ := Or.inr ⟨"PicturedRecord", List.mem_of_getElem? (i := 38) rfl⟩
theorem lk_SG_54w : Cond.methodLink "PicturedRecord$Storage" 54 ⟨"PicturedRecord$Storage", "storePacked", "(LPicturedRecord$Field;J)V"⟩ ∈ GW := gwT2 221 rfl rfl
theorem lk_SG_54 : xLk "PicturedRecord$Storage" 54 ⟨"PicturedRecord$Storage", "storePacked", "(LPicturedRecord$Field;J)V"⟩ := Or.inl lk_SG_54w
theorem lk_SG_58w : Cond.methodLink "PicturedRecord$Storage" 58 ⟨"PicturedRecord$Storage", "storeDigits", "(LPicturedRecord$Field;J)V"⟩ ∈ GW := gwT2 226 rfl rfl
theorem lk_SG_58 : xLk "PicturedRecord$Storage" 58 ⟨"PicturedRecord$Storage", "storeDigits", "(LPicturedRecord$Field;J)V"⟩ := Or.inl lk_SG_58w
theorem lk_SG_67w : Cond.methodLink "PicturedRecord$Storage" 67 ⟨"PicturedRecord$Storage", "storeBinary", "(LPicturedRecord$Field;J)V"⟩ ∈ GW := gwT2 230 rfl rfl
theorem lk_SG_67 : xLk "PicturedRecord$Storage" 67 ⟨"PicturedRecord$Storage", "storeBinary", "(LPicturedRecord$Field;J)V"⟩ := Or.inl lk_SG_67w
theorem lk_SG_70w : Cond.methodLink "PicturedRecord$Storage" 70 ⟨"PicturedRecord$Storage", "storeEdited", "(LPicturedRecord$Field;J)V"⟩ ∈ GW := gwT2 235 rfl rfl
theorem lk_SG_70 : xLk "PicturedRecord$Storage" 70 ⟨"PicturedRecord$Storage", "storeEdited", "(LPicturedRecord$Field;J)V"⟩ := Or.inl lk_SG_70w
theorem lk_SG_134w : Cond.methodLink "PicturedRecord$Storage" 134 ⟨"java/lang/System", "arraycopy", "(Ljava/lang/Object;ILjava/lang/Object;II)V"⟩ ∈ GW := gwT2 239 rfl rfl
theorem lk_SG_134 : xLk "PicturedRecord$Storage" 134 ⟨"java/lang/System", "arraycopy", "(Ljava/lang/Object;ILjava/lang/Object;II)V"⟩ := Or.inl lk_SG_134w
theorem lk_LW_60w : Cond.methodLink "PicturedRecordLaw" 60 ⟨"PicturedRecord", "move", "(II)I"⟩ ∈ GW := gwT3 2 rfl rfl
theorem lk_LW_60 : xLk "PicturedRecordLaw" 60 ⟨"PicturedRecord", "move", "(II)I"⟩ := Or.inl lk_LW_60w
theorem lk_PR_97w : Cond.methodLink "PicturedRecord" 97 ⟨"PicturedRecord", "dataError", "()I"⟩ ∈ GW := gwT3 6 rfl rfl
theorem lk_PR_97 : xLk "PicturedRecord" 97 ⟨"PicturedRecord", "dataError", "()I"⟩ := Or.inl lk_PR_97w
theorem lk_LW_64w : Cond.methodLink "PicturedRecordLaw" 64 ⟨"PicturedRecord", "compute", "(IIIII)I"⟩ ∈ GW := gwT3 10 rfl rfl
theorem lk_LW_64 : xLk "PicturedRecordLaw" 64 ⟨"PicturedRecord", "compute", "(IIIII)I"⟩ := Or.inl lk_LW_64w
theorem lk_PR_101w : Cond.methodLink "PicturedRecord" 101 ⟨"PicturedRecord", "isOperation", "(I)Z"⟩ ∈ GW := gwT3 14 rfl rfl
theorem lk_PR_101 : xLk "PicturedRecord" 101 ⟨"PicturedRecord", "isOperation", "(I)Z"⟩ := Or.inl lk_PR_101w
theorem lk_PR_104w : Cond.methodLink "PicturedRecord" 104 ⟨"PicturedRecord", "isMode", "(I)Z"⟩ ∈ GW := gwT3 17 rfl rfl
theorem lk_PR_104 : xLk "PicturedRecord" 104 ⟨"PicturedRecord", "isMode", "(I)Z"⟩ := Or.inl lk_PR_104w
theorem lk_PR_107w : Cond.methodLink "PicturedRecord" 107 ⟨"PicturedRecord", "isOperand", "(LPicturedRecord$Field;)Z"⟩ ∈ GW := gwT3 20 rfl rfl
theorem lk_PR_107 : xLk "PicturedRecord" 107 ⟨"PicturedRecord", "isOperand", "(LPicturedRecord$Field;)Z"⟩ := Or.inl lk_PR_107w
theorem lk_PR_111w : Cond.methodLink "PicturedRecord" 111 ⟨"PicturedRecord", "storeResult", "(LPicturedRecord$Field;JIJI)Z"⟩ ∈ GW := gwT3 23 rfl rfl
theorem lk_PR_111 : xLk "PicturedRecord" 111 ⟨"PicturedRecord", "storeResult", "(LPicturedRecord$Field;JIJI)Z"⟩ := Or.inl lk_PR_111w
theorem lk_PR_144 : xLk "PicturedRecord" 144 ⟨"PicturedRecord$Decimal", "result", "(JIJI)J"⟩ := Or.inr ⟨"PicturedRecord", List.mem_of_getElem? (i := 39) rfl⟩
theorem lk_DC_15w : Cond.methodLink "PicturedRecord$Decimal" 15 ⟨"PicturedRecord$Decimal", "tenTo", "(I)J"⟩ ∈ GW := gwT3 31 rfl rfl
theorem lk_DC_15 : xLk "PicturedRecord$Decimal" 15 ⟨"PicturedRecord$Decimal", "tenTo", "(I)J"⟩ := Or.inl lk_DC_15w
theorem lk_DC_21w : Cond.methodLink "PicturedRecord$Decimal" 21 ⟨"java/lang/Math", "abs", "(J)J"⟩ ∈ GW := gwT3 32 rfl rfl
theorem lk_DC_21 : xLk "PicturedRecord$Decimal" 21 ⟨"java/lang/Math", "abs", "(J)J"⟩ := Or.inl lk_DC_21w
theorem lk_DC_27w : Cond.methodLink "PicturedRecord$Decimal" 27 ⟨"PicturedRecord$Decimal", "rounded", "(JJI)J"⟩ ∈ GW := gwT3 33 rfl rfl
theorem lk_DC_27 : xLk "PicturedRecord$Decimal" 27 ⟨"PicturedRecord$Decimal", "rounded", "(JJI)J"⟩ := Or.inl lk_DC_27w
theorem lk_DC_33w : Cond.methodLink "PicturedRecord$Decimal" 33 ⟨"java/lang/Long", "compare", "(JJ)I"⟩ ∈ GW := gwT3 37 rfl rfl
theorem lk_DC_33 : xLk "PicturedRecord$Decimal" 33 ⟨"java/lang/Long", "compare", "(JJ)I"⟩ := Or.inl lk_DC_33w
theorem lk_DC_39w : Cond.methodLink "PicturedRecord$Decimal" 39 ⟨"PicturedRecord$Decimal", "goesAway", "(IZIZ)Z"⟩ ∈ GW := gwT3 40 rfl rfl
theorem lk_DC_39 : xLk "PicturedRecord$Decimal" 39 ⟨"PicturedRecord$Decimal", "goesAway", "(IZIZ)Z"⟩ := Or.inl lk_DC_39w
theorem lk_PR_152w : Cond.methodLink "PicturedRecord" 152 ⟨"java/lang/Math", "abs", "(J)J"⟩ ∈ GW := gwT3 43 rfl rfl
theorem lk_PR_152 : xLk "PicturedRecord" 152 ⟨"java/lang/Math", "abs", "(J)J"⟩ := Or.inl lk_PR_152w
theorem lk_PR_115 : xLk "PicturedRecord" 115 ⟨"PicturedRecord$Decimal", "atFullScale", "(JI)J"⟩ := Or.inr ⟨"PicturedRecord", List.mem_of_getElem? (i := 40) rfl⟩
theorem lk_LW_69w : Cond.methodLink "PicturedRecordLaw" 69 ⟨"PicturedRecord", "divide", "(IIIII)I"⟩ ∈ GW := gwT3 47 rfl rfl
theorem lk_LW_69 : xLk "PicturedRecordLaw" 69 ⟨"PicturedRecord", "divide", "(IIIII)I"⟩ := Or.inl lk_LW_69w
theorem lk_PR_121w : Cond.methodLink "PicturedRecord" 121 ⟨"java/lang/Math", "max", "(II)I"⟩ ∈ GW := gwT3 51 rfl rfl
theorem lk_PR_121 : xLk "PicturedRecord" 121 ⟨"java/lang/Math", "max", "(II)I"⟩ := Or.inl lk_PR_121w
theorem lk_PR_127w : Cond.methodLink "PicturedRecord" 127 ⟨"PicturedRecord", "remainderAt", "(IJIJI)J"⟩ ∈ GW := gwT3 52 rfl rfl
theorem lk_PR_127 : xLk "PicturedRecord" 127 ⟨"PicturedRecord", "remainderAt", "(IJIJI)J"⟩ := Or.inl lk_PR_127w
theorem lk_LW_73w : Cond.methodLink "PicturedRecordLaw" 73 ⟨"PicturedRecord", "addTo", "(IIII)I"⟩ ∈ GW := gwT3 55 rfl rfl
theorem lk_LW_73 : xLk "PicturedRecordLaw" 73 ⟨"PicturedRecord", "addTo", "(IIII)I"⟩ := Or.inl lk_LW_73w
theorem lk_PR_131w : Cond.methodLink "PicturedRecord" 131 ⟨"PicturedRecord", "isRange", "(II)Z"⟩ ∈ GW := gwT3 59 rfl rfl
theorem lk_PR_131 : xLk "PicturedRecord" 131 ⟨"PicturedRecord", "isRange", "(II)Z"⟩ := Or.inl lk_PR_131w
theorem lk_PR_135w : Cond.methodLink "PicturedRecord" 135 ⟨"PicturedRecord", "readRange", "(II)Z"⟩ ∈ GW := gwT3 63 rfl rfl
theorem lk_PR_135 : xLk "PicturedRecord" 135 ⟨"PicturedRecord", "readRange", "(II)Z"⟩ := Or.inl lk_PR_135w
theorem lk_LW_78w : Cond.methodLink "PicturedRecordLaw" 78 ⟨"PicturedRecord", "total", "(IIII)I"⟩ ∈ GW := gwT3 67 rfl rfl
theorem lk_LW_78 : xLk "PicturedRecordLaw" 78 ⟨"PicturedRecord", "total", "(IIII)I"⟩ := Or.inl lk_LW_78w
theorem lk_LW_82w : Cond.methodLink "PicturedRecordLaw" 82 ⟨"PicturedRecord", "sizeErrors", "()I"⟩ ∈ GW := gwT3 71 rfl rfl
theorem lk_LW_82 : xLk "PicturedRecordLaw" 82 ⟨"PicturedRecord", "sizeErrors", "()I"⟩ := Or.inl lk_LW_82w
theorem lk_LW_86w : Cond.methodLink "PicturedRecordLaw" 86 ⟨"PicturedRecord", "dataErrors", "()I"⟩ ∈ GW := gwT3 75 rfl rfl
theorem lk_LW_86 : xLk "PicturedRecordLaw" 86 ⟨"PicturedRecord", "dataErrors", "()I"⟩ := Or.inl lk_LW_86w
theorem lk_LW_12w : Cond.methodLink "PicturedRecordLaw" 12 ⟨"PicturedRecordModel", "<init>", "()V"⟩ ∈ GW := gwT3 81 rfl rfl
theorem lk_LW_12 : xLk "PicturedRecordLaw" 12 ⟨"PicturedRecordModel", "<init>", "()V"⟩ := Or.inl lk_LW_12w
theorem lk_MD_1w : Cond.methodLink "PicturedRecordModel" 1 ⟨"java/lang/Object", "<init>", "()V"⟩ ∈ GW := gwT3 84 rfl rfl
theorem lk_MD_1 : xLk "PicturedRecordModel" 1 ⟨"java/lang/Object", "<init>", "()V"⟩ := Or.inl lk_MD_1w
theorem lk_LW_17w : Cond.methodLink "PicturedRecordLaw" 17 ⟨"PicturedRecordModel", "pic", "(C)Z"⟩ ∈ GW := gwT3 168 rfl rfl
theorem lk_LW_17 : xLk "PicturedRecordLaw" 17 ⟨"PicturedRecordModel", "pic", "(C)Z"⟩ := Or.inl lk_LW_17w
theorem lk_LW_21w : Cond.methodLink "PicturedRecordLaw" 21 ⟨"PicturedRecordModel", "scrap", "()V"⟩ ∈ GW := gwT3 172 rfl rfl
theorem lk_LW_21 : xLk "PicturedRecordLaw" 21 ⟨"PicturedRecordModel", "scrap", "()V"⟩ := Or.inl lk_LW_21w
theorem lk_LW_26w : Cond.methodLink "PicturedRecordLaw" 26 ⟨"PicturedRecordModel", "field", "(II)I"⟩ ∈ GW := gwT3 176 rfl rfl
theorem lk_LW_26 : xLk "PicturedRecordLaw" 26 ⟨"PicturedRecordModel", "field", "(II)I"⟩ := Or.inl lk_LW_26w
theorem lk_MD_110w : Cond.methodLink "PicturedRecordModel" 110 ⟨"PicturedRecordModel", "writeOut", "()Z"⟩ ∈ GW := gwT3 180 rfl rfl
theorem lk_MD_110 : xLk "PicturedRecordModel" 110 ⟨"PicturedRecordModel", "writeOut", "()Z"⟩ := Or.inl lk_MD_110w
theorem lk_MD_74w : Cond.methodLink "PicturedRecordModel" 74 ⟨"PicturedRecordModel", "repeats", "(I)Z"⟩ ∈ GW := gwT3 184 rfl rfl
theorem lk_MD_74 : xLk "PicturedRecordModel" 74 ⟨"PicturedRecordModel", "repeats", "(I)Z"⟩ := Or.inl lk_MD_74w
theorem lk_MD_65w : Cond.methodLink "PicturedRecordModel" 65 ⟨"PicturedRecordModel", "floating", "(I)Z"⟩ ∈ GW := gwT3 187 rfl rfl
theorem lk_MD_65 : xLk "PicturedRecordModel" 65 ⟨"PicturedRecordModel", "floating", "(I)Z"⟩ := Or.inl lk_MD_65w
theorem lk_MD_61w : Cond.methodLink "PicturedRecordModel" 61 ⟨"PicturedRecordModel", "plusMinus", "(I)Z"⟩ ∈ GW := gwT3 190 rfl rfl
theorem lk_MD_61 : xLk "PicturedRecordModel" 61 ⟨"PicturedRecordModel", "plusMinus", "(I)Z"⟩ := Or.inl lk_MD_61w
theorem lk_MD_68w : Cond.methodLink "PicturedRecordModel" 68 ⟨"PicturedRecordModel", "insertion", "(I)Z"⟩ ∈ GW := gwT3 193 rfl rfl
theorem lk_MD_68 : xLk "PicturedRecordModel" 68 ⟨"PicturedRecordModel", "insertion", "(I)Z"⟩ := Or.inl lk_MD_68w
theorem lk_MD_77w : Cond.methodLink "PicturedRecordModel" 77 ⟨"PicturedRecordModel", "drawn", "(I)I"⟩ ∈ GW := gwT3 196 rfl rfl
theorem lk_MD_77 : xLk "PicturedRecordModel" 77 ⟨"PicturedRecordModel", "drawn", "(I)I"⟩ := Or.inl lk_MD_77w
theorem lk_MD_81w : Cond.methodLink "PicturedRecordModel" 81 ⟨"PicturedRecordModel", "figure", "(I)Z"⟩ ∈ GW := gwT3 200 rfl rfl
theorem lk_MD_81 : xLk "PicturedRecordModel" 81 ⟨"PicturedRecordModel", "figure", "(I)Z"⟩ := Or.inl lk_MD_81w
theorem lk_MD_114w : Cond.methodLink "PicturedRecordModel" 114 ⟨"PicturedRecordModel", "numeric", "()Z"⟩ ∈ GW := gwT3 203 rfl rfl
theorem lk_MD_114 : xLk "PicturedRecordModel" 114 ⟨"PicturedRecordModel", "numeric", "()Z"⟩ := Or.inl lk_MD_114w
theorem lk_MD_117w : Cond.methodLink "PicturedRecordModel" 117 ⟨"PicturedRecordModel", "editing", "()Z"⟩ ∈ GW := gwT3 207 rfl rfl
theorem lk_MD_117 : xLk "PicturedRecordModel" 117 ⟨"PicturedRecordModel", "editing", "()Z"⟩ := Or.inl lk_MD_117w
theorem lk_MD_107w : Cond.methodLink "PicturedRecordModel" 107 ⟨"PicturedRecordModel", "ends", "()V"⟩ ∈ GW := gwT3 211 rfl rfl
theorem lk_MD_107 : xLk "PicturedRecordModel" 107 ⟨"PicturedRecordModel", "ends", "()V"⟩ := Or.inl lk_MD_107w
theorem lk_MD_103w : Cond.methodLink "PicturedRecordModel" 103 ⟨"PicturedRecordModel", "howMany", "(II)I"⟩ ∈ GW := gwT3 215 rfl rfl
theorem lk_MD_103 : xLk "PicturedRecordModel" 103 ⟨"PicturedRecordModel", "howMany", "(II)I"⟩ := Or.inl lk_MD_103w
theorem lk_MD_120w : Cond.methodLink "PicturedRecordModel" 120 ⟨"PicturedRecordModel", "widthOf", "(II)I"⟩ ∈ GW := gwT3 219 rfl rfl
theorem lk_MD_120 : xLk "PicturedRecordModel" 120 ⟨"PicturedRecordModel", "widthOf", "(II)I"⟩ := Or.inl lk_MD_120w
theorem lk_LW_31w : Cond.methodLink "PicturedRecordLaw" 31 ⟨"PicturedRecordModel", "fields", "()I"⟩ ∈ GW := gwT3 222 rfl rfl
theorem lk_LW_31 : xLk "PicturedRecordLaw" 31 ⟨"PicturedRecordModel", "fields", "()I"⟩ := Or.inl lk_LW_31w
theorem lk_LW_36w : Cond.methodLink "PicturedRecordLaw" 36 ⟨"PicturedRecordModel", "size", "(I)I"⟩ ∈ GW := gwT3 226 rfl rfl
theorem lk_LW_36 : xLk "PicturedRecordLaw" 36 ⟨"PicturedRecordModel", "size", "(I)I"⟩ := Or.inl lk_LW_36w
theorem lk_MD_126w : Cond.methodLink "PicturedRecordModel" 126 ⟨"PicturedRecordModel", "there", "(I)Z"⟩ ∈ GW := gwT3 230 rfl rfl
theorem lk_MD_126 : xLk "PicturedRecordModel" 126 ⟨"PicturedRecordModel", "there", "(I)Z"⟩ := Or.inl lk_MD_126w
theorem lk_LW_40w : Cond.methodLink "PicturedRecordLaw" 40 ⟨"PicturedRecordModel", "shape", "(I)I"⟩ ∈ GW := gwT3 234 rfl rfl
theorem lk_LW_40 : xLk "PicturedRecordLaw" 40 ⟨"PicturedRecordModel", "shape", "(I)I"⟩ := Or.inl lk_LW_40w
theorem lk_LW_44w : Cond.methodLink "PicturedRecordLaw" 44 ⟨"PicturedRecordModel", "peek", "(I)I"⟩ ∈ GW := gwT3 238 rfl rfl
theorem lk_LW_44 : xLk "PicturedRecordLaw" 44 ⟨"PicturedRecordModel", "peek", "(I)I"⟩ := Or.inl lk_LW_44w
theorem lk_LW_49w : Cond.methodLink "PicturedRecordLaw" 49 ⟨"PicturedRecordModel", "poke", "(II)Z"⟩ ∈ GW := gwT4 2 rfl rfl
theorem lk_LW_49 : xLk "PicturedRecordLaw" 49 ⟨"PicturedRecordModel", "poke", "(II)Z"⟩ := Or.inl lk_LW_49w
theorem lk_LW_54w : Cond.methodLink "PicturedRecordLaw" 54 ⟨"PicturedRecordModel", "value", "(I)J"⟩ ∈ GW := gwT4 6 rfl rfl
theorem lk_LW_54 : xLk "PicturedRecordLaw" 54 ⟨"PicturedRecordModel", "value", "(I)J"⟩ := Or.inl lk_LW_54w
theorem lk_MD_181w : Cond.methodLink "PicturedRecordModel" 181 ⟨"PicturedRecordModel", "units", "(I)J"⟩ ∈ GW := gwT4 11 rfl rfl
theorem lk_MD_181 : xLk "PicturedRecordModel" 181 ⟨"PicturedRecordModel", "units", "(I)J"⟩ := Or.inl lk_MD_181w
theorem lk_MD_168w : Cond.methodLink "PicturedRecordModel" 168 ⟨"PicturedRecordModel", "readEdited", "(I)J"⟩ ∈ GW := gwT4 15 rfl rfl
theorem lk_MD_168 : xLk "PicturedRecordModel" 168 ⟨"PicturedRecordModel", "readEdited", "(I)J"⟩ := Or.inl lk_MD_168w
theorem lk_MD_134w : Cond.methodLink "PicturedRecordModel" 134 ⟨"PicturedRecordModel", "digitPlace", "(II)Z"⟩ ∈ GW := gwT4 19 rfl rfl
theorem lk_MD_134 : xLk "PicturedRecordModel" 134 ⟨"PicturedRecordModel", "digitPlace", "(II)Z"⟩ := Or.inl lk_MD_134w
theorem lk_MD_131w : Cond.methodLink "PicturedRecordModel" 131 ⟨"PicturedRecordModel", "symbolAt", "(II)I"⟩ ∈ GW := gwT4 23 rfl rfl
theorem lk_MD_131 : xLk "PicturedRecordModel" 131 ⟨"PicturedRecordModel", "symbolAt", "(II)I"⟩ := Or.inl lk_MD_131w
theorem lk_MD_154w : Cond.methodLink "PicturedRecordModel" 154 ⟨"PicturedRecordModel", "shows", "(IJ)Z"⟩ ∈ GW := gwT4 28 rfl rfl
theorem lk_MD_154 : xLk "PicturedRecordModel" 154 ⟨"PicturedRecordModel", "shows", "(IJ)Z"⟩ := Or.inl lk_MD_154w
theorem lk_MD_150w : Cond.methodLink "PicturedRecordModel" 150 ⟨"PicturedRecordModel", "show", "(IJ)V"⟩ ∈ GW := gwT4 32 rfl rfl
theorem lk_MD_150 : xLk "PicturedRecordModel" 150 ⟨"PicturedRecordModel", "show", "(IJ)V"⟩ := Or.inl lk_MD_150w
theorem lk_MD_142w : Cond.methodLink "PicturedRecordModel" 142 ⟨"PicturedRecordModel", "digitOf", "(IIJ)I"⟩ ∈ GW := gwT4 36 rfl rfl
theorem lk_MD_142 : xLk "PicturedRecordModel" 142 ⟨"PicturedRecordModel", "digitOf", "(IIJ)I"⟩ := Or.inl lk_MD_142w
theorem lk_MD_138w : Cond.methodLink "PicturedRecordModel" 138 ⟨"PicturedRecordModel", "power", "(I)J"⟩ ∈ GW := gwT4 40 rfl rfl
theorem lk_MD_138 : xLk "PicturedRecordModel" 138 ⟨"PicturedRecordModel", "power", "(I)J"⟩ := Or.inl lk_MD_138w
theorem lk_MD_146w : Cond.methodLink "PicturedRecordModel" 146 ⟨"PicturedRecordModel", "signOf", "(IZ)I"⟩ ∈ GW := gwT4 43 rfl rfl
theorem lk_MD_146 : xLk "PicturedRecordModel" 146 ⟨"PicturedRecordModel", "signOf", "(IZ)I"⟩ := Or.inl lk_MD_146w
theorem lk_MD_171w : Cond.methodLink "PicturedRecordModel" 171 ⟨"PicturedRecordModel", "readPacked", "(II)J"⟩ ∈ GW := gwT4 46 rfl rfl
theorem lk_MD_171 : xLk "PicturedRecordModel" 171 ⟨"PicturedRecordModel", "readPacked", "(II)J"⟩ := Or.inl lk_MD_171w
theorem lk_MD_161w : Cond.methodLink "PicturedRecordModel" 161 ⟨"PicturedRecordModel", "half", "(II)I"⟩ ∈ GW := gwT4 50 rfl rfl
theorem lk_MD_161 : xLk "PicturedRecordModel" 161 ⟨"PicturedRecordModel", "half", "(II)I"⟩ := Or.inl lk_MD_161w
theorem lk_MD_175w : Cond.methodLink "PicturedRecordModel" 175 ⟨"PicturedRecordModel", "readBinary", "(II)J"⟩ ∈ GW := gwT4 54 rfl rfl
theorem lk_MD_175 : xLk "PicturedRecordModel" 175 ⟨"PicturedRecordModel", "readBinary", "(II)J"⟩ := Or.inl lk_MD_175w
theorem lk_MD_178w : Cond.methodLink "PicturedRecordModel" 178 ⟨"PicturedRecordModel", "readZoned", "(II)J"⟩ ∈ GW := gwT4 60 rfl rfl
theorem lk_MD_178 : xLk "PicturedRecordModel" 178 ⟨"PicturedRecordModel", "readZoned", "(II)J"⟩ := Or.inl lk_MD_178w
theorem lk_LW_59w : Cond.methodLink "PicturedRecordLaw" 59 ⟨"PicturedRecordModel", "put", "(III)Z"⟩ ∈ GW := gwT4 64 rfl rfl
theorem lk_LW_59 : xLk "PicturedRecordLaw" 59 ⟨"PicturedRecordModel", "put", "(III)Z"⟩ := Or.inl lk_LW_59w
theorem lk_MD_204w : Cond.methodLink "PicturedRecordModel" 204 ⟨"PicturedRecordModel", "transfer", "(JJI)V"⟩ ∈ GW := gwT4 68 rfl rfl
theorem lk_MD_204 : xLk "PicturedRecordModel" 204 ⟨"PicturedRecordModel", "transfer", "(JJI)V"⟩ := Or.inl lk_MD_204w
theorem lk_MD_198w : Cond.methodLink "PicturedRecordModel" 198 ⟨"PicturedRecordModel", "store", "(IJ)V"⟩ ∈ GW := gwT4 72 rfl rfl
theorem lk_MD_198 : xLk "PicturedRecordModel" 198 ⟨"PicturedRecordModel", "store", "(IJ)V"⟩ := Or.inl lk_MD_198w
theorem lk_LW_63w : Cond.methodLink "PicturedRecordLaw" 63 ⟨"PicturedRecordModel", "move", "(II)I"⟩ ∈ GW := gwT4 77 rfl rfl
theorem lk_LW_63 : xLk "PicturedRecordLaw" 63 ⟨"PicturedRecordModel", "move", "(II)I"⟩ := Or.inl lk_LW_63w
theorem lk_MD_211w : Cond.methodLink "PicturedRecordModel" 211 ⟨"PicturedRecordModel", "isSound", "(I)Z"⟩ ∈ GW := gwT4 81 rfl rfl
theorem lk_MD_211 : xLk "PicturedRecordModel" 211 ⟨"PicturedRecordModel", "isSound", "(I)Z"⟩ := Or.inl lk_MD_211w
theorem lk_MD_214w : Cond.methodLink "PicturedRecordModel" 214 ⟨"PicturedRecordModel", "badData", "()I"⟩ ∈ GW := gwT4 85 rfl rfl
theorem lk_MD_214 : xLk "PicturedRecordModel" 214 ⟨"PicturedRecordModel", "badData", "()I"⟩ := Or.inl lk_MD_214w
theorem lk_LW_68w : Cond.methodLink "PicturedRecordLaw" 68 ⟨"PicturedRecordModel", "compute", "(IIIII)I"⟩ ∈ GW := gwT4 89 rfl rfl
theorem lk_LW_68 : xLk "PicturedRecordLaw" 68 ⟨"PicturedRecordModel", "compute", "(IIIII)I"⟩ := Or.inl lk_LW_68w
theorem lk_MD_218w : Cond.methodLink "PicturedRecordModel" 218 ⟨"PicturedRecordModel", "isMode", "(I)Z"⟩ ∈ GW := gwT4 93 rfl rfl
theorem lk_MD_218 : xLk "PicturedRecordModel" 218 ⟨"PicturedRecordModel", "isMode", "(I)Z"⟩ := Or.inl lk_MD_218w
theorem lk_MD_221w : Cond.methodLink "PicturedRecordModel" 221 ⟨"PicturedRecordModel", "number", "(I)Z"⟩ ∈ GW := gwT4 96 rfl rfl
theorem lk_MD_221 : xLk "PicturedRecordModel" 221 ⟨"PicturedRecordModel", "number", "(I)Z"⟩ := Or.inl lk_MD_221w
theorem lk_MD_224w : Cond.methodLink "PicturedRecordModel" 224 ⟨"PicturedRecordModel", "quotient", "(IIII)Z"⟩ ∈ GW := gwT4 100 rfl rfl
theorem lk_MD_224 : xLk "PicturedRecordModel" 224 ⟨"PicturedRecordModel", "quotient", "(IIII)Z"⟩ := Or.inl lk_MD_224w
theorem lk_MD_228w : Cond.methodLink "PicturedRecordModel" 228 ⟨"PicturedRecordModel", "result", "(JJII)Z"⟩ ∈ GW := gwT4 104 rfl rfl
theorem lk_MD_228 : xLk "PicturedRecordModel" 228 ⟨"PicturedRecordModel", "result", "(JJII)Z"⟩ := Or.inl lk_MD_228w
theorem lk_MD_194w : Cond.methodLink "PicturedRecordModel" 194 ⟨"PicturedRecordModel", "step", "(JJJI)I"⟩ ∈ GW := gwT4 110 rfl rfl
theorem lk_MD_194 : xLk "PicturedRecordModel" 194 ⟨"PicturedRecordModel", "step", "(JJJI)I"⟩ := Or.inl lk_MD_194w
theorem lk_LW_72w : Cond.methodLink "PicturedRecordLaw" 72 ⟨"PicturedRecordModel", "divide", "(IIIII)I"⟩ ∈ GW := gwT4 114 rfl rfl
theorem lk_LW_72 : xLk "PicturedRecordLaw" 72 ⟨"PicturedRecordModel", "divide", "(IIIII)I"⟩ := Or.inl lk_LW_72w
theorem lk_LW_77w : Cond.methodLink "PicturedRecordLaw" 77 ⟨"PicturedRecordModel", "addTo", "(IIII)I"⟩ ∈ GW := gwT4 118 rfl rfl
theorem lk_LW_77 : xLk "PicturedRecordLaw" 77 ⟨"PicturedRecordModel", "addTo", "(IIII)I"⟩ := Or.inl lk_LW_77w
theorem lk_MD_232w : Cond.methodLink "PicturedRecordModel" 232 ⟨"PicturedRecordModel", "range", "(II)Z"⟩ ∈ GW := gwT4 122 rfl rfl
theorem lk_MD_232 : xLk "PicturedRecordModel" 232 ⟨"PicturedRecordModel", "range", "(II)Z"⟩ := Or.inl lk_MD_232w
theorem lk_MD_235w : Cond.methodLink "PicturedRecordModel" 235 ⟨"PicturedRecordModel", "hold", "(II)Z"⟩ ∈ GW := gwT4 126 rfl rfl
theorem lk_MD_235 : xLk "PicturedRecordModel" 235 ⟨"PicturedRecordModel", "hold", "(II)Z"⟩ := Or.inl lk_MD_235w
theorem lk_LW_81w : Cond.methodLink "PicturedRecordLaw" 81 ⟨"PicturedRecordModel", "total", "(IIII)I"⟩ ∈ GW := gwT4 130 rfl rfl
theorem lk_LW_81 : xLk "PicturedRecordLaw" 81 ⟨"PicturedRecordModel", "total", "(IIII)I"⟩ := Or.inl lk_LW_81w
theorem lk_LW_85w : Cond.methodLink "PicturedRecordLaw" 85 ⟨"PicturedRecordModel", "sizeErrors", "()I"⟩ ∈ GW := gwT4 135 rfl rfl
theorem lk_LW_85 : xLk "PicturedRecordLaw" 85 ⟨"PicturedRecordModel", "sizeErrors", "()I"⟩ := Or.inl lk_LW_85w
theorem lk_LW_89w : Cond.methodLink "PicturedRecordLaw" 89 ⟨"PicturedRecordModel", "dataErrors", "()I"⟩ ∈ GW := gwT4 139 rfl rfl
theorem lk_LW_89 : xLk "PicturedRecordLaw" 89 ⟨"PicturedRecordModel", "dataErrors", "()I"⟩ := Or.inl lk_LW_89w
theorem gf_PR_9 : xGet "PicturedRecord" 9 4 0 := ⟨_, _, _, rfl, by decide, cw_PR, Or.inl (gwT1 102 rfl rfl)⟩
theorem gf_PR_16 : xGet "PicturedRecord" 16 4 2 := ⟨_, _, _, rfl, by decide, cw_PR, Or.inl (gwT1 104 rfl rfl)⟩
theorem gf_PR_22 : xGet "PicturedRecord" 22 4 3 := ⟨_, _, _, rfl, by decide, cw_PR, Or.inl (gwT1 105 rfl rfl)⟩
theorem gf_PR_29 : xGet "PicturedRecord" 29 4 5 := ⟨_, _, _, rfl, by decide, cw_PR, Or.inl (gwT1 107 rfl rfl)⟩
theorem gf_PR_33 : xGet "PicturedRecord" 33 4 6 := ⟨_, _, _, rfl, by decide, cw_PR, Or.inl (gwT1 108 rfl rfl)⟩
theorem gf_PR_37 : xGet "PicturedRecord" 37 4 1 := ⟨_, _, _, rfl, by decide, cw_PR, Or.inl (gwT1 103 rfl rfl)⟩
theorem gf_PR_53 : xGet "PicturedRecord" 53 4 4 := ⟨_, _, _, rfl, by decide, cw_PR, Or.inl (gwT1 106 rfl rfl)⟩
theorem gf_PR_63 : xGet "PicturedRecord" 63 1 3 := ⟨_, _, _, rfl, by decide, cw_FD, Or.inr ⟨"PicturedRecord", List.mem_of_getElem? (i := 24) rfl⟩⟩
theorem gf_PR_66 : xGet "PicturedRecord" 66 1 4 := ⟨_, _, _, rfl, by decide, cw_FD, Or.inr ⟨"PicturedRecord", List.mem_of_getElem? (i := 27) rfl⟩⟩
theorem gf_PR_69 : xGet "PicturedRecord" 69 1 5 := ⟨_, _, _, rfl, by decide, cw_FD, Or.inr ⟨"PicturedRecord", List.mem_of_getElem? (i := 28) rfl⟩⟩
theorem gf_PR_72 : xGet "PicturedRecord" 72 1 6 := ⟨_, _, _, rfl, by decide, cw_FD, Or.inr ⟨"PicturedRecord", List.mem_of_getElem? (i := 30) rfl⟩⟩
theorem gf_PR_83 : xGet "PicturedRecord" 83 3 0 := ⟨_, _, _, rfl, by decide, cw_SG, Or.inr ⟨"PicturedRecord", List.mem_of_getElem? (i := 16) rfl⟩⟩
theorem gf_PR_138 : xGet "PicturedRecord" 138 4 7 := ⟨_, _, _, rfl, by decide, cw_PR, Or.inl (gwT1 109 rfl rfl)⟩
theorem gf_PR_141 : xGet "PicturedRecord" 141 4 8 := ⟨_, _, _, rfl, by decide, cw_PR, Or.inl (gwT1 110 rfl rfl)⟩
theorem gf_ED_9 : xGet "PicturedRecord$Editor" 9 0 0 := ⟨_, _, _, rfl, by decide, cw_ED, Or.inl (gwT1 88 rfl rfl)⟩
theorem gf_ED_15 : xGet "PicturedRecord$Editor" 15 2 6 := ⟨_, _, _, rfl, by decide, cw_PC, Or.inr ⟨"PicturedRecord", List.mem_of_getElem? (i := 7) rfl⟩⟩
theorem gf_ED_21 : xGet "PicturedRecord$Editor" 21 2 0 := ⟨_, _, _, rfl, by decide, cw_PC, Or.inr ⟨"PicturedRecord", List.mem_of_getElem? (i := 1) rfl⟩⟩
theorem gf_ED_47 : xGet "PicturedRecord$Editor" 47 2 7 := ⟨_, _, _, rfl, by decide, cw_PC, Or.inr ⟨"PicturedRecord", List.mem_of_getElem? (i := 9) rfl⟩⟩
theorem gf_ED_50 : xGet "PicturedRecord$Editor" 50 2 1 := ⟨_, _, _, rfl, by decide, cw_PC, Or.inr ⟨"PicturedRecord", List.mem_of_getElem? (i := 2) rfl⟩⟩
theorem gf_ED_59 : xGet "PicturedRecord$Editor" 59 2 8 := ⟨_, _, _, rfl, by decide, cw_PC, Or.inr ⟨"PicturedRecord", List.mem_of_getElem? (i := 11) rfl⟩⟩
theorem gf_ED_63 : xGet "PicturedRecord$Editor" 63 2 9 := ⟨_, _, _, rfl, by decide, cw_PC, Or.inr ⟨"PicturedRecord", List.mem_of_getElem? (i := 12) rfl⟩⟩
theorem gf_FD_15 : xGet "PicturedRecord$Field" 15 2 5 := ⟨_, _, _, rfl, by decide, cw_PC, Or.inr ⟨"PicturedRecord", List.mem_of_getElem? (i := 6) rfl⟩⟩
theorem gf_FD_21 : xGet "PicturedRecord$Field" 21 1 1 := ⟨_, _, _, rfl, by decide, cw_FD, Or.inl (gwT2 62 rfl rfl)⟩
theorem gf_FD_31 : xGet "PicturedRecord$Field" 31 2 2 := ⟨_, _, _, rfl, by decide, cw_PC, Or.inr ⟨"PicturedRecord", List.mem_of_getElem? (i := 3) rfl⟩⟩
theorem gf_FD_35 : xGet "PicturedRecord$Field" 35 2 3 := ⟨_, _, _, rfl, by decide, cw_PC, Or.inr ⟨"PicturedRecord", List.mem_of_getElem? (i := 4) rfl⟩⟩
theorem gf_FD_39 : xGet "PicturedRecord$Field" 39 2 4 := ⟨_, _, _, rfl, by decide, cw_PC, Or.inr ⟨"PicturedRecord", List.mem_of_getElem? (i := 5) rfl⟩⟩
theorem gf_PC_9 : xGet "PicturedRecord$Picture" 9 2 0 := ⟨_, _, _, rfl, by decide, cw_PC, Or.inl (gwT1 30 rfl rfl)⟩
theorem gf_PC_15 : xGet "PicturedRecord$Picture" 15 2 8 := ⟨_, _, _, rfl, by decide, cw_PC, Or.inl (gwT1 48 rfl rfl)⟩
theorem gf_PC_30 : xGet "PicturedRecord$Picture" 30 2 5 := ⟨_, _, _, rfl, by decide, cw_PC, Or.inl (gwT1 41 rfl rfl)⟩
theorem gf_PC_34 : xGet "PicturedRecord$Picture" 34 2 4 := ⟨_, _, _, rfl, by decide, cw_PC, Or.inl (gwT1 39 rfl rfl)⟩
theorem gf_PC_37 : xGet "PicturedRecord$Picture" 37 2 1 := ⟨_, _, _, rfl, by decide, cw_PC, Or.inl (gwT1 33 rfl rfl)⟩
theorem gf_PC_41 : xGet "PicturedRecord$Picture" 41 2 2 := ⟨_, _, _, rfl, by decide, cw_PC, Or.inl (gwT1 35 rfl rfl)⟩
theorem gf_PC_71 : xGet "PicturedRecord$Picture" 71 2 3 := ⟨_, _, _, rfl, by decide, cw_PC, Or.inl (gwT1 37 rfl rfl)⟩
theorem gf_PC_87 : xGet "PicturedRecord$Picture" 87 2 6 := ⟨_, _, _, rfl, by decide, cw_PC, Or.inl (gwT1 43 rfl rfl)⟩
theorem gf_PC_90 : xGet "PicturedRecord$Picture" 90 2 7 := ⟨_, _, _, rfl, by decide, cw_PC, Or.inl (gwT1 46 rfl rfl)⟩
theorem gf_PC_103 : xGet "PicturedRecord$Picture" 103 2 9 := ⟨_, _, _, rfl, by decide, cw_PC, Or.inl (gwT1 51 rfl rfl)⟩
theorem gf_SG_9 : xGet "PicturedRecord$Storage" 9 3 0 := ⟨_, _, _, rfl, by decide, cw_SG, Or.inl (gwT1 94 rfl rfl)⟩
theorem gf_SG_18 : xGet "PicturedRecord$Storage" 18 3 1 := ⟨_, _, _, rfl, by decide, cw_SG, Or.inl (gwT1 96 rfl rfl)⟩
theorem gf_SG_22 : xGet "PicturedRecord$Storage" 22 1 1 := ⟨_, _, _, rfl, by decide, cw_FD, Or.inr ⟨"PicturedRecord", List.mem_of_getElem? (i := 22) rfl⟩⟩
theorem gf_SG_44 : xGet "PicturedRecord$Storage" 44 1 6 := ⟨_, _, _, rfl, by decide, cw_FD, Or.inr ⟨"PicturedRecord", List.mem_of_getElem? (i := 29) rfl⟩⟩
theorem gf_SG_61 : xGet "PicturedRecord$Storage" 61 1 2 := ⟨_, _, _, rfl, by decide, cw_FD, Or.inr ⟨"PicturedRecord", List.mem_of_getElem? (i := 23) rfl⟩⟩
theorem gf_SG_64 : xGet "PicturedRecord$Storage" 64 1 4 := ⟨_, _, _, rfl, by decide, cw_FD, Or.inr ⟨"PicturedRecord", List.mem_of_getElem? (i := 26) rfl⟩⟩
theorem gf_SG_89 : xGet "PicturedRecord$Storage" 89 1 3 := ⟨_, _, _, rfl, by decide, cw_FD, Or.inr ⟨"PicturedRecord", List.mem_of_getElem? (i := 25) rfl⟩⟩
theorem gf_SG_108 : xGet "PicturedRecord$Storage" 108 1 0 := ⟨_, _, _, rfl, by decide, cw_FD, Or.inr ⟨"PicturedRecord", List.mem_of_getElem? (i := 21) rfl⟩⟩
theorem gf_SG_112 : xGet "PicturedRecord$Storage" 112 2 6 := ⟨_, _, _, rfl, by decide, cw_PC, Or.inr ⟨"PicturedRecord", List.mem_of_getElem? (i := 8) rfl⟩⟩
theorem gf_SG_117 : xGet "PicturedRecord$Storage" 117 2 7 := ⟨_, _, _, rfl, by decide, cw_PC, Or.inr ⟨"PicturedRecord", List.mem_of_getElem? (i := 10) rfl⟩⟩
theorem gf_SG_131 : xGet "PicturedRecord$Storage" 131 0 0 := ⟨_, _, _, rfl, by decide, cw_ED, Or.inr ⟨"PicturedRecord", List.mem_of_getElem? (i := 15) rfl⟩⟩
theorem gf_MD_7 : xGet "PicturedRecordModel" 7 5 0 := ⟨_, _, _, rfl, by decide, cw_MD, Or.inl (gwT3 85 rfl rfl)⟩
theorem gf_MD_13 : xGet "PicturedRecordModel" 13 5 1 := ⟨_, _, _, rfl, by decide, cw_MD, Or.inl (gwT3 86 rfl rfl)⟩
theorem gf_MD_16 : xGet "PicturedRecordModel" 16 5 3 := ⟨_, _, _, rfl, by decide, cw_MD, Or.inl (gwT3 88 rfl rfl)⟩
theorem gf_MD_19 : xGet "PicturedRecordModel" 19 5 12 := ⟨_, _, _, rfl, by decide, cw_MD, Or.inl (gwT3 97 rfl rfl)⟩
theorem gf_MD_22 : xGet "PicturedRecordModel" 22 5 13 := ⟨_, _, _, rfl, by decide, cw_MD, Or.inl (gwT3 98 rfl rfl)⟩
theorem gf_MD_25 : xGet "PicturedRecordModel" 25 5 14 := ⟨_, _, _, rfl, by decide, cw_MD, Or.inl (gwT3 99 rfl rfl)⟩
theorem gf_MD_28 : xGet "PicturedRecordModel" 28 5 15 := ⟨_, _, _, rfl, by decide, cw_MD, Or.inl (gwT3 100 rfl rfl)⟩
theorem gf_MD_31 : xGet "PicturedRecordModel" 31 5 16 := ⟨_, _, _, rfl, by decide, cw_MD, Or.inl (gwT3 101 rfl rfl)⟩
theorem gf_MD_35 : xGet "PicturedRecordModel" 35 5 17 := ⟨_, _, _, rfl, by decide, cw_MD, Or.inl (gwT3 102 rfl rfl)⟩
theorem gf_MD_38 : xGet "PicturedRecordModel" 38 5 18 := ⟨_, _, _, rfl, by decide, cw_MD, Or.inl (gwT3 103 rfl rfl)⟩
theorem gf_MD_41 : xGet "PicturedRecordModel" 41 5 19 := ⟨_, _, _, rfl, by decide, cw_MD, Or.inl (gwT3 104 rfl rfl)⟩
theorem gf_MD_44 : xGet "PicturedRecordModel" 44 5 20 := ⟨_, _, _, rfl, by decide, cw_MD, Or.inl (gwT3 105 rfl rfl)⟩
theorem gf_MD_47 : xGet "PicturedRecordModel" 47 5 21 := ⟨_, _, _, rfl, by decide, cw_MD, Or.inl (gwT3 106 rfl rfl)⟩
theorem gf_MD_50 : xGet "PicturedRecordModel" 50 5 22 := ⟨_, _, _, rfl, by decide, cw_MD, Or.inl (gwT3 107 rfl rfl)⟩
theorem gf_MD_53 : xGet "PicturedRecordModel" 53 5 23 := ⟨_, _, _, rfl, by decide, cw_MD, Or.inl (gwT3 108 rfl rfl)⟩
theorem gf_MD_57 : xGet "PicturedRecordModel" 57 5 2 := ⟨_, _, _, rfl, by decide, cw_MD, Or.inl (gwT3 87 rfl rfl)⟩
theorem gf_MD_71 : xGet "PicturedRecordModel" 71 5 4 := ⟨_, _, _, rfl, by decide, cw_MD, Or.inl (gwT3 89 rfl rfl)⟩
theorem gf_MD_84 : xGet "PicturedRecordModel" 84 5 9 := ⟨_, _, _, rfl, by decide, cw_MD, Or.inl (gwT3 94 rfl rfl)⟩
theorem gf_MD_88 : xGet "PicturedRecordModel" 88 5 10 := ⟨_, _, _, rfl, by decide, cw_MD, Or.inl (gwT3 95 rfl rfl)⟩
theorem gf_MD_91 : xGet "PicturedRecordModel" 91 5 5 := ⟨_, _, _, rfl, by decide, cw_MD, Or.inl (gwT3 90 rfl rfl)⟩
theorem gf_MD_94 : xGet "PicturedRecordModel" 94 5 6 := ⟨_, _, _, rfl, by decide, cw_MD, Or.inl (gwT3 91 rfl rfl)⟩
theorem gf_MD_97 : xGet "PicturedRecordModel" 97 5 7 := ⟨_, _, _, rfl, by decide, cw_MD, Or.inl (gwT3 92 rfl rfl)⟩
theorem gf_MD_100 : xGet "PicturedRecordModel" 100 5 8 := ⟨_, _, _, rfl, by decide, cw_MD, Or.inl (gwT3 93 rfl rfl)⟩
theorem gf_MD_123 : xGet "PicturedRecordModel" 123 5 11 := ⟨_, _, _, rfl, by decide, cw_MD, Or.inl (gwT3 96 rfl rfl)⟩
theorem gf_MD_158 : xGet "PicturedRecordModel" 158 5 24 := ⟨_, _, _, rfl, by decide, cw_MD, Or.inl (gwT3 109 rfl rfl)⟩
theorem gf_MD_201 : xGet "PicturedRecordModel" 201 5 25 := ⟨_, _, _, rfl, by decide, cw_MD, Or.inl (gwT3 110 rfl rfl)⟩
theorem gf_MD_208 : xGet "PicturedRecordModel" 208 5 26 := ⟨_, _, _, rfl, by decide, cw_MD, Or.inl (gwT3 111 rfl rfl)⟩
theorem gs_ST_9 : Cond.fieldLink "java/lang/String" 9 "java/lang/String" "value" "[B" ∈ GW := gwT4 144 rfl rfl
theorem gs_ST_15 : Cond.fieldLink "java/lang/String" 15 "java/lang/String" "coder" "B" ∈ GW := gwT4 143 rfl rfl
theorem pf_ED_init_9 : xPut M_ED_init.1 9 0 0 (.array .int) := ⟨_, _, _, ty_ED, rfl, by decide, cw_ED, ty_ED_ok, nm_ED, gwT1 88 rfl rfl, (fun _ => ⟨rfl, rfl⟩), by decide +kernel⟩
theorem pf_FD_init_9 : xPut M_FD_init.1 9 1 0 (.object "PicturedRecord$Picture") := ⟨_, _, _, ty_FD, rfl, by decide, cw_FD, ty_FD_ok, nm_FD, gwT2 60 rfl rfl, (fun _ => ⟨rfl, rfl⟩), by decide +kernel⟩
theorem pf_FD_init_21 : xPut M_FD_init.1 21 1 1 .int := ⟨_, _, _, ty_FD, rfl, by decide, cw_FD, ty_FD_ok, nm_FD, gwT2 62 rfl rfl, (fun _ => ⟨rfl, rfl⟩), by decide +kernel⟩
theorem pf_FD_init_25 : xPut M_FD_init.1 25 1 2 .int := ⟨_, _, _, ty_FD, rfl, by decide, cw_FD, ty_FD_ok, nm_FD, gwT2 64 rfl rfl, (fun _ => ⟨rfl, rfl⟩), by decide +kernel⟩
theorem pf_FD_init_28 : xPut M_FD_init.1 28 1 3 .int := ⟨_, _, _, ty_FD, rfl, by decide, cw_FD, ty_FD_ok, nm_FD, gwT2 66 rfl rfl, (fun _ => ⟨rfl, rfl⟩), by decide +kernel⟩
theorem pf_FD_init_34 : xPut M_FD_init.1 34 1 4 .int := ⟨_, _, _, ty_FD, rfl, by decide, cw_FD, ty_FD_ok, nm_FD, gwT2 69 rfl rfl, (fun _ => ⟨rfl, rfl⟩), by decide +kernel⟩
theorem pf_FD_init_38 : xPut M_FD_init.1 38 1 5 .int := ⟨_, _, _, ty_FD, rfl, by decide, cw_FD, ty_FD_ok, nm_FD, gwT2 72 rfl rfl, (fun _ => ⟨rfl, rfl⟩), by decide +kernel⟩
theorem pf_FD_init_42 : xPut M_FD_init.1 42 1 6 .boolean := ⟨_, _, _, ty_FD, rfl, by decide, cw_FD, ty_FD_ok, nm_FD, gwT2 74 rfl rfl, (fun _ => ⟨rfl, rfl⟩), by decide +kernel⟩
theorem pf_MD_badData_208 : xPut M_MD_badData.1 208 5 26 .int := ⟨_, _, _, ty_MD, rfl, by decide, cw_MD, ty_MD_ok, nm_MD, gwT3 111 rfl rfl, (fun h => absurd h (by decide)), by decide +kernel⟩
theorem pf_MD_editing_84 : xPut M_MD_editing.1 84 5 9 .boolean := ⟨_, _, _, ty_MD, rfl, by decide, cw_MD, ty_MD_ok, nm_MD, gwT3 94 rfl rfl, (fun h => absurd h (by decide)), by decide +kernel⟩
theorem pf_MD_editing_88 : xPut M_MD_editing.1 88 5 10 .boolean := ⟨_, _, _, ty_MD, rfl, by decide, cw_MD, ty_MD_ok, nm_MD, gwT3 95 rfl rfl, (fun h => absurd h (by decide)), by decide +kernel⟩
theorem pf_MD_editing_97 : xPut M_MD_editing.1 97 5 7 .int := ⟨_, _, _, ty_MD, rfl, by decide, cw_MD, ty_MD_ok, nm_MD, gwT3 92 rfl rfl, (fun h => absurd h (by decide)), by decide +kernel⟩
theorem pf_MD_editing_100 : xPut M_MD_editing.1 100 5 8 .int := ⟨_, _, _, ty_MD, rfl, by decide, cw_MD, ty_MD_ok, nm_MD, gwT3 93 rfl rfl, (fun h => absurd h (by decide)), by decide +kernel⟩
theorem pf_MD_ends_91 : xPut M_MD_ends.1 91 5 5 .int := ⟨_, _, _, ty_MD, rfl, by decide, cw_MD, ty_MD_ok, nm_MD, gwT3 90 rfl rfl, (fun h => absurd h (by decide)), by decide +kernel⟩
theorem pf_MD_ends_94 : xPut M_MD_ends.1 94 5 6 .int := ⟨_, _, _, ty_MD, rfl, by decide, cw_MD, ty_MD_ok, nm_MD, gwT3 91 rfl rfl, (fun h => absurd h (by decide)), by decide +kernel⟩
theorem pf_MD_field_57 : xPut M_MD_field.1 57 5 2 .int := ⟨_, _, _, ty_MD, rfl, by decide, cw_MD, ty_MD_ok, nm_MD, gwT3 87 rfl rfl, (fun h => absurd h (by decide)), by decide +kernel⟩
theorem pf_MD_field_123 : xPut M_MD_field.1 123 5 11 .int := ⟨_, _, _, ty_MD, rfl, by decide, cw_MD, ty_MD_ok, nm_MD, gwT3 96 rfl rfl, (fun h => absurd h (by decide)), by decide +kernel⟩
theorem pf_MD_init_7 : xPut M_MD_init.1 7 5 0 (.array .int) := ⟨_, _, _, ty_MD, rfl, by decide, cw_MD, ty_MD_ok, nm_MD, gwT3 85 rfl rfl, (fun _ => ⟨rfl, rfl⟩), by decide +kernel⟩
theorem pf_MD_init_13 : xPut M_MD_init.1 13 5 1 (.array .int) := ⟨_, _, _, ty_MD, rfl, by decide, cw_MD, ty_MD_ok, nm_MD, gwT3 86 rfl rfl, (fun _ => ⟨rfl, rfl⟩), by decide +kernel⟩
theorem pf_MD_init_16 : xPut M_MD_init.1 16 5 3 (.array .int) := ⟨_, _, _, ty_MD, rfl, by decide, cw_MD, ty_MD_ok, nm_MD, gwT3 88 rfl rfl, (fun _ => ⟨rfl, rfl⟩), by decide +kernel⟩
theorem pf_MD_init_19 : xPut M_MD_init.1 19 5 12 (.array .int) := ⟨_, _, _, ty_MD, rfl, by decide, cw_MD, ty_MD_ok, nm_MD, gwT3 97 rfl rfl, (fun _ => ⟨rfl, rfl⟩), by decide +kernel⟩
theorem pf_MD_init_22 : xPut M_MD_init.1 22 5 13 (.array .int) := ⟨_, _, _, ty_MD, rfl, by decide, cw_MD, ty_MD_ok, nm_MD, gwT3 98 rfl rfl, (fun _ => ⟨rfl, rfl⟩), by decide +kernel⟩
theorem pf_MD_init_25 : xPut M_MD_init.1 25 5 14 (.array .int) := ⟨_, _, _, ty_MD, rfl, by decide, cw_MD, ty_MD_ok, nm_MD, gwT3 99 rfl rfl, (fun _ => ⟨rfl, rfl⟩), by decide +kernel⟩
theorem pf_MD_init_28 : xPut M_MD_init.1 28 5 15 (.array .int) := ⟨_, _, _, ty_MD, rfl, by decide, cw_MD, ty_MD_ok, nm_MD, gwT3 100 rfl rfl, (fun _ => ⟨rfl, rfl⟩), by decide +kernel⟩
theorem pf_MD_init_31 : xPut M_MD_init.1 31 5 16 (.array .boolean) := ⟨_, _, _, ty_MD, rfl, by decide, cw_MD, ty_MD_ok, nm_MD, gwT3 101 rfl rfl, (fun _ => ⟨rfl, rfl⟩), by decide +kernel⟩
theorem pf_MD_init_35 : xPut M_MD_init.1 35 5 17 (.array .boolean) := ⟨_, _, _, ty_MD, rfl, by decide, cw_MD, ty_MD_ok, nm_MD, gwT3 102 rfl rfl, (fun _ => ⟨rfl, rfl⟩), by decide +kernel⟩
theorem pf_MD_init_38 : xPut M_MD_init.1 38 5 18 (.array .int) := ⟨_, _, _, ty_MD, rfl, by decide, cw_MD, ty_MD_ok, nm_MD, gwT3 103 rfl rfl, (fun _ => ⟨rfl, rfl⟩), by decide +kernel⟩
theorem pf_MD_init_41 : xPut M_MD_init.1 41 5 19 (.array .int) := ⟨_, _, _, ty_MD, rfl, by decide, cw_MD, ty_MD_ok, nm_MD, gwT3 104 rfl rfl, (fun _ => ⟨rfl, rfl⟩), by decide +kernel⟩
theorem pf_MD_init_44 : xPut M_MD_init.1 44 5 20 (.array .int) := ⟨_, _, _, ty_MD, rfl, by decide, cw_MD, ty_MD_ok, nm_MD, gwT3 105 rfl rfl, (fun _ => ⟨rfl, rfl⟩), by decide +kernel⟩
theorem pf_MD_init_47 : xPut M_MD_init.1 47 5 21 (.array .int) := ⟨_, _, _, ty_MD, rfl, by decide, cw_MD, ty_MD_ok, nm_MD, gwT3 106 rfl rfl, (fun _ => ⟨rfl, rfl⟩), by decide +kernel⟩
theorem pf_MD_init_50 : xPut M_MD_init.1 50 5 22 (.array .int) := ⟨_, _, _, ty_MD, rfl, by decide, cw_MD, ty_MD_ok, nm_MD, gwT3 107 rfl rfl, (fun _ => ⟨rfl, rfl⟩), by decide +kernel⟩
theorem pf_MD_init_53 : xPut M_MD_init.1 53 5 23 (.array .long) := ⟨_, _, _, ty_MD, rfl, by decide, cw_MD, ty_MD_ok, nm_MD, gwT3 108 rfl rfl, (fun _ => ⟨rfl, rfl⟩), by decide +kernel⟩
theorem pf_MD_numeric_84 : xPut M_MD_numeric.1 84 5 9 .boolean := ⟨_, _, _, ty_MD, rfl, by decide, cw_MD, ty_MD_ok, nm_MD, gwT3 94 rfl rfl, (fun h => absurd h (by decide)), by decide +kernel⟩
theorem pf_MD_numeric_88 : xPut M_MD_numeric.1 88 5 10 .boolean := ⟨_, _, _, ty_MD, rfl, by decide, cw_MD, ty_MD_ok, nm_MD, gwT3 95 rfl rfl, (fun h => absurd h (by decide)), by decide +kernel⟩
theorem pf_MD_numeric_91 : xPut M_MD_numeric.1 91 5 5 .int := ⟨_, _, _, ty_MD, rfl, by decide, cw_MD, ty_MD_ok, nm_MD, gwT3 90 rfl rfl, (fun h => absurd h (by decide)), by decide +kernel⟩
theorem pf_MD_numeric_94 : xPut M_MD_numeric.1 94 5 6 .int := ⟨_, _, _, ty_MD, rfl, by decide, cw_MD, ty_MD_ok, nm_MD, gwT3 91 rfl rfl, (fun h => absurd h (by decide)), by decide +kernel⟩
theorem pf_MD_numeric_97 : xPut M_MD_numeric.1 97 5 7 .int := ⟨_, _, _, ty_MD, rfl, by decide, cw_MD, ty_MD_ok, nm_MD, gwT3 92 rfl rfl, (fun h => absurd h (by decide)), by decide +kernel⟩
theorem pf_MD_numeric_100 : xPut M_MD_numeric.1 100 5 8 .int := ⟨_, _, _, ty_MD, rfl, by decide, cw_MD, ty_MD_ok, nm_MD, gwT3 93 rfl rfl, (fun h => absurd h (by decide)), by decide +kernel⟩
theorem pf_MD_pic_57 : xPut M_MD_pic.1 57 5 2 .int := ⟨_, _, _, ty_MD, rfl, by decide, cw_MD, ty_MD_ok, nm_MD, gwT3 87 rfl rfl, (fun h => absurd h (by decide)), by decide +kernel⟩
theorem pf_MD_quotient_201 : xPut M_MD_quotient.1 201 5 25 .int := ⟨_, _, _, ty_MD, rfl, by decide, cw_MD, ty_MD_ok, nm_MD, gwT3 110 rfl rfl, (fun h => absurd h (by decide)), by decide +kernel⟩
theorem pf_MD_readBinary_158 : xPut M_MD_readBinary.1 158 5 24 .boolean := ⟨_, _, _, ty_MD, rfl, by decide, cw_MD, ty_MD_ok, nm_MD, gwT3 109 rfl rfl, (fun h => absurd h (by decide)), by decide +kernel⟩
theorem pf_MD_readEdited_158 : xPut M_MD_readEdited.1 158 5 24 .boolean := ⟨_, _, _, ty_MD, rfl, by decide, cw_MD, ty_MD_ok, nm_MD, gwT3 109 rfl rfl, (fun h => absurd h (by decide)), by decide +kernel⟩
theorem pf_MD_readPacked_158 : xPut M_MD_readPacked.1 158 5 24 .boolean := ⟨_, _, _, ty_MD, rfl, by decide, cw_MD, ty_MD_ok, nm_MD, gwT3 109 rfl rfl, (fun h => absurd h (by decide)), by decide +kernel⟩
theorem pf_MD_readZoned_158 : xPut M_MD_readZoned.1 158 5 24 .boolean := ⟨_, _, _, ty_MD, rfl, by decide, cw_MD, ty_MD_ok, nm_MD, gwT3 109 rfl rfl, (fun h => absurd h (by decide)), by decide +kernel⟩
theorem pf_MD_result_201 : xPut M_MD_result.1 201 5 25 .int := ⟨_, _, _, ty_MD, rfl, by decide, cw_MD, ty_MD_ok, nm_MD, gwT3 110 rfl rfl, (fun h => absurd h (by decide)), by decide +kernel⟩
theorem pf_MD_scrap_57 : xPut M_MD_scrap.1 57 5 2 .int := ⟨_, _, _, ty_MD, rfl, by decide, cw_MD, ty_MD_ok, nm_MD, gwT3 87 rfl rfl, (fun h => absurd h (by decide)), by decide +kernel⟩
theorem pf_MD_units_158 : xPut M_MD_units.1 158 5 24 .boolean := ⟨_, _, _, ty_MD, rfl, by decide, cw_MD, ty_MD_ok, nm_MD, gwT3 109 rfl rfl, (fun h => absurd h (by decide)), by decide +kernel⟩
theorem pf_MD_writeOut_71 : xPut M_MD_writeOut.1 71 5 4 .int := ⟨_, _, _, ty_MD, rfl, by decide, cw_MD, ty_MD_ok, nm_MD, gwT3 89 rfl rfl, (fun h => absurd h (by decide)), by decide +kernel⟩
theorem pf_PC_append_37 : xPut M_PC_append.1 37 2 1 .int := ⟨_, _, _, ty_PC, rfl, by decide, cw_PC, ty_PC_ok, nm_PC, gwT1 33 rfl rfl, (fun h => absurd h (by decide)), by decide +kernel⟩
theorem pf_PC_init_9 : xPut M_PC_init.1 9 2 0 (.array .char) := ⟨_, _, _, ty_PC, rfl, by decide, cw_PC, ty_PC_ok, nm_PC, gwT1 30 rfl rfl, (fun _ => ⟨rfl, rfl⟩), by decide +kernel⟩
theorem pf_PC_init_15 : xPut M_PC_init.1 15 2 8 .char := ⟨_, _, _, ty_PC, rfl, by decide, cw_PC, ty_PC_ok, nm_PC, gwT1 48 rfl rfl, (fun h => absurd h (by decide)), by decide +kernel⟩
theorem pf_PC_readBody_15 : xPut M_PC_readBody.1 15 2 8 .char := ⟨_, _, _, ty_PC, rfl, by decide, cw_PC, ty_PC_ok, nm_PC, gwT1 48 rfl rfl, (fun h => absurd h (by decide)), by decide +kernel⟩
theorem pf_PC_readBody_41 : xPut M_PC_readBody.1 41 2 2 .int := ⟨_, _, _, ty_PC, rfl, by decide, cw_PC, ty_PC_ok, nm_PC, gwT1 35 rfl rfl, (fun h => absurd h (by decide)), by decide +kernel⟩
theorem pf_PC_readBody_71 : xPut M_PC_readBody.1 71 2 3 .int := ⟨_, _, _, ty_PC, rfl, by decide, cw_PC, ty_PC_ok, nm_PC, gwT1 37 rfl rfl, (fun h => absurd h (by decide)), by decide +kernel⟩
theorem pf_PC_readBody_103 : xPut M_PC_readBody.1 103 2 9 .boolean := ⟨_, _, _, ty_PC, rfl, by decide, cw_PC, ty_PC_ok, nm_PC, gwT1 51 rfl rfl, (fun h => absurd h (by decide)), by decide +kernel⟩
theorem pf_PC_readEdited_30 : xPut M_PC_readEdited.1 30 2 5 .boolean := ⟨_, _, _, ty_PC, rfl, by decide, cw_PC, ty_PC_ok, nm_PC, gwT1 41 rfl rfl, (fun h => absurd h (by decide)), by decide +kernel⟩
theorem pf_PC_readEdited_34 : xPut M_PC_readEdited.1 34 2 4 .boolean := ⟨_, _, _, ty_PC, rfl, by decide, cw_PC, ty_PC_ok, nm_PC, gwT1 39 rfl rfl, (fun h => absurd h (by decide)), by decide +kernel⟩
theorem pf_PC_readEdited_87 : xPut M_PC_readEdited.1 87 2 6 .int := ⟨_, _, _, ty_PC, rfl, by decide, cw_PC, ty_PC_ok, nm_PC, gwT1 43 rfl rfl, (fun h => absurd h (by decide)), by decide +kernel⟩
theorem pf_PC_readEdited_90 : xPut M_PC_readEdited.1 90 2 7 .int := ⟨_, _, _, ty_PC, rfl, by decide, cw_PC, ty_PC_ok, nm_PC, gwT1 46 rfl rfl, (fun h => absurd h (by decide)), by decide +kernel⟩
theorem pf_PC_readNumeric_30 : xPut M_PC_readNumeric.1 30 2 5 .boolean := ⟨_, _, _, ty_PC, rfl, by decide, cw_PC, ty_PC_ok, nm_PC, gwT1 41 rfl rfl, (fun h => absurd h (by decide)), by decide +kernel⟩
theorem pf_PC_readNumeric_34 : xPut M_PC_readNumeric.1 34 2 4 .boolean := ⟨_, _, _, ty_PC, rfl, by decide, cw_PC, ty_PC_ok, nm_PC, gwT1 39 rfl rfl, (fun h => absurd h (by decide)), by decide +kernel⟩
theorem pf_PC_readNumeric_41 : xPut M_PC_readNumeric.1 41 2 2 .int := ⟨_, _, _, ty_PC, rfl, by decide, cw_PC, ty_PC_ok, nm_PC, gwT1 35 rfl rfl, (fun h => absurd h (by decide)), by decide +kernel⟩
theorem pf_PC_readNumeric_71 : xPut M_PC_readNumeric.1 71 2 3 .int := ⟨_, _, _, ty_PC, rfl, by decide, cw_PC, ty_PC_ok, nm_PC, gwT1 37 rfl rfl, (fun h => absurd h (by decide)), by decide +kernel⟩
theorem pf_PC_writeOut_37 : xPut M_PC_writeOut.1 37 2 1 .int := ⟨_, _, _, ty_PC, rfl, by decide, cw_PC, ty_PC_ok, nm_PC, gwT1 33 rfl rfl, (fun h => absurd h (by decide)), by decide +kernel⟩
theorem pf_PR_dataError_141 : xPut M_PR_dataError.1 141 4 8 .int := ⟨_, _, _, ty_PR, rfl, by decide, cw_PR, ty_PR_ok, nm_PR, gwT1 110 rfl rfl, (fun h => absurd h (by decide)), by decide +kernel⟩
theorem pf_PR_field_16 : xPut M_PR_field.1 16 4 2 (.object "PicturedRecord$Picture") := ⟨_, _, _, ty_PR, rfl, by decide, cw_PR, ty_PR_ok, nm_PR, gwT1 104 rfl rfl, (fun h => absurd h (by decide)), by decide +kernel⟩
theorem pf_PR_field_37 : xPut M_PR_field.1 37 4 1 .int := ⟨_, _, _, ty_PR, rfl, by decide, cw_PR, ty_PR_ok, nm_PR, gwT1 103 rfl rfl, (fun h => absurd h (by decide)), by decide +kernel⟩
theorem pf_PR_field_53 : xPut M_PR_field.1 53 4 4 .int := ⟨_, _, _, ty_PR, rfl, by decide, cw_PR, ty_PR_ok, nm_PR, gwT1 106 rfl rfl, (fun h => absurd h (by decide)), by decide +kernel⟩
theorem pf_PR_init_9 : xPut M_PR_init.1 9 4 0 (.array .char) := ⟨_, _, _, ty_PR, rfl, by decide, cw_PR, ty_PR_ok, nm_PR, gwT1 102 rfl rfl, (fun _ => ⟨rfl, rfl⟩), by decide +kernel⟩
theorem pf_PR_init_16 : xPut M_PR_init.1 16 4 2 (.object "PicturedRecord$Picture") := ⟨_, _, _, ty_PR, rfl, by decide, cw_PR, ty_PR_ok, nm_PR, gwT1 104 rfl rfl, (fun h => absurd h (by decide)), by decide +kernel⟩
theorem pf_PR_init_22 : xPut M_PR_init.1 22 4 3 (.array (.object "PicturedRecord$Field")) := ⟨_, _, _, ty_PR, rfl, by decide, cw_PR, ty_PR_ok, nm_PR, gwT1 105 rfl rfl, (fun _ => ⟨rfl, rfl⟩), by decide +kernel⟩
theorem pf_PR_init_29 : xPut M_PR_init.1 29 4 5 (.object "PicturedRecord$Storage") := ⟨_, _, _, ty_PR, rfl, by decide, cw_PR, ty_PR_ok, nm_PR, gwT1 107 rfl rfl, (fun _ => ⟨rfl, rfl⟩), by decide +kernel⟩
theorem pf_PR_init_33 : xPut M_PR_init.1 33 4 6 (.array .long) := ⟨_, _, _, ty_PR, rfl, by decide, cw_PR, ty_PR_ok, nm_PR, gwT1 108 rfl rfl, (fun _ => ⟨rfl, rfl⟩), by decide +kernel⟩
theorem pf_PR_pic_37 : xPut M_PR_pic.1 37 4 1 .int := ⟨_, _, _, ty_PR, rfl, by decide, cw_PR, ty_PR_ok, nm_PR, gwT1 103 rfl rfl, (fun h => absurd h (by decide)), by decide +kernel⟩
theorem pf_PR_scrap_37 : xPut M_PR_scrap.1 37 4 1 .int := ⟨_, _, _, ty_PR, rfl, by decide, cw_PR, ty_PR_ok, nm_PR, gwT1 103 rfl rfl, (fun h => absurd h (by decide)), by decide +kernel⟩
theorem pf_PR_storeResult_138 : xPut M_PR_storeResult.1 138 4 7 .int := ⟨_, _, _, ty_PR, rfl, by decide, cw_PR, ty_PR_ok, nm_PR, gwT1 109 rfl rfl, (fun h => absurd h (by decide)), by decide +kernel⟩
theorem pf_SG_init_9 : xPut M_SG_init.1 9 3 0 (.array .int) := ⟨_, _, _, ty_SG, rfl, by decide, cw_SG, ty_SG_ok, nm_SG, gwT1 94 rfl rfl, (fun _ => ⟨rfl, rfl⟩), by decide +kernel⟩
theorem pf_SG_init_18 : xPut M_SG_init.1 18 3 1 (.object "PicturedRecord$Editor") := ⟨_, _, _, ty_SG, rfl, by decide, cw_SG, ty_SG_ok, nm_SG, gwT1 96 rfl rfl, (fun _ => ⟨rfl, rfl⟩), by decide +kernel⟩
theorem cl_LW_7 : Cond.classLink "PicturedRecordLaw" 7 "PicturedRecord" ∈ GW := gwT1 16 rfl rfl
theorem nw_LW_7 : xNew "PicturedRecordLaw" 7 4 [.null, vI 0, .null, .null, vI 0, .null, .null, vI 0, vI 0] := ⟨_, _, ty_PR, rfl, cw_PR, ty_PR_ok, cl_LW_7, gwT1 17 rfl rfl, gwT1 1 rfl rfl, by decide +kernel, fun _ => rfl⟩
theorem cl_PR_13 : Cond.classLink "PicturedRecord" 13 "PicturedRecord$Picture" ∈ GW := gwT1 24 rfl rfl
theorem nw_PR_13 : xNew "PicturedRecord" 13 2 [.null, vI 0, vI 0, vI 0, vI 0, vI 0, vI 0, vI 0, vI 0, vI 0] := ⟨_, _, ty_PC, rfl, cw_PC, ty_PC_ok, cl_PR_13, gwT1 25 rfl rfl, gwT1 2 rfl rfl, by decide +kernel, fun _ => rfl⟩
theorem cl_PR_20 : Cond.classLink "PicturedRecord" 20 "PicturedRecord$Field" ∈ GW := gwT1 74 rfl rfl
theorem nw_PR_20 : xNew "PicturedRecord" 20 1 [.null, vI 0, vI 0, vI 0, vI 0, vI 0, vI 0] := ⟨_, _, ty_FD, rfl, cw_FD, ty_FD_ok, cl_PR_20, gwT2 55 rfl rfl, gwT1 12 rfl rfl, by decide +kernel, fun _ => rfl⟩
theorem cl_PR_26 : Cond.classLink "PicturedRecord" 26 "PicturedRecord$Storage" ∈ GW := gwT1 76 rfl rfl
theorem nw_PR_26 : xNew "PicturedRecord" 26 3 [.null, .null] := ⟨_, _, ty_SG, rfl, cw_SG, ty_SG_ok, cl_PR_26, gwT1 77 rfl rfl, gwT1 3 rfl rfl, by decide +kernel, fun _ => rfl⟩
theorem cl_SG_15 : Cond.classLink "PicturedRecord$Storage" 15 "PicturedRecord$Editor" ∈ GW := gwT1 82 rfl rfl
theorem nw_SG_15 : xNew "PicturedRecord$Storage" 15 0 [.null] := ⟨_, _, ty_ED, rfl, cw_ED, ty_ED_ok, cl_SG_15, gwT1 83 rfl rfl, gwT1 4 rfl rfl, by decide +kernel, fun _ => rfl⟩
theorem cl_LW_10 : Cond.classLink "PicturedRecordLaw" 10 "PicturedRecordModel" ∈ GW := gwT3 79 rfl rfl
theorem nw_LW_10 : xNew "PicturedRecordLaw" 10 5 [.null, .null, vI 0, .null, vI 0, vI 0, vI 0, vI 0, vI 0, vI 0, vI 0, vI 0, .null, .null, .null, .null, .null, .null, .null, .null, .null, .null, .null, .null, vI 0, vI 0, vI 0] := ⟨_, _, ty_MD, rfl, cw_MD, ty_MD_ok, cl_LW_10, gwT3 80 rfl rfl, gwT1 5 rfl rfl, by decide +kernel, fun _ => rfl⟩
theorem kl_PR_87 : Cond.constantLong "PicturedRecord" 87 (lI 4000000000) ∈ GW := gwT2 128 rfl rfl
theorem kl_SG_81 : Cond.constantLong "PicturedRecord$Storage" 81 (lI 4000000000) ∈ GW := gwT2 144 rfl rfl
theorem kl_SG_83 : Cond.constantLong "PicturedRecord$Storage" 83 (lI 10) ∈ GW := gwT2 145 rfl rfl
theorem kl_SG_104 : Cond.constantLong "PicturedRecord$Storage" 104 (lI 256) ∈ GW := gwT2 166 rfl rfl
theorem kl_ED_57 : Cond.constantLong "PicturedRecord$Editor" 57 (lI 10) ∈ GW := gwT2 191 rfl rfl
theorem kl_SG_102 : Cond.constantLong "PicturedRecord$Storage" 102 (lI 100) ∈ GW := gwT2 225 rfl rfl
theorem kl_SG_106 : Cond.constantLong "PicturedRecord$Storage" 106 (lI 255) ∈ GW := gwT2 234 rfl rfl
theorem kl_DC_19 : Cond.constantLong "PicturedRecord$Decimal" 19 (lI 9000000000000000000) ∈ GW := gwT3 30 rfl rfl
theorem kl_DC_31 : Cond.constantLong "PicturedRecord$Decimal" 31 (lI 2) ∈ GW := gwT3 36 rfl rfl
theorem kl_MD_184 : Cond.constantLong "PicturedRecordModel" 184 (lI 4000000000) ∈ GW := gwT4 10 rfl rfl
theorem kl_MD_129 : Cond.constantLong "PicturedRecordModel" 129 (lI 10) ∈ GW := gwT4 27 rfl rfl
theorem kl_MD_164 : Cond.constantLong "PicturedRecordModel" 164 (lI 256) ∈ GW := gwT4 58 rfl rfl
theorem kl_MD_166 : Cond.constantLong "PicturedRecordModel" 166 (lI 2) ∈ GW := gwT4 59 rfl rfl
theorem kl_MD_186 : Cond.constantLong "PicturedRecordModel" 186 (lI 255) ∈ GW := gwT4 76 rfl rfl
theorem kl_MD_190 : Cond.constantLong "PicturedRecordModel" 190 (lI 1000000000) ∈ GW := gwT4 108 rfl rfl
theorem kl_MD_192 : Cond.constantLong "PicturedRecordModel" 192 (lI (-1000000000)) ∈ GW := gwT4 109 rfl rfl
theorem kl_MD_188 : Cond.constantLong "PicturedRecordModel" 188 (lI (-2)) ∈ GW := gwT4 113 rfl rfl
theorem kl_MD_238 : Cond.constantLong "PicturedRecordModel" 238 (lI 10000) ∈ GW := gwT4 134 rfl rfl
theorem sg_ST_38 : Cond.fieldLink "java/lang/String" 38 "java/lang/String" "COMPACT_STRINGS" "Z" ∈ GW := gwT1 170 rfl rfl
theorem sg_ST_1053 : Cond.fieldLink "java/lang/String" 1053 "jdk/internal/util/Preconditions" "SIOOBE_FORMATTER" "Ljava/util/function/BiFunction;" ∈ GW := gwT1 213 rfl rfl
theorem sg_DC_9 : Cond.fieldLink "PicturedRecord$Decimal" 9 "PicturedRecord$Decimal" "TENS" "[J" ∈ GW := gwT2 149 rfl rfl
theorem ac_int : Cond.arrayClass .int ∈ GW := gwT1 93 rfl rfl
theorem ac_long : Cond.arrayClass .long ∈ GW := gwT1 130 rfl rfl
theorem ac_char : Cond.arrayClass .char ∈ GW := gwT1 73 rfl rfl
theorem ac_boolean : Cond.arrayClass .boolean ∈ GW := gwT3 167 rfl rfl
theorem ac_byte : Cond.arrayClass .byte ∈ GW := gwT2 92 rfl rfl
theorem oi_i : Cond.instanceMethod objectInit ∈ GW := gwT1 22 rfl rfl
theorem oi_c : Cond.code objectInit ⟨#[0xb1]⟩ 1 none ∈ GW := gwT1 23 rfl rfl
