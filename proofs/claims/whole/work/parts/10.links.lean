theorem tb0 {w : Cond} (h : w ∈ k2_sels lw_privs) : w ∈ lw_tbl := List.mem_append_left _ h
theorem tb1 {w : Cond} (h : w ∈ tables_1_1) : w ∈ lw_tbl := List.mem_append_right _ (show w ∈ tables_1 from (List.mem_append_left _ h))
theorem tb2 {w : Cond} (h : w ∈ tables_1_2) : w ∈ lw_tbl := List.mem_append_right _ (show w ∈ tables_1 from (List.mem_append_right _ (List.mem_append_left _ h)))
theorem tb3 {w : Cond} (h : w ∈ tables_1_3) : w ∈ lw_tbl := List.mem_append_right _ (show w ∈ tables_1 from (List.mem_append_right _ (List.mem_append_right _ (List.mem_append_left _ h))))
theorem tb4 {w : Cond} (h : w ∈ tables_1_4) : w ∈ lw_tbl := List.mem_append_right _ (show w ∈ tables_1 from (List.mem_append_right _ (List.mem_append_right _ (List.mem_append_right _ (List.mem_append_left _ h)))))
theorem tb5 {w : Cond} (h : w ∈ tables_1_5) : w ∈ lw_tbl := List.mem_append_right _ (show w ∈ tables_1 from (List.mem_append_right _ (List.mem_append_right _ (List.mem_append_right _ (List.mem_append_right _ (List.mem_append_left _ h))))))
theorem tb6 {w : Cond} (h : w ∈ tables_1_6) : w ∈ lw_tbl := List.mem_append_right _ (show w ∈ tables_1 from (List.mem_append_right _ (List.mem_append_right _ (List.mem_append_right _ (List.mem_append_right _ (List.mem_append_right _ h))))))
def m_X_init : MD := ("SeriesTables", ⟨"SeriesTables", "<init>", "()V"⟩, prog_1_method_1_code, 2, none, 4)
def m_Re_init : MD := ("SeriesTables$Reader", ⟨"SeriesTables$Reader", "<init>", "()V"⟩, prog_3_method_1_code, 1, none, 3)
def m_St_init : MD := ("SeriesTables$State", ⟨"SeriesTables$State", "<init>", "()V"⟩, prog_6_method_1_code, 2, none, 2)
def m_Ta_init : MD := ("SeriesTables$Table", ⟨"SeriesTables$Table", "<init>", "()V"⟩, prog_7_method_1_code, 1, none, 1)
def m_Tp_init : MD := ("SeriesTables$Tape", ⟨"SeriesTables$Tape", "<init>", "()V"⟩, prog_9_method_1_code, 1, none, 1)
def m_Hi_init : MD := ("SeriesTables$History", ⟨"SeriesTables$History", "<init>", "()V"⟩, prog_2_method_1_code, 2, none, 3)
def m_Sb_init : MD := ("SeriesTables$SeriesBench", ⟨"SeriesTables$SeriesBench", "<init>", "()V"⟩, prog_5_method_1_code, 1, none, 1)
def m_Tb_init : MD := ("SeriesTables$TableBench", ⟨"SeriesTables$TableBench", "<init>", "()V"⟩, prog_8_method_1_code, 1, none, 2)
def m_X_feed : MD := ("SeriesTables", ⟨"SeriesTables", "feed", "(IIIII)I"⟩, prog_1_method_2_code, 6, (some .int), 1)
def m_Tp_addFourBytes : MD := ("SeriesTables$Tape", ⟨"SeriesTables$Tape", "addFourBytes", "(I)V"⟩, prog_9_method_2_code, 3, none, 0)
def m_X_end : MD := ("SeriesTables", ⟨"SeriesTables", "end", "(I)Z"⟩, prog_1_method_3_code, 2, (some .boolean), 0)
def m_X_text : MD := ("SeriesTables", ⟨"SeriesTables", "text", "()I"⟩, prog_1_method_4_code, 2, (some .int), 11)
def m_Re_readText : MD := ("SeriesTables$Reader", ⟨"SeriesTables$Reader", "readText", "()Z"⟩, prog_3_method_2_code, 1, (some .boolean), 10)
def m_St_becomeAsAtFirst : MD := ("SeriesTables$State", ⟨"SeriesTables$State", "becomeAsAtFirst", "()V"⟩, prog_6_method_2_code, 2, none, 3)
def m_Ar_fill : MD := ("java/util/Arrays", ⟨"java/util/Arrays", "fill", "([II)V"⟩, prog_25_method_103_code, 4, none, 0)
def m_Ta_becomeOne : MD := ("SeriesTables$Table", ⟨"SeriesTables$Table", "becomeOne", "()V"⟩, prog_7_method_2_code, 1, none, 2)
def m_Rw_becomeNumber : MD := ("SeriesTables$Rows", ⟨"SeriesTables$Rows", "becomeNumber", "([II)V"⟩, prog_4_method_5_code, 2, none, 1)
def m_Re_step : MD := ("SeriesTables$Reader", ⟨"SeriesTables$Reader", "step", "()V"⟩, prog_3_method_10_code, 1, none, 7)
def m_Re_isBlank : MD := ("SeriesTables$Reader", ⟨"SeriesTables$Reader", "isBlank", "(B)Z"⟩, prog_3_method_13_code, 1, (some .boolean), 0)
def m_Re_readWordOrNumber : MD := ("SeriesTables$Reader", ⟨"SeriesTables$Reader", "readWordOrNumber", "()V"⟩, prog_3_method_11_code, 4, none, 6)
def m_Re_isDigit : MD := ("SeriesTables$Reader", ⟨"SeriesTables$Reader", "isDigit", "(B)Z"⟩, prog_3_method_14_code, 1, (some .boolean), 0)
def m_Re_isLetter : MD := ("SeriesTables$Reader", ⟨"SeriesTables$Reader", "isLetter", "(B)Z"⟩, prog_3_method_15_code, 1, (some .boolean), 0)
def m_Re_isWord : MD := ("SeriesTables$Reader", ⟨"SeriesTables$Reader", "isWord", "(Ljava/lang/String;)Z"⟩, prog_3_method_12_code, 3, (some .boolean), 5)
def m_Sg_length : MD := ("java/lang/String", ⟨"java/lang/String", "length", "()I"⟩, prog_18_method_54_code, 1, (some .int), 1)
def m_Sg_coder : MD := ("java/lang/String", ⟨"java/lang/String", "coder", "()B"⟩, prog_18_method_152_code, 1, (some .byte), 0)
def m_Sg_charAt : MD := ("java/lang/String", ⟨"java/lang/String", "charAt", "(I)C"⟩, prog_18_method_56_code, 2, (some .char), 4)
def m_Sg_isLatin1 : MD := ("java/lang/String", ⟨"java/lang/String", "isLatin1", "()Z"⟩, prog_18_method_154_code, 1, (some .boolean), 0)
def m_Sl_charAt : MD := ("java/lang/StringLatin1", ⟨"java/lang/StringLatin1", "charAt", "([BI)C"⟩, prog_19_method_2_code, 2, (some .char), 2)
def m_Sg_checkIndex : MD := ("java/lang/String", ⟨"java/lang/String", "checkIndex", "(II)V"⟩, prog_18_method_155_code, 2, none, 1)
def m_Pr_checkIndex : MD := ("jdk/internal/util/Preconditions", ⟨"jdk/internal/util/Preconditions", "checkIndex", "(IILjava/util/function/BiFunction;)I"⟩, prog_27_method_11_code, 3, (some .int), 0)
def m_Re_readSizeLine : MD := ("SeriesTables$Reader", ⟨"SeriesTables$Reader", "readSizeLine", "()Z"⟩, prog_3_method_3_code, 1, (some .boolean), 9)
def m_Re_refuse : MD := ("SeriesTables$Reader", ⟨"SeriesTables$Reader", "refuse", "(I)Z"⟩, prog_3_method_9_code, 2, (some .boolean), 0)
def m_Re_readSemicolon : MD := ("SeriesTables$Reader", ⟨"SeriesTables$Reader", "readSemicolon", "()Z"⟩, prog_3_method_8_code, 1, (some .boolean), 8)
def m_Re_readSeriesLine : MD := ("SeriesTables$Reader", ⟨"SeriesTables$Reader", "readSeriesLine", "()Z"⟩, prog_3_method_4_code, 2, (some .boolean), 9)
def m_Re_readSum : MD := ("SeriesTables$Reader", ⟨"SeriesTables$Reader", "readSum", "([IZ)Z"⟩, prog_3_method_5_code, 5, (some .boolean), 8)
def m_Rw_difference : MD := ("SeriesTables$Rows", ⟨"SeriesTables$Rows", "difference", "(II)I"⟩, prog_4_method_4_code, 2, (some .int), 0)
def m_Rw_divide : MD := ("SeriesTables$Rows", ⟨"SeriesTables$Rows", "divide", "([I[II)V"⟩, prog_4_method_10_code, 8, none, 1)
def m_Rw_inverse : MD := ("SeriesTables$Rows", ⟨"SeriesTables$Rows", "inverse", "(I)I"⟩, prog_4_method_2_code, 6, (some .int), 0)
def m_Rw_product : MD := ("SeriesTables$Rows", ⟨"SeriesTables$Rows", "product", "(II)I"⟩, prog_4_method_3_code, 2, (some .int), 0)
def m_Re_readTableLine : MD := ("SeriesTables$Reader", ⟨"SeriesTables$Reader", "readTableLine", "()Z"⟩, prog_3_method_6_code, 3, (some .boolean), 9)
def m_Re_isToldSeries : MD := ("SeriesTables$Reader", ⟨"SeriesTables$Reader", "isToldSeries", "()Z"⟩, prog_3_method_7_code, 1, (some .boolean), 1)
def m_Rw_makeTable : MD := ("SeriesTables$Rows", ⟨"SeriesTables$Rows", "makeTable", "([I[I)Z"⟩, prog_4_method_17_code, 2, (some .boolean), 1)
def m_Rw_canBeReversed : MD := ("SeriesTables$Rows", ⟨"SeriesTables$Rows", "canBeReversed", "([I)Z"⟩, prog_4_method_16_code, 1, (some .boolean), 0)
def m_Ta_become : MD := ("SeriesTables$Table", ⟨"SeriesTables$Table", "become", "([I[I)V"⟩, prog_7_method_3_code, 3, none, 1)
def m_St_copyFrom : MD := ("SeriesTables$State", ⟨"SeriesTables$State", "copyFrom", "(LSeriesTables$State;)V"⟩, prog_6_method_3_code, 3, none, 3)
def m_Ta_copyFrom : MD := ("SeriesTables$Table", ⟨"SeriesTables$Table", "copyFrom", "(LSeriesTables$Table;)V"⟩, prog_7_method_4_code, 2, none, 2)
def m_Hi_forget : MD := ("SeriesTables$History", ⟨"SeriesTables$History", "forget", "()V"⟩, prog_2_method_4_code, 1, none, 0)
def m_X_fault : MD := ("SeriesTables", ⟨"SeriesTables", "fault", "()I"⟩, prog_1_method_5_code, 1, (some .int), 0)
def m_X_now : MD := ("SeriesTables", ⟨"SeriesTables", "now", "(I)I"⟩, prog_1_method_6_code, 2, (some .int), 0)
def m_X_at : MD := ("SeriesTables", ⟨"SeriesTables", "at", "(II)I"⟩, prog_1_method_7_code, 3, (some .int), 1)
def m_X_isSeries : MD := ("SeriesTables", ⟨"SeriesTables", "isSeries", "(I)Z"⟩, prog_1_method_32_code, 2, (some .boolean), 0)
def m_X_isWithinSize : MD := ("SeriesTables", ⟨"SeriesTables", "isWithinSize", "(I)Z"⟩, prog_1_method_34_code, 2, (some .boolean), 0)
def m_X_put : MD := ("SeriesTables", ⟨"SeriesTables", "put", "(III)I"⟩, prog_1_method_8_code, 4, (some .int), 5)
def m_Hi_keep : MD := ("SeriesTables$History", ⟨"SeriesTables$History", "keep", "(LSeriesTables$State;)V"⟩, prog_2_method_2_code, 2, none, 4)
def m_Ma_min : MD := ("java/lang/Math", ⟨"java/lang/Math", "min", "(II)I"⟩, prog_16_method_69_code, 2, (some .int), 0)
def m_Ma_floorMod : MD := ("java/lang/Math", ⟨"java/lang/Math", "floorMod", "(II)I"⟩, prog_16_method_50_code, 3, (some .int), 0)
def m_X_make : MD := ("SeriesTables", ⟨"SeriesTables", "make", "(IIII)I"⟩, prog_1_method_9_code, 5, (some .int), 6)
def m_Sb_combine : MD := ("SeriesTables$SeriesBench", ⟨"SeriesTables$SeriesBench", "combine", "([I[III)Z"⟩, prog_5_method_2_code, 5, (some .boolean), 3)
def m_Rw_add : MD := ("SeriesTables$Rows", ⟨"SeriesTables$Rows", "add", "([I[II)V"⟩, prog_4_method_6_code, 4, none, 0)
def m_Rw_subtract : MD := ("SeriesTables$Rows", ⟨"SeriesTables$Rows", "subtract", "([I[II)V"⟩, prog_4_method_7_code, 4, none, 1)
def m_Rw_multiply : MD := ("SeriesTables$Rows", ⟨"SeriesTables$Rows", "multiply", "([I[II)V"⟩, prog_4_method_8_code, 4, none, 1)
def m_Rw_coefficient : MD := ("SeriesTables$Rows", ⟨"SeriesTables$Rows", "coefficient", "([I[II)I"⟩, prog_4_method_9_code, 6, (some .int), 0)
def m_Rw_insert : MD := ("SeriesTables$Rows", ⟨"SeriesTables$Rows", "insert", "([I[II[I)V"⟩, prog_4_method_11_code, 5, none, 2)
def m_X_landSeries : MD := ("SeriesTables", ⟨"SeriesTables", "landSeries", "([II)I"⟩, prog_1_method_36_code, 3, (some .int), 5)
def m_X_turn : MD := ("SeriesTables", ⟨"SeriesTables", "turn", "(III)I"⟩, prog_1_method_10_code, 4, (some .int), 6)
def m_Sb_turnAbout : MD := ("SeriesTables$SeriesBench", ⟨"SeriesTables$SeriesBench", "turnAbout", "([III)Z"⟩, prog_5_method_3_code, 4, (some .boolean), 3)
def m_Rw_oneAhead : MD := ("SeriesTables$Rows", ⟨"SeriesTables$Rows", "oneAhead", "([II[I)V"⟩, prog_4_method_12_code, 4, none, 0)
def m_Sb_differentiate : MD := ("SeriesTables$SeriesBench", ⟨"SeriesTables$SeriesBench", "differentiate", "([II)V"⟩, prog_5_method_4_code, 4, none, 1)
def m_Sb_integrate : MD := ("SeriesTables$SeriesBench", ⟨"SeriesTables$SeriesBench", "integrate", "([II)V"⟩, prog_5_method_5_code, 4, none, 1)
def m_Sb_reverse : MD := ("SeriesTables$SeriesBench", ⟨"SeriesTables$SeriesBench", "reverse", "([II[I)V"⟩, prog_5_method_6_code, 5, none, 2)
def m_X_raise : MD := ("SeriesTables", ⟨"SeriesTables", "raise", "(III)I"⟩, prog_1_method_11_code, 4, (some .int), 6)
def m_Sb_raiseTo : MD := ("SeriesTables$SeriesBench", ⟨"SeriesTables$SeriesBench", "raiseTo", "([III)V"⟩, prog_5_method_7_code, 5, none, 2)
def m_X_pair : MD := ("SeriesTables", ⟨"SeriesTables", "pair", "(III)I"⟩, prog_1_method_12_code, 4, (some .int), 6)
def m_X_isTable : MD := ("SeriesTables", ⟨"SeriesTables", "isTable", "(I)Z"⟩, prog_1_method_33_code, 2, (some .boolean), 0)
def m_X_landTable : MD := ("SeriesTables", ⟨"SeriesTables", "landTable", "(I)I"⟩, prog_1_method_37_code, 2, (some .int), 5)
def m_Tb_entryOf : MD := ("SeriesTables$TableBench", ⟨"SeriesTables$TableBench", "entryOf", "(LSeriesTables$Table;III)I"⟩, prog_8_method_2_code, 6, (some .int), 2)
def m_X_times : MD := ("SeriesTables", ⟨"SeriesTables", "times", "(III)I"⟩, prog_1_method_14_code, 4, (some .int), 6)
def m_Tb_multiply : MD := ("SeriesTables$TableBench", ⟨"SeriesTables$TableBench", "multiply", "(LSeriesTables$Table;LSeriesTables$Table;ILSeriesTables$Table;)V"⟩, prog_8_method_4_code, 4, none, 3)
def m_X_power : MD := ("SeriesTables", ⟨"SeriesTables", "power", "(III)I"⟩, prog_1_method_15_code, 4, (some .int), 6)
def m_Tb_powerOf : MD := ("SeriesTables$TableBench", ⟨"SeriesTables$TableBench", "powerOf", "(LSeriesTables$Table;II)V"⟩, prog_8_method_6_code, 5, none, 4)
def m_Tb_invert : MD := ("SeriesTables$TableBench", ⟨"SeriesTables$TableBench", "invert", "(LSeriesTables$Table;ILSeriesTables$Table;)V"⟩, prog_8_method_5_code, 4, none, 3)
def m_Ma_abs : MD := ("java/lang/Math", ⟨"java/lang/Math", "abs", "(I)I"⟩, prog_16_method_59_code, 1, (some .int), 0)
def m_X_part : MD := ("SeriesTables", ⟨"SeriesTables", "part", "(III)I"⟩, prog_1_method_16_code, 4, (some .int), 6)
def m_Tb_partOf : MD := ("SeriesTables$TableBench", ⟨"SeriesTables$TableBench", "partOf", "(LSeriesTables$Table;II)Z"⟩, prog_8_method_7_code, 4, (some .boolean), 4)
def m_Tb_findA : MD := ("SeriesTables$TableBench", ⟨"SeriesTables$TableBench", "findA", "(LSeriesTables$Table;I)V"⟩, prog_8_method_8_code, 3, none, 3)
def m_Tb_findZ : MD := ("SeriesTables$TableBench", ⟨"SeriesTables$TableBench", "findZ", "(LSeriesTables$Table;I)V"⟩, prog_8_method_9_code, 4, none, 3)
def m_X_apply : MD := ("SeriesTables", ⟨"SeriesTables", "apply", "(III)I"⟩, prog_1_method_17_code, 4, (some .int), 6)
def m_Tb_makeOf : MD := ("SeriesTables$TableBench", ⟨"SeriesTables$TableBench", "makeOf", "(LSeriesTables$Table;[II)V"⟩, prog_8_method_10_code, 4, none, 3)
def m_X_sums : MD := ("SeriesTables", ⟨"SeriesTables", "sums", "(III)I"⟩, prog_1_method_18_code, 4, (some .int), 6)
def m_Tb_sumRows : MD := ("SeriesTables$TableBench", ⟨"SeriesTables$TableBench", "sumRows", "(LSeriesTables$Table;II)V"⟩, prog_8_method_11_code, 8, none, 3)
def m_Tb_fillColumns : MD := ("SeriesTables$TableBench", ⟨"SeriesTables$TableBench", "fillColumns", "(LSeriesTables$Table;I[[I)V"⟩, prog_8_method_3_code, 4, none, 2)
def m_Tb_termOfSum : MD := ("SeriesTables$TableBench", ⟨"SeriesTables$TableBench", "termOfSum", "(III)J"⟩, prog_8_method_12_code, 4, (some .long), 0)
def m_X_kinds : MD := ("SeriesTables", ⟨"SeriesTables", "kinds", "(I)I"⟩, prog_1_method_20_code, 2, (some .int), 5)
def m_Tb_kindsOf : MD := ("SeriesTables$TableBench", ⟨"SeriesTables$TableBench", "kindsOf", "(LSeriesTables$Table;I)I"⟩, prog_8_method_14_code, 4, (some .int), 4)
def m_Rw_isT : MD := ("SeriesTables$Rows", ⟨"SeriesTables$Rows", "isT", "([II)Z"⟩, prog_4_method_14_code, 2, (some .boolean), 1)
def m_Rw_isZeroFrom : MD := ("SeriesTables$Rows", ⟨"SeriesTables$Rows", "isZeroFrom", "([III)Z"⟩, prog_4_method_15_code, 4, (some .boolean), 0)
def m_Rw_isOne : MD := ("SeriesTables$Rows", ⟨"SeriesTables$Rows", "isOne", "([II)Z"⟩, prog_4_method_13_code, 2, (some .boolean), 1)
def m_Tb_isShifted : MD := ("SeriesTables$TableBench", ⟨"SeriesTables$TableBench", "isShifted", "(LSeriesTables$Table;I)Z"⟩, prog_8_method_15_code, 3, (some .boolean), 0)
def m_Tb_isDerivative : MD := ("SeriesTables$TableBench", ⟨"SeriesTables$TableBench", "isDerivative", "(LSeriesTables$Table;I)Z"⟩, prog_8_method_16_code, 3, (some .boolean), 1)
def m_Tb_isChequered : MD := ("SeriesTables$TableBench", ⟨"SeriesTables$TableBench", "isChequered", "(LSeriesTables$Table;I)Z"⟩, prog_8_method_17_code, 5, (some .boolean), 3)
def m_X_differ : MD := ("SeriesTables", ⟨"SeriesTables", "differ", "(III)I"⟩, prog_1_method_21_code, 4, (some .int), 5)
def m_Tb_firstDifference : MD := ("SeriesTables$TableBench", ⟨"SeriesTables$TableBench", "firstDifference", "(LSeriesTables$Table;LSeriesTables$Table;I)I"⟩, prog_8_method_18_code, 6, (some .int), 3)
def m_Tb_firstOfChangedPlaces : MD := ("SeriesTables$TableBench", ⟨"SeriesTables$TableBench", "firstOfChangedPlaces", "(LSeriesTables$Table;LSeriesTables$Table;I)I"⟩, prog_8_method_19_code, 4, (some .int), 4)
def m_X_fails : MD := ("SeriesTables", ⟨"SeriesTables", "fails", "(III)I"⟩, prog_1_method_22_code, 5, (some .int), 4)
def m_X_free : MD := ("SeriesTables", ⟨"SeriesTables", "free", "(II)I"⟩, prog_1_method_23_code, 3, (some .int), 1)
def m_X_set : MD := ("SeriesTables", ⟨"SeriesTables", "set", "(III)I"⟩, prog_1_method_24_code, 4, (some .int), 5)
def m_X_lay : MD := ("SeriesTables", ⟨"SeriesTables", "lay", "(I)I"⟩, prog_1_method_25_code, 2, (some .int), 5)
def m_Tb_layEntries : MD := ("SeriesTables$TableBench", ⟨"SeriesTables$TableBench", "layEntries", "(LSeriesTables$Table;I[[I)V"⟩, prog_8_method_20_code, 6, none, 3)
def m_X_unlike : MD := ("SeriesTables", ⟨"SeriesTables", "unlike", "()I"⟩, prog_1_method_26_code, 1, (some .int), 4)
def m_Tb_recognise : MD := ("SeriesTables$TableBench", ⟨"SeriesTables$TableBench", "recognise", "([[II)I"⟩, prog_8_method_21_code, 5, (some .int), 3)
def m_X_rebuild : MD := ("SeriesTables", ⟨"SeriesTables", "rebuild", "(I)I"⟩, prog_1_method_27_code, 2, (some .int), 6)
def m_X_drawn : MD := ("SeriesTables", ⟨"SeriesTables", "drawn", "(II)I"⟩, prog_1_method_28_code, 7, (some .int), 5)
def m_X_nextSeed : MD := ("SeriesTables", ⟨"SeriesTables", "nextSeed", "(I)I"⟩, prog_1_method_38_code, 1, (some .int), 0)
def m_X_drawOf : MD := ("SeriesTables", ⟨"SeriesTables", "drawOf", "(II)I"⟩, prog_1_method_39_code, 2, (some .int), 0)
def m_St_sumOfSeries : MD := ("SeriesTables$State", ⟨"SeriesTables$State", "sumOfSeries", "()I"⟩, prog_6_method_4_code, 4, (some .int), 0)
def m_X_undo : MD := ("SeriesTables", ⟨"SeriesTables", "undo", "()I"⟩, prog_1_method_29_code, 1, (some .int), 5)
def m_Hi_takeBack : MD := ("SeriesTables$History", ⟨"SeriesTables$History", "takeBack", "(LSeriesTables$State;)V"⟩, prog_2_method_3_code, 2, none, 4)
def m_X_image : MD := ("SeriesTables", ⟨"SeriesTables", "image", "(I)Z"⟩, prog_1_method_30_code, 2, (some .boolean), 4)
def m_X_restore : MD := ("SeriesTables", ⟨"SeriesTables", "restore", "(I)Z"⟩, prog_1_method_31_code, 2, (some .boolean), 4)
def m_X_entry : MD := ("SeriesTables", ⟨"SeriesTables", "entry", "(III)I"⟩, prog_1_method_13_code, 4, (some .int), 3)
def m_X_production : MD := ("SeriesTables", ⟨"SeriesTables", "production", "(III)I"⟩, prog_1_method_19_code, 4, (some .int), 4)
def m_X_isWithinProduction : MD := ("SeriesTables", ⟨"SeriesTables", "isWithinProduction", "(I)Z"⟩, prog_1_method_35_code, 2, (some .boolean), 0)
def m_Tb_productionOf : MD := ("SeriesTables$TableBench", ⟨"SeriesTables$TableBench", "productionOf", "(LSeriesTables$Table;III)I"⟩, prog_8_method_13_code, 9, (some .int), 3)
def m_Md_thrown : MD := ("SeriesTablesModel", ⟨"SeriesTablesModel", "thrown", "()I"⟩, prog_11_method_1_code, 1, (some .int), 0)
def m_Md_feed : MD := ("SeriesTablesModel", ⟨"SeriesTablesModel", "feed", "(IIIII)I"⟩, prog_11_method_5_code, 6, (some .int), 1)
def m_Md_lays : MD := ("SeriesTablesModel", ⟨"SeriesTablesModel", "lays", "(I)V"⟩, prog_11_method_4_code, 3, none, 0)
def m_Md_end : MD := ("SeriesTablesModel", ⟨"SeriesTablesModel", "end", "(I)Z"⟩, prog_11_method_6_code, 2, (some .boolean), 0)
def m_Md_init : MD := ("SeriesTablesModel", ⟨"SeriesTablesModel", "<init>", "()V"⟩, prog_11_method_13_code, 1, none, 1)
def m_Md_text : MD := ("SeriesTablesModel", ⟨"SeriesTablesModel", "text", "()I"⟩, prog_11_method_26_code, 3, (some .int), 5)
def m_Md_next : MD := ("SeriesTablesModel", ⟨"SeriesTablesModel", "next", "()V"⟩, prog_11_method_10_code, 5, none, 1)
def m_Md_isLetter : MD := ("SeriesTablesModel", ⟨"SeriesTablesModel", "isLetter", "(I)Z"⟩, prog_11_method_9_code, 1, (some .boolean), 0)
def m_Md_isDigit : MD := ("SeriesTablesModel", ⟨"SeriesTablesModel", "isDigit", "(I)Z"⟩, prog_11_method_8_code, 1, (some .boolean), 0)
def m_Md_tapeAt : MD := ("SeriesTablesModel", ⟨"SeriesTablesModel", "tapeAt", "(I)I"⟩, prog_11_method_7_code, 2, (some .int), 0)
def m_Md_readLine : MD := ("SeriesTablesModel", ⟨"SeriesTablesModel", "readLine", "()Z"⟩, prog_11_method_24_code, 1, (some .boolean), 4)
def m_Md_isWord : MD := ("SeriesTablesModel", ⟨"SeriesTablesModel", "isWord", "(IIIIII)Z"⟩, prog_11_method_11_code, 9, (some .boolean), 0)
def m_Md_readSize : MD := ("SeriesTablesModel", ⟨"SeriesTablesModel", "readSize", "()Z"⟩, prog_11_method_19_code, 1, (some .boolean), 2)
def m_Md_bad : MD := ("SeriesTablesModel", ⟨"SeriesTablesModel", "bad", "(I)Z"⟩, prog_11_method_12_code, 2, (some .boolean), 0)
def m_Md_isIn : MD := ("SeriesTablesModel", ⟨"SeriesTablesModel", "isIn", "(III)Z"⟩, prog_11_method_3_code, 3, (some .boolean), 0)
def m_Md_readSeries : MD := ("SeriesTablesModel", ⟨"SeriesTablesModel", "readSeries", "()Z"⟩, prog_11_method_21_code, 2, (some .boolean), 3)
def m_Md_readSum : MD := ("SeriesTablesModel", ⟨"SeriesTablesModel", "readSum", "([IZ)Z"⟩, prog_11_method_20_code, 5, (some .boolean), 2)
def m_Md_rest : MD := ("SeriesTablesModel", ⟨"SeriesTablesModel", "rest", "(J)I"⟩, prog_11_method_15_code, 4, (some .int), 0)
def m_Md_divides : MD := ("SeriesTablesModel", ⟨"SeriesTablesModel", "divides", "([I[I[II)V"⟩, prog_11_method_17_code, 9, none, 1)
def m_Md_turned : MD := ("SeriesTablesModel", ⟨"SeriesTablesModel", "turned", "(J)I"⟩, prog_11_method_16_code, 7, (some .int), 0)
def m_Md_readTable : MD := ("SeriesTablesModel", ⟨"SeriesTablesModel", "readTable", "()Z"⟩, prog_11_method_23_code, 5, (some .boolean), 2)
def m_Md_makesTable : MD := ("SeriesTablesModel", ⟨"SeriesTablesModel", "makesTable", "([III)Z"⟩, prog_11_method_22_code, 3, (some .boolean), 0)
def m_Md_readEnd : MD := ("SeriesTablesModel", ⟨"SeriesTablesModel", "readEnd", "()Z"⟩, prog_11_method_25_code, 1, (some .boolean), 2)
def m_Md_copy : MD := ("SeriesTablesModel", ⟨"SeriesTablesModel", "copy", "([II[II)V"⟩, prog_11_method_14_code, 5, none, 0)
def m_Md_fault : MD := ("SeriesTablesModel", ⟨"SeriesTablesModel", "fault", "()I"⟩, prog_11_method_27_code, 1, (some .int), 0)
def m_Md_now : MD := ("SeriesTablesModel", ⟨"SeriesTablesModel", "now", "(I)I"⟩, prog_11_method_28_code, 2, (some .int), 1)
def m_Md_wide : MD := ("SeriesTablesModel", ⟨"SeriesTablesModel", "wide", "()I"⟩, prog_11_method_29_code, 1, (some .int), 0)
def m_Md_at : MD := ("SeriesTablesModel", ⟨"SeriesTablesModel", "at", "(II)I"⟩, prog_11_method_36_code, 3, (some .int), 2)
def m_Md_isSeries : MD := ("SeriesTablesModel", ⟨"SeriesTablesModel", "isSeries", "(I)Z"⟩, prog_11_method_30_code, 2, (some .boolean), 1)
def m_Md_isPlace : MD := ("SeriesTablesModel", ⟨"SeriesTablesModel", "isPlace", "(I)Z"⟩, prog_11_method_32_code, 2, (some .boolean), 1)
def m_Md_put : MD := ("SeriesTablesModel", ⟨"SeriesTablesModel", "put", "(III)I"⟩, prog_11_method_37_code, 4, (some .int), 2)
def m_Md_snap : MD := ("SeriesTablesModel", ⟨"SeriesTablesModel", "snap", "()V"⟩, prog_11_method_33_code, 2, none, 1)
def m_Md_make : MD := ("SeriesTablesModel", ⟨"SeriesTablesModel", "make", "(IIII)I"⟩, prog_11_method_43_code, 6, (some .int), 3)
def m_Md_takes : MD := ("SeriesTablesModel", ⟨"SeriesTablesModel", "takes", "(I[I)V"⟩, prog_11_method_34_code, 4, none, 1)
def m_Md_multiplies : MD := ("SeriesTablesModel", ⟨"SeriesTablesModel", "multiplies", "([I[I[II)V"⟩, prog_11_method_18_code, 8, none, 1)
def m_Md_laysUnit : MD := ("SeriesTablesModel", ⟨"SeriesTablesModel", "laysUnit", "()V"⟩, prog_11_method_44_code, 2, none, 0)
def m_Md_columns : MD := ("SeriesTablesModel", ⟨"SeriesTablesModel", "columns", "([I[I[I)V"⟩, prog_11_method_38_code, 6, none, 2)
def m_Md_makes : MD := ("SeriesTablesModel", ⟨"SeriesTablesModel", "makes", "([I[I[I)V"⟩, prog_11_method_42_code, 8, none, 1)
def m_Md_comes : MD := ("SeriesTablesModel", ⟨"SeriesTablesModel", "comes", "([III)I"⟩, prog_11_method_35_code, 5, (some .int), 2)
def m_Md_turn : MD := ("SeriesTablesModel", ⟨"SeriesTablesModel", "turn", "(III)I"⟩, prog_11_method_46_code, 7, (some .int), 4)
def m_Md_reverses : MD := ("SeriesTablesModel", ⟨"SeriesTablesModel", "reverses", "([I[I)V"⟩, prog_11_method_45_code, 4, none, 3)
def m_Md_ones : MD := ("SeriesTablesModel", ⟨"SeriesTablesModel", "ones", "([I)V"⟩, prog_11_method_41_code, 2, none, 0)
def m_Md_solves : MD := ("SeriesTablesModel", ⟨"SeriesTablesModel", "solves", "([I[I[II)V"⟩, prog_11_method_40_code, 10, none, 1)
def m_Md_raise : MD := ("SeriesTablesModel", ⟨"SeriesTablesModel", "raise", "(III)I"⟩, prog_11_method_47_code, 6, (some .int), 3)
def m_Md_pair : MD := ("SeriesTablesModel", ⟨"SeriesTablesModel", "pair", "(III)I"⟩, prog_11_method_50_code, 4, (some .int), 3)
def m_Md_isTable : MD := ("SeriesTablesModel", ⟨"SeriesTablesModel", "isTable", "(I)Z"⟩, prog_11_method_31_code, 2, (some .boolean), 1)
def m_Md_comesAs : MD := ("SeriesTablesModel", ⟨"SeriesTablesModel", "comesAs", "([II)I"⟩, prog_11_method_49_code, 4, (some .int), 2)
def m_Md_entry : MD := ("SeriesTablesModel", ⟨"SeriesTablesModel", "entry", "(III)I"⟩, prog_11_method_51_code, 4, (some .int), 4)
def m_Md_refuse : MD := ("SeriesTablesModel", ⟨"SeriesTablesModel", "refuse", "()I"⟩, prog_11_method_2_code, 1, (some .int), 0)
def m_Md_matrix : MD := ("SeriesTablesModel", ⟨"SeriesTablesModel", "matrix", "(I[I)V"⟩, prog_11_method_48_code, 3, none, 3)
def m_Md_times : MD := ("SeriesTablesModel", ⟨"SeriesTablesModel", "times", "(III)I"⟩, prog_11_method_52_code, 4, (some .int), 4)
def m_Md_product : MD := ("SeriesTablesModel", ⟨"SeriesTablesModel", "product", "([I[I[II)V"⟩, prog_11_method_39_code, 9, none, 1)
def m_Md_power : MD := ("SeriesTablesModel", ⟨"SeriesTablesModel", "power", "(III)I"⟩, prog_11_method_53_code, 6, (some .int), 4)
def m_Md_part : MD := ("SeriesTablesModel", ⟨"SeriesTablesModel", "part", "(III)I"⟩, prog_11_method_55_code, 5, (some .int), 5)
def m_Md_laysProduction : MD := ("SeriesTablesModel", ⟨"SeriesTablesModel", "laysProduction", "(I)V"⟩, prog_11_method_54_code, 5, none, 4)
def m_Md_apply : MD := ("SeriesTablesModel", ⟨"SeriesTablesModel", "apply", "(III)I"⟩, prog_11_method_56_code, 4, (some .int), 4)
def m_Md_sums : MD := ("SeriesTablesModel", ⟨"SeriesTablesModel", "sums", "(III)I"⟩, prog_11_method_57_code, 10, (some .int), 4)
def m_Md_production : MD := ("SeriesTablesModel", ⟨"SeriesTablesModel", "production", "(III)I"⟩, prog_11_method_58_code, 4, (some .int), 5)
def m_Md_kinds : MD := ("SeriesTablesModel", ⟨"SeriesTablesModel", "kinds", "(I)I"⟩, prog_11_method_61_code, 2, (some .int), 5)
def m_Md_kindsOf : MD := ("SeriesTablesModel", ⟨"SeriesTablesModel", "kindsOf", "(I)I"⟩, prog_11_method_59_code, 10, (some .int), 4)
def m_Md_unlikeAt : MD := ("SeriesTablesModel", ⟨"SeriesTablesModel", "unlikeAt", "([I[I)I"⟩, prog_11_method_60_code, 5, (some .int), 1)
def m_Md_differ : MD := ("SeriesTablesModel", ⟨"SeriesTablesModel", "differ", "(III)I"⟩, prog_11_method_62_code, 4, (some .int), 4)
def m_Md_fails : MD := ("SeriesTablesModel", ⟨"SeriesTablesModel", "fails", "(III)I"⟩, prog_11_method_63_code, 5, (some .int), 4)
def m_Md_free : MD := ("SeriesTablesModel", ⟨"SeriesTablesModel", "free", "(II)I"⟩, prog_11_method_64_code, 3, (some .int), 2)
def m_Md_set : MD := ("SeriesTablesModel", ⟨"SeriesTablesModel", "set", "(III)I"⟩, prog_11_method_65_code, 4, (some .int), 2)
def m_Md_lay : MD := ("SeriesTablesModel", ⟨"SeriesTablesModel", "lay", "(I)I"⟩, prog_11_method_66_code, 4, (some .int), 5)
def m_Md_unlike : MD := ("SeriesTablesModel", ⟨"SeriesTablesModel", "unlike", "()I"⟩, prog_11_method_68_code, 1, (some .int), 4)
def m_Md_unlikeNow : MD := ("SeriesTablesModel", ⟨"SeriesTablesModel", "unlikeNow", "()I"⟩, prog_11_method_67_code, 2, (some .int), 3)
def m_Md_rebuild : MD := ("SeriesTablesModel", ⟨"SeriesTablesModel", "rebuild", "(I)I"⟩, prog_11_method_69_code, 2, (some .int), 4)
def m_Md_drawn : MD := ("SeriesTablesModel", ⟨"SeriesTablesModel", "drawn", "(II)I"⟩, prog_11_method_71_code, 6, (some .int), 2)
def m_Md_draw : MD := ("SeriesTablesModel", ⟨"SeriesTablesModel", "draw", "(I)I"⟩, prog_11_method_70_code, 2, (some .int), 0)
def m_Md_undo : MD := ("SeriesTablesModel", ⟨"SeriesTablesModel", "undo", "()I"⟩, prog_11_method_72_code, 1, (some .int), 1)
def m_Md_image : MD := ("SeriesTablesModel", ⟨"SeriesTablesModel", "image", "(I)Z"⟩, prog_11_method_73_code, 2, (some .boolean), 1)
def m_Md_restore : MD := ("SeriesTablesModel", ⟨"SeriesTablesModel", "restore", "(I)Z"⟩, prog_11_method_74_code, 2, (some .boolean), 1)
theorem w_X_init : Cond.code (mnam m_X_init) (mbt m_X_init) (mml m_X_init) (mrt m_X_init) ∈ gt_ws := gt_in (tb1 (List.mem_of_getElem? (i := 26) rfl)) rfl
theorem w_Re_init : Cond.code (mnam m_Re_init) (mbt m_Re_init) (mml m_Re_init) (mrt m_Re_init) ∈ gt_ws := gt_in (tb1 (List.mem_of_getElem? (i := 34) rfl)) rfl
theorem w_St_init : Cond.code (mnam m_St_init) (mbt m_St_init) (mml m_St_init) (mrt m_St_init) ∈ gt_ws := gt_in (tb1 (List.mem_of_getElem? (i := 40) rfl)) rfl
theorem w_Ta_init : Cond.code (mnam m_Ta_init) (mbt m_Ta_init) (mml m_Ta_init) (mrt m_Ta_init) ∈ gt_ws := gt_in (tb1 (List.mem_of_getElem? (i := 49) rfl)) rfl
theorem w_Tp_init : Cond.code (mnam m_Tp_init) (mbt m_Tp_init) (mml m_Tp_init) (mrt m_Tp_init) ∈ gt_ws := gt_in (tb1 (List.mem_of_getElem? (i := 85) rfl)) rfl
theorem w_Hi_init : Cond.code (mnam m_Hi_init) (mbt m_Hi_init) (mml m_Hi_init) (mrt m_Hi_init) ∈ gt_ws := gt_in (tb1 (List.mem_of_getElem? (i := 148) rfl)) rfl
theorem w_Sb_init : Cond.code (mnam m_Sb_init) (mbt m_Sb_init) (mml m_Sb_init) (mrt m_Sb_init) ∈ gt_ws := gt_in (tb1 (List.mem_of_getElem? (i := 168) rfl)) rfl
theorem w_Tb_init : Cond.code (mnam m_Tb_init) (mbt m_Tb_init) (mml m_Tb_init) (mrt m_Tb_init) ∈ gt_ws := gt_in (tb1 (List.mem_of_getElem? (i := 186) rfl)) rfl
theorem w_X_feed : Cond.code (mnam m_X_feed) (mbt m_X_feed) (mml m_X_feed) (mrt m_X_feed) ∈ gt_ws := gt_in (tb2 (List.mem_of_getElem? (i := 20) rfl)) rfl
theorem w_Tp_addFourBytes : Cond.code (mnam m_Tp_addFourBytes) (mbt m_Tp_addFourBytes) (mml m_Tp_addFourBytes) (mrt m_Tp_addFourBytes) ∈ gt_ws := gt_in (tb2 (List.mem_of_getElem? (i := 24) rfl)) rfl
theorem w_X_end : Cond.code (mnam m_X_end) (mbt m_X_end) (mml m_X_end) (mrt m_X_end) ∈ gt_ws := gt_in (tb2 (List.mem_of_getElem? (i := 28) rfl)) rfl
theorem w_X_text : Cond.code (mnam m_X_text) (mbt m_X_text) (mml m_X_text) (mrt m_X_text) ∈ gt_ws := gt_in (tb2 (List.mem_of_getElem? (i := 32) rfl)) rfl
theorem w_Re_readText : Cond.code (mnam m_Re_readText) (mbt m_Re_readText) (mml m_Re_readText) (mrt m_Re_readText) ∈ gt_ws := gt_in (tb2 (List.mem_of_getElem? (i := 36) rfl)) rfl
theorem w_St_becomeAsAtFirst : Cond.code (mnam m_St_becomeAsAtFirst) (mbt m_St_becomeAsAtFirst) (mml m_St_becomeAsAtFirst) (mrt m_St_becomeAsAtFirst) ∈ gt_ws := gt_in (tb2 (List.mem_of_getElem? (i := 40) rfl)) rfl
theorem w_Ar_fill : Cond.code (mnam m_Ar_fill) (mbt m_Ar_fill) (mml m_Ar_fill) (mrt m_Ar_fill) ∈ gt_ws := gt_in (tb2 (List.mem_of_getElem? (i := 43) rfl)) rfl
theorem w_Ta_becomeOne : Cond.code (mnam m_Ta_becomeOne) (mbt m_Ta_becomeOne) (mml m_Ta_becomeOne) (mrt m_Ta_becomeOne) ∈ gt_ws := gt_in (tb2 (List.mem_of_getElem? (i := 47) rfl)) rfl
theorem w_Rw_becomeNumber : Cond.code (mnam m_Rw_becomeNumber) (mbt m_Rw_becomeNumber) (mml m_Rw_becomeNumber) (mrt m_Rw_becomeNumber) ∈ gt_ws := gt_in (tb2 (List.mem_of_getElem? (i := 50) rfl)) rfl
theorem w_Re_step : Cond.code (mnam m_Re_step) (mbt m_Re_step) (mml m_Re_step) (mrt m_Re_step) ∈ gt_ws := gt_in (tb2 (List.mem_of_getElem? (i := 55) rfl)) rfl
theorem w_Re_isBlank : Cond.code (mnam m_Re_isBlank) (mbt m_Re_isBlank) (mml m_Re_isBlank) (mrt m_Re_isBlank) ∈ gt_ws := gt_in (tb2 (List.mem_of_getElem? (i := 58) rfl)) rfl
theorem w_Re_readWordOrNumber : Cond.code (mnam m_Re_readWordOrNumber) (mbt m_Re_readWordOrNumber) (mml m_Re_readWordOrNumber) (mrt m_Re_readWordOrNumber) ∈ gt_ws := gt_in (tb2 (List.mem_of_getElem? (i := 62) rfl)) rfl
theorem w_Re_isDigit : Cond.code (mnam m_Re_isDigit) (mbt m_Re_isDigit) (mml m_Re_isDigit) (mrt m_Re_isDigit) ∈ gt_ws := gt_in (tb2 (List.mem_of_getElem? (i := 65) rfl)) rfl
theorem w_Re_isLetter : Cond.code (mnam m_Re_isLetter) (mbt m_Re_isLetter) (mml m_Re_isLetter) (mrt m_Re_isLetter) ∈ gt_ws := gt_in (tb2 (List.mem_of_getElem? (i := 68) rfl)) rfl
theorem w_Re_isWord : Cond.code (mnam m_Re_isWord) (mbt m_Re_isWord) (mml m_Re_isWord) (mrt m_Re_isWord) ∈ gt_ws := gt_in (tb2 (List.mem_of_getElem? (i := 73) rfl)) rfl
theorem w_Sg_length : Cond.code (mnam m_Sg_length) (mbt m_Sg_length) (mml m_Sg_length) (mrt m_Sg_length) ∈ gt_ws := gt_in (tb2 (List.mem_of_getElem? (i := 77) rfl)) rfl
theorem w_Sg_coder : Cond.code (mnam m_Sg_coder) (mbt m_Sg_coder) (mml m_Sg_coder) (mrt m_Sg_coder) ∈ gt_ws := gt_in (tb2 (List.mem_of_getElem? (i := 81) rfl)) rfl
theorem w_Sg_charAt : Cond.code (mnam m_Sg_charAt) (mbt m_Sg_charAt) (mml m_Sg_charAt) (mrt m_Sg_charAt) ∈ gt_ws := gt_in (tb2 (List.mem_of_getElem? (i := 87) rfl)) rfl
theorem w_Sg_isLatin1 : Cond.code (mnam m_Sg_isLatin1) (mbt m_Sg_isLatin1) (mml m_Sg_isLatin1) (mrt m_Sg_isLatin1) ∈ gt_ws := gt_in (tb2 (List.mem_of_getElem? (i := 91) rfl)) rfl
theorem w_Sl_charAt : Cond.code (mnam m_Sl_charAt) (mbt m_Sl_charAt) (mml m_Sl_charAt) (mrt m_Sl_charAt) ∈ gt_ws := gt_in (tb2 (List.mem_of_getElem? (i := 94) rfl)) rfl
theorem w_Sg_checkIndex : Cond.code (mnam m_Sg_checkIndex) (mbt m_Sg_checkIndex) (mml m_Sg_checkIndex) (mrt m_Sg_checkIndex) ∈ gt_ws := gt_in (tb2 (List.mem_of_getElem? (i := 97) rfl)) rfl
theorem w_Pr_checkIndex : Cond.code (mnam m_Pr_checkIndex) (mbt m_Pr_checkIndex) (mml m_Pr_checkIndex) (mrt m_Pr_checkIndex) ∈ gt_ws := gt_in (tb2 (List.mem_of_getElem? (i := 102) rfl)) rfl
theorem w_Re_readSizeLine : Cond.code (mnam m_Re_readSizeLine) (mbt m_Re_readSizeLine) (mml m_Re_readSizeLine) (mrt m_Re_readSizeLine) ∈ gt_ws := gt_in (tb2 (List.mem_of_getElem? (i := 128) rfl)) rfl
theorem w_Re_refuse : Cond.code (mnam m_Re_refuse) (mbt m_Re_refuse) (mml m_Re_refuse) (mrt m_Re_refuse) ∈ gt_ws := gt_in (tb2 (List.mem_of_getElem? (i := 132) rfl)) rfl
theorem w_Re_readSemicolon : Cond.code (mnam m_Re_readSemicolon) (mbt m_Re_readSemicolon) (mml m_Re_readSemicolon) (mrt m_Re_readSemicolon) ∈ gt_ws := gt_in (tb2 (List.mem_of_getElem? (i := 136) rfl)) rfl
theorem w_Re_readSeriesLine : Cond.code (mnam m_Re_readSeriesLine) (mbt m_Re_readSeriesLine) (mml m_Re_readSeriesLine) (mrt m_Re_readSeriesLine) ∈ gt_ws := gt_in (tb2 (List.mem_of_getElem? (i := 140) rfl)) rfl
theorem w_Re_readSum : Cond.code (mnam m_Re_readSum) (mbt m_Re_readSum) (mml m_Re_readSum) (mrt m_Re_readSum) ∈ gt_ws := gt_in (tb2 (List.mem_of_getElem? (i := 144) rfl)) rfl
theorem w_Rw_difference : Cond.code (mnam m_Rw_difference) (mbt m_Rw_difference) (mml m_Rw_difference) (mrt m_Rw_difference) ∈ gt_ws := gt_in (tb2 (List.mem_of_getElem? (i := 148) rfl)) rfl
theorem w_Rw_divide : Cond.code (mnam m_Rw_divide) (mbt m_Rw_divide) (mml m_Rw_divide) (mrt m_Rw_divide) ∈ gt_ws := gt_in (tb2 (List.mem_of_getElem? (i := 152) rfl)) rfl
theorem w_Rw_inverse : Cond.code (mnam m_Rw_inverse) (mbt m_Rw_inverse) (mml m_Rw_inverse) (mrt m_Rw_inverse) ∈ gt_ws := gt_in (tb2 (List.mem_of_getElem? (i := 155) rfl)) rfl
theorem w_Rw_product : Cond.code (mnam m_Rw_product) (mbt m_Rw_product) (mml m_Rw_product) (mrt m_Rw_product) ∈ gt_ws := gt_in (tb2 (List.mem_of_getElem? (i := 161) rfl)) rfl
theorem w_Re_readTableLine : Cond.code (mnam m_Re_readTableLine) (mbt m_Re_readTableLine) (mml m_Re_readTableLine) (mrt m_Re_readTableLine) ∈ gt_ws := gt_in (tb2 (List.mem_of_getElem? (i := 165) rfl)) rfl
theorem w_Re_isToldSeries : Cond.code (mnam m_Re_isToldSeries) (mbt m_Re_isToldSeries) (mml m_Re_isToldSeries) (mrt m_Re_isToldSeries) ∈ gt_ws := gt_in (tb2 (List.mem_of_getElem? (i := 169) rfl)) rfl
theorem w_Rw_makeTable : Cond.code (mnam m_Rw_makeTable) (mbt m_Rw_makeTable) (mml m_Rw_makeTable) (mrt m_Rw_makeTable) ∈ gt_ws := gt_in (tb2 (List.mem_of_getElem? (i := 172) rfl)) rfl
theorem w_Rw_canBeReversed : Cond.code (mnam m_Rw_canBeReversed) (mbt m_Rw_canBeReversed) (mml m_Rw_canBeReversed) (mrt m_Rw_canBeReversed) ∈ gt_ws := gt_in (tb2 (List.mem_of_getElem? (i := 175) rfl)) rfl
theorem w_Ta_become : Cond.code (mnam m_Ta_become) (mbt m_Ta_become) (mml m_Ta_become) (mrt m_Ta_become) ∈ gt_ws := gt_in (tb2 (List.mem_of_getElem? (i := 179) rfl)) rfl
theorem w_St_copyFrom : Cond.code (mnam m_St_copyFrom) (mbt m_St_copyFrom) (mml m_St_copyFrom) (mrt m_St_copyFrom) ∈ gt_ws := gt_in (tb2 (List.mem_of_getElem? (i := 186) rfl)) rfl
theorem w_Ta_copyFrom : Cond.code (mnam m_Ta_copyFrom) (mbt m_Ta_copyFrom) (mml m_Ta_copyFrom) (mrt m_Ta_copyFrom) ∈ gt_ws := gt_in (tb2 (List.mem_of_getElem? (i := 191) rfl)) rfl
theorem w_Hi_forget : Cond.code (mnam m_Hi_forget) (mbt m_Hi_forget) (mml m_Hi_forget) (mrt m_Hi_forget) ∈ gt_ws := gt_in (tb2 (List.mem_of_getElem? (i := 196) rfl)) rfl
theorem w_X_fault : Cond.code (mnam m_X_fault) (mbt m_X_fault) (mml m_X_fault) (mrt m_X_fault) ∈ gt_ws := gt_in (tb2 (List.mem_of_getElem? (i := 200) rfl)) rfl
theorem w_X_now : Cond.code (mnam m_X_now) (mbt m_X_now) (mml m_X_now) (mrt m_X_now) ∈ gt_ws := gt_in (tb2 (List.mem_of_getElem? (i := 204) rfl)) rfl
theorem w_X_at : Cond.code (mnam m_X_at) (mbt m_X_at) (mml m_X_at) (mrt m_X_at) ∈ gt_ws := gt_in (tb2 (List.mem_of_getElem? (i := 208) rfl)) rfl
theorem w_X_isSeries : Cond.code (mnam m_X_isSeries) (mbt m_X_isSeries) (mml m_X_isSeries) (mrt m_X_isSeries) ∈ gt_ws := gt_in (tb2 (List.mem_of_getElem? (i := 212) rfl)) rfl
theorem w_X_isWithinSize : Cond.code (mnam m_X_isWithinSize) (mbt m_X_isWithinSize) (mml m_X_isWithinSize) (mrt m_X_isWithinSize) ∈ gt_ws := gt_in (tb2 (List.mem_of_getElem? (i := 216) rfl)) rfl
theorem w_X_put : Cond.code (mnam m_X_put) (mbt m_X_put) (mml m_X_put) (mrt m_X_put) ∈ gt_ws := gt_in (tb2 (List.mem_of_getElem? (i := 220) rfl)) rfl
theorem w_Hi_keep : Cond.code (mnam m_Hi_keep) (mbt m_Hi_keep) (mml m_Hi_keep) (mrt m_Hi_keep) ∈ gt_ws := gt_in (tb2 (List.mem_of_getElem? (i := 224) rfl)) rfl
theorem w_Ma_min : Cond.code (mnam m_Ma_min) (mbt m_Ma_min) (mml m_Ma_min) (mrt m_Ma_min) ∈ gt_ws := gt_in (tb2 (List.mem_of_getElem? (i := 228) rfl)) rfl
theorem w_Ma_floorMod : Cond.code (mnam m_Ma_floorMod) (mbt m_Ma_floorMod) (mml m_Ma_floorMod) (mrt m_Ma_floorMod) ∈ gt_ws := gt_in (tb2 (List.mem_of_getElem? (i := 232) rfl)) rfl
theorem w_X_make : Cond.code (mnam m_X_make) (mbt m_X_make) (mml m_X_make) (mrt m_X_make) ∈ gt_ws := gt_in (tb2 (List.mem_of_getElem? (i := 236) rfl)) rfl
theorem w_Sb_combine : Cond.code (mnam m_Sb_combine) (mbt m_Sb_combine) (mml m_Sb_combine) (mrt m_Sb_combine) ∈ gt_ws := gt_in (tb3 (List.mem_of_getElem? (i := 0) rfl)) rfl
theorem w_Rw_add : Cond.code (mnam m_Rw_add) (mbt m_Rw_add) (mml m_Rw_add) (mrt m_Rw_add) ∈ gt_ws := gt_in (tb3 (List.mem_of_getElem? (i := 4) rfl)) rfl
theorem w_Rw_subtract : Cond.code (mnam m_Rw_subtract) (mbt m_Rw_subtract) (mml m_Rw_subtract) (mrt m_Rw_subtract) ∈ gt_ws := gt_in (tb3 (List.mem_of_getElem? (i := 7) rfl)) rfl
theorem w_Rw_multiply : Cond.code (mnam m_Rw_multiply) (mbt m_Rw_multiply) (mml m_Rw_multiply) (mrt m_Rw_multiply) ∈ gt_ws := gt_in (tb3 (List.mem_of_getElem? (i := 10) rfl)) rfl
theorem w_Rw_coefficient : Cond.code (mnam m_Rw_coefficient) (mbt m_Rw_coefficient) (mml m_Rw_coefficient) (mrt m_Rw_coefficient) ∈ gt_ws := gt_in (tb3 (List.mem_of_getElem? (i := 13) rfl)) rfl
theorem w_Rw_insert : Cond.code (mnam m_Rw_insert) (mbt m_Rw_insert) (mml m_Rw_insert) (mrt m_Rw_insert) ∈ gt_ws := gt_in (tb3 (List.mem_of_getElem? (i := 17) rfl)) rfl
theorem w_X_landSeries : Cond.code (mnam m_X_landSeries) (mbt m_X_landSeries) (mml m_X_landSeries) (mrt m_X_landSeries) ∈ gt_ws := gt_in (tb3 (List.mem_of_getElem? (i := 22) rfl)) rfl
theorem w_X_turn : Cond.code (mnam m_X_turn) (mbt m_X_turn) (mml m_X_turn) (mrt m_X_turn) ∈ gt_ws := gt_in (tb3 (List.mem_of_getElem? (i := 27) rfl)) rfl
theorem w_Sb_turnAbout : Cond.code (mnam m_Sb_turnAbout) (mbt m_Sb_turnAbout) (mml m_Sb_turnAbout) (mrt m_Sb_turnAbout) ∈ gt_ws := gt_in (tb3 (List.mem_of_getElem? (i := 31) rfl)) rfl
theorem w_Rw_oneAhead : Cond.code (mnam m_Rw_oneAhead) (mbt m_Rw_oneAhead) (mml m_Rw_oneAhead) (mrt m_Rw_oneAhead) ∈ gt_ws := gt_in (tb3 (List.mem_of_getElem? (i := 34) rfl)) rfl
theorem w_Sb_differentiate : Cond.code (mnam m_Sb_differentiate) (mbt m_Sb_differentiate) (mml m_Sb_differentiate) (mrt m_Sb_differentiate) ∈ gt_ws := gt_in (tb3 (List.mem_of_getElem? (i := 38) rfl)) rfl
theorem w_Sb_integrate : Cond.code (mnam m_Sb_integrate) (mbt m_Sb_integrate) (mml m_Sb_integrate) (mrt m_Sb_integrate) ∈ gt_ws := gt_in (tb3 (List.mem_of_getElem? (i := 43) rfl)) rfl
theorem w_Sb_reverse : Cond.code (mnam m_Sb_reverse) (mbt m_Sb_reverse) (mml m_Sb_reverse) (mrt m_Sb_reverse) ∈ gt_ws := gt_in (tb3 (List.mem_of_getElem? (i := 49) rfl)) rfl
theorem w_X_raise : Cond.code (mnam m_X_raise) (mbt m_X_raise) (mml m_X_raise) (mrt m_X_raise) ∈ gt_ws := gt_in (tb3 (List.mem_of_getElem? (i := 54) rfl)) rfl
theorem w_Sb_raiseTo : Cond.code (mnam m_Sb_raiseTo) (mbt m_Sb_raiseTo) (mml m_Sb_raiseTo) (mrt m_Sb_raiseTo) ∈ gt_ws := gt_in (tb3 (List.mem_of_getElem? (i := 58) rfl)) rfl
theorem w_X_pair : Cond.code (mnam m_X_pair) (mbt m_X_pair) (mml m_X_pair) (mrt m_X_pair) ∈ gt_ws := gt_in (tb3 (List.mem_of_getElem? (i := 62) rfl)) rfl
theorem w_X_isTable : Cond.code (mnam m_X_isTable) (mbt m_X_isTable) (mml m_X_isTable) (mrt m_X_isTable) ∈ gt_ws := gt_in (tb3 (List.mem_of_getElem? (i := 66) rfl)) rfl
theorem w_X_landTable : Cond.code (mnam m_X_landTable) (mbt m_X_landTable) (mml m_X_landTable) (mrt m_X_landTable) ∈ gt_ws := gt_in (tb3 (List.mem_of_getElem? (i := 72) rfl)) rfl
theorem w_Tb_entryOf : Cond.code (mnam m_Tb_entryOf) (mbt m_Tb_entryOf) (mml m_Tb_entryOf) (mrt m_Tb_entryOf) ∈ gt_ws := gt_in (tb3 (List.mem_of_getElem? (i := 77) rfl)) rfl
theorem w_X_times : Cond.code (mnam m_X_times) (mbt m_X_times) (mml m_X_times) (mrt m_X_times) ∈ gt_ws := gt_in (tb3 (List.mem_of_getElem? (i := 83) rfl)) rfl
theorem w_Tb_multiply : Cond.code (mnam m_Tb_multiply) (mbt m_Tb_multiply) (mml m_Tb_multiply) (mrt m_Tb_multiply) ∈ gt_ws := gt_in (tb3 (List.mem_of_getElem? (i := 86) rfl)) rfl
theorem w_X_power : Cond.code (mnam m_X_power) (mbt m_X_power) (mml m_X_power) (mrt m_X_power) ∈ gt_ws := gt_in (tb3 (List.mem_of_getElem? (i := 91) rfl)) rfl
theorem w_Tb_powerOf : Cond.code (mnam m_Tb_powerOf) (mbt m_Tb_powerOf) (mml m_Tb_powerOf) (mrt m_Tb_powerOf) ∈ gt_ws := gt_in (tb3 (List.mem_of_getElem? (i := 95) rfl)) rfl
theorem w_Tb_invert : Cond.code (mnam m_Tb_invert) (mbt m_Tb_invert) (mml m_Tb_invert) (mrt m_Tb_invert) ∈ gt_ws := gt_in (tb3 (List.mem_of_getElem? (i := 99) rfl)) rfl
theorem w_Ma_abs : Cond.code (mnam m_Ma_abs) (mbt m_Ma_abs) (mml m_Ma_abs) (mrt m_Ma_abs) ∈ gt_ws := gt_in (tb3 (List.mem_of_getElem? (i := 107) rfl)) rfl
theorem w_X_part : Cond.code (mnam m_X_part) (mbt m_X_part) (mml m_X_part) (mrt m_X_part) ∈ gt_ws := gt_in (tb3 (List.mem_of_getElem? (i := 112) rfl)) rfl
theorem w_Tb_partOf : Cond.code (mnam m_Tb_partOf) (mbt m_Tb_partOf) (mml m_Tb_partOf) (mrt m_Tb_partOf) ∈ gt_ws := gt_in (tb3 (List.mem_of_getElem? (i := 116) rfl)) rfl
theorem w_Tb_findA : Cond.code (mnam m_Tb_findA) (mbt m_Tb_findA) (mml m_Tb_findA) (mrt m_Tb_findA) ∈ gt_ws := gt_in (tb3 (List.mem_of_getElem? (i := 120) rfl)) rfl
theorem w_Tb_findZ : Cond.code (mnam m_Tb_findZ) (mbt m_Tb_findZ) (mml m_Tb_findZ) (mrt m_Tb_findZ) ∈ gt_ws := gt_in (tb3 (List.mem_of_getElem? (i := 125) rfl)) rfl
theorem w_X_apply : Cond.code (mnam m_X_apply) (mbt m_X_apply) (mml m_X_apply) (mrt m_X_apply) ∈ gt_ws := gt_in (tb3 (List.mem_of_getElem? (i := 130) rfl)) rfl
theorem w_Tb_makeOf : Cond.code (mnam m_Tb_makeOf) (mbt m_Tb_makeOf) (mml m_Tb_makeOf) (mrt m_Tb_makeOf) ∈ gt_ws := gt_in (tb3 (List.mem_of_getElem? (i := 134) rfl)) rfl
theorem w_X_sums : Cond.code (mnam m_X_sums) (mbt m_X_sums) (mml m_X_sums) (mrt m_X_sums) ∈ gt_ws := gt_in (tb3 (List.mem_of_getElem? (i := 138) rfl)) rfl
theorem w_Tb_sumRows : Cond.code (mnam m_Tb_sumRows) (mbt m_Tb_sumRows) (mml m_Tb_sumRows) (mrt m_Tb_sumRows) ∈ gt_ws := gt_in (tb3 (List.mem_of_getElem? (i := 142) rfl)) rfl
theorem w_Tb_fillColumns : Cond.code (mnam m_Tb_fillColumns) (mbt m_Tb_fillColumns) (mml m_Tb_fillColumns) (mrt m_Tb_fillColumns) ∈ gt_ws := gt_in (tb3 (List.mem_of_getElem? (i := 145) rfl)) rfl
theorem w_Tb_termOfSum : Cond.code (mnam m_Tb_termOfSum) (mbt m_Tb_termOfSum) (mml m_Tb_termOfSum) (mrt m_Tb_termOfSum) ∈ gt_ws := gt_in (tb3 (List.mem_of_getElem? (i := 149) rfl)) rfl
theorem w_X_kinds : Cond.code (mnam m_X_kinds) (mbt m_X_kinds) (mml m_X_kinds) (mrt m_X_kinds) ∈ gt_ws := gt_in (tb3 (List.mem_of_getElem? (i := 155) rfl)) rfl
theorem w_Tb_kindsOf : Cond.code (mnam m_Tb_kindsOf) (mbt m_Tb_kindsOf) (mml m_Tb_kindsOf) (mrt m_Tb_kindsOf) ∈ gt_ws := gt_in (tb3 (List.mem_of_getElem? (i := 159) rfl)) rfl
theorem w_Rw_isT : Cond.code (mnam m_Rw_isT) (mbt m_Rw_isT) (mml m_Rw_isT) (mrt m_Rw_isT) ∈ gt_ws := gt_in (tb3 (List.mem_of_getElem? (i := 162) rfl)) rfl
theorem w_Rw_isZeroFrom : Cond.code (mnam m_Rw_isZeroFrom) (mbt m_Rw_isZeroFrom) (mml m_Rw_isZeroFrom) (mrt m_Rw_isZeroFrom) ∈ gt_ws := gt_in (tb3 (List.mem_of_getElem? (i := 165) rfl)) rfl
theorem w_Rw_isOne : Cond.code (mnam m_Rw_isOne) (mbt m_Rw_isOne) (mml m_Rw_isOne) (mrt m_Rw_isOne) ∈ gt_ws := gt_in (tb3 (List.mem_of_getElem? (i := 168) rfl)) rfl
theorem w_Tb_isShifted : Cond.code (mnam m_Tb_isShifted) (mbt m_Tb_isShifted) (mml m_Tb_isShifted) (mrt m_Tb_isShifted) ∈ gt_ws := gt_in (tb3 (List.mem_of_getElem? (i := 171) rfl)) rfl
theorem w_Tb_isDerivative : Cond.code (mnam m_Tb_isDerivative) (mbt m_Tb_isDerivative) (mml m_Tb_isDerivative) (mrt m_Tb_isDerivative) ∈ gt_ws := gt_in (tb3 (List.mem_of_getElem? (i := 174) rfl)) rfl
theorem w_Tb_isChequered : Cond.code (mnam m_Tb_isChequered) (mbt m_Tb_isChequered) (mml m_Tb_isChequered) (mrt m_Tb_isChequered) ∈ gt_ws := gt_in (tb3 (List.mem_of_getElem? (i := 179) rfl)) rfl
theorem w_X_differ : Cond.code (mnam m_X_differ) (mbt m_X_differ) (mml m_X_differ) (mrt m_X_differ) ∈ gt_ws := gt_in (tb3 (List.mem_of_getElem? (i := 183) rfl)) rfl
theorem w_Tb_firstDifference : Cond.code (mnam m_Tb_firstDifference) (mbt m_Tb_firstDifference) (mml m_Tb_firstDifference) (mrt m_Tb_firstDifference) ∈ gt_ws := gt_in (tb3 (List.mem_of_getElem? (i := 187) rfl)) rfl
theorem w_Tb_firstOfChangedPlaces : Cond.code (mnam m_Tb_firstOfChangedPlaces) (mbt m_Tb_firstOfChangedPlaces) (mml m_Tb_firstOfChangedPlaces) (mrt m_Tb_firstOfChangedPlaces) ∈ gt_ws := gt_in (tb3 (List.mem_of_getElem? (i := 191) rfl)) rfl
theorem w_X_fails : Cond.code (mnam m_X_fails) (mbt m_X_fails) (mml m_X_fails) (mrt m_X_fails) ∈ gt_ws := gt_in (tb3 (List.mem_of_getElem? (i := 196) rfl)) rfl
theorem w_X_free : Cond.code (mnam m_X_free) (mbt m_X_free) (mml m_X_free) (mrt m_X_free) ∈ gt_ws := gt_in (tb3 (List.mem_of_getElem? (i := 200) rfl)) rfl
theorem w_X_set : Cond.code (mnam m_X_set) (mbt m_X_set) (mml m_X_set) (mrt m_X_set) ∈ gt_ws := gt_in (tb3 (List.mem_of_getElem? (i := 204) rfl)) rfl
theorem w_X_lay : Cond.code (mnam m_X_lay) (mbt m_X_lay) (mml m_X_lay) (mrt m_X_lay) ∈ gt_ws := gt_in (tb3 (List.mem_of_getElem? (i := 208) rfl)) rfl
theorem w_Tb_layEntries : Cond.code (mnam m_Tb_layEntries) (mbt m_Tb_layEntries) (mml m_Tb_layEntries) (mrt m_Tb_layEntries) ∈ gt_ws := gt_in (tb3 (List.mem_of_getElem? (i := 212) rfl)) rfl
theorem w_X_unlike : Cond.code (mnam m_X_unlike) (mbt m_X_unlike) (mml m_X_unlike) (mrt m_X_unlike) ∈ gt_ws := gt_in (tb3 (List.mem_of_getElem? (i := 216) rfl)) rfl
theorem w_Tb_recognise : Cond.code (mnam m_Tb_recognise) (mbt m_Tb_recognise) (mml m_Tb_recognise) (mrt m_Tb_recognise) ∈ gt_ws := gt_in (tb3 (List.mem_of_getElem? (i := 220) rfl)) rfl
theorem w_X_rebuild : Cond.code (mnam m_X_rebuild) (mbt m_X_rebuild) (mml m_X_rebuild) (mrt m_X_rebuild) ∈ gt_ws := gt_in (tb3 (List.mem_of_getElem? (i := 224) rfl)) rfl
theorem w_X_drawn : Cond.code (mnam m_X_drawn) (mbt m_X_drawn) (mml m_X_drawn) (mrt m_X_drawn) ∈ gt_ws := gt_in (tb3 (List.mem_of_getElem? (i := 228) rfl)) rfl
theorem w_X_nextSeed : Cond.code (mnam m_X_nextSeed) (mbt m_X_nextSeed) (mml m_X_nextSeed) (mrt m_X_nextSeed) ∈ gt_ws := gt_in (tb3 (List.mem_of_getElem? (i := 231) rfl)) rfl
theorem w_X_drawOf : Cond.code (mnam m_X_drawOf) (mbt m_X_drawOf) (mml m_X_drawOf) (mrt m_X_drawOf) ∈ gt_ws := gt_in (tb3 (List.mem_of_getElem? (i := 235) rfl)) rfl
theorem w_St_sumOfSeries : Cond.code (mnam m_St_sumOfSeries) (mbt m_St_sumOfSeries) (mml m_St_sumOfSeries) (mrt m_St_sumOfSeries) ∈ gt_ws := gt_in (tb3 (List.mem_of_getElem? (i := 239) rfl)) rfl
theorem w_X_undo : Cond.code (mnam m_X_undo) (mbt m_X_undo) (mml m_X_undo) (mrt m_X_undo) ∈ gt_ws := gt_in (tb4 (List.mem_of_getElem? (i := 4) rfl)) rfl
theorem w_Hi_takeBack : Cond.code (mnam m_Hi_takeBack) (mbt m_Hi_takeBack) (mml m_Hi_takeBack) (mrt m_Hi_takeBack) ∈ gt_ws := gt_in (tb4 (List.mem_of_getElem? (i := 8) rfl)) rfl
theorem w_X_image : Cond.code (mnam m_X_image) (mbt m_X_image) (mml m_X_image) (mrt m_X_image) ∈ gt_ws := gt_in (tb4 (List.mem_of_getElem? (i := 12) rfl)) rfl
theorem w_X_restore : Cond.code (mnam m_X_restore) (mbt m_X_restore) (mml m_X_restore) (mrt m_X_restore) ∈ gt_ws := gt_in (tb4 (List.mem_of_getElem? (i := 16) rfl)) rfl
theorem w_X_entry : Cond.code (mnam m_X_entry) (mbt m_X_entry) (mml m_X_entry) (mrt m_X_entry) ∈ gt_ws := gt_in (tb4 (List.mem_of_getElem? (i := 24) rfl)) rfl
theorem w_X_production : Cond.code (mnam m_X_production) (mbt m_X_production) (mml m_X_production) (mrt m_X_production) ∈ gt_ws := gt_in (tb4 (List.mem_of_getElem? (i := 92) rfl)) rfl
theorem w_X_isWithinProduction : Cond.code (mnam m_X_isWithinProduction) (mbt m_X_isWithinProduction) (mml m_X_isWithinProduction) (mrt m_X_isWithinProduction) ∈ gt_ws := gt_in (tb4 (List.mem_of_getElem? (i := 96) rfl)) rfl
theorem w_Tb_productionOf : Cond.code (mnam m_Tb_productionOf) (mbt m_Tb_productionOf) (mml m_Tb_productionOf) (mrt m_Tb_productionOf) ∈ gt_ws := gt_in (tb4 (List.mem_of_getElem? (i := 100) rfl)) rfl
theorem w_Md_thrown : Cond.code (mnam m_Md_thrown) (mbt m_Md_thrown) (mml m_Md_thrown) (mrt m_Md_thrown) ∈ gt_ws := gt_in (tb4 (List.mem_of_getElem? (i := 105) rfl)) rfl
theorem w_Md_feed : Cond.code (mnam m_Md_feed) (mbt m_Md_feed) (mml m_Md_feed) (mrt m_Md_feed) ∈ gt_ws := gt_in (tb4 (List.mem_of_getElem? (i := 109) rfl)) rfl
theorem w_Md_lays : Cond.code (mnam m_Md_lays) (mbt m_Md_lays) (mml m_Md_lays) (mrt m_Md_lays) ∈ gt_ws := gt_in (tb4 (List.mem_of_getElem? (i := 114) rfl)) rfl
theorem w_Md_end : Cond.code (mnam m_Md_end) (mbt m_Md_end) (mml m_Md_end) (mrt m_Md_end) ∈ gt_ws := gt_in (tb4 (List.mem_of_getElem? (i := 118) rfl)) rfl
theorem w_Md_init : Cond.code (mnam m_Md_init) (mbt m_Md_init) (mml m_Md_init) (mrt m_Md_init) ∈ gt_ws := gt_in (tb4 (List.mem_of_getElem? (i := 122) rfl)) rfl
theorem w_Md_text : Cond.code (mnam m_Md_text) (mbt m_Md_text) (mml m_Md_text) (mrt m_Md_text) ∈ gt_ws := gt_in (tb4 (List.mem_of_getElem? (i := 221) rfl)) rfl
theorem w_Md_next : Cond.code (mnam m_Md_next) (mbt m_Md_next) (mml m_Md_next) (mrt m_Md_next) ∈ gt_ws := gt_in (tb4 (List.mem_of_getElem? (i := 225) rfl)) rfl
theorem w_Md_isLetter : Cond.code (mnam m_Md_isLetter) (mbt m_Md_isLetter) (mml m_Md_isLetter) (mrt m_Md_isLetter) ∈ gt_ws := gt_in (tb4 (List.mem_of_getElem? (i := 228) rfl)) rfl
theorem w_Md_isDigit : Cond.code (mnam m_Md_isDigit) (mbt m_Md_isDigit) (mml m_Md_isDigit) (mrt m_Md_isDigit) ∈ gt_ws := gt_in (tb4 (List.mem_of_getElem? (i := 231) rfl)) rfl
theorem w_Md_tapeAt : Cond.code (mnam m_Md_tapeAt) (mbt m_Md_tapeAt) (mml m_Md_tapeAt) (mrt m_Md_tapeAt) ∈ gt_ws := gt_in (tb4 (List.mem_of_getElem? (i := 235) rfl)) rfl
theorem w_Md_readLine : Cond.code (mnam m_Md_readLine) (mbt m_Md_readLine) (mml m_Md_readLine) (mrt m_Md_readLine) ∈ gt_ws := gt_in (tb4 (List.mem_of_getElem? (i := 239) rfl)) rfl
theorem w_Md_isWord : Cond.code (mnam m_Md_isWord) (mbt m_Md_isWord) (mml m_Md_isWord) (mrt m_Md_isWord) ∈ gt_ws := gt_in (tb5 (List.mem_of_getElem? (i := 3) rfl)) rfl
theorem w_Md_readSize : Cond.code (mnam m_Md_readSize) (mbt m_Md_readSize) (mml m_Md_readSize) (mrt m_Md_readSize) ∈ gt_ws := gt_in (tb5 (List.mem_of_getElem? (i := 7) rfl)) rfl
theorem w_Md_bad : Cond.code (mnam m_Md_bad) (mbt m_Md_bad) (mml m_Md_bad) (mrt m_Md_bad) ∈ gt_ws := gt_in (tb5 (List.mem_of_getElem? (i := 11) rfl)) rfl
theorem w_Md_isIn : Cond.code (mnam m_Md_isIn) (mbt m_Md_isIn) (mml m_Md_isIn) (mrt m_Md_isIn) ∈ gt_ws := gt_in (tb5 (List.mem_of_getElem? (i := 14) rfl)) rfl
theorem w_Md_readSeries : Cond.code (mnam m_Md_readSeries) (mbt m_Md_readSeries) (mml m_Md_readSeries) (mrt m_Md_readSeries) ∈ gt_ws := gt_in (tb5 (List.mem_of_getElem? (i := 18) rfl)) rfl
theorem w_Md_readSum : Cond.code (mnam m_Md_readSum) (mbt m_Md_readSum) (mml m_Md_readSum) (mrt m_Md_readSum) ∈ gt_ws := gt_in (tb5 (List.mem_of_getElem? (i := 22) rfl)) rfl
theorem w_Md_rest : Cond.code (mnam m_Md_rest) (mbt m_Md_rest) (mml m_Md_rest) (mrt m_Md_rest) ∈ gt_ws := gt_in (tb5 (List.mem_of_getElem? (i := 25) rfl)) rfl
theorem w_Md_divides : Cond.code (mnam m_Md_divides) (mbt m_Md_divides) (mml m_Md_divides) (mrt m_Md_divides) ∈ gt_ws := gt_in (tb5 (List.mem_of_getElem? (i := 29) rfl)) rfl
theorem w_Md_turned : Cond.code (mnam m_Md_turned) (mbt m_Md_turned) (mml m_Md_turned) (mrt m_Md_turned) ∈ gt_ws := gt_in (tb5 (List.mem_of_getElem? (i := 32) rfl)) rfl
theorem w_Md_readTable : Cond.code (mnam m_Md_readTable) (mbt m_Md_readTable) (mml m_Md_readTable) (mrt m_Md_readTable) ∈ gt_ws := gt_in (tb5 (List.mem_of_getElem? (i := 37) rfl)) rfl
theorem w_Md_makesTable : Cond.code (mnam m_Md_makesTable) (mbt m_Md_makesTable) (mml m_Md_makesTable) (mrt m_Md_makesTable) ∈ gt_ws := gt_in (tb5 (List.mem_of_getElem? (i := 40) rfl)) rfl
theorem w_Md_readEnd : Cond.code (mnam m_Md_readEnd) (mbt m_Md_readEnd) (mml m_Md_readEnd) (mrt m_Md_readEnd) ∈ gt_ws := gt_in (tb5 (List.mem_of_getElem? (i := 44) rfl)) rfl
theorem w_Md_copy : Cond.code (mnam m_Md_copy) (mbt m_Md_copy) (mml m_Md_copy) (mrt m_Md_copy) ∈ gt_ws := gt_in (tb5 (List.mem_of_getElem? (i := 47) rfl)) rfl
theorem w_Md_fault : Cond.code (mnam m_Md_fault) (mbt m_Md_fault) (mml m_Md_fault) (mrt m_Md_fault) ∈ gt_ws := gt_in (tb5 (List.mem_of_getElem? (i := 51) rfl)) rfl
theorem w_Md_now : Cond.code (mnam m_Md_now) (mbt m_Md_now) (mml m_Md_now) (mrt m_Md_now) ∈ gt_ws := gt_in (tb5 (List.mem_of_getElem? (i := 55) rfl)) rfl
theorem w_Md_wide : Cond.code (mnam m_Md_wide) (mbt m_Md_wide) (mml m_Md_wide) (mrt m_Md_wide) ∈ gt_ws := gt_in (tb5 (List.mem_of_getElem? (i := 59) rfl)) rfl
theorem w_Md_at : Cond.code (mnam m_Md_at) (mbt m_Md_at) (mml m_Md_at) (mrt m_Md_at) ∈ gt_ws := gt_in (tb5 (List.mem_of_getElem? (i := 63) rfl)) rfl
theorem w_Md_isSeries : Cond.code (mnam m_Md_isSeries) (mbt m_Md_isSeries) (mml m_Md_isSeries) (mrt m_Md_isSeries) ∈ gt_ws := gt_in (tb5 (List.mem_of_getElem? (i := 67) rfl)) rfl
theorem w_Md_isPlace : Cond.code (mnam m_Md_isPlace) (mbt m_Md_isPlace) (mml m_Md_isPlace) (mrt m_Md_isPlace) ∈ gt_ws := gt_in (tb5 (List.mem_of_getElem? (i := 71) rfl)) rfl
theorem w_Md_put : Cond.code (mnam m_Md_put) (mbt m_Md_put) (mml m_Md_put) (mrt m_Md_put) ∈ gt_ws := gt_in (tb5 (List.mem_of_getElem? (i := 75) rfl)) rfl
theorem w_Md_snap : Cond.code (mnam m_Md_snap) (mbt m_Md_snap) (mml m_Md_snap) (mrt m_Md_snap) ∈ gt_ws := gt_in (tb5 (List.mem_of_getElem? (i := 79) rfl)) rfl
theorem w_Md_make : Cond.code (mnam m_Md_make) (mbt m_Md_make) (mml m_Md_make) (mrt m_Md_make) ∈ gt_ws := gt_in (tb5 (List.mem_of_getElem? (i := 83) rfl)) rfl
theorem w_Md_takes : Cond.code (mnam m_Md_takes) (mbt m_Md_takes) (mml m_Md_takes) (mrt m_Md_takes) ∈ gt_ws := gt_in (tb5 (List.mem_of_getElem? (i := 87) rfl)) rfl
theorem w_Md_multiplies : Cond.code (mnam m_Md_multiplies) (mbt m_Md_multiplies) (mml m_Md_multiplies) (mrt m_Md_multiplies) ∈ gt_ws := gt_in (tb5 (List.mem_of_getElem? (i := 90) rfl)) rfl
theorem w_Md_laysUnit : Cond.code (mnam m_Md_laysUnit) (mbt m_Md_laysUnit) (mml m_Md_laysUnit) (mrt m_Md_laysUnit) ∈ gt_ws := gt_in (tb5 (List.mem_of_getElem? (i := 94) rfl)) rfl
theorem w_Md_columns : Cond.code (mnam m_Md_columns) (mbt m_Md_columns) (mml m_Md_columns) (mrt m_Md_columns) ∈ gt_ws := gt_in (tb5 (List.mem_of_getElem? (i := 98) rfl)) rfl
theorem w_Md_makes : Cond.code (mnam m_Md_makes) (mbt m_Md_makes) (mml m_Md_makes) (mrt m_Md_makes) ∈ gt_ws := gt_in (tb5 (List.mem_of_getElem? (i := 102) rfl)) rfl
theorem w_Md_comes : Cond.code (mnam m_Md_comes) (mbt m_Md_comes) (mml m_Md_comes) (mrt m_Md_comes) ∈ gt_ws := gt_in (tb5 (List.mem_of_getElem? (i := 106) rfl)) rfl
theorem w_Md_turn : Cond.code (mnam m_Md_turn) (mbt m_Md_turn) (mml m_Md_turn) (mrt m_Md_turn) ∈ gt_ws := gt_in (tb5 (List.mem_of_getElem? (i := 110) rfl)) rfl
theorem w_Md_reverses : Cond.code (mnam m_Md_reverses) (mbt m_Md_reverses) (mml m_Md_reverses) (mrt m_Md_reverses) ∈ gt_ws := gt_in (tb5 (List.mem_of_getElem? (i := 114) rfl)) rfl
theorem w_Md_ones : Cond.code (mnam m_Md_ones) (mbt m_Md_ones) (mml m_Md_ones) (mrt m_Md_ones) ∈ gt_ws := gt_in (tb5 (List.mem_of_getElem? (i := 117) rfl)) rfl
theorem w_Md_solves : Cond.code (mnam m_Md_solves) (mbt m_Md_solves) (mml m_Md_solves) (mrt m_Md_solves) ∈ gt_ws := gt_in (tb5 (List.mem_of_getElem? (i := 120) rfl)) rfl
theorem w_Md_raise : Cond.code (mnam m_Md_raise) (mbt m_Md_raise) (mml m_Md_raise) (mrt m_Md_raise) ∈ gt_ws := gt_in (tb5 (List.mem_of_getElem? (i := 124) rfl)) rfl
theorem w_Md_pair : Cond.code (mnam m_Md_pair) (mbt m_Md_pair) (mml m_Md_pair) (mrt m_Md_pair) ∈ gt_ws := gt_in (tb5 (List.mem_of_getElem? (i := 128) rfl)) rfl
theorem w_Md_isTable : Cond.code (mnam m_Md_isTable) (mbt m_Md_isTable) (mml m_Md_isTable) (mrt m_Md_isTable) ∈ gt_ws := gt_in (tb5 (List.mem_of_getElem? (i := 132) rfl)) rfl
theorem w_Md_comesAs : Cond.code (mnam m_Md_comesAs) (mbt m_Md_comesAs) (mml m_Md_comesAs) (mrt m_Md_comesAs) ∈ gt_ws := gt_in (tb5 (List.mem_of_getElem? (i := 136) rfl)) rfl
theorem w_Md_entry : Cond.code (mnam m_Md_entry) (mbt m_Md_entry) (mml m_Md_entry) (mrt m_Md_entry) ∈ gt_ws := gt_in (tb5 (List.mem_of_getElem? (i := 140) rfl)) rfl
theorem w_Md_refuse : Cond.code (mnam m_Md_refuse) (mbt m_Md_refuse) (mml m_Md_refuse) (mrt m_Md_refuse) ∈ gt_ws := gt_in (tb5 (List.mem_of_getElem? (i := 144) rfl)) rfl
theorem w_Md_matrix : Cond.code (mnam m_Md_matrix) (mbt m_Md_matrix) (mml m_Md_matrix) (mrt m_Md_matrix) ∈ gt_ws := gt_in (tb5 (List.mem_of_getElem? (i := 148) rfl)) rfl
theorem w_Md_times : Cond.code (mnam m_Md_times) (mbt m_Md_times) (mml m_Md_times) (mrt m_Md_times) ∈ gt_ws := gt_in (tb5 (List.mem_of_getElem? (i := 152) rfl)) rfl
theorem w_Md_product : Cond.code (mnam m_Md_product) (mbt m_Md_product) (mml m_Md_product) (mrt m_Md_product) ∈ gt_ws := gt_in (tb5 (List.mem_of_getElem? (i := 155) rfl)) rfl
theorem w_Md_power : Cond.code (mnam m_Md_power) (mbt m_Md_power) (mml m_Md_power) (mrt m_Md_power) ∈ gt_ws := gt_in (tb5 (List.mem_of_getElem? (i := 159) rfl)) rfl
theorem w_Md_part : Cond.code (mnam m_Md_part) (mbt m_Md_part) (mml m_Md_part) (mrt m_Md_part) ∈ gt_ws := gt_in (tb5 (List.mem_of_getElem? (i := 163) rfl)) rfl
theorem w_Md_laysProduction : Cond.code (mnam m_Md_laysProduction) (mbt m_Md_laysProduction) (mml m_Md_laysProduction) (mrt m_Md_laysProduction) ∈ gt_ws := gt_in (tb5 (List.mem_of_getElem? (i := 167) rfl)) rfl
theorem w_Md_apply : Cond.code (mnam m_Md_apply) (mbt m_Md_apply) (mml m_Md_apply) (mrt m_Md_apply) ∈ gt_ws := gt_in (tb5 (List.mem_of_getElem? (i := 171) rfl)) rfl
theorem w_Md_sums : Cond.code (mnam m_Md_sums) (mbt m_Md_sums) (mml m_Md_sums) (mrt m_Md_sums) ∈ gt_ws := gt_in (tb5 (List.mem_of_getElem? (i := 175) rfl)) rfl
theorem w_Md_production : Cond.code (mnam m_Md_production) (mbt m_Md_production) (mml m_Md_production) (mrt m_Md_production) ∈ gt_ws := gt_in (tb5 (List.mem_of_getElem? (i := 179) rfl)) rfl
theorem w_Md_kinds : Cond.code (mnam m_Md_kinds) (mbt m_Md_kinds) (mml m_Md_kinds) (mrt m_Md_kinds) ∈ gt_ws := gt_in (tb5 (List.mem_of_getElem? (i := 183) rfl)) rfl
theorem w_Md_kindsOf : Cond.code (mnam m_Md_kindsOf) (mbt m_Md_kindsOf) (mml m_Md_kindsOf) (mrt m_Md_kindsOf) ∈ gt_ws := gt_in (tb5 (List.mem_of_getElem? (i := 187) rfl)) rfl
theorem w_Md_unlikeAt : Cond.code (mnam m_Md_unlikeAt) (mbt m_Md_unlikeAt) (mml m_Md_unlikeAt) (mrt m_Md_unlikeAt) ∈ gt_ws := gt_in (tb5 (List.mem_of_getElem? (i := 191) rfl)) rfl
theorem w_Md_differ : Cond.code (mnam m_Md_differ) (mbt m_Md_differ) (mml m_Md_differ) (mrt m_Md_differ) ∈ gt_ws := gt_in (tb5 (List.mem_of_getElem? (i := 195) rfl)) rfl
theorem w_Md_fails : Cond.code (mnam m_Md_fails) (mbt m_Md_fails) (mml m_Md_fails) (mrt m_Md_fails) ∈ gt_ws := gt_in (tb5 (List.mem_of_getElem? (i := 199) rfl)) rfl
theorem w_Md_free : Cond.code (mnam m_Md_free) (mbt m_Md_free) (mml m_Md_free) (mrt m_Md_free) ∈ gt_ws := gt_in (tb5 (List.mem_of_getElem? (i := 203) rfl)) rfl
theorem w_Md_set : Cond.code (mnam m_Md_set) (mbt m_Md_set) (mml m_Md_set) (mrt m_Md_set) ∈ gt_ws := gt_in (tb5 (List.mem_of_getElem? (i := 207) rfl)) rfl
theorem w_Md_lay : Cond.code (mnam m_Md_lay) (mbt m_Md_lay) (mml m_Md_lay) (mrt m_Md_lay) ∈ gt_ws := gt_in (tb5 (List.mem_of_getElem? (i := 211) rfl)) rfl
theorem w_Md_unlike : Cond.code (mnam m_Md_unlike) (mbt m_Md_unlike) (mml m_Md_unlike) (mrt m_Md_unlike) ∈ gt_ws := gt_in (tb5 (List.mem_of_getElem? (i := 215) rfl)) rfl
theorem w_Md_unlikeNow : Cond.code (mnam m_Md_unlikeNow) (mbt m_Md_unlikeNow) (mml m_Md_unlikeNow) (mrt m_Md_unlikeNow) ∈ gt_ws := gt_in (tb5 (List.mem_of_getElem? (i := 219) rfl)) rfl
theorem w_Md_rebuild : Cond.code (mnam m_Md_rebuild) (mbt m_Md_rebuild) (mml m_Md_rebuild) (mrt m_Md_rebuild) ∈ gt_ws := gt_in (tb5 (List.mem_of_getElem? (i := 223) rfl)) rfl
theorem w_Md_drawn : Cond.code (mnam m_Md_drawn) (mbt m_Md_drawn) (mml m_Md_drawn) (mrt m_Md_drawn) ∈ gt_ws := gt_in (tb5 (List.mem_of_getElem? (i := 227) rfl)) rfl
theorem w_Md_draw : Cond.code (mnam m_Md_draw) (mbt m_Md_draw) (mml m_Md_draw) (mrt m_Md_draw) ∈ gt_ws := gt_in (tb5 (List.mem_of_getElem? (i := 231) rfl)) rfl
theorem w_Md_undo : Cond.code (mnam m_Md_undo) (mbt m_Md_undo) (mml m_Md_undo) (mrt m_Md_undo) ∈ gt_ws := gt_in (tb5 (List.mem_of_getElem? (i := 236) rfl)) rfl
theorem w_Md_image : Cond.code (mnam m_Md_image) (mbt m_Md_image) (mml m_Md_image) (mrt m_Md_image) ∈ gt_ws := gt_in (tb6 (List.mem_of_getElem? (i := 0) rfl)) rfl
theorem w_Md_restore : Cond.code (mnam m_Md_restore) (mbt m_Md_restore) (mml m_Md_restore) (mrt m_Md_restore) ∈ gt_ws := gt_in (tb6 (List.mem_of_getElem? (i := 4) rfl)) rfl
theorem wi_X : Cond.initialized "SeriesTables" ∈ gt_ws := gt_in (tb1 (List.mem_of_getElem? (i := 1) rfl)) rfl
theorem wi_Hi : Cond.initialized "SeriesTables$History" ∈ gt_ws := gt_in (tb1 (List.mem_of_getElem? (i := 6) rfl)) rfl
theorem wi_Re : Cond.initialized "SeriesTables$Reader" ∈ gt_ws := gt_in (tb1 (List.mem_of_getElem? (i := 2) rfl)) rfl
theorem wi_Rw : Cond.initialized "SeriesTables$Rows" ∈ gt_ws := gt_in (tb1 (List.mem_of_getElem? (i := 11) rfl)) rfl
theorem wi_Sb : Cond.initialized "SeriesTables$SeriesBench" ∈ gt_ws := gt_in (tb1 (List.mem_of_getElem? (i := 7) rfl)) rfl
theorem wi_St : Cond.initialized "SeriesTables$State" ∈ gt_ws := gt_in (tb1 (List.mem_of_getElem? (i := 3) rfl)) rfl
theorem wi_Ta : Cond.initialized "SeriesTables$Table" ∈ gt_ws := gt_in (tb1 (List.mem_of_getElem? (i := 4) rfl)) rfl
theorem wi_Tb : Cond.initialized "SeriesTables$TableBench" ∈ gt_ws := gt_in (tb1 (List.mem_of_getElem? (i := 8) rfl)) rfl
theorem wi_Tp : Cond.initialized "SeriesTables$Tape" ∈ gt_ws := gt_in (tb1 (List.mem_of_getElem? (i := 5) rfl)) rfl
theorem wi_Md : Cond.initialized "SeriesTablesModel" ∈ gt_ws := gt_in (tb1 (List.mem_of_getElem? (i := 9) rfl)) rfl
theorem wi_Ma : Cond.initialized "java/lang/Math" ∈ gt_ws := gt_in (tb1 (List.mem_of_getElem? (i := 17) rfl)) rfl
theorem wi_Sg : Cond.initialized "java/lang/String" ∈ gt_ws := gt_in (tb1 (List.mem_of_getElem? (i := 12) rfl)) rfl
theorem wi_Sl : Cond.initialized "java/lang/StringLatin1" ∈ gt_ws := gt_in (tb1 (List.mem_of_getElem? (i := 13) rfl)) rfl
theorem wi_Ar : Cond.initialized "java/util/Arrays" ∈ gt_ws := gt_in (tb1 (List.mem_of_getElem? (i := 10) rfl)) rfl
theorem wi_Pr : Cond.initialized "jdk/internal/util/Preconditions" ∈ gt_ws := gt_in (tb1 (List.mem_of_getElem? (i := 14) rfl)) rfl
theorem w_acopy : Cond.native arraycopyName ∈ gt_ws ∧ Cond.static arraycopyName ∈ gt_ws ∧ Cond.initialized "java/lang/System" ∈ gt_ws := ⟨gt_in (tb2 (List.mem_of_getElem? (i := 182) rfl)) rfl, gt_in (tb2 (List.mem_of_getElem? (i := 181) rfl)) rfl, gt_in (tb1 (List.mem_of_getElem? (i := 16) rfl)) rfl⟩
theorem w_objinit : Cond.instanceMethod objectInit ∈ gt_ws ∧ Cond.code objectInit ⟨#[0xb1]⟩ 1 none ∈ gt_ws := ⟨gt_in (tb1 (List.mem_of_getElem? (i := 28) rfl)) rfl, gt_in (tb1 (List.mem_of_getElem? (i := 29) rfl)) rfl⟩
theorem ws_X_init : Cond.instanceMethod (mnam m_X_init) ∈ gt_ws ∧ (mnam m_X_init).name = "<init>" ∧ mrt m_X_init = none := ⟨gt_in (tb1 (List.mem_of_getElem? (i := 25) rfl)) rfl, rfl, rfl⟩
theorem ws_Re_init : Cond.instanceMethod (mnam m_Re_init) ∈ gt_ws ∧ (mnam m_Re_init).name = "<init>" ∧ mrt m_Re_init = none := ⟨gt_in (tb1 (List.mem_of_getElem? (i := 33) rfl)) rfl, rfl, rfl⟩
theorem ws_St_init : Cond.instanceMethod (mnam m_St_init) ∈ gt_ws ∧ (mnam m_St_init).name = "<init>" ∧ mrt m_St_init = none := ⟨gt_in (tb1 (List.mem_of_getElem? (i := 39) rfl)) rfl, rfl, rfl⟩
theorem ws_Ta_init : Cond.instanceMethod (mnam m_Ta_init) ∈ gt_ws ∧ (mnam m_Ta_init).name = "<init>" ∧ mrt m_Ta_init = none := ⟨gt_in (tb1 (List.mem_of_getElem? (i := 48) rfl)) rfl, rfl, rfl⟩
theorem ws_Tp_init : Cond.instanceMethod (mnam m_Tp_init) ∈ gt_ws ∧ (mnam m_Tp_init).name = "<init>" ∧ mrt m_Tp_init = none := ⟨gt_in (tb1 (List.mem_of_getElem? (i := 84) rfl)) rfl, rfl, rfl⟩
theorem ws_Hi_init : Cond.instanceMethod (mnam m_Hi_init) ∈ gt_ws ∧ (mnam m_Hi_init).name = "<init>" ∧ mrt m_Hi_init = none := ⟨gt_in (tb1 (List.mem_of_getElem? (i := 147) rfl)) rfl, rfl, rfl⟩
theorem ws_Sb_init : Cond.instanceMethod (mnam m_Sb_init) ∈ gt_ws ∧ (mnam m_Sb_init).name = "<init>" ∧ mrt m_Sb_init = none := ⟨gt_in (tb1 (List.mem_of_getElem? (i := 167) rfl)) rfl, rfl, rfl⟩
theorem ws_Tb_init : Cond.instanceMethod (mnam m_Tb_init) ∈ gt_ws ∧ (mnam m_Tb_init).name = "<init>" ∧ mrt m_Tb_init = none := ⟨gt_in (tb1 (List.mem_of_getElem? (i := 185) rfl)) rfl, rfl, rfl⟩
theorem ws_X_feed : Cond.instanceMethod (mnam m_X_feed) ∈ gt_ws ∧ Cond.selects (fC 7) (mnam m_X_feed) (mnam m_X_feed) ∈ gt_ws ∧ 7 < 9 := ⟨gt_in (tb2 (List.mem_of_getElem? (i := 18) rfl)) rfl, gt_in (tb2 (List.mem_of_getElem? (i := 19) rfl)) rfl, by decide⟩
theorem ws_Tp_addFourBytes : Cond.instanceMethod (mnam m_Tp_addFourBytes) ∈ gt_ws ∧ Cond.selects (fC 6) (mnam m_Tp_addFourBytes) (mnam m_Tp_addFourBytes) ∈ gt_ws ∧ 6 < 9 := ⟨gt_in (tb2 (List.mem_of_getElem? (i := 22) rfl)) rfl, gt_in (tb2 (List.mem_of_getElem? (i := 23) rfl)) rfl, by decide⟩
theorem ws_X_end : Cond.instanceMethod (mnam m_X_end) ∈ gt_ws ∧ Cond.selects (fC 7) (mnam m_X_end) (mnam m_X_end) ∈ gt_ws ∧ 7 < 9 := ⟨gt_in (tb2 (List.mem_of_getElem? (i := 26) rfl)) rfl, gt_in (tb2 (List.mem_of_getElem? (i := 27) rfl)) rfl, by decide⟩
theorem ws_X_text : Cond.instanceMethod (mnam m_X_text) ∈ gt_ws ∧ Cond.selects (fC 7) (mnam m_X_text) (mnam m_X_text) ∈ gt_ws ∧ 7 < 9 := ⟨gt_in (tb2 (List.mem_of_getElem? (i := 30) rfl)) rfl, gt_in (tb2 (List.mem_of_getElem? (i := 31) rfl)) rfl, by decide⟩
theorem ws_Re_readText : Cond.instanceMethod (mnam m_Re_readText) ∈ gt_ws ∧ Cond.selects (fC 1) (mnam m_Re_readText) (mnam m_Re_readText) ∈ gt_ws ∧ 1 < 9 := ⟨gt_in (tb2 (List.mem_of_getElem? (i := 34) rfl)) rfl, gt_in (tb2 (List.mem_of_getElem? (i := 35) rfl)) rfl, by decide⟩
theorem ws_St_becomeAsAtFirst : Cond.instanceMethod (mnam m_St_becomeAsAtFirst) ∈ gt_ws ∧ Cond.selects (fC 3) (mnam m_St_becomeAsAtFirst) (mnam m_St_becomeAsAtFirst) ∈ gt_ws ∧ 3 < 9 := ⟨gt_in (tb2 (List.mem_of_getElem? (i := 38) rfl)) rfl, gt_in (tb2 (List.mem_of_getElem? (i := 39) rfl)) rfl, by decide⟩
theorem ws_Ar_fill : Cond.static (mnam m_Ar_fill) ∈ gt_ws := gt_in (tb2 (List.mem_of_getElem? (i := 42) rfl)) rfl
theorem ws_Ta_becomeOne : Cond.instanceMethod (mnam m_Ta_becomeOne) ∈ gt_ws ∧ Cond.selects (fC 4) (mnam m_Ta_becomeOne) (mnam m_Ta_becomeOne) ∈ gt_ws ∧ 4 < 9 := ⟨gt_in (tb2 (List.mem_of_getElem? (i := 45) rfl)) rfl, gt_in (tb2 (List.mem_of_getElem? (i := 46) rfl)) rfl, by decide⟩
theorem ws_Rw_becomeNumber : Cond.static (mnam m_Rw_becomeNumber) ∈ gt_ws := gt_in (tb2 (List.mem_of_getElem? (i := 49) rfl)) rfl
theorem ws_Re_step : Cond.instanceMethod (mnam m_Re_step) ∈ gt_ws ∧ Cond.selects (fC 1) (mnam m_Re_step) (mnam m_Re_step) ∈ gt_ws ∧ 1 < 9 := ⟨gt_in (tb2 (List.mem_of_getElem? (i := 53) rfl)) rfl, gt_in (tb2 (List.mem_of_getElem? (i := 54) rfl)) rfl, by decide⟩
theorem ws_Re_isBlank : Cond.static (mnam m_Re_isBlank) ∈ gt_ws := gt_in (tb2 (List.mem_of_getElem? (i := 57) rfl)) rfl
theorem ws_Re_readWordOrNumber : Cond.instanceMethod (mnam m_Re_readWordOrNumber) ∈ gt_ws ∧ Cond.selects (fC 1) (mnam m_Re_readWordOrNumber) (mnam m_Re_readWordOrNumber) ∈ gt_ws ∧ 1 < 9 := ⟨gt_in (tb2 (List.mem_of_getElem? (i := 60) rfl)) rfl, gt_in (tb2 (List.mem_of_getElem? (i := 61) rfl)) rfl, by decide⟩
theorem ws_Re_isDigit : Cond.static (mnam m_Re_isDigit) ∈ gt_ws := gt_in (tb2 (List.mem_of_getElem? (i := 64) rfl)) rfl
theorem ws_Re_isLetter : Cond.static (mnam m_Re_isLetter) ∈ gt_ws := gt_in (tb2 (List.mem_of_getElem? (i := 67) rfl)) rfl
theorem ws_Re_isWord : Cond.instanceMethod (mnam m_Re_isWord) ∈ gt_ws ∧ Cond.selects (fC 1) (mnam m_Re_isWord) (mnam m_Re_isWord) ∈ gt_ws ∧ 1 < 9 := ⟨gt_in (tb2 (List.mem_of_getElem? (i := 71) rfl)) rfl, gt_in (tb2 (List.mem_of_getElem? (i := 72) rfl)) rfl, by decide⟩
theorem ws_Sl_charAt : Cond.static (mnam m_Sl_charAt) ∈ gt_ws := gt_in (tb2 (List.mem_of_getElem? (i := 93) rfl)) rfl
theorem ws_Sg_checkIndex : Cond.static (mnam m_Sg_checkIndex) ∈ gt_ws := gt_in (tb2 (List.mem_of_getElem? (i := 96) rfl)) rfl
theorem ws_Pr_checkIndex : Cond.static (mnam m_Pr_checkIndex) ∈ gt_ws := gt_in (tb2 (List.mem_of_getElem? (i := 101) rfl)) rfl
theorem ws_Re_readSizeLine : Cond.instanceMethod (mnam m_Re_readSizeLine) ∈ gt_ws ∧ Cond.selects (fC 1) (mnam m_Re_readSizeLine) (mnam m_Re_readSizeLine) ∈ gt_ws ∧ 1 < 9 := ⟨gt_in (tb2 (List.mem_of_getElem? (i := 126) rfl)) rfl, gt_in (tb2 (List.mem_of_getElem? (i := 127) rfl)) rfl, by decide⟩
theorem ws_Re_refuse : Cond.instanceMethod (mnam m_Re_refuse) ∈ gt_ws ∧ Cond.selects (fC 1) (mnam m_Re_refuse) (mnam m_Re_refuse) ∈ gt_ws ∧ 1 < 9 := ⟨gt_in (tb2 (List.mem_of_getElem? (i := 130) rfl)) rfl, gt_in (tb2 (List.mem_of_getElem? (i := 131) rfl)) rfl, by decide⟩
theorem ws_Re_readSemicolon : Cond.instanceMethod (mnam m_Re_readSemicolon) ∈ gt_ws ∧ Cond.selects (fC 1) (mnam m_Re_readSemicolon) (mnam m_Re_readSemicolon) ∈ gt_ws ∧ 1 < 9 := ⟨gt_in (tb2 (List.mem_of_getElem? (i := 134) rfl)) rfl, gt_in (tb2 (List.mem_of_getElem? (i := 135) rfl)) rfl, by decide⟩
theorem ws_Re_readSeriesLine : Cond.instanceMethod (mnam m_Re_readSeriesLine) ∈ gt_ws ∧ Cond.selects (fC 1) (mnam m_Re_readSeriesLine) (mnam m_Re_readSeriesLine) ∈ gt_ws ∧ 1 < 9 := ⟨gt_in (tb2 (List.mem_of_getElem? (i := 138) rfl)) rfl, gt_in (tb2 (List.mem_of_getElem? (i := 139) rfl)) rfl, by decide⟩
theorem ws_Re_readSum : Cond.instanceMethod (mnam m_Re_readSum) ∈ gt_ws ∧ Cond.selects (fC 1) (mnam m_Re_readSum) (mnam m_Re_readSum) ∈ gt_ws ∧ 1 < 9 := ⟨gt_in (tb2 (List.mem_of_getElem? (i := 142) rfl)) rfl, gt_in (tb2 (List.mem_of_getElem? (i := 143) rfl)) rfl, by decide⟩
theorem ws_Rw_difference : Cond.static (mnam m_Rw_difference) ∈ gt_ws := gt_in (tb2 (List.mem_of_getElem? (i := 147) rfl)) rfl
theorem ws_Rw_divide : Cond.static (mnam m_Rw_divide) ∈ gt_ws := gt_in (tb2 (List.mem_of_getElem? (i := 151) rfl)) rfl
theorem ws_Rw_inverse : Cond.static (mnam m_Rw_inverse) ∈ gt_ws := gt_in (tb2 (List.mem_of_getElem? (i := 154) rfl)) rfl
theorem ws_Rw_product : Cond.static (mnam m_Rw_product) ∈ gt_ws := gt_in (tb2 (List.mem_of_getElem? (i := 160) rfl)) rfl
theorem ws_Re_readTableLine : Cond.instanceMethod (mnam m_Re_readTableLine) ∈ gt_ws ∧ Cond.selects (fC 1) (mnam m_Re_readTableLine) (mnam m_Re_readTableLine) ∈ gt_ws ∧ 1 < 9 := ⟨gt_in (tb2 (List.mem_of_getElem? (i := 163) rfl)) rfl, gt_in (tb2 (List.mem_of_getElem? (i := 164) rfl)) rfl, by decide⟩
theorem ws_Re_isToldSeries : Cond.instanceMethod (mnam m_Re_isToldSeries) ∈ gt_ws ∧ Cond.selects (fC 1) (mnam m_Re_isToldSeries) (mnam m_Re_isToldSeries) ∈ gt_ws ∧ 1 < 9 := ⟨gt_in (tb2 (List.mem_of_getElem? (i := 167) rfl)) rfl, gt_in (tb2 (List.mem_of_getElem? (i := 168) rfl)) rfl, by decide⟩
theorem ws_Rw_makeTable : Cond.static (mnam m_Rw_makeTable) ∈ gt_ws := gt_in (tb2 (List.mem_of_getElem? (i := 171) rfl)) rfl
theorem ws_Rw_canBeReversed : Cond.static (mnam m_Rw_canBeReversed) ∈ gt_ws := gt_in (tb2 (List.mem_of_getElem? (i := 174) rfl)) rfl
theorem ws_Ta_become : Cond.instanceMethod (mnam m_Ta_become) ∈ gt_ws ∧ Cond.selects (fC 4) (mnam m_Ta_become) (mnam m_Ta_become) ∈ gt_ws ∧ 4 < 9 := ⟨gt_in (tb2 (List.mem_of_getElem? (i := 177) rfl)) rfl, gt_in (tb2 (List.mem_of_getElem? (i := 178) rfl)) rfl, by decide⟩
theorem ws_St_copyFrom : Cond.instanceMethod (mnam m_St_copyFrom) ∈ gt_ws ∧ Cond.selects (fC 3) (mnam m_St_copyFrom) (mnam m_St_copyFrom) ∈ gt_ws ∧ 3 < 9 := ⟨gt_in (tb2 (List.mem_of_getElem? (i := 184) rfl)) rfl, gt_in (tb2 (List.mem_of_getElem? (i := 185) rfl)) rfl, by decide⟩
theorem ws_Ta_copyFrom : Cond.instanceMethod (mnam m_Ta_copyFrom) ∈ gt_ws ∧ Cond.selects (fC 4) (mnam m_Ta_copyFrom) (mnam m_Ta_copyFrom) ∈ gt_ws ∧ 4 < 9 := ⟨gt_in (tb2 (List.mem_of_getElem? (i := 189) rfl)) rfl, gt_in (tb2 (List.mem_of_getElem? (i := 190) rfl)) rfl, by decide⟩
theorem ws_Hi_forget : Cond.instanceMethod (mnam m_Hi_forget) ∈ gt_ws ∧ Cond.selects (fC 0) (mnam m_Hi_forget) (mnam m_Hi_forget) ∈ gt_ws ∧ 0 < 9 := ⟨gt_in (tb2 (List.mem_of_getElem? (i := 194) rfl)) rfl, gt_in (tb2 (List.mem_of_getElem? (i := 195) rfl)) rfl, by decide⟩
theorem ws_X_fault : Cond.instanceMethod (mnam m_X_fault) ∈ gt_ws ∧ Cond.selects (fC 7) (mnam m_X_fault) (mnam m_X_fault) ∈ gt_ws ∧ 7 < 9 := ⟨gt_in (tb2 (List.mem_of_getElem? (i := 198) rfl)) rfl, gt_in (tb2 (List.mem_of_getElem? (i := 199) rfl)) rfl, by decide⟩
theorem ws_X_now : Cond.instanceMethod (mnam m_X_now) ∈ gt_ws ∧ Cond.selects (fC 7) (mnam m_X_now) (mnam m_X_now) ∈ gt_ws ∧ 7 < 9 := ⟨gt_in (tb2 (List.mem_of_getElem? (i := 202) rfl)) rfl, gt_in (tb2 (List.mem_of_getElem? (i := 203) rfl)) rfl, by decide⟩
theorem ws_X_at : Cond.instanceMethod (mnam m_X_at) ∈ gt_ws ∧ Cond.selects (fC 7) (mnam m_X_at) (mnam m_X_at) ∈ gt_ws ∧ 7 < 9 := ⟨gt_in (tb2 (List.mem_of_getElem? (i := 206) rfl)) rfl, gt_in (tb2 (List.mem_of_getElem? (i := 207) rfl)) rfl, by decide⟩
theorem ws_X_isSeries : Cond.instanceMethod (mnam m_X_isSeries) ∈ gt_ws ∧ Cond.selects (fC 7) (mnam m_X_isSeries) (mnam m_X_isSeries) ∈ gt_ws ∧ 7 < 9 := ⟨gt_in (tb2 (List.mem_of_getElem? (i := 211) rfl)) rfl, gt_in (tb0 (List.mem_of_getElem? (i := 0) rfl)) rfl, by decide⟩
theorem ws_X_isWithinSize : Cond.instanceMethod (mnam m_X_isWithinSize) ∈ gt_ws ∧ Cond.selects (fC 7) (mnam m_X_isWithinSize) (mnam m_X_isWithinSize) ∈ gt_ws ∧ 7 < 9 := ⟨gt_in (tb2 (List.mem_of_getElem? (i := 215) rfl)) rfl, gt_in (tb0 (List.mem_of_getElem? (i := 1) rfl)) rfl, by decide⟩
theorem ws_X_put : Cond.instanceMethod (mnam m_X_put) ∈ gt_ws ∧ Cond.selects (fC 7) (mnam m_X_put) (mnam m_X_put) ∈ gt_ws ∧ 7 < 9 := ⟨gt_in (tb2 (List.mem_of_getElem? (i := 218) rfl)) rfl, gt_in (tb2 (List.mem_of_getElem? (i := 219) rfl)) rfl, by decide⟩
theorem ws_Hi_keep : Cond.instanceMethod (mnam m_Hi_keep) ∈ gt_ws ∧ Cond.selects (fC 0) (mnam m_Hi_keep) (mnam m_Hi_keep) ∈ gt_ws ∧ 0 < 9 := ⟨gt_in (tb2 (List.mem_of_getElem? (i := 222) rfl)) rfl, gt_in (tb2 (List.mem_of_getElem? (i := 223) rfl)) rfl, by decide⟩
theorem ws_Ma_min : Cond.static (mnam m_Ma_min) ∈ gt_ws := gt_in (tb2 (List.mem_of_getElem? (i := 227) rfl)) rfl
theorem ws_Ma_floorMod : Cond.static (mnam m_Ma_floorMod) ∈ gt_ws := gt_in (tb2 (List.mem_of_getElem? (i := 231) rfl)) rfl
theorem ws_X_make : Cond.instanceMethod (mnam m_X_make) ∈ gt_ws ∧ Cond.selects (fC 7) (mnam m_X_make) (mnam m_X_make) ∈ gt_ws ∧ 7 < 9 := ⟨gt_in (tb2 (List.mem_of_getElem? (i := 234) rfl)) rfl, gt_in (tb2 (List.mem_of_getElem? (i := 235) rfl)) rfl, by decide⟩
theorem ws_Sb_combine : Cond.instanceMethod (mnam m_Sb_combine) ∈ gt_ws ∧ Cond.selects (fC 2) (mnam m_Sb_combine) (mnam m_Sb_combine) ∈ gt_ws ∧ 2 < 9 := ⟨gt_in (tb2 (List.mem_of_getElem? (i := 238) rfl)) rfl, gt_in (tb2 (List.mem_of_getElem? (i := 239) rfl)) rfl, by decide⟩
theorem ws_Rw_add : Cond.static (mnam m_Rw_add) ∈ gt_ws := gt_in (tb3 (List.mem_of_getElem? (i := 3) rfl)) rfl
theorem ws_Rw_subtract : Cond.static (mnam m_Rw_subtract) ∈ gt_ws := gt_in (tb3 (List.mem_of_getElem? (i := 6) rfl)) rfl
theorem ws_Rw_multiply : Cond.static (mnam m_Rw_multiply) ∈ gt_ws := gt_in (tb3 (List.mem_of_getElem? (i := 9) rfl)) rfl
theorem ws_Rw_coefficient : Cond.static (mnam m_Rw_coefficient) ∈ gt_ws := gt_in (tb3 (List.mem_of_getElem? (i := 12) rfl)) rfl
theorem ws_Rw_insert : Cond.static (mnam m_Rw_insert) ∈ gt_ws := gt_in (tb3 (List.mem_of_getElem? (i := 16) rfl)) rfl
theorem ws_X_landSeries : Cond.instanceMethod (mnam m_X_landSeries) ∈ gt_ws ∧ Cond.selects (fC 7) (mnam m_X_landSeries) (mnam m_X_landSeries) ∈ gt_ws ∧ 7 < 9 := ⟨gt_in (tb3 (List.mem_of_getElem? (i := 21) rfl)) rfl, gt_in (tb0 (List.mem_of_getElem? (i := 2) rfl)) rfl, by decide⟩
theorem ws_X_turn : Cond.instanceMethod (mnam m_X_turn) ∈ gt_ws ∧ Cond.selects (fC 7) (mnam m_X_turn) (mnam m_X_turn) ∈ gt_ws ∧ 7 < 9 := ⟨gt_in (tb3 (List.mem_of_getElem? (i := 25) rfl)) rfl, gt_in (tb3 (List.mem_of_getElem? (i := 26) rfl)) rfl, by decide⟩
theorem ws_Sb_turnAbout : Cond.instanceMethod (mnam m_Sb_turnAbout) ∈ gt_ws ∧ Cond.selects (fC 2) (mnam m_Sb_turnAbout) (mnam m_Sb_turnAbout) ∈ gt_ws ∧ 2 < 9 := ⟨gt_in (tb3 (List.mem_of_getElem? (i := 29) rfl)) rfl, gt_in (tb3 (List.mem_of_getElem? (i := 30) rfl)) rfl, by decide⟩
theorem ws_Rw_oneAhead : Cond.static (mnam m_Rw_oneAhead) ∈ gt_ws := gt_in (tb3 (List.mem_of_getElem? (i := 33) rfl)) rfl
theorem ws_Sb_differentiate : Cond.instanceMethod (mnam m_Sb_differentiate) ∈ gt_ws ∧ Cond.selects (fC 2) (mnam m_Sb_differentiate) (mnam m_Sb_differentiate) ∈ gt_ws ∧ 2 < 9 := ⟨gt_in (tb3 (List.mem_of_getElem? (i := 36) rfl)) rfl, gt_in (tb3 (List.mem_of_getElem? (i := 37) rfl)) rfl, by decide⟩
theorem ws_Sb_integrate : Cond.instanceMethod (mnam m_Sb_integrate) ∈ gt_ws ∧ Cond.selects (fC 2) (mnam m_Sb_integrate) (mnam m_Sb_integrate) ∈ gt_ws ∧ 2 < 9 := ⟨gt_in (tb3 (List.mem_of_getElem? (i := 41) rfl)) rfl, gt_in (tb3 (List.mem_of_getElem? (i := 42) rfl)) rfl, by decide⟩
theorem ws_Sb_reverse : Cond.instanceMethod (mnam m_Sb_reverse) ∈ gt_ws ∧ Cond.selects (fC 2) (mnam m_Sb_reverse) (mnam m_Sb_reverse) ∈ gt_ws ∧ 2 < 9 := ⟨gt_in (tb3 (List.mem_of_getElem? (i := 47) rfl)) rfl, gt_in (tb3 (List.mem_of_getElem? (i := 48) rfl)) rfl, by decide⟩
theorem ws_X_raise : Cond.instanceMethod (mnam m_X_raise) ∈ gt_ws ∧ Cond.selects (fC 7) (mnam m_X_raise) (mnam m_X_raise) ∈ gt_ws ∧ 7 < 9 := ⟨gt_in (tb3 (List.mem_of_getElem? (i := 52) rfl)) rfl, gt_in (tb3 (List.mem_of_getElem? (i := 53) rfl)) rfl, by decide⟩
theorem ws_Sb_raiseTo : Cond.instanceMethod (mnam m_Sb_raiseTo) ∈ gt_ws ∧ Cond.selects (fC 2) (mnam m_Sb_raiseTo) (mnam m_Sb_raiseTo) ∈ gt_ws ∧ 2 < 9 := ⟨gt_in (tb3 (List.mem_of_getElem? (i := 56) rfl)) rfl, gt_in (tb3 (List.mem_of_getElem? (i := 57) rfl)) rfl, by decide⟩
theorem ws_X_pair : Cond.instanceMethod (mnam m_X_pair) ∈ gt_ws ∧ Cond.selects (fC 7) (mnam m_X_pair) (mnam m_X_pair) ∈ gt_ws ∧ 7 < 9 := ⟨gt_in (tb3 (List.mem_of_getElem? (i := 60) rfl)) rfl, gt_in (tb3 (List.mem_of_getElem? (i := 61) rfl)) rfl, by decide⟩
theorem ws_X_isTable : Cond.instanceMethod (mnam m_X_isTable) ∈ gt_ws ∧ Cond.selects (fC 7) (mnam m_X_isTable) (mnam m_X_isTable) ∈ gt_ws ∧ 7 < 9 := ⟨gt_in (tb3 (List.mem_of_getElem? (i := 65) rfl)) rfl, gt_in (tb0 (List.mem_of_getElem? (i := 3) rfl)) rfl, by decide⟩
theorem ws_X_landTable : Cond.instanceMethod (mnam m_X_landTable) ∈ gt_ws ∧ Cond.selects (fC 7) (mnam m_X_landTable) (mnam m_X_landTable) ∈ gt_ws ∧ 7 < 9 := ⟨gt_in (tb3 (List.mem_of_getElem? (i := 71) rfl)) rfl, gt_in (tb0 (List.mem_of_getElem? (i := 4) rfl)) rfl, by decide⟩
theorem ws_Tb_entryOf : Cond.instanceMethod (mnam m_Tb_entryOf) ∈ gt_ws ∧ Cond.selects (fC 5) (mnam m_Tb_entryOf) (mnam m_Tb_entryOf) ∈ gt_ws ∧ 5 < 9 := ⟨gt_in (tb3 (List.mem_of_getElem? (i := 75) rfl)) rfl, gt_in (tb3 (List.mem_of_getElem? (i := 76) rfl)) rfl, by decide⟩
theorem ws_X_times : Cond.instanceMethod (mnam m_X_times) ∈ gt_ws ∧ Cond.selects (fC 7) (mnam m_X_times) (mnam m_X_times) ∈ gt_ws ∧ 7 < 9 := ⟨gt_in (tb3 (List.mem_of_getElem? (i := 81) rfl)) rfl, gt_in (tb3 (List.mem_of_getElem? (i := 82) rfl)) rfl, by decide⟩
theorem ws_Tb_multiply : Cond.static (mnam m_Tb_multiply) ∈ gt_ws := gt_in (tb3 (List.mem_of_getElem? (i := 85) rfl)) rfl
theorem ws_X_power : Cond.instanceMethod (mnam m_X_power) ∈ gt_ws ∧ Cond.selects (fC 7) (mnam m_X_power) (mnam m_X_power) ∈ gt_ws ∧ 7 < 9 := ⟨gt_in (tb3 (List.mem_of_getElem? (i := 89) rfl)) rfl, gt_in (tb3 (List.mem_of_getElem? (i := 90) rfl)) rfl, by decide⟩
theorem ws_Tb_powerOf : Cond.instanceMethod (mnam m_Tb_powerOf) ∈ gt_ws ∧ Cond.selects (fC 5) (mnam m_Tb_powerOf) (mnam m_Tb_powerOf) ∈ gt_ws ∧ 5 < 9 := ⟨gt_in (tb3 (List.mem_of_getElem? (i := 93) rfl)) rfl, gt_in (tb3 (List.mem_of_getElem? (i := 94) rfl)) rfl, by decide⟩
theorem ws_Tb_invert : Cond.instanceMethod (mnam m_Tb_invert) ∈ gt_ws ∧ Cond.selects (fC 5) (mnam m_Tb_invert) (mnam m_Tb_invert) ∈ gt_ws ∧ 5 < 9 := ⟨gt_in (tb3 (List.mem_of_getElem? (i := 97) rfl)) rfl, gt_in (tb3 (List.mem_of_getElem? (i := 98) rfl)) rfl, by decide⟩
theorem ws_Ma_abs : Cond.static (mnam m_Ma_abs) ∈ gt_ws := gt_in (tb3 (List.mem_of_getElem? (i := 106) rfl)) rfl
theorem ws_X_part : Cond.instanceMethod (mnam m_X_part) ∈ gt_ws ∧ Cond.selects (fC 7) (mnam m_X_part) (mnam m_X_part) ∈ gt_ws ∧ 7 < 9 := ⟨gt_in (tb3 (List.mem_of_getElem? (i := 110) rfl)) rfl, gt_in (tb3 (List.mem_of_getElem? (i := 111) rfl)) rfl, by decide⟩
theorem ws_Tb_partOf : Cond.instanceMethod (mnam m_Tb_partOf) ∈ gt_ws ∧ Cond.selects (fC 5) (mnam m_Tb_partOf) (mnam m_Tb_partOf) ∈ gt_ws ∧ 5 < 9 := ⟨gt_in (tb3 (List.mem_of_getElem? (i := 114) rfl)) rfl, gt_in (tb3 (List.mem_of_getElem? (i := 115) rfl)) rfl, by decide⟩
theorem ws_Tb_findA : Cond.instanceMethod (mnam m_Tb_findA) ∈ gt_ws ∧ Cond.selects (fC 5) (mnam m_Tb_findA) (mnam m_Tb_findA) ∈ gt_ws ∧ 5 < 9 := ⟨gt_in (tb3 (List.mem_of_getElem? (i := 118) rfl)) rfl, gt_in (tb3 (List.mem_of_getElem? (i := 119) rfl)) rfl, by decide⟩
theorem ws_Tb_findZ : Cond.instanceMethod (mnam m_Tb_findZ) ∈ gt_ws ∧ Cond.selects (fC 5) (mnam m_Tb_findZ) (mnam m_Tb_findZ) ∈ gt_ws ∧ 5 < 9 := ⟨gt_in (tb3 (List.mem_of_getElem? (i := 123) rfl)) rfl, gt_in (tb3 (List.mem_of_getElem? (i := 124) rfl)) rfl, by decide⟩
theorem ws_X_apply : Cond.instanceMethod (mnam m_X_apply) ∈ gt_ws ∧ Cond.selects (fC 7) (mnam m_X_apply) (mnam m_X_apply) ∈ gt_ws ∧ 7 < 9 := ⟨gt_in (tb3 (List.mem_of_getElem? (i := 128) rfl)) rfl, gt_in (tb3 (List.mem_of_getElem? (i := 129) rfl)) rfl, by decide⟩
theorem ws_Tb_makeOf : Cond.instanceMethod (mnam m_Tb_makeOf) ∈ gt_ws ∧ Cond.selects (fC 5) (mnam m_Tb_makeOf) (mnam m_Tb_makeOf) ∈ gt_ws ∧ 5 < 9 := ⟨gt_in (tb3 (List.mem_of_getElem? (i := 132) rfl)) rfl, gt_in (tb3 (List.mem_of_getElem? (i := 133) rfl)) rfl, by decide⟩
theorem ws_X_sums : Cond.instanceMethod (mnam m_X_sums) ∈ gt_ws ∧ Cond.selects (fC 7) (mnam m_X_sums) (mnam m_X_sums) ∈ gt_ws ∧ 7 < 9 := ⟨gt_in (tb3 (List.mem_of_getElem? (i := 136) rfl)) rfl, gt_in (tb3 (List.mem_of_getElem? (i := 137) rfl)) rfl, by decide⟩
theorem ws_Tb_sumRows : Cond.instanceMethod (mnam m_Tb_sumRows) ∈ gt_ws ∧ Cond.selects (fC 5) (mnam m_Tb_sumRows) (mnam m_Tb_sumRows) ∈ gt_ws ∧ 5 < 9 := ⟨gt_in (tb3 (List.mem_of_getElem? (i := 140) rfl)) rfl, gt_in (tb3 (List.mem_of_getElem? (i := 141) rfl)) rfl, by decide⟩
theorem ws_Tb_fillColumns : Cond.static (mnam m_Tb_fillColumns) ∈ gt_ws := gt_in (tb3 (List.mem_of_getElem? (i := 144) rfl)) rfl
theorem ws_Tb_termOfSum : Cond.instanceMethod (mnam m_Tb_termOfSum) ∈ gt_ws ∧ Cond.selects (fC 5) (mnam m_Tb_termOfSum) (mnam m_Tb_termOfSum) ∈ gt_ws ∧ 5 < 9 := ⟨gt_in (tb3 (List.mem_of_getElem? (i := 147) rfl)) rfl, gt_in (tb3 (List.mem_of_getElem? (i := 148) rfl)) rfl, by decide⟩
theorem ws_X_kinds : Cond.instanceMethod (mnam m_X_kinds) ∈ gt_ws ∧ Cond.selects (fC 7) (mnam m_X_kinds) (mnam m_X_kinds) ∈ gt_ws ∧ 7 < 9 := ⟨gt_in (tb3 (List.mem_of_getElem? (i := 153) rfl)) rfl, gt_in (tb3 (List.mem_of_getElem? (i := 154) rfl)) rfl, by decide⟩
theorem ws_Tb_kindsOf : Cond.instanceMethod (mnam m_Tb_kindsOf) ∈ gt_ws ∧ Cond.selects (fC 5) (mnam m_Tb_kindsOf) (mnam m_Tb_kindsOf) ∈ gt_ws ∧ 5 < 9 := ⟨gt_in (tb3 (List.mem_of_getElem? (i := 157) rfl)) rfl, gt_in (tb3 (List.mem_of_getElem? (i := 158) rfl)) rfl, by decide⟩
theorem ws_Rw_isT : Cond.static (mnam m_Rw_isT) ∈ gt_ws := gt_in (tb3 (List.mem_of_getElem? (i := 161) rfl)) rfl
theorem ws_Rw_isZeroFrom : Cond.static (mnam m_Rw_isZeroFrom) ∈ gt_ws := gt_in (tb3 (List.mem_of_getElem? (i := 164) rfl)) rfl
theorem ws_Rw_isOne : Cond.static (mnam m_Rw_isOne) ∈ gt_ws := gt_in (tb3 (List.mem_of_getElem? (i := 167) rfl)) rfl
theorem ws_Tb_isShifted : Cond.static (mnam m_Tb_isShifted) ∈ gt_ws := gt_in (tb3 (List.mem_of_getElem? (i := 170) rfl)) rfl
theorem ws_Tb_isDerivative : Cond.static (mnam m_Tb_isDerivative) ∈ gt_ws := gt_in (tb3 (List.mem_of_getElem? (i := 173) rfl)) rfl
theorem ws_Tb_isChequered : Cond.instanceMethod (mnam m_Tb_isChequered) ∈ gt_ws ∧ Cond.selects (fC 5) (mnam m_Tb_isChequered) (mnam m_Tb_isChequered) ∈ gt_ws ∧ 5 < 9 := ⟨gt_in (tb3 (List.mem_of_getElem? (i := 177) rfl)) rfl, gt_in (tb3 (List.mem_of_getElem? (i := 178) rfl)) rfl, by decide⟩
theorem ws_X_differ : Cond.instanceMethod (mnam m_X_differ) ∈ gt_ws ∧ Cond.selects (fC 7) (mnam m_X_differ) (mnam m_X_differ) ∈ gt_ws ∧ 7 < 9 := ⟨gt_in (tb3 (List.mem_of_getElem? (i := 181) rfl)) rfl, gt_in (tb3 (List.mem_of_getElem? (i := 182) rfl)) rfl, by decide⟩
theorem ws_Tb_firstDifference : Cond.instanceMethod (mnam m_Tb_firstDifference) ∈ gt_ws ∧ Cond.selects (fC 5) (mnam m_Tb_firstDifference) (mnam m_Tb_firstDifference) ∈ gt_ws ∧ 5 < 9 := ⟨gt_in (tb3 (List.mem_of_getElem? (i := 185) rfl)) rfl, gt_in (tb3 (List.mem_of_getElem? (i := 186) rfl)) rfl, by decide⟩
theorem ws_Tb_firstOfChangedPlaces : Cond.instanceMethod (mnam m_Tb_firstOfChangedPlaces) ∈ gt_ws ∧ Cond.selects (fC 5) (mnam m_Tb_firstOfChangedPlaces) (mnam m_Tb_firstOfChangedPlaces) ∈ gt_ws ∧ 5 < 9 := ⟨gt_in (tb3 (List.mem_of_getElem? (i := 189) rfl)) rfl, gt_in (tb3 (List.mem_of_getElem? (i := 190) rfl)) rfl, by decide⟩
theorem ws_X_fails : Cond.instanceMethod (mnam m_X_fails) ∈ gt_ws ∧ Cond.selects (fC 7) (mnam m_X_fails) (mnam m_X_fails) ∈ gt_ws ∧ 7 < 9 := ⟨gt_in (tb3 (List.mem_of_getElem? (i := 194) rfl)) rfl, gt_in (tb3 (List.mem_of_getElem? (i := 195) rfl)) rfl, by decide⟩
theorem ws_X_free : Cond.instanceMethod (mnam m_X_free) ∈ gt_ws ∧ Cond.selects (fC 7) (mnam m_X_free) (mnam m_X_free) ∈ gt_ws ∧ 7 < 9 := ⟨gt_in (tb3 (List.mem_of_getElem? (i := 198) rfl)) rfl, gt_in (tb3 (List.mem_of_getElem? (i := 199) rfl)) rfl, by decide⟩
theorem ws_X_set : Cond.instanceMethod (mnam m_X_set) ∈ gt_ws ∧ Cond.selects (fC 7) (mnam m_X_set) (mnam m_X_set) ∈ gt_ws ∧ 7 < 9 := ⟨gt_in (tb3 (List.mem_of_getElem? (i := 202) rfl)) rfl, gt_in (tb3 (List.mem_of_getElem? (i := 203) rfl)) rfl, by decide⟩
theorem ws_X_lay : Cond.instanceMethod (mnam m_X_lay) ∈ gt_ws ∧ Cond.selects (fC 7) (mnam m_X_lay) (mnam m_X_lay) ∈ gt_ws ∧ 7 < 9 := ⟨gt_in (tb3 (List.mem_of_getElem? (i := 206) rfl)) rfl, gt_in (tb3 (List.mem_of_getElem? (i := 207) rfl)) rfl, by decide⟩
theorem ws_Tb_layEntries : Cond.instanceMethod (mnam m_Tb_layEntries) ∈ gt_ws ∧ Cond.selects (fC 5) (mnam m_Tb_layEntries) (mnam m_Tb_layEntries) ∈ gt_ws ∧ 5 < 9 := ⟨gt_in (tb3 (List.mem_of_getElem? (i := 210) rfl)) rfl, gt_in (tb3 (List.mem_of_getElem? (i := 211) rfl)) rfl, by decide⟩
theorem ws_X_unlike : Cond.instanceMethod (mnam m_X_unlike) ∈ gt_ws ∧ Cond.selects (fC 7) (mnam m_X_unlike) (mnam m_X_unlike) ∈ gt_ws ∧ 7 < 9 := ⟨gt_in (tb3 (List.mem_of_getElem? (i := 214) rfl)) rfl, gt_in (tb3 (List.mem_of_getElem? (i := 215) rfl)) rfl, by decide⟩
theorem ws_Tb_recognise : Cond.instanceMethod (mnam m_Tb_recognise) ∈ gt_ws ∧ Cond.selects (fC 5) (mnam m_Tb_recognise) (mnam m_Tb_recognise) ∈ gt_ws ∧ 5 < 9 := ⟨gt_in (tb3 (List.mem_of_getElem? (i := 218) rfl)) rfl, gt_in (tb3 (List.mem_of_getElem? (i := 219) rfl)) rfl, by decide⟩
theorem ws_X_rebuild : Cond.instanceMethod (mnam m_X_rebuild) ∈ gt_ws ∧ Cond.selects (fC 7) (mnam m_X_rebuild) (mnam m_X_rebuild) ∈ gt_ws ∧ 7 < 9 := ⟨gt_in (tb3 (List.mem_of_getElem? (i := 222) rfl)) rfl, gt_in (tb3 (List.mem_of_getElem? (i := 223) rfl)) rfl, by decide⟩
theorem ws_X_drawn : Cond.instanceMethod (mnam m_X_drawn) ∈ gt_ws ∧ Cond.selects (fC 7) (mnam m_X_drawn) (mnam m_X_drawn) ∈ gt_ws ∧ 7 < 9 := ⟨gt_in (tb3 (List.mem_of_getElem? (i := 226) rfl)) rfl, gt_in (tb3 (List.mem_of_getElem? (i := 227) rfl)) rfl, by decide⟩
theorem ws_X_nextSeed : Cond.static (mnam m_X_nextSeed) ∈ gt_ws := gt_in (tb3 (List.mem_of_getElem? (i := 230) rfl)) rfl
theorem ws_X_drawOf : Cond.static (mnam m_X_drawOf) ∈ gt_ws := gt_in (tb3 (List.mem_of_getElem? (i := 234) rfl)) rfl
theorem ws_St_sumOfSeries : Cond.instanceMethod (mnam m_St_sumOfSeries) ∈ gt_ws ∧ Cond.selects (fC 3) (mnam m_St_sumOfSeries) (mnam m_St_sumOfSeries) ∈ gt_ws ∧ 3 < 9 := ⟨gt_in (tb3 (List.mem_of_getElem? (i := 237) rfl)) rfl, gt_in (tb3 (List.mem_of_getElem? (i := 238) rfl)) rfl, by decide⟩
theorem ws_X_undo : Cond.instanceMethod (mnam m_X_undo) ∈ gt_ws ∧ Cond.selects (fC 7) (mnam m_X_undo) (mnam m_X_undo) ∈ gt_ws ∧ 7 < 9 := ⟨gt_in (tb4 (List.mem_of_getElem? (i := 2) rfl)) rfl, gt_in (tb4 (List.mem_of_getElem? (i := 3) rfl)) rfl, by decide⟩
theorem ws_Hi_takeBack : Cond.instanceMethod (mnam m_Hi_takeBack) ∈ gt_ws ∧ Cond.selects (fC 0) (mnam m_Hi_takeBack) (mnam m_Hi_takeBack) ∈ gt_ws ∧ 0 < 9 := ⟨gt_in (tb4 (List.mem_of_getElem? (i := 6) rfl)) rfl, gt_in (tb4 (List.mem_of_getElem? (i := 7) rfl)) rfl, by decide⟩
theorem ws_X_image : Cond.instanceMethod (mnam m_X_image) ∈ gt_ws ∧ Cond.selects (fC 7) (mnam m_X_image) (mnam m_X_image) ∈ gt_ws ∧ 7 < 9 := ⟨gt_in (tb4 (List.mem_of_getElem? (i := 10) rfl)) rfl, gt_in (tb4 (List.mem_of_getElem? (i := 11) rfl)) rfl, by decide⟩
theorem ws_X_restore : Cond.instanceMethod (mnam m_X_restore) ∈ gt_ws ∧ Cond.selects (fC 7) (mnam m_X_restore) (mnam m_X_restore) ∈ gt_ws ∧ 7 < 9 := ⟨gt_in (tb4 (List.mem_of_getElem? (i := 14) rfl)) rfl, gt_in (tb4 (List.mem_of_getElem? (i := 15) rfl)) rfl, by decide⟩
theorem ws_X_entry : Cond.instanceMethod (mnam m_X_entry) ∈ gt_ws ∧ Cond.selects (fC 7) (mnam m_X_entry) (mnam m_X_entry) ∈ gt_ws ∧ 7 < 9 := ⟨gt_in (tb4 (List.mem_of_getElem? (i := 22) rfl)) rfl, gt_in (tb4 (List.mem_of_getElem? (i := 23) rfl)) rfl, by decide⟩
theorem ws_X_production : Cond.instanceMethod (mnam m_X_production) ∈ gt_ws ∧ Cond.selects (fC 7) (mnam m_X_production) (mnam m_X_production) ∈ gt_ws ∧ 7 < 9 := ⟨gt_in (tb4 (List.mem_of_getElem? (i := 90) rfl)) rfl, gt_in (tb4 (List.mem_of_getElem? (i := 91) rfl)) rfl, by decide⟩
theorem ws_X_isWithinProduction : Cond.instanceMethod (mnam m_X_isWithinProduction) ∈ gt_ws ∧ Cond.selects (fC 7) (mnam m_X_isWithinProduction) (mnam m_X_isWithinProduction) ∈ gt_ws ∧ 7 < 9 := ⟨gt_in (tb4 (List.mem_of_getElem? (i := 95) rfl)) rfl, gt_in (tb0 (List.mem_of_getElem? (i := 6) rfl)) rfl, by decide⟩
theorem ws_Tb_productionOf : Cond.instanceMethod (mnam m_Tb_productionOf) ∈ gt_ws ∧ Cond.selects (fC 5) (mnam m_Tb_productionOf) (mnam m_Tb_productionOf) ∈ gt_ws ∧ 5 < 9 := ⟨gt_in (tb4 (List.mem_of_getElem? (i := 98) rfl)) rfl, gt_in (tb4 (List.mem_of_getElem? (i := 99) rfl)) rfl, by decide⟩
theorem ws_Md_thrown : Cond.instanceMethod (mnam m_Md_thrown) ∈ gt_ws ∧ Cond.selects (fC 8) (mnam m_Md_thrown) (mnam m_Md_thrown) ∈ gt_ws ∧ 8 < 9 := ⟨gt_in (tb4 (List.mem_of_getElem? (i := 103) rfl)) rfl, gt_in (tb4 (List.mem_of_getElem? (i := 104) rfl)) rfl, by decide⟩
theorem ws_Md_feed : Cond.instanceMethod (mnam m_Md_feed) ∈ gt_ws ∧ Cond.selects (fC 8) (mnam m_Md_feed) (mnam m_Md_feed) ∈ gt_ws ∧ 8 < 9 := ⟨gt_in (tb4 (List.mem_of_getElem? (i := 107) rfl)) rfl, gt_in (tb4 (List.mem_of_getElem? (i := 108) rfl)) rfl, by decide⟩
theorem ws_Md_lays : Cond.instanceMethod (mnam m_Md_lays) ∈ gt_ws ∧ Cond.selects (fC 8) (mnam m_Md_lays) (mnam m_Md_lays) ∈ gt_ws ∧ 8 < 9 := ⟨gt_in (tb4 (List.mem_of_getElem? (i := 112) rfl)) rfl, gt_in (tb0 (List.mem_of_getElem? (i := 7) rfl)) rfl, by decide⟩
theorem ws_Md_end : Cond.instanceMethod (mnam m_Md_end) ∈ gt_ws ∧ Cond.selects (fC 8) (mnam m_Md_end) (mnam m_Md_end) ∈ gt_ws ∧ 8 < 9 := ⟨gt_in (tb4 (List.mem_of_getElem? (i := 116) rfl)) rfl, gt_in (tb4 (List.mem_of_getElem? (i := 117) rfl)) rfl, by decide⟩
theorem ws_Md_init : Cond.instanceMethod (mnam m_Md_init) ∈ gt_ws ∧ (mnam m_Md_init).name = "<init>" ∧ mrt m_Md_init = none := ⟨gt_in (tb4 (List.mem_of_getElem? (i := 121) rfl)) rfl, rfl, rfl⟩
theorem ws_Md_text : Cond.instanceMethod (mnam m_Md_text) ∈ gt_ws ∧ Cond.selects (fC 8) (mnam m_Md_text) (mnam m_Md_text) ∈ gt_ws ∧ 8 < 9 := ⟨gt_in (tb4 (List.mem_of_getElem? (i := 219) rfl)) rfl, gt_in (tb4 (List.mem_of_getElem? (i := 220) rfl)) rfl, by decide⟩
theorem ws_Md_next : Cond.instanceMethod (mnam m_Md_next) ∈ gt_ws ∧ Cond.selects (fC 8) (mnam m_Md_next) (mnam m_Md_next) ∈ gt_ws ∧ 8 < 9 := ⟨gt_in (tb4 (List.mem_of_getElem? (i := 224) rfl)) rfl, gt_in (tb0 (List.mem_of_getElem? (i := 8) rfl)) rfl, by decide⟩
theorem ws_Md_isLetter : Cond.static (mnam m_Md_isLetter) ∈ gt_ws := gt_in (tb4 (List.mem_of_getElem? (i := 227) rfl)) rfl
theorem ws_Md_isDigit : Cond.static (mnam m_Md_isDigit) ∈ gt_ws := gt_in (tb4 (List.mem_of_getElem? (i := 230) rfl)) rfl
theorem ws_Md_tapeAt : Cond.instanceMethod (mnam m_Md_tapeAt) ∈ gt_ws ∧ Cond.selects (fC 8) (mnam m_Md_tapeAt) (mnam m_Md_tapeAt) ∈ gt_ws ∧ 8 < 9 := ⟨gt_in (tb4 (List.mem_of_getElem? (i := 234) rfl)) rfl, gt_in (tb0 (List.mem_of_getElem? (i := 9) rfl)) rfl, by decide⟩
theorem ws_Md_readLine : Cond.instanceMethod (mnam m_Md_readLine) ∈ gt_ws ∧ Cond.selects (fC 8) (mnam m_Md_readLine) (mnam m_Md_readLine) ∈ gt_ws ∧ 8 < 9 := ⟨gt_in (tb4 (List.mem_of_getElem? (i := 238) rfl)) rfl, gt_in (tb0 (List.mem_of_getElem? (i := 10) rfl)) rfl, by decide⟩
theorem ws_Md_isWord : Cond.instanceMethod (mnam m_Md_isWord) ∈ gt_ws ∧ Cond.selects (fC 8) (mnam m_Md_isWord) (mnam m_Md_isWord) ∈ gt_ws ∧ 8 < 9 := ⟨gt_in (tb5 (List.mem_of_getElem? (i := 2) rfl)) rfl, gt_in (tb0 (List.mem_of_getElem? (i := 11) rfl)) rfl, by decide⟩
theorem ws_Md_readSize : Cond.instanceMethod (mnam m_Md_readSize) ∈ gt_ws ∧ Cond.selects (fC 8) (mnam m_Md_readSize) (mnam m_Md_readSize) ∈ gt_ws ∧ 8 < 9 := ⟨gt_in (tb5 (List.mem_of_getElem? (i := 6) rfl)) rfl, gt_in (tb0 (List.mem_of_getElem? (i := 12) rfl)) rfl, by decide⟩
theorem ws_Md_bad : Cond.instanceMethod (mnam m_Md_bad) ∈ gt_ws ∧ Cond.selects (fC 8) (mnam m_Md_bad) (mnam m_Md_bad) ∈ gt_ws ∧ 8 < 9 := ⟨gt_in (tb5 (List.mem_of_getElem? (i := 10) rfl)) rfl, gt_in (tb0 (List.mem_of_getElem? (i := 13) rfl)) rfl, by decide⟩
theorem ws_Md_isIn : Cond.static (mnam m_Md_isIn) ∈ gt_ws := gt_in (tb5 (List.mem_of_getElem? (i := 13) rfl)) rfl
theorem ws_Md_readSeries : Cond.instanceMethod (mnam m_Md_readSeries) ∈ gt_ws ∧ Cond.selects (fC 8) (mnam m_Md_readSeries) (mnam m_Md_readSeries) ∈ gt_ws ∧ 8 < 9 := ⟨gt_in (tb5 (List.mem_of_getElem? (i := 17) rfl)) rfl, gt_in (tb0 (List.mem_of_getElem? (i := 14) rfl)) rfl, by decide⟩
theorem ws_Md_readSum : Cond.instanceMethod (mnam m_Md_readSum) ∈ gt_ws ∧ Cond.selects (fC 8) (mnam m_Md_readSum) (mnam m_Md_readSum) ∈ gt_ws ∧ 8 < 9 := ⟨gt_in (tb5 (List.mem_of_getElem? (i := 21) rfl)) rfl, gt_in (tb0 (List.mem_of_getElem? (i := 15) rfl)) rfl, by decide⟩
theorem ws_Md_rest : Cond.static (mnam m_Md_rest) ∈ gt_ws := gt_in (tb5 (List.mem_of_getElem? (i := 24) rfl)) rfl
theorem ws_Md_divides : Cond.static (mnam m_Md_divides) ∈ gt_ws := gt_in (tb5 (List.mem_of_getElem? (i := 28) rfl)) rfl
theorem ws_Md_turned : Cond.static (mnam m_Md_turned) ∈ gt_ws := gt_in (tb5 (List.mem_of_getElem? (i := 31) rfl)) rfl
theorem ws_Md_readTable : Cond.instanceMethod (mnam m_Md_readTable) ∈ gt_ws ∧ Cond.selects (fC 8) (mnam m_Md_readTable) (mnam m_Md_readTable) ∈ gt_ws ∧ 8 < 9 := ⟨gt_in (tb5 (List.mem_of_getElem? (i := 36) rfl)) rfl, gt_in (tb0 (List.mem_of_getElem? (i := 16) rfl)) rfl, by decide⟩
theorem ws_Md_makesTable : Cond.static (mnam m_Md_makesTable) ∈ gt_ws := gt_in (tb5 (List.mem_of_getElem? (i := 39) rfl)) rfl
theorem ws_Md_readEnd : Cond.instanceMethod (mnam m_Md_readEnd) ∈ gt_ws ∧ Cond.selects (fC 8) (mnam m_Md_readEnd) (mnam m_Md_readEnd) ∈ gt_ws ∧ 8 < 9 := ⟨gt_in (tb5 (List.mem_of_getElem? (i := 43) rfl)) rfl, gt_in (tb0 (List.mem_of_getElem? (i := 17) rfl)) rfl, by decide⟩
theorem ws_Md_copy : Cond.static (mnam m_Md_copy) ∈ gt_ws := gt_in (tb5 (List.mem_of_getElem? (i := 46) rfl)) rfl
theorem ws_Md_fault : Cond.instanceMethod (mnam m_Md_fault) ∈ gt_ws ∧ Cond.selects (fC 8) (mnam m_Md_fault) (mnam m_Md_fault) ∈ gt_ws ∧ 8 < 9 := ⟨gt_in (tb5 (List.mem_of_getElem? (i := 49) rfl)) rfl, gt_in (tb5 (List.mem_of_getElem? (i := 50) rfl)) rfl, by decide⟩
theorem ws_Md_now : Cond.instanceMethod (mnam m_Md_now) ∈ gt_ws ∧ Cond.selects (fC 8) (mnam m_Md_now) (mnam m_Md_now) ∈ gt_ws ∧ 8 < 9 := ⟨gt_in (tb5 (List.mem_of_getElem? (i := 53) rfl)) rfl, gt_in (tb5 (List.mem_of_getElem? (i := 54) rfl)) rfl, by decide⟩
theorem ws_Md_wide : Cond.instanceMethod (mnam m_Md_wide) ∈ gt_ws ∧ Cond.selects (fC 8) (mnam m_Md_wide) (mnam m_Md_wide) ∈ gt_ws ∧ 8 < 9 := ⟨gt_in (tb5 (List.mem_of_getElem? (i := 58) rfl)) rfl, gt_in (tb0 (List.mem_of_getElem? (i := 18) rfl)) rfl, by decide⟩
theorem ws_Md_at : Cond.instanceMethod (mnam m_Md_at) ∈ gt_ws ∧ Cond.selects (fC 8) (mnam m_Md_at) (mnam m_Md_at) ∈ gt_ws ∧ 8 < 9 := ⟨gt_in (tb5 (List.mem_of_getElem? (i := 61) rfl)) rfl, gt_in (tb5 (List.mem_of_getElem? (i := 62) rfl)) rfl, by decide⟩
theorem ws_Md_isSeries : Cond.instanceMethod (mnam m_Md_isSeries) ∈ gt_ws ∧ Cond.selects (fC 8) (mnam m_Md_isSeries) (mnam m_Md_isSeries) ∈ gt_ws ∧ 8 < 9 := ⟨gt_in (tb5 (List.mem_of_getElem? (i := 66) rfl)) rfl, gt_in (tb0 (List.mem_of_getElem? (i := 19) rfl)) rfl, by decide⟩
theorem ws_Md_isPlace : Cond.instanceMethod (mnam m_Md_isPlace) ∈ gt_ws ∧ Cond.selects (fC 8) (mnam m_Md_isPlace) (mnam m_Md_isPlace) ∈ gt_ws ∧ 8 < 9 := ⟨gt_in (tb5 (List.mem_of_getElem? (i := 70) rfl)) rfl, gt_in (tb0 (List.mem_of_getElem? (i := 20) rfl)) rfl, by decide⟩
theorem ws_Md_put : Cond.instanceMethod (mnam m_Md_put) ∈ gt_ws ∧ Cond.selects (fC 8) (mnam m_Md_put) (mnam m_Md_put) ∈ gt_ws ∧ 8 < 9 := ⟨gt_in (tb5 (List.mem_of_getElem? (i := 73) rfl)) rfl, gt_in (tb5 (List.mem_of_getElem? (i := 74) rfl)) rfl, by decide⟩
theorem ws_Md_snap : Cond.instanceMethod (mnam m_Md_snap) ∈ gt_ws ∧ Cond.selects (fC 8) (mnam m_Md_snap) (mnam m_Md_snap) ∈ gt_ws ∧ 8 < 9 := ⟨gt_in (tb5 (List.mem_of_getElem? (i := 78) rfl)) rfl, gt_in (tb0 (List.mem_of_getElem? (i := 21) rfl)) rfl, by decide⟩
theorem ws_Md_make : Cond.instanceMethod (mnam m_Md_make) ∈ gt_ws ∧ Cond.selects (fC 8) (mnam m_Md_make) (mnam m_Md_make) ∈ gt_ws ∧ 8 < 9 := ⟨gt_in (tb5 (List.mem_of_getElem? (i := 81) rfl)) rfl, gt_in (tb5 (List.mem_of_getElem? (i := 82) rfl)) rfl, by decide⟩
theorem ws_Md_takes : Cond.instanceMethod (mnam m_Md_takes) ∈ gt_ws ∧ Cond.selects (fC 8) (mnam m_Md_takes) (mnam m_Md_takes) ∈ gt_ws ∧ 8 < 9 := ⟨gt_in (tb5 (List.mem_of_getElem? (i := 86) rfl)) rfl, gt_in (tb0 (List.mem_of_getElem? (i := 22) rfl)) rfl, by decide⟩
theorem ws_Md_multiplies : Cond.static (mnam m_Md_multiplies) ∈ gt_ws := gt_in (tb5 (List.mem_of_getElem? (i := 89) rfl)) rfl
theorem ws_Md_laysUnit : Cond.instanceMethod (mnam m_Md_laysUnit) ∈ gt_ws ∧ Cond.selects (fC 8) (mnam m_Md_laysUnit) (mnam m_Md_laysUnit) ∈ gt_ws ∧ 8 < 9 := ⟨gt_in (tb5 (List.mem_of_getElem? (i := 93) rfl)) rfl, gt_in (tb0 (List.mem_of_getElem? (i := 23) rfl)) rfl, by decide⟩
theorem ws_Md_columns : Cond.instanceMethod (mnam m_Md_columns) ∈ gt_ws ∧ Cond.selects (fC 8) (mnam m_Md_columns) (mnam m_Md_columns) ∈ gt_ws ∧ 8 < 9 := ⟨gt_in (tb5 (List.mem_of_getElem? (i := 97) rfl)) rfl, gt_in (tb0 (List.mem_of_getElem? (i := 24) rfl)) rfl, by decide⟩
theorem ws_Md_makes : Cond.instanceMethod (mnam m_Md_makes) ∈ gt_ws ∧ Cond.selects (fC 8) (mnam m_Md_makes) (mnam m_Md_makes) ∈ gt_ws ∧ 8 < 9 := ⟨gt_in (tb5 (List.mem_of_getElem? (i := 101) rfl)) rfl, gt_in (tb0 (List.mem_of_getElem? (i := 25) rfl)) rfl, by decide⟩
theorem ws_Md_comes : Cond.instanceMethod (mnam m_Md_comes) ∈ gt_ws ∧ Cond.selects (fC 8) (mnam m_Md_comes) (mnam m_Md_comes) ∈ gt_ws ∧ 8 < 9 := ⟨gt_in (tb5 (List.mem_of_getElem? (i := 105) rfl)) rfl, gt_in (tb0 (List.mem_of_getElem? (i := 26) rfl)) rfl, by decide⟩
theorem ws_Md_turn : Cond.instanceMethod (mnam m_Md_turn) ∈ gt_ws ∧ Cond.selects (fC 8) (mnam m_Md_turn) (mnam m_Md_turn) ∈ gt_ws ∧ 8 < 9 := ⟨gt_in (tb5 (List.mem_of_getElem? (i := 108) rfl)) rfl, gt_in (tb5 (List.mem_of_getElem? (i := 109) rfl)) rfl, by decide⟩
theorem ws_Md_reverses : Cond.instanceMethod (mnam m_Md_reverses) ∈ gt_ws ∧ Cond.selects (fC 8) (mnam m_Md_reverses) (mnam m_Md_reverses) ∈ gt_ws ∧ 8 < 9 := ⟨gt_in (tb5 (List.mem_of_getElem? (i := 113) rfl)) rfl, gt_in (tb0 (List.mem_of_getElem? (i := 27) rfl)) rfl, by decide⟩
theorem ws_Md_ones : Cond.static (mnam m_Md_ones) ∈ gt_ws := gt_in (tb5 (List.mem_of_getElem? (i := 116) rfl)) rfl
theorem ws_Md_solves : Cond.static (mnam m_Md_solves) ∈ gt_ws := gt_in (tb5 (List.mem_of_getElem? (i := 119) rfl)) rfl
theorem ws_Md_raise : Cond.instanceMethod (mnam m_Md_raise) ∈ gt_ws ∧ Cond.selects (fC 8) (mnam m_Md_raise) (mnam m_Md_raise) ∈ gt_ws ∧ 8 < 9 := ⟨gt_in (tb5 (List.mem_of_getElem? (i := 122) rfl)) rfl, gt_in (tb5 (List.mem_of_getElem? (i := 123) rfl)) rfl, by decide⟩
theorem ws_Md_pair : Cond.instanceMethod (mnam m_Md_pair) ∈ gt_ws ∧ Cond.selects (fC 8) (mnam m_Md_pair) (mnam m_Md_pair) ∈ gt_ws ∧ 8 < 9 := ⟨gt_in (tb5 (List.mem_of_getElem? (i := 126) rfl)) rfl, gt_in (tb5 (List.mem_of_getElem? (i := 127) rfl)) rfl, by decide⟩
theorem ws_Md_isTable : Cond.instanceMethod (mnam m_Md_isTable) ∈ gt_ws ∧ Cond.selects (fC 8) (mnam m_Md_isTable) (mnam m_Md_isTable) ∈ gt_ws ∧ 8 < 9 := ⟨gt_in (tb5 (List.mem_of_getElem? (i := 131) rfl)) rfl, gt_in (tb0 (List.mem_of_getElem? (i := 28) rfl)) rfl, by decide⟩
theorem ws_Md_comesAs : Cond.instanceMethod (mnam m_Md_comesAs) ∈ gt_ws ∧ Cond.selects (fC 8) (mnam m_Md_comesAs) (mnam m_Md_comesAs) ∈ gt_ws ∧ 8 < 9 := ⟨gt_in (tb5 (List.mem_of_getElem? (i := 135) rfl)) rfl, gt_in (tb0 (List.mem_of_getElem? (i := 29) rfl)) rfl, by decide⟩
theorem ws_Md_entry : Cond.instanceMethod (mnam m_Md_entry) ∈ gt_ws ∧ Cond.selects (fC 8) (mnam m_Md_entry) (mnam m_Md_entry) ∈ gt_ws ∧ 8 < 9 := ⟨gt_in (tb5 (List.mem_of_getElem? (i := 138) rfl)) rfl, gt_in (tb5 (List.mem_of_getElem? (i := 139) rfl)) rfl, by decide⟩
theorem ws_Md_refuse : Cond.instanceMethod (mnam m_Md_refuse) ∈ gt_ws ∧ Cond.selects (fC 8) (mnam m_Md_refuse) (mnam m_Md_refuse) ∈ gt_ws ∧ 8 < 9 := ⟨gt_in (tb5 (List.mem_of_getElem? (i := 143) rfl)) rfl, gt_in (tb0 (List.mem_of_getElem? (i := 30) rfl)) rfl, by decide⟩
theorem ws_Md_matrix : Cond.instanceMethod (mnam m_Md_matrix) ∈ gt_ws ∧ Cond.selects (fC 8) (mnam m_Md_matrix) (mnam m_Md_matrix) ∈ gt_ws ∧ 8 < 9 := ⟨gt_in (tb5 (List.mem_of_getElem? (i := 147) rfl)) rfl, gt_in (tb0 (List.mem_of_getElem? (i := 31) rfl)) rfl, by decide⟩
theorem ws_Md_times : Cond.instanceMethod (mnam m_Md_times) ∈ gt_ws ∧ Cond.selects (fC 8) (mnam m_Md_times) (mnam m_Md_times) ∈ gt_ws ∧ 8 < 9 := ⟨gt_in (tb5 (List.mem_of_getElem? (i := 150) rfl)) rfl, gt_in (tb5 (List.mem_of_getElem? (i := 151) rfl)) rfl, by decide⟩
theorem ws_Md_product : Cond.static (mnam m_Md_product) ∈ gt_ws := gt_in (tb5 (List.mem_of_getElem? (i := 154) rfl)) rfl
theorem ws_Md_power : Cond.instanceMethod (mnam m_Md_power) ∈ gt_ws ∧ Cond.selects (fC 8) (mnam m_Md_power) (mnam m_Md_power) ∈ gt_ws ∧ 8 < 9 := ⟨gt_in (tb5 (List.mem_of_getElem? (i := 157) rfl)) rfl, gt_in (tb5 (List.mem_of_getElem? (i := 158) rfl)) rfl, by decide⟩
theorem ws_Md_part : Cond.instanceMethod (mnam m_Md_part) ∈ gt_ws ∧ Cond.selects (fC 8) (mnam m_Md_part) (mnam m_Md_part) ∈ gt_ws ∧ 8 < 9 := ⟨gt_in (tb5 (List.mem_of_getElem? (i := 161) rfl)) rfl, gt_in (tb5 (List.mem_of_getElem? (i := 162) rfl)) rfl, by decide⟩
theorem ws_Md_laysProduction : Cond.instanceMethod (mnam m_Md_laysProduction) ∈ gt_ws ∧ Cond.selects (fC 8) (mnam m_Md_laysProduction) (mnam m_Md_laysProduction) ∈ gt_ws ∧ 8 < 9 := ⟨gt_in (tb5 (List.mem_of_getElem? (i := 166) rfl)) rfl, gt_in (tb0 (List.mem_of_getElem? (i := 32) rfl)) rfl, by decide⟩
theorem ws_Md_apply : Cond.instanceMethod (mnam m_Md_apply) ∈ gt_ws ∧ Cond.selects (fC 8) (mnam m_Md_apply) (mnam m_Md_apply) ∈ gt_ws ∧ 8 < 9 := ⟨gt_in (tb5 (List.mem_of_getElem? (i := 169) rfl)) rfl, gt_in (tb5 (List.mem_of_getElem? (i := 170) rfl)) rfl, by decide⟩
theorem ws_Md_sums : Cond.instanceMethod (mnam m_Md_sums) ∈ gt_ws ∧ Cond.selects (fC 8) (mnam m_Md_sums) (mnam m_Md_sums) ∈ gt_ws ∧ 8 < 9 := ⟨gt_in (tb5 (List.mem_of_getElem? (i := 173) rfl)) rfl, gt_in (tb5 (List.mem_of_getElem? (i := 174) rfl)) rfl, by decide⟩
theorem ws_Md_production : Cond.instanceMethod (mnam m_Md_production) ∈ gt_ws ∧ Cond.selects (fC 8) (mnam m_Md_production) (mnam m_Md_production) ∈ gt_ws ∧ 8 < 9 := ⟨gt_in (tb5 (List.mem_of_getElem? (i := 177) rfl)) rfl, gt_in (tb5 (List.mem_of_getElem? (i := 178) rfl)) rfl, by decide⟩
theorem ws_Md_kinds : Cond.instanceMethod (mnam m_Md_kinds) ∈ gt_ws ∧ Cond.selects (fC 8) (mnam m_Md_kinds) (mnam m_Md_kinds) ∈ gt_ws ∧ 8 < 9 := ⟨gt_in (tb5 (List.mem_of_getElem? (i := 181) rfl)) rfl, gt_in (tb5 (List.mem_of_getElem? (i := 182) rfl)) rfl, by decide⟩
theorem ws_Md_kindsOf : Cond.instanceMethod (mnam m_Md_kindsOf) ∈ gt_ws ∧ Cond.selects (fC 8) (mnam m_Md_kindsOf) (mnam m_Md_kindsOf) ∈ gt_ws ∧ 8 < 9 := ⟨gt_in (tb5 (List.mem_of_getElem? (i := 186) rfl)) rfl, gt_in (tb0 (List.mem_of_getElem? (i := 33) rfl)) rfl, by decide⟩
theorem ws_Md_unlikeAt : Cond.instanceMethod (mnam m_Md_unlikeAt) ∈ gt_ws ∧ Cond.selects (fC 8) (mnam m_Md_unlikeAt) (mnam m_Md_unlikeAt) ∈ gt_ws ∧ 8 < 9 := ⟨gt_in (tb5 (List.mem_of_getElem? (i := 190) rfl)) rfl, gt_in (tb0 (List.mem_of_getElem? (i := 34) rfl)) rfl, by decide⟩
theorem ws_Md_differ : Cond.instanceMethod (mnam m_Md_differ) ∈ gt_ws ∧ Cond.selects (fC 8) (mnam m_Md_differ) (mnam m_Md_differ) ∈ gt_ws ∧ 8 < 9 := ⟨gt_in (tb5 (List.mem_of_getElem? (i := 193) rfl)) rfl, gt_in (tb5 (List.mem_of_getElem? (i := 194) rfl)) rfl, by decide⟩
theorem ws_Md_fails : Cond.instanceMethod (mnam m_Md_fails) ∈ gt_ws ∧ Cond.selects (fC 8) (mnam m_Md_fails) (mnam m_Md_fails) ∈ gt_ws ∧ 8 < 9 := ⟨gt_in (tb5 (List.mem_of_getElem? (i := 197) rfl)) rfl, gt_in (tb5 (List.mem_of_getElem? (i := 198) rfl)) rfl, by decide⟩
theorem ws_Md_free : Cond.instanceMethod (mnam m_Md_free) ∈ gt_ws ∧ Cond.selects (fC 8) (mnam m_Md_free) (mnam m_Md_free) ∈ gt_ws ∧ 8 < 9 := ⟨gt_in (tb5 (List.mem_of_getElem? (i := 201) rfl)) rfl, gt_in (tb5 (List.mem_of_getElem? (i := 202) rfl)) rfl, by decide⟩
theorem ws_Md_set : Cond.instanceMethod (mnam m_Md_set) ∈ gt_ws ∧ Cond.selects (fC 8) (mnam m_Md_set) (mnam m_Md_set) ∈ gt_ws ∧ 8 < 9 := ⟨gt_in (tb5 (List.mem_of_getElem? (i := 205) rfl)) rfl, gt_in (tb5 (List.mem_of_getElem? (i := 206) rfl)) rfl, by decide⟩
theorem ws_Md_lay : Cond.instanceMethod (mnam m_Md_lay) ∈ gt_ws ∧ Cond.selects (fC 8) (mnam m_Md_lay) (mnam m_Md_lay) ∈ gt_ws ∧ 8 < 9 := ⟨gt_in (tb5 (List.mem_of_getElem? (i := 209) rfl)) rfl, gt_in (tb5 (List.mem_of_getElem? (i := 210) rfl)) rfl, by decide⟩
theorem ws_Md_unlike : Cond.instanceMethod (mnam m_Md_unlike) ∈ gt_ws ∧ Cond.selects (fC 8) (mnam m_Md_unlike) (mnam m_Md_unlike) ∈ gt_ws ∧ 8 < 9 := ⟨gt_in (tb5 (List.mem_of_getElem? (i := 213) rfl)) rfl, gt_in (tb5 (List.mem_of_getElem? (i := 214) rfl)) rfl, by decide⟩
theorem ws_Md_unlikeNow : Cond.instanceMethod (mnam m_Md_unlikeNow) ∈ gt_ws ∧ Cond.selects (fC 8) (mnam m_Md_unlikeNow) (mnam m_Md_unlikeNow) ∈ gt_ws ∧ 8 < 9 := ⟨gt_in (tb5 (List.mem_of_getElem? (i := 218) rfl)) rfl, gt_in (tb0 (List.mem_of_getElem? (i := 35) rfl)) rfl, by decide⟩
theorem ws_Md_rebuild : Cond.instanceMethod (mnam m_Md_rebuild) ∈ gt_ws ∧ Cond.selects (fC 8) (mnam m_Md_rebuild) (mnam m_Md_rebuild) ∈ gt_ws ∧ 8 < 9 := ⟨gt_in (tb5 (List.mem_of_getElem? (i := 221) rfl)) rfl, gt_in (tb5 (List.mem_of_getElem? (i := 222) rfl)) rfl, by decide⟩
theorem ws_Md_drawn : Cond.instanceMethod (mnam m_Md_drawn) ∈ gt_ws ∧ Cond.selects (fC 8) (mnam m_Md_drawn) (mnam m_Md_drawn) ∈ gt_ws ∧ 8 < 9 := ⟨gt_in (tb5 (List.mem_of_getElem? (i := 225) rfl)) rfl, gt_in (tb5 (List.mem_of_getElem? (i := 226) rfl)) rfl, by decide⟩
theorem ws_Md_draw : Cond.instanceMethod (mnam m_Md_draw) ∈ gt_ws ∧ Cond.selects (fC 8) (mnam m_Md_draw) (mnam m_Md_draw) ∈ gt_ws ∧ 8 < 9 := ⟨gt_in (tb5 (List.mem_of_getElem? (i := 230) rfl)) rfl, gt_in (tb0 (List.mem_of_getElem? (i := 36) rfl)) rfl, by decide⟩
theorem ws_Md_undo : Cond.instanceMethod (mnam m_Md_undo) ∈ gt_ws ∧ Cond.selects (fC 8) (mnam m_Md_undo) (mnam m_Md_undo) ∈ gt_ws ∧ 8 < 9 := ⟨gt_in (tb5 (List.mem_of_getElem? (i := 234) rfl)) rfl, gt_in (tb5 (List.mem_of_getElem? (i := 235) rfl)) rfl, by decide⟩
theorem ws_Md_image : Cond.instanceMethod (mnam m_Md_image) ∈ gt_ws ∧ Cond.selects (fC 8) (mnam m_Md_image) (mnam m_Md_image) ∈ gt_ws ∧ 8 < 9 := ⟨gt_in (tb5 (List.mem_of_getElem? (i := 238) rfl)) rfl, gt_in (tb5 (List.mem_of_getElem? (i := 239) rfl)) rfl, by decide⟩
theorem ws_Md_restore : Cond.instanceMethod (mnam m_Md_restore) ∈ gt_ws ∧ Cond.selects (fC 8) (mnam m_Md_restore) (mnam m_Md_restore) ∈ gt_ws ∧ 8 < 9 := ⟨gt_in (tb6 (List.mem_of_getElem? (i := 2) rfl)) rfl, gt_in (tb6 (List.mem_of_getElem? (i := 3) rfl)) rfl, by decide⟩
theorem k_X_1 : Cond.methodLink "SeriesTables" 1 objectInit ∈ gt_ws := gt_in (tb1 (List.mem_of_getElem? (i := 27) rfl)) rfl
theorem n_X_7 : NWk "SeriesTables" 7 1 := ⟨by decide, gt_in (tb1 (List.mem_of_getElem? (i := 30) rfl)) rfl, gt_in (tb1 (List.mem_of_getElem? (i := 31) rfl)) rfl, gt_in (tb1 (List.mem_of_getElem? (i := 2) rfl)) rfl⟩
theorem k_X_9 : LKd "SeriesTables" 9 0 m_Re_init := ⟨w_Re_init, wi_Re, gt_in (tb1 (List.mem_of_getElem? (i := 32) rfl)) rfl, by decide +kernel, by decide⟩
theorem f_X_10 : FLk "SeriesTables" 10 7 1 := ⟨by decide, by decide, gt_in (tb1 (List.mem_of_getElem? (i := 224) rfl)) rfl⟩
theorem f_X_16 : FLk "SeriesTables" 16 1 1 := ⟨by decide, by decide, gt_in (tb1 (List.mem_of_getElem? (i := 100) rfl)) rfl⟩
theorem f_X_20 : FLk "SeriesTables" 20 7 0 := ⟨by decide, by decide, gt_in (tb1 (List.mem_of_getElem? (i := 223) rfl)) rfl⟩
theorem n_X_21 : NWk "SeriesTables" 21 3 := ⟨by decide, gt_in (tb1 (List.mem_of_getElem? (i := 142) rfl)) rfl, gt_in (tb1 (List.mem_of_getElem? (i := 37) rfl)) rfl, gt_in (tb1 (List.mem_of_getElem? (i := 3) rfl)) rfl⟩
theorem k_X_23 : LKd "SeriesTables" 23 0 m_St_init := ⟨w_St_init, wi_St, gt_in (tb1 (List.mem_of_getElem? (i := 143) rfl)) rfl, by decide +kernel, by decide⟩
theorem f_X_24 : FLk "SeriesTables" 24 7 2 := ⟨by decide, by decide, gt_in (tb1 (List.mem_of_getElem? (i := 225) rfl)) rfl⟩
theorem n_X_28 : NWk "SeriesTables" 28 0 := ⟨by decide, gt_in (tb1 (List.mem_of_getElem? (i := 144) rfl)) rfl, gt_in (tb1 (List.mem_of_getElem? (i := 145) rfl)) rfl, gt_in (tb1 (List.mem_of_getElem? (i := 6) rfl)) rfl⟩
theorem k_X_30 : LKd "SeriesTables" 30 0 m_Hi_init := ⟨w_Hi_init, wi_Hi, gt_in (tb1 (List.mem_of_getElem? (i := 146) rfl)) rfl, by decide +kernel, by decide⟩
theorem f_X_31 : FLk "SeriesTables" 31 7 3 := ⟨by decide, by decide, gt_in (tb1 (List.mem_of_getElem? (i := 226) rfl)) rfl⟩
theorem f_X_35 : FLk "SeriesTables" 35 7 4 := ⟨by decide, by decide, gt_in (tb1 (List.mem_of_getElem? (i := 227) rfl)) rfl⟩
theorem f_X_39 : FLk "SeriesTables" 39 7 5 := ⟨by decide, by decide, gt_in (tb1 (List.mem_of_getElem? (i := 228) rfl)) rfl⟩
theorem n_X_43 : NWk "SeriesTables" 43 2 := ⟨by decide, gt_in (tb1 (List.mem_of_getElem? (i := 164) rfl)) rfl, gt_in (tb1 (List.mem_of_getElem? (i := 165) rfl)) rfl, gt_in (tb1 (List.mem_of_getElem? (i := 7) rfl)) rfl⟩
theorem k_X_45 : LKd "SeriesTables" 45 0 m_Sb_init := ⟨w_Sb_init, wi_Sb, gt_in (tb1 (List.mem_of_getElem? (i := 166) rfl)) rfl, by decide +kernel, by decide⟩
theorem f_X_46 : FLk "SeriesTables" 46 7 6 := ⟨by decide, by decide, gt_in (tb1 (List.mem_of_getElem? (i := 229) rfl)) rfl⟩
theorem n_X_50 : NWk "SeriesTables" 50 5 := ⟨by decide, gt_in (tb1 (List.mem_of_getElem? (i := 182) rfl)) rfl, gt_in (tb1 (List.mem_of_getElem? (i := 183) rfl)) rfl, gt_in (tb1 (List.mem_of_getElem? (i := 8) rfl)) rfl⟩
theorem k_X_52 : LKd "SeriesTables" 52 0 m_Tb_init := ⟨w_Tb_init, wi_Tb, gt_in (tb1 (List.mem_of_getElem? (i := 184) rfl)) rfl, by decide +kernel, by decide⟩
theorem f_X_53 : FLk "SeriesTables" 53 7 7 := ⟨by decide, by decide, gt_in (tb1 (List.mem_of_getElem? (i := 230) rfl)) rfl⟩
theorem f_X_57 : FLk "SeriesTables" 57 6 1 := ⟨by decide, by decide, gt_in (tb1 (List.mem_of_getElem? (i := 89) rfl)) rfl⟩
theorem k_X_63 : LKd "SeriesTables" 63 1 m_Tp_addFourBytes := ⟨w_Tp_addFourBytes, wi_Tp, gt_in (tb2 (List.mem_of_getElem? (i := 21) rfl)) rfl, by decide +kernel, by decide⟩
theorem k_X_67 : LKd "SeriesTables" 67 0 m_Re_readText := ⟨w_Re_readText, wi_Re, gt_in (tb2 (List.mem_of_getElem? (i := 33) rfl)) rfl, by decide +kernel, by decide⟩
theorem f_X_71 : FLk "SeriesTables" 71 1 10 := ⟨by decide, by decide, gt_in (tb1 (List.mem_of_getElem? (i := 114) rfl)) rfl⟩
theorem f_X_74 : FLk "SeriesTables" 74 7 8 := ⟨by decide, by decide, gt_in (tb1 (List.mem_of_getElem? (i := 231) rfl)) rfl⟩
theorem f_X_75 : FLk "SeriesTables" 75 1 11 := ⟨by decide, by decide, gt_in (tb1 (List.mem_of_getElem? (i := 116) rfl)) rfl⟩
theorem f_X_78 : FLk "SeriesTables" 78 1 0 := ⟨by decide, by decide, gt_in (tb1 (List.mem_of_getElem? (i := 99) rfl)) rfl⟩
theorem k_X_81 : LKd "SeriesTables" 81 1 m_St_copyFrom := ⟨w_St_copyFrom, wi_St, gt_in (tb2 (List.mem_of_getElem? (i := 183) rfl)) rfl, by decide +kernel, by decide⟩
theorem f_X_85 : FLk "SeriesTables" 85 1 8 := ⟨by decide, by decide, gt_in (tb1 (List.mem_of_getElem? (i := 110) rfl)) rfl⟩
theorem f_X_88 : FLk "SeriesTables" 88 7 9 := ⟨by decide, by decide, gt_in (tb1 (List.mem_of_getElem? (i := 232) rfl)) rfl⟩
theorem f_X_89 : FLk "SeriesTables" 89 1 9 := ⟨by decide, by decide, gt_in (tb1 (List.mem_of_getElem? (i := 112) rfl)) rfl⟩
theorem f_X_92 : FLk "SeriesTables" 92 7 10 := ⟨by decide, by decide, gt_in (tb1 (List.mem_of_getElem? (i := 233) rfl)) rfl⟩
theorem k_X_93 : LKd "SeriesTables" 93 0 m_Hi_forget := ⟨w_Hi_forget, wi_Hi, gt_in (tb2 (List.mem_of_getElem? (i := 193) rfl)) rfl, by decide +kernel, by decide⟩
theorem f_X_96 : FLk "SeriesTables" 96 1 7 := ⟨by decide, by decide, gt_in (tb1 (List.mem_of_getElem? (i := 108) rfl)) rfl⟩
theorem f_X_99 : FLk "SeriesTables" 99 3 3 := ⟨by decide, by decide, gt_in (tb1 (List.mem_of_getElem? (i := 71) rfl)) rfl⟩
theorem f_X_102 : FLk "SeriesTables" 102 0 1 := ⟨by decide, by decide, gt_in (tb1 (List.mem_of_getElem? (i := 155) rfl)) rfl⟩
theorem k_X_105 : LKd "SeriesTables" 105 1 m_X_isSeries := ⟨w_X_isSeries, wi_X, gt_in (tb2 (List.mem_of_getElem? (i := 209) rfl)) rfl, by decide +kernel, by decide⟩
theorem k_X_109 : LKd "SeriesTables" 109 1 m_X_isWithinSize := ⟨w_X_isWithinSize, wi_X, gt_in (tb2 (List.mem_of_getElem? (i := 213) rfl)) rfl, by decide +kernel, by decide⟩
theorem f_X_112 : FLk "SeriesTables" 112 3 0 := ⟨by decide, by decide, gt_in (tb1 (List.mem_of_getElem? (i := 63) rfl)) rfl⟩
theorem k_X_116 : LKd "SeriesTables" 116 1 m_Hi_keep := ⟨w_Hi_keep, wi_Hi, gt_in (tb2 (List.mem_of_getElem? (i := 221) rfl)) rfl, by decide +kernel, by decide⟩
theorem c_X_119 : Cond.constant "SeriesTables" 119 1000003 ∈ gt_ws := gt_in (tb2 (List.mem_of_getElem? (i := 229) rfl)) rfl
theorem k_X_120 : LKd "SeriesTables" 120 2 m_Ma_floorMod := ⟨w_Ma_floorMod, wi_Ma, gt_in (tb2 (List.mem_of_getElem? (i := 230) rfl)) rfl, by decide +kernel, by decide⟩
theorem k_X_126 : LKd "SeriesTables" 126 4 m_Sb_combine := ⟨w_Sb_combine, wi_Sb, gt_in (tb2 (List.mem_of_getElem? (i := 237) rfl)) rfl, by decide +kernel, by decide⟩
theorem f_X_130 : FLk "SeriesTables" 130 2 0 := ⟨by decide, by decide, gt_in (tb1 (List.mem_of_getElem? (i := 171) rfl)) rfl⟩
theorem k_X_134 : LKd "SeriesTables" 134 2 m_X_landSeries := ⟨w_X_landSeries, wi_X, gt_in (tb3 (List.mem_of_getElem? (i := 19) rfl)) rfl, by decide +kernel, by decide⟩
theorem k_X_138 : LKd "SeriesTables" 138 3 m_Sb_turnAbout := ⟨w_Sb_turnAbout, wi_Sb, gt_in (tb3 (List.mem_of_getElem? (i := 28) rfl)) rfl, by decide +kernel, by decide⟩
theorem k_X_142 : LKd "SeriesTables" 142 3 m_Sb_raiseTo := ⟨w_Sb_raiseTo, wi_Sb, gt_in (tb3 (List.mem_of_getElem? (i := 55) rfl)) rfl, by decide +kernel, by decide⟩
theorem k_X_146 : LKd "SeriesTables" 146 1 m_X_isTable := ⟨w_X_isTable, wi_X, gt_in (tb3 (List.mem_of_getElem? (i := 63) rfl)) rfl, by decide +kernel, by decide⟩
theorem k_X_149 : LKd "SeriesTables" 149 2 m_Rw_makeTable := ⟨w_Rw_makeTable, wi_Rw, gt_in (tb3 (List.mem_of_getElem? (i := 67) rfl)) rfl, by decide +kernel, by decide⟩
theorem f_X_155 : FLk "SeriesTables" 155 5 0 := ⟨by decide, by decide, gt_in (tb1 (List.mem_of_getElem? (i := 194) rfl)) rfl⟩
theorem k_X_158 : LKd "SeriesTables" 158 2 m_Ta_become := ⟨w_Ta_become, wi_Ta, gt_in (tb3 (List.mem_of_getElem? (i := 68) rfl)) rfl, by decide +kernel, by decide⟩
theorem k_X_164 : LKd "SeriesTables" 164 1 m_X_landTable := ⟨w_X_landTable, wi_X, gt_in (tb3 (List.mem_of_getElem? (i := 69) rfl)) rfl, by decide +kernel, by decide⟩
theorem f_X_171 : FLk "SeriesTables" 171 3 1 := ⟨by decide, by decide, gt_in (tb1 (List.mem_of_getElem? (i := 66) rfl)) rfl⟩
theorem k_X_175 : LKd "SeriesTables" 175 4 m_Tb_entryOf := ⟨w_Tb_entryOf, wi_Tb, gt_in (tb3 (List.mem_of_getElem? (i := 74) rfl)) rfl, by decide +kernel, by decide⟩
theorem k_X_179 : LKd "SeriesTables" 179 4 m_Tb_multiply := ⟨w_Tb_multiply, wi_Tb, gt_in (tb3 (List.mem_of_getElem? (i := 84) rfl)) rfl, by decide +kernel, by decide⟩
theorem k_X_183 : LKd "SeriesTables" 183 3 m_Tb_powerOf := ⟨w_Tb_powerOf, wi_Tb, gt_in (tb3 (List.mem_of_getElem? (i := 92) rfl)) rfl, by decide +kernel, by decide⟩
theorem k_X_187 : LKd "SeriesTables" 187 3 m_Tb_partOf := ⟨w_Tb_partOf, wi_Tb, gt_in (tb3 (List.mem_of_getElem? (i := 113) rfl)) rfl, by decide +kernel, by decide⟩
theorem f_X_191 : FLk "SeriesTables" 191 5 3 := ⟨by decide, by decide, gt_in (tb1 (List.mem_of_getElem? (i := 198) rfl)) rfl⟩
theorem k_X_194 : LKd "SeriesTables" 194 3 m_Tb_makeOf := ⟨w_Tb_makeOf, wi_Tb, gt_in (tb3 (List.mem_of_getElem? (i := 131) rfl)) rfl, by decide +kernel, by decide⟩
theorem k_X_198 : LKd "SeriesTables" 198 3 m_Tb_sumRows := ⟨w_Tb_sumRows, wi_Tb, gt_in (tb3 (List.mem_of_getElem? (i := 139) rfl)) rfl, by decide +kernel, by decide⟩
theorem k_X_201 : LKd "SeriesTables" 201 1 m_X_isWithinProduction := ⟨w_X_isWithinProduction, wi_X, gt_in (tb4 (List.mem_of_getElem? (i := 93) rfl)) rfl, by decide +kernel, by decide⟩
theorem k_X_204 : LKd "SeriesTables" 204 4 m_Tb_productionOf := ⟨w_Tb_productionOf, wi_Tb, gt_in (tb4 (List.mem_of_getElem? (i := 97) rfl)) rfl, by decide +kernel, by decide⟩
theorem k_X_207 : LKd "SeriesTables" 207 2 m_Tb_kindsOf := ⟨w_Tb_kindsOf, wi_Tb, gt_in (tb3 (List.mem_of_getElem? (i := 156) rfl)) rfl, by decide +kernel, by decide⟩
theorem k_X_211 : LKd "SeriesTables" 211 3 m_Tb_firstDifference := ⟨w_Tb_firstDifference, wi_Tb, gt_in (tb3 (List.mem_of_getElem? (i := 184) rfl)) rfl, by decide +kernel, by decide⟩
theorem k_X_215 : LKd "SeriesTables" 215 3 m_Tb_firstOfChangedPlaces := ⟨w_Tb_firstOfChangedPlaces, wi_Tb, gt_in (tb3 (List.mem_of_getElem? (i := 188) rfl)) rfl, by decide +kernel, by decide⟩
theorem f_X_218 : FLk "SeriesTables" 218 3 2 := ⟨by decide, by decide, gt_in (tb1 (List.mem_of_getElem? (i := 68) rfl)) rfl⟩
theorem k_X_221 : LKd "SeriesTables" 221 3 m_Tb_layEntries := ⟨w_Tb_layEntries, wi_Tb, gt_in (tb3 (List.mem_of_getElem? (i := 209) rfl)) rfl, by decide +kernel, by decide⟩
theorem k_X_225 : LKd "SeriesTables" 225 2 m_Tb_recognise := ⟨w_Tb_recognise, wi_Tb, gt_in (tb3 (List.mem_of_getElem? (i := 217) rfl)) rfl, by decide +kernel, by decide⟩
theorem k_X_229 : LKd "SeriesTables" 229 1 m_X_nextSeed := ⟨w_X_nextSeed, wi_X, gt_in (tb3 (List.mem_of_getElem? (i := 229) rfl)) rfl, by decide +kernel, by decide⟩
theorem k_X_232 : LKd "SeriesTables" 232 2 m_X_drawOf := ⟨w_X_drawOf, wi_X, gt_in (tb3 (List.mem_of_getElem? (i := 233) rfl)) rfl, by decide +kernel, by decide⟩
theorem k_X_235 : LKd "SeriesTables" 235 0 m_St_sumOfSeries := ⟨w_St_sumOfSeries, wi_St, gt_in (tb3 (List.mem_of_getElem? (i := 236) rfl)) rfl, by decide +kernel, by decide⟩
theorem k_X_239 : LKd "SeriesTables" 239 1 m_Hi_takeBack := ⟨w_Hi_takeBack, wi_Hi, gt_in (tb4 (List.mem_of_getElem? (i := 5) rfl)) rfl, by decide +kernel, by decide⟩
theorem k_X_242 : Cond.methodLink "SeriesTables" 242 arraycopyName ∈ gt_ws := gt_in (tb3 (List.mem_of_getElem? (i := 23) rfl)) rfl
theorem k_X_248 : LKd "SeriesTables" 248 1 m_Ta_copyFrom := ⟨w_Ta_copyFrom, wi_Ta, gt_in (tb3 (List.mem_of_getElem? (i := 73) rfl)) rfl, by decide +kernel, by decide⟩
theorem c_X_251 : Cond.constant "SeriesTables" 251 1103515245 ∈ gt_ws := gt_in (tb3 (List.mem_of_getElem? (i := 232) rfl)) rfl
theorem k_Hi_3 : Cond.methodLink "SeriesTables$History" 3 objectInit ∈ gt_ws := gt_in (tb1 (List.mem_of_getElem? (i := 149) rfl)) rfl
theorem n_Hi_9 : NWk "SeriesTables$History" 9 3 := ⟨by decide, gt_in (tb1 (List.mem_of_getElem? (i := 150) rfl)) rfl, gt_in (tb1 (List.mem_of_getElem? (i := 37) rfl)) rfl, gt_in (tb1 (List.mem_of_getElem? (i := 3) rfl)) rfl⟩
theorem f_Hi_11 : FLk "SeriesTables$History" 11 0 0 := ⟨by decide, by decide, gt_in (tb1 (List.mem_of_getElem? (i := 153) rfl)) rfl⟩
theorem k_Hi_17 : LKd "SeriesTables$History" 17 0 m_St_init := ⟨w_St_init, wi_St, gt_in (tb1 (List.mem_of_getElem? (i := 152) rfl)) rfl, by decide +kernel, by decide⟩
theorem f_Hi_18 : FLk "SeriesTables$History" 18 0 2 := ⟨by decide, by decide, gt_in (tb1 (List.mem_of_getElem? (i := 156) rfl)) rfl⟩
theorem k_Hi_22 : LKd "SeriesTables$History" 22 1 m_St_copyFrom := ⟨w_St_copyFrom, wi_St, gt_in (tb2 (List.mem_of_getElem? (i := 225) rfl)) rfl, by decide +kernel, by decide⟩
theorem f_Hi_26 : FLk "SeriesTables$History" 26 0 1 := ⟨by decide, by decide, gt_in (tb1 (List.mem_of_getElem? (i := 154) rfl)) rfl⟩
theorem k_Hi_29 : LKd "SeriesTables$History" 29 2 m_Ma_min := ⟨w_Ma_min, wi_Ma, gt_in (tb2 (List.mem_of_getElem? (i := 226) rfl)) rfl, by decide +kernel, by decide⟩
theorem k_Re_3 : Cond.methodLink "SeriesTables$Reader" 3 objectInit ∈ gt_ws := gt_in (tb1 (List.mem_of_getElem? (i := 35) rfl)) rfl
theorem n_Re_9 : NWk "SeriesTables$Reader" 9 3 := ⟨by decide, gt_in (tb1 (List.mem_of_getElem? (i := 36) rfl)) rfl, gt_in (tb1 (List.mem_of_getElem? (i := 37) rfl)) rfl, gt_in (tb1 (List.mem_of_getElem? (i := 3) rfl)) rfl⟩
theorem k_Re_11 : LKd "SeriesTables$Reader" 11 0 m_St_init := ⟨w_St_init, wi_St, gt_in (tb1 (List.mem_of_getElem? (i := 38) rfl)) rfl, by decide +kernel, by decide⟩
theorem f_Re_12 : FLk "SeriesTables$Reader" 12 1 0 := ⟨by decide, by decide, gt_in (tb1 (List.mem_of_getElem? (i := 98) rfl)) rfl⟩
theorem n_Re_18 : NWk "SeriesTables$Reader" 18 6 := ⟨by decide, gt_in (tb1 (List.mem_of_getElem? (i := 81) rfl)) rfl, gt_in (tb1 (List.mem_of_getElem? (i := 82) rfl)) rfl, gt_in (tb1 (List.mem_of_getElem? (i := 5) rfl)) rfl⟩
theorem k_Re_20 : LKd "SeriesTables$Reader" 20 0 m_Tp_init := ⟨w_Tp_init, wi_Tp, gt_in (tb1 (List.mem_of_getElem? (i := 83) rfl)) rfl, by decide +kernel, by decide⟩
theorem f_Re_21 : FLk "SeriesTables$Reader" 21 1 1 := ⟨by decide, by decide, gt_in (tb1 (List.mem_of_getElem? (i := 101) rfl)) rfl⟩
theorem f_Re_25 : FLk "SeriesTables$Reader" 25 1 2 := ⟨by decide, by decide, gt_in (tb1 (List.mem_of_getElem? (i := 102) rfl)) rfl⟩
theorem k_Re_29 : LKd "SeriesTables$Reader" 29 0 m_St_becomeAsAtFirst := ⟨w_St_becomeAsAtFirst, wi_St, gt_in (tb2 (List.mem_of_getElem? (i := 37) rfl)) rfl, by decide +kernel, by decide⟩
theorem f_Re_32 : FLk "SeriesTables$Reader" 32 1 3 := ⟨by decide, by decide, gt_in (tb1 (List.mem_of_getElem? (i := 103) rfl)) rfl⟩
theorem f_Re_36 : FLk "SeriesTables$Reader" 36 1 7 := ⟨by decide, by decide, gt_in (tb1 (List.mem_of_getElem? (i := 107) rfl)) rfl⟩
theorem f_Re_39 : FLk "SeriesTables$Reader" 39 1 8 := ⟨by decide, by decide, gt_in (tb1 (List.mem_of_getElem? (i := 109) rfl)) rfl⟩
theorem f_Re_42 : FLk "SeriesTables$Reader" 42 1 9 := ⟨by decide, by decide, gt_in (tb1 (List.mem_of_getElem? (i := 111) rfl)) rfl⟩
theorem f_Re_45 : FLk "SeriesTables$Reader" 45 1 10 := ⟨by decide, by decide, gt_in (tb1 (List.mem_of_getElem? (i := 113) rfl)) rfl⟩
theorem f_Re_48 : FLk "SeriesTables$Reader" 48 1 11 := ⟨by decide, by decide, gt_in (tb1 (List.mem_of_getElem? (i := 115) rfl)) rfl⟩
theorem k_Re_51 : LKd "SeriesTables$Reader" 51 0 m_Re_step := ⟨w_Re_step, wi_Re, gt_in (tb2 (List.mem_of_getElem? (i := 52) rfl)) rfl, by decide +kernel, by decide⟩
theorem f_Re_54 : FLk "SeriesTables$Reader" 54 1 4 := ⟨by decide, by decide, gt_in (tb1 (List.mem_of_getElem? (i := 104) rfl)) rfl⟩
theorem k_Re_57 : LKd "SeriesTables$Reader" 57 0 m_Re_readSizeLine := ⟨w_Re_readSizeLine, wi_Re, gt_in (tb2 (List.mem_of_getElem? (i := 125) rfl)) rfl, by decide +kernel, by decide⟩
theorem k_Re_61 : LKd "SeriesTables$Reader" 61 1 m_Re_refuse := ⟨w_Re_refuse, wi_Re, gt_in (tb2 (List.mem_of_getElem? (i := 129) rfl)) rfl, by decide +kernel, by decide⟩
theorem k_Re_65 : LKd "SeriesTables$Reader" 65 0 m_Re_readSeriesLine := ⟨w_Re_readSeriesLine, wi_Re, gt_in (tb2 (List.mem_of_getElem? (i := 137) rfl)) rfl, by decide +kernel, by decide⟩
theorem k_Re_68 : LKd "SeriesTables$Reader" 68 0 m_Re_readTableLine := ⟨w_Re_readTableLine, wi_Re, gt_in (tb2 (List.mem_of_getElem? (i := 162) rfl)) rfl, by decide +kernel, by decide⟩
theorem f_Re_71 : FLk "SeriesTables$Reader" 71 1 6 := ⟨by decide, by decide, gt_in (tb1 (List.mem_of_getElem? (i := 106) rfl)) rfl⟩
theorem f_Re_74 : FLk "SeriesTables$Reader" 74 3 3 := ⟨by decide, by decide, gt_in (tb1 (List.mem_of_getElem? (i := 70) rfl)) rfl⟩
theorem k_Re_77 : LKd "SeriesTables$Reader" 77 0 m_Re_readSemicolon := ⟨w_Re_readSemicolon, wi_Re, gt_in (tb2 (List.mem_of_getElem? (i := 133) rfl)) rfl, by decide +kernel, by decide⟩
theorem f_Re_80 : FLk "SeriesTables$Reader" 80 3 0 := ⟨by decide, by decide, gt_in (tb1 (List.mem_of_getElem? (i := 62) rfl)) rfl⟩
theorem k_Re_84 : LKd "SeriesTables$Reader" 84 2 m_Re_readSum := ⟨w_Re_readSum, wi_Re, gt_in (tb2 (List.mem_of_getElem? (i := 141) rfl)) rfl, by decide +kernel, by decide⟩
theorem k_Re_88 : LKd "SeriesTables$Reader" 88 3 m_Rw_divide := ⟨w_Rw_divide, wi_Rw, gt_in (tb2 (List.mem_of_getElem? (i := 150) rfl)) rfl, by decide +kernel, by decide⟩
theorem k_Re_94 : LKd "SeriesTables$Reader" 94 2 m_Ar_fill := ⟨w_Ar_fill, wi_Ar, gt_in (tb2 (List.mem_of_getElem? (i := 145) rfl)) rfl, by decide +kernel, by decide⟩
theorem k_Re_100 : LKd "SeriesTables$Reader" 100 2 m_Rw_difference := ⟨w_Rw_difference, wi_Rw, gt_in (tb2 (List.mem_of_getElem? (i := 146) rfl)) rfl, by decide +kernel, by decide⟩
theorem k_Re_104 : LKd "SeriesTables$Reader" 104 0 m_Re_isToldSeries := ⟨w_Re_isToldSeries, wi_Re, gt_in (tb2 (List.mem_of_getElem? (i := 166) rfl)) rfl, by decide +kernel, by decide⟩
theorem k_Re_107 : LKd "SeriesTables$Reader" 107 2 m_Rw_makeTable := ⟨w_Rw_makeTable, wi_Rw, gt_in (tb2 (List.mem_of_getElem? (i := 170) rfl)) rfl, by decide +kernel, by decide⟩
theorem f_Re_111 : FLk "SeriesTables$Reader" 111 3 1 := ⟨by decide, by decide, gt_in (tb1 (List.mem_of_getElem? (i := 65) rfl)) rfl⟩
theorem k_Re_115 : LKd "SeriesTables$Reader" 115 2 m_Ta_become := ⟨w_Ta_become, wi_Ta, gt_in (tb2 (List.mem_of_getElem? (i := 176) rfl)) rfl, by decide +kernel, by decide⟩
theorem f_Re_121 : FLk "SeriesTables$Reader" 121 1 5 := ⟨by decide, by decide, gt_in (tb1 (List.mem_of_getElem? (i := 105) rfl)) rfl⟩
theorem f_Re_124 : FLk "SeriesTables$Reader" 124 6 1 := ⟨by decide, by decide, gt_in (tb1 (List.mem_of_getElem? (i := 91) rfl)) rfl⟩
theorem f_Re_127 : FLk "SeriesTables$Reader" 127 6 0 := ⟨by decide, by decide, gt_in (tb1 (List.mem_of_getElem? (i := 88) rfl)) rfl⟩
theorem k_Re_131 : LKd "SeriesTables$Reader" 131 1 m_Re_isBlank := ⟨w_Re_isBlank, wi_Re, gt_in (tb2 (List.mem_of_getElem? (i := 56) rfl)) rfl, by decide +kernel, by decide⟩
theorem k_Re_135 : LKd "SeriesTables$Reader" 135 0 m_Re_readWordOrNumber := ⟨w_Re_readWordOrNumber, wi_Re, gt_in (tb2 (List.mem_of_getElem? (i := 59) rfl)) rfl, by decide +kernel, by decide⟩
theorem k_Re_138 : LKd "SeriesTables$Reader" 138 1 m_Re_isDigit := ⟨w_Re_isDigit, wi_Re, gt_in (tb2 (List.mem_of_getElem? (i := 63) rfl)) rfl, by decide +kernel, by decide⟩
theorem k_Re_141 : LKd "SeriesTables$Reader" 141 1 m_Re_isLetter := ⟨w_Re_isLetter, wi_Re, gt_in (tb2 (List.mem_of_getElem? (i := 66) rfl)) rfl, by decide +kernel, by decide⟩
theorem k_Re_145 : LKd "SeriesTables$Reader" 145 1 m_Re_isWord := ⟨w_Re_isWord, wi_Re, gt_in (tb2 (List.mem_of_getElem? (i := 70) rfl)) rfl, by decide +kernel, by decide⟩
theorem k_Re_154 : LKd "SeriesTables$Reader" 154 0 m_Sg_length := ⟨w_Sg_length, wi_Sg, gt_in (tb2 (List.mem_of_getElem? (i := 74) rfl)) rfl, by decide +kernel, by decide⟩
theorem k_Re_159 : LKd "SeriesTables$Reader" 159 1 m_Sg_charAt := ⟨w_Sg_charAt, wi_Sg, gt_in (tb2 (List.mem_of_getElem? (i := 84) rfl)) rfl, by decide +kernel, by decide⟩
theorem c_Rw_11 : Cond.constant "SeriesTables$Rows" 11 1000001 ∈ gt_ws := gt_in (tb2 (List.mem_of_getElem? (i := 156) rfl)) rfl
theorem c_Rw_12 : Cond.constantLong "SeriesTables$Rows" 12 1000003 ∈ gt_ws := gt_in (tb2 (List.mem_of_getElem? (i := 157) rfl)) rfl
theorem c_Rw_14 : Cond.constant "SeriesTables$Rows" 14 1000003 ∈ gt_ws := gt_in (tb2 (List.mem_of_getElem? (i := 149) rfl)) rfl
theorem k_Rw_15 : LKd "SeriesTables$Rows" 15 2 m_Ar_fill := ⟨w_Ar_fill, wi_Ar, gt_in (tb2 (List.mem_of_getElem? (i := 51) rfl)) rfl, by decide +kernel, by decide⟩
theorem k_Rw_21 : LKd "SeriesTables$Rows" 21 2 m_Rw_difference := ⟨w_Rw_difference, wi_Rw, gt_in (tb2 (List.mem_of_getElem? (i := 158) rfl)) rfl, by decide +kernel, by decide⟩
theorem k_Rw_25 : LKd "SeriesTables$Rows" 25 3 m_Rw_coefficient := ⟨w_Rw_coefficient, wi_Rw, gt_in (tb3 (List.mem_of_getElem? (i := 11) rfl)) rfl, by decide +kernel, by decide⟩
theorem k_Rw_29 : LKd "SeriesTables$Rows" 29 1 m_Rw_inverse := ⟨w_Rw_inverse, wi_Rw, gt_in (tb2 (List.mem_of_getElem? (i := 153) rfl)) rfl, by decide +kernel, by decide⟩
theorem k_Rw_33 : LKd "SeriesTables$Rows" 33 2 m_Rw_product := ⟨w_Rw_product, wi_Rw, gt_in (tb2 (List.mem_of_getElem? (i := 159) rfl)) rfl, by decide +kernel, by decide⟩
theorem k_Rw_36 : LKd "SeriesTables$Rows" 36 3 m_Rw_multiply := ⟨w_Rw_multiply, wi_Rw, gt_in (tb3 (List.mem_of_getElem? (i := 18) rfl)) rfl, by decide +kernel, by decide⟩
theorem k_Rw_40 : LKd "SeriesTables$Rows" 40 3 m_Rw_isZeroFrom := ⟨w_Rw_isZeroFrom, wi_Rw, gt_in (tb3 (List.mem_of_getElem? (i := 163) rfl)) rfl, by decide +kernel, by decide⟩
theorem k_Rw_44 : LKd "SeriesTables$Rows" 44 1 m_Rw_canBeReversed := ⟨w_Rw_canBeReversed, wi_Rw, gt_in (tb2 (List.mem_of_getElem? (i := 173) rfl)) rfl, by decide +kernel, by decide⟩
theorem k_Sb_3 : Cond.methodLink "SeriesTables$SeriesBench" 3 objectInit ∈ gt_ws := gt_in (tb1 (List.mem_of_getElem? (i := 169) rfl)) rfl
theorem f_Sb_9 : FLk "SeriesTables$SeriesBench" 9 2 0 := ⟨by decide, by decide, gt_in (tb1 (List.mem_of_getElem? (i := 170) rfl)) rfl⟩
theorem f_Sb_15 : FLk "SeriesTables$SeriesBench" 15 2 1 := ⟨by decide, by decide, gt_in (tb1 (List.mem_of_getElem? (i := 172) rfl)) rfl⟩
theorem f_Sb_18 : FLk "SeriesTables$SeriesBench" 18 2 2 := ⟨by decide, by decide, gt_in (tb1 (List.mem_of_getElem? (i := 173) rfl)) rfl⟩
theorem k_Sb_21 : Cond.methodLink "SeriesTables$SeriesBench" 21 arraycopyName ∈ gt_ws := gt_in (tb3 (List.mem_of_getElem? (i := 1) rfl)) rfl
theorem k_Sb_27 : LKd "SeriesTables$SeriesBench" 27 3 m_Rw_add := ⟨w_Rw_add, wi_Rw, gt_in (tb3 (List.mem_of_getElem? (i := 2) rfl)) rfl, by decide +kernel, by decide⟩
theorem k_Sb_33 : LKd "SeriesTables$SeriesBench" 33 3 m_Rw_subtract := ⟨w_Rw_subtract, wi_Rw, gt_in (tb3 (List.mem_of_getElem? (i := 5) rfl)) rfl, by decide +kernel, by decide⟩
theorem k_Sb_36 : LKd "SeriesTables$SeriesBench" 36 3 m_Rw_multiply := ⟨w_Rw_multiply, wi_Rw, gt_in (tb3 (List.mem_of_getElem? (i := 8) rfl)) rfl, by decide +kernel, by decide⟩
theorem k_Sb_39 : LKd "SeriesTables$SeriesBench" 39 3 m_Rw_divide := ⟨w_Rw_divide, wi_Rw, gt_in (tb3 (List.mem_of_getElem? (i := 14) rfl)) rfl, by decide +kernel, by decide⟩
theorem k_Sb_42 : LKd "SeriesTables$SeriesBench" 42 4 m_Rw_insert := ⟨w_Rw_insert, wi_Rw, gt_in (tb3 (List.mem_of_getElem? (i := 15) rfl)) rfl, by decide +kernel, by decide⟩
theorem k_Sb_46 : LKd "SeriesTables$SeriesBench" 46 3 m_Rw_oneAhead := ⟨w_Rw_oneAhead, wi_Rw, gt_in (tb3 (List.mem_of_getElem? (i := 32) rfl)) rfl, by decide +kernel, by decide⟩
theorem k_Sb_50 : LKd "SeriesTables$SeriesBench" 50 2 m_Sb_differentiate := ⟨w_Sb_differentiate, wi_Sb, gt_in (tb3 (List.mem_of_getElem? (i := 35) rfl)) rfl, by decide +kernel, by decide⟩
theorem k_Sb_54 : LKd "SeriesTables$SeriesBench" 54 2 m_Sb_integrate := ⟨w_Sb_integrate, wi_Sb, gt_in (tb3 (List.mem_of_getElem? (i := 40) rfl)) rfl, by decide +kernel, by decide⟩
theorem k_Sb_57 : LKd "SeriesTables$SeriesBench" 57 1 m_Rw_canBeReversed := ⟨w_Rw_canBeReversed, wi_Rw, gt_in (tb3 (List.mem_of_getElem? (i := 45) rfl)) rfl, by decide +kernel, by decide⟩
theorem k_Sb_61 : LKd "SeriesTables$SeriesBench" 61 3 m_Sb_reverse := ⟨w_Sb_reverse, wi_Sb, gt_in (tb3 (List.mem_of_getElem? (i := 46) rfl)) rfl, by decide +kernel, by decide⟩
theorem k_Sb_64 : LKd "SeriesTables$SeriesBench" 64 2 m_Rw_becomeNumber := ⟨w_Rw_becomeNumber, wi_Rw, gt_in (tb3 (List.mem_of_getElem? (i := 50) rfl)) rfl, by decide +kernel, by decide⟩
theorem k_Sb_67 : LKd "SeriesTables$SeriesBench" 67 2 m_Rw_product := ⟨w_Rw_product, wi_Rw, gt_in (tb3 (List.mem_of_getElem? (i := 39) rfl)) rfl, by decide +kernel, by decide⟩
theorem k_Sb_71 : LKd "SeriesTables$SeriesBench" 71 1 m_Rw_inverse := ⟨w_Rw_inverse, wi_Rw, gt_in (tb3 (List.mem_of_getElem? (i := 44) rfl)) rfl, by decide +kernel, by decide⟩
theorem k_St_3 : Cond.methodLink "SeriesTables$State" 3 objectInit ∈ gt_ws := gt_in (tb1 (List.mem_of_getElem? (i := 41) rfl)) rfl
theorem f_St_11 : FLk "SeriesTables$State" 11 3 0 := ⟨by decide, by decide, gt_in (tb1 (List.mem_of_getElem? (i := 61) rfl)) rfl⟩
theorem n_St_16 : NWk "SeriesTables$State" 16 4 := ⟨by decide, gt_in (tb1 (List.mem_of_getElem? (i := 44) rfl)) rfl, gt_in (tb1 (List.mem_of_getElem? (i := 46) rfl)) rfl, gt_in (tb1 (List.mem_of_getElem? (i := 4) rfl)) rfl⟩
theorem f_St_18 : FLk "SeriesTables$State" 18 3 1 := ⟨by decide, by decide, gt_in (tb1 (List.mem_of_getElem? (i := 64) rfl)) rfl⟩
theorem f_St_22 : FLk "SeriesTables$State" 22 3 2 := ⟨by decide, by decide, gt_in (tb1 (List.mem_of_getElem? (i := 67) rfl)) rfl⟩
theorem k_St_25 : LKd "SeriesTables$State" 25 0 m_Ta_init := ⟨w_Ta_init, wi_Ta, gt_in (tb1 (List.mem_of_getElem? (i := 47) rfl)) rfl, by decide +kernel, by decide⟩
theorem f_St_26 : FLk "SeriesTables$State" 26 3 3 := ⟨by decide, by decide, gt_in (tb1 (List.mem_of_getElem? (i := 69) rfl)) rfl⟩
theorem k_St_30 : LKd "SeriesTables$State" 30 2 m_Ar_fill := ⟨w_Ar_fill, wi_Ar, gt_in (tb2 (List.mem_of_getElem? (i := 41) rfl)) rfl, by decide +kernel, by decide⟩
theorem k_St_36 : LKd "SeriesTables$State" 36 0 m_Ta_becomeOne := ⟨w_Ta_becomeOne, wi_Ta, gt_in (tb2 (List.mem_of_getElem? (i := 44) rfl)) rfl, by decide +kernel, by decide⟩
theorem k_St_39 : Cond.methodLink "SeriesTables$State" 39 arraycopyName ∈ gt_ws := gt_in (tb2 (List.mem_of_getElem? (i := 187) rfl)) rfl
theorem k_St_45 : LKd "SeriesTables$State" 45 1 m_Ta_copyFrom := ⟨w_Ta_copyFrom, wi_Ta, gt_in (tb2 (List.mem_of_getElem? (i := 188) rfl)) rfl, by decide +kernel, by decide⟩
theorem c_St_49 : Cond.constant "SeriesTables$State" 49 1000003 ∈ gt_ws := gt_in (tb4 (List.mem_of_getElem? (i := 0) rfl)) rfl
theorem k_Ta_3 : Cond.methodLink "SeriesTables$Table" 3 objectInit ∈ gt_ws := gt_in (tb1 (List.mem_of_getElem? (i := 50) rfl)) rfl
theorem f_Ta_9 : FLk "SeriesTables$Table" 9 4 0 := ⟨by decide, by decide, gt_in (tb1 (List.mem_of_getElem? (i := 51) rfl)) rfl⟩
theorem f_Ta_15 : FLk "SeriesTables$Table" 15 4 1 := ⟨by decide, by decide, gt_in (tb1 (List.mem_of_getElem? (i := 53) rfl)) rfl⟩
theorem k_Ta_18 : LKd "SeriesTables$Table" 18 2 m_Rw_becomeNumber := ⟨w_Rw_becomeNumber, wi_Rw, gt_in (tb2 (List.mem_of_getElem? (i := 48) rfl)) rfl, by decide +kernel, by decide⟩
theorem k_Ta_24 : Cond.methodLink "SeriesTables$Table" 24 arraycopyName ∈ gt_ws := gt_in (tb2 (List.mem_of_getElem? (i := 180) rfl)) rfl
theorem k_Ta_30 : LKd "SeriesTables$Table" 30 2 m_Ta_become := ⟨w_Ta_become, wi_Ta, gt_in (tb2 (List.mem_of_getElem? (i := 192) rfl)) rfl, by decide +kernel, by decide⟩
theorem k_Tb_3 : Cond.methodLink "SeriesTables$TableBench" 3 objectInit ∈ gt_ws := gt_in (tb1 (List.mem_of_getElem? (i := 187) rfl)) rfl
theorem n_Tb_9 : NWk "SeriesTables$TableBench" 9 4 := ⟨by decide, gt_in (tb1 (List.mem_of_getElem? (i := 188) rfl)) rfl, gt_in (tb1 (List.mem_of_getElem? (i := 46) rfl)) rfl, gt_in (tb1 (List.mem_of_getElem? (i := 4) rfl)) rfl⟩
theorem k_Tb_11 : LKd "SeriesTables$TableBench" 11 0 m_Ta_init := ⟨w_Ta_init, wi_Ta, gt_in (tb1 (List.mem_of_getElem? (i := 189) rfl)) rfl, by decide +kernel, by decide⟩
theorem f_Tb_12 : FLk "SeriesTables$TableBench" 12 5 0 := ⟨by decide, by decide, gt_in (tb1 (List.mem_of_getElem? (i := 193) rfl)) rfl⟩
theorem f_Tb_18 : FLk "SeriesTables$TableBench" 18 5 1 := ⟨by decide, by decide, gt_in (tb1 (List.mem_of_getElem? (i := 195) rfl)) rfl⟩
theorem f_Tb_21 : FLk "SeriesTables$TableBench" 21 5 2 := ⟨by decide, by decide, gt_in (tb1 (List.mem_of_getElem? (i := 196) rfl)) rfl⟩
theorem f_Tb_24 : FLk "SeriesTables$TableBench" 24 5 3 := ⟨by decide, by decide, gt_in (tb1 (List.mem_of_getElem? (i := 197) rfl)) rfl⟩
theorem f_Tb_28 : FLk "SeriesTables$TableBench" 28 5 4 := ⟨by decide, by decide, gt_in (tb1 (List.mem_of_getElem? (i := 199) rfl)) rfl⟩
theorem f_Tb_31 : FLk "SeriesTables$TableBench" 31 5 5 := ⟨by decide, by decide, gt_in (tb1 (List.mem_of_getElem? (i := 200) rfl)) rfl⟩
theorem f_Tb_36 : FLk "SeriesTables$TableBench" 36 5 6 := ⟨by decide, by decide, gt_in (tb1 (List.mem_of_getElem? (i := 201) rfl)) rfl⟩
theorem f_Tb_39 : FLk "SeriesTables$TableBench" 39 5 7 := ⟨by decide, by decide, gt_in (tb1 (List.mem_of_getElem? (i := 202) rfl)) rfl⟩
theorem n_Tb_42 : NWk "SeriesTables$TableBench" 42 2 := ⟨by decide, gt_in (tb1 (List.mem_of_getElem? (i := 191) rfl)) rfl, gt_in (tb1 (List.mem_of_getElem? (i := 165) rfl)) rfl, gt_in (tb1 (List.mem_of_getElem? (i := 7) rfl)) rfl⟩
theorem k_Tb_44 : LKd "SeriesTables$TableBench" 44 0 m_Sb_init := ⟨w_Sb_init, wi_Sb, gt_in (tb1 (List.mem_of_getElem? (i := 192) rfl)) rfl, by decide +kernel, by decide⟩
theorem f_Tb_45 : FLk "SeriesTables$TableBench" 45 5 8 := ⟨by decide, by decide, gt_in (tb1 (List.mem_of_getElem? (i := 203) rfl)) rfl⟩
theorem f_Tb_49 : FLk "SeriesTables$TableBench" 49 4 0 := ⟨by decide, by decide, gt_in (tb1 (List.mem_of_getElem? (i := 52) rfl)) rfl⟩
theorem k_Tb_52 : Cond.methodLink "SeriesTables$TableBench" 52 arraycopyName ∈ gt_ws := gt_in (tb3 (List.mem_of_getElem? (i := 78) rfl)) rfl
theorem f_Tb_58 : FLk "SeriesTables$TableBench" 58 4 1 := ⟨by decide, by decide, gt_in (tb1 (List.mem_of_getElem? (i := 54) rfl)) rfl⟩
theorem k_Tb_61 : LKd "SeriesTables$TableBench" 61 3 m_Rw_multiply := ⟨w_Rw_multiply, wi_Rw, gt_in (tb3 (List.mem_of_getElem? (i := 79) rfl)) rfl, by decide +kernel, by decide⟩
theorem k_Tb_67 : LKd "SeriesTables$TableBench" 67 4 m_Rw_insert := ⟨w_Rw_insert, wi_Rw, gt_in (tb3 (List.mem_of_getElem? (i := 87) rfl)) rfl, by decide +kernel, by decide⟩
theorem k_Tb_71 : LKd "SeriesTables$TableBench" 71 3 m_Sb_reverse := ⟨w_Sb_reverse, wi_Sb, gt_in (tb3 (List.mem_of_getElem? (i := 100) rfl)) rfl, by decide +kernel, by decide⟩
theorem k_Tb_75 : LKd "SeriesTables$TableBench" 75 2 m_Rw_becomeNumber := ⟨w_Rw_becomeNumber, wi_Rw, gt_in (tb3 (List.mem_of_getElem? (i := 101) rfl)) rfl, by decide +kernel, by decide⟩
theorem k_Tb_79 : LKd "SeriesTables$TableBench" 79 3 m_Rw_divide := ⟨w_Rw_divide, wi_Rw, gt_in (tb3 (List.mem_of_getElem? (i := 102) rfl)) rfl, by decide +kernel, by decide⟩
theorem k_Tb_82 : LKd "SeriesTables$TableBench" 82 3 m_Tb_invert := ⟨w_Tb_invert, wi_Tb, gt_in (tb3 (List.mem_of_getElem? (i := 96) rfl)) rfl, by decide +kernel, by decide⟩
theorem k_Tb_86 : LKd "SeriesTables$TableBench" 86 1 m_Ta_copyFrom := ⟨w_Ta_copyFrom, wi_Ta, gt_in (tb3 (List.mem_of_getElem? (i := 103) rfl)) rfl, by decide +kernel, by decide⟩
theorem k_Tb_90 : LKd "SeriesTables$TableBench" 90 0 m_Ta_becomeOne := ⟨w_Ta_becomeOne, wi_Ta, gt_in (tb3 (List.mem_of_getElem? (i := 104) rfl)) rfl, by decide +kernel, by decide⟩
theorem k_Tb_93 : LKd "SeriesTables$TableBench" 93 1 m_Ma_abs := ⟨w_Ma_abs, wi_Ma, gt_in (tb3 (List.mem_of_getElem? (i := 105) rfl)) rfl, by decide +kernel, by decide⟩
theorem k_Tb_99 : LKd "SeriesTables$TableBench" 99 4 m_Tb_multiply := ⟨w_Tb_multiply, wi_Tb, gt_in (tb3 (List.mem_of_getElem? (i := 108) rfl)) rfl, by decide +kernel, by decide⟩
theorem k_Tb_102 : LKd "SeriesTables$TableBench" 102 2 m_Tb_findA := ⟨w_Tb_findA, wi_Tb, gt_in (tb3 (List.mem_of_getElem? (i := 117) rfl)) rfl, by decide +kernel, by decide⟩
theorem k_Tb_106 : LKd "SeriesTables$TableBench" 106 2 m_Tb_findZ := ⟨w_Tb_findZ, wi_Tb, gt_in (tb3 (List.mem_of_getElem? (i := 122) rfl)) rfl, by decide +kernel, by decide⟩
theorem k_Tb_109 : LKd "SeriesTables$TableBench" 109 3 m_Rw_oneAhead := ⟨w_Rw_oneAhead, wi_Rw, gt_in (tb3 (List.mem_of_getElem? (i := 121) rfl)) rfl, by decide +kernel, by decide⟩
theorem k_Tb_112 : LKd "SeriesTables$TableBench" 112 2 m_Rw_difference := ⟨w_Rw_difference, wi_Rw, gt_in (tb3 (List.mem_of_getElem? (i := 126) rfl)) rfl, by decide +kernel, by decide⟩
theorem k_Tb_116 : LKd "SeriesTables$TableBench" 116 3 m_Tb_fillColumns := ⟨w_Tb_fillColumns, wi_Tb, gt_in (tb3 (List.mem_of_getElem? (i := 143) rfl)) rfl, by decide +kernel, by decide⟩
theorem k_Tb_120 : LKd "SeriesTables$TableBench" 120 3 m_Tb_termOfSum := ⟨w_Tb_termOfSum, wi_Tb, gt_in (tb3 (List.mem_of_getElem? (i := 146) rfl)) rfl, by decide +kernel, by decide⟩
theorem c_Tb_124 : Cond.constantLong "SeriesTables$TableBench" 124 1000003 ∈ gt_ws := gt_in (tb3 (List.mem_of_getElem? (i := 151) rfl)) rfl
theorem c_Tb_126 : Cond.constant "SeriesTables$TableBench" 126 1000003 ∈ gt_ws := gt_in (tb3 (List.mem_of_getElem? (i := 150) rfl)) rfl
theorem k_Tb_127 : LKd "SeriesTables$TableBench" 127 1 m_Rw_inverse := ⟨w_Rw_inverse, wi_Rw, gt_in (tb4 (List.mem_of_getElem? (i := 101) rfl)) rfl, by decide +kernel, by decide⟩
theorem k_Tb_130 : LKd "SeriesTables$TableBench" 130 2 m_Rw_product := ⟨w_Rw_product, wi_Rw, gt_in (tb3 (List.mem_of_getElem? (i := 175) rfl)) rfl, by decide +kernel, by decide⟩
theorem k_Tb_133 : LKd "SeriesTables$TableBench" 133 2 m_Rw_isT := ⟨w_Rw_isT, wi_Rw, gt_in (tb3 (List.mem_of_getElem? (i := 160) rfl)) rfl, by decide +kernel, by decide⟩
theorem k_Tb_137 : LKd "SeriesTables$TableBench" 137 2 m_Rw_isOne := ⟨w_Rw_isOne, wi_Rw, gt_in (tb3 (List.mem_of_getElem? (i := 166) rfl)) rfl, by decide +kernel, by decide⟩
theorem k_Tb_140 : LKd "SeriesTables$TableBench" 140 2 m_Tb_isShifted := ⟨w_Tb_isShifted, wi_Tb, gt_in (tb3 (List.mem_of_getElem? (i := 169) rfl)) rfl, by decide +kernel, by decide⟩
theorem k_Tb_144 : LKd "SeriesTables$TableBench" 144 2 m_Tb_isDerivative := ⟨w_Tb_isDerivative, wi_Tb, gt_in (tb3 (List.mem_of_getElem? (i := 172) rfl)) rfl, by decide +kernel, by decide⟩
theorem k_Tb_147 : LKd "SeriesTables$TableBench" 147 2 m_Tb_isChequered := ⟨w_Tb_isChequered, wi_Tb, gt_in (tb3 (List.mem_of_getElem? (i := 176) rfl)) rfl, by decide +kernel, by decide⟩
theorem k_Tb_150 : LKd "SeriesTables$TableBench" 150 3 m_Tb_firstDifference := ⟨w_Tb_firstDifference, wi_Tb, gt_in (tb3 (List.mem_of_getElem? (i := 192) rfl)) rfl, by decide +kernel, by decide⟩
theorem k_Tp_3 : Cond.methodLink "SeriesTables$Tape" 3 objectInit ∈ gt_ws := gt_in (tb1 (List.mem_of_getElem? (i := 86) rfl)) rfl
theorem f_Tp_9 : FLk "SeriesTables$Tape" 9 6 0 := ⟨by decide, by decide, gt_in (tb1 (List.mem_of_getElem? (i := 87) rfl)) rfl⟩
theorem f_Tp_15 : FLk "SeriesTables$Tape" 15 6 1 := ⟨by decide, by decide, gt_in (tb1 (List.mem_of_getElem? (i := 90) rfl)) rfl⟩
theorem k_Lw_7 : LKd "SeriesTablesLaw" 7 3 m_X_entry := ⟨w_X_entry, wi_X, gt_in (tb4 (List.mem_of_getElem? (i := 21) rfl)) rfl, by decide +kernel, by decide⟩
theorem n_Lw_8 : NWk "SeriesTablesLaw" 8 7 := ⟨by decide, gt_in (tb1 (List.mem_of_getElem? (i := 22) rfl)) rfl, gt_in (tb1 (List.mem_of_getElem? (i := 23) rfl)) rfl, gt_in (tb1 (List.mem_of_getElem? (i := 1) rfl)) rfl⟩
theorem k_Lw_15 : LKd "SeriesTablesLaw" 15 3 m_X_production := ⟨w_X_production, wi_X, gt_in (tb4 (List.mem_of_getElem? (i := 89) rfl)) rfl, by decide +kernel, by decide⟩
theorem k_Lw_18 : LKd "SeriesTablesLaw" 18 0 m_X_init := ⟨w_X_init, wi_X, gt_in (tb1 (List.mem_of_getElem? (i := 24) rfl)) rfl, by decide +kernel, by decide⟩
theorem n_Lw_19 : NWk "SeriesTablesLaw" 19 8 := ⟨by decide, gt_in (tb4 (List.mem_of_getElem? (i := 119) rfl)) rfl, gt_in (tb4 (List.mem_of_getElem? (i := 113) rfl)) rfl, gt_in (tb1 (List.mem_of_getElem? (i := 9) rfl)) rfl⟩
theorem k_Lw_21 : LKd "SeriesTablesLaw" 21 0 m_Md_init := ⟨w_Md_init, wi_Md, gt_in (tb4 (List.mem_of_getElem? (i := 120) rfl)) rfl, by decide +kernel, by decide⟩
theorem k_Lw_22 : LKd "SeriesTablesLaw" 22 5 m_X_feed := ⟨w_X_feed, wi_X, gt_in (tb2 (List.mem_of_getElem? (i := 17) rfl)) rfl, by decide +kernel, by decide⟩
theorem k_Lw_26 : LKd "SeriesTablesLaw" 26 5 m_Md_feed := ⟨w_Md_feed, wi_Md, gt_in (tb4 (List.mem_of_getElem? (i := 106) rfl)) rfl, by decide +kernel, by decide⟩
theorem k_Lw_27 : LKd "SeriesTablesLaw" 27 1 m_X_end := ⟨w_X_end, wi_X, gt_in (tb2 (List.mem_of_getElem? (i := 25) rfl)) rfl, by decide +kernel, by decide⟩
theorem k_Lw_31 : LKd "SeriesTablesLaw" 31 1 m_Md_end := ⟨w_Md_end, wi_Md, gt_in (tb4 (List.mem_of_getElem? (i := 115) rfl)) rfl, by decide +kernel, by decide⟩
theorem k_Lw_32 : LKd "SeriesTablesLaw" 32 0 m_X_text := ⟨w_X_text, wi_X, gt_in (tb2 (List.mem_of_getElem? (i := 29) rfl)) rfl, by decide +kernel, by decide⟩
theorem k_Lw_36 : LKd "SeriesTablesLaw" 36 0 m_Md_text := ⟨w_Md_text, wi_Md, gt_in (tb4 (List.mem_of_getElem? (i := 218) rfl)) rfl, by decide +kernel, by decide⟩
theorem k_Lw_37 : LKd "SeriesTablesLaw" 37 0 m_X_fault := ⟨w_X_fault, wi_X, gt_in (tb2 (List.mem_of_getElem? (i := 197) rfl)) rfl, by decide +kernel, by decide⟩
theorem k_Lw_40 : LKd "SeriesTablesLaw" 40 0 m_Md_fault := ⟨w_Md_fault, wi_Md, gt_in (tb5 (List.mem_of_getElem? (i := 48) rfl)) rfl, by decide +kernel, by decide⟩
theorem k_Lw_41 : LKd "SeriesTablesLaw" 41 1 m_X_now := ⟨w_X_now, wi_X, gt_in (tb2 (List.mem_of_getElem? (i := 201) rfl)) rfl, by decide +kernel, by decide⟩
theorem k_Lw_45 : LKd "SeriesTablesLaw" 45 1 m_Md_now := ⟨w_Md_now, wi_Md, gt_in (tb5 (List.mem_of_getElem? (i := 52) rfl)) rfl, by decide +kernel, by decide⟩
theorem k_Lw_46 : LKd "SeriesTablesLaw" 46 2 m_X_at := ⟨w_X_at, wi_X, gt_in (tb2 (List.mem_of_getElem? (i := 205) rfl)) rfl, by decide +kernel, by decide⟩
theorem k_Lw_50 : LKd "SeriesTablesLaw" 50 2 m_Md_at := ⟨w_Md_at, wi_Md, gt_in (tb5 (List.mem_of_getElem? (i := 60) rfl)) rfl, by decide +kernel, by decide⟩
theorem k_Lw_51 : LKd "SeriesTablesLaw" 51 3 m_X_put := ⟨w_X_put, wi_X, gt_in (tb2 (List.mem_of_getElem? (i := 217) rfl)) rfl, by decide +kernel, by decide⟩
theorem k_Lw_54 : LKd "SeriesTablesLaw" 54 3 m_Md_put := ⟨w_Md_put, wi_Md, gt_in (tb5 (List.mem_of_getElem? (i := 72) rfl)) rfl, by decide +kernel, by decide⟩
theorem k_Lw_55 : LKd "SeriesTablesLaw" 55 4 m_X_make := ⟨w_X_make, wi_X, gt_in (tb2 (List.mem_of_getElem? (i := 233) rfl)) rfl, by decide +kernel, by decide⟩
theorem k_Lw_59 : LKd "SeriesTablesLaw" 59 4 m_Md_make := ⟨w_Md_make, wi_Md, gt_in (tb5 (List.mem_of_getElem? (i := 80) rfl)) rfl, by decide +kernel, by decide⟩
theorem k_Lw_60 : LKd "SeriesTablesLaw" 60 3 m_X_turn := ⟨w_X_turn, wi_X, gt_in (tb3 (List.mem_of_getElem? (i := 24) rfl)) rfl, by decide +kernel, by decide⟩
theorem k_Lw_63 : LKd "SeriesTablesLaw" 63 3 m_Md_turn := ⟨w_Md_turn, wi_Md, gt_in (tb5 (List.mem_of_getElem? (i := 107) rfl)) rfl, by decide +kernel, by decide⟩
theorem k_Lw_64 : LKd "SeriesTablesLaw" 64 3 m_X_raise := ⟨w_X_raise, wi_X, gt_in (tb3 (List.mem_of_getElem? (i := 51) rfl)) rfl, by decide +kernel, by decide⟩
theorem k_Lw_67 : LKd "SeriesTablesLaw" 67 3 m_Md_raise := ⟨w_Md_raise, wi_Md, gt_in (tb5 (List.mem_of_getElem? (i := 121) rfl)) rfl, by decide +kernel, by decide⟩
theorem k_Lw_68 : LKd "SeriesTablesLaw" 68 3 m_X_pair := ⟨w_X_pair, wi_X, gt_in (tb3 (List.mem_of_getElem? (i := 59) rfl)) rfl, by decide +kernel, by decide⟩
theorem k_Lw_71 : LKd "SeriesTablesLaw" 71 3 m_Md_pair := ⟨w_Md_pair, wi_Md, gt_in (tb5 (List.mem_of_getElem? (i := 125) rfl)) rfl, by decide +kernel, by decide⟩
theorem k_Lw_77 : LKd "SeriesTablesLaw" 77 3 m_Md_entry := ⟨w_Md_entry, wi_Md, gt_in (tb5 (List.mem_of_getElem? (i := 137) rfl)) rfl, by decide +kernel, by decide⟩
theorem k_Lw_78 : LKd "SeriesTablesLaw" 78 0 m_Md_thrown := ⟨w_Md_thrown, wi_Md, gt_in (tb4 (List.mem_of_getElem? (i := 102) rfl)) rfl, by decide +kernel, by decide⟩
theorem k_Lw_81 : LKd "SeriesTablesLaw" 81 3 m_X_times := ⟨w_X_times, wi_X, gt_in (tb3 (List.mem_of_getElem? (i := 80) rfl)) rfl, by decide +kernel, by decide⟩
theorem k_Lw_84 : LKd "SeriesTablesLaw" 84 3 m_Md_times := ⟨w_Md_times, wi_Md, gt_in (tb5 (List.mem_of_getElem? (i := 149) rfl)) rfl, by decide +kernel, by decide⟩
theorem k_Lw_85 : LKd "SeriesTablesLaw" 85 3 m_X_power := ⟨w_X_power, wi_X, gt_in (tb3 (List.mem_of_getElem? (i := 88) rfl)) rfl, by decide +kernel, by decide⟩
theorem k_Lw_88 : LKd "SeriesTablesLaw" 88 3 m_Md_power := ⟨w_Md_power, wi_Md, gt_in (tb5 (List.mem_of_getElem? (i := 156) rfl)) rfl, by decide +kernel, by decide⟩
theorem k_Lw_89 : LKd "SeriesTablesLaw" 89 3 m_X_part := ⟨w_X_part, wi_X, gt_in (tb3 (List.mem_of_getElem? (i := 109) rfl)) rfl, by decide +kernel, by decide⟩
theorem k_Lw_92 : LKd "SeriesTablesLaw" 92 3 m_Md_part := ⟨w_Md_part, wi_Md, gt_in (tb5 (List.mem_of_getElem? (i := 160) rfl)) rfl, by decide +kernel, by decide⟩
theorem k_Lw_93 : LKd "SeriesTablesLaw" 93 3 m_X_apply := ⟨w_X_apply, wi_X, gt_in (tb3 (List.mem_of_getElem? (i := 127) rfl)) rfl, by decide +kernel, by decide⟩
theorem k_Lw_96 : LKd "SeriesTablesLaw" 96 3 m_Md_apply := ⟨w_Md_apply, wi_Md, gt_in (tb5 (List.mem_of_getElem? (i := 168) rfl)) rfl, by decide +kernel, by decide⟩
theorem k_Lw_97 : LKd "SeriesTablesLaw" 97 3 m_X_sums := ⟨w_X_sums, wi_X, gt_in (tb3 (List.mem_of_getElem? (i := 135) rfl)) rfl, by decide +kernel, by decide⟩
theorem k_Lw_100 : LKd "SeriesTablesLaw" 100 3 m_Md_sums := ⟨w_Md_sums, wi_Md, gt_in (tb5 (List.mem_of_getElem? (i := 172) rfl)) rfl, by decide +kernel, by decide⟩
theorem k_Lw_103 : LKd "SeriesTablesLaw" 103 3 m_Md_production := ⟨w_Md_production, wi_Md, gt_in (tb5 (List.mem_of_getElem? (i := 176) rfl)) rfl, by decide +kernel, by decide⟩
theorem k_Lw_104 : LKd "SeriesTablesLaw" 104 1 m_X_kinds := ⟨w_X_kinds, wi_X, gt_in (tb3 (List.mem_of_getElem? (i := 152) rfl)) rfl, by decide +kernel, by decide⟩
theorem k_Lw_107 : LKd "SeriesTablesLaw" 107 1 m_Md_kinds := ⟨w_Md_kinds, wi_Md, gt_in (tb5 (List.mem_of_getElem? (i := 180) rfl)) rfl, by decide +kernel, by decide⟩
theorem k_Lw_108 : LKd "SeriesTablesLaw" 108 3 m_X_differ := ⟨w_X_differ, wi_X, gt_in (tb3 (List.mem_of_getElem? (i := 180) rfl)) rfl, by decide +kernel, by decide⟩
theorem k_Lw_111 : LKd "SeriesTablesLaw" 111 3 m_Md_differ := ⟨w_Md_differ, wi_Md, gt_in (tb5 (List.mem_of_getElem? (i := 192) rfl)) rfl, by decide +kernel, by decide⟩
theorem k_Lw_112 : LKd "SeriesTablesLaw" 112 3 m_X_fails := ⟨w_X_fails, wi_X, gt_in (tb3 (List.mem_of_getElem? (i := 193) rfl)) rfl, by decide +kernel, by decide⟩
theorem k_Lw_115 : LKd "SeriesTablesLaw" 115 3 m_Md_fails := ⟨w_Md_fails, wi_Md, gt_in (tb5 (List.mem_of_getElem? (i := 196) rfl)) rfl, by decide +kernel, by decide⟩
theorem k_Lw_116 : LKd "SeriesTablesLaw" 116 2 m_X_free := ⟨w_X_free, wi_X, gt_in (tb3 (List.mem_of_getElem? (i := 197) rfl)) rfl, by decide +kernel, by decide⟩
theorem k_Lw_119 : LKd "SeriesTablesLaw" 119 2 m_Md_free := ⟨w_Md_free, wi_Md, gt_in (tb5 (List.mem_of_getElem? (i := 200) rfl)) rfl, by decide +kernel, by decide⟩
theorem k_Lw_120 : LKd "SeriesTablesLaw" 120 3 m_X_set := ⟨w_X_set, wi_X, gt_in (tb3 (List.mem_of_getElem? (i := 201) rfl)) rfl, by decide +kernel, by decide⟩
theorem k_Lw_123 : LKd "SeriesTablesLaw" 123 3 m_Md_set := ⟨w_Md_set, wi_Md, gt_in (tb5 (List.mem_of_getElem? (i := 204) rfl)) rfl, by decide +kernel, by decide⟩
theorem k_Lw_124 : LKd "SeriesTablesLaw" 124 1 m_X_lay := ⟨w_X_lay, wi_X, gt_in (tb3 (List.mem_of_getElem? (i := 205) rfl)) rfl, by decide +kernel, by decide⟩
theorem k_Lw_127 : LKd "SeriesTablesLaw" 127 1 m_Md_lay := ⟨w_Md_lay, wi_Md, gt_in (tb5 (List.mem_of_getElem? (i := 208) rfl)) rfl, by decide +kernel, by decide⟩
theorem k_Lw_128 : LKd "SeriesTablesLaw" 128 0 m_X_unlike := ⟨w_X_unlike, wi_X, gt_in (tb3 (List.mem_of_getElem? (i := 213) rfl)) rfl, by decide +kernel, by decide⟩
theorem k_Lw_131 : LKd "SeriesTablesLaw" 131 0 m_Md_unlike := ⟨w_Md_unlike, wi_Md, gt_in (tb5 (List.mem_of_getElem? (i := 212) rfl)) rfl, by decide +kernel, by decide⟩
theorem k_Lw_132 : LKd "SeriesTablesLaw" 132 1 m_X_rebuild := ⟨w_X_rebuild, wi_X, gt_in (tb3 (List.mem_of_getElem? (i := 221) rfl)) rfl, by decide +kernel, by decide⟩
theorem k_Lw_135 : LKd "SeriesTablesLaw" 135 1 m_Md_rebuild := ⟨w_Md_rebuild, wi_Md, gt_in (tb5 (List.mem_of_getElem? (i := 220) rfl)) rfl, by decide +kernel, by decide⟩
theorem k_Lw_136 : LKd "SeriesTablesLaw" 136 2 m_X_drawn := ⟨w_X_drawn, wi_X, gt_in (tb3 (List.mem_of_getElem? (i := 225) rfl)) rfl, by decide +kernel, by decide⟩
theorem k_Lw_139 : LKd "SeriesTablesLaw" 139 2 m_Md_drawn := ⟨w_Md_drawn, wi_Md, gt_in (tb5 (List.mem_of_getElem? (i := 224) rfl)) rfl, by decide +kernel, by decide⟩
theorem k_Lw_140 : LKd "SeriesTablesLaw" 140 0 m_X_undo := ⟨w_X_undo, wi_X, gt_in (tb4 (List.mem_of_getElem? (i := 1) rfl)) rfl, by decide +kernel, by decide⟩
theorem k_Lw_143 : LKd "SeriesTablesLaw" 143 0 m_Md_undo := ⟨w_Md_undo, wi_Md, gt_in (tb5 (List.mem_of_getElem? (i := 233) rfl)) rfl, by decide +kernel, by decide⟩
theorem k_Lw_144 : LKd "SeriesTablesLaw" 144 1 m_X_image := ⟨w_X_image, wi_X, gt_in (tb4 (List.mem_of_getElem? (i := 9) rfl)) rfl, by decide +kernel, by decide⟩
theorem k_Lw_147 : LKd "SeriesTablesLaw" 147 1 m_Md_image := ⟨w_Md_image, wi_Md, gt_in (tb5 (List.mem_of_getElem? (i := 237) rfl)) rfl, by decide +kernel, by decide⟩
theorem k_Lw_148 : LKd "SeriesTablesLaw" 148 1 m_X_restore := ⟨w_X_restore, wi_X, gt_in (tb4 (List.mem_of_getElem? (i := 13) rfl)) rfl, by decide +kernel, by decide⟩
theorem k_Lw_151 : LKd "SeriesTablesLaw" 151 1 m_Md_restore := ⟨w_Md_restore, wi_Md, gt_in (tb6 (List.mem_of_getElem? (i := 1) rfl)) rfl, by decide +kernel, by decide⟩
theorem f_Md_1 : FLk "SeriesTablesModel" 1 8 0 := ⟨by decide, by decide, gt_in (tb4 (List.mem_of_getElem? (i := 124) rfl)) rfl⟩
theorem f_Md_7 : FLk "SeriesTablesModel" 7 8 1 := ⟨by decide, by decide, gt_in (tb4 (List.mem_of_getElem? (i := 125) rfl)) rfl⟩
theorem f_Md_11 : FLk "SeriesTablesModel" 11 8 2 := ⟨by decide, by decide, gt_in (tb4 (List.mem_of_getElem? (i := 126) rfl)) rfl⟩
theorem k_Md_14 : LKd "SeriesTablesModel" 14 1 m_Md_lays := ⟨w_Md_lays, wi_Md, gt_in (tb4 (List.mem_of_getElem? (i := 110) rfl)) rfl, by decide +kernel, by decide⟩
theorem f_Md_18 : FLk "SeriesTablesModel" 18 8 3 := ⟨by decide, by decide, gt_in (tb4 (List.mem_of_getElem? (i := 127) rfl)) rfl⟩
theorem f_Md_21 : FLk "SeriesTablesModel" 21 8 4 := ⟨by decide, by decide, gt_in (tb4 (List.mem_of_getElem? (i := 128) rfl)) rfl⟩
theorem f_Md_24 : FLk "SeriesTablesModel" 24 8 5 := ⟨by decide, by decide, gt_in (tb4 (List.mem_of_getElem? (i := 129) rfl)) rfl⟩
theorem f_Md_27 : FLk "SeriesTablesModel" 27 8 6 := ⟨by decide, by decide, gt_in (tb4 (List.mem_of_getElem? (i := 130) rfl)) rfl⟩
theorem k_Md_30 : LKd "SeriesTablesModel" 30 1 m_Md_isLetter := ⟨w_Md_isLetter, wi_Md, gt_in (tb4 (List.mem_of_getElem? (i := 226) rfl)) rfl, by decide +kernel, by decide⟩
theorem k_Md_34 : LKd "SeriesTablesModel" 34 1 m_Md_isDigit := ⟨w_Md_isDigit, wi_Md, gt_in (tb4 (List.mem_of_getElem? (i := 229) rfl)) rfl, by decide +kernel, by decide⟩
theorem f_Md_37 : FLk "SeriesTablesModel" 37 8 7 := ⟨by decide, by decide, gt_in (tb4 (List.mem_of_getElem? (i := 131) rfl)) rfl⟩
theorem k_Md_40 : LKd "SeriesTablesModel" 40 1 m_Md_tapeAt := ⟨w_Md_tapeAt, wi_Md, gt_in (tb4 (List.mem_of_getElem? (i := 232) rfl)) rfl, by decide +kernel, by decide⟩
theorem f_Md_44 : FLk "SeriesTablesModel" 44 8 8 := ⟨by decide, by decide, gt_in (tb4 (List.mem_of_getElem? (i := 132) rfl)) rfl⟩
theorem f_Md_47 : FLk "SeriesTablesModel" 47 8 9 := ⟨by decide, by decide, gt_in (tb4 (List.mem_of_getElem? (i := 133) rfl)) rfl⟩
theorem k_Md_50 : Cond.methodLink "SeriesTablesModel" 50 objectInit ∈ gt_ws := gt_in (tb4 (List.mem_of_getElem? (i := 123) rfl)) rfl
theorem f_Md_56 : FLk "SeriesTablesModel" 56 8 10 := ⟨by decide, by decide, gt_in (tb4 (List.mem_of_getElem? (i := 134) rfl)) rfl⟩
theorem f_Md_59 : FLk "SeriesTablesModel" 59 8 11 := ⟨by decide, by decide, gt_in (tb4 (List.mem_of_getElem? (i := 135) rfl)) rfl⟩
theorem f_Md_62 : FLk "SeriesTablesModel" 62 8 12 := ⟨by decide, by decide, gt_in (tb4 (List.mem_of_getElem? (i := 136) rfl)) rfl⟩
theorem f_Md_65 : FLk "SeriesTablesModel" 65 8 13 := ⟨by decide, by decide, gt_in (tb4 (List.mem_of_getElem? (i := 137) rfl)) rfl⟩
theorem f_Md_68 : FLk "SeriesTablesModel" 68 8 14 := ⟨by decide, by decide, gt_in (tb4 (List.mem_of_getElem? (i := 138) rfl)) rfl⟩
theorem f_Md_72 : FLk "SeriesTablesModel" 72 8 20 := ⟨by decide, by decide, gt_in (tb4 (List.mem_of_getElem? (i := 144) rfl)) rfl⟩
theorem f_Md_75 : FLk "SeriesTablesModel" 75 8 21 := ⟨by decide, by decide, gt_in (tb4 (List.mem_of_getElem? (i := 145) rfl)) rfl⟩
theorem f_Md_78 : FLk "SeriesTablesModel" 78 8 22 := ⟨by decide, by decide, gt_in (tb4 (List.mem_of_getElem? (i := 146) rfl)) rfl⟩
theorem f_Md_81 : FLk "SeriesTablesModel" 81 8 23 := ⟨by decide, by decide, gt_in (tb4 (List.mem_of_getElem? (i := 147) rfl)) rfl⟩
theorem f_Md_84 : FLk "SeriesTablesModel" 84 8 24 := ⟨by decide, by decide, gt_in (tb4 (List.mem_of_getElem? (i := 148) rfl)) rfl⟩
theorem f_Md_87 : FLk "SeriesTablesModel" 87 8 25 := ⟨by decide, by decide, gt_in (tb4 (List.mem_of_getElem? (i := 149) rfl)) rfl⟩
theorem f_Md_90 : FLk "SeriesTablesModel" 90 8 26 := ⟨by decide, by decide, gt_in (tb4 (List.mem_of_getElem? (i := 150) rfl)) rfl⟩
theorem f_Md_93 : FLk "SeriesTablesModel" 93 8 27 := ⟨by decide, by decide, gt_in (tb4 (List.mem_of_getElem? (i := 151) rfl)) rfl⟩
theorem f_Md_96 : FLk "SeriesTablesModel" 96 8 28 := ⟨by decide, by decide, gt_in (tb4 (List.mem_of_getElem? (i := 152) rfl)) rfl⟩
theorem f_Md_99 : FLk "SeriesTablesModel" 99 8 29 := ⟨by decide, by decide, gt_in (tb4 (List.mem_of_getElem? (i := 153) rfl)) rfl⟩
theorem c_Md_102 : Cond.constantLong "SeriesTablesModel" 102 1000003 ∈ gt_ws := gt_in (tb5 (List.mem_of_getElem? (i := 26) rfl)) rfl
theorem c_Md_104 : Cond.constant "SeriesTablesModel" 104 1000001 ∈ gt_ws := gt_in (tb5 (List.mem_of_getElem? (i := 33) rfl)) rfl
theorem k_Md_105 : LKd "SeriesTablesModel" 105 1 m_Md_turned := ⟨w_Md_turned, wi_Md, gt_in (tb5 (List.mem_of_getElem? (i := 30) rfl)) rfl, by decide +kernel, by decide⟩
theorem k_Md_109 : LKd "SeriesTablesModel" 109 1 m_Md_rest := ⟨w_Md_rest, wi_Md, gt_in (tb5 (List.mem_of_getElem? (i := 23) rfl)) rfl, by decide +kernel, by decide⟩
theorem k_Md_112 : LKd "SeriesTablesModel" 112 0 m_Md_next := ⟨w_Md_next, wi_Md, gt_in (tb4 (List.mem_of_getElem? (i := 222) rfl)) rfl, by decide +kernel, by decide⟩
theorem k_Md_115 : LKd "SeriesTablesModel" 115 1 m_Md_bad := ⟨w_Md_bad, wi_Md, gt_in (tb5 (List.mem_of_getElem? (i := 8) rfl)) rfl, by decide +kernel, by decide⟩
theorem k_Md_118 : LKd "SeriesTablesModel" 118 3 m_Md_isIn := ⟨w_Md_isIn, wi_Md, gt_in (tb5 (List.mem_of_getElem? (i := 12) rfl)) rfl, by decide +kernel, by decide⟩
theorem f_Md_122 : FLk "SeriesTablesModel" 122 8 18 := ⟨by decide, by decide, gt_in (tb4 (List.mem_of_getElem? (i := 142) rfl)) rfl⟩
theorem k_Md_125 : LKd "SeriesTablesModel" 125 2 m_Md_readSum := ⟨w_Md_readSum, wi_Md, gt_in (tb5 (List.mem_of_getElem? (i := 19) rfl)) rfl, by decide +kernel, by decide⟩
theorem k_Md_129 : LKd "SeriesTablesModel" 129 6 m_Md_isWord := ⟨w_Md_isWord, wi_Md, gt_in (tb5 (List.mem_of_getElem? (i := 0) rfl)) rfl, by decide +kernel, by decide⟩
theorem k_Md_133 : LKd "SeriesTablesModel" 133 4 m_Md_divides := ⟨w_Md_divides, wi_Md, gt_in (tb5 (List.mem_of_getElem? (i := 27) rfl)) rfl, by decide +kernel, by decide⟩
theorem f_Md_137 : FLk "SeriesTablesModel" 137 8 19 := ⟨by decide, by decide, gt_in (tb4 (List.mem_of_getElem? (i := 143) rfl)) rfl⟩
theorem k_Md_140 : LKd "SeriesTablesModel" 140 3 m_Md_makesTable := ⟨w_Md_makesTable, wi_Md, gt_in (tb5 (List.mem_of_getElem? (i := 38) rfl)) rfl, by decide +kernel, by decide⟩
theorem k_Md_144 : LKd "SeriesTablesModel" 144 0 m_Md_readSize := ⟨w_Md_readSize, wi_Md, gt_in (tb5 (List.mem_of_getElem? (i := 4) rfl)) rfl, by decide +kernel, by decide⟩
theorem k_Md_148 : LKd "SeriesTablesModel" 148 0 m_Md_readSeries := ⟨w_Md_readSeries, wi_Md, gt_in (tb5 (List.mem_of_getElem? (i := 15) rfl)) rfl, by decide +kernel, by decide⟩
theorem k_Md_151 : LKd "SeriesTablesModel" 151 0 m_Md_readTable := ⟨w_Md_readTable, wi_Md, gt_in (tb5 (List.mem_of_getElem? (i := 34) rfl)) rfl, by decide +kernel, by decide⟩
theorem k_Md_154 : LKd "SeriesTablesModel" 154 0 m_Md_readLine := ⟨w_Md_readLine, wi_Md, gt_in (tb4 (List.mem_of_getElem? (i := 236) rfl)) rfl, by decide +kernel, by decide⟩
theorem k_Md_157 : LKd "SeriesTablesModel" 157 0 m_Md_readEnd := ⟨w_Md_readEnd, wi_Md, gt_in (tb5 (List.mem_of_getElem? (i := 41) rfl)) rfl, by decide +kernel, by decide⟩
theorem k_Md_160 : LKd "SeriesTablesModel" 160 4 m_Md_copy := ⟨w_Md_copy, wi_Md, gt_in (tb5 (List.mem_of_getElem? (i := 45) rfl)) rfl, by decide +kernel, by decide⟩
theorem f_Md_164 : FLk "SeriesTablesModel" 164 8 15 := ⟨by decide, by decide, gt_in (tb4 (List.mem_of_getElem? (i := 139) rfl)) rfl⟩
theorem f_Md_167 : FLk "SeriesTablesModel" 167 8 16 := ⟨by decide, by decide, gt_in (tb4 (List.mem_of_getElem? (i := 140) rfl)) rfl⟩
theorem f_Md_170 : FLk "SeriesTablesModel" 170 8 17 := ⟨by decide, by decide, gt_in (tb4 (List.mem_of_getElem? (i := 141) rfl)) rfl⟩
theorem k_Md_173 : LKd "SeriesTablesModel" 173 0 m_Md_wide := ⟨w_Md_wide, wi_Md, gt_in (tb5 (List.mem_of_getElem? (i := 56) rfl)) rfl, by decide +kernel, by decide⟩
theorem k_Md_177 : LKd "SeriesTablesModel" 177 0 m_Md_snap := ⟨w_Md_snap, wi_Md, gt_in (tb5 (List.mem_of_getElem? (i := 76) rfl)) rfl, by decide +kernel, by decide⟩
theorem k_Md_180 : LKd "SeriesTablesModel" 180 1 m_Md_isSeries := ⟨w_Md_isSeries, wi_Md, gt_in (tb5 (List.mem_of_getElem? (i := 64) rfl)) rfl, by decide +kernel, by decide⟩
theorem k_Md_183 : LKd "SeriesTablesModel" 183 1 m_Md_isPlace := ⟨w_Md_isPlace, wi_Md, gt_in (tb5 (List.mem_of_getElem? (i := 68) rfl)) rfl, by decide +kernel, by decide⟩
theorem k_Md_186 : LKd "SeriesTablesModel" 186 4 m_Md_multiplies := ⟨w_Md_multiplies, wi_Md, gt_in (tb5 (List.mem_of_getElem? (i := 88) rfl)) rfl, by decide +kernel, by decide⟩
theorem k_Md_189 : LKd "SeriesTablesModel" 189 2 m_Md_takes := ⟨w_Md_takes, wi_Md, gt_in (tb5 (List.mem_of_getElem? (i := 84) rfl)) rfl, by decide +kernel, by decide⟩
theorem k_Md_193 : LKd "SeriesTablesModel" 193 0 m_Md_laysUnit := ⟨w_Md_laysUnit, wi_Md, gt_in (tb5 (List.mem_of_getElem? (i := 91) rfl)) rfl, by decide +kernel, by decide⟩
theorem k_Md_196 : LKd "SeriesTablesModel" 196 3 m_Md_columns := ⟨w_Md_columns, wi_Md, gt_in (tb5 (List.mem_of_getElem? (i := 95) rfl)) rfl, by decide +kernel, by decide⟩
theorem k_Md_200 : LKd "SeriesTablesModel" 200 3 m_Md_makes := ⟨w_Md_makes, wi_Md, gt_in (tb5 (List.mem_of_getElem? (i := 99) rfl)) rfl, by decide +kernel, by decide⟩
theorem k_Md_203 : LKd "SeriesTablesModel" 203 3 m_Md_comes := ⟨w_Md_comes, wi_Md, gt_in (tb5 (List.mem_of_getElem? (i := 103) rfl)) rfl, by decide +kernel, by decide⟩
theorem k_Md_207 : LKd "SeriesTablesModel" 207 1 m_Md_ones := ⟨w_Md_ones, wi_Md, gt_in (tb5 (List.mem_of_getElem? (i := 115) rfl)) rfl, by decide +kernel, by decide⟩
theorem k_Md_211 : LKd "SeriesTablesModel" 211 4 m_Md_solves := ⟨w_Md_solves, wi_Md, gt_in (tb5 (List.mem_of_getElem? (i := 118) rfl)) rfl, by decide +kernel, by decide⟩
theorem k_Md_214 : LKd "SeriesTablesModel" 214 2 m_Md_reverses := ⟨w_Md_reverses, wi_Md, gt_in (tb5 (List.mem_of_getElem? (i := 111) rfl)) rfl, by decide +kernel, by decide⟩
theorem k_Md_218 : LKd "SeriesTablesModel" 218 1 m_Md_isTable := ⟨w_Md_isTable, wi_Md, gt_in (tb5 (List.mem_of_getElem? (i := 129) rfl)) rfl, by decide +kernel, by decide⟩
theorem k_Md_221 : LKd "SeriesTablesModel" 221 2 m_Md_comesAs := ⟨w_Md_comesAs, wi_Md, gt_in (tb5 (List.mem_of_getElem? (i := 133) rfl)) rfl, by decide +kernel, by decide⟩
theorem k_Md_225 : LKd "SeriesTablesModel" 225 0 m_Md_refuse := ⟨w_Md_refuse, wi_Md, gt_in (tb5 (List.mem_of_getElem? (i := 141) rfl)) rfl, by decide +kernel, by decide⟩
theorem k_Md_228 : LKd "SeriesTablesModel" 228 2 m_Md_matrix := ⟨w_Md_matrix, wi_Md, gt_in (tb5 (List.mem_of_getElem? (i := 145) rfl)) rfl, by decide +kernel, by decide⟩
theorem k_Md_231 : LKd "SeriesTablesModel" 231 4 m_Md_product := ⟨w_Md_product, wi_Md, gt_in (tb5 (List.mem_of_getElem? (i := 153) rfl)) rfl, by decide +kernel, by decide⟩
theorem k_Md_234 : LKd "SeriesTablesModel" 234 1 m_Md_laysProduction := ⟨w_Md_laysProduction, wi_Md, gt_in (tb5 (List.mem_of_getElem? (i := 164) rfl)) rfl, by decide +kernel, by decide⟩
theorem k_Md_237 : LKd "SeriesTablesModel" 237 2 m_Md_unlikeAt := ⟨w_Md_unlikeAt, wi_Md, gt_in (tb5 (List.mem_of_getElem? (i := 188) rfl)) rfl, by decide +kernel, by decide⟩
theorem k_Md_241 : LKd "SeriesTablesModel" 241 1 m_Md_kindsOf := ⟨w_Md_kindsOf, wi_Md, gt_in (tb5 (List.mem_of_getElem? (i := 184) rfl)) rfl, by decide +kernel, by decide⟩
theorem k_Md_244 : LKd "SeriesTablesModel" 244 0 m_Md_unlikeNow := ⟨w_Md_unlikeNow, wi_Md, gt_in (tb5 (List.mem_of_getElem? (i := 216) rfl)) rfl, by decide +kernel, by decide⟩
theorem f_Md_247 : FLk "SeriesTablesModel" 247 8 30 := ⟨by decide, by decide, gt_in (tb4 (List.mem_of_getElem? (i := 154) rfl)) rfl⟩
theorem c_Md_250 : Cond.constant "SeriesTablesModel" 250 1103515245 ∈ gt_ws := gt_in (tb5 (List.mem_of_getElem? (i := 232) rfl)) rfl
theorem k_Md_251 : LKd "SeriesTablesModel" 251 1 m_Md_draw := ⟨w_Md_draw, wi_Md, gt_in (tb5 (List.mem_of_getElem? (i := 228) rfl)) rfl, by decide +kernel, by decide⟩
theorem k_Sg_335 : LKd "java/lang/String" 335 0 m_Sg_coder := ⟨w_Sg_coder, wi_Sg, gt_in (tb2 (List.mem_of_getElem? (i := 78) rfl)) rfl, by decide +kernel, by decide⟩
theorem k_Sg_492 : LKd "java/lang/String" 492 0 m_Sg_isLatin1 := ⟨w_Sg_isLatin1, wi_Sg, gt_in (tb2 (List.mem_of_getElem? (i := 88) rfl)) rfl, by decide +kernel, by decide⟩
theorem k_Sg_495 : LKd "java/lang/String" 495 2 m_Sl_charAt := ⟨w_Sl_charAt, wi_Sl, gt_in (tb2 (List.mem_of_getElem? (i := 92) rfl)) rfl, by decide +kernel, by decide⟩
theorem k_Sg_1059 : LKd "java/lang/String" 1059 3 m_Pr_checkIndex := ⟨w_Pr_checkIndex, wi_Pr, gt_in (tb2 (List.mem_of_getElem? (i := 100) rfl)) rfl, by decide +kernel, by decide⟩
theorem k_Sl_9 : LKd "java/lang/StringLatin1" 9 2 m_Sg_checkIndex := ⟨w_Sg_checkIndex, wi_Sg, gt_in (tb2 (List.mem_of_getElem? (i := 95) rfl)) rfl, by decide +kernel, by decide⟩
theorem k_Su_414 : LKd "java/lang/StringUTF16" 414 2 m_Sg_checkIndex := ⟨w_Sg_checkIndex, wi_Sg, gt_in (tb2 (List.mem_of_getElem? (i := 112) rfl)) rfl, by decide +kernel, by decide⟩
theorem k_Th_1 : Cond.methodLink "java/lang/Throwable" 1 objectInit ∈ gt_ws := gt_in (tb4 (List.mem_of_getElem? (i := 50) rfl)) rfl
