theorem mem_t0 {i : Nat} {w : Cond} (h : (k2_sels lw_privs)[i]? = some w) (hg : goodWord w = true) : w ∈ TT := List.mem_filter.mpr ⟨List.mem_append_left _ (List.mem_of_getElem? h), hg⟩
theorem mem_t1 {i : Nat} {w : Cond} (h : tables_1_1[i]? = some w) (hg : goodWord w = true) : w ∈ TT := List.mem_filter.mpr ⟨List.mem_append_right _ (List.mem_append_left _ (List.mem_of_getElem? h)), hg⟩
theorem mem_t2 {i : Nat} {w : Cond} (h : tables_1_2[i]? = some w) (hg : goodWord w = true) : w ∈ TT := List.mem_filter.mpr ⟨List.mem_append_right _ (List.mem_append_right _ (List.mem_append_left _ (List.mem_of_getElem? h))), hg⟩
theorem mem_t3 {i : Nat} {w : Cond} (h : tables_1_3[i]? = some w) (hg : goodWord w = true) : w ∈ TT := List.mem_filter.mpr ⟨List.mem_append_right _ (List.mem_append_right _ (List.mem_append_right _ (List.mem_append_left _ (List.mem_of_getElem? h)))), hg⟩
theorem mem_t4 {i : Nat} {w : Cond} (h : tables_1_4[i]? = some w) (hg : goodWord w = true) : w ∈ TT := List.mem_filter.mpr ⟨List.mem_append_right _ (List.mem_append_right _ (List.mem_append_right _ (List.mem_append_right _ (List.mem_of_getElem? h)))), hg⟩
abbrev b_D_spelled : ByteArray := prog_6_method_4_code
def y_D_spelled : MethodName := ⟨"SieveDesk$Word", "spelled", "([BII)LSieveDesk$Word;"⟩
abbrev b_G_advance : ByteArray := prog_2_method_4_code
def y_G_advance : MethodName := ⟨"SieveDesk$Grammar", "advance", "()V"⟩
abbrev b_G_begin : ByteArray := prog_2_method_9_code
def y_G_begin : MethodName := ⟨"SieveDesk$Grammar", "begin", "()Z"⟩
abbrev b_G_expect : ByteArray := prog_2_method_5_code
def y_G_expect : MethodName := ⟨"SieveDesk$Grammar", "expect", "(Ljava/lang/String;)V"⟩
abbrev b_G_follow : ByteArray := prog_2_method_8_code
def y_G_follow : MethodName := ⟨"SieveDesk$Grammar", "follow", "(LSieveDesk$Word;)Z"⟩
abbrev b_G_init : ByteArray := prog_2_method_1_code
def y_G_init : MethodName := ⟨"SieveDesk$Grammar", "<init>", "(LSieveDesk$Tokens;)V"⟩
abbrev b_G_lacks : ByteArray := prog_2_method_7_code
def y_G_lacks : MethodName := ⟨"SieveDesk$Grammar", "lacks", "(I)Z"⟩
abbrev b_G_reads : ByteArray := prog_2_method_2_code
def y_G_reads : MethodName := ⟨"SieveDesk$Grammar", "reads", "()Z"⟩
abbrev b_G_standsAt : ByteArray := prog_2_method_3_code
def y_G_standsAt : MethodName := ⟨"SieveDesk$Grammar", "standsAt", "()I"⟩
abbrev b_G_take : ByteArray := prog_2_method_6_code
def y_G_take : MethodName := ⟨"SieveDesk$Grammar", "take", "(C)Z"⟩
abbrev b_G_takeCommands : ByteArray := prog_2_method_10_code
def y_G_takeCommands : MethodName := ⟨"SieveDesk$Grammar", "takeCommands", "()Z"⟩
abbrev b_G_takeKind : ByteArray := prog_2_method_16_code
def y_G_takeKind : MethodName := ⟨"SieveDesk$Grammar", "takeKind", "(I)Z"⟩
abbrev b_G_takeMoreTests : ByteArray := prog_2_method_12_code
def y_G_takeMoreTests : MethodName := ⟨"SieveDesk$Grammar", "takeMoreTests", "()Z"⟩
abbrev b_G_takeSign : ByteArray := prog_2_method_17_code
def y_G_takeSign : MethodName := ⟨"SieveDesk$Grammar", "takeSign", "(C)Z"⟩
abbrev b_G_takeString : ByteArray := prog_2_method_15_code
def y_G_takeString : MethodName := ⟨"SieveDesk$Grammar", "takeString", "(I)Z"⟩
abbrev b_G_takeStrings : ByteArray := prog_2_method_14_code
def y_G_takeStrings : MethodName := ⟨"SieveDesk$Grammar", "takeStrings", "(I)Z"⟩
abbrev b_G_takeTags : ByteArray := prog_2_method_13_code
def y_G_takeTags : MethodName := ⟨"SieveDesk$Grammar", "takeTags", "()Z"⟩
abbrev b_G_takeTest : ByteArray := prog_2_method_11_code
def y_G_takeTest : MethodName := ⟨"SieveDesk$Grammar", "takeTest", "()Z"⟩
abbrev b_JC_highSurrogate : ByteArray := prog_9_method_28_code
def y_JC_highSurrogate : MethodName := ⟨"java/lang/Character", "highSurrogate", "(I)C"⟩
abbrev b_JC_isValidCodePoint : ByteArray := prog_9_method_11_code
def y_JC_isValidCodePoint : MethodName := ⟨"java/lang/Character", "isValidCodePoint", "(I)Z"⟩
abbrev b_JC_lowSurrogate : ByteArray := prog_9_method_29_code
def y_JC_lowSurrogate : MethodName := ⟨"java/lang/Character", "lowSurrogate", "(I)C"⟩
abbrev b_JL_canEncode : ByteArray := prog_13_method_4_code
def y_JL_canEncode : MethodName := ⟨"java/lang/StringLatin1", "canEncode", "(I)Z"⟩
abbrev b_JL_charAt : ByteArray := prog_13_method_2_code
def y_JL_charAt : MethodName := ⟨"java/lang/StringLatin1", "charAt", "([BI)C"⟩
abbrev b_JL_indexOf : ByteArray := prog_13_method_22_code
def y_JL_indexOf : MethodName := ⟨"java/lang/StringLatin1", "indexOf", "([BIII)I"⟩
abbrev b_JL_indexOfChar : ByteArray := prog_13_method_23_code
def y_JL_indexOfChar : MethodName := ⟨"java/lang/StringLatin1", "indexOfChar", "([BIII)I"⟩
abbrev b_JM_max : ByteArray := prog_11_method_65_code
def y_JM_max : MethodName := ⟨"java/lang/Math", "max", "(II)I"⟩
abbrev b_JM_min0 : ByteArray := prog_11_method_69_code
def y_JM_min0 : MethodName := ⟨"java/lang/Math", "min", "(II)I"⟩
abbrev b_JM_min1 : ByteArray := prog_11_method_70_code
def y_JM_min1 : MethodName := ⟨"java/lang/Math", "min", "(JJ)J"⟩
abbrev b_JP_checkFromToIndex : ByteArray := prog_15_method_12_code
def y_JP_checkFromToIndex : MethodName := ⟨"jdk/internal/util/Preconditions", "checkFromToIndex", "(IIILjava/util/function/BiFunction;)I"⟩
abbrev b_JP_checkIndex : ByteArray := prog_15_method_11_code
def y_JP_checkIndex : MethodName := ⟨"jdk/internal/util/Preconditions", "checkIndex", "(IILjava/util/function/BiFunction;)I"⟩
abbrev b_JS_charAt : ByteArray := prog_12_method_56_code
def y_JS_charAt : MethodName := ⟨"java/lang/String", "charAt", "(I)C"⟩
abbrev b_JS_checkBoundsBeginEnd : ByteArray := prog_12_method_158_code
def y_JS_checkBoundsBeginEnd : MethodName := ⟨"java/lang/String", "checkBoundsBeginEnd", "(III)V"⟩
abbrev b_JS_checkIndex : ByteArray := prog_12_method_155_code
def y_JS_checkIndex : MethodName := ⟨"java/lang/String", "checkIndex", "(II)V"⟩
abbrev b_JS_coder : ByteArray := prog_12_method_152_code
def y_JS_coder : MethodName := ⟨"java/lang/String", "coder", "()B"⟩
abbrev b_JS_indexOf0 : ByteArray := prog_12_method_79_code
def y_JS_indexOf0 : MethodName := ⟨"java/lang/String", "indexOf", "(I)I"⟩
abbrev b_JS_indexOf1 : ByteArray := prog_12_method_80_code
def y_JS_indexOf1 : MethodName := ⟨"java/lang/String", "indexOf", "(II)I"⟩
abbrev b_JS_isLatin1 : ByteArray := prog_12_method_154_code
def y_JS_isLatin1 : MethodName := ⟨"java/lang/String", "isLatin1", "()Z"⟩
abbrev b_JS_length : ByteArray := prog_12_method_54_code
def y_JS_length : MethodName := ⟨"java/lang/String", "length", "()I"⟩
abbrev b_JU_charAt : ByteArray := prog_14_method_83_code
def y_JU_charAt : MethodName := ⟨"java/lang/StringUTF16", "charAt", "([BI)C"⟩
abbrev b_JU_checkBoundsBeginEnd : ByteArray := prog_14_method_93_code
def y_JU_checkBoundsBeginEnd : MethodName := ⟨"java/lang/StringUTF16", "checkBoundsBeginEnd", "(II[B)V"⟩
abbrev b_JU_checkIndex : ByteArray := prog_14_method_91_code
def y_JU_checkIndex : MethodName := ⟨"java/lang/StringUTF16", "checkIndex", "(I[B)V"⟩
abbrev b_JU_getChar : ByteArray := prog_14_method_5_code
def y_JU_getChar : MethodName := ⟨"java/lang/StringUTF16", "getChar", "([BI)C"⟩
abbrev b_JU_indexOf : ByteArray := prog_14_method_40_code
def y_JU_indexOf : MethodName := ⟨"java/lang/StringUTF16", "indexOf", "([BIII)I"⟩
abbrev b_JU_indexOfChar : ByteArray := prog_14_method_47_code
def y_JU_indexOfChar : MethodName := ⟨"java/lang/StringUTF16", "indexOfChar", "([BIII)I"⟩
abbrev b_JU_indexOfCharUnsafe : ByteArray := prog_14_method_48_code
def y_JU_indexOfCharUnsafe : MethodName := ⟨"java/lang/StringUTF16", "indexOfCharUnsafe", "([BIII)I"⟩
abbrev b_JU_indexOfSupplementary : ByteArray := prog_14_method_49_code
def y_JU_indexOfSupplementary : MethodName := ⟨"java/lang/StringUTF16", "indexOfSupplementary", "([BIII)I"⟩
abbrev b_JU_length : ByteArray := prog_14_method_6_code
def y_JU_length : MethodName := ⟨"java/lang/StringUTF16", "length", "([B)I"⟩
abbrev b_L_law : ByteArray := code
def y_L_law : MethodName := ⟨"SieveDeskLaw", "law", "([I)Z"⟩
abbrev b_M_absence : ByteArray := prog_8_method_38_code
def y_M_absence : MethodName := ⟨"SieveDeskModel", "absence", "()V"⟩
abbrev b_M_add : ByteArray := prog_8_method_9_code
def y_M_add : MethodName := ⟨"SieveDeskModel", "add", "(I)V"⟩
abbrev b_M_begin : ByteArray := prog_8_method_8_code
def y_M_begin : MethodName := ⟨"SieveDeskModel", "begin", "()V"⟩
abbrev b_M_check : ByteArray := prog_8_method_44_code
def y_M_check : MethodName := ⟨"SieveDeskModel", "check", "()I"⟩
abbrev b_M_command : ByteArray := prog_8_method_32_code
def y_M_command : MethodName := ⟨"SieveDeskModel", "command", "()V"⟩
abbrev b_M_count : ByteArray := prog_8_method_46_code
def y_M_count : MethodName := ⟨"SieveDeskModel", "count", "(I)I"⟩
abbrev b_M_counting : ByteArray := prog_8_method_27_code
def y_M_counting : MethodName := ⟨"SieveDeskModel", "counting", "(I)V"⟩
abbrev b_M_digits : ByteArray := prog_8_method_16_code
def y_M_digits : MethodName := ⟨"SieveDeskModel", "digits", "()I"⟩
abbrev b_M_endAt : ByteArray := prog_8_method_18_code
def y_M_endAt : MethodName := ⟨"SieveDeskModel", "endAt", "(I)I"⟩
abbrev b_M_fail : ByteArray := prog_8_method_20_code
def y_M_fail : MethodName := ⟨"SieveDeskModel", "fail", "()V"⟩
abbrev b_M_file : ByteArray := prog_8_method_34_code
def y_M_file : MethodName := ⟨"SieveDeskModel", "file", "()V"⟩
abbrev b_M_how : ByteArray := prog_8_method_41_code
def y_M_how : MethodName := ⟨"SieveDeskModel", "how", "(Z)V"⟩
abbrev b_M_init : ByteArray := prog_8_method_1_code
def y_M_init : MethodName := ⟨"SieveDeskModel", "<init>", "()V"⟩
abbrev b_M_is : ByteArray := prog_8_method_21_code
def y_M_is : MethodName := ⟨"SieveDeskModel", "is", "(I)Z"⟩
abbrev b_M_isDigit : ByteArray := prog_8_method_5_code
def y_M_isDigit : MethodName := ⟨"SieveDeskModel", "isDigit", "(I)Z"⟩
abbrev b_M_isDotted : ByteArray := prog_8_method_36_code
def y_M_isDotted : MethodName := ⟨"SieveDeskModel", "isDotted", "(IIIZ)Z"⟩
abbrev b_M_isLetter : ByteArray := prog_8_method_4_code
def y_M_isLetter : MethodName := ⟨"SieveDeskModel", "isLetter", "(I)Z"⟩
abbrev b_M_isLocal : ByteArray := prog_8_method_37_code
def y_M_isLocal : MethodName := ⟨"SieveDeskModel", "isLocal", "(I)Z"⟩
abbrev b_M_isSign : ByteArray := prog_8_method_22_code
def y_M_isSign : MethodName := ⟨"SieveDeskModel", "isSign", "(I)Z"⟩
abbrev b_M_isWord : ByteArray := prog_8_method_23_code
def y_M_isWord : MethodName := ⟨"SieveDeskModel", "isWord", "(I)Z"⟩
abbrev b_M_isWordByte : ByteArray := prog_8_method_6_code
def y_M_isWordByte : MethodName := ⟨"SieveDeskModel", "isWordByte", "(I)Z"⟩
abbrev b_M_like : ByteArray := prog_8_method_11_code
def y_M_like : MethodName := ⟨"SieveDeskModel", "like", "(I)Z"⟩
abbrev b_M_lines : ByteArray := prog_8_method_19_code
def y_M_lines : MethodName := ⟨"SieveDeskModel", "lines", "()I"⟩
abbrev b_M_list : ByteArray := prog_8_method_30_code
def y_M_list : MethodName := ⟨"SieveDeskModel", "list", "(Z)V"⟩
abbrev b_M_low : ByteArray := prog_8_method_7_code
def y_M_low : MethodName := ⟨"SieveDeskModel", "low", "(I)I"⟩
abbrev b_M_needs : ByteArray := prog_8_method_26_code
def y_M_needs : MethodName := ⟨"SieveDeskModel", "needs", "(I)V"⟩
abbrev b_M_next : ByteArray := prog_8_method_13_code
def y_M_next : MethodName := ⟨"SieveDeskModel", "next", "()V"⟩
abbrev b_M_number : ByteArray := prog_8_method_39_code
def y_M_number : MethodName := ⟨"SieveDeskModel", "number", "()V"⟩
abbrev b_M_one : ByteArray := prog_8_method_42_code
def y_M_one : MethodName := ⟨"SieveDeskModel", "one", "(II)V"⟩
abbrev b_M_peek : ByteArray := prog_8_method_3_code
def y_M_peek : MethodName := ⟨"SieveDeskModel", "peek", "(I)I"⟩
abbrev b_M_place : ByteArray := prog_8_method_45_code
def y_M_place : MethodName := ⟨"SieveDeskModel", "place", "()I"⟩
abbrev b_M_push : ByteArray := prog_8_method_25_code
def y_M_push : MethodName := ⟨"SieveDeskModel", "push", "(I)V"⟩
abbrev b_M_put : ByteArray := prog_8_method_2_code
def y_M_put : MethodName := ⟨"SieveDeskModel", "put", "(JI)Z"⟩
abbrev b_M_quoted : ByteArray := prog_8_method_17_code
def y_M_quoted : MethodName := ⟨"SieveDeskModel", "quoted", "()I"⟩
abbrev b_M_redirect : ByteArray := prog_8_method_35_code
def y_M_redirect : MethodName := ⟨"SieveDeskModel", "redirect", "()V"⟩
abbrev b_M_require : ByteArray := prog_8_method_31_code
def y_M_require : MethodName := ⟨"SieveDeskModel", "require", "()V"⟩
abbrev b_M_skip : ByteArray := prog_8_method_12_code
def y_M_skip : MethodName := ⟨"SieveDeskModel", "skip", "()Z"⟩
abbrev b_M_step : ByteArray := prog_8_method_43_code
def y_M_step : MethodName := ⟨"SieveDeskModel", "step", "(I)V"⟩
abbrev b_M_string : ByteArray := prog_8_method_28_code
def y_M_string : MethodName := ⟨"SieveDeskModel", "string", "()V"⟩
abbrev b_M_tags : ByteArray := prog_8_method_33_code
def y_M_tags : MethodName := ⟨"SieveDeskModel", "tags", "(I)V"⟩
abbrev b_M_take : ByteArray := prog_8_method_24_code
def y_M_take : MethodName := ⟨"SieveDeskModel", "take", "(I)V"⟩
abbrev b_M_taken : ByteArray := prog_8_method_29_code
def y_M_taken : MethodName := ⟨"SieveDeskModel", "taken", "()V"⟩
abbrev b_M_test : ByteArray := prog_8_method_40_code
def y_M_test : MethodName := ⟨"SieveDeskModel", "test", "()V"⟩
abbrev b_M_token : ByteArray := prog_8_method_14_code
def y_M_token : MethodName := ⟨"SieveDeskModel", "token", "()I"⟩
abbrev b_M_which : ByteArray := prog_8_method_10_code
def y_M_which : MethodName := ⟨"SieveDeskModel", "which", "(II)I"⟩
abbrev b_M_wordOf : ByteArray := prog_8_method_15_code
def y_M_wordOf : MethodName := ⟨"SieveDeskModel", "wordOf", "()V"⟩
abbrev b_Q_add : ByteArray := prog_4_method_3_code
def y_Q_add : MethodName := ⟨"SieveDesk$Quoted", "add", "(I)Z"⟩
abbrev b_Q_empty : ByteArray := prog_4_method_2_code
def y_Q_empty : MethodName := ⟨"SieveDesk$Quoted", "empty", "()V"⟩
abbrev b_Q_init : ByteArray := prog_4_method_1_code
def y_Q_init : MethodName := ⟨"SieveDesk$Quoted", "<init>", "()V"⟩
abbrev b_Q_isAddress : ByteArray := prog_4_method_6_code
def y_Q_isAddress : MethodName := ⟨"SieveDesk$Quoted", "isAddress", "()Z"⟩
abbrev b_Q_isDotted : ByteArray := prog_4_method_7_code
def y_Q_isDotted : MethodName := ⟨"SieveDesk$Quoted", "isDotted", "(IIILjava/lang/String;)Z"⟩
abbrev b_Q_isMailbox : ByteArray := prog_4_method_5_code
def y_Q_isMailbox : MethodName := ⟨"SieveDesk$Quoted", "isMailbox", "()Z"⟩
abbrev b_Q_says : ByteArray := prog_4_method_4_code
def y_Q_says : MethodName := ⟨"SieveDesk$Quoted", "says", "()I"⟩
abbrev b_S_check : ByteArray := prog_1_method_3_code
def y_S_check : MethodName := ⟨"SieveDesk", "check", "()I"⟩
abbrev b_S_count : ByteArray := prog_1_method_5_code
def y_S_count : MethodName := ⟨"SieveDesk", "count", "(I)I"⟩
abbrev b_S_goesOnWord : ByteArray := prog_1_method_10_code
def y_S_goesOnWord : MethodName := ⟨"SieveDesk", "goesOnWord", "(I)Z"⟩
abbrev b_S_init : ByteArray := prog_1_method_1_code
def y_S_init : MethodName := ⟨"SieveDesk", "<init>", "()V"⟩
abbrev b_S_isDigit : ByteArray := prog_1_method_8_code
def y_S_isDigit : MethodName := ⟨"SieveDesk", "isDigit", "(I)Z"⟩
abbrev b_S_isLetter : ByteArray := prog_1_method_7_code
def y_S_isLetter : MethodName := ⟨"SieveDesk", "isLetter", "(I)Z"⟩
abbrev b_S_lineOf : ByteArray := prog_1_method_6_code
def y_S_lineOf : MethodName := ⟨"SieveDesk", "lineOf", "(I)I"⟩
abbrev b_S_place : ByteArray := prog_1_method_4_code
def y_S_place : MethodName := ⟨"SieveDesk", "place", "()I"⟩
abbrev b_S_put : ByteArray := prog_1_method_2_code
def y_S_put : MethodName := ⟨"SieveDesk", "put", "(JI)Z"⟩
abbrev b_S_same : ByteArray := prog_1_method_11_code
def y_S_same : MethodName := ⟨"SieveDesk", "same", "([BIILjava/lang/String;)Z"⟩
abbrev b_S_startsWord : ByteArray := prog_1_method_9_code
def y_S_startsWord : MethodName := ⟨"SieveDesk", "startsWord", "(I)Z"⟩
abbrev b_T_add : ByteArray := prog_5_method_3_code
def y_T_add : MethodName := ⟨"SieveDesk$Tokens", "add", "(ILSieveDesk$Word;II)V"⟩
abbrev b_T_behindComment : ByteArray := prog_5_method_6_code
def y_T_behindComment : MethodName := ⟨"SieveDesk$Tokens", "behindComment", "(I)I"⟩
abbrev b_T_behindLine : ByteArray := prog_5_method_7_code
def y_T_behindLine : MethodName := ⟨"SieveDesk$Tokens", "behindLine", "(I)I"⟩
abbrev b_T_behindLineEnd : ByteArray := prog_5_method_8_code
def y_T_behindLineEnd : MethodName := ⟨"SieveDesk$Tokens", "behindLineEnd", "(I)I"⟩
abbrev b_T_byteAt : ByteArray := prog_5_method_4_code
def y_T_byteAt : MethodName := ⟨"SieveDesk$Tokens", "byteAt", "(I)I"⟩
abbrev b_T_init : ByteArray := prog_5_method_1_code
def y_T_init : MethodName := ⟨"SieveDesk$Tokens", "<init>", "([B)V"⟩
abbrev b_T_scan : ByteArray := prog_5_method_2_code
def y_T_scan : MethodName := ⟨"SieveDesk$Tokens", "scan", "(I)V"⟩
abbrev b_T_scanNumber : ByteArray := prog_5_method_13_code
def y_T_scanNumber : MethodName := ⟨"SieveDesk$Tokens", "scanNumber", "()Z"⟩
abbrev b_T_scanQuoted : ByteArray := prog_5_method_15_code
def y_T_scanQuoted : MethodName := ⟨"SieveDesk$Tokens", "scanQuoted", "()Z"⟩
abbrev b_T_scanTag : ByteArray := prog_5_method_12_code
def y_T_scanTag : MethodName := ⟨"SieveDesk$Tokens", "scanTag", "()Z"⟩
abbrev b_T_scanText : ByteArray := prog_5_method_16_code
def y_T_scanText : MethodName := ⟨"SieveDesk$Tokens", "scanText", "(I)Z"⟩
abbrev b_T_scanToken : ByteArray := prog_5_method_9_code
def y_T_scanToken : MethodName := ⟨"SieveDesk$Tokens", "scanToken", "()Z"⟩
abbrev b_T_scanWord : ByteArray := prog_5_method_11_code
def y_T_scanWord : MethodName := ⟨"SieveDesk$Tokens", "scanWord", "()Z"⟩
abbrev b_T_shiftOf : ByteArray := prog_5_method_14_code
def y_T_shiftOf : MethodName := ⟨"SieveDesk$Tokens", "shiftOf", "(I)I"⟩
abbrev b_T_skipGap : ByteArray := prog_5_method_5_code
def y_T_skipGap : MethodName := ⟨"SieveDesk$Tokens", "skipGap", "()V"⟩
abbrev b_T_wordEnd : ByteArray := prog_5_method_10_code
def y_T_wordEnd : MethodName := ⟨"SieveDesk$Tokens", "wordEnd", "(I)I"⟩
theorem k_0 : Cond.selects "SieveDesk$Tokens" y_T_scan y_T_scan ∈ TT := mem_t0 (i := 0) rfl rfl
theorem k_1 : Cond.selects "SieveDesk$Tokens" y_T_skipGap y_T_skipGap ∈ TT := mem_t0 (i := 1) rfl rfl
theorem k_2 : Cond.selects "SieveDesk$Tokens" y_T_byteAt y_T_byteAt ∈ TT := mem_t0 (i := 2) rfl rfl
theorem k_3 : Cond.selects "SieveDesk$Tokens" y_T_behindLine y_T_behindLine ∈ TT := mem_t0 (i := 3) rfl rfl
theorem k_4 : Cond.selects "SieveDesk$Tokens" y_T_behindComment y_T_behindComment ∈ TT := mem_t0 (i := 4) rfl rfl
theorem k_5 : Cond.selects "SieveDesk$Tokens" y_T_add y_T_add ∈ TT := mem_t0 (i := 5) rfl rfl
theorem k_6 : Cond.selects "SieveDesk$Tokens" y_T_scanToken y_T_scanToken ∈ TT := mem_t0 (i := 6) rfl rfl
theorem k_7 : Cond.selects "SieveDesk$Tokens" y_T_scanWord y_T_scanWord ∈ TT := mem_t0 (i := 7) rfl rfl
theorem k_8 : Cond.selects "SieveDesk$Tokens" y_T_wordEnd y_T_wordEnd ∈ TT := mem_t0 (i := 8) rfl rfl
theorem k_9 : Cond.selects "SieveDesk$Tokens" y_T_scanText y_T_scanText ∈ TT := mem_t0 (i := 9) rfl rfl
theorem k_10 : Cond.selects "SieveDesk$Tokens" y_T_behindLineEnd y_T_behindLineEnd ∈ TT := mem_t0 (i := 10) rfl rfl
theorem k_11 : Cond.selects "SieveDesk$Tokens" y_T_scanTag y_T_scanTag ∈ TT := mem_t0 (i := 11) rfl rfl
theorem k_12 : Cond.selects "SieveDesk$Tokens" y_T_scanNumber y_T_scanNumber ∈ TT := mem_t0 (i := 12) rfl rfl
theorem k_13 : Cond.selects "SieveDesk$Tokens" y_T_scanQuoted y_T_scanQuoted ∈ TT := mem_t0 (i := 13) rfl rfl
theorem k_14 : Cond.selects "SieveDesk$Quoted" y_Q_empty y_Q_empty ∈ TT := mem_t0 (i := 14) rfl rfl
theorem k_15 : Cond.selects "SieveDesk$Quoted" y_Q_says y_Q_says ∈ TT := mem_t0 (i := 15) rfl rfl
theorem k_16 : Cond.selects "SieveDesk$Quoted" y_Q_isMailbox y_Q_isMailbox ∈ TT := mem_t0 (i := 16) rfl rfl
theorem k_17 : Cond.selects "SieveDesk$Quoted" y_Q_isAddress y_Q_isAddress ∈ TT := mem_t0 (i := 17) rfl rfl
theorem k_18 : Cond.selects "SieveDesk$Quoted" y_Q_isDotted y_Q_isDotted ∈ TT := mem_t0 (i := 18) rfl rfl
theorem k_19 : Cond.selects "SieveDesk$Quoted" y_Q_add y_Q_add ∈ TT := mem_t0 (i := 19) rfl rfl
theorem k_20 : Cond.selects "SieveDesk$Grammar" y_G_reads y_G_reads ∈ TT := mem_t0 (i := 20) rfl rfl
theorem k_21 : Cond.selects "SieveDesk$Grammar" y_G_advance y_G_advance ∈ TT := mem_t0 (i := 21) rfl rfl
theorem k_22 : Cond.selects "SieveDesk$Grammar" y_G_expect y_G_expect ∈ TT := mem_t0 (i := 22) rfl rfl
theorem k_23 : Cond.selects "SieveDesk$Grammar" y_G_take y_G_take ∈ TT := mem_t0 (i := 23) rfl rfl
theorem k_24 : Cond.selects "SieveDesk$Grammar" y_G_follow y_G_follow ∈ TT := mem_t0 (i := 24) rfl rfl
theorem k_25 : Cond.selects "SieveDesk$Grammar" y_G_takeCommands y_G_takeCommands ∈ TT := mem_t0 (i := 25) rfl rfl
theorem k_26 : Cond.selects "SieveDesk$Grammar" y_G_begin y_G_begin ∈ TT := mem_t0 (i := 26) rfl rfl
theorem k_27 : Cond.selects "SieveDesk$Grammar" y_G_lacks y_G_lacks ∈ TT := mem_t0 (i := 27) rfl rfl
theorem k_28 : Cond.selects "SieveDesk$Grammar" y_G_takeTest y_G_takeTest ∈ TT := mem_t0 (i := 28) rfl rfl
theorem k_29 : Cond.selects "SieveDesk$Grammar" y_G_takeMoreTests y_G_takeMoreTests ∈ TT := mem_t0 (i := 29) rfl rfl
theorem k_30 : Cond.selects "SieveDesk$Grammar" y_G_takeTags y_G_takeTags ∈ TT := mem_t0 (i := 30) rfl rfl
theorem k_31 : Cond.selects "SieveDesk$Grammar" y_G_takeKind y_G_takeKind ∈ TT := mem_t0 (i := 31) rfl rfl
theorem k_32 : Cond.selects "SieveDesk$Grammar" y_G_takeString y_G_takeString ∈ TT := mem_t0 (i := 32) rfl rfl
theorem k_33 : Cond.selects "SieveDesk$Grammar" y_G_takeStrings y_G_takeStrings ∈ TT := mem_t0 (i := 33) rfl rfl
theorem k_34 : Cond.selects "SieveDesk$Grammar" y_G_takeSign y_G_takeSign ∈ TT := mem_t0 (i := 34) rfl rfl
theorem k_35 : Cond.selects "SieveDesk$Grammar" y_G_standsAt y_G_standsAt ∈ TT := mem_t0 (i := 35) rfl rfl
theorem k_36 : Cond.selects "SieveDesk" y_S_lineOf y_S_lineOf ∈ TT := mem_t0 (i := 36) rfl rfl
theorem k_37 : Cond.selects "SieveDeskModel" y_M_next y_M_next ∈ TT := mem_t0 (i := 37) rfl rfl
theorem k_38 : Cond.selects "SieveDeskModel" y_M_skip y_M_skip ∈ TT := mem_t0 (i := 38) rfl rfl
theorem k_39 : Cond.selects "SieveDeskModel" y_M_peek y_M_peek ∈ TT := mem_t0 (i := 39) rfl rfl
theorem k_40 : Cond.selects "SieveDeskModel" y_M_token y_M_token ∈ TT := mem_t0 (i := 40) rfl rfl
theorem k_41 : Cond.selects "SieveDeskModel" y_M_begin y_M_begin ∈ TT := mem_t0 (i := 41) rfl rfl
theorem k_42 : Cond.selects "SieveDeskModel" y_M_wordOf y_M_wordOf ∈ TT := mem_t0 (i := 42) rfl rfl
theorem k_43 : Cond.selects "SieveDeskModel" y_M_add y_M_add ∈ TT := mem_t0 (i := 43) rfl rfl
theorem k_44 : Cond.selects "SieveDeskModel" y_M_like y_M_like ∈ TT := mem_t0 (i := 44) rfl rfl
theorem k_45 : Cond.selects "SieveDeskModel" y_M_which y_M_which ∈ TT := mem_t0 (i := 45) rfl rfl
theorem k_46 : Cond.selects "SieveDeskModel" y_M_lines y_M_lines ∈ TT := mem_t0 (i := 46) rfl rfl
theorem k_47 : Cond.selects "SieveDeskModel" y_M_endAt y_M_endAt ∈ TT := mem_t0 (i := 47) rfl rfl
theorem k_48 : Cond.selects "SieveDeskModel" y_M_digits y_M_digits ∈ TT := mem_t0 (i := 48) rfl rfl
theorem k_49 : Cond.selects "SieveDeskModel" y_M_quoted y_M_quoted ∈ TT := mem_t0 (i := 49) rfl rfl
theorem k_50 : Cond.selects "SieveDeskModel" y_M_fail y_M_fail ∈ TT := mem_t0 (i := 50) rfl rfl
theorem k_51 : Cond.selects "SieveDeskModel" y_M_isWord y_M_isWord ∈ TT := mem_t0 (i := 51) rfl rfl
theorem k_52 : Cond.selects "SieveDeskModel" y_M_is y_M_is ∈ TT := mem_t0 (i := 52) rfl rfl
theorem k_53 : Cond.selects "SieveDeskModel" y_M_list y_M_list ∈ TT := mem_t0 (i := 53) rfl rfl
theorem k_54 : Cond.selects "SieveDeskModel" y_M_isSign y_M_isSign ∈ TT := mem_t0 (i := 54) rfl rfl
theorem k_55 : Cond.selects "SieveDeskModel" y_M_string y_M_string ∈ TT := mem_t0 (i := 55) rfl rfl
theorem k_56 : Cond.selects "SieveDeskModel" y_M_require y_M_require ∈ TT := mem_t0 (i := 56) rfl rfl
theorem k_57 : Cond.selects "SieveDeskModel" y_M_take y_M_take ∈ TT := mem_t0 (i := 57) rfl rfl
theorem k_58 : Cond.selects "SieveDeskModel" y_M_push y_M_push ∈ TT := mem_t0 (i := 58) rfl rfl
theorem k_59 : Cond.selects "SieveDeskModel" y_M_step y_M_step ∈ TT := mem_t0 (i := 59) rfl rfl
theorem k_60 : Cond.selects "SieveDeskModel" y_M_command y_M_command ∈ TT := mem_t0 (i := 60) rfl rfl
theorem k_61 : Cond.selects "SieveDeskModel" y_M_counting y_M_counting ∈ TT := mem_t0 (i := 61) rfl rfl
theorem k_62 : Cond.selects "SieveDeskModel" y_M_needs y_M_needs ∈ TT := mem_t0 (i := 62) rfl rfl
theorem k_63 : Cond.selects "SieveDeskModel" y_M_tags y_M_tags ∈ TT := mem_t0 (i := 63) rfl rfl
theorem k_64 : Cond.selects "SieveDeskModel" y_M_file y_M_file ∈ TT := mem_t0 (i := 64) rfl rfl
theorem k_65 : Cond.selects "SieveDeskModel" y_M_redirect y_M_redirect ∈ TT := mem_t0 (i := 65) rfl rfl
theorem k_66 : Cond.selects "SieveDeskModel" y_M_isDotted y_M_isDotted ∈ TT := mem_t0 (i := 66) rfl rfl
theorem k_67 : Cond.selects "SieveDeskModel" y_M_taken y_M_taken ∈ TT := mem_t0 (i := 67) rfl rfl
theorem k_68 : Cond.selects "SieveDeskModel" y_M_absence y_M_absence ∈ TT := mem_t0 (i := 68) rfl rfl
theorem k_69 : Cond.selects "SieveDeskModel" y_M_number y_M_number ∈ TT := mem_t0 (i := 69) rfl rfl
theorem k_70 : Cond.selects "SieveDeskModel" y_M_test y_M_test ∈ TT := mem_t0 (i := 70) rfl rfl
theorem k_71 : Cond.selects "SieveDeskModel" y_M_how y_M_how ∈ TT := mem_t0 (i := 71) rfl rfl
theorem k_72 : Cond.selects "SieveDeskModel" y_M_one y_M_one ∈ TT := mem_t0 (i := 72) rfl rfl
theorem k_73 : Cond.initialized "SieveDeskLaw" ∈ TT := mem_t1 (i := 0) rfl rfl
theorem k_74 : Cond.initialized "SieveDesk" ∈ TT := mem_t1 (i := 1) rfl rfl
theorem k_75 : Cond.initialized "SieveDesk$Tokens" ∈ TT := mem_t1 (i := 2) rfl rfl
theorem k_76 : Cond.initialized "SieveDesk$Quoted" ∈ TT := mem_t1 (i := 3) rfl rfl
theorem k_77 : Cond.initialized "SieveDesk$Grammar" ∈ TT := mem_t1 (i := 4) rfl rfl
theorem k_78 : Cond.initialized "java/lang/Enum" ∈ TT := mem_t1 (i := 5) rfl rfl
theorem k_79 : Cond.initialized "SieveDesk$Word" ∈ TT := mem_t1 (i := 6) rfl rfl
theorem k_80 : Cond.initialized "SieveDeskModel" ∈ TT := mem_t1 (i := 7) rfl rfl
theorem k_81 : Cond.initialized "java/lang/String" ∈ TT := mem_t1 (i := 8) rfl rfl
theorem k_82 : Cond.initialized "java/lang/StringLatin1" ∈ TT := mem_t1 (i := 9) rfl rfl
theorem k_83 : Cond.initialized "jdk/internal/util/Preconditions" ∈ TT := mem_t1 (i := 10) rfl rfl
theorem k_84 : Cond.initialized "java/lang/StringUTF16" ∈ TT := mem_t1 (i := 11) rfl rfl
theorem k_85 : Cond.initialized "java/lang/Math" ∈ TT := mem_t1 (i := 12) rfl rfl
theorem k_86 : Cond.initialized "java/lang/Character" ∈ TT := mem_t1 (i := 13) rfl rfl
theorem k_87 : Cond.initialized "SieveDesk$Name" ∈ TT := mem_t1 (i := 14) rfl rfl
theorem k_88 : Cond.classLink "SieveDeskLaw" 7 "SieveDesk" ∈ TT := mem_t1 (i := 15) rfl rfl
theorem k_89 : Cond.instantiable "SieveDesk" 5 ∈ TT := mem_t1 (i := 16) rfl rfl
theorem k_90 : Cond.methodLink "SieveDeskLaw" 9 y_S_init ∈ TT := mem_t1 (i := 17) rfl rfl
theorem k_91 : Cond.instanceMethod y_S_init ∈ TT := mem_t1 (i := 18) rfl rfl
theorem k_92 : Cond.code y_S_init b_S_init 1 none ∈ TT := mem_t1 (i := 19) rfl rfl
theorem k_93 : Cond.methodLink "SieveDesk" 3 objectInit ∈ TT := mem_t1 (i := 20) rfl rfl
theorem k_94 : Cond.instanceMethod objectInit ∈ TT := mem_t1 (i := 21) rfl rfl
theorem k_95 : Cond.code objectInit ⟨#[0xb1]⟩ 1 none ∈ TT := mem_t1 (i := 22) rfl rfl
theorem k_96 : Cond.classLink "SieveDesk" 13 "SieveDesk$Tokens" ∈ TT := mem_t1 (i := 23) rfl rfl
theorem k_97 : Cond.instantiable "SieveDesk$Tokens" 9 ∈ TT := mem_t1 (i := 24) rfl rfl
theorem k_98 : Cond.methodLink "SieveDesk" 15 y_T_init ∈ TT := mem_t1 (i := 25) rfl rfl
theorem k_99 : Cond.instanceMethod y_T_init ∈ TT := mem_t1 (i := 26) rfl rfl
theorem k_100 : Cond.code y_T_init b_T_init 2 none ∈ TT := mem_t1 (i := 27) rfl rfl
theorem k_101 : Cond.methodLink "SieveDesk$Tokens" 3 objectInit ∈ TT := mem_t1 (i := 28) rfl rfl
theorem k_102 : Cond.classLink "SieveDesk$Tokens" 22 "SieveDesk$Word" ∈ TT := mem_t1 (i := 29) rfl rfl
theorem k_104 : Cond.classLink "SieveDesk$Tokens" 31 "SieveDesk$Quoted" ∈ TT := mem_t1 (i := 31) rfl rfl
theorem k_105 : Cond.instantiable "SieveDesk$Quoted" 2 ∈ TT := mem_t1 (i := 32) rfl rfl
theorem k_106 : Cond.methodLink "SieveDesk$Tokens" 33 y_Q_init ∈ TT := mem_t1 (i := 33) rfl rfl
theorem k_107 : Cond.instanceMethod y_Q_init ∈ TT := mem_t1 (i := 34) rfl rfl
theorem k_108 : Cond.code y_Q_init b_Q_init 1 none ∈ TT := mem_t1 (i := 35) rfl rfl
theorem k_109 : Cond.methodLink "SieveDesk$Quoted" 3 objectInit ∈ TT := mem_t1 (i := 36) rfl rfl
theorem k_110 : Cond.fieldLink "SieveDesk$Quoted" 9 "SieveDesk$Quoted" "bytes" "[B" ∈ TT := mem_t1 (i := 37) rfl rfl
theorem k_111 : Cond.fieldLink "SieveDesk$Quoted" 15 "SieveDesk$Quoted" "length" "I" ∈ TT := mem_t1 (i := 38) rfl rfl
theorem k_117 : (Cond.arrayClass FieldType.byte) ∈ TT := mem_t1 (i := 44) rfl rfl
theorem k_118 : (Cond.arrayClass FieldType.int) ∈ TT := mem_t1 (i := 45) rfl rfl
theorem k_119 : Cond.fieldLink "SieveDesk$Tokens" 9 "SieveDesk$Tokens" "script" "[B" ∈ TT := mem_t1 (i := 46) rfl rfl
theorem k_120 : Cond.fieldLink "SieveDesk$Tokens" 15 "SieveDesk$Tokens" "kinds" "[I" ∈ TT := mem_t1 (i := 47) rfl rfl
theorem k_122 : Cond.fieldLink "SieveDesk$Tokens" 19 "SieveDesk$Tokens" "starts" "[I" ∈ TT := mem_t1 (i := 49) rfl rfl
theorem k_124 : Cond.fieldLink "SieveDesk$Tokens" 24 "SieveDesk$Tokens" "words" "[LSieveDesk$Word;" ∈ TT := mem_t1 (i := 51) rfl rfl
theorem k_126 : Cond.fieldLink "SieveDesk$Tokens" 28 "SieveDesk$Tokens" "says" "[I" ∈ TT := mem_t1 (i := 53) rfl rfl
theorem k_128 : Cond.fieldLink "SieveDesk$Tokens" 34 "SieveDesk$Tokens" "quoted" "LSieveDesk$Quoted;" ∈ TT := mem_t1 (i := 55) rfl rfl
theorem k_129 : Cond.fieldLink "SieveDesk$Tokens" 38 "SieveDesk$Tokens" "many" "I" ∈ TT := mem_t1 (i := 56) rfl rfl
theorem k_131 : Cond.fieldLink "SieveDesk$Tokens" 42 "SieveDesk$Tokens" "length" "I" ∈ TT := mem_t1 (i := 58) rfl rfl
theorem k_132 : Cond.fieldLink "SieveDesk$Tokens" 45 "SieveDesk$Tokens" "at" "I" ∈ TT := mem_t1 (i := 59) rfl rfl
theorem k_152 : Cond.classLink "SieveDesk" 22 "SieveDesk$Grammar" ∈ TT := mem_t1 (i := 79) rfl rfl
theorem k_153 : Cond.instantiable "SieveDesk$Grammar" 14 ∈ TT := mem_t1 (i := 80) rfl rfl
theorem k_154 : Cond.methodLink "SieveDesk" 24 y_G_init ∈ TT := mem_t1 (i := 81) rfl rfl
theorem k_155 : Cond.instanceMethod y_G_init ∈ TT := mem_t1 (i := 82) rfl rfl
theorem k_156 : Cond.code y_G_init b_G_init 2 none ∈ TT := mem_t1 (i := 83) rfl rfl
theorem k_157 : Cond.methodLink "SieveDesk$Grammar" 3 objectInit ∈ TT := mem_t1 (i := 84) rfl rfl
theorem k_158 : Cond.fieldLink "SieveDesk$Grammar" 19 "SieveDesk$Word" "NONE" "LSieveDesk$Word;" ∈ TT := mem_t1 (i := 85) rfl rfl
theorem k_160 : Cond.fieldLink "SieveDesk$Grammar" 9 "SieveDesk$Grammar" "tokens" "LSieveDesk$Tokens;" ∈ TT := mem_t1 (i := 87) rfl rfl
theorem k_161 : Cond.fieldLink "SieveDesk$Grammar" 15 "SieveDesk$Grammar" "due" "[C" ∈ TT := mem_t1 (i := 88) rfl rfl
theorem k_162 : Cond.fieldLink "SieveDesk$Grammar" 50 "SieveDesk$Grammar" "manyDue" "I" ∈ TT := mem_t1 (i := 89) rfl rfl
theorem k_163 : Cond.fieldLink "SieveDesk$Grammar" 53 "SieveDesk$Grammar" "at" "I" ∈ TT := mem_t1 (i := 90) rfl rfl
theorem k_164 : Cond.fieldLink "SieveDesk$Grammar" 81 "SieveDesk$Grammar" "kind" "I" ∈ TT := mem_t1 (i := 91) rfl rfl
theorem k_165 : Cond.fieldLink "SieveDesk$Grammar" 25 "SieveDesk$Grammar" "word" "LSieveDesk$Word;" ∈ TT := mem_t1 (i := 92) rfl rfl
theorem k_166 : Cond.fieldLink "SieveDesk$Grammar" 28 "SieveDesk$Grammar" "tag" "LSieveDesk$Word;" ∈ TT := mem_t1 (i := 93) rfl rfl
theorem k_167 : Cond.fieldLink "SieveDesk$Grammar" 91 "SieveDesk$Grammar" "says" "I" ∈ TT := mem_t1 (i := 94) rfl rfl
theorem k_168 : Cond.fieldLink "SieveDesk$Grammar" 31 "SieveDesk$Grammar" "things" "I" ∈ TT := mem_t1 (i := 95) rfl rfl
theorem k_170 : Cond.fieldLink "SieveDesk$Grammar" 35 "SieveDesk$Grammar" "strings" "I" ∈ TT := mem_t1 (i := 97) rfl rfl
theorem k_172 : Cond.fieldLink "SieveDesk$Grammar" 38 "SieveDesk$Grammar" "required" "I" ∈ TT := mem_t1 (i := 99) rfl rfl
theorem k_174 : Cond.fieldLink "SieveDesk$Grammar" 41 "SieveDesk$Grammar" "blocks" "I" ∈ TT := mem_t1 (i := 101) rfl rfl
theorem k_175 : Cond.fieldLink "SieveDesk$Grammar" 44 "SieveDesk$Grammar" "tests" "I" ∈ TT := mem_t1 (i := 102) rfl rfl
theorem k_176 : Cond.fieldLink "SieveDesk$Grammar" 47 "SieveDesk$Grammar" "openGroups" "I" ∈ TT := mem_t1 (i := 103) rfl rfl
theorem k_206 : (Cond.arrayClass FieldType.char) ∈ TT := mem_t1 (i := 133) rfl rfl
theorem k_207 : Cond.fieldLink "SieveDesk" 9 "SieveDesk" "script" "[B" ∈ TT := mem_t1 (i := 134) rfl rfl
theorem k_208 : Cond.fieldLink "SieveDesk" 18 "SieveDesk" "tokens" "LSieveDesk$Tokens;" ∈ TT := mem_t1 (i := 135) rfl rfl
theorem k_209 : Cond.fieldLink "SieveDesk" 27 "SieveDesk" "grammar" "LSieveDesk$Grammar;" ∈ TT := mem_t1 (i := 136) rfl rfl
theorem k_210 : Cond.fieldLink "SieveDesk" 31 "SieveDesk" "length" "I" ∈ TT := mem_t1 (i := 137) rfl rfl
theorem k_211 : Cond.fieldLink "SieveDesk" 35 "SieveDesk" "faultPlace" "I" ∈ TT := mem_t1 (i := 138) rfl rfl
theorem k_223 : Cond.methodLink "SieveDeskLaw" 15 y_S_put ∈ TT := mem_t1 (i := 150) rfl rfl
theorem k_224 : Cond.instanceMethod y_S_put ∈ TT := mem_t1 (i := 151) rfl rfl
theorem k_225 : Cond.selects "SieveDesk" y_S_put y_S_put ∈ TT := mem_t1 (i := 152) rfl rfl
theorem k_226 : Cond.code y_S_put b_S_put 5 (some .boolean) ∈ TT := mem_t1 (i := 153) rfl rfl
theorem k_227 : Cond.methodLink "SieveDeskLaw" 20 y_S_check ∈ TT := mem_t1 (i := 154) rfl rfl
theorem k_228 : Cond.instanceMethod y_S_check ∈ TT := mem_t1 (i := 155) rfl rfl
theorem k_229 : Cond.selects "SieveDesk" y_S_check y_S_check ∈ TT := mem_t1 (i := 156) rfl rfl
theorem k_230 : Cond.code y_S_check b_S_check 3 (some .int) ∈ TT := mem_t1 (i := 157) rfl rfl
theorem k_233 : Cond.instanceMethod y_T_scan ∈ TT := mem_t1 (i := 160) rfl rfl
theorem k_234 : Cond.code y_T_scan b_T_scan 3 none ∈ TT := mem_t1 (i := 161) rfl rfl
theorem k_235 : Cond.methodLink "SieveDesk$Tokens" 48 y_T_skipGap ∈ TT := mem_t1 (i := 162) rfl rfl
theorem k_237 : Cond.instanceMethod y_T_skipGap ∈ TT := mem_t1 (i := 164) rfl rfl
theorem k_238 : Cond.code y_T_skipGap b_T_skipGap 4 none ∈ TT := mem_t1 (i := 165) rfl rfl
theorem k_239 : Cond.methodLink "SieveDesk$Tokens" 63 y_T_byteAt ∈ TT := mem_t1 (i := 166) rfl rfl
theorem k_241 : Cond.instanceMethod y_T_byteAt ∈ TT := mem_t1 (i := 168) rfl rfl
theorem k_242 : Cond.code y_T_byteAt b_T_byteAt 2 (some .int) ∈ TT := mem_t1 (i := 169) rfl rfl
theorem k_243 : Cond.methodLink "SieveDesk$Tokens" 67 y_T_behindLine ∈ TT := mem_t1 (i := 170) rfl rfl
theorem k_245 : Cond.instanceMethod y_T_behindLine ∈ TT := mem_t1 (i := 172) rfl rfl
theorem k_246 : Cond.code y_T_behindLine b_T_behindLine 3 (some .int) ∈ TT := mem_t1 (i := 173) rfl rfl
theorem k_247 : Cond.methodLink "SieveDesk$Tokens" 70 y_T_behindComment ∈ TT := mem_t1 (i := 174) rfl rfl
theorem k_249 : Cond.instanceMethod y_T_behindComment ∈ TT := mem_t1 (i := 176) rfl rfl
theorem k_250 : Cond.code y_T_behindComment b_T_behindComment 3 (some .int) ∈ TT := mem_t1 (i := 177) rfl rfl
theorem k_251 : Cond.fieldLink "SieveDesk$Tokens" 51 "SieveDesk$Word" "NONE" "LSieveDesk$Word;" ∈ TT := mem_t1 (i := 178) rfl rfl
theorem k_252 : Cond.methodLink "SieveDesk$Tokens" 55 y_T_add ∈ TT := mem_t1 (i := 179) rfl rfl
theorem k_254 : Cond.instanceMethod y_T_add ∈ TT := mem_t1 (i := 181) rfl rfl
theorem k_255 : Cond.code y_T_add b_T_add 5 none ∈ TT := mem_t1 (i := 182) rfl rfl
theorem k_256 : Cond.methodLink "SieveDesk$Tokens" 59 y_T_scanToken ∈ TT := mem_t1 (i := 183) rfl rfl
theorem k_258 : Cond.instanceMethod y_T_scanToken ∈ TT := mem_t1 (i := 185) rfl rfl
theorem k_259 : Cond.code y_T_scanToken b_T_scanToken 2 (some .boolean) ∈ TT := mem_t1 (i := 186) rfl rfl
theorem k_261 : Cond.static y_S_startsWord ∈ TT := mem_t1 (i := 188) rfl rfl
theorem k_262 : Cond.code y_S_startsWord b_S_startsWord 1 (some .boolean) ∈ TT := mem_t1 (i := 189) rfl rfl
theorem k_263 : Cond.methodLink "SieveDesk" 63 y_S_isLetter ∈ TT := mem_t1 (i := 190) rfl rfl
theorem k_264 : Cond.static y_S_isLetter ∈ TT := mem_t1 (i := 191) rfl rfl
theorem k_265 : Cond.code y_S_isLetter b_S_isLetter 1 (some .boolean) ∈ TT := mem_t1 (i := 192) rfl rfl
theorem k_266 : Cond.methodLink "SieveDesk$Tokens" 77 y_T_scanWord ∈ TT := mem_t1 (i := 193) rfl rfl
theorem k_268 : Cond.instanceMethod y_T_scanWord ∈ TT := mem_t1 (i := 195) rfl rfl
theorem k_269 : Cond.code y_T_scanWord b_T_scanWord 2 (some .boolean) ∈ TT := mem_t1 (i := 196) rfl rfl
theorem k_270 : Cond.methodLink "SieveDesk$Tokens" 102 y_T_wordEnd ∈ TT := mem_t1 (i := 197) rfl rfl
theorem k_272 : Cond.instanceMethod y_T_wordEnd ∈ TT := mem_t1 (i := 199) rfl rfl
theorem k_273 : Cond.code y_T_wordEnd b_T_wordEnd 3 (some .int) ∈ TT := mem_t1 (i := 200) rfl rfl
theorem k_275 : Cond.static y_S_goesOnWord ∈ TT := mem_t1 (i := 202) rfl rfl
theorem k_276 : Cond.code y_S_goesOnWord b_S_goesOnWord 1 (some .boolean) ∈ TT := mem_t1 (i := 203) rfl rfl
theorem k_277 : Cond.methodLink "SieveDesk" 67 y_S_isDigit ∈ TT := mem_t1 (i := 204) rfl rfl
theorem k_278 : Cond.static y_S_isDigit ∈ TT := mem_t1 (i := 205) rfl rfl
theorem k_279 : Cond.code y_S_isDigit b_S_isDigit 1 (some .boolean) ∈ TT := mem_t1 (i := 206) rfl rfl
theorem k_282 : Cond.static y_S_same ∈ TT := mem_t1 (i := 209) rfl rfl
theorem k_283 : Cond.code y_S_same b_S_same 7 (some .boolean) ∈ TT := mem_t1 (i := 210) rfl rfl
theorem k_284 : Cond.methodLink "SieveDesk" 70 y_JS_length ∈ TT := mem_t1 (i := 211) rfl rfl
theorem k_285 : Cond.instanceMethod y_JS_length ∈ TT := mem_t1 (i := 212) rfl rfl
theorem k_286 : Cond.selects "java/lang/String" y_JS_length y_JS_length ∈ TT := mem_t1 (i := 213) rfl rfl
theorem k_287 : Cond.code y_JS_length b_JS_length 1 (some .int) ∈ TT := mem_t1 (i := 214) rfl rfl
theorem k_288 : Cond.methodLink "java/lang/String" 335 y_JS_coder ∈ TT := mem_t1 (i := 215) rfl rfl
theorem k_289 : Cond.instanceMethod y_JS_coder ∈ TT := mem_t1 (i := 216) rfl rfl
theorem k_290 : Cond.selects "java/lang/String" y_JS_coder y_JS_coder ∈ TT := mem_t1 (i := 217) rfl rfl
theorem k_291 : Cond.code y_JS_coder b_JS_coder 1 (some .byte) ∈ TT := mem_t1 (i := 218) rfl rfl
theorem k_292 : Cond.fieldLink "java/lang/String" 38 "java/lang/String" "COMPACT_STRINGS" "Z" ∈ TT := mem_t1 (i := 219) rfl rfl
theorem k_294 : Cond.methodLink "SieveDesk" 74 y_JS_charAt ∈ TT := mem_t1 (i := 221) rfl rfl
theorem k_295 : Cond.instanceMethod y_JS_charAt ∈ TT := mem_t1 (i := 222) rfl rfl
theorem k_296 : Cond.selects "java/lang/String" y_JS_charAt y_JS_charAt ∈ TT := mem_t1 (i := 223) rfl rfl
theorem k_297 : Cond.code y_JS_charAt b_JS_charAt 2 (some .char) ∈ TT := mem_t1 (i := 224) rfl rfl
theorem k_298 : Cond.methodLink "java/lang/String" 492 y_JS_isLatin1 ∈ TT := mem_t1 (i := 225) rfl rfl
theorem k_299 : Cond.instanceMethod y_JS_isLatin1 ∈ TT := mem_t1 (i := 226) rfl rfl
theorem k_300 : Cond.selects "java/lang/String" y_JS_isLatin1 y_JS_isLatin1 ∈ TT := mem_t1 (i := 227) rfl rfl
theorem k_301 : Cond.code y_JS_isLatin1 b_JS_isLatin1 1 (some .boolean) ∈ TT := mem_t1 (i := 228) rfl rfl
theorem k_302 : Cond.methodLink "java/lang/String" 495 y_JL_charAt ∈ TT := mem_t1 (i := 229) rfl rfl
theorem k_303 : Cond.static y_JL_charAt ∈ TT := mem_t1 (i := 230) rfl rfl
theorem k_304 : Cond.code y_JL_charAt b_JL_charAt 2 (some .char) ∈ TT := mem_t1 (i := 231) rfl rfl
theorem k_305 : Cond.methodLink "java/lang/StringLatin1" 9 y_JS_checkIndex ∈ TT := mem_t1 (i := 232) rfl rfl
theorem k_306 : Cond.static y_JS_checkIndex ∈ TT := mem_t1 (i := 233) rfl rfl
theorem k_307 : Cond.code y_JS_checkIndex b_JS_checkIndex 2 none ∈ TT := mem_t1 (i := 234) rfl rfl
theorem k_308 : Cond.fieldLink "java/lang/String" 1053 "jdk/internal/util/Preconditions" "SIOOBE_FORMATTER" "Ljava/util/function/BiFunction;" ∈ TT := mem_t1 (i := 235) rfl rfl
theorem k_310 : Cond.methodLink "java/lang/String" 1059 y_JP_checkIndex ∈ TT := mem_t1 (i := 237) rfl rfl
theorem k_311 : Cond.static y_JP_checkIndex ∈ TT := mem_t1 (i := 238) rfl rfl
theorem k_312 : Cond.code y_JP_checkIndex b_JP_checkIndex 3 (some .int) ∈ TT := mem_t1 (i := 239) rfl rfl
theorem k_313 : Cond.methodLink "java/lang/String" 498 y_JU_charAt ∈ TT := mem_t2 (i := 0) rfl rfl
theorem k_314 : Cond.static y_JU_charAt ∈ TT := mem_t2 (i := 1) rfl rfl
theorem k_315 : Cond.code y_JU_charAt b_JU_charAt 2 (some .char) ∈ TT := mem_t2 (i := 2) rfl rfl
theorem k_316 : Cond.methodLink "java/lang/StringUTF16" 67 y_JU_checkIndex ∈ TT := mem_t2 (i := 3) rfl rfl
theorem k_317 : Cond.static y_JU_checkIndex ∈ TT := mem_t2 (i := 4) rfl rfl
theorem k_318 : Cond.code y_JU_checkIndex b_JU_checkIndex 2 none ∈ TT := mem_t2 (i := 5) rfl rfl
theorem k_319 : Cond.methodLink "java/lang/StringUTF16" 48 y_JU_length ∈ TT := mem_t2 (i := 6) rfl rfl
theorem k_320 : Cond.static y_JU_length ∈ TT := mem_t2 (i := 7) rfl rfl
theorem k_321 : Cond.code y_JU_length b_JU_length 1 (some .int) ∈ TT := mem_t2 (i := 8) rfl rfl
theorem k_322 : Cond.methodLink "java/lang/StringUTF16" 414 y_JS_checkIndex ∈ TT := mem_t2 (i := 9) rfl rfl
theorem k_323 : Cond.methodLink "java/lang/StringUTF16" 71 y_JU_getChar ∈ TT := mem_t2 (i := 10) rfl rfl
theorem k_324 : Cond.static y_JU_getChar ∈ TT := mem_t2 (i := 11) rfl rfl
theorem k_325 : Cond.code y_JU_getChar b_JU_getChar 2 (some .char) ∈ TT := mem_t2 (i := 12) rfl rfl
theorem k_326 : Cond.fieldLink "java/lang/StringUTF16" 44 "java/lang/StringUTF16" "$assertionsDisabled" "Z" ∈ TT := mem_t2 (i := 13) rfl rfl
theorem k_328 : Cond.fieldLink "java/lang/StringUTF16" 59 "java/lang/StringUTF16" "HI_BYTE_SHIFT" "I" ∈ TT := mem_t2 (i := 15) rfl rfl
theorem k_330 : Cond.fieldLink "java/lang/StringUTF16" 63 "java/lang/StringUTF16" "LO_BYTE_SHIFT" "I" ∈ TT := mem_t2 (i := 17) rfl rfl
theorem k_332 : Cond.methodLink "SieveDesk$Tokens" 111 y_T_scanText ∈ TT := mem_t2 (i := 19) rfl rfl
theorem k_334 : Cond.instanceMethod y_T_scanText ∈ TT := mem_t2 (i := 21) rfl rfl
theorem k_335 : Cond.code y_T_scanText b_T_scanText 6 (some .boolean) ∈ TT := mem_t2 (i := 22) rfl rfl
theorem k_336 : Cond.methodLink "SieveDesk$Tokens" 143 y_T_behindLineEnd ∈ TT := mem_t2 (i := 23) rfl rfl
theorem k_338 : Cond.instanceMethod y_T_behindLineEnd ∈ TT := mem_t2 (i := 25) rfl rfl
theorem k_339 : Cond.code y_T_behindLineEnd b_T_behindLineEnd 2 (some .int) ∈ TT := mem_t2 (i := 26) rfl rfl
theorem k_341 : Cond.static y_D_spelled ∈ TT := mem_t2 (i := 28) rfl rfl
theorem k_342 : Cond.code y_D_spelled b_D_spelled 4 (some (.object "SieveDesk$Word")) ∈ TT := mem_t2 (i := 29) rfl rfl
theorem k_343 : Cond.fieldLink "SieveDesk$Word" 171 "SieveDesk$Word" "EACH" "[LSieveDesk$Word;" ∈ TT := mem_t2 (i := 30) rfl rfl
theorem k_346 : Cond.fieldLink "SieveDesk$Word" 5 "SieveDesk$Word" "NONE" "LSieveDesk$Word;" ∈ TT := mem_t2 (i := 33) rfl rfl
theorem k_347 : Cond.methodLink "SieveDesk$Tokens" 80 y_T_scanTag ∈ TT := mem_t2 (i := 34) rfl rfl
theorem k_349 : Cond.instanceMethod y_T_scanTag ∈ TT := mem_t2 (i := 36) rfl rfl
theorem k_350 : Cond.code y_T_scanTag b_T_scanTag 2 (some .boolean) ∈ TT := mem_t2 (i := 37) rfl rfl
theorem k_352 : Cond.methodLink "SieveDesk$Tokens" 86 y_T_scanNumber ∈ TT := mem_t2 (i := 39) rfl rfl
theorem k_354 : Cond.instanceMethod y_T_scanNumber ∈ TT := mem_t2 (i := 41) rfl rfl
theorem k_355 : Cond.code y_T_scanNumber b_T_scanNumber 5 (some .boolean) ∈ TT := mem_t2 (i := 42) rfl rfl
theorem k_356 : Cond.constantLong "SieveDesk$Tokens" 118 10 ∈ TT := mem_t2 (i := 43) rfl rfl
theorem k_357 : Cond.constantLong "SieveDesk$Tokens" 120 48 ∈ TT := mem_t2 (i := 44) rfl rfl
theorem k_358 : Cond.constantLong "SieveDesk$Tokens" 122 2147483648 ∈ TT := mem_t2 (i := 45) rfl rfl
theorem k_359 : Cond.methodLink "SieveDesk$Tokens" 124 y_JM_min1 ∈ TT := mem_t2 (i := 46) rfl rfl
theorem k_360 : Cond.static y_JM_min1 ∈ TT := mem_t2 (i := 47) rfl rfl
theorem k_361 : Cond.code y_JM_min1 b_JM_min1 4 (some .long) ∈ TT := mem_t2 (i := 48) rfl rfl
theorem k_362 : Cond.methodLink "SieveDesk$Tokens" 130 y_T_shiftOf ∈ TT := mem_t2 (i := 49) rfl rfl
theorem k_363 : Cond.static y_T_shiftOf ∈ TT := mem_t2 (i := 50) rfl rfl
theorem k_364 : Cond.code y_T_shiftOf b_T_shiftOf 1 (some .int) ∈ TT := mem_t2 (i := 51) rfl rfl
theorem k_365 : Cond.constantLong "SieveDesk$Tokens" 133 2147483647 ∈ TT := mem_t2 (i := 52) rfl rfl
theorem k_366 : Cond.methodLink "SieveDesk$Tokens" 89 y_T_scanQuoted ∈ TT := mem_t2 (i := 53) rfl rfl
theorem k_368 : Cond.instanceMethod y_T_scanQuoted ∈ TT := mem_t2 (i := 55) rfl rfl
theorem k_369 : Cond.code y_T_scanQuoted b_T_scanQuoted 3 (some .boolean) ∈ TT := mem_t2 (i := 56) rfl rfl
theorem k_372 : Cond.instanceMethod y_Q_empty ∈ TT := mem_t2 (i := 59) rfl rfl
theorem k_373 : Cond.code y_Q_empty b_Q_empty 1 none ∈ TT := mem_t2 (i := 60) rfl rfl
theorem k_376 : Cond.instanceMethod y_Q_says ∈ TT := mem_t2 (i := 63) rfl rfl
theorem k_377 : Cond.code y_Q_says b_Q_says 3 (some .int) ∈ TT := mem_t2 (i := 64) rfl rfl
theorem k_378 : Cond.methodLink "SieveDesk$Quoted" 19 y_Q_isMailbox ∈ TT := mem_t2 (i := 65) rfl rfl
theorem k_380 : Cond.instanceMethod y_Q_isMailbox ∈ TT := mem_t2 (i := 67) rfl rfl
theorem k_381 : Cond.code y_Q_isMailbox b_Q_isMailbox 2 (some .boolean) ∈ TT := mem_t2 (i := 68) rfl rfl
theorem k_382 : Cond.methodLink "SieveDesk$Quoted" 23 y_Q_isAddress ∈ TT := mem_t2 (i := 69) rfl rfl
theorem k_384 : Cond.instanceMethod y_Q_isAddress ∈ TT := mem_t2 (i := 71) rfl rfl
theorem k_385 : Cond.code y_Q_isAddress b_Q_isAddress 2 (some .boolean) ∈ TT := mem_t2 (i := 72) rfl rfl
theorem k_387 : Cond.methodLink "SieveDesk$Quoted" 45 y_Q_isDotted ∈ TT := mem_t2 (i := 74) rfl rfl
theorem k_389 : Cond.instanceMethod y_Q_isDotted ∈ TT := mem_t2 (i := 76) rfl rfl
theorem k_390 : Cond.code y_Q_isDotted b_Q_isDotted 9 (some .boolean) ∈ TT := mem_t2 (i := 77) rfl rfl
theorem k_393 : Cond.methodLink "SieveDesk$Quoted" 58 y_JS_indexOf0 ∈ TT := mem_t2 (i := 80) rfl rfl
theorem k_394 : Cond.instanceMethod y_JS_indexOf0 ∈ TT := mem_t2 (i := 81) rfl rfl
theorem k_395 : Cond.selects "java/lang/String" y_JS_indexOf0 y_JS_indexOf0 ∈ TT := mem_t2 (i := 82) rfl rfl
theorem k_396 : Cond.code y_JS_indexOf0 b_JS_indexOf0 2 (some .int) ∈ TT := mem_t2 (i := 83) rfl rfl
theorem k_397 : Cond.methodLink "java/lang/String" 633 y_JS_indexOf1 ∈ TT := mem_t2 (i := 84) rfl rfl
theorem k_398 : Cond.instanceMethod y_JS_indexOf1 ∈ TT := mem_t2 (i := 85) rfl rfl
theorem k_399 : Cond.selects "java/lang/String" y_JS_indexOf1 y_JS_indexOf1 ∈ TT := mem_t2 (i := 86) rfl rfl
theorem k_400 : Cond.code y_JS_indexOf1 b_JS_indexOf1 3 (some .int) ∈ TT := mem_t2 (i := 87) rfl rfl
theorem k_401 : Cond.methodLink "java/lang/String" 505 y_JS_length ∈ TT := mem_t2 (i := 88) rfl rfl
theorem k_402 : Cond.methodLink "java/lang/String" 637 y_JL_indexOf ∈ TT := mem_t2 (i := 89) rfl rfl
theorem k_403 : Cond.static y_JL_indexOf ∈ TT := mem_t2 (i := 90) rfl rfl
theorem k_404 : Cond.code y_JL_indexOf b_JL_indexOf 4 (some .int) ∈ TT := mem_t2 (i := 91) rfl rfl
theorem k_405 : Cond.methodLink "java/lang/StringLatin1" 88 y_JL_canEncode ∈ TT := mem_t2 (i := 92) rfl rfl
theorem k_406 : Cond.static y_JL_canEncode ∈ TT := mem_t2 (i := 93) rfl rfl
theorem k_407 : Cond.code y_JL_canEncode b_JL_canEncode 1 (some .boolean) ∈ TT := mem_t2 (i := 94) rfl rfl
theorem k_408 : Cond.methodLink "java/lang/StringLatin1" 92 y_JM_max ∈ TT := mem_t2 (i := 95) rfl rfl
theorem k_409 : Cond.static y_JM_max ∈ TT := mem_t2 (i := 96) rfl rfl
theorem k_410 : Cond.code y_JM_max b_JM_max 2 (some .int) ∈ TT := mem_t2 (i := 97) rfl rfl
theorem k_411 : Cond.methodLink "java/lang/StringLatin1" 38 y_JM_min0 ∈ TT := mem_t2 (i := 98) rfl rfl
theorem k_412 : Cond.static y_JM_min0 ∈ TT := mem_t2 (i := 99) rfl rfl
theorem k_413 : Cond.code y_JM_min0 b_JM_min0 2 (some .int) ∈ TT := mem_t2 (i := 100) rfl rfl
theorem k_414 : Cond.methodLink "java/lang/StringLatin1" 95 y_JL_indexOfChar ∈ TT := mem_t2 (i := 101) rfl rfl
theorem k_415 : Cond.static y_JL_indexOfChar ∈ TT := mem_t2 (i := 102) rfl rfl
theorem k_416 : Cond.code y_JL_indexOfChar b_JL_indexOfChar 6 (some .int) ∈ TT := mem_t2 (i := 103) rfl rfl
theorem k_417 : Cond.methodLink "java/lang/String" 640 y_JU_indexOf ∈ TT := mem_t2 (i := 104) rfl rfl
theorem k_418 : Cond.static y_JU_indexOf ∈ TT := mem_t2 (i := 105) rfl rfl
theorem k_419 : Cond.code y_JU_indexOf b_JU_indexOf 4 (some .int) ∈ TT := mem_t2 (i := 106) rfl rfl
theorem k_420 : Cond.methodLink "java/lang/StringUTF16" 224 y_JM_max ∈ TT := mem_t2 (i := 107) rfl rfl
theorem k_421 : Cond.methodLink "java/lang/StringUTF16" 183 y_JM_min0 ∈ TT := mem_t2 (i := 108) rfl rfl
theorem k_422 : Cond.constant "java/lang/StringUTF16" 227 65536 ∈ TT := mem_t2 (i := 109) rfl rfl
theorem k_423 : Cond.methodLink "java/lang/StringUTF16" 228 y_JU_indexOfChar ∈ TT := mem_t2 (i := 110) rfl rfl
theorem k_424 : Cond.static y_JU_indexOfChar ∈ TT := mem_t2 (i := 111) rfl rfl
theorem k_425 : Cond.code y_JU_indexOfChar b_JU_indexOfChar 4 (some .int) ∈ TT := mem_t2 (i := 112) rfl rfl
theorem k_426 : Cond.methodLink "java/lang/StringUTF16" 96 y_JU_checkBoundsBeginEnd ∈ TT := mem_t2 (i := 113) rfl rfl
theorem k_427 : Cond.static y_JU_checkBoundsBeginEnd ∈ TT := mem_t2 (i := 114) rfl rfl
theorem k_428 : Cond.code y_JU_checkBoundsBeginEnd b_JU_checkBoundsBeginEnd 3 none ∈ TT := mem_t2 (i := 115) rfl rfl
theorem k_429 : Cond.methodLink "java/lang/StringUTF16" 241 y_JS_checkBoundsBeginEnd ∈ TT := mem_t2 (i := 116) rfl rfl
theorem k_430 : Cond.static y_JS_checkBoundsBeginEnd ∈ TT := mem_t2 (i := 117) rfl rfl
theorem k_431 : Cond.code y_JS_checkBoundsBeginEnd b_JS_checkBoundsBeginEnd 3 none ∈ TT := mem_t2 (i := 118) rfl rfl
theorem k_432 : Cond.methodLink "java/lang/String" 1062 y_JP_checkFromToIndex ∈ TT := mem_t2 (i := 119) rfl rfl
theorem k_433 : Cond.static y_JP_checkFromToIndex ∈ TT := mem_t2 (i := 120) rfl rfl
theorem k_434 : Cond.code y_JP_checkFromToIndex b_JP_checkFromToIndex 4 (some .int) ∈ TT := mem_t2 (i := 121) rfl rfl
theorem k_435 : Cond.methodLink "java/lang/StringUTF16" 244 y_JU_indexOfCharUnsafe ∈ TT := mem_t2 (i := 122) rfl rfl
theorem k_436 : Cond.static y_JU_indexOfCharUnsafe ∈ TT := mem_t2 (i := 123) rfl rfl
theorem k_437 : Cond.code y_JU_indexOfCharUnsafe b_JU_indexOfCharUnsafe 5 (some .int) ∈ TT := mem_t2 (i := 124) rfl rfl
theorem k_438 : Cond.methodLink "java/lang/StringUTF16" 232 y_JU_indexOfSupplementary ∈ TT := mem_t2 (i := 125) rfl rfl
theorem k_439 : Cond.static y_JU_indexOfSupplementary ∈ TT := mem_t2 (i := 126) rfl rfl
theorem k_440 : Cond.code y_JU_indexOfSupplementary b_JU_indexOfSupplementary 7 (some .int) ∈ TT := mem_t2 (i := 127) rfl rfl
theorem k_441 : Cond.methodLink "java/lang/StringUTF16" 164 y_JC_isValidCodePoint ∈ TT := mem_t2 (i := 128) rfl rfl
theorem k_442 : Cond.static y_JC_isValidCodePoint ∈ TT := mem_t2 (i := 129) rfl rfl
theorem k_443 : Cond.code y_JC_isValidCodePoint b_JC_isValidCodePoint 2 (some .boolean) ∈ TT := mem_t2 (i := 130) rfl rfl
theorem k_444 : Cond.methodLink "java/lang/StringUTF16" 157 y_JC_highSurrogate ∈ TT := mem_t2 (i := 131) rfl rfl
theorem k_445 : Cond.static y_JC_highSurrogate ∈ TT := mem_t2 (i := 132) rfl rfl
theorem k_446 : Cond.code y_JC_highSurrogate b_JC_highSurrogate 1 (some .char) ∈ TT := mem_t2 (i := 133) rfl rfl
theorem k_447 : Cond.constant "java/lang/Character" 110 55232 ∈ TT := mem_t2 (i := 134) rfl rfl
theorem k_448 : Cond.methodLink "java/lang/StringUTF16" 161 y_JC_lowSurrogate ∈ TT := mem_t2 (i := 135) rfl rfl
theorem k_449 : Cond.static y_JC_lowSurrogate ∈ TT := mem_t2 (i := 136) rfl rfl
theorem k_450 : Cond.code y_JC_lowSurrogate b_JC_lowSurrogate 1 (some .char) ∈ TT := mem_t2 (i := 137) rfl rfl
theorem k_451 : Cond.constant "java/lang/Character" 76 56320 ∈ TT := mem_t2 (i := 138) rfl rfl
theorem k_458 : Cond.instanceMethod y_Q_add ∈ TT := mem_t2 (i := 145) rfl rfl
theorem k_459 : Cond.code y_Q_add b_Q_add 2 (some .boolean) ∈ TT := mem_t2 (i := 146) rfl rfl
theorem k_461 : Cond.methodLink "SieveDesk$Tokens" 94 y_JS_indexOf0 ∈ TT := mem_t2 (i := 148) rfl rfl
theorem k_464 : Cond.instanceMethod y_G_reads ∈ TT := mem_t2 (i := 151) rfl rfl
theorem k_465 : Cond.code y_G_reads b_G_reads 2 (some .boolean) ∈ TT := mem_t2 (i := 152) rfl rfl
theorem k_466 : Cond.methodLink "SieveDesk$Grammar" 56 y_G_advance ∈ TT := mem_t2 (i := 153) rfl rfl
theorem k_468 : Cond.instanceMethod y_G_advance ∈ TT := mem_t2 (i := 155) rfl rfl
theorem k_469 : Cond.code y_G_advance b_G_advance 2 none ∈ TT := mem_t2 (i := 156) rfl rfl
theorem k_471 : Cond.methodLink "SieveDesk$Grammar" 61 y_G_expect ∈ TT := mem_t2 (i := 158) rfl rfl
theorem k_473 : Cond.instanceMethod y_G_expect ∈ TT := mem_t2 (i := 160) rfl rfl
theorem k_474 : Cond.code y_G_expect b_G_expect 3 none ∈ TT := mem_t2 (i := 161) rfl rfl
theorem k_475 : Cond.methodLink "SieveDesk$Grammar" 93 y_JS_length ∈ TT := mem_t2 (i := 162) rfl rfl
theorem k_476 : Cond.methodLink "SieveDesk$Grammar" 99 y_JS_charAt ∈ TT := mem_t2 (i := 163) rfl rfl
theorem k_477 : Cond.methodLink "SieveDesk$Grammar" 65 y_G_take ∈ TT := mem_t2 (i := 164) rfl rfl
theorem k_479 : Cond.instanceMethod y_G_take ∈ TT := mem_t2 (i := 166) rfl rfl
theorem k_480 : Cond.code y_G_take b_G_take 2 (some .boolean) ∈ TT := mem_t2 (i := 167) rfl rfl
theorem k_481 : Cond.fieldLink "SieveDesk$Grammar" 103 "SieveDesk$Word" "REQUIRE" "LSieveDesk$Word;" ∈ TT := mem_t2 (i := 168) rfl rfl
theorem k_483 : Cond.methodLink "SieveDesk$Grammar" 106 y_G_follow ∈ TT := mem_t2 (i := 170) rfl rfl
theorem k_485 : Cond.instanceMethod y_G_follow ∈ TT := mem_t2 (i := 172) rfl rfl
theorem k_486 : Cond.code y_G_follow b_G_follow 2 (some .boolean) ∈ TT := mem_t2 (i := 173) rfl rfl
theorem k_487 : Cond.methodLink "SieveDesk$Grammar" 110 y_G_takeCommands ∈ TT := mem_t2 (i := 174) rfl rfl
theorem k_489 : Cond.instanceMethod y_G_takeCommands ∈ TT := mem_t2 (i := 176) rfl rfl
theorem k_490 : Cond.code y_G_takeCommands b_G_takeCommands 1 (some .boolean) ∈ TT := mem_t2 (i := 177) rfl rfl
theorem k_491 : Cond.fieldLink "SieveDesk$Grammar" 164 "SieveDesk$Word" "IF" "LSieveDesk$Word;" ∈ TT := mem_t2 (i := 178) rfl rfl
theorem k_494 : Cond.methodLink "SieveDesk$Grammar" 169 y_G_begin ∈ TT := mem_t2 (i := 181) rfl rfl
theorem k_496 : Cond.instanceMethod y_G_begin ∈ TT := mem_t2 (i := 183) rfl rfl
theorem k_497 : Cond.code y_G_begin b_G_begin 1 (some .boolean) ∈ TT := mem_t2 (i := 184) rfl rfl
theorem k_498 : Cond.methodLink "SieveDesk$Grammar" 142 y_G_lacks ∈ TT := mem_t2 (i := 185) rfl rfl
theorem k_500 : Cond.instanceMethod y_G_lacks ∈ TT := mem_t2 (i := 187) rfl rfl
theorem k_501 : Cond.code y_G_lacks b_G_lacks 2 (some .boolean) ∈ TT := mem_t2 (i := 188) rfl rfl
theorem k_502 : Cond.methodLink "SieveDesk$Grammar" 114 y_G_takeTest ∈ TT := mem_t2 (i := 189) rfl rfl
theorem k_504 : Cond.instanceMethod y_G_takeTest ∈ TT := mem_t2 (i := 191) rfl rfl
theorem k_505 : Cond.code y_G_takeTest b_G_takeTest 1 (some .boolean) ∈ TT := mem_t2 (i := 192) rfl rfl
theorem k_507 : Cond.methodLink "SieveDesk$Grammar" 117 y_G_takeMoreTests ∈ TT := mem_t2 (i := 194) rfl rfl
theorem k_509 : Cond.instanceMethod y_G_takeMoreTests ∈ TT := mem_t2 (i := 196) rfl rfl
theorem k_510 : Cond.code y_G_takeMoreTests b_G_takeMoreTests 1 (some .boolean) ∈ TT := mem_t2 (i := 197) rfl rfl
theorem k_512 : Cond.fieldLink "SieveDesk$Grammar" 120 "SieveDesk$Word" "ELSIF" "LSieveDesk$Word;" ∈ TT := mem_t2 (i := 199) rfl rfl
theorem k_514 : Cond.fieldLink "SieveDesk$Grammar" 123 "SieveDesk$Word" "ELSE" "LSieveDesk$Word;" ∈ TT := mem_t2 (i := 201) rfl rfl
theorem k_516 : Cond.methodLink "SieveDesk$Grammar" 126 y_G_takeTags ∈ TT := mem_t2 (i := 203) rfl rfl
theorem k_518 : Cond.instanceMethod y_G_takeTags ∈ TT := mem_t2 (i := 205) rfl rfl
theorem k_519 : Cond.code y_G_takeTags b_G_takeTags 1 (some .boolean) ∈ TT := mem_t2 (i := 206) rfl rfl
theorem k_521 : Cond.fieldLink "SieveDesk$Grammar" 129 "SieveDesk$Word" "OVER" "LSieveDesk$Word;" ∈ TT := mem_t2 (i := 208) rfl rfl
theorem k_523 : Cond.fieldLink "SieveDesk$Grammar" 132 "SieveDesk$Word" "UNDER" "LSieveDesk$Word;" ∈ TT := mem_t2 (i := 210) rfl rfl
theorem k_525 : Cond.methodLink "SieveDesk$Grammar" 135 y_G_takeKind ∈ TT := mem_t2 (i := 212) rfl rfl
theorem k_527 : Cond.instanceMethod y_G_takeKind ∈ TT := mem_t2 (i := 214) rfl rfl
theorem k_528 : Cond.code y_G_takeKind b_G_takeKind 2 (some .boolean) ∈ TT := mem_t2 (i := 215) rfl rfl
theorem k_529 : Cond.methodLink "SieveDesk$Grammar" 139 y_G_takeString ∈ TT := mem_t2 (i := 216) rfl rfl
theorem k_531 : Cond.instanceMethod y_G_takeString ∈ TT := mem_t2 (i := 218) rfl rfl
theorem k_532 : Cond.code y_G_takeString b_G_takeString 2 (some .boolean) ∈ TT := mem_t2 (i := 219) rfl rfl
theorem k_533 : Cond.methodLink "SieveDesk$Grammar" 145 y_G_takeStrings ∈ TT := mem_t2 (i := 220) rfl rfl
theorem k_535 : Cond.instanceMethod y_G_takeStrings ∈ TT := mem_t2 (i := 222) rfl rfl
theorem k_536 : Cond.code y_G_takeStrings b_G_takeStrings 3 (some .boolean) ∈ TT := mem_t2 (i := 223) rfl rfl
theorem k_537 : Cond.methodLink "SieveDesk$Grammar" 148 y_G_takeSign ∈ TT := mem_t2 (i := 224) rfl rfl
theorem k_539 : Cond.instanceMethod y_G_takeSign ∈ TT := mem_t2 (i := 226) rfl rfl
theorem k_540 : Cond.code y_G_takeSign b_G_takeSign 2 (some .boolean) ∈ TT := mem_t2 (i := 227) rfl rfl
theorem k_543 : Cond.instanceMethod y_G_standsAt ∈ TT := mem_t2 (i := 230) rfl rfl
theorem k_544 : Cond.code y_G_standsAt b_G_standsAt 1 (some .int) ∈ TT := mem_t2 (i := 231) rfl rfl
theorem k_545 : Cond.methodLink "SieveDesk" 50 y_S_lineOf ∈ TT := mem_t2 (i := 232) rfl rfl
theorem k_547 : Cond.instanceMethod y_S_lineOf ∈ TT := mem_t2 (i := 234) rfl rfl
theorem k_548 : Cond.code y_S_lineOf b_S_lineOf 4 (some .int) ∈ TT := mem_t2 (i := 235) rfl rfl
theorem k_549 : Cond.methodLink "SieveDeskLaw" 25 y_S_place ∈ TT := mem_t2 (i := 236) rfl rfl
theorem k_550 : Cond.instanceMethod y_S_place ∈ TT := mem_t2 (i := 237) rfl rfl
theorem k_551 : Cond.selects "SieveDesk" y_S_place y_S_place ∈ TT := mem_t2 (i := 238) rfl rfl
theorem k_552 : Cond.code y_S_place b_S_place 1 (some .int) ∈ TT := mem_t2 (i := 239) rfl rfl
theorem k_553 : Cond.methodLink "SieveDeskLaw" 29 y_S_count ∈ TT := mem_t3 (i := 0) rfl rfl
theorem k_554 : Cond.instanceMethod y_S_count ∈ TT := mem_t3 (i := 1) rfl rfl
theorem k_555 : Cond.selects "SieveDesk" y_S_count y_S_count ∈ TT := mem_t3 (i := 2) rfl rfl
theorem k_556 : Cond.code y_S_count b_S_count 2 (some .int) ∈ TT := mem_t3 (i := 3) rfl rfl
theorem k_557 : Cond.classLink "SieveDeskLaw" 10 "SieveDeskModel" ∈ TT := mem_t3 (i := 4) rfl rfl
theorem k_558 : Cond.instantiable "SieveDeskModel" 19 ∈ TT := mem_t3 (i := 5) rfl rfl
theorem k_559 : Cond.methodLink "SieveDeskLaw" 12 y_M_init ∈ TT := mem_t3 (i := 6) rfl rfl
theorem k_560 : Cond.instanceMethod y_M_init ∈ TT := mem_t3 (i := 7) rfl rfl
theorem k_561 : Cond.code y_M_init b_M_init 1 none ∈ TT := mem_t3 (i := 8) rfl rfl
theorem k_562 : Cond.methodLink "SieveDeskModel" 1 objectInit ∈ TT := mem_t3 (i := 9) rfl rfl
theorem k_563 : Cond.constantLong "SieveDeskModel" 7 8243119442065777920 ∈ TT := mem_t3 (i := 10) rfl rfl
theorem k_564 : Cond.constantLong "SieveDeskModel" 9 7594757821606920192 ∈ TT := mem_t3 (i := 11) rfl rfl
theorem k_565 : Cond.constantLong "SieveDeskModel" 11 7308343191835508736 ∈ TT := mem_t3 (i := 12) rfl rfl
theorem k_566 : Cond.constantLong "SieveDeskModel" 13 7308343172944363520 ∈ TT := mem_t3 (i := 13) rfl rfl
theorem k_567 : Cond.constantLong "SieveDeskModel" 15 8319396938487169024 ∈ TT := mem_t3 (i := 14) rfl rfl
theorem k_568 : Cond.constantLong "SieveDeskModel" 17 7235441147021255680 ∈ TT := mem_t3 (i := 15) rfl rfl
theorem k_569 : Cond.constantLong "SieveDeskModel" 19 7738703066416807936 ∈ TT := mem_t3 (i := 16) rfl rfl
theorem k_570 : Cond.constantLong "SieveDeskModel" 21 7379548647239611503 ∈ TT := mem_t3 (i := 17) rfl rfl
theorem k_571 : Cond.constantLong "SieveDeskModel" 23 8243105097025151860 ∈ TT := mem_t3 (i := 18) rfl rfl
theorem k_572 : Cond.constantLong "SieveDeskModel" 25 8243111676664348672 ∈ TT := mem_t3 (i := 19) rfl rfl
theorem k_573 : Cond.constantLong "SieveDeskModel" 27 8315180270263297792 ∈ TT := mem_t3 (i := 20) rfl rfl
theorem k_574 : Cond.constantLong "SieveDeskModel" 29 7017844510417839872 ∈ TT := mem_t3 (i := 21) rfl rfl
theorem k_575 : Cond.constantLong "SieveDeskModel" 31 8243115018466715244 ∈ TT := mem_t3 (i := 22) rfl rfl
theorem k_576 : Cond.constantLong "SieveDeskModel" 33 7018578544280207360 ∈ TT := mem_t3 (i := 23) rfl rfl
theorem k_577 : Cond.constantLong "SieveDeskModel" 35 8530208439432474478 ∈ TT := mem_t3 (i := 24) rfl rfl
theorem k_578 : Cond.constantLong "SieveDeskModel" 37 7522525836418875392 ∈ TT := mem_t3 (i := 25) rfl rfl
theorem k_579 : Cond.constantLong "SieveDeskModel" 39 7017844561841189632 ∈ TT := mem_t3 (i := 26) rfl rfl
theorem k_580 : Cond.constantLong "SieveDeskModel" 41 7308909423251910757 ∈ TT := mem_t3 (i := 27) rfl rfl
theorem k_581 : Cond.constantLong "SieveDeskModel" 43 7521419736427620096 ∈ TT := mem_t3 (i := 28) rfl rfl
theorem k_582 : Cond.constantLong "SieveDeskModel" 45 7311709939631849472 ∈ TT := mem_t3 (i := 29) rfl rfl
theorem k_583 : Cond.constantLong "SieveDeskModel" 47 8316312761126617088 ∈ TT := mem_t3 (i := 30) rfl rfl
theorem k_584 : Cond.constantLong "SieveDeskModel" 49 7020105144872206336 ∈ TT := mem_t3 (i := 31) rfl rfl
theorem k_585 : Cond.constantLong "SieveDeskModel" 51 7020682388476788736 ∈ TT := mem_t3 (i := 32) rfl rfl
theorem k_586 : Cond.constantLong "SieveDeskModel" 53 7957706609935777792 ∈ TT := mem_t3 (i := 33) rfl rfl
theorem k_587 : Cond.constantLong "SieveDeskModel" 55 8390898132396802048 ∈ TT := mem_t3 (i := 34) rfl rfl
theorem k_588 : Cond.constantLong "SieveDeskModel" 57 7377296907481120768 ∈ TT := mem_t3 (i := 35) rfl rfl
theorem k_589 : Cond.constantLong "SieveDeskModel" 59 7380380986292305920 ∈ TT := mem_t3 (i := 36) rfl rfl
theorem k_590 : Cond.constantLong "SieveDeskModel" 61 7165069197163102208 ∈ TT := mem_t3 (i := 37) rfl rfl
theorem k_591 : Cond.constantLong "SieveDeskModel" 63 7233196011361927168 ∈ TT := mem_t3 (i := 38) rfl rfl
theorem k_592 : Cond.constantLong "SieveDeskModel" 65 8319664095743931392 ∈ TT := mem_t3 (i := 39) rfl rfl
theorem k_593 : Cond.constantLong "SieveDeskModel" 67 7017844561841189733 ∈ TT := mem_t3 (i := 40) rfl rfl
theorem k_594 : Cond.constantLong "SieveDeskModel" 69 8286623314361712640 ∈ TT := mem_t3 (i := 41) rfl rfl
theorem k_595 : Cond.constantLong "SieveDeskModel" 71 7521414230279782400 ∈ TT := mem_t3 (i := 42) rfl rfl
theorem k_596 : Cond.constantLong "SieveDeskModel" 73 8031718525762535424 ∈ TT := mem_t3 (i := 43) rfl rfl
theorem k_597 : Cond.constantLong "SieveDeskModel" 75 8461811136742817792 ∈ TT := mem_t3 (i := 44) rfl rfl
theorem k_598 : Cond.constantLong "SieveDeskModel" 77 7598416996304158720 ∈ TT := mem_t3 (i := 45) rfl rfl
theorem k_599 : Cond.constantLong "SieveDeskModel" 79 7165066978299309683 ∈ TT := mem_t3 (i := 46) rfl rfl
theorem k_600 : Cond.constantLong "SieveDeskModel" 81 7881708793177142016 ∈ TT := mem_t3 (i := 47) rfl rfl
theorem k_601 : Cond.constantLong "SieveDeskModel" 83 7165074649422757888 ∈ TT := mem_t3 (i := 48) rfl rfl
theorem k_602 : Cond.constantLong "SieveDeskModel" 85 8530218420677902336 ∈ TT := mem_t3 (i := 49) rfl rfl
theorem k_603 : Cond.constantLong "SieveDeskModel" 87 7165065861608399220 ∈ TT := mem_t3 (i := 50) rfl rfl
theorem k_604 : Cond.constantLong "SieveDeskModel" 89 8030481085555015680 ∈ TT := mem_t3 (i := 51) rfl rfl
theorem k_605 : Cond.constantLong "SieveDeskModel" 91 7020104666419560448 ∈ TT := mem_t3 (i := 52) rfl rfl
theorem k_606 : Cond.constantLong "SieveDeskModel" 93 7813573148593381746 ∈ TT := mem_t3 (i := 53) rfl rfl
theorem k_607 : Cond.constantLong "SieveDeskModel" 95 8358680908399640576 ∈ TT := mem_t3 (i := 54) rfl rfl
theorem k_608 : Cond.constantLong "SieveDeskModel" 97 7237123391355748352 ∈ TT := mem_t3 (i := 55) rfl rfl
theorem k_609 : Cond.constantLong "SieveDeskModel" 99 7454583283205013504 ∈ TT := mem_t3 (i := 56) rfl rfl
theorem k_610 : Cond.constantLong "SieveDeskModel" 101 7450361158554353664 ∈ TT := mem_t3 (i := 57) rfl rfl
theorem k_611 : Cond.constantLong "SieveDeskModel" 103 7814871253394653184 ∈ TT := mem_t3 (i := 58) rfl rfl
theorem k_612 : Cond.constantLong "SieveDeskModel" 105 7810649128743993344 ∈ TT := mem_t3 (i := 59) rfl rfl
theorem k_613 : Cond.constantLong "SieveDeskModel" 107 7309623670199025664 ∈ TT := mem_t3 (i := 60) rfl rfl
theorem k_614 : Cond.constantLong "SieveDeskModel" 109 7954764316819849216 ∈ TT := mem_t3 (i := 61) rfl rfl
theorem k_615 : Cond.constantLong "SieveDeskModel" 111 7582776870553613312 ∈ TT := mem_t3 (i := 62) rfl rfl
theorem k_616 : Cond.constantLong "SieveDeskModel" 113 7582761545825347885 ∈ TT := mem_t3 (i := 63) rfl rfl
theorem k_617 : Cond.constantLong "SieveDeskModel" 115 7161131761959792640 ∈ TT := mem_t3 (i := 64) rfl rfl
theorem k_618 : Cond.constantLong "SieveDeskModel" 117 7959388198925853440 ∈ TT := mem_t3 (i := 65) rfl rfl
theorem k_619 : Cond.constantLong "SieveDeskModel" 119 7596835280987253857 ∈ TT := mem_t3 (i := 66) rfl rfl
theorem k_620 : Cond.constantLong "SieveDeskModel" 121 7454301808228302848 ∈ TT := mem_t3 (i := 67) rfl rfl
theorem k_621 : Cond.constantLong "SieveDeskModel" 123 8243113858792255342 ∈ TT := mem_t3 (i := 68) rfl rfl
theorem k_622 : Cond.constantLong "SieveDeskModel" 125 7019985919163760640 ∈ TT := mem_t3 (i := 69) rfl rfl
theorem k_623 : Cond.constantLong "SieveDeskModel" 127 8030531015546073955 ∈ TT := mem_t3 (i := 70) rfl rfl
theorem k_624 : Cond.constantLong "SieveDeskModel" 129 7595652198976808306 ∈ TT := mem_t3 (i := 71) rfl rfl
theorem k_625 : Cond.constantLong "SieveDeskModel" 131 7593913396676788224 ∈ TT := mem_t3 (i := 72) rfl rfl
theorem k_626 : Cond.constantLong "SieveDeskModel" 133 8387242320658956288 ∈ TT := mem_t3 (i := 73) rfl rfl
theorem k_627 : Cond.fieldLink "SieveDeskModel" 135 "SieveDeskModel" "words" "[J" ∈ TT := mem_t3 (i := 74) rfl rfl
theorem k_628 : Cond.fieldLink "SieveDeskModel" 141 "SieveDeskModel" "wordSizes" "[I" ∈ TT := mem_t3 (i := 75) rfl rfl
theorem k_629 : Cond.fieldLink "SieveDeskModel" 145 "SieveDeskModel" "src" "[I" ∈ TT := mem_t3 (i := 76) rfl rfl
theorem k_630 : Cond.fieldLink "SieveDeskModel" 161 "SieveDeskModel" "srcSize" "I" ∈ TT := mem_t3 (i := 77) rfl rfl
theorem k_631 : Cond.fieldLink "SieveDeskModel" 164 "SieveDeskModel" "srcAt" "I" ∈ TT := mem_t3 (i := 78) rfl rfl
theorem k_632 : Cond.fieldLink "SieveDeskModel" 199 "SieveDeskModel" "sort" "I" ∈ TT := mem_t3 (i := 79) rfl rfl
theorem k_633 : Cond.fieldLink "SieveDeskModel" 192 "SieveDeskModel" "place" "I" ∈ TT := mem_t3 (i := 80) rfl rfl
theorem k_634 : Cond.fieldLink "SieveDeskModel" 174 "SieveDeskModel" "size" "I" ∈ TT := mem_t3 (i := 81) rfl rfl
theorem k_635 : Cond.fieldLink "SieveDeskModel" 148 "SieveDeskModel" "letters" "[J" ∈ TT := mem_t3 (i := 82) rfl rfl
theorem k_636 : Cond.fieldLink "SieveDeskModel" 151 "SieveDeskModel" "text" "[I" ∈ TT := mem_t3 (i := 83) rfl rfl
theorem k_637 : Cond.fieldLink "SieveDeskModel" 154 "SieveDeskModel" "faultAt" "I" ∈ TT := mem_t3 (i := 84) rfl rfl
theorem k_638 : Cond.fieldLink "SieveDeskModel" 336 "SieveDeskModel" "line" "I" ∈ TT := mem_t3 (i := 85) rfl rfl
theorem k_639 : Cond.fieldLink "SieveDeskModel" 261 "SieveDeskModel" "counted" "I" ∈ TT := mem_t3 (i := 86) rfl rfl
theorem k_640 : Cond.fieldLink "SieveDeskModel" 264 "SieveDeskModel" "strings" "I" ∈ TT := mem_t3 (i := 87) rfl rfl
theorem k_641 : Cond.fieldLink "SieveDeskModel" 255 "SieveDeskModel" "required" "I" ∈ TT := mem_t3 (i := 88) rfl rfl
theorem k_642 : Cond.fieldLink "SieveDeskModel" 324 "SieveDeskModel" "blocks" "I" ∈ TT := mem_t3 (i := 89) rfl rfl
theorem k_643 : Cond.fieldLink "SieveDeskModel" 311 "SieveDeskModel" "tests" "I" ∈ TT := mem_t3 (i := 90) rfl rfl
theorem k_644 : Cond.fieldLink "SieveDeskModel" 243 "SieveDeskModel" "open" "I" ∈ TT := mem_t3 (i := 91) rfl rfl
theorem k_645 : Cond.fieldLink "SieveDeskModel" 158 "SieveDeskModel" "row" "[I" ∈ TT := mem_t3 (i := 92) rfl rfl
theorem k_685 : (Cond.arrayClass FieldType.long) ∈ TT := mem_t3 (i := 132) rfl rfl
theorem k_686 : Cond.methodLink "SieveDeskLaw" 19 y_M_put ∈ TT := mem_t3 (i := 133) rfl rfl
theorem k_687 : Cond.instanceMethod y_M_put ∈ TT := mem_t3 (i := 134) rfl rfl
theorem k_688 : Cond.selects "SieveDeskModel" y_M_put y_M_put ∈ TT := mem_t3 (i := 135) rfl rfl
theorem k_689 : Cond.code y_M_put b_M_put 5 (some .boolean) ∈ TT := mem_t3 (i := 136) rfl rfl
theorem k_690 : Cond.methodLink "SieveDeskLaw" 24 y_M_check ∈ TT := mem_t3 (i := 137) rfl rfl
theorem k_691 : Cond.instanceMethod y_M_check ∈ TT := mem_t3 (i := 138) rfl rfl
theorem k_692 : Cond.selects "SieveDeskModel" y_M_check y_M_check ∈ TT := mem_t3 (i := 139) rfl rfl
theorem k_693 : Cond.code y_M_check b_M_check 2 (some .int) ∈ TT := mem_t3 (i := 140) rfl rfl
theorem k_694 : Cond.methodLink "SieveDeskModel" 252 y_M_next ∈ TT := mem_t3 (i := 141) rfl rfl
theorem k_696 : Cond.instanceMethod y_M_next ∈ TT := mem_t3 (i := 143) rfl rfl
theorem k_697 : Cond.code y_M_next b_M_next 2 none ∈ TT := mem_t3 (i := 144) rfl rfl
theorem k_698 : Cond.methodLink "SieveDeskModel" 188 y_M_skip ∈ TT := mem_t3 (i := 145) rfl rfl
theorem k_700 : Cond.instanceMethod y_M_skip ∈ TT := mem_t3 (i := 147) rfl rfl
theorem k_701 : Cond.code y_M_skip b_M_skip 4 (some .boolean) ∈ TT := mem_t3 (i := 148) rfl rfl
theorem k_702 : Cond.methodLink "SieveDeskModel" 185 y_M_peek ∈ TT := mem_t3 (i := 149) rfl rfl
theorem k_704 : Cond.instanceMethod y_M_peek ∈ TT := mem_t3 (i := 151) rfl rfl
theorem k_705 : Cond.code y_M_peek b_M_peek 2 (some .int) ∈ TT := mem_t3 (i := 152) rfl rfl
theorem k_706 : Cond.methodLink "SieveDeskModel" 195 y_M_token ∈ TT := mem_t3 (i := 153) rfl rfl
theorem k_708 : Cond.instanceMethod y_M_token ∈ TT := mem_t3 (i := 155) rfl rfl
theorem k_709 : Cond.code y_M_token b_M_token 3 (some .int) ∈ TT := mem_t3 (i := 156) rfl rfl
theorem k_710 : Cond.methodLink "SieveDeskModel" 205 y_M_begin ∈ TT := mem_t3 (i := 157) rfl rfl
theorem k_712 : Cond.instanceMethod y_M_begin ∈ TT := mem_t3 (i := 159) rfl rfl
theorem k_713 : Cond.code y_M_begin b_M_begin 2 none ∈ TT := mem_t3 (i := 160) rfl rfl
theorem k_714 : Cond.methodLink "SieveDeskModel" 167 y_M_isLetter ∈ TT := mem_t3 (i := 161) rfl rfl
theorem k_715 : Cond.static y_M_isLetter ∈ TT := mem_t3 (i := 162) rfl rfl
theorem k_716 : Cond.code y_M_isLetter b_M_isLetter 1 (some .boolean) ∈ TT := mem_t3 (i := 163) rfl rfl
theorem k_717 : Cond.methodLink "SieveDeskModel" 208 y_M_wordOf ∈ TT := mem_t3 (i := 164) rfl rfl
theorem k_719 : Cond.instanceMethod y_M_wordOf ∈ TT := mem_t3 (i := 166) rfl rfl
theorem k_720 : Cond.code y_M_wordOf b_M_wordOf 1 none ∈ TT := mem_t3 (i := 167) rfl rfl
theorem k_721 : Cond.methodLink "SieveDeskModel" 223 y_M_isWordByte ∈ TT := mem_t3 (i := 168) rfl rfl
theorem k_722 : Cond.static y_M_isWordByte ∈ TT := mem_t3 (i := 169) rfl rfl
theorem k_723 : Cond.code y_M_isWordByte b_M_isWordByte 1 (some .boolean) ∈ TT := mem_t3 (i := 170) rfl rfl
theorem k_724 : Cond.methodLink "SieveDeskModel" 171 y_M_isDigit ∈ TT := mem_t3 (i := 171) rfl rfl
theorem k_725 : Cond.static y_M_isDigit ∈ TT := mem_t3 (i := 172) rfl rfl
theorem k_726 : Cond.code y_M_isDigit b_M_isDigit 1 (some .boolean) ∈ TT := mem_t3 (i := 173) rfl rfl
theorem k_727 : Cond.methodLink "SieveDeskModel" 226 y_M_add ∈ TT := mem_t3 (i := 174) rfl rfl
theorem k_729 : Cond.instanceMethod y_M_add ∈ TT := mem_t3 (i := 176) rfl rfl
theorem k_730 : Cond.code y_M_add b_M_add 2 none ∈ TT := mem_t3 (i := 177) rfl rfl
theorem k_731 : Cond.methodLink "SieveDeskModel" 177 y_M_low ∈ TT := mem_t3 (i := 178) rfl rfl
theorem k_732 : Cond.static y_M_low ∈ TT := mem_t3 (i := 179) rfl rfl
theorem k_733 : Cond.code y_M_low b_M_low 1 (some .int) ∈ TT := mem_t3 (i := 180) rfl rfl
theorem k_734 : Cond.methodLink "SieveDeskModel" 211 y_M_like ∈ TT := mem_t3 (i := 181) rfl rfl
theorem k_736 : Cond.instanceMethod y_M_like ∈ TT := mem_t3 (i := 183) rfl rfl
theorem k_737 : Cond.code y_M_like b_M_like 2 (some .boolean) ∈ TT := mem_t3 (i := 184) rfl rfl
theorem k_738 : Cond.methodLink "SieveDeskModel" 181 y_M_which ∈ TT := mem_t3 (i := 185) rfl rfl
theorem k_740 : Cond.instanceMethod y_M_which ∈ TT := mem_t3 (i := 187) rfl rfl
theorem k_741 : Cond.code y_M_which b_M_which 6 (some .int) ∈ TT := mem_t3 (i := 188) rfl rfl
theorem k_742 : Cond.methodLink "SieveDeskModel" 214 y_M_lines ∈ TT := mem_t3 (i := 189) rfl rfl
theorem k_744 : Cond.instanceMethod y_M_lines ∈ TT := mem_t3 (i := 191) rfl rfl
theorem k_745 : Cond.code y_M_lines b_M_lines 3 (some .int) ∈ TT := mem_t3 (i := 192) rfl rfl
theorem k_746 : Cond.methodLink "SieveDeskModel" 240 y_M_endAt ∈ TT := mem_t3 (i := 193) rfl rfl
theorem k_748 : Cond.instanceMethod y_M_endAt ∈ TT := mem_t3 (i := 195) rfl rfl
theorem k_749 : Cond.code y_M_endAt b_M_endAt 2 (some .int) ∈ TT := mem_t3 (i := 196) rfl rfl
theorem k_750 : Cond.methodLink "SieveDeskModel" 217 y_M_digits ∈ TT := mem_t3 (i := 197) rfl rfl
theorem k_752 : Cond.instanceMethod y_M_digits ∈ TT := mem_t3 (i := 199) rfl rfl
theorem k_753 : Cond.code y_M_digits b_M_digits 4 (some .int) ∈ TT := mem_t3 (i := 200) rfl rfl
theorem k_754 : Cond.constantLong "SieveDeskModel" 230 10000000000 ∈ TT := mem_t3 (i := 201) rfl rfl
theorem k_755 : Cond.constantLong "SieveDeskModel" 232 10 ∈ TT := mem_t3 (i := 202) rfl rfl
theorem k_756 : Cond.constantLong "SieveDeskModel" 234 48 ∈ TT := mem_t3 (i := 203) rfl rfl
theorem k_757 : Cond.constantLong "SieveDeskModel" 236 4294967296 ∈ TT := mem_t3 (i := 204) rfl rfl
theorem k_758 : Cond.constantLong "SieveDeskModel" 238 2147483647 ∈ TT := mem_t3 (i := 205) rfl rfl
theorem k_759 : Cond.methodLink "SieveDeskModel" 220 y_M_quoted ∈ TT := mem_t3 (i := 206) rfl rfl
theorem k_761 : Cond.instanceMethod y_M_quoted ∈ TT := mem_t3 (i := 208) rfl rfl
theorem k_762 : Cond.code y_M_quoted b_M_quoted 1 (some .int) ∈ TT := mem_t3 (i := 209) rfl rfl
theorem k_763 : Cond.methodLink "SieveDeskModel" 202 y_M_fail ∈ TT := mem_t3 (i := 210) rfl rfl
theorem k_765 : Cond.instanceMethod y_M_fail ∈ TT := mem_t3 (i := 212) rfl rfl
theorem k_766 : Cond.code y_M_fail b_M_fail 1 none ∈ TT := mem_t3 (i := 213) rfl rfl
theorem k_767 : Cond.methodLink "SieveDeskModel" 327 y_M_isWord ∈ TT := mem_t3 (i := 214) rfl rfl
theorem k_769 : Cond.instanceMethod y_M_isWord ∈ TT := mem_t3 (i := 216) rfl rfl
theorem k_770 : Cond.code y_M_isWord b_M_isWord 2 (some .boolean) ∈ TT := mem_t3 (i := 217) rfl rfl
theorem k_771 : Cond.methodLink "SieveDeskModel" 246 y_M_is ∈ TT := mem_t3 (i := 218) rfl rfl
theorem k_773 : Cond.instanceMethod y_M_is ∈ TT := mem_t3 (i := 220) rfl rfl
theorem k_774 : Cond.code y_M_is b_M_is 2 (some .boolean) ∈ TT := mem_t3 (i := 221) rfl rfl
theorem k_775 : Cond.methodLink "SieveDeskModel" 294 y_M_list ∈ TT := mem_t3 (i := 222) rfl rfl
theorem k_777 : Cond.instanceMethod y_M_list ∈ TT := mem_t3 (i := 224) rfl rfl
theorem k_778 : Cond.code y_M_list b_M_list 5 none ∈ TT := mem_t3 (i := 225) rfl rfl
theorem k_779 : Cond.methodLink "SieveDeskModel" 249 y_M_isSign ∈ TT := mem_t3 (i := 226) rfl rfl
theorem k_781 : Cond.instanceMethod y_M_isSign ∈ TT := mem_t3 (i := 228) rfl rfl
theorem k_782 : Cond.code y_M_isSign b_M_isSign 2 (some .boolean) ∈ TT := mem_t3 (i := 229) rfl rfl
theorem k_783 : Cond.methodLink "SieveDeskModel" 267 y_M_string ∈ TT := mem_t3 (i := 230) rfl rfl
theorem k_785 : Cond.instanceMethod y_M_string ∈ TT := mem_t3 (i := 232) rfl rfl
theorem k_786 : Cond.code y_M_string b_M_string 1 none ∈ TT := mem_t3 (i := 233) rfl rfl
theorem k_787 : Cond.methodLink "SieveDeskModel" 270 y_M_require ∈ TT := mem_t3 (i := 234) rfl rfl
theorem k_789 : Cond.instanceMethod y_M_require ∈ TT := mem_t3 (i := 236) rfl rfl
theorem k_790 : Cond.code y_M_require b_M_require 2 none ∈ TT := mem_t3 (i := 237) rfl rfl
theorem k_791 : Cond.methodLink "SieveDeskModel" 273 y_M_take ∈ TT := mem_t3 (i := 238) rfl rfl
theorem k_793 : Cond.instanceMethod y_M_take ∈ TT := mem_t4 (i := 0) rfl rfl
theorem k_794 : Cond.code y_M_take b_M_take 2 none ∈ TT := mem_t4 (i := 1) rfl rfl
theorem k_795 : Cond.methodLink "SieveDeskModel" 279 y_M_push ∈ TT := mem_t4 (i := 2) rfl rfl
theorem k_797 : Cond.instanceMethod y_M_push ∈ TT := mem_t4 (i := 4) rfl rfl
theorem k_798 : Cond.code y_M_push b_M_push 2 none ∈ TT := mem_t4 (i := 5) rfl rfl
theorem k_799 : Cond.methodLink "SieveDeskModel" 333 y_M_step ∈ TT := mem_t4 (i := 6) rfl rfl
theorem k_801 : Cond.instanceMethod y_M_step ∈ TT := mem_t4 (i := 8) rfl rfl
theorem k_802 : Cond.code y_M_step b_M_step 2 none ∈ TT := mem_t4 (i := 9) rfl rfl
theorem k_803 : Cond.methodLink "SieveDeskModel" 321 y_M_command ∈ TT := mem_t4 (i := 10) rfl rfl
theorem k_805 : Cond.instanceMethod y_M_command ∈ TT := mem_t4 (i := 12) rfl rfl
theorem k_806 : Cond.code y_M_command b_M_command 2 none ∈ TT := mem_t4 (i := 13) rfl rfl
theorem k_807 : Cond.methodLink "SieveDeskModel" 276 y_M_counting ∈ TT := mem_t4 (i := 14) rfl rfl
theorem k_809 : Cond.instanceMethod y_M_counting ∈ TT := mem_t4 (i := 16) rfl rfl
theorem k_810 : Cond.code y_M_counting b_M_counting 2 none ∈ TT := mem_t4 (i := 17) rfl rfl
theorem k_811 : Cond.methodLink "SieveDeskModel" 258 y_M_needs ∈ TT := mem_t4 (i := 18) rfl rfl
theorem k_813 : Cond.instanceMethod y_M_needs ∈ TT := mem_t4 (i := 20) rfl rfl
theorem k_814 : Cond.code y_M_needs b_M_needs 2 none ∈ TT := mem_t4 (i := 21) rfl rfl
theorem k_815 : Cond.methodLink "SieveDeskModel" 282 y_M_tags ∈ TT := mem_t4 (i := 22) rfl rfl
theorem k_817 : Cond.instanceMethod y_M_tags ∈ TT := mem_t4 (i := 24) rfl rfl
theorem k_818 : Cond.code y_M_tags b_M_tags 6 none ∈ TT := mem_t4 (i := 25) rfl rfl
theorem k_819 : Cond.methodLink "SieveDeskModel" 285 y_M_file ∈ TT := mem_t4 (i := 26) rfl rfl
theorem k_821 : Cond.instanceMethod y_M_file ∈ TT := mem_t4 (i := 28) rfl rfl
theorem k_822 : Cond.code y_M_file b_M_file 3 none ∈ TT := mem_t4 (i := 29) rfl rfl
theorem k_823 : Cond.methodLink "SieveDeskModel" 288 y_M_redirect ∈ TT := mem_t4 (i := 30) rfl rfl
theorem k_825 : Cond.instanceMethod y_M_redirect ∈ TT := mem_t4 (i := 32) rfl rfl
theorem k_826 : Cond.code y_M_redirect b_M_redirect 2 none ∈ TT := mem_t4 (i := 33) rfl rfl
theorem k_827 : Cond.methodLink "SieveDeskModel" 301 y_M_isDotted ∈ TT := mem_t4 (i := 34) rfl rfl
theorem k_829 : Cond.instanceMethod y_M_isDotted ∈ TT := mem_t4 (i := 36) rfl rfl
theorem k_830 : Cond.code y_M_isDotted b_M_isDotted 8 (some .boolean) ∈ TT := mem_t4 (i := 37) rfl rfl
theorem k_831 : Cond.methodLink "SieveDeskModel" 305 y_M_isLocal ∈ TT := mem_t4 (i := 38) rfl rfl
theorem k_832 : Cond.static y_M_isLocal ∈ TT := mem_t4 (i := 39) rfl rfl
theorem k_833 : Cond.code y_M_isLocal b_M_isLocal 2 (some .boolean) ∈ TT := mem_t4 (i := 40) rfl rfl
theorem k_834 : Cond.methodLink "SieveDeskModel" 291 y_M_taken ∈ TT := mem_t4 (i := 41) rfl rfl
theorem k_836 : Cond.instanceMethod y_M_taken ∈ TT := mem_t4 (i := 43) rfl rfl
theorem k_837 : Cond.code y_M_taken b_M_taken 1 none ∈ TT := mem_t4 (i := 44) rfl rfl
theorem k_838 : Cond.methodLink "SieveDeskModel" 298 y_M_absence ∈ TT := mem_t4 (i := 45) rfl rfl
theorem k_840 : Cond.instanceMethod y_M_absence ∈ TT := mem_t4 (i := 47) rfl rfl
theorem k_841 : Cond.code y_M_absence b_M_absence 4 none ∈ TT := mem_t4 (i := 48) rfl rfl
theorem k_842 : Cond.methodLink "SieveDeskModel" 308 y_M_number ∈ TT := mem_t4 (i := 49) rfl rfl
theorem k_844 : Cond.instanceMethod y_M_number ∈ TT := mem_t4 (i := 51) rfl rfl
theorem k_845 : Cond.code y_M_number b_M_number 1 none ∈ TT := mem_t4 (i := 52) rfl rfl
theorem k_846 : Cond.methodLink "SieveDeskModel" 330 y_M_test ∈ TT := mem_t4 (i := 53) rfl rfl
theorem k_848 : Cond.instanceMethod y_M_test ∈ TT := mem_t4 (i := 55) rfl rfl
theorem k_849 : Cond.code y_M_test b_M_test 2 none ∈ TT := mem_t4 (i := 56) rfl rfl
theorem k_850 : Cond.methodLink "SieveDeskModel" 314 y_M_how ∈ TT := mem_t4 (i := 57) rfl rfl
theorem k_852 : Cond.instanceMethod y_M_how ∈ TT := mem_t4 (i := 59) rfl rfl
theorem k_853 : Cond.code y_M_how b_M_how 5 none ∈ TT := mem_t4 (i := 60) rfl rfl
theorem k_854 : Cond.methodLink "SieveDeskModel" 317 y_M_one ∈ TT := mem_t4 (i := 61) rfl rfl
theorem k_856 : Cond.instanceMethod y_M_one ∈ TT := mem_t4 (i := 63) rfl rfl
theorem k_857 : Cond.code y_M_one b_M_one 4 none ∈ TT := mem_t4 (i := 64) rfl rfl
theorem k_858 : Cond.methodLink "SieveDeskLaw" 28 y_M_place ∈ TT := mem_t4 (i := 65) rfl rfl
theorem k_859 : Cond.instanceMethod y_M_place ∈ TT := mem_t4 (i := 66) rfl rfl
theorem k_860 : Cond.selects "SieveDeskModel" y_M_place y_M_place ∈ TT := mem_t4 (i := 67) rfl rfl
theorem k_861 : Cond.code y_M_place b_M_place 1 (some .int) ∈ TT := mem_t4 (i := 68) rfl rfl
theorem k_862 : Cond.methodLink "SieveDeskLaw" 33 y_M_count ∈ TT := mem_t4 (i := 69) rfl rfl
theorem k_863 : Cond.instanceMethod y_M_count ∈ TT := mem_t4 (i := 70) rfl rfl
theorem k_864 : Cond.selects "SieveDeskModel" y_M_count y_M_count ∈ TT := mem_t4 (i := 71) rfl rfl
theorem k_865 : Cond.code y_M_count b_M_count 2 (some .int) ∈ TT := mem_t4 (i := 72) rfl rfl
theorem k_866 : Cond.constantLong "SieveDeskLaw" 13 4294967295 ∈ TT := mem_t4 (i := 73) rfl rfl
theorem k_867 : Cond.fieldLink "java/lang/String" 9 "java/lang/String" "value" "[B" ∈ TT := mem_t4 (i := 74) rfl rfl
theorem k_868 : Cond.fieldLink "java/lang/String" 15 "java/lang/String" "coder" "B" ∈ TT := mem_t4 (i := 75) rfl rfl
theorem k_869 : Cond.fieldLink "SieveDesk$Word" 154 "SieveDesk$Word" "spelling" "Ljava/lang/String;" ∈ TT := mem_t4 (i := 76) rfl rfl
theorem n_121 : Cond.fieldLinkNest "SieveDesk$Grammar" 78 "SieveDesk$Tokens" "kinds" "[I" "SieveDesk" ∈ NT := mem_nt (i := 121) (by decide +kernel) (by decide +kernel)
theorem n_123 : Cond.fieldLinkNest "SieveDesk$Grammar" 69 "SieveDesk$Tokens" "starts" "[I" "SieveDesk" ∈ NT := mem_nt (i := 123) (by decide +kernel) (by decide +kernel)
theorem n_125 : Cond.fieldLinkNest "SieveDesk$Grammar" 84 "SieveDesk$Tokens" "words" "[LSieveDesk$Word;" "SieveDesk" ∈ NT := mem_nt (i := 125) (by decide +kernel) (by decide +kernel)
theorem n_127 : Cond.fieldLinkNest "SieveDesk$Grammar" 88 "SieveDesk$Tokens" "says" "[I" "SieveDesk" ∈ NT := mem_nt (i := 127) (by decide +kernel) (by decide +kernel)
theorem n_130 : Cond.fieldLinkNest "SieveDesk$Grammar" 75 "SieveDesk$Tokens" "many" "I" "SieveDesk" ∈ NT := mem_nt (i := 130) (by decide +kernel) (by decide +kernel)
theorem n_169 : Cond.fieldLinkNest "SieveDesk" 54 "SieveDesk$Grammar" "things" "I" "SieveDesk" ∈ NT := mem_nt (i := 169) (by decide +kernel) (by decide +kernel)
theorem n_171 : Cond.fieldLinkNest "SieveDesk" 57 "SieveDesk$Grammar" "strings" "I" "SieveDesk" ∈ NT := mem_nt (i := 171) (by decide +kernel) (by decide +kernel)
theorem n_173 : Cond.fieldLinkNest "SieveDesk" 60 "SieveDesk$Grammar" "required" "I" "SieveDesk" ∈ NT := mem_nt (i := 173) (by decide +kernel) (by decide +kernel)
theorem n_231 : Cond.methodLinkNest "SieveDesk" 38 y_T_scan "SieveDesk" ∈ NT := mem_nt (i := 231) (by decide +kernel) (by decide +kernel)
theorem n_260 : Cond.methodLinkNest "SieveDesk$Tokens" 73 y_S_startsWord "SieveDesk" ∈ NT := mem_nt (i := 260) (by decide +kernel) (by decide +kernel)
theorem n_274 : Cond.methodLinkNest "SieveDesk$Tokens" 99 y_S_goesOnWord "SieveDesk" ∈ NT := mem_nt (i := 274) (by decide +kernel) (by decide +kernel)
theorem n_281 : Cond.methodLinkNest "SieveDesk$Tokens" 107 y_S_same "SieveDesk" ∈ NT := mem_nt (i := 281) (by decide +kernel) (by decide +kernel)
theorem n_340 : Cond.methodLinkNest "SieveDesk$Tokens" 114 y_D_spelled "SieveDesk" ∈ NT := mem_nt (i := 340) (by decide +kernel) (by decide +kernel)
theorem n_345 : Cond.methodLinkNest "SieveDesk$Word" 174 y_S_same "SieveDesk" ∈ NT := mem_nt (i := 345) (by decide +kernel) (by decide +kernel)
theorem n_351 : Cond.methodLinkNest "SieveDesk$Tokens" 83 y_S_isDigit "SieveDesk" ∈ NT := mem_nt (i := 351) (by decide +kernel) (by decide +kernel)
theorem n_370 : Cond.methodLinkNest "SieveDesk$Tokens" 135 y_Q_empty "SieveDesk" ∈ NT := mem_nt (i := 370) (by decide +kernel) (by decide +kernel)
theorem n_374 : Cond.methodLinkNest "SieveDesk$Tokens" 138 y_Q_says "SieveDesk" ∈ NT := mem_nt (i := 374) (by decide +kernel) (by decide +kernel)
theorem n_391 : Cond.methodLinkNest "SieveDesk$Quoted" 51 y_S_isLetter "SieveDesk" ∈ NT := mem_nt (i := 391) (by decide +kernel) (by decide +kernel)
theorem n_392 : Cond.methodLinkNest "SieveDesk$Quoted" 55 y_S_isDigit "SieveDesk" ∈ NT := mem_nt (i := 392) (by decide +kernel) (by decide +kernel)
theorem n_453 : Cond.fieldLinkNest "SieveDesk$Quoted" 26 "SieveDesk$Name" "EACH" "[LSieveDesk$Name;" "SieveDesk" ∈ NT := mem_nt (i := 453) (by decide +kernel) (by decide +kernel)
theorem n_455 : Cond.methodLinkNest "SieveDesk$Quoted" 36 y_S_same "SieveDesk" ∈ NT := mem_nt (i := 455) (by decide +kernel) (by decide +kernel)
theorem n_456 : Cond.methodLinkNest "SieveDesk$Tokens" 141 y_Q_add "SieveDesk" ∈ NT := mem_nt (i := 456) (by decide +kernel) (by decide +kernel)
theorem n_462 : Cond.methodLinkNest "SieveDesk" 42 y_G_reads "SieveDesk" ∈ NT := mem_nt (i := 462) (by decide +kernel) (by decide +kernel)
theorem n_541 : Cond.methodLinkNest "SieveDesk" 46 y_G_standsAt "SieveDesk" ∈ NT := mem_nt (i := 541) (by decide +kernel) (by decide +kernel)
theorem n_870 : Cond.fieldLinkNest "SieveDesk$Quoted" 32 "SieveDesk$Name" "spelling" "Ljava/lang/String;" "SieveDesk" ∈ NT := mem_nt (i := 870) (by decide +kernel) (by decide +kernel)
theorem n_871 : Cond.fieldLinkNest "SieveDesk$Quoted" 40 "SieveDesk$Name" "says" "I" "SieveDesk" ∈ NT := mem_nt (i := 871) (by decide +kernel) (by decide +kernel)
theorem n_872 : Cond.fieldLinkNest "SieveDesk$Grammar" 151 "SieveDesk$Word" "production" "Ljava/lang/String;" "SieveDesk" ∈ NT := mem_nt (i := 872) (by decide +kernel) (by decide +kernel)
theorem n_873 : Cond.fieldLinkNest "SieveDesk$Grammar" 161 "SieveDesk$Word" "role" "I" "SieveDesk" ∈ NT := mem_nt (i := 873) (by decide +kernel) (by decide +kernel)
theorem n_874 : Cond.fieldLinkNest "SieveDesk$Grammar" 155 "SieveDesk$Word" "needs" "I" "SieveDesk" ∈ NT := mem_nt (i := 874) (by decide +kernel) (by decide +kernel)
theorem n_875 : Cond.fieldLinkNest "SieveDesk$Grammar" 158 "SieveDesk$Word" "groups" "I" "SieveDesk" ∈ NT := mem_nt (i := 875) (by decide +kernel) (by decide +kernel)
