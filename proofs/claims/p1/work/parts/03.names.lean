abbrev b_G_init : ByteArray := prog_2_method_1_code
def y_G_init : MethodName := ⟨"SieveDesk$Grammar", "<init>", "(LSieveDesk$Tokens;)V"⟩
abbrev b_JL_charAt : ByteArray := prog_13_method_2_code
def y_JL_charAt : MethodName := ⟨"java/lang/StringLatin1", "charAt", "([BI)C"⟩
abbrev b_JP_checkIndex : ByteArray := prog_15_method_11_code
def y_JP_checkIndex : MethodName := ⟨"jdk/internal/util/Preconditions", "checkIndex", "(IILjava/util/function/BiFunction;)I"⟩
abbrev b_JS_charAt : ByteArray := prog_12_method_56_code
def y_JS_charAt : MethodName := ⟨"java/lang/String", "charAt", "(I)C"⟩
abbrev b_JS_checkIndex : ByteArray := prog_12_method_155_code
def y_JS_checkIndex : MethodName := ⟨"java/lang/String", "checkIndex", "(II)V"⟩
abbrev b_JS_coder : ByteArray := prog_12_method_152_code
def y_JS_coder : MethodName := ⟨"java/lang/String", "coder", "()B"⟩
abbrev b_JS_isLatin1 : ByteArray := prog_12_method_154_code
def y_JS_isLatin1 : MethodName := ⟨"java/lang/String", "isLatin1", "()Z"⟩
abbrev b_JS_length : ByteArray := prog_12_method_54_code
def y_JS_length : MethodName := ⟨"java/lang/String", "length", "()I"⟩
abbrev b_Q_init : ByteArray := prog_4_method_1_code
def y_Q_init : MethodName := ⟨"SieveDesk$Quoted", "<init>", "()V"⟩
abbrev b_S_init : ByteArray := prog_1_method_1_code
def y_S_init : MethodName := ⟨"SieveDesk", "<init>", "()V"⟩
abbrev b_T_init : ByteArray := prog_5_method_1_code
def y_T_init : MethodName := ⟨"SieveDesk$Tokens", "<init>", "([B)V"⟩
theorem k_75 : Cond.initialized "SieveDesk$Tokens" ∈ TT := mem_tt (i := 75) (by decide +kernel) (by decide +kernel)
theorem k_76 : Cond.initialized "SieveDesk$Quoted" ∈ TT := mem_tt (i := 76) (by decide +kernel) (by decide +kernel)
theorem k_77 : Cond.initialized "SieveDesk$Grammar" ∈ TT := mem_tt (i := 77) (by decide +kernel) (by decide +kernel)
theorem k_81 : Cond.initialized "java/lang/String" ∈ TT := mem_tt (i := 81) (by decide +kernel) (by decide +kernel)
theorem k_82 : Cond.initialized "java/lang/StringLatin1" ∈ TT := mem_tt (i := 82) (by decide +kernel) (by decide +kernel)
theorem k_83 : Cond.initialized "jdk/internal/util/Preconditions" ∈ TT := mem_tt (i := 83) (by decide +kernel) (by decide +kernel)
theorem k_93 : Cond.methodLink "SieveDesk" 3 objectInit ∈ TT := mem_tt (i := 93) (by decide +kernel) (by decide +kernel)
theorem k_94 : Cond.instanceMethod objectInit ∈ TT := mem_tt (i := 94) (by decide +kernel) (by decide +kernel)
theorem k_95 : Cond.code objectInit ⟨#[0xb1]⟩ 1 none ∈ TT := mem_tt (i := 95) (by decide +kernel) (by decide +kernel)
theorem k_96 : Cond.classLink "SieveDesk" 13 "SieveDesk$Tokens" ∈ TT := mem_tt (i := 96) (by decide +kernel) (by decide +kernel)
theorem k_97 : Cond.instantiable "SieveDesk$Tokens" 9 ∈ TT := mem_tt (i := 97) (by decide +kernel) (by decide +kernel)
theorem k_98 : Cond.methodLink "SieveDesk" 15 y_T_init ∈ TT := mem_tt (i := 98) (by decide +kernel) (by decide +kernel)
theorem k_99 : Cond.instanceMethod y_T_init ∈ TT := mem_tt (i := 99) (by decide +kernel) (by decide +kernel)
theorem k_100 : Cond.code y_T_init b_T_init 2 none ∈ TT := mem_tt (i := 100) (by decide +kernel) (by decide +kernel)
theorem k_101 : Cond.methodLink "SieveDesk$Tokens" 3 objectInit ∈ TT := mem_tt (i := 101) (by decide +kernel) (by decide +kernel)
theorem k_102 : Cond.classLink "SieveDesk$Tokens" 22 "SieveDesk$Word" ∈ TT := mem_tt (i := 102) (by decide +kernel) (by decide +kernel)
theorem k_104 : Cond.classLink "SieveDesk$Tokens" 31 "SieveDesk$Quoted" ∈ TT := mem_tt (i := 104) (by decide +kernel) (by decide +kernel)
theorem k_105 : Cond.instantiable "SieveDesk$Quoted" 2 ∈ TT := mem_tt (i := 105) (by decide +kernel) (by decide +kernel)
theorem k_106 : Cond.methodLink "SieveDesk$Tokens" 33 y_Q_init ∈ TT := mem_tt (i := 106) (by decide +kernel) (by decide +kernel)
theorem k_107 : Cond.instanceMethod y_Q_init ∈ TT := mem_tt (i := 107) (by decide +kernel) (by decide +kernel)
theorem k_108 : Cond.code y_Q_init b_Q_init 1 none ∈ TT := mem_tt (i := 108) (by decide +kernel) (by decide +kernel)
theorem k_109 : Cond.methodLink "SieveDesk$Quoted" 3 objectInit ∈ TT := mem_tt (i := 109) (by decide +kernel) (by decide +kernel)
theorem k_110 : Cond.fieldLink "SieveDesk$Quoted" 9 "SieveDesk$Quoted" "bytes" "[B" ∈ TT := mem_tt (i := 110) (by decide +kernel) (by decide +kernel)
theorem k_111 : Cond.fieldLink "SieveDesk$Quoted" 15 "SieveDesk$Quoted" "length" "I" ∈ TT := mem_tt (i := 111) (by decide +kernel) (by decide +kernel)
theorem k_117 : (Cond.arrayClass FieldType.byte) ∈ TT := mem_tt (i := 117) (by decide +kernel) (by decide +kernel)
theorem k_118 : (Cond.arrayClass FieldType.int) ∈ TT := mem_tt (i := 118) (by decide +kernel) (by decide +kernel)
theorem k_119 : Cond.fieldLink "SieveDesk$Tokens" 9 "SieveDesk$Tokens" "script" "[B" ∈ TT := mem_tt (i := 119) (by decide +kernel) (by decide +kernel)
theorem k_120 : Cond.fieldLink "SieveDesk$Tokens" 15 "SieveDesk$Tokens" "kinds" "[I" ∈ TT := mem_tt (i := 120) (by decide +kernel) (by decide +kernel)
theorem k_122 : Cond.fieldLink "SieveDesk$Tokens" 19 "SieveDesk$Tokens" "starts" "[I" ∈ TT := mem_tt (i := 122) (by decide +kernel) (by decide +kernel)
theorem k_124 : Cond.fieldLink "SieveDesk$Tokens" 24 "SieveDesk$Tokens" "words" "[LSieveDesk$Word;" ∈ TT := mem_tt (i := 124) (by decide +kernel) (by decide +kernel)
theorem k_126 : Cond.fieldLink "SieveDesk$Tokens" 28 "SieveDesk$Tokens" "says" "[I" ∈ TT := mem_tt (i := 126) (by decide +kernel) (by decide +kernel)
theorem k_128 : Cond.fieldLink "SieveDesk$Tokens" 34 "SieveDesk$Tokens" "quoted" "LSieveDesk$Quoted;" ∈ TT := mem_tt (i := 128) (by decide +kernel) (by decide +kernel)
theorem k_129 : Cond.fieldLink "SieveDesk$Tokens" 38 "SieveDesk$Tokens" "many" "I" ∈ TT := mem_tt (i := 129) (by decide +kernel) (by decide +kernel)
theorem k_131 : Cond.fieldLink "SieveDesk$Tokens" 42 "SieveDesk$Tokens" "length" "I" ∈ TT := mem_tt (i := 131) (by decide +kernel) (by decide +kernel)
theorem k_132 : Cond.fieldLink "SieveDesk$Tokens" 45 "SieveDesk$Tokens" "at" "I" ∈ TT := mem_tt (i := 132) (by decide +kernel) (by decide +kernel)
theorem k_152 : Cond.classLink "SieveDesk" 22 "SieveDesk$Grammar" ∈ TT := mem_tt (i := 152) (by decide +kernel) (by decide +kernel)
theorem k_153 : Cond.instantiable "SieveDesk$Grammar" 14 ∈ TT := mem_tt (i := 153) (by decide +kernel) (by decide +kernel)
theorem k_154 : Cond.methodLink "SieveDesk" 24 y_G_init ∈ TT := mem_tt (i := 154) (by decide +kernel) (by decide +kernel)
theorem k_155 : Cond.instanceMethod y_G_init ∈ TT := mem_tt (i := 155) (by decide +kernel) (by decide +kernel)
theorem k_156 : Cond.code y_G_init b_G_init 2 none ∈ TT := mem_tt (i := 156) (by decide +kernel) (by decide +kernel)
theorem k_157 : Cond.methodLink "SieveDesk$Grammar" 3 objectInit ∈ TT := mem_tt (i := 157) (by decide +kernel) (by decide +kernel)
theorem k_158 : Cond.fieldLink "SieveDesk$Grammar" 19 "SieveDesk$Word" "NONE" "LSieveDesk$Word;" ∈ TT := mem_tt (i := 158) (by decide +kernel) (by decide +kernel)
theorem k_160 : Cond.fieldLink "SieveDesk$Grammar" 9 "SieveDesk$Grammar" "tokens" "LSieveDesk$Tokens;" ∈ TT := mem_tt (i := 160) (by decide +kernel) (by decide +kernel)
theorem k_161 : Cond.fieldLink "SieveDesk$Grammar" 15 "SieveDesk$Grammar" "due" "[C" ∈ TT := mem_tt (i := 161) (by decide +kernel) (by decide +kernel)
theorem k_165 : Cond.fieldLink "SieveDesk$Grammar" 25 "SieveDesk$Grammar" "word" "LSieveDesk$Word;" ∈ TT := mem_tt (i := 165) (by decide +kernel) (by decide +kernel)
theorem k_166 : Cond.fieldLink "SieveDesk$Grammar" 28 "SieveDesk$Grammar" "tag" "LSieveDesk$Word;" ∈ TT := mem_tt (i := 166) (by decide +kernel) (by decide +kernel)
theorem k_206 : (Cond.arrayClass FieldType.char) ∈ TT := mem_tt (i := 206) (by decide +kernel) (by decide +kernel)
theorem k_207 : Cond.fieldLink "SieveDesk" 9 "SieveDesk" "script" "[B" ∈ TT := mem_tt (i := 207) (by decide +kernel) (by decide +kernel)
theorem k_208 : Cond.fieldLink "SieveDesk" 18 "SieveDesk" "tokens" "LSieveDesk$Tokens;" ∈ TT := mem_tt (i := 208) (by decide +kernel) (by decide +kernel)
theorem k_209 : Cond.fieldLink "SieveDesk" 27 "SieveDesk" "grammar" "LSieveDesk$Grammar;" ∈ TT := mem_tt (i := 209) (by decide +kernel) (by decide +kernel)
theorem k_210 : Cond.fieldLink "SieveDesk" 31 "SieveDesk" "length" "I" ∈ TT := mem_tt (i := 210) (by decide +kernel) (by decide +kernel)
theorem k_211 : Cond.fieldLink "SieveDesk" 35 "SieveDesk" "faultPlace" "I" ∈ TT := mem_tt (i := 211) (by decide +kernel) (by decide +kernel)
theorem k_288 : Cond.methodLink "java/lang/String" 335 y_JS_coder ∈ TT := mem_tt (i := 288) (by decide +kernel) (by decide +kernel)
theorem k_289 : Cond.instanceMethod y_JS_coder ∈ TT := mem_tt (i := 289) (by decide +kernel) (by decide +kernel)
theorem k_290 : Cond.selects "java/lang/String" y_JS_coder y_JS_coder ∈ TT := mem_tt (i := 290) (by decide +kernel) (by decide +kernel)
theorem k_291 : Cond.code y_JS_coder b_JS_coder 1 (some .byte) ∈ TT := mem_tt (i := 291) (by decide +kernel) (by decide +kernel)
theorem k_292 : Cond.fieldLink "java/lang/String" 38 "java/lang/String" "COMPACT_STRINGS" "Z" ∈ TT := mem_tt (i := 292) (by decide +kernel) (by decide +kernel)
theorem k_298 : Cond.methodLink "java/lang/String" 492 y_JS_isLatin1 ∈ TT := mem_tt (i := 298) (by decide +kernel) (by decide +kernel)
theorem k_299 : Cond.instanceMethod y_JS_isLatin1 ∈ TT := mem_tt (i := 299) (by decide +kernel) (by decide +kernel)
theorem k_300 : Cond.selects "java/lang/String" y_JS_isLatin1 y_JS_isLatin1 ∈ TT := mem_tt (i := 300) (by decide +kernel) (by decide +kernel)
theorem k_301 : Cond.code y_JS_isLatin1 b_JS_isLatin1 1 (some .boolean) ∈ TT := mem_tt (i := 301) (by decide +kernel) (by decide +kernel)
theorem k_302 : Cond.methodLink "java/lang/String" 495 y_JL_charAt ∈ TT := mem_tt (i := 302) (by decide +kernel) (by decide +kernel)
theorem k_303 : Cond.static y_JL_charAt ∈ TT := mem_tt (i := 303) (by decide +kernel) (by decide +kernel)
theorem k_304 : Cond.code y_JL_charAt b_JL_charAt 2 (some .char) ∈ TT := mem_tt (i := 304) (by decide +kernel) (by decide +kernel)
theorem k_305 : Cond.methodLink "java/lang/StringLatin1" 9 y_JS_checkIndex ∈ TT := mem_tt (i := 305) (by decide +kernel) (by decide +kernel)
theorem k_306 : Cond.static y_JS_checkIndex ∈ TT := mem_tt (i := 306) (by decide +kernel) (by decide +kernel)
theorem k_307 : Cond.code y_JS_checkIndex b_JS_checkIndex 2 none ∈ TT := mem_tt (i := 307) (by decide +kernel) (by decide +kernel)
theorem k_308 : Cond.fieldLink "java/lang/String" 1053 "jdk/internal/util/Preconditions" "SIOOBE_FORMATTER" "Ljava/util/function/BiFunction;" ∈ TT := mem_tt (i := 308) (by decide +kernel) (by decide +kernel)
theorem k_310 : Cond.methodLink "java/lang/String" 1059 y_JP_checkIndex ∈ TT := mem_tt (i := 310) (by decide +kernel) (by decide +kernel)
theorem k_311 : Cond.static y_JP_checkIndex ∈ TT := mem_tt (i := 311) (by decide +kernel) (by decide +kernel)
theorem k_312 : Cond.code y_JP_checkIndex b_JP_checkIndex 3 (some .int) ∈ TT := mem_tt (i := 312) (by decide +kernel) (by decide +kernel)
theorem k_867 : Cond.fieldLink "java/lang/String" 9 "java/lang/String" "value" "[B" ∈ TT := mem_tt (i := 867) (by decide +kernel) (by decide +kernel)
theorem k_868 : Cond.fieldLink "java/lang/String" 15 "java/lang/String" "coder" "B" ∈ TT := mem_tt (i := 868) (by decide +kernel) (by decide +kernel)
