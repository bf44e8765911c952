theorem d_M_init_0 : decode b_M_init 0 = .ok (.aload_n 0, 1) := by decide +kernel
theorem d_M_init_1 : decode b_M_init 1 = .ok (.invokespecial 1, 3) := by decide +kernel
theorem d_M_init_4 : decode b_M_init 4 = .ok (.aload_n 0, 1) := by decide +kernel
theorem d_M_init_5 : decode b_M_init 5 = .ok (.sipush 220, 3) := by decide +kernel
theorem d_M_init_8 : decode b_M_init 8 = .ok (.newarray .long, 2) := by decide +kernel
theorem d_M_init_10 : decode b_M_init 10 = .ok (.dup, 1) := by decide +kernel
theorem d_M_init_11 : decode b_M_init 11 = .ok (.iconst 0, 1) := by decide +kernel
theorem d_M_init_12 : decode b_M_init 12 = .ok (.ldc2_w 7, 3) := by decide +kernel
theorem d_M_init_15 : decode b_M_init 15 = .ok (.lastore, 1) := by decide +kernel
theorem d_M_init_16 : decode b_M_init 16 = .ok (.dup, 1) := by decide +kernel
theorem d_M_init_17 : decode b_M_init 17 = .ok (.iconst 1, 1) := by decide +kernel
theorem d_M_init_18 : decode b_M_init 18 = .ok (.lconst 0, 1) := by decide +kernel
theorem d_M_init_19 : decode b_M_init 19 = .ok (.lastore, 1) := by decide +kernel
theorem d_M_init_20 : decode b_M_init 20 = .ok (.dup, 1) := by decide +kernel
theorem d_M_init_21 : decode b_M_init 21 = .ok (.iconst 2, 1) := by decide +kernel
theorem d_M_init_22 : decode b_M_init 22 = .ok (.lconst 0, 1) := by decide +kernel
theorem d_M_init_23 : decode b_M_init 23 = .ok (.lastore, 1) := by decide +kernel
theorem d_M_init_24 : decode b_M_init 24 = .ok (.dup, 1) := by decide +kernel
theorem d_M_init_25 : decode b_M_init 25 = .ok (.iconst 3, 1) := by decide +kernel
theorem d_M_init_26 : decode b_M_init 26 = .ok (.lconst 0, 1) := by decide +kernel
theorem d_M_init_27 : decode b_M_init 27 = .ok (.lastore, 1) := by decide +kernel
theorem d_M_init_28 : decode b_M_init 28 = .ok (.dup, 1) := by decide +kernel
theorem d_M_init_29 : decode b_M_init 29 = .ok (.iconst 4, 1) := by decide +kernel
theorem d_M_init_30 : decode b_M_init 30 = .ok (.ldc2_w 9, 3) := by decide +kernel
theorem d_M_init_33 : decode b_M_init 33 = .ok (.lastore, 1) := by decide +kernel
theorem d_M_init_34 : decode b_M_init 34 = .ok (.dup, 1) := by decide +kernel
theorem d_M_init_35 : decode b_M_init 35 = .ok (.iconst 5, 1) := by decide +kernel
theorem d_M_init_36 : decode b_M_init 36 = .ok (.lconst 0, 1) := by decide +kernel
theorem d_M_init_37 : decode b_M_init 37 = .ok (.lastore, 1) := by decide +kernel
theorem d_M_init_38 : decode b_M_init 38 = .ok (.dup, 1) := by decide +kernel
theorem d_M_init_39 : decode b_M_init 39 = .ok (.bipush 6, 2) := by decide +kernel
theorem d_M_init_41 : decode b_M_init 41 = .ok (.lconst 0, 1) := by decide +kernel
theorem d_M_init_42 : decode b_M_init 42 = .ok (.lastore, 1) := by decide +kernel
theorem d_M_init_43 : decode b_M_init 43 = .ok (.dup, 1) := by decide +kernel
theorem d_M_init_44 : decode b_M_init 44 = .ok (.bipush 7, 2) := by decide +kernel
theorem d_M_init_46 : decode b_M_init 46 = .ok (.lconst 0, 1) := by decide +kernel
theorem d_M_init_47 : decode b_M_init 47 = .ok (.lastore, 1) := by decide +kernel
theorem d_M_init_48 : decode b_M_init 48 = .ok (.dup, 1) := by decide +kernel
theorem d_M_init_49 : decode b_M_init 49 = .ok (.bipush 8, 2) := by decide +kernel
theorem d_M_init_51 : decode b_M_init 51 = .ok (.ldc2_w 11, 3) := by decide +kernel
theorem d_M_init_54 : decode b_M_init 54 = .ok (.lastore, 1) := by decide +kernel
theorem d_M_init_55 : decode b_M_init 55 = .ok (.dup, 1) := by decide +kernel
theorem d_M_init_56 : decode b_M_init 56 = .ok (.bipush 9, 2) := by decide +kernel
theorem d_M_init_58 : decode b_M_init 58 = .ok (.lconst 0, 1) := by decide +kernel
theorem d_M_init_59 : decode b_M_init 59 = .ok (.lastore, 1) := by decide +kernel
theorem d_M_init_60 : decode b_M_init 60 = .ok (.dup, 1) := by decide +kernel
theorem d_M_init_61 : decode b_M_init 61 = .ok (.bipush 10, 2) := by decide +kernel
theorem d_M_init_63 : decode b_M_init 63 = .ok (.lconst 0, 1) := by decide +kernel
theorem d_M_init_64 : decode b_M_init 64 = .ok (.lastore, 1) := by decide +kernel
theorem d_M_init_65 : decode b_M_init 65 = .ok (.dup, 1) := by decide +kernel
theorem d_M_init_66 : decode b_M_init 66 = .ok (.bipush 11, 2) := by decide +kernel
theorem d_M_init_68 : decode b_M_init 68 = .ok (.lconst 0, 1) := by decide +kernel
theorem d_M_init_69 : decode b_M_init 69 = .ok (.lastore, 1) := by decide +kernel
theorem d_M_init_70 : decode b_M_init 70 = .ok (.dup, 1) := by decide +kernel
theorem d_M_init_71 : decode b_M_init 71 = .ok (.bipush 12, 2) := by decide +kernel
theorem d_M_init_73 : decode b_M_init 73 = .ok (.ldc2_w 13, 3) := by decide +kernel
theorem d_M_init_76 : decode b_M_init 76 = .ok (.lastore, 1) := by decide +kernel
theorem d_M_init_77 : decode b_M_init 77 = .ok (.dup, 1) := by decide +kernel
theorem d_M_init_78 : decode b_M_init 78 = .ok (.bipush 13, 2) := by decide +kernel
theorem d_M_init_80 : decode b_M_init 80 = .ok (.lconst 0, 1) := by decide +kernel
theorem d_M_init_81 : decode b_M_init 81 = .ok (.lastore, 1) := by decide +kernel
theorem d_M_init_82 : decode b_M_init 82 = .ok (.dup, 1) := by decide +kernel
theorem d_M_init_83 : decode b_M_init 83 = .ok (.bipush 14, 2) := by decide +kernel
theorem d_M_init_85 : decode b_M_init 85 = .ok (.lconst 0, 1) := by decide +kernel
theorem d_M_init_86 : decode b_M_init 86 = .ok (.lastore, 1) := by decide +kernel
theorem d_M_init_87 : decode b_M_init 87 = .ok (.dup, 1) := by decide +kernel
theorem d_M_init_88 : decode b_M_init 88 = .ok (.bipush 15, 2) := by decide +kernel
theorem d_M_init_90 : decode b_M_init 90 = .ok (.lconst 0, 1) := by decide +kernel
theorem d_M_init_91 : decode b_M_init 91 = .ok (.lastore, 1) := by decide +kernel
theorem d_M_init_92 : decode b_M_init 92 = .ok (.dup, 1) := by decide +kernel
theorem d_M_init_93 : decode b_M_init 93 = .ok (.bipush 16, 2) := by decide +kernel
theorem d_M_init_95 : decode b_M_init 95 = .ok (.ldc2_w 15, 3) := by decide +kernel
theorem d_M_init_98 : decode b_M_init 98 = .ok (.lastore, 1) := by decide +kernel
theorem d_M_init_99 : decode b_M_init 99 = .ok (.dup, 1) := by decide +kernel
theorem d_M_init_100 : decode b_M_init 100 = .ok (.bipush 17, 2) := by decide +kernel
theorem d_M_init_102 : decode b_M_init 102 = .ok (.lconst 0, 1) := by decide +kernel
theorem d_M_init_103 : decode b_M_init 103 = .ok (.lastore, 1) := by decide +kernel
theorem d_M_init_104 : decode b_M_init 104 = .ok (.dup, 1) := by decide +kernel
theorem d_M_init_105 : decode b_M_init 105 = .ok (.bipush 18, 2) := by decide +kernel
theorem d_M_init_107 : decode b_M_init 107 = .ok (.lconst 0, 1) := by decide +kernel
theorem d_M_init_108 : decode b_M_init 108 = .ok (.lastore, 1) := by decide +kernel
theorem d_M_init_109 : decode b_M_init 109 = .ok (.dup, 1) := by decide +kernel
theorem d_M_init_110 : decode b_M_init 110 = .ok (.bipush 19, 2) := by decide +kernel
theorem d_M_init_112 : decode b_M_init 112 = .ok (.lconst 0, 1) := by decide +kernel
theorem d_M_init_113 : decode b_M_init 113 = .ok (.lastore, 1) := by decide +kernel
theorem d_M_init_114 : decode b_M_init 114 = .ok (.dup, 1) := by decide +kernel
theorem d_M_init_115 : decode b_M_init 115 = .ok (.bipush 20, 2) := by decide +kernel
theorem d_M_init_117 : decode b_M_init 117 = .ok (.ldc2_w 17, 3) := by decide +kernel
theorem d_M_init_120 : decode b_M_init 120 = .ok (.lastore, 1) := by decide +kernel
theorem d_M_init_121 : decode b_M_init 121 = .ok (.dup, 1) := by decide +kernel
theorem d_M_init_122 : decode b_M_init 122 = .ok (.bipush 21, 2) := by decide +kernel
theorem d_M_init_124 : decode b_M_init 124 = .ok (.lconst 0, 1) := by decide +kernel
theorem d_M_init_125 : decode b_M_init 125 = .ok (.lastore, 1) := by decide +kernel
theorem d_M_init_126 : decode b_M_init 126 = .ok (.dup, 1) := by decide +kernel
theorem d_M_init_127 : decode b_M_init 127 = .ok (.bipush 22, 2) := by decide +kernel
theorem d_M_init_129 : decode b_M_init 129 = .ok (.lconst 0, 1) := by decide +kernel
theorem d_M_init_130 : decode b_M_init 130 = .ok (.lastore, 1) := by decide +kernel
theorem d_M_init_131 : decode b_M_init 131 = .ok (.dup, 1) := by decide +kernel
theorem d_M_init_132 : decode b_M_init 132 = .ok (.bipush 23, 2) := by decide +kernel
theorem d_M_init_134 : decode b_M_init 134 = .ok (.lconst 0, 1) := by decide +kernel
theorem d_M_init_135 : decode b_M_init 135 = .ok (.lastore, 1) := by decide +kernel
theorem d_M_init_136 : decode b_M_init 136 = .ok (.dup, 1) := by decide +kernel
theorem d_M_init_137 : decode b_M_init 137 = .ok (.bipush 24, 2) := by decide +kernel
theorem d_M_init_139 : decode b_M_init 139 = .ok (.ldc2_w 19, 3) := by decide +kernel
theorem d_M_init_142 : decode b_M_init 142 = .ok (.lastore, 1) := by decide +kernel
theorem d_M_init_143 : decode b_M_init 143 = .ok (.dup, 1) := by decide +kernel
theorem d_M_init_144 : decode b_M_init 144 = .ok (.bipush 25, 2) := by decide +kernel
theorem d_M_init_146 : decode b_M_init 146 = .ok (.lconst 0, 1) := by decide +kernel
theorem d_M_init_147 : decode b_M_init 147 = .ok (.lastore, 1) := by decide +kernel
theorem d_M_init_148 : decode b_M_init 148 = .ok (.dup, 1) := by decide +kernel
theorem d_M_init_149 : decode b_M_init 149 = .ok (.bipush 26, 2) := by decide +kernel
theorem d_M_init_151 : decode b_M_init 151 = .ok (.lconst 0, 1) := by decide +kernel
theorem d_M_init_152 : decode b_M_init 152 = .ok (.lastore, 1) := by decide +kernel
theorem d_M_init_153 : decode b_M_init 153 = .ok (.dup, 1) := by decide +kernel
theorem d_M_init_154 : decode b_M_init 154 = .ok (.bipush 27, 2) := by decide +kernel
theorem d_M_init_156 : decode b_M_init 156 = .ok (.lconst 0, 1) := by decide +kernel
theorem d_M_init_157 : decode b_M_init 157 = .ok (.lastore, 1) := by decide +kernel
theorem d_M_init_158 : decode b_M_init 158 = .ok (.dup, 1) := by decide +kernel
theorem d_M_init_159 : decode b_M_init 159 = .ok (.bipush 28, 2) := by decide +kernel
theorem d_M_init_161 : decode b_M_init 161 = .ok (.ldc2_w 21, 3) := by decide +kernel
theorem d_M_init_164 : decode b_M_init 164 = .ok (.lastore, 1) := by decide +kernel
theorem d_M_init_165 : decode b_M_init 165 = .ok (.dup, 1) := by decide +kernel
theorem d_M_init_166 : decode b_M_init 166 = .ok (.bipush 29, 2) := by decide +kernel
theorem d_M_init_168 : decode b_M_init 168 = .ok (.lconst 0, 1) := by decide +kernel
theorem d_M_init_169 : decode b_M_init 169 = .ok (.lastore, 1) := by decide +kernel
theorem d_M_init_170 : decode b_M_init 170 = .ok (.dup, 1) := by decide +kernel
theorem d_M_init_171 : decode b_M_init 171 = .ok (.bipush 30, 2) := by decide +kernel
theorem d_M_init_173 : decode b_M_init 173 = .ok (.lconst 0, 1) := by decide +kernel
theorem d_M_init_174 : decode b_M_init 174 = .ok (.lastore, 1) := by decide +kernel
theorem d_M_init_175 : decode b_M_init 175 = .ok (.dup, 1) := by decide +kernel
theorem d_M_init_176 : decode b_M_init 176 = .ok (.bipush 31, 2) := by decide +kernel
theorem d_M_init_178 : decode b_M_init 178 = .ok (.lconst 0, 1) := by decide +kernel
theorem d_M_init_179 : decode b_M_init 179 = .ok (.lastore, 1) := by decide +kernel
theorem d_M_init_180 : decode b_M_init 180 = .ok (.dup, 1) := by decide +kernel
theorem d_M_init_181 : decode b_M_init 181 = .ok (.bipush 32, 2) := by decide +kernel
theorem d_M_init_183 : decode b_M_init 183 = .ok (.ldc2_w 23, 3) := by decide +kernel
theorem d_M_init_186 : decode b_M_init 186 = .ok (.lastore, 1) := by decide +kernel
theorem d_M_init_187 : decode b_M_init 187 = .ok (.dup, 1) := by decide +kernel
theorem d_M_init_188 : decode b_M_init 188 = .ok (.bipush 33, 2) := by decide +kernel
theorem d_M_init_190 : decode b_M_init 190 = .ok (.lconst 0, 1) := by decide +kernel
theorem d_M_init_191 : decode b_M_init 191 = .ok (.lastore, 1) := by decide +kernel
theorem d_M_init_192 : decode b_M_init 192 = .ok (.dup, 1) := by decide +kernel
theorem d_M_init_193 : decode b_M_init 193 = .ok (.bipush 34, 2) := by decide +kernel
theorem d_M_init_195 : decode b_M_init 195 = .ok (.lconst 0, 1) := by decide +kernel
theorem d_M_init_196 : decode b_M_init 196 = .ok (.lastore, 1) := by decide +kernel
theorem d_M_init_197 : decode b_M_init 197 = .ok (.dup, 1) := by decide +kernel
theorem d_M_init_198 : decode b_M_init 198 = .ok (.bipush 35, 2) := by decide +kernel
theorem d_M_init_200 : decode b_M_init 200 = .ok (.lconst 0, 1) := by decide +kernel
theorem d_M_init_201 : decode b_M_init 201 = .ok (.lastore, 1) := by decide +kernel
theorem d_M_init_202 : decode b_M_init 202 = .ok (.dup, 1) := by decide +kernel
theorem d_M_init_203 : decode b_M_init 203 = .ok (.bipush 36, 2) := by decide +kernel
theorem d_M_init_205 : decode b_M_init 205 = .ok (.ldc2_w 25, 3) := by decide +kernel
theorem d_M_init_208 : decode b_M_init 208 = .ok (.lastore, 1) := by decide +kernel
theorem d_M_init_209 : decode b_M_init 209 = .ok (.dup, 1) := by decide +kernel
theorem d_M_init_210 : decode b_M_init 210 = .ok (.bipush 37, 2) := by decide +kernel
theorem d_M_init_212 : decode b_M_init 212 = .ok (.lconst 0, 1) := by decide +kernel
theorem d_M_init_213 : decode b_M_init 213 = .ok (.lastore, 1) := by decide +kernel
theorem d_M_init_214 : decode b_M_init 214 = .ok (.dup, 1) := by decide +kernel
theorem d_M_init_215 : decode b_M_init 215 = .ok (.bipush 38, 2) := by decide +kernel
theorem d_M_init_217 : decode b_M_init 217 = .ok (.lconst 0, 1) := by decide +kernel
theorem d_M_init_218 : decode b_M_init 218 = .ok (.lastore, 1) := by decide +kernel
theorem d_M_init_219 : decode b_M_init 219 = .ok (.dup, 1) := by decide +kernel
theorem d_M_init_220 : decode b_M_init 220 = .ok (.bipush 39, 2) := by decide +kernel
theorem d_M_init_222 : decode b_M_init 222 = .ok (.lconst 0, 1) := by decide +kernel
theorem d_M_init_223 : decode b_M_init 223 = .ok (.lastore, 1) := by decide +kernel
theorem d_M_init_224 : decode b_M_init 224 = .ok (.dup, 1) := by decide +kernel
theorem d_M_init_225 : decode b_M_init 225 = .ok (.bipush 40, 2) := by decide +kernel
theorem d_M_init_227 : decode b_M_init 227 = .ok (.ldc2_w 27, 3) := by decide +kernel
theorem d_M_init_230 : decode b_M_init 230 = .ok (.lastore, 1) := by decide +kernel
theorem d_M_init_231 : decode b_M_init 231 = .ok (.dup, 1) := by decide +kernel
theorem d_M_init_232 : decode b_M_init 232 = .ok (.bipush 41, 2) := by decide +kernel
theorem d_M_init_234 : decode b_M_init 234 = .ok (.lconst 0, 1) := by decide +kernel
theorem d_M_init_235 : decode b_M_init 235 = .ok (.lastore, 1) := by decide +kernel
theorem d_M_init_236 : decode b_M_init 236 = .ok (.dup, 1) := by decide +kernel
theorem d_M_init_237 : decode b_M_init 237 = .ok (.bipush 42, 2) := by decide +kernel
theorem d_M_init_239 : decode b_M_init 239 = .ok (.lconst 0, 1) := by decide +kernel
theorem d_M_init_240 : decode b_M_init 240 = .ok (.lastore, 1) := by decide +kernel
theorem d_M_init_241 : decode b_M_init 241 = .ok (.dup, 1) := by decide +kernel
theorem d_M_init_242 : decode b_M_init 242 = .ok (.bipush 43, 2) := by decide +kernel
theorem d_M_init_244 : decode b_M_init 244 = .ok (.lconst 0, 1) := by decide +kernel
theorem d_M_init_245 : decode b_M_init 245 = .ok (.lastore, 1) := by decide +kernel
theorem d_M_init_246 : decode b_M_init 246 = .ok (.dup, 1) := by decide +kernel
theorem d_M_init_247 : decode b_M_init 247 = .ok (.bipush 44, 2) := by decide +kernel
theorem d_M_init_249 : decode b_M_init 249 = .ok (.ldc2_w 29, 3) := by decide +kernel
theorem d_M_init_252 : decode b_M_init 252 = .ok (.lastore, 1) := by decide +kernel
theorem d_M_init_253 : decode b_M_init 253 = .ok (.dup, 1) := by decide +kernel
theorem d_M_init_254 : decode b_M_init 254 = .ok (.bipush 45, 2) := by decide +kernel
theorem d_M_init_256 : decode b_M_init 256 = .ok (.lconst 0, 1) := by decide +kernel
theorem d_M_init_257 : decode b_M_init 257 = .ok (.lastore, 1) := by decide +kernel
theorem d_M_init_258 : decode b_M_init 258 = .ok (.dup, 1) := by decide +kernel
theorem d_M_init_259 : decode b_M_init 259 = .ok (.bipush 46, 2) := by decide +kernel
theorem d_M_init_261 : decode b_M_init 261 = .ok (.lconst 0, 1) := by decide +kernel
theorem d_M_init_262 : decode b_M_init 262 = .ok (.lastore, 1) := by decide +kernel
theorem d_M_init_263 : decode b_M_init 263 = .ok (.dup, 1) := by decide +kernel
theorem d_M_init_264 : decode b_M_init 264 = .ok (.bipush 47, 2) := by decide +kernel
theorem d_M_init_266 : decode b_M_init 266 = .ok (.lconst 0, 1) := by decide +kernel
theorem d_M_init_267 : decode b_M_init 267 = .ok (.lastore, 1) := by decide +kernel
theorem d_M_init_268 : decode b_M_init 268 = .ok (.dup, 1) := by decide +kernel
theorem d_M_init_269 : decode b_M_init 269 = .ok (.bipush 48, 2) := by decide +kernel
theorem d_M_init_271 : decode b_M_init 271 = .ok (.ldc2_w 31, 3) := by decide +kernel
theorem d_M_init_274 : decode b_M_init 274 = .ok (.lastore, 1) := by decide +kernel
theorem d_M_init_275 : decode b_M_init 275 = .ok (.dup, 1) := by decide +kernel
theorem d_M_init_276 : decode b_M_init 276 = .ok (.bipush 49, 2) := by decide +kernel
theorem d_M_init_278 : decode b_M_init 278 = .ok (.ldc2_w 33, 3) := by decide +kernel
theorem d_M_init_281 : decode b_M_init 281 = .ok (.lastore, 1) := by decide +kernel
theorem d_M_init_282 : decode b_M_init 282 = .ok (.dup, 1) := by decide +kernel
theorem d_M_init_283 : decode b_M_init 283 = .ok (.bipush 50, 2) := by decide +kernel
theorem d_M_init_285 : decode b_M_init 285 = .ok (.lconst 0, 1) := by decide +kernel
theorem d_M_init_286 : decode b_M_init 286 = .ok (.lastore, 1) := by decide +kernel
theorem d_M_init_287 : decode b_M_init 287 = .ok (.dup, 1) := by decide +kernel
theorem d_M_init_288 : decode b_M_init 288 = .ok (.bipush 51, 2) := by decide +kernel
theorem d_M_init_290 : decode b_M_init 290 = .ok (.lconst 0, 1) := by decide +kernel
theorem d_M_init_291 : decode b_M_init 291 = .ok (.lastore, 1) := by decide +kernel
theorem d_M_init_292 : decode b_M_init 292 = .ok (.dup, 1) := by decide +kernel
theorem d_M_init_293 : decode b_M_init 293 = .ok (.bipush 52, 2) := by decide +kernel
theorem d_M_init_295 : decode b_M_init 295 = .ok (.ldc2_w 35, 3) := by decide +kernel
theorem d_M_init_298 : decode b_M_init 298 = .ok (.lastore, 1) := by decide +kernel
theorem d_M_init_299 : decode b_M_init 299 = .ok (.dup, 1) := by decide +kernel
theorem d_M_init_300 : decode b_M_init 300 = .ok (.bipush 53, 2) := by decide +kernel
theorem d_M_init_302 : decode b_M_init 302 = .ok (.lconst 0, 1) := by decide +kernel
theorem d_M_init_303 : decode b_M_init 303 = .ok (.lastore, 1) := by decide +kernel
theorem d_M_init_304 : decode b_M_init 304 = .ok (.dup, 1) := by decide +kernel
theorem d_M_init_305 : decode b_M_init 305 = .ok (.bipush 54, 2) := by decide +kernel
theorem d_M_init_307 : decode b_M_init 307 = .ok (.lconst 0, 1) := by decide +kernel
theorem d_M_init_308 : decode b_M_init 308 = .ok (.lastore, 1) := by decide +kernel
theorem d_M_init_309 : decode b_M_init 309 = .ok (.dup, 1) := by decide +kernel
theorem d_M_init_310 : decode b_M_init 310 = .ok (.bipush 55, 2) := by decide +kernel
theorem d_M_init_312 : decode b_M_init 312 = .ok (.lconst 0, 1) := by decide +kernel
theorem d_M_init_313 : decode b_M_init 313 = .ok (.lastore, 1) := by decide +kernel
theorem d_M_init_314 : decode b_M_init 314 = .ok (.dup, 1) := by decide +kernel
theorem d_M_init_315 : decode b_M_init 315 = .ok (.bipush 56, 2) := by decide +kernel
theorem d_M_init_317 : decode b_M_init 317 = .ok (.ldc2_w 37, 3) := by decide +kernel
theorem d_M_init_320 : decode b_M_init 320 = .ok (.lastore, 1) := by decide +kernel
theorem d_M_init_321 : decode b_M_init 321 = .ok (.dup, 1) := by decide +kernel
theorem d_M_init_322 : decode b_M_init 322 = .ok (.bipush 57, 2) := by decide +kernel
theorem d_M_init_324 : decode b_M_init 324 = .ok (.lconst 0, 1) := by decide +kernel
theorem d_M_init_325 : decode b_M_init 325 = .ok (.lastore, 1) := by decide +kernel
theorem d_M_init_326 : decode b_M_init 326 = .ok (.dup, 1) := by decide +kernel
theorem d_M_init_327 : decode b_M_init 327 = .ok (.bipush 58, 2) := by decide +kernel
theorem d_M_init_329 : decode b_M_init 329 = .ok (.lconst 0, 1) := by decide +kernel
theorem d_M_init_330 : decode b_M_init 330 = .ok (.lastore, 1) := by decide +kernel
theorem d_M_init_331 : decode b_M_init 331 = .ok (.dup, 1) := by decide +kernel
theorem d_M_init_332 : decode b_M_init 332 = .ok (.bipush 59, 2) := by decide +kernel
theorem d_M_init_334 : decode b_M_init 334 = .ok (.lconst 0, 1) := by decide +kernel
theorem d_M_init_335 : decode b_M_init 335 = .ok (.lastore, 1) := by decide +kernel
theorem d_M_init_336 : decode b_M_init 336 = .ok (.dup, 1) := by decide +kernel
theorem d_M_init_337 : decode b_M_init 337 = .ok (.bipush 60, 2) := by decide +kernel
theorem d_M_init_339 : decode b_M_init 339 = .ok (.ldc2_w 39, 3) := by decide +kernel
theorem d_M_init_342 : decode b_M_init 342 = .ok (.lastore, 1) := by decide +kernel
theorem d_M_init_343 : decode b_M_init 343 = .ok (.dup, 1) := by decide +kernel
theorem d_M_init_344 : decode b_M_init 344 = .ok (.bipush 61, 2) := by decide +kernel
theorem d_M_init_346 : decode b_M_init 346 = .ok (.lconst 0, 1) := by decide +kernel
theorem d_M_init_347 : decode b_M_init 347 = .ok (.lastore, 1) := by decide +kernel
theorem d_M_init_348 : decode b_M_init 348 = .ok (.dup, 1) := by decide +kernel
theorem d_M_init_349 : decode b_M_init 349 = .ok (.bipush 62, 2) := by decide +kernel
theorem d_M_init_351 : decode b_M_init 351 = .ok (.lconst 0, 1) := by decide +kernel
theorem d_M_init_352 : decode b_M_init 352 = .ok (.lastore, 1) := by decide +kernel
theorem d_M_init_353 : decode b_M_init 353 = .ok (.dup, 1) := by decide +kernel
theorem d_M_init_354 : decode b_M_init 354 = .ok (.bipush 63, 2) := by decide +kernel
theorem d_M_init_356 : decode b_M_init 356 = .ok (.lconst 0, 1) := by decide +kernel
theorem d_M_init_357 : decode b_M_init 357 = .ok (.lastore, 1) := by decide +kernel
theorem d_M_init_358 : decode b_M_init 358 = .ok (.dup, 1) := by decide +kernel
theorem d_M_init_359 : decode b_M_init 359 = .ok (.bipush 64, 2) := by decide +kernel
theorem d_M_init_361 : decode b_M_init 361 = .ok (.ldc2_w 41, 3) := by decide +kernel
theorem d_M_init_364 : decode b_M_init 364 = .ok (.lastore, 1) := by decide +kernel
theorem d_M_init_365 : decode b_M_init 365 = .ok (.dup, 1) := by decide +kernel
theorem d_M_init_366 : decode b_M_init 366 = .ok (.bipush 65, 2) := by decide +kernel
theorem d_M_init_368 : decode b_M_init 368 = .ok (.lconst 0, 1) := by decide +kernel
theorem d_M_init_369 : decode b_M_init 369 = .ok (.lastore, 1) := by decide +kernel
theorem d_M_init_370 : decode b_M_init 370 = .ok (.dup, 1) := by decide +kernel
theorem d_M_init_371 : decode b_M_init 371 = .ok (.bipush 66, 2) := by decide +kernel
theorem d_M_init_373 : decode b_M_init 373 = .ok (.lconst 0, 1) := by decide +kernel
theorem d_M_init_374 : decode b_M_init 374 = .ok (.lastore, 1) := by decide +kernel
theorem d_M_init_375 : decode b_M_init 375 = .ok (.dup, 1) := by decide +kernel
theorem d_M_init_376 : decode b_M_init 376 = .ok (.bipush 67, 2) := by decide +kernel
theorem d_M_init_378 : decode b_M_init 378 = .ok (.lconst 0, 1) := by decide +kernel
theorem d_M_init_379 : decode b_M_init 379 = .ok (.lastore, 1) := by decide +kernel
theorem d_M_init_380 : decode b_M_init 380 = .ok (.dup, 1) := by decide +kernel
theorem d_M_init_381 : decode b_M_init 381 = .ok (.bipush 68, 2) := by decide +kernel
theorem d_M_init_383 : decode b_M_init 383 = .ok (.ldc2_w 43, 3) := by decide +kernel
theorem d_M_init_386 : decode b_M_init 386 = .ok (.lastore, 1) := by decide +kernel
theorem d_M_init_387 : decode b_M_init 387 = .ok (.dup, 1) := by decide +kernel
theorem d_M_init_388 : decode b_M_init 388 = .ok (.bipush 69, 2) := by decide +kernel
theorem d_M_init_390 : decode b_M_init 390 = .ok (.lconst 0, 1) := by decide +kernel
theorem d_M_init_391 : decode b_M_init 391 = .ok (.lastore, 1) := by decide +kernel
theorem d_M_init_392 : decode b_M_init 392 = .ok (.dup, 1) := by decide +kernel
theorem d_M_init_393 : decode b_M_init 393 = .ok (.bipush 70, 2) := by decide +kernel
theorem d_M_init_395 : decode b_M_init 395 = .ok (.lconst 0, 1) := by decide +kernel
theorem d_M_init_396 : decode b_M_init 396 = .ok (.lastore, 1) := by decide +kernel
theorem d_M_init_397 : decode b_M_init 397 = .ok (.dup, 1) := by decide +kernel
theorem d_M_init_398 : decode b_M_init 398 = .ok (.bipush 71, 2) := by decide +kernel
theorem d_M_init_400 : decode b_M_init 400 = .ok (.lconst 0, 1) := by decide +kernel
theorem d_M_init_401 : decode b_M_init 401 = .ok (.lastore, 1) := by decide +kernel
theorem d_M_init_402 : decode b_M_init 402 = .ok (.dup, 1) := by decide +kernel
theorem d_M_init_403 : decode b_M_init 403 = .ok (.bipush 72, 2) := by decide +kernel
theorem d_M_init_405 : decode b_M_init 405 = .ok (.ldc2_w 45, 3) := by decide +kernel
theorem d_M_init_408 : decode b_M_init 408 = .ok (.lastore, 1) := by decide +kernel
theorem d_M_init_409 : decode b_M_init 409 = .ok (.dup, 1) := by decide +kernel
theorem d_M_init_410 : decode b_M_init 410 = .ok (.bipush 73, 2) := by decide +kernel
theorem d_M_init_412 : decode b_M_init 412 = .ok (.lconst 0, 1) := by decide +kernel
theorem d_M_init_413 : decode b_M_init 413 = .ok (.lastore, 1) := by decide +kernel
theorem d_M_init_414 : decode b_M_init 414 = .ok (.dup, 1) := by decide +kernel
theorem d_M_init_415 : decode b_M_init 415 = .ok (.bipush 74, 2) := by decide +kernel
theorem d_M_init_417 : decode b_M_init 417 = .ok (.lconst 0, 1) := by decide +kernel
theorem d_M_init_418 : decode b_M_init 418 = .ok (.lastore, 1) := by decide +kernel
theorem d_M_init_419 : decode b_M_init 419 = .ok (.dup, 1) := by decide +kernel
theorem d_M_init_420 : decode b_M_init 420 = .ok (.bipush 75, 2) := by decide +kernel
theorem d_M_init_422 : decode b_M_init 422 = .ok (.lconst 0, 1) := by decide +kernel
theorem d_M_init_423 : decode b_M_init 423 = .ok (.lastore, 1) := by decide +kernel
theorem d_M_init_424 : decode b_M_init 424 = .ok (.dup, 1) := by decide +kernel
theorem d_M_init_425 : decode b_M_init 425 = .ok (.bipush 76, 2) := by decide +kernel
theorem d_M_init_427 : decode b_M_init 427 = .ok (.ldc2_w 47, 3) := by decide +kernel
theorem d_M_init_430 : decode b_M_init 430 = .ok (.lastore, 1) := by decide +kernel
theorem d_M_init_431 : decode b_M_init 431 = .ok (.dup, 1) := by decide +kernel
theorem d_M_init_432 : decode b_M_init 432 = .ok (.bipush 77, 2) := by decide +kernel
theorem d_M_init_434 : decode b_M_init 434 = .ok (.lconst 0, 1) := by decide +kernel
theorem d_M_init_435 : decode b_M_init 435 = .ok (.lastore, 1) := by decide +kernel
theorem d_M_init_436 : decode b_M_init 436 = .ok (.dup, 1) := by decide +kernel
theorem d_M_init_437 : decode b_M_init 437 = .ok (.bipush 78, 2) := by decide +kernel
theorem d_M_init_439 : decode b_M_init 439 = .ok (.lconst 0, 1) := by decide +kernel
theorem d_M_init_440 : decode b_M_init 440 = .ok (.lastore, 1) := by decide +kernel
theorem d_M_init_441 : decode b_M_init 441 = .ok (.dup, 1) := by decide +kernel
theorem d_M_init_442 : decode b_M_init 442 = .ok (.bipush 79, 2) := by decide +kernel
theorem d_M_init_444 : decode b_M_init 444 = .ok (.lconst 0, 1) := by decide +kernel
theorem d_M_init_445 : decode b_M_init 445 = .ok (.lastore, 1) := by decide +kernel
theorem d_M_init_446 : decode b_M_init 446 = .ok (.dup, 1) := by decide +kernel
theorem d_M_init_447 : decode b_M_init 447 = .ok (.bipush 80, 2) := by decide +kernel
theorem d_M_init_449 : decode b_M_init 449 = .ok (.ldc2_w 49, 3) := by decide +kernel
theorem d_M_init_452 : decode b_M_init 452 = .ok (.lastore, 1) := by decide +kernel
theorem d_M_init_453 : decode b_M_init 453 = .ok (.dup, 1) := by decide +kernel
theorem d_M_init_454 : decode b_M_init 454 = .ok (.bipush 81, 2) := by decide +kernel
theorem d_M_init_456 : decode b_M_init 456 = .ok (.lconst 0, 1) := by decide +kernel
theorem d_M_init_457 : decode b_M_init 457 = .ok (.lastore, 1) := by decide +kernel
theorem d_M_init_458 : decode b_M_init 458 = .ok (.dup, 1) := by decide +kernel
theorem d_M_init_459 : decode b_M_init 459 = .ok (.bipush 82, 2) := by decide +kernel
theorem d_M_init_461 : decode b_M_init 461 = .ok (.lconst 0, 1) := by decide +kernel
theorem d_M_init_462 : decode b_M_init 462 = .ok (.lastore, 1) := by decide +kernel
theorem d_M_init_463 : decode b_M_init 463 = .ok (.dup, 1) := by decide +kernel
theorem d_M_init_464 : decode b_M_init 464 = .ok (.bipush 83, 2) := by decide +kernel
theorem d_M_init_466 : decode b_M_init 466 = .ok (.lconst 0, 1) := by decide +kernel
theorem d_M_init_467 : decode b_M_init 467 = .ok (.lastore, 1) := by decide +kernel
theorem d_M_init_468 : decode b_M_init 468 = .ok (.dup, 1) := by decide +kernel
theorem d_M_init_469 : decode b_M_init 469 = .ok (.bipush 84, 2) := by decide +kernel
theorem d_M_init_471 : decode b_M_init 471 = .ok (.ldc2_w 51, 3) := by decide +kernel
theorem d_M_init_474 : decode b_M_init 474 = .ok (.lastore, 1) := by decide +kernel
theorem d_M_init_475 : decode b_M_init 475 = .ok (.dup, 1) := by decide +kernel
theorem d_M_init_476 : decode b_M_init 476 = .ok (.bipush 85, 2) := by decide +kernel
theorem d_M_init_478 : decode b_M_init 478 = .ok (.lconst 0, 1) := by decide +kernel
theorem d_M_init_479 : decode b_M_init 479 = .ok (.lastore, 1) := by decide +kernel
theorem d_M_init_480 : decode b_M_init 480 = .ok (.dup, 1) := by decide +kernel
theorem d_M_init_481 : decode b_M_init 481 = .ok (.bipush 86, 2) := by decide +kernel
theorem d_M_init_483 : decode b_M_init 483 = .ok (.lconst 0, 1) := by decide +kernel
theorem d_M_init_484 : decode b_M_init 484 = .ok (.lastore, 1) := by decide +kernel
theorem d_M_init_485 : decode b_M_init 485 = .ok (.dup, 1) := by decide +kernel
theorem d_M_init_486 : decode b_M_init 486 = .ok (.bipush 87, 2) := by decide +kernel
theorem d_M_init_488 : decode b_M_init 488 = .ok (.lconst 0, 1) := by decide +kernel
theorem d_M_init_489 : decode b_M_init 489 = .ok (.lastore, 1) := by decide +kernel
theorem d_M_init_490 : decode b_M_init 490 = .ok (.dup, 1) := by decide +kernel
theorem d_M_init_491 : decode b_M_init 491 = .ok (.bipush 88, 2) := by decide +kernel
theorem d_M_init_493 : decode b_M_init 493 = .ok (.ldc2_w 53, 3) := by decide +kernel
theorem d_M_init_496 : decode b_M_init 496 = .ok (.lastore, 1) := by decide +kernel
theorem d_M_init_497 : decode b_M_init 497 = .ok (.dup, 1) := by decide +kernel
theorem d_M_init_498 : decode b_M_init 498 = .ok (.bipush 89, 2) := by decide +kernel
theorem d_M_init_500 : decode b_M_init 500 = .ok (.lconst 0, 1) := by decide +kernel
theorem d_M_init_501 : decode b_M_init 501 = .ok (.lastore, 1) := by decide +kernel
theorem d_M_init_502 : decode b_M_init 502 = .ok (.dup, 1) := by decide +kernel
theorem d_M_init_503 : decode b_M_init 503 = .ok (.bipush 90, 2) := by decide +kernel
theorem d_M_init_505 : decode b_M_init 505 = .ok (.lconst 0, 1) := by decide +kernel
theorem d_M_init_506 : decode b_M_init 506 = .ok (.lastore, 1) := by decide +kernel
theorem d_M_init_507 : decode b_M_init 507 = .ok (.dup, 1) := by decide +kernel
theorem d_M_init_508 : decode b_M_init 508 = .ok (.bipush 91, 2) := by decide +kernel
theorem d_M_init_510 : decode b_M_init 510 = .ok (.lconst 0, 1) := by decide +kernel
theorem d_M_init_511 : decode b_M_init 511 = .ok (.lastore, 1) := by decide +kernel
theorem d_M_init_512 : decode b_M_init 512 = .ok (.dup, 1) := by decide +kernel
theorem d_M_init_513 : decode b_M_init 513 = .ok (.bipush 92, 2) := by decide +kernel
theorem d_M_init_515 : decode b_M_init 515 = .ok (.ldc2_w 55, 3) := by decide +kernel
theorem d_M_init_518 : decode b_M_init 518 = .ok (.lastore, 1) := by decide +kernel
theorem d_M_init_519 : decode b_M_init 519 = .ok (.dup, 1) := by decide +kernel
theorem d_M_init_520 : decode b_M_init 520 = .ok (.bipush 93, 2) := by decide +kernel
theorem d_M_init_522 : decode b_M_init 522 = .ok (.lconst 0, 1) := by decide +kernel
theorem d_M_init_523 : decode b_M_init 523 = .ok (.lastore, 1) := by decide +kernel
theorem d_M_init_524 : decode b_M_init 524 = .ok (.dup, 1) := by decide +kernel
theorem d_M_init_525 : decode b_M_init 525 = .ok (.bipush 94, 2) := by decide +kernel
theorem d_M_init_527 : decode b_M_init 527 = .ok (.lconst 0, 1) := by decide +kernel
theorem d_M_init_528 : decode b_M_init 528 = .ok (.lastore, 1) := by decide +kernel
theorem d_M_init_529 : decode b_M_init 529 = .ok (.dup, 1) := by decide +kernel
theorem d_M_init_530 : decode b_M_init 530 = .ok (.bipush 95, 2) := by decide +kernel
theorem d_M_init_532 : decode b_M_init 532 = .ok (.lconst 0, 1) := by decide +kernel
theorem d_M_init_533 : decode b_M_init 533 = .ok (.lastore, 1) := by decide +kernel
theorem d_M_init_534 : decode b_M_init 534 = .ok (.dup, 1) := by decide +kernel
theorem d_M_init_535 : decode b_M_init 535 = .ok (.bipush 96, 2) := by decide +kernel
theorem d_M_init_537 : decode b_M_init 537 = .ok (.ldc2_w 57, 3) := by decide +kernel
theorem d_M_init_540 : decode b_M_init 540 = .ok (.lastore, 1) := by decide +kernel
theorem d_M_init_541 : decode b_M_init 541 = .ok (.dup, 1) := by decide +kernel
theorem d_M_init_542 : decode b_M_init 542 = .ok (.bipush 97, 2) := by decide +kernel
theorem d_M_init_544 : decode b_M_init 544 = .ok (.lconst 0, 1) := by decide +kernel
theorem d_M_init_545 : decode b_M_init 545 = .ok (.lastore, 1) := by decide +kernel
theorem d_M_init_546 : decode b_M_init 546 = .ok (.dup, 1) := by decide +kernel
theorem d_M_init_547 : decode b_M_init 547 = .ok (.bipush 98, 2) := by decide +kernel
theorem d_M_init_549 : decode b_M_init 549 = .ok (.lconst 0, 1) := by decide +kernel
theorem d_M_init_550 : decode b_M_init 550 = .ok (.lastore, 1) := by decide +kernel
theorem d_M_init_551 : decode b_M_init 551 = .ok (.dup, 1) := by decide +kernel
theorem d_M_init_552 : decode b_M_init 552 = .ok (.bipush 99, 2) := by decide +kernel
theorem d_M_init_554 : decode b_M_init 554 = .ok (.lconst 0, 1) := by decide +kernel
theorem d_M_init_555 : decode b_M_init 555 = .ok (.lastore, 1) := by decide +kernel
theorem d_M_init_556 : decode b_M_init 556 = .ok (.dup, 1) := by decide +kernel
theorem d_M_init_557 : decode b_M_init 557 = .ok (.bipush 100, 2) := by decide +kernel
theorem d_M_init_559 : decode b_M_init 559 = .ok (.ldc2_w 59, 3) := by decide +kernel
theorem d_M_init_562 : decode b_M_init 562 = .ok (.lastore, 1) := by decide +kernel
theorem d_M_init_563 : decode b_M_init 563 = .ok (.dup, 1) := by decide +kernel
theorem d_M_init_564 : decode b_M_init 564 = .ok (.bipush 101, 2) := by decide +kernel
theorem d_M_init_566 : decode b_M_init 566 = .ok (.lconst 0, 1) := by decide +kernel
theorem d_M_init_567 : decode b_M_init 567 = .ok (.lastore, 1) := by decide +kernel
theorem d_M_init_568 : decode b_M_init 568 = .ok (.dup, 1) := by decide +kernel
theorem d_M_init_569 : decode b_M_init 569 = .ok (.bipush 102, 2) := by decide +kernel
theorem d_M_init_571 : decode b_M_init 571 = .ok (.lconst 0, 1) := by decide +kernel
theorem d_M_init_572 : decode b_M_init 572 = .ok (.lastore, 1) := by decide +kernel
theorem d_M_init_573 : decode b_M_init 573 = .ok (.dup, 1) := by decide +kernel
theorem d_M_init_574 : decode b_M_init 574 = .ok (.bipush 103, 2) := by decide +kernel
theorem d_M_init_576 : decode b_M_init 576 = .ok (.lconst 0, 1) := by decide +kernel
theorem d_M_init_577 : decode b_M_init 577 = .ok (.lastore, 1) := by decide +kernel
theorem d_M_init_578 : decode b_M_init 578 = .ok (.dup, 1) := by decide +kernel
theorem d_M_init_579 : decode b_M_init 579 = .ok (.bipush 104, 2) := by decide +kernel
theorem d_M_init_581 : decode b_M_init 581 = .ok (.ldc2_w 61, 3) := by decide +kernel
theorem d_M_init_584 : decode b_M_init 584 = .ok (.lastore, 1) := by decide +kernel
theorem d_M_init_585 : decode b_M_init 585 = .ok (.dup, 1) := by decide +kernel
theorem d_M_init_586 : decode b_M_init 586 = .ok (.bipush 105, 2) := by decide +kernel
theorem d_M_init_588 : decode b_M_init 588 = .ok (.lconst 0, 1) := by decide +kernel
theorem d_M_init_589 : decode b_M_init 589 = .ok (.lastore, 1) := by decide +kernel
theorem d_M_init_590 : decode b_M_init 590 = .ok (.dup, 1) := by decide +kernel
theorem d_M_init_591 : decode b_M_init 591 = .ok (.bipush 106, 2) := by decide +kernel
theorem d_M_init_593 : decode b_M_init 593 = .ok (.lconst 0, 1) := by decide +kernel
theorem d_M_init_594 : decode b_M_init 594 = .ok (.lastore, 1) := by decide +kernel
theorem d_M_init_595 : decode b_M_init 595 = .ok (.dup, 1) := by decide +kernel
theorem d_M_init_596 : decode b_M_init 596 = .ok (.bipush 107, 2) := by decide +kernel
theorem d_M_init_598 : decode b_M_init 598 = .ok (.lconst 0, 1) := by decide +kernel
theorem d_M_init_599 : decode b_M_init 599 = .ok (.lastore, 1) := by decide +kernel
theorem d_M_init_600 : decode b_M_init 600 = .ok (.dup, 1) := by decide +kernel
theorem d_M_init_601 : decode b_M_init 601 = .ok (.bipush 108, 2) := by decide +kernel
theorem d_M_init_603 : decode b_M_init 603 = .ok (.ldc2_w 63, 3) := by decide +kernel
theorem d_M_init_606 : decode b_M_init 606 = .ok (.lastore, 1) := by decide +kernel
theorem d_M_init_607 : decode b_M_init 607 = .ok (.dup, 1) := by decide +kernel
theorem d_M_init_608 : decode b_M_init 608 = .ok (.bipush 109, 2) := by decide +kernel
theorem d_M_init_610 : decode b_M_init 610 = .ok (.lconst 0, 1) := by decide +kernel
theorem d_M_init_611 : decode b_M_init 611 = .ok (.lastore, 1) := by decide +kernel
theorem d_M_init_612 : decode b_M_init 612 = .ok (.dup, 1) := by decide +kernel
theorem d_M_init_613 : decode b_M_init 613 = .ok (.bipush 110, 2) := by decide +kernel
theorem d_M_init_615 : decode b_M_init 615 = .ok (.lconst 0, 1) := by decide +kernel
theorem d_M_init_616 : decode b_M_init 616 = .ok (.lastore, 1) := by decide +kernel
theorem d_M_init_617 : decode b_M_init 617 = .ok (.dup, 1) := by decide +kernel
theorem d_M_init_618 : decode b_M_init 618 = .ok (.bipush 111, 2) := by decide +kernel
theorem d_M_init_620 : decode b_M_init 620 = .ok (.lconst 0, 1) := by decide +kernel
theorem d_M_init_621 : decode b_M_init 621 = .ok (.lastore, 1) := by decide +kernel
theorem d_M_init_622 : decode b_M_init 622 = .ok (.dup, 1) := by decide +kernel
theorem d_M_init_623 : decode b_M_init 623 = .ok (.bipush 112, 2) := by decide +kernel
theorem d_M_init_625 : decode b_M_init 625 = .ok (.ldc2_w 65, 3) := by decide +kernel
theorem d_M_init_628 : decode b_M_init 628 = .ok (.lastore, 1) := by decide +kernel
theorem d_M_init_629 : decode b_M_init 629 = .ok (.dup, 1) := by decide +kernel
theorem d_M_init_630 : decode b_M_init 630 = .ok (.bipush 113, 2) := by decide +kernel
theorem d_M_init_632 : decode b_M_init 632 = .ok (.lconst 0, 1) := by decide +kernel
theorem d_M_init_633 : decode b_M_init 633 = .ok (.lastore, 1) := by decide +kernel
theorem d_M_init_634 : decode b_M_init 634 = .ok (.dup, 1) := by decide +kernel
theorem d_M_init_635 : decode b_M_init 635 = .ok (.bipush 114, 2) := by decide +kernel
theorem d_M_init_637 : decode b_M_init 637 = .ok (.lconst 0, 1) := by decide +kernel
theorem d_M_init_638 : decode b_M_init 638 = .ok (.lastore, 1) := by decide +kernel
theorem d_M_init_639 : decode b_M_init 639 = .ok (.dup, 1) := by decide +kernel
theorem d_M_init_640 : decode b_M_init 640 = .ok (.bipush 115, 2) := by decide +kernel
theorem d_M_init_642 : decode b_M_init 642 = .ok (.lconst 0, 1) := by decide +kernel
theorem d_M_init_643 : decode b_M_init 643 = .ok (.lastore, 1) := by decide +kernel
theorem d_M_init_644 : decode b_M_init 644 = .ok (.dup, 1) := by decide +kernel
theorem d_M_init_645 : decode b_M_init 645 = .ok (.bipush 116, 2) := by decide +kernel
theorem d_M_init_647 : decode b_M_init 647 = .ok (.ldc2_w 67, 3) := by decide +kernel
theorem d_M_init_650 : decode b_M_init 650 = .ok (.lastore, 1) := by decide +kernel
theorem d_M_init_651 : decode b_M_init 651 = .ok (.dup, 1) := by decide +kernel
theorem d_M_init_652 : decode b_M_init 652 = .ok (.bipush 117, 2) := by decide +kernel
theorem d_M_init_654 : decode b_M_init 654 = .ok (.ldc2_w 69, 3) := by decide +kernel
theorem d_M_init_657 : decode b_M_init 657 = .ok (.lastore, 1) := by decide +kernel
theorem d_M_init_658 : decode b_M_init 658 = .ok (.dup, 1) := by decide +kernel
theorem d_M_init_659 : decode b_M_init 659 = .ok (.bipush 118, 2) := by decide +kernel
theorem d_M_init_661 : decode b_M_init 661 = .ok (.lconst 0, 1) := by decide +kernel
theorem d_M_init_662 : decode b_M_init 662 = .ok (.lastore, 1) := by decide +kernel
theorem d_M_init_663 : decode b_M_init 663 = .ok (.dup, 1) := by decide +kernel
theorem d_M_init_664 : decode b_M_init 664 = .ok (.bipush 119, 2) := by decide +kernel
theorem d_M_init_666 : decode b_M_init 666 = .ok (.lconst 0, 1) := by decide +kernel
theorem d_M_init_667 : decode b_M_init 667 = .ok (.lastore, 1) := by decide +kernel
theorem d_M_init_668 : decode b_M_init 668 = .ok (.dup, 1) := by decide +kernel
theorem d_M_init_669 : decode b_M_init 669 = .ok (.bipush 120, 2) := by decide +kernel
theorem d_M_init_671 : decode b_M_init 671 = .ok (.ldc2_w 71, 3) := by decide +kernel
theorem d_M_init_674 : decode b_M_init 674 = .ok (.lastore, 1) := by decide +kernel
theorem d_M_init_675 : decode b_M_init 675 = .ok (.dup, 1) := by decide +kernel
theorem d_M_init_676 : decode b_M_init 676 = .ok (.bipush 121, 2) := by decide +kernel
theorem d_M_init_678 : decode b_M_init 678 = .ok (.lconst 0, 1) := by decide +kernel
theorem d_M_init_679 : decode b_M_init 679 = .ok (.lastore, 1) := by decide +kernel
theorem d_M_init_680 : decode b_M_init 680 = .ok (.dup, 1) := by decide +kernel
theorem d_M_init_681 : decode b_M_init 681 = .ok (.bipush 122, 2) := by decide +kernel
theorem d_M_init_683 : decode b_M_init 683 = .ok (.lconst 0, 1) := by decide +kernel
theorem d_M_init_684 : decode b_M_init 684 = .ok (.lastore, 1) := by decide +kernel
theorem d_M_init_685 : decode b_M_init 685 = .ok (.dup, 1) := by decide +kernel
theorem d_M_init_686 : decode b_M_init 686 = .ok (.bipush 123, 2) := by decide +kernel
theorem d_M_init_688 : decode b_M_init 688 = .ok (.lconst 0, 1) := by decide +kernel
theorem d_M_init_689 : decode b_M_init 689 = .ok (.lastore, 1) := by decide +kernel
theorem d_M_init_690 : decode b_M_init 690 = .ok (.dup, 1) := by decide +kernel
theorem d_M_init_691 : decode b_M_init 691 = .ok (.bipush 124, 2) := by decide +kernel
theorem d_M_init_693 : decode b_M_init 693 = .ok (.ldc2_w 73, 3) := by decide +kernel
theorem d_M_init_696 : decode b_M_init 696 = .ok (.lastore, 1) := by decide +kernel
theorem d_M_init_697 : decode b_M_init 697 = .ok (.dup, 1) := by decide +kernel
theorem d_M_init_698 : decode b_M_init 698 = .ok (.bipush 125, 2) := by decide +kernel
theorem d_M_init_700 : decode b_M_init 700 = .ok (.lconst 0, 1) := by decide +kernel
theorem d_M_init_701 : decode b_M_init 701 = .ok (.lastore, 1) := by decide +kernel
theorem d_M_init_702 : decode b_M_init 702 = .ok (.dup, 1) := by decide +kernel
theorem d_M_init_703 : decode b_M_init 703 = .ok (.bipush 126, 2) := by decide +kernel
theorem d_M_init_705 : decode b_M_init 705 = .ok (.lconst 0, 1) := by decide +kernel
theorem d_M_init_706 : decode b_M_init 706 = .ok (.lastore, 1) := by decide +kernel
theorem d_M_init_707 : decode b_M_init 707 = .ok (.dup, 1) := by decide +kernel
theorem d_M_init_708 : decode b_M_init 708 = .ok (.bipush 127, 2) := by decide +kernel
theorem d_M_init_710 : decode b_M_init 710 = .ok (.lconst 0, 1) := by decide +kernel
theorem d_M_init_711 : decode b_M_init 711 = .ok (.lastore, 1) := by decide +kernel
theorem d_M_init_712 : decode b_M_init 712 = .ok (.dup, 1) := by decide +kernel
theorem d_M_init_713 : decode b_M_init 713 = .ok (.sipush 128, 3) := by decide +kernel
theorem d_M_init_716 : decode b_M_init 716 = .ok (.ldc2_w 75, 3) := by decide +kernel
theorem d_M_init_719 : decode b_M_init 719 = .ok (.lastore, 1) := by decide +kernel
theorem d_M_init_720 : decode b_M_init 720 = .ok (.dup, 1) := by decide +kernel
theorem d_M_init_721 : decode b_M_init 721 = .ok (.sipush 129, 3) := by decide +kernel
theorem d_M_init_724 : decode b_M_init 724 = .ok (.lconst 0, 1) := by decide +kernel
theorem d_M_init_725 : decode b_M_init 725 = .ok (.lastore, 1) := by decide +kernel
theorem d_M_init_726 : decode b_M_init 726 = .ok (.dup, 1) := by decide +kernel
theorem d_M_init_727 : decode b_M_init 727 = .ok (.sipush 130, 3) := by decide +kernel
theorem d_M_init_730 : decode b_M_init 730 = .ok (.lconst 0, 1) := by decide +kernel
theorem d_M_init_731 : decode b_M_init 731 = .ok (.lastore, 1) := by decide +kernel
theorem d_M_init_732 : decode b_M_init 732 = .ok (.dup, 1) := by decide +kernel
theorem d_M_init_733 : decode b_M_init 733 = .ok (.sipush 131, 3) := by decide +kernel
theorem d_M_init_736 : decode b_M_init 736 = .ok (.lconst 0, 1) := by decide +kernel
theorem d_M_init_737 : decode b_M_init 737 = .ok (.lastore, 1) := by decide +kernel
theorem d_M_init_738 : decode b_M_init 738 = .ok (.dup, 1) := by decide +kernel
theorem d_M_init_739 : decode b_M_init 739 = .ok (.sipush 132, 3) := by decide +kernel
theorem d_M_init_742 : decode b_M_init 742 = .ok (.ldc2_w 77, 3) := by decide +kernel
theorem d_M_init_745 : decode b_M_init 745 = .ok (.lastore, 1) := by decide +kernel
theorem d_M_init_746 : decode b_M_init 746 = .ok (.dup, 1) := by decide +kernel
theorem d_M_init_747 : decode b_M_init 747 = .ok (.sipush 133, 3) := by decide +kernel
theorem d_M_init_750 : decode b_M_init 750 = .ok (.lconst 0, 1) := by decide +kernel
theorem d_M_init_751 : decode b_M_init 751 = .ok (.lastore, 1) := by decide +kernel
theorem d_M_init_752 : decode b_M_init 752 = .ok (.dup, 1) := by decide +kernel
theorem d_M_init_753 : decode b_M_init 753 = .ok (.sipush 134, 3) := by decide +kernel
theorem d_M_init_756 : decode b_M_init 756 = .ok (.lconst 0, 1) := by decide +kernel
theorem d_M_init_757 : decode b_M_init 757 = .ok (.lastore, 1) := by decide +kernel
theorem d_M_init_758 : decode b_M_init 758 = .ok (.dup, 1) := by decide +kernel
theorem d_M_init_759 : decode b_M_init 759 = .ok (.sipush 135, 3) := by decide +kernel
theorem d_M_init_762 : decode b_M_init 762 = .ok (.lconst 0, 1) := by decide +kernel
theorem d_M_init_763 : decode b_M_init 763 = .ok (.lastore, 1) := by decide +kernel
theorem d_M_init_764 : decode b_M_init 764 = .ok (.dup, 1) := by decide +kernel
theorem d_M_init_765 : decode b_M_init 765 = .ok (.sipush 136, 3) := by decide +kernel
theorem d_M_init_768 : decode b_M_init 768 = .ok (.ldc2_w 79, 3) := by decide +kernel
theorem d_M_init_771 : decode b_M_init 771 = .ok (.lastore, 1) := by decide +kernel
theorem d_M_init_772 : decode b_M_init 772 = .ok (.dup, 1) := by decide +kernel
theorem d_M_init_773 : decode b_M_init 773 = .ok (.sipush 137, 3) := by decide +kernel
theorem d_M_init_776 : decode b_M_init 776 = .ok (.lconst 0, 1) := by decide +kernel
theorem d_M_init_777 : decode b_M_init 777 = .ok (.lastore, 1) := by decide +kernel
theorem d_M_init_778 : decode b_M_init 778 = .ok (.dup, 1) := by decide +kernel
theorem d_M_init_779 : decode b_M_init 779 = .ok (.sipush 138, 3) := by decide +kernel
theorem d_M_init_782 : decode b_M_init 782 = .ok (.lconst 0, 1) := by decide +kernel
theorem d_M_init_783 : decode b_M_init 783 = .ok (.lastore, 1) := by decide +kernel
theorem d_M_init_784 : decode b_M_init 784 = .ok (.dup, 1) := by decide +kernel
theorem d_M_init_785 : decode b_M_init 785 = .ok (.sipush 139, 3) := by decide +kernel
theorem d_M_init_788 : decode b_M_init 788 = .ok (.lconst 0, 1) := by decide +kernel
theorem d_M_init_789 : decode b_M_init 789 = .ok (.lastore, 1) := by decide +kernel
theorem d_M_init_790 : decode b_M_init 790 = .ok (.dup, 1) := by decide +kernel
theorem d_M_init_791 : decode b_M_init 791 = .ok (.sipush 140, 3) := by decide +kernel
theorem d_M_init_794 : decode b_M_init 794 = .ok (.ldc2_w 81, 3) := by decide +kernel
theorem d_M_init_797 : decode b_M_init 797 = .ok (.lastore, 1) := by decide +kernel
theorem d_M_init_798 : decode b_M_init 798 = .ok (.dup, 1) := by decide +kernel
theorem d_M_init_799 : decode b_M_init 799 = .ok (.sipush 141, 3) := by decide +kernel
theorem d_M_init_802 : decode b_M_init 802 = .ok (.lconst 0, 1) := by decide +kernel
theorem d_M_init_803 : decode b_M_init 803 = .ok (.lastore, 1) := by decide +kernel
theorem d_M_init_804 : decode b_M_init 804 = .ok (.dup, 1) := by decide +kernel
theorem d_M_init_805 : decode b_M_init 805 = .ok (.sipush 142, 3) := by decide +kernel
theorem d_M_init_808 : decode b_M_init 808 = .ok (.lconst 0, 1) := by decide +kernel
theorem d_M_init_809 : decode b_M_init 809 = .ok (.lastore, 1) := by decide +kernel
theorem d_M_init_810 : decode b_M_init 810 = .ok (.dup, 1) := by decide +kernel
theorem d_M_init_811 : decode b_M_init 811 = .ok (.sipush 143, 3) := by decide +kernel
theorem d_M_init_814 : decode b_M_init 814 = .ok (.lconst 0, 1) := by decide +kernel
theorem d_M_init_815 : decode b_M_init 815 = .ok (.lastore, 1) := by decide +kernel
theorem d_M_init_816 : decode b_M_init 816 = .ok (.dup, 1) := by decide +kernel
theorem d_M_init_817 : decode b_M_init 817 = .ok (.sipush 144, 3) := by decide +kernel
theorem d_M_init_820 : decode b_M_init 820 = .ok (.ldc2_w 83, 3) := by decide +kernel
theorem d_M_init_823 : decode b_M_init 823 = .ok (.lastore, 1) := by decide +kernel
theorem d_M_init_824 : decode b_M_init 824 = .ok (.dup, 1) := by decide +kernel
theorem d_M_init_825 : decode b_M_init 825 = .ok (.sipush 145, 3) := by decide +kernel
theorem d_M_init_828 : decode b_M_init 828 = .ok (.lconst 0, 1) := by decide +kernel
theorem d_M_init_829 : decode b_M_init 829 = .ok (.lastore, 1) := by decide +kernel
theorem d_M_init_830 : decode b_M_init 830 = .ok (.dup, 1) := by decide +kernel
theorem d_M_init_831 : decode b_M_init 831 = .ok (.sipush 146, 3) := by decide +kernel
theorem d_M_init_834 : decode b_M_init 834 = .ok (.lconst 0, 1) := by decide +kernel
theorem d_M_init_835 : decode b_M_init 835 = .ok (.lastore, 1) := by decide +kernel
theorem d_M_init_836 : decode b_M_init 836 = .ok (.dup, 1) := by decide +kernel
theorem d_M_init_837 : decode b_M_init 837 = .ok (.sipush 147, 3) := by decide +kernel
theorem d_M_init_840 : decode b_M_init 840 = .ok (.lconst 0, 1) := by decide +kernel
theorem d_M_init_841 : decode b_M_init 841 = .ok (.lastore, 1) := by decide +kernel
theorem d_M_init_842 : decode b_M_init 842 = .ok (.dup, 1) := by decide +kernel
theorem d_M_init_843 : decode b_M_init 843 = .ok (.sipush 148, 3) := by decide +kernel
theorem d_M_init_846 : decode b_M_init 846 = .ok (.ldc2_w 85, 3) := by decide +kernel
theorem d_M_init_849 : decode b_M_init 849 = .ok (.lastore, 1) := by decide +kernel
theorem d_M_init_850 : decode b_M_init 850 = .ok (.dup, 1) := by decide +kernel
theorem d_M_init_851 : decode b_M_init 851 = .ok (.sipush 149, 3) := by decide +kernel
theorem d_M_init_854 : decode b_M_init 854 = .ok (.lconst 0, 1) := by decide +kernel
theorem d_M_init_855 : decode b_M_init 855 = .ok (.lastore, 1) := by decide +kernel
theorem d_M_init_856 : decode b_M_init 856 = .ok (.dup, 1) := by decide +kernel
theorem d_M_init_857 : decode b_M_init 857 = .ok (.sipush 150, 3) := by decide +kernel
theorem d_M_init_860 : decode b_M_init 860 = .ok (.lconst 0, 1) := by decide +kernel
theorem d_M_init_861 : decode b_M_init 861 = .ok (.lastore, 1) := by decide +kernel
theorem d_M_init_862 : decode b_M_init 862 = .ok (.dup, 1) := by decide +kernel
theorem d_M_init_863 : decode b_M_init 863 = .ok (.sipush 151, 3) := by decide +kernel
theorem d_M_init_866 : decode b_M_init 866 = .ok (.lconst 0, 1) := by decide +kernel
theorem d_M_init_867 : decode b_M_init 867 = .ok (.lastore, 1) := by decide +kernel
theorem d_M_init_868 : decode b_M_init 868 = .ok (.dup, 1) := by decide +kernel
theorem d_M_init_869 : decode b_M_init 869 = .ok (.sipush 152, 3) := by decide +kernel
theorem d_M_init_872 : decode b_M_init 872 = .ok (.ldc2_w 87, 3) := by decide +kernel
theorem d_M_init_875 : decode b_M_init 875 = .ok (.lastore, 1) := by decide +kernel
theorem d_M_init_876 : decode b_M_init 876 = .ok (.dup, 1) := by decide +kernel
theorem d_M_init_877 : decode b_M_init 877 = .ok (.sipush 153, 3) := by decide +kernel
theorem d_M_init_880 : decode b_M_init 880 = .ok (.ldc2_w 89, 3) := by decide +kernel
theorem d_M_init_883 : decode b_M_init 883 = .ok (.lastore, 1) := by decide +kernel
theorem d_M_init_884 : decode b_M_init 884 = .ok (.dup, 1) := by decide +kernel
theorem d_M_init_885 : decode b_M_init 885 = .ok (.sipush 154, 3) := by decide +kernel
theorem d_M_init_888 : decode b_M_init 888 = .ok (.lconst 0, 1) := by decide +kernel
theorem d_M_init_889 : decode b_M_init 889 = .ok (.lastore, 1) := by decide +kernel
theorem d_M_init_890 : decode b_M_init 890 = .ok (.dup, 1) := by decide +kernel
theorem d_M_init_891 : decode b_M_init 891 = .ok (.sipush 155, 3) := by decide +kernel
theorem d_M_init_894 : decode b_M_init 894 = .ok (.lconst 0, 1) := by decide +kernel
theorem d_M_init_895 : decode b_M_init 895 = .ok (.lastore, 1) := by decide +kernel
theorem d_M_init_896 : decode b_M_init 896 = .ok (.dup, 1) := by decide +kernel
theorem d_M_init_897 : decode b_M_init 897 = .ok (.sipush 156, 3) := by decide +kernel
theorem d_M_init_900 : decode b_M_init 900 = .ok (.ldc2_w 91, 3) := by decide +kernel
theorem d_M_init_903 : decode b_M_init 903 = .ok (.lastore, 1) := by decide +kernel
theorem d_M_init_904 : decode b_M_init 904 = .ok (.dup, 1) := by decide +kernel
theorem d_M_init_905 : decode b_M_init 905 = .ok (.sipush 157, 3) := by decide +kernel
theorem d_M_init_908 : decode b_M_init 908 = .ok (.lconst 0, 1) := by decide +kernel
theorem d_M_init_909 : decode b_M_init 909 = .ok (.lastore, 1) := by decide +kernel
theorem d_M_init_910 : decode b_M_init 910 = .ok (.dup, 1) := by decide +kernel
theorem d_M_init_911 : decode b_M_init 911 = .ok (.sipush 158, 3) := by decide +kernel
theorem d_M_init_914 : decode b_M_init 914 = .ok (.lconst 0, 1) := by decide +kernel
theorem d_M_init_915 : decode b_M_init 915 = .ok (.lastore, 1) := by decide +kernel
theorem d_M_init_916 : decode b_M_init 916 = .ok (.dup, 1) := by decide +kernel
theorem d_M_init_917 : decode b_M_init 917 = .ok (.sipush 159, 3) := by decide +kernel
theorem d_M_init_920 : decode b_M_init 920 = .ok (.lconst 0, 1) := by decide +kernel
theorem d_M_init_921 : decode b_M_init 921 = .ok (.lastore, 1) := by decide +kernel
theorem d_M_init_922 : decode b_M_init 922 = .ok (.dup, 1) := by decide +kernel
theorem d_M_init_923 : decode b_M_init 923 = .ok (.sipush 160, 3) := by decide +kernel
theorem d_M_init_926 : decode b_M_init 926 = .ok (.ldc2_w 93, 3) := by decide +kernel
theorem d_M_init_929 : decode b_M_init 929 = .ok (.lastore, 1) := by decide +kernel
theorem d_M_init_930 : decode b_M_init 930 = .ok (.dup, 1) := by decide +kernel
theorem d_M_init_931 : decode b_M_init 931 = .ok (.sipush 161, 3) := by decide +kernel
theorem d_M_init_934 : decode b_M_init 934 = .ok (.ldc2_w 95, 3) := by decide +kernel
theorem d_M_init_937 : decode b_M_init 937 = .ok (.lastore, 1) := by decide +kernel
theorem d_M_init_938 : decode b_M_init 938 = .ok (.dup, 1) := by decide +kernel
theorem d_M_init_939 : decode b_M_init 939 = .ok (.sipush 162, 3) := by decide +kernel
theorem d_M_init_942 : decode b_M_init 942 = .ok (.lconst 0, 1) := by decide +kernel
theorem d_M_init_943 : decode b_M_init 943 = .ok (.lastore, 1) := by decide +kernel
theorem d_M_init_944 : decode b_M_init 944 = .ok (.dup, 1) := by decide +kernel
theorem d_M_init_945 : decode b_M_init 945 = .ok (.sipush 163, 3) := by decide +kernel
theorem d_M_init_948 : decode b_M_init 948 = .ok (.lconst 0, 1) := by decide +kernel
theorem d_M_init_949 : decode b_M_init 949 = .ok (.lastore, 1) := by decide +kernel
theorem d_M_init_950 : decode b_M_init 950 = .ok (.dup, 1) := by decide +kernel
theorem d_M_init_951 : decode b_M_init 951 = .ok (.sipush 164, 3) := by decide +kernel
theorem d_M_init_954 : decode b_M_init 954 = .ok (.ldc2_w 97, 3) := by decide +kernel
theorem d_M_init_957 : decode b_M_init 957 = .ok (.lastore, 1) := by decide +kernel
theorem d_M_init_958 : decode b_M_init 958 = .ok (.dup, 1) := by decide +kernel
theorem d_M_init_959 : decode b_M_init 959 = .ok (.sipush 165, 3) := by decide +kernel
theorem d_M_init_962 : decode b_M_init 962 = .ok (.lconst 0, 1) := by decide +kernel
theorem d_M_init_963 : decode b_M_init 963 = .ok (.lastore, 1) := by decide +kernel
theorem d_M_init_964 : decode b_M_init 964 = .ok (.dup, 1) := by decide +kernel
theorem d_M_init_965 : decode b_M_init 965 = .ok (.sipush 166, 3) := by decide +kernel
theorem d_M_init_968 : decode b_M_init 968 = .ok (.lconst 0, 1) := by decide +kernel
theorem d_M_init_969 : decode b_M_init 969 = .ok (.lastore, 1) := by decide +kernel
theorem d_M_init_970 : decode b_M_init 970 = .ok (.dup, 1) := by decide +kernel
theorem d_M_init_971 : decode b_M_init 971 = .ok (.sipush 167, 3) := by decide +kernel
theorem d_M_init_974 : decode b_M_init 974 = .ok (.lconst 0, 1) := by decide +kernel
theorem d_M_init_975 : decode b_M_init 975 = .ok (.lastore, 1) := by decide +kernel
theorem d_M_init_976 : decode b_M_init 976 = .ok (.dup, 1) := by decide +kernel
theorem d_M_init_977 : decode b_M_init 977 = .ok (.sipush 168, 3) := by decide +kernel
theorem d_M_init_980 : decode b_M_init 980 = .ok (.ldc2_w 99, 3) := by decide +kernel
theorem d_M_init_983 : decode b_M_init 983 = .ok (.lastore, 1) := by decide +kernel
theorem d_M_init_984 : decode b_M_init 984 = .ok (.dup, 1) := by decide +kernel
theorem d_M_init_985 : decode b_M_init 985 = .ok (.sipush 169, 3) := by decide +kernel
theorem d_M_init_988 : decode b_M_init 988 = .ok (.lconst 0, 1) := by decide +kernel
theorem d_M_init_989 : decode b_M_init 989 = .ok (.lastore, 1) := by decide +kernel
theorem d_M_init_990 : decode b_M_init 990 = .ok (.dup, 1) := by decide +kernel
theorem d_M_init_991 : decode b_M_init 991 = .ok (.sipush 170, 3) := by decide +kernel
theorem d_M_init_994 : decode b_M_init 994 = .ok (.lconst 0, 1) := by decide +kernel
theorem d_M_init_995 : decode b_M_init 995 = .ok (.lastore, 1) := by decide +kernel
theorem d_M_init_996 : decode b_M_init 996 = .ok (.dup, 1) := by decide +kernel
theorem d_M_init_997 : decode b_M_init 997 = .ok (.sipush 171, 3) := by decide +kernel
theorem d_M_init_1000 : decode b_M_init 1000 = .ok (.lconst 0, 1) := by decide +kernel
theorem d_M_init_1001 : decode b_M_init 1001 = .ok (.lastore, 1) := by decide +kernel
theorem d_M_init_1002 : decode b_M_init 1002 = .ok (.dup, 1) := by decide +kernel
theorem d_M_init_1003 : decode b_M_init 1003 = .ok (.sipush 172, 3) := by decide +kernel
theorem d_M_init_1006 : decode b_M_init 1006 = .ok (.ldc2_w 101, 3) := by decide +kernel
theorem d_M_init_1009 : decode b_M_init 1009 = .ok (.lastore, 1) := by decide +kernel
theorem d_M_init_1010 : decode b_M_init 1010 = .ok (.dup, 1) := by decide +kernel
theorem d_M_init_1011 : decode b_M_init 1011 = .ok (.sipush 173, 3) := by decide +kernel
theorem d_M_init_1014 : decode b_M_init 1014 = .ok (.lconst 0, 1) := by decide +kernel
theorem d_M_init_1015 : decode b_M_init 1015 = .ok (.lastore, 1) := by decide +kernel
theorem d_M_init_1016 : decode b_M_init 1016 = .ok (.dup, 1) := by decide +kernel
theorem d_M_init_1017 : decode b_M_init 1017 = .ok (.sipush 174, 3) := by decide +kernel
theorem d_M_init_1020 : decode b_M_init 1020 = .ok (.lconst 0, 1) := by decide +kernel
theorem d_M_init_1021 : decode b_M_init 1021 = .ok (.lastore, 1) := by decide +kernel
theorem d_M_init_1022 : decode b_M_init 1022 = .ok (.dup, 1) := by decide +kernel
theorem d_M_init_1023 : decode b_M_init 1023 = .ok (.sipush 175, 3) := by decide +kernel
theorem d_M_init_1026 : decode b_M_init 1026 = .ok (.lconst 0, 1) := by decide +kernel
theorem d_M_init_1027 : decode b_M_init 1027 = .ok (.lastore, 1) := by decide +kernel
theorem d_M_init_1028 : decode b_M_init 1028 = .ok (.dup, 1) := by decide +kernel
theorem d_M_init_1029 : decode b_M_init 1029 = .ok (.sipush 176, 3) := by decide +kernel
theorem d_M_init_1032 : decode b_M_init 1032 = .ok (.ldc2_w 103, 3) := by decide +kernel
theorem d_M_init_1035 : decode b_M_init 1035 = .ok (.lastore, 1) := by decide +kernel
theorem d_M_init_1036 : decode b_M_init 1036 = .ok (.dup, 1) := by decide +kernel
theorem d_M_init_1037 : decode b_M_init 1037 = .ok (.sipush 177, 3) := by decide +kernel
theorem d_M_init_1040 : decode b_M_init 1040 = .ok (.lconst 0, 1) := by decide +kernel
theorem d_M_init_1041 : decode b_M_init 1041 = .ok (.lastore, 1) := by decide +kernel
theorem d_M_init_1042 : decode b_M_init 1042 = .ok (.dup, 1) := by decide +kernel
theorem d_M_init_1043 : decode b_M_init 1043 = .ok (.sipush 178, 3) := by decide +kernel
theorem d_M_init_1046 : decode b_M_init 1046 = .ok (.lconst 0, 1) := by decide +kernel
theorem d_M_init_1047 : decode b_M_init 1047 = .ok (.lastore, 1) := by decide +kernel
theorem d_M_init_1048 : decode b_M_init 1048 = .ok (.dup, 1) := by decide +kernel
theorem d_M_init_1049 : decode b_M_init 1049 = .ok (.sipush 179, 3) := by decide +kernel
theorem d_M_init_1052 : decode b_M_init 1052 = .ok (.lconst 0, 1) := by decide +kernel
theorem d_M_init_1053 : decode b_M_init 1053 = .ok (.lastore, 1) := by decide +kernel
theorem d_M_init_1054 : decode b_M_init 1054 = .ok (.dup, 1) := by decide +kernel
theorem d_M_init_1055 : decode b_M_init 1055 = .ok (.sipush 180, 3) := by decide +kernel
theorem d_M_init_1058 : decode b_M_init 1058 = .ok (.ldc2_w 105, 3) := by decide +kernel
theorem d_M_init_1061 : decode b_M_init 1061 = .ok (.lastore, 1) := by decide +kernel
theorem d_M_init_1062 : decode b_M_init 1062 = .ok (.dup, 1) := by decide +kernel
theorem d_M_init_1063 : decode b_M_init 1063 = .ok (.sipush 181, 3) := by decide +kernel
theorem d_M_init_1066 : decode b_M_init 1066 = .ok (.lconst 0, 1) := by decide +kernel
theorem d_M_init_1067 : decode b_M_init 1067 = .ok (.lastore, 1) := by decide +kernel
theorem d_M_init_1068 : decode b_M_init 1068 = .ok (.dup, 1) := by decide +kernel
theorem d_M_init_1069 : decode b_M_init 1069 = .ok (.sipush 182, 3) := by decide +kernel
theorem d_M_init_1072 : decode b_M_init 1072 = .ok (.lconst 0, 1) := by decide +kernel
theorem d_M_init_1073 : decode b_M_init 1073 = .ok (.lastore, 1) := by decide +kernel
theorem d_M_init_1074 : decode b_M_init 1074 = .ok (.dup, 1) := by decide +kernel
theorem d_M_init_1075 : decode b_M_init 1075 = .ok (.sipush 183, 3) := by decide +kernel
theorem d_M_init_1078 : decode b_M_init 1078 = .ok (.lconst 0, 1) := by decide +kernel
theorem d_M_init_1079 : decode b_M_init 1079 = .ok (.lastore, 1) := by decide +kernel
theorem d_M_init_1080 : decode b_M_init 1080 = .ok (.dup, 1) := by decide +kernel
theorem d_M_init_1081 : decode b_M_init 1081 = .ok (.sipush 184, 3) := by decide +kernel
theorem d_M_init_1084 : decode b_M_init 1084 = .ok (.ldc2_w 107, 3) := by decide +kernel
theorem d_M_init_1087 : decode b_M_init 1087 = .ok (.lastore, 1) := by decide +kernel
theorem d_M_init_1088 : decode b_M_init 1088 = .ok (.dup, 1) := by decide +kernel
theorem d_M_init_1089 : decode b_M_init 1089 = .ok (.sipush 185, 3) := by decide +kernel
theorem d_M_init_1092 : decode b_M_init 1092 = .ok (.lconst 0, 1) := by decide +kernel
theorem d_M_init_1093 : decode b_M_init 1093 = .ok (.lastore, 1) := by decide +kernel
theorem d_M_init_1094 : decode b_M_init 1094 = .ok (.dup, 1) := by decide +kernel
theorem d_M_init_1095 : decode b_M_init 1095 = .ok (.sipush 186, 3) := by decide +kernel
theorem d_M_init_1098 : decode b_M_init 1098 = .ok (.lconst 0, 1) := by decide +kernel
theorem d_M_init_1099 : decode b_M_init 1099 = .ok (.lastore, 1) := by decide +kernel
theorem d_M_init_1100 : decode b_M_init 1100 = .ok (.dup, 1) := by decide +kernel
theorem d_M_init_1101 : decode b_M_init 1101 = .ok (.sipush 187, 3) := by decide +kernel
theorem d_M_init_1104 : decode b_M_init 1104 = .ok (.lconst 0, 1) := by decide +kernel
theorem d_M_init_1105 : decode b_M_init 1105 = .ok (.lastore, 1) := by decide +kernel
theorem d_M_init_1106 : decode b_M_init 1106 = .ok (.dup, 1) := by decide +kernel
theorem d_M_init_1107 : decode b_M_init 1107 = .ok (.sipush 188, 3) := by decide +kernel
theorem d_M_init_1110 : decode b_M_init 1110 = .ok (.ldc2_w 109, 3) := by decide +kernel
theorem d_M_init_1113 : decode b_M_init 1113 = .ok (.lastore, 1) := by decide +kernel
theorem d_M_init_1114 : decode b_M_init 1114 = .ok (.dup, 1) := by decide +kernel
theorem d_M_init_1115 : decode b_M_init 1115 = .ok (.sipush 189, 3) := by decide +kernel
theorem d_M_init_1118 : decode b_M_init 1118 = .ok (.lconst 0, 1) := by decide +kernel
theorem d_M_init_1119 : decode b_M_init 1119 = .ok (.lastore, 1) := by decide +kernel
theorem d_M_init_1120 : decode b_M_init 1120 = .ok (.dup, 1) := by decide +kernel
theorem d_M_init_1121 : decode b_M_init 1121 = .ok (.sipush 190, 3) := by decide +kernel
theorem d_M_init_1124 : decode b_M_init 1124 = .ok (.lconst 0, 1) := by decide +kernel
theorem d_M_init_1125 : decode b_M_init 1125 = .ok (.lastore, 1) := by decide +kernel
theorem d_M_init_1126 : decode b_M_init 1126 = .ok (.dup, 1) := by decide +kernel
theorem d_M_init_1127 : decode b_M_init 1127 = .ok (.sipush 191, 3) := by decide +kernel
theorem d_M_init_1130 : decode b_M_init 1130 = .ok (.lconst 0, 1) := by decide +kernel
theorem d_M_init_1131 : decode b_M_init 1131 = .ok (.lastore, 1) := by decide +kernel
theorem d_M_init_1132 : decode b_M_init 1132 = .ok (.dup, 1) := by decide +kernel
theorem d_M_init_1133 : decode b_M_init 1133 = .ok (.sipush 192, 3) := by decide +kernel
theorem d_M_init_1136 : decode b_M_init 1136 = .ok (.ldc2_w 111, 3) := by decide +kernel
theorem d_M_init_1139 : decode b_M_init 1139 = .ok (.lastore, 1) := by decide +kernel
theorem d_M_init_1140 : decode b_M_init 1140 = .ok (.dup, 1) := by decide +kernel
theorem d_M_init_1141 : decode b_M_init 1141 = .ok (.sipush 193, 3) := by decide +kernel
theorem d_M_init_1144 : decode b_M_init 1144 = .ok (.lconst 0, 1) := by decide +kernel
theorem d_M_init_1145 : decode b_M_init 1145 = .ok (.lastore, 1) := by decide +kernel
theorem d_M_init_1146 : decode b_M_init 1146 = .ok (.dup, 1) := by decide +kernel
theorem d_M_init_1147 : decode b_M_init 1147 = .ok (.sipush 194, 3) := by decide +kernel
theorem d_M_init_1150 : decode b_M_init 1150 = .ok (.lconst 0, 1) := by decide +kernel
theorem d_M_init_1151 : decode b_M_init 1151 = .ok (.lastore, 1) := by decide +kernel
theorem d_M_init_1152 : decode b_M_init 1152 = .ok (.dup, 1) := by decide +kernel
theorem d_M_init_1153 : decode b_M_init 1153 = .ok (.sipush 195, 3) := by decide +kernel
theorem d_M_init_1156 : decode b_M_init 1156 = .ok (.lconst 0, 1) := by decide +kernel
theorem d_M_init_1157 : decode b_M_init 1157 = .ok (.lastore, 1) := by decide +kernel
theorem d_M_init_1158 : decode b_M_init 1158 = .ok (.dup, 1) := by decide +kernel
theorem d_M_init_1159 : decode b_M_init 1159 = .ok (.sipush 196, 3) := by decide +kernel
theorem d_M_init_1162 : decode b_M_init 1162 = .ok (.ldc2_w 113, 3) := by decide +kernel
theorem d_M_init_1165 : decode b_M_init 1165 = .ok (.lastore, 1) := by decide +kernel
theorem d_M_init_1166 : decode b_M_init 1166 = .ok (.dup, 1) := by decide +kernel
theorem d_M_init_1167 : decode b_M_init 1167 = .ok (.sipush 197, 3) := by decide +kernel
theorem d_M_init_1170 : decode b_M_init 1170 = .ok (.ldc2_w 115, 3) := by decide +kernel
theorem d_M_init_1173 : decode b_M_init 1173 = .ok (.lastore, 1) := by decide +kernel
theorem d_M_init_1174 : decode b_M_init 1174 = .ok (.dup, 1) := by decide +kernel
theorem d_M_init_1175 : decode b_M_init 1175 = .ok (.sipush 198, 3) := by decide +kernel
theorem d_M_init_1178 : decode b_M_init 1178 = .ok (.lconst 0, 1) := by decide +kernel
theorem d_M_init_1179 : decode b_M_init 1179 = .ok (.lastore, 1) := by decide +kernel
theorem d_M_init_1180 : decode b_M_init 1180 = .ok (.dup, 1) := by decide +kernel
theorem d_M_init_1181 : decode b_M_init 1181 = .ok (.sipush 199, 3) := by decide +kernel
theorem d_M_init_1184 : decode b_M_init 1184 = .ok (.lconst 0, 1) := by decide +kernel
theorem d_M_init_1185 : decode b_M_init 1185 = .ok (.lastore, 1) := by decide +kernel
theorem d_M_init_1186 : decode b_M_init 1186 = .ok (.dup, 1) := by decide +kernel
theorem d_M_init_1187 : decode b_M_init 1187 = .ok (.sipush 200, 3) := by decide +kernel
theorem d_M_init_1190 : decode b_M_init 1190 = .ok (.ldc2_w 113, 3) := by decide +kernel
theorem d_M_init_1193 : decode b_M_init 1193 = .ok (.lastore, 1) := by decide +kernel
theorem d_M_init_1194 : decode b_M_init 1194 = .ok (.dup, 1) := by decide +kernel
theorem d_M_init_1195 : decode b_M_init 1195 = .ok (.sipush 201, 3) := by decide +kernel
theorem d_M_init_1198 : decode b_M_init 1198 = .ok (.ldc2_w 117, 3) := by decide +kernel
theorem d_M_init_1201 : decode b_M_init 1201 = .ok (.lastore, 1) := by decide +kernel
theorem d_M_init_1202 : decode b_M_init 1202 = .ok (.dup, 1) := by decide +kernel
theorem d_M_init_1203 : decode b_M_init 1203 = .ok (.sipush 202, 3) := by decide +kernel
theorem d_M_init_1206 : decode b_M_init 1206 = .ok (.lconst 0, 1) := by decide +kernel
theorem d_M_init_1207 : decode b_M_init 1207 = .ok (.lastore, 1) := by decide +kernel
theorem d_M_init_1208 : decode b_M_init 1208 = .ok (.dup, 1) := by decide +kernel
theorem d_M_init_1209 : decode b_M_init 1209 = .ok (.sipush 203, 3) := by decide +kernel
theorem d_M_init_1212 : decode b_M_init 1212 = .ok (.lconst 0, 1) := by decide +kernel
theorem d_M_init_1213 : decode b_M_init 1213 = .ok (.lastore, 1) := by decide +kernel
theorem d_M_init_1214 : decode b_M_init 1214 = .ok (.dup, 1) := by decide +kernel
theorem d_M_init_1215 : decode b_M_init 1215 = .ok (.sipush 204, 3) := by decide +kernel
theorem d_M_init_1218 : decode b_M_init 1218 = .ok (.ldc2_w 119, 3) := by decide +kernel
theorem d_M_init_1221 : decode b_M_init 1221 = .ok (.lastore, 1) := by decide +kernel
theorem d_M_init_1222 : decode b_M_init 1222 = .ok (.dup, 1) := by decide +kernel
theorem d_M_init_1223 : decode b_M_init 1223 = .ok (.sipush 205, 3) := by decide +kernel
theorem d_M_init_1226 : decode b_M_init 1226 = .ok (.ldc2_w 121, 3) := by decide +kernel
theorem d_M_init_1229 : decode b_M_init 1229 = .ok (.lastore, 1) := by decide +kernel
theorem d_M_init_1230 : decode b_M_init 1230 = .ok (.dup, 1) := by decide +kernel
theorem d_M_init_1231 : decode b_M_init 1231 = .ok (.sipush 206, 3) := by decide +kernel
theorem d_M_init_1234 : decode b_M_init 1234 = .ok (.lconst 0, 1) := by decide +kernel
theorem d_M_init_1235 : decode b_M_init 1235 = .ok (.lastore, 1) := by decide +kernel
theorem d_M_init_1236 : decode b_M_init 1236 = .ok (.dup, 1) := by decide +kernel
theorem d_M_init_1237 : decode b_M_init 1237 = .ok (.sipush 207, 3) := by decide +kernel
theorem d_M_init_1240 : decode b_M_init 1240 = .ok (.lconst 0, 1) := by decide +kernel
theorem d_M_init_1241 : decode b_M_init 1241 = .ok (.lastore, 1) := by decide +kernel
theorem d_M_init_1242 : decode b_M_init 1242 = .ok (.dup, 1) := by decide +kernel
theorem d_M_init_1243 : decode b_M_init 1243 = .ok (.sipush 208, 3) := by decide +kernel
theorem d_M_init_1246 : decode b_M_init 1246 = .ok (.ldc2_w 123, 3) := by decide +kernel
theorem d_M_init_1249 : decode b_M_init 1249 = .ok (.lastore, 1) := by decide +kernel
theorem d_M_init_1250 : decode b_M_init 1250 = .ok (.dup, 1) := by decide +kernel
theorem d_M_init_1251 : decode b_M_init 1251 = .ok (.sipush 209, 3) := by decide +kernel
theorem d_M_init_1254 : decode b_M_init 1254 = .ok (.ldc2_w 125, 3) := by decide +kernel
theorem d_M_init_1257 : decode b_M_init 1257 = .ok (.lastore, 1) := by decide +kernel
theorem d_M_init_1258 : decode b_M_init 1258 = .ok (.dup, 1) := by decide +kernel
theorem d_M_init_1259 : decode b_M_init 1259 = .ok (.sipush 210, 3) := by decide +kernel
theorem d_M_init_1262 : decode b_M_init 1262 = .ok (.lconst 0, 1) := by decide +kernel
theorem d_M_init_1263 : decode b_M_init 1263 = .ok (.lastore, 1) := by decide +kernel
theorem d_M_init_1264 : decode b_M_init 1264 = .ok (.dup, 1) := by decide +kernel
theorem d_M_init_1265 : decode b_M_init 1265 = .ok (.sipush 211, 3) := by decide +kernel
theorem d_M_init_1268 : decode b_M_init 1268 = .ok (.lconst 0, 1) := by decide +kernel
theorem d_M_init_1269 : decode b_M_init 1269 = .ok (.lastore, 1) := by decide +kernel
theorem d_M_init_1270 : decode b_M_init 1270 = .ok (.dup, 1) := by decide +kernel
theorem d_M_init_1271 : decode b_M_init 1271 = .ok (.sipush 212, 3) := by decide +kernel
theorem d_M_init_1274 : decode b_M_init 1274 = .ok (.ldc2_w 87, 3) := by decide +kernel
theorem d_M_init_1277 : decode b_M_init 1277 = .ok (.lastore, 1) := by decide +kernel
theorem d_M_init_1278 : decode b_M_init 1278 = .ok (.dup, 1) := by decide +kernel
theorem d_M_init_1279 : decode b_M_init 1279 = .ok (.sipush 213, 3) := by decide +kernel
theorem d_M_init_1282 : decode b_M_init 1282 = .ok (.ldc2_w 127, 3) := by decide +kernel
theorem d_M_init_1285 : decode b_M_init 1285 = .ok (.lastore, 1) := by decide +kernel
theorem d_M_init_1286 : decode b_M_init 1286 = .ok (.dup, 1) := by decide +kernel
theorem d_M_init_1287 : decode b_M_init 1287 = .ok (.sipush 214, 3) := by decide +kernel
theorem d_M_init_1290 : decode b_M_init 1290 = .ok (.ldc2_w 129, 3) := by decide +kernel
theorem d_M_init_1293 : decode b_M_init 1293 = .ok (.lastore, 1) := by decide +kernel
theorem d_M_init_1294 : decode b_M_init 1294 = .ok (.dup, 1) := by decide +kernel
theorem d_M_init_1295 : decode b_M_init 1295 = .ok (.sipush 215, 3) := by decide +kernel
theorem d_M_init_1298 : decode b_M_init 1298 = .ok (.ldc2_w 131, 3) := by decide +kernel
theorem d_M_init_1301 : decode b_M_init 1301 = .ok (.lastore, 1) := by decide +kernel
theorem d_M_init_1302 : decode b_M_init 1302 = .ok (.dup, 1) := by decide +kernel
theorem d_M_init_1303 : decode b_M_init 1303 = .ok (.sipush 216, 3) := by decide +kernel
theorem d_M_init_1306 : decode b_M_init 1306 = .ok (.ldc2_w 133, 3) := by decide +kernel
theorem d_M_init_1309 : decode b_M_init 1309 = .ok (.lastore, 1) := by decide +kernel
theorem d_M_init_1310 : decode b_M_init 1310 = .ok (.dup, 1) := by decide +kernel
theorem d_M_init_1311 : decode b_M_init 1311 = .ok (.sipush 217, 3) := by decide +kernel
theorem d_M_init_1314 : decode b_M_init 1314 = .ok (.lconst 0, 1) := by decide +kernel
theorem d_M_init_1315 : decode b_M_init 1315 = .ok (.lastore, 1) := by decide +kernel
theorem d_M_init_1316 : decode b_M_init 1316 = .ok (.dup, 1) := by decide +kernel
theorem d_M_init_1317 : decode b_M_init 1317 = .ok (.sipush 218, 3) := by decide +kernel
theorem d_M_init_1320 : decode b_M_init 1320 = .ok (.lconst 0, 1) := by decide +kernel
theorem d_M_init_1321 : decode b_M_init 1321 = .ok (.lastore, 1) := by decide +kernel
theorem d_M_init_1322 : decode b_M_init 1322 = .ok (.dup, 1) := by decide +kernel
theorem d_M_init_1323 : decode b_M_init 1323 = .ok (.sipush 219, 3) := by decide +kernel
theorem d_M_init_1326 : decode b_M_init 1326 = .ok (.lconst 0, 1) := by decide +kernel
theorem d_M_init_1327 : decode b_M_init 1327 = .ok (.lastore, 1) := by decide +kernel
theorem d_M_init_1328 : decode b_M_init 1328 = .ok (.putfield 135, 3) := by decide +kernel
theorem d_M_init_1331 : decode b_M_init 1331 = .ok (.aload_n 0, 1) := by decide +kernel
theorem d_M_init_1332 : decode b_M_init 1332 = .ok (.bipush 55, 2) := by decide +kernel
theorem d_M_init_1334 : decode b_M_init 1334 = .ok (.newarray .int, 2) := by decide +kernel
theorem d_M_init_1336 : decode b_M_init 1336 = .ok (.dup, 1) := by decide +kernel
theorem d_M_init_1337 : decode b_M_init 1337 = .ok (.iconst 0, 1) := by decide +kernel
theorem d_M_init_1338 : decode b_M_init 1338 = .ok (.bipush 7, 2) := by decide +kernel
theorem d_M_init_1340 : decode b_M_init 1340 = .ok (.iastore, 1) := by decide +kernel
theorem d_M_init_1341 : decode b_M_init 1341 = .ok (.dup, 1) := by decide +kernel
theorem d_M_init_1342 : decode b_M_init 1342 = .ok (.iconst 1, 1) := by decide +kernel
theorem d_M_init_1343 : decode b_M_init 1343 = .ok (.iconst 2, 1) := by decide +kernel
theorem d_M_init_1344 : decode b_M_init 1344 = .ok (.iastore, 1) := by decide +kernel
theorem d_M_init_1345 : decode b_M_init 1345 = .ok (.dup, 1) := by decide +kernel
theorem d_M_init_1346 : decode b_M_init 1346 = .ok (.iconst 2, 1) := by decide +kernel
theorem d_M_init_1347 : decode b_M_init 1347 = .ok (.iconst 5, 1) := by decide +kernel
theorem d_M_init_1348 : decode b_M_init 1348 = .ok (.iastore, 1) := by decide +kernel
theorem d_M_init_1349 : decode b_M_init 1349 = .ok (.dup, 1) := by decide +kernel
theorem d_M_init_1350 : decode b_M_init 1350 = .ok (.iconst 3, 1) := by decide +kernel
theorem d_M_init_1351 : decode b_M_init 1351 = .ok (.iconst 4, 1) := by decide +kernel
theorem d_M_init_1352 : decode b_M_init 1352 = .ok (.iastore, 1) := by decide +kernel
theorem d_M_init_1353 : decode b_M_init 1353 = .ok (.dup, 1) := by decide +kernel
theorem d_M_init_1354 : decode b_M_init 1354 = .ok (.iconst 4, 1) := by decide +kernel
theorem d_M_init_1355 : decode b_M_init 1355 = .ok (.iconst 4, 1) := by decide +kernel
theorem d_M_init_1356 : decode b_M_init 1356 = .ok (.iastore, 1) := by decide +kernel
theorem d_M_init_1357 : decode b_M_init 1357 = .ok (.dup, 1) := by decide +kernel
theorem d_M_init_1358 : decode b_M_init 1358 = .ok (.iconst 5, 1) := by decide +kernel
theorem d_M_init_1359 : decode b_M_init 1359 = .ok (.bipush 7, 2) := by decide +kernel
theorem d_M_init_1361 : decode b_M_init 1361 = .ok (.iastore, 1) := by decide +kernel
theorem d_M_init_1362 : decode b_M_init 1362 = .ok (.dup, 1) := by decide +kernel
theorem d_M_init_1363 : decode b_M_init 1363 = .ok (.bipush 6, 2) := by decide +kernel
theorem d_M_init_1365 : decode b_M_init 1365 = .ok (.iconst 4, 1) := by decide +kernel
theorem d_M_init_1366 : decode b_M_init 1366 = .ok (.iastore, 1) := by decide +kernel
theorem d_M_init_1367 : decode b_M_init 1367 = .ok (.dup, 1) := by decide +kernel
theorem d_M_init_1368 : decode b_M_init 1368 = .ok (.bipush 7, 2) := by decide +kernel
theorem d_M_init_1370 : decode b_M_init 1370 = .ok (.bipush 8, 2) := by decide +kernel
theorem d_M_init_1372 : decode b_M_init 1372 = .ok (.iastore, 1) := by decide +kernel
theorem d_M_init_1373 : decode b_M_init 1373 = .ok (.dup, 1) := by decide +kernel
theorem d_M_init_1374 : decode b_M_init 1374 = .ok (.bipush 8, 2) := by decide +kernel
theorem d_M_init_1376 : decode b_M_init 1376 = .ok (.bipush 8, 2) := by decide +kernel
theorem d_M_init_1378 : decode b_M_init 1378 = .ok (.iastore, 1) := by decide +kernel
theorem d_M_init_1379 : decode b_M_init 1379 = .ok (.dup, 1) := by decide +kernel
theorem d_M_init_1380 : decode b_M_init 1380 = .ok (.bipush 9, 2) := by decide +kernel
theorem d_M_init_1382 : decode b_M_init 1382 = .ok (.bipush 6, 2) := by decide +kernel
theorem d_M_init_1384 : decode b_M_init 1384 = .ok (.iastore, 1) := by decide +kernel
theorem d_M_init_1385 : decode b_M_init 1385 = .ok (.dup, 1) := by decide +kernel
theorem d_M_init_1386 : decode b_M_init 1386 = .ok (.bipush 10, 2) := by decide +kernel
theorem d_M_init_1388 : decode b_M_init 1388 = .ok (.bipush 7, 2) := by decide +kernel
theorem d_M_init_1390 : decode b_M_init 1390 = .ok (.iastore, 1) := by decide +kernel
theorem d_M_init_1391 : decode b_M_init 1391 = .ok (.dup, 1) := by decide +kernel
theorem d_M_init_1392 : decode b_M_init 1392 = .ok (.bipush 11, 2) := by decide +kernel
theorem d_M_init_1394 : decode b_M_init 1394 = .ok (.bipush 7, 2) := by decide +kernel
theorem d_M_init_1396 : decode b_M_init 1396 = .ok (.iastore, 1) := by decide +kernel
theorem d_M_init_1397 : decode b_M_init 1397 = .ok (.dup, 1) := by decide +kernel
theorem d_M_init_1398 : decode b_M_init 1398 = .ok (.bipush 12, 2) := by decide +kernel
theorem d_M_init_1400 : decode b_M_init 1400 = .ok (.bipush 10, 2) := by decide +kernel
theorem d_M_init_1402 : decode b_M_init 1402 = .ok (.iastore, 1) := by decide +kernel
theorem d_M_init_1403 : decode b_M_init 1403 = .ok (.dup, 1) := by decide +kernel
theorem d_M_init_1404 : decode b_M_init 1404 = .ok (.bipush 13, 2) := by decide +kernel
theorem d_M_init_1406 : decode b_M_init 1406 = .ok (.bipush 8, 2) := by decide +kernel
theorem d_M_init_1408 : decode b_M_init 1408 = .ok (.iastore, 1) := by decide +kernel
theorem d_M_init_1409 : decode b_M_init 1409 = .ok (.dup, 1) := by decide +kernel
theorem d_M_init_1410 : decode b_M_init 1410 = .ok (.bipush 14, 2) := by decide +kernel
theorem d_M_init_1412 : decode b_M_init 1412 = .ok (.bipush 6, 2) := by decide +kernel
theorem d_M_init_1414 : decode b_M_init 1414 = .ok (.iastore, 1) := by decide +kernel
theorem d_M_init_1415 : decode b_M_init 1415 = .ok (.dup, 1) := by decide +kernel
theorem d_M_init_1416 : decode b_M_init 1416 = .ok (.bipush 15, 2) := by decide +kernel
theorem d_M_init_1418 : decode b_M_init 1418 = .ok (.bipush 7, 2) := by decide +kernel
theorem d_M_init_1420 : decode b_M_init 1420 = .ok (.iastore, 1) := by decide +kernel
theorem d_M_init_1421 : decode b_M_init 1421 = .ok (.dup, 1) := by decide +kernel
theorem d_M_init_1422 : decode b_M_init 1422 = .ok (.bipush 16, 2) := by decide +kernel
theorem d_M_init_1424 : decode b_M_init 1424 = .ok (.bipush 8, 2) := by decide +kernel
theorem d_M_init_1426 : decode b_M_init 1426 = .ok (.iastore, 1) := by decide +kernel
theorem d_M_init_1427 : decode b_M_init 1427 = .ok (.dup, 1) := by decide +kernel
theorem d_M_init_1428 : decode b_M_init 1428 = .ok (.bipush 17, 2) := by decide +kernel
theorem d_M_init_1430 : decode b_M_init 1430 = .ok (.bipush 7, 2) := by decide +kernel
theorem d_M_init_1432 : decode b_M_init 1432 = .ok (.iastore, 1) := by decide +kernel
theorem d_M_init_1433 : decode b_M_init 1433 = .ok (.dup, 1) := by decide +kernel
theorem d_M_init_1434 : decode b_M_init 1434 = .ok (.bipush 18, 2) := by decide +kernel
theorem d_M_init_1436 : decode b_M_init 1436 = .ok (.bipush 6, 2) := by decide +kernel
theorem d_M_init_1438 : decode b_M_init 1438 = .ok (.iastore, 1) := by decide +kernel
theorem d_M_init_1439 : decode b_M_init 1439 = .ok (.dup, 1) := by decide +kernel
theorem d_M_init_1440 : decode b_M_init 1440 = .ok (.bipush 19, 2) := by decide +kernel
theorem d_M_init_1442 : decode b_M_init 1442 = .ok (.iconst 4, 1) := by decide +kernel
theorem d_M_init_1443 : decode b_M_init 1443 = .ok (.iastore, 1) := by decide +kernel
theorem d_M_init_1444 : decode b_M_init 1444 = .ok (.dup, 1) := by decide +kernel
theorem d_M_init_1445 : decode b_M_init 1445 = .ok (.bipush 20, 2) := by decide +kernel
theorem d_M_init_1447 : decode b_M_init 1447 = .ok (.iconst 5, 1) := by decide +kernel
theorem d_M_init_1448 : decode b_M_init 1448 = .ok (.iastore, 1) := by decide +kernel
theorem d_M_init_1449 : decode b_M_init 1449 = .ok (.dup, 1) := by decide +kernel
theorem d_M_init_1450 : decode b_M_init 1450 = .ok (.bipush 21, 2) := by decide +kernel
theorem d_M_init_1452 : decode b_M_init 1452 = .ok (.iconst 5, 1) := by decide +kernel
theorem d_M_init_1453 : decode b_M_init 1453 = .ok (.iastore, 1) := by decide +kernel
theorem d_M_init_1454 : decode b_M_init 1454 = .ok (.dup, 1) := by decide +kernel
theorem d_M_init_1455 : decode b_M_init 1455 = .ok (.bipush 22, 2) := by decide +kernel
theorem d_M_init_1457 : decode b_M_init 1457 = .ok (.iconst 3, 1) := by decide +kernel
theorem d_M_init_1458 : decode b_M_init 1458 = .ok (.iastore, 1) := by decide +kernel
theorem d_M_init_1459 : decode b_M_init 1459 = .ok (.dup, 1) := by decide +kernel
theorem d_M_init_1460 : decode b_M_init 1460 = .ok (.bipush 23, 2) := by decide +kernel
theorem d_M_init_1462 : decode b_M_init 1462 = .ok (.iconst 4, 1) := by decide +kernel
theorem d_M_init_1463 : decode b_M_init 1463 = .ok (.iastore, 1) := by decide +kernel
theorem d_M_init_1464 : decode b_M_init 1464 = .ok (.dup, 1) := by decide +kernel
theorem d_M_init_1465 : decode b_M_init 1465 = .ok (.bipush 24, 2) := by decide +kernel
theorem d_M_init_1467 : decode b_M_init 1467 = .ok (.iconst 5, 1) := by decide +kernel
theorem d_M_init_1468 : decode b_M_init 1468 = .ok (.iastore, 1) := by decide +kernel
theorem d_M_init_1469 : decode b_M_init 1469 = .ok (.dup, 1) := by decide +kernel
theorem d_M_init_1470 : decode b_M_init 1470 = .ok (.bipush 25, 2) := by decide +kernel
theorem d_M_init_1472 : decode b_M_init 1472 = .ok (.iconst 5, 1) := by decide +kernel
theorem d_M_init_1473 : decode b_M_init 1473 = .ok (.iastore, 1) := by decide +kernel
theorem d_M_init_1474 : decode b_M_init 1474 = .ok (.dup, 1) := by decide +kernel
theorem d_M_init_1475 : decode b_M_init 1475 = .ok (.bipush 26, 2) := by decide +kernel
theorem d_M_init_1477 : decode b_M_init 1477 = .ok (.iconst 4, 1) := by decide +kernel
theorem d_M_init_1478 : decode b_M_init 1478 = .ok (.iastore, 1) := by decide +kernel
theorem d_M_init_1479 : decode b_M_init 1479 = .ok (.dup, 1) := by decide +kernel
theorem d_M_init_1480 : decode b_M_init 1480 = .ok (.bipush 27, 2) := by decide +kernel
theorem d_M_init_1482 : decode b_M_init 1482 = .ok (.iconst 4, 1) := by decide +kernel
theorem d_M_init_1483 : decode b_M_init 1483 = .ok (.iastore, 1) := by decide +kernel
theorem d_M_init_1484 : decode b_M_init 1484 = .ok (.dup, 1) := by decide +kernel
theorem d_M_init_1485 : decode b_M_init 1485 = .ok (.bipush 28, 2) := by decide +kernel
theorem d_M_init_1487 : decode b_M_init 1487 = .ok (.bipush 7, 2) := by decide +kernel
theorem d_M_init_1489 : decode b_M_init 1489 = .ok (.iastore, 1) := by decide +kernel
theorem d_M_init_1490 : decode b_M_init 1490 = .ok (.dup, 1) := by decide +kernel
theorem d_M_init_1491 : decode b_M_init 1491 = .ok (.bipush 29, 2) := by decide +kernel
theorem d_M_init_1493 : decode b_M_init 1493 = .ok (.bipush 9, 2) := by decide +kernel
theorem d_M_init_1495 : decode b_M_init 1495 = .ok (.iastore, 1) := by decide +kernel
theorem d_M_init_1496 : decode b_M_init 1496 = .ok (.dup, 1) := by decide +kernel
theorem d_M_init_1497 : decode b_M_init 1497 = .ok (.bipush 30, 2) := by decide +kernel
theorem d_M_init_1499 : decode b_M_init 1499 = .ok (.bipush 6, 2) := by decide +kernel
theorem d_M_init_1501 : decode b_M_init 1501 = .ok (.iastore, 1) := by decide +kernel
theorem d_M_init_1502 : decode b_M_init 1502 = .ok (.dup, 1) := by decide +kernel
theorem d_M_init_1503 : decode b_M_init 1503 = .ok (.bipush 31, 2) := by decide +kernel
theorem d_M_init_1505 : decode b_M_init 1505 = .ok (.iconst 4, 1) := by decide +kernel
theorem d_M_init_1506 : decode b_M_init 1506 = .ok (.iastore, 1) := by decide +kernel
theorem d_M_init_1507 : decode b_M_init 1507 = .ok (.dup, 1) := by decide +kernel
theorem d_M_init_1508 : decode b_M_init 1508 = .ok (.bipush 32, 2) := by decide +kernel
theorem d_M_init_1510 : decode b_M_init 1510 = .ok (.iconst 5, 1) := by decide +kernel
theorem d_M_init_1511 : decode b_M_init 1511 = .ok (.iastore, 1) := by decide +kernel
theorem d_M_init_1512 : decode b_M_init 1512 = .ok (.dup, 1) := by decide +kernel
theorem d_M_init_1513 : decode b_M_init 1513 = .ok (.bipush 33, 2) := by decide +kernel
theorem d_M_init_1515 : decode b_M_init 1515 = .ok (.iconst 2, 1) := by decide +kernel
theorem d_M_init_1516 : decode b_M_init 1516 = .ok (.iastore, 1) := by decide +kernel
theorem d_M_init_1517 : decode b_M_init 1517 = .ok (.dup, 1) := by decide +kernel
theorem d_M_init_1518 : decode b_M_init 1518 = .ok (.bipush 34, 2) := by decide +kernel
theorem d_M_init_1520 : decode b_M_init 1520 = .ok (.bipush 8, 2) := by decide +kernel
theorem d_M_init_1522 : decode b_M_init 1522 = .ok (.iastore, 1) := by decide +kernel
theorem d_M_init_1523 : decode b_M_init 1523 = .ok (.dup, 1) := by decide +kernel
theorem d_M_init_1524 : decode b_M_init 1524 = .ok (.bipush 35, 2) := by decide +kernel
theorem d_M_init_1526 : decode b_M_init 1526 = .ok (.bipush 7, 2) := by decide +kernel
theorem d_M_init_1528 : decode b_M_init 1528 = .ok (.iastore, 1) := by decide +kernel
theorem d_M_init_1529 : decode b_M_init 1529 = .ok (.dup, 1) := by decide +kernel
theorem d_M_init_1530 : decode b_M_init 1530 = .ok (.bipush 36, 2) := by decide +kernel
theorem d_M_init_1532 : decode b_M_init 1532 = .ok (.iconst 5, 1) := by decide +kernel
theorem d_M_init_1533 : decode b_M_init 1533 = .ok (.iastore, 1) := by decide +kernel
theorem d_M_init_1534 : decode b_M_init 1534 = .ok (.dup, 1) := by decide +kernel
theorem d_M_init_1535 : decode b_M_init 1535 = .ok (.bipush 37, 2) := by decide +kernel
theorem d_M_init_1537 : decode b_M_init 1537 = .ok (.iconst 5, 1) := by decide +kernel
theorem d_M_init_1538 : decode b_M_init 1538 = .ok (.iastore, 1) := by decide +kernel
theorem d_M_init_1539 : decode b_M_init 1539 = .ok (.dup, 1) := by decide +kernel
theorem d_M_init_1540 : decode b_M_init 1540 = .ok (.bipush 38, 2) := by decide +kernel
theorem d_M_init_1542 : decode b_M_init 1542 = .ok (.bipush 10, 2) := by decide +kernel
theorem d_M_init_1544 : decode b_M_init 1544 = .ok (.iastore, 1) := by decide +kernel
theorem d_M_init_1545 : decode b_M_init 1545 = .ok (.dup, 1) := by decide +kernel
theorem d_M_init_1546 : decode b_M_init 1546 = .ok (.bipush 39, 2) := by decide +kernel
theorem d_M_init_1548 : decode b_M_init 1548 = .ok (.iconst 3, 1) := by decide +kernel
theorem d_M_init_1549 : decode b_M_init 1549 = .ok (.iastore, 1) := by decide +kernel
theorem d_M_init_1550 : decode b_M_init 1550 = .ok (.dup, 1) := by decide +kernel
theorem d_M_init_1551 : decode b_M_init 1551 = .ok (.bipush 40, 2) := by decide +kernel
theorem d_M_init_1553 : decode b_M_init 1553 = .ok (.bipush 9, 2) := by decide +kernel
theorem d_M_init_1555 : decode b_M_init 1555 = .ok (.iastore, 1) := by decide +kernel
theorem d_M_init_1556 : decode b_M_init 1556 = .ok (.dup, 1) := by decide +kernel
theorem d_M_init_1557 : decode b_M_init 1557 = .ok (.bipush 41, 2) := by decide +kernel
theorem d_M_init_1559 : decode b_M_init 1559 = .ok (.bipush 6, 2) := by decide +kernel
theorem d_M_init_1561 : decode b_M_init 1561 = .ok (.iastore, 1) := by decide +kernel
theorem d_M_init_1562 : decode b_M_init 1562 = .ok (.dup, 1) := by decide +kernel
theorem d_M_init_1563 : decode b_M_init 1563 = .ok (.bipush 42, 2) := by decide +kernel
theorem d_M_init_1565 : decode b_M_init 1565 = .ok (.iconst 2, 1) := by decide +kernel
theorem d_M_init_1566 : decode b_M_init 1566 = .ok (.iastore, 1) := by decide +kernel
theorem d_M_init_1567 : decode b_M_init 1567 = .ok (.dup, 1) := by decide +kernel
theorem d_M_init_1568 : decode b_M_init 1568 = .ok (.bipush 43, 2) := by decide +kernel
theorem d_M_init_1570 : decode b_M_init 1570 = .ok (.iconst 2, 1) := by decide +kernel
theorem d_M_init_1571 : decode b_M_init 1571 = .ok (.iastore, 1) := by decide +kernel
theorem d_M_init_1572 : decode b_M_init 1572 = .ok (.dup, 1) := by decide +kernel
theorem d_M_init_1573 : decode b_M_init 1573 = .ok (.bipush 44, 2) := by decide +kernel
theorem d_M_init_1575 : decode b_M_init 1575 = .ok (.iconst 2, 1) := by decide +kernel
theorem d_M_init_1576 : decode b_M_init 1576 = .ok (.iastore, 1) := by decide +kernel
theorem d_M_init_1577 : decode b_M_init 1577 = .ok (.dup, 1) := by decide +kernel
theorem d_M_init_1578 : decode b_M_init 1578 = .ok (.bipush 45, 2) := by decide +kernel
theorem d_M_init_1580 : decode b_M_init 1580 = .ok (.iconst 2, 1) := by decide +kernel
theorem d_M_init_1581 : decode b_M_init 1581 = .ok (.iastore, 1) := by decide +kernel
theorem d_M_init_1582 : decode b_M_init 1582 = .ok (.dup, 1) := by decide +kernel
theorem d_M_init_1583 : decode b_M_init 1583 = .ok (.bipush 46, 2) := by decide +kernel
theorem d_M_init_1585 : decode b_M_init 1585 = .ok (.iconst 2, 1) := by decide +kernel
theorem d_M_init_1586 : decode b_M_init 1586 = .ok (.iastore, 1) := by decide +kernel
theorem d_M_init_1587 : decode b_M_init 1587 = .ok (.dup, 1) := by decide +kernel
theorem d_M_init_1588 : decode b_M_init 1588 = .ok (.bipush 47, 2) := by decide +kernel
theorem d_M_init_1590 : decode b_M_init 1590 = .ok (.iconst 2, 1) := by decide +kernel
theorem d_M_init_1591 : decode b_M_init 1591 = .ok (.iastore, 1) := by decide +kernel
theorem d_M_init_1592 : decode b_M_init 1592 = .ok (.dup, 1) := by decide +kernel
theorem d_M_init_1593 : decode b_M_init 1593 = .ok (.bipush 48, 2) := by decide +kernel
theorem d_M_init_1595 : decode b_M_init 1595 = .ok (.bipush 7, 2) := by decide +kernel
theorem d_M_init_1597 : decode b_M_init 1597 = .ok (.iastore, 1) := by decide +kernel
theorem d_M_init_1598 : decode b_M_init 1598 = .ok (.dup, 1) := by decide +kernel
theorem d_M_init_1599 : decode b_M_init 1599 = .ok (.bipush 49, 2) := by decide +kernel
theorem d_M_init_1601 : decode b_M_init 1601 = .ok (.bipush 15, 2) := by decide +kernel
theorem d_M_init_1603 : decode b_M_init 1603 = .ok (.iastore, 1) := by decide +kernel
theorem d_M_init_1604 : decode b_M_init 1604 = .ok (.dup, 1) := by decide +kernel
theorem d_M_init_1605 : decode b_M_init 1605 = .ok (.bipush 50, 2) := by decide +kernel
theorem d_M_init_1607 : decode b_M_init 1607 = .ok (.bipush 15, 2) := by decide +kernel
theorem d_M_init_1609 : decode b_M_init 1609 = .ok (.iastore, 1) := by decide +kernel
theorem d_M_init_1610 : decode b_M_init 1610 = .ok (.dup, 1) := by decide +kernel
theorem d_M_init_1611 : decode b_M_init 1611 = .ok (.bipush 51, 2) := by decide +kernel
theorem d_M_init_1613 : decode b_M_init 1613 = .ok (.bipush 10, 2) := by decide +kernel
theorem d_M_init_1615 : decode b_M_init 1615 = .ok (.iastore, 1) := by decide +kernel
theorem d_M_init_1616 : decode b_M_init 1616 = .ok (.dup, 1) := by decide +kernel
theorem d_M_init_1617 : decode b_M_init 1617 = .ok (.bipush 52, 2) := by decide +kernel
theorem d_M_init_1619 : decode b_M_init 1619 = .ok (.bipush 10, 2) := by decide +kernel
theorem d_M_init_1621 : decode b_M_init 1621 = .ok (.iastore, 1) := by decide +kernel
theorem d_M_init_1622 : decode b_M_init 1622 = .ok (.dup, 1) := by decide +kernel
theorem d_M_init_1623 : decode b_M_init 1623 = .ok (.bipush 53, 2) := by decide +kernel
theorem d_M_init_1625 : decode b_M_init 1625 = .ok (.bipush 26, 2) := by decide +kernel
theorem d_M_init_1627 : decode b_M_init 1627 = .ok (.iastore, 1) := by decide +kernel
theorem d_M_init_1628 : decode b_M_init 1628 = .ok (.dup, 1) := by decide +kernel
theorem d_M_init_1629 : decode b_M_init 1629 = .ok (.bipush 54, 2) := by decide +kernel
theorem d_M_init_1631 : decode b_M_init 1631 = .ok (.iconst 4, 1) := by decide +kernel
theorem d_M_init_1632 : decode b_M_init 1632 = .ok (.iastore, 1) := by decide +kernel
theorem d_M_init_1633 : decode b_M_init 1633 = .ok (.putfield 141, 3) := by decide +kernel
theorem d_M_init_1636 : decode b_M_init 1636 = .ok (.aload_n 0, 1) := by decide +kernel
theorem d_M_init_1637 : decode b_M_init 1637 = .ok (.sipush 400, 3) := by decide +kernel
theorem d_M_init_1640 : decode b_M_init 1640 = .ok (.newarray .int, 2) := by decide +kernel
theorem d_M_init_1642 : decode b_M_init 1642 = .ok (.putfield 145, 3) := by decide +kernel
theorem d_M_init_1645 : decode b_M_init 1645 = .ok (.aload_n 0, 1) := by decide +kernel
theorem d_M_init_1646 : decode b_M_init 1646 = .ok (.iconst 4, 1) := by decide +kernel
theorem d_M_init_1647 : decode b_M_init 1647 = .ok (.newarray .long, 2) := by decide +kernel
theorem d_M_init_1649 : decode b_M_init 1649 = .ok (.putfield 148, 3) := by decide +kernel
theorem d_M_init_1652 : decode b_M_init 1652 = .ok (.aload_n 0, 1) := by decide +kernel
theorem d_M_init_1653 : decode b_M_init 1653 = .ok (.sipush 1010, 3) := by decide +kernel
theorem d_M_init_1656 : decode b_M_init 1656 = .ok (.newarray .int, 2) := by decide +kernel
theorem d_M_init_1658 : decode b_M_init 1658 = .ok (.putfield 151, 3) := by decide +kernel
theorem d_M_init_1661 : decode b_M_init 1661 = .ok (.aload_n 0, 1) := by decide +kernel
theorem d_M_init_1662 : decode b_M_init 1662 = .ok (.iconst (-1), 1) := by decide +kernel
theorem d_M_init_1663 : decode b_M_init 1663 = .ok (.putfield 154, 3) := by decide +kernel
theorem d_M_init_1666 : decode b_M_init 1666 = .ok (.aload_n 0, 1) := by decide +kernel
theorem d_M_init_1667 : decode b_M_init 1667 = .ok (.bipush 80, 2) := by decide +kernel
theorem d_M_init_1669 : decode b_M_init 1669 = .ok (.newarray .int, 2) := by decide +kernel
theorem d_M_init_1671 : decode b_M_init 1671 = .ok (.putfield 158, 3) := by decide +kernel
theorem d_M_init_1674 : decode b_M_init 1674 = .ok (.return_, 1) := by decide +kernel
