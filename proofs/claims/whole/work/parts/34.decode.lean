theorem d_EM_init_0 : decode b_EM_init 0 = .ok (.aload_n 0, 1) := by decide +kernel
theorem d_EM_init_1 : decode b_EM_init 1 = .ok (.invokespecial 1, 3) := by decide +kernel
theorem d_EM_init_4 : decode b_EM_init 4 = .ok (.aload_n 0, 1) := by decide +kernel
theorem d_EM_init_5 : decode b_EM_init 5 = .ok (.iconst 3, 1) := by decide +kernel
theorem d_EM_init_6 : decode b_EM_init 6 = .ok (.newarray .int, 2) := by decide +kernel
theorem d_EM_init_8 : decode b_EM_init 8 = .ok (.dup, 1) := by decide +kernel
theorem d_EM_init_9 : decode b_EM_init 9 = .ok (.iconst 0, 1) := by decide +kernel
theorem d_EM_init_10 : decode b_EM_init 10 = .ok (.iconst 1, 1) := by decide +kernel
theorem d_EM_init_11 : decode b_EM_init 11 = .ok (.iastore, 1) := by decide +kernel
theorem d_EM_init_12 : decode b_EM_init 12 = .ok (.dup, 1) := by decide +kernel
theorem d_EM_init_13 : decode b_EM_init 13 = .ok (.iconst 1, 1) := by decide +kernel
theorem d_EM_init_14 : decode b_EM_init 14 = .ok (.iconst 1, 1) := by decide +kernel
theorem d_EM_init_15 : decode b_EM_init 15 = .ok (.iastore, 1) := by decide +kernel
theorem d_EM_init_16 : decode b_EM_init 16 = .ok (.dup, 1) := by decide +kernel
theorem d_EM_init_17 : decode b_EM_init 17 = .ok (.iconst 2, 1) := by decide +kernel
theorem d_EM_init_18 : decode b_EM_init 18 = .ok (.iconst 1, 1) := by decide +kernel
theorem d_EM_init_19 : decode b_EM_init 19 = .ok (.iastore, 1) := by decide +kernel
theorem d_EM_init_20 : decode b_EM_init 20 = .ok (.putfield 7, 3) := by decide +kernel
theorem d_EM_init_23 : decode b_EM_init 23 = .ok (.aload_n 0, 1) := by decide +kernel
theorem d_EM_init_24 : decode b_EM_init 24 = .ok (.iconst 3, 1) := by decide +kernel
theorem d_EM_init_25 : decode b_EM_init 25 = .ok (.newarray .boolean, 2) := by decide +kernel
theorem d_EM_init_27 : decode b_EM_init 27 = .ok (.dup, 1) := by decide +kernel
theorem d_EM_init_28 : decode b_EM_init 28 = .ok (.iconst 0, 1) := by decide +kernel
theorem d_EM_init_29 : decode b_EM_init 29 = .ok (.iconst 1, 1) := by decide +kernel
theorem d_EM_init_30 : decode b_EM_init 30 = .ok (.bastore, 1) := by decide +kernel
theorem d_EM_init_31 : decode b_EM_init 31 = .ok (.dup, 1) := by decide +kernel
theorem d_EM_init_32 : decode b_EM_init 32 = .ok (.iconst 1, 1) := by decide +kernel
theorem d_EM_init_33 : decode b_EM_init 33 = .ok (.iconst 1, 1) := by decide +kernel
theorem d_EM_init_34 : decode b_EM_init 34 = .ok (.bastore, 1) := by decide +kernel
theorem d_EM_init_35 : decode b_EM_init 35 = .ok (.dup, 1) := by decide +kernel
theorem d_EM_init_36 : decode b_EM_init 36 = .ok (.iconst 2, 1) := by decide +kernel
theorem d_EM_init_37 : decode b_EM_init 37 = .ok (.iconst 1, 1) := by decide +kernel
theorem d_EM_init_38 : decode b_EM_init 38 = .ok (.bastore, 1) := by decide +kernel
theorem d_EM_init_39 : decode b_EM_init 39 = .ok (.putfield 13, 3) := by decide +kernel
theorem d_EM_init_42 : decode b_EM_init 42 = .ok (.aload_n 0, 1) := by decide +kernel
theorem d_EM_init_43 : decode b_EM_init 43 = .ok (.iconst 3, 1) := by decide +kernel
theorem d_EM_init_44 : decode b_EM_init 44 = .ok (.newarray .int, 2) := by decide +kernel
theorem d_EM_init_46 : decode b_EM_init 46 = .ok (.dup, 1) := by decide +kernel
theorem d_EM_init_47 : decode b_EM_init 47 = .ok (.iconst 0, 1) := by decide +kernel
theorem d_EM_init_48 : decode b_EM_init 48 = .ok (.iconst 1, 1) := by decide +kernel
theorem d_EM_init_49 : decode b_EM_init 49 = .ok (.iastore, 1) := by decide +kernel
theorem d_EM_init_50 : decode b_EM_init 50 = .ok (.dup, 1) := by decide +kernel
theorem d_EM_init_51 : decode b_EM_init 51 = .ok (.iconst 1, 1) := by decide +kernel
theorem d_EM_init_52 : decode b_EM_init 52 = .ok (.iconst 1, 1) := by decide +kernel
theorem d_EM_init_53 : decode b_EM_init 53 = .ok (.iastore, 1) := by decide +kernel
theorem d_EM_init_54 : decode b_EM_init 54 = .ok (.dup, 1) := by decide +kernel
theorem d_EM_init_55 : decode b_EM_init 55 = .ok (.iconst 2, 1) := by decide +kernel
theorem d_EM_init_56 : decode b_EM_init 56 = .ok (.iconst 1, 1) := by decide +kernel
theorem d_EM_init_57 : decode b_EM_init 57 = .ok (.iastore, 1) := by decide +kernel
theorem d_EM_init_58 : decode b_EM_init 58 = .ok (.putfield 17, 3) := by decide +kernel
theorem d_EM_init_61 : decode b_EM_init 61 = .ok (.aload_n 0, 1) := by decide +kernel
theorem d_EM_init_62 : decode b_EM_init 62 = .ok (.iconst 3, 1) := by decide +kernel
theorem d_EM_init_63 : decode b_EM_init 63 = .ok (.newarray .boolean, 2) := by decide +kernel
theorem d_EM_init_65 : decode b_EM_init 65 = .ok (.dup, 1) := by decide +kernel
theorem d_EM_init_66 : decode b_EM_init 66 = .ok (.iconst 0, 1) := by decide +kernel
theorem d_EM_init_67 : decode b_EM_init 67 = .ok (.iconst 1, 1) := by decide +kernel
theorem d_EM_init_68 : decode b_EM_init 68 = .ok (.bastore, 1) := by decide +kernel
theorem d_EM_init_69 : decode b_EM_init 69 = .ok (.dup, 1) := by decide +kernel
theorem d_EM_init_70 : decode b_EM_init 70 = .ok (.iconst 1, 1) := by decide +kernel
theorem d_EM_init_71 : decode b_EM_init 71 = .ok (.iconst 1, 1) := by decide +kernel
theorem d_EM_init_72 : decode b_EM_init 72 = .ok (.bastore, 1) := by decide +kernel
theorem d_EM_init_73 : decode b_EM_init 73 = .ok (.dup, 1) := by decide +kernel
theorem d_EM_init_74 : decode b_EM_init 74 = .ok (.iconst 2, 1) := by decide +kernel
theorem d_EM_init_75 : decode b_EM_init 75 = .ok (.iconst 1, 1) := by decide +kernel
theorem d_EM_init_76 : decode b_EM_init 76 = .ok (.bastore, 1) := by decide +kernel
theorem d_EM_init_77 : decode b_EM_init 77 = .ok (.putfield 20, 3) := by decide +kernel
theorem d_EM_init_80 : decode b_EM_init 80 = .ok (.aload_n 0, 1) := by decide +kernel
theorem d_EM_init_81 : decode b_EM_init 81 = .ok (.iconst 3, 1) := by decide +kernel
theorem d_EM_init_82 : decode b_EM_init 82 = .ok (.newarray .int, 2) := by decide +kernel
theorem d_EM_init_84 : decode b_EM_init 84 = .ok (.dup, 1) := by decide +kernel
theorem d_EM_init_85 : decode b_EM_init 85 = .ok (.iconst 0, 1) := by decide +kernel
theorem d_EM_init_86 : decode b_EM_init 86 = .ok (.bipush 10, 2) := by decide +kernel
theorem d_EM_init_88 : decode b_EM_init 88 = .ok (.iastore, 1) := by decide +kernel
theorem d_EM_init_89 : decode b_EM_init 89 = .ok (.dup, 1) := by decide +kernel
theorem d_EM_init_90 : decode b_EM_init 90 = .ok (.iconst 1, 1) := by decide +kernel
theorem d_EM_init_91 : decode b_EM_init 91 = .ok (.bipush 10, 2) := by decide +kernel
theorem d_EM_init_93 : decode b_EM_init 93 = .ok (.iastore, 1) := by decide +kernel
theorem d_EM_init_94 : decode b_EM_init 94 = .ok (.dup, 1) := by decide +kernel
theorem d_EM_init_95 : decode b_EM_init 95 = .ok (.iconst 2, 1) := by decide +kernel
theorem d_EM_init_96 : decode b_EM_init 96 = .ok (.bipush 10, 2) := by decide +kernel
theorem d_EM_init_98 : decode b_EM_init 98 = .ok (.iastore, 1) := by decide +kernel
theorem d_EM_init_99 : decode b_EM_init 99 = .ok (.putfield 23, 3) := by decide +kernel
theorem d_EM_init_102 : decode b_EM_init 102 = .ok (.aload_n 0, 1) := by decide +kernel
theorem d_EM_init_103 : decode b_EM_init 103 = .ok (.iconst 3, 1) := by decide +kernel
theorem d_EM_init_104 : decode b_EM_init 104 = .ok (.newarray .int, 2) := by decide +kernel
theorem d_EM_init_106 : decode b_EM_init 106 = .ok (.putfield 26, 3) := by decide +kernel
theorem d_EM_init_109 : decode b_EM_init 109 = .ok (.aload_n 0, 1) := by decide +kernel
theorem d_EM_init_110 : decode b_EM_init 110 = .ok (.sipush 300, 3) := by decide +kernel
theorem d_EM_init_113 : decode b_EM_init 113 = .ok (.newarray .int, 2) := by decide +kernel
theorem d_EM_init_115 : decode b_EM_init 115 = .ok (.putfield 29, 3) := by decide +kernel
theorem d_EM_init_118 : decode b_EM_init 118 = .ok (.aload_n 0, 1) := by decide +kernel
theorem d_EM_init_119 : decode b_EM_init 119 = .ok (.sipush 300, 3) := by decide +kernel
theorem d_EM_init_122 : decode b_EM_init 122 = .ok (.newarray .int, 2) := by decide +kernel
theorem d_EM_init_124 : decode b_EM_init 124 = .ok (.putfield 32, 3) := by decide +kernel
theorem d_EM_init_127 : decode b_EM_init 127 = .ok (.aload_n 0, 1) := by decide +kernel
theorem d_EM_init_128 : decode b_EM_init 128 = .ok (.sipush 2400, 3) := by decide +kernel
theorem d_EM_init_131 : decode b_EM_init 131 = .ok (.newarray .int, 2) := by decide +kernel
theorem d_EM_init_133 : decode b_EM_init 133 = .ok (.putfield 35, 3) := by decide +kernel
theorem d_EM_init_136 : decode b_EM_init 136 = .ok (.aload_n 0, 1) := by decide +kernel
theorem d_EM_init_137 : decode b_EM_init 137 = .ok (.bipush 30, 2) := by decide +kernel
theorem d_EM_init_139 : decode b_EM_init 139 = .ok (.newarray .int, 2) := by decide +kernel
theorem d_EM_init_141 : decode b_EM_init 141 = .ok (.putfield 38, 3) := by decide +kernel
theorem d_EM_init_144 : decode b_EM_init 144 = .ok (.aload_n 0, 1) := by decide +kernel
theorem d_EM_init_145 : decode b_EM_init 145 = .ok (.iconst 2, 1) := by decide +kernel
theorem d_EM_init_146 : decode b_EM_init 146 = .ok (.newarray .int, 2) := by decide +kernel
theorem d_EM_init_148 : decode b_EM_init 148 = .ok (.dup, 1) := by decide +kernel
theorem d_EM_init_149 : decode b_EM_init 149 = .ok (.iconst 0, 1) := by decide +kernel
theorem d_EM_init_150 : decode b_EM_init 150 = .ok (.iconst 1, 1) := by decide +kernel
theorem d_EM_init_151 : decode b_EM_init 151 = .ok (.iastore, 1) := by decide +kernel
theorem d_EM_init_152 : decode b_EM_init 152 = .ok (.dup, 1) := by decide +kernel
theorem d_EM_init_153 : decode b_EM_init 153 = .ok (.iconst 1, 1) := by decide +kernel
theorem d_EM_init_154 : decode b_EM_init 154 = .ok (.iconst 1, 1) := by decide +kernel
theorem d_EM_init_155 : decode b_EM_init 155 = .ok (.iastore, 1) := by decide +kernel
theorem d_EM_init_156 : decode b_EM_init 156 = .ok (.putfield 41, 3) := by decide +kernel
theorem d_EM_init_159 : decode b_EM_init 159 = .ok (.aload_n 0, 1) := by decide +kernel
theorem d_EM_init_160 : decode b_EM_init 160 = .ok (.iconst 2, 1) := by decide +kernel
theorem d_EM_init_161 : decode b_EM_init 161 = .ok (.newarray .boolean, 2) := by decide +kernel
theorem d_EM_init_163 : decode b_EM_init 163 = .ok (.dup, 1) := by decide +kernel
theorem d_EM_init_164 : decode b_EM_init 164 = .ok (.iconst 0, 1) := by decide +kernel
theorem d_EM_init_165 : decode b_EM_init 165 = .ok (.iconst 1, 1) := by decide +kernel
theorem d_EM_init_166 : decode b_EM_init 166 = .ok (.bastore, 1) := by decide +kernel
theorem d_EM_init_167 : decode b_EM_init 167 = .ok (.dup, 1) := by decide +kernel
theorem d_EM_init_168 : decode b_EM_init 168 = .ok (.iconst 1, 1) := by decide +kernel
theorem d_EM_init_169 : decode b_EM_init 169 = .ok (.iconst 1, 1) := by decide +kernel
theorem d_EM_init_170 : decode b_EM_init 170 = .ok (.bastore, 1) := by decide +kernel
theorem d_EM_init_171 : decode b_EM_init 171 = .ok (.putfield 44, 3) := by decide +kernel
theorem d_EM_init_174 : decode b_EM_init 174 = .ok (.aload_n 0, 1) := by decide +kernel
theorem d_EM_init_175 : decode b_EM_init 175 = .ok (.iconst 2, 1) := by decide +kernel
theorem d_EM_init_176 : decode b_EM_init 176 = .ok (.newarray .int, 2) := by decide +kernel
theorem d_EM_init_178 : decode b_EM_init 178 = .ok (.dup, 1) := by decide +kernel
theorem d_EM_init_179 : decode b_EM_init 179 = .ok (.iconst 0, 1) := by decide +kernel
theorem d_EM_init_180 : decode b_EM_init 180 = .ok (.bipush 10, 2) := by decide +kernel
theorem d_EM_init_182 : decode b_EM_init 182 = .ok (.iastore, 1) := by decide +kernel
theorem d_EM_init_183 : decode b_EM_init 183 = .ok (.dup, 1) := by decide +kernel
theorem d_EM_init_184 : decode b_EM_init 184 = .ok (.iconst 1, 1) := by decide +kernel
theorem d_EM_init_185 : decode b_EM_init 185 = .ok (.bipush 10, 2) := by decide +kernel
theorem d_EM_init_187 : decode b_EM_init 187 = .ok (.iastore, 1) := by decide +kernel
theorem d_EM_init_188 : decode b_EM_init 188 = .ok (.putfield 47, 3) := by decide +kernel
theorem d_EM_init_191 : decode b_EM_init 191 = .ok (.aload_n 0, 1) := by decide +kernel
theorem d_EM_init_192 : decode b_EM_init 192 = .ok (.iconst 2, 1) := by decide +kernel
theorem d_EM_init_193 : decode b_EM_init 193 = .ok (.newarray .int, 2) := by decide +kernel
theorem d_EM_init_195 : decode b_EM_init 195 = .ok (.putfield 50, 3) := by decide +kernel
theorem d_EM_init_198 : decode b_EM_init 198 = .ok (.aload_n 0, 1) := by decide +kernel
theorem d_EM_init_199 : decode b_EM_init 199 = .ok (.sipush 256, 3) := by decide +kernel
theorem d_EM_init_202 : decode b_EM_init 202 = .ok (.newarray .int, 2) := by decide +kernel
theorem d_EM_init_204 : decode b_EM_init 204 = .ok (.putfield 53, 3) := by decide +kernel
theorem d_EM_init_207 : decode b_EM_init 207 = .ok (.aload_n 0, 1) := by decide +kernel
theorem d_EM_init_208 : decode b_EM_init 208 = .ok (.sipush 256, 3) := by decide +kernel
theorem d_EM_init_211 : decode b_EM_init 211 = .ok (.newarray .int, 2) := by decide +kernel
theorem d_EM_init_213 : decode b_EM_init 213 = .ok (.putfield 56, 3) := by decide +kernel
theorem d_EM_init_216 : decode b_EM_init 216 = .ok (.aload_n 0, 1) := by decide +kernel
theorem d_EM_init_217 : decode b_EM_init 217 = .ok (.sipush 2048, 3) := by decide +kernel
theorem d_EM_init_220 : decode b_EM_init 220 = .ok (.newarray .int, 2) := by decide +kernel
theorem d_EM_init_222 : decode b_EM_init 222 = .ok (.putfield 59, 3) := by decide +kernel
theorem d_EM_init_225 : decode b_EM_init 225 = .ok (.aload_n 0, 1) := by decide +kernel
theorem d_EM_init_226 : decode b_EM_init 226 = .ok (.bipush 10, 2) := by decide +kernel
theorem d_EM_init_228 : decode b_EM_init 228 = .ok (.newarray .boolean, 2) := by decide +kernel
theorem d_EM_init_230 : decode b_EM_init 230 = .ok (.putfield 62, 3) := by decide +kernel
theorem d_EM_init_233 : decode b_EM_init 233 = .ok (.aload_n 0, 1) := by decide +kernel
theorem d_EM_init_234 : decode b_EM_init 234 = .ok (.bipush 10, 2) := by decide +kernel
theorem d_EM_init_236 : decode b_EM_init 236 = .ok (.newarray .int, 2) := by decide +kernel
theorem d_EM_init_238 : decode b_EM_init 238 = .ok (.putfield 65, 3) := by decide +kernel
theorem d_EM_init_241 : decode b_EM_init 241 = .ok (.aload_n 0, 1) := by decide +kernel
theorem d_EM_init_242 : decode b_EM_init 242 = .ok (.bipush 10, 2) := by decide +kernel
theorem d_EM_init_244 : decode b_EM_init 244 = .ok (.newarray .int, 2) := by decide +kernel
theorem d_EM_init_246 : decode b_EM_init 246 = .ok (.putfield 68, 3) := by decide +kernel
theorem d_EM_init_249 : decode b_EM_init 249 = .ok (.aload_n 0, 1) := by decide +kernel
theorem d_EM_init_250 : decode b_EM_init 250 = .ok (.bipush 10, 2) := by decide +kernel
theorem d_EM_init_252 : decode b_EM_init 252 = .ok (.newarray .int, 2) := by decide +kernel
theorem d_EM_init_254 : decode b_EM_init 254 = .ok (.putfield 71, 3) := by decide +kernel
theorem d_EM_init_257 : decode b_EM_init 257 = .ok (.aload_n 0, 1) := by decide +kernel
theorem d_EM_init_258 : decode b_EM_init 258 = .ok (.bipush 10, 2) := by decide +kernel
theorem d_EM_init_260 : decode b_EM_init 260 = .ok (.newarray .int, 2) := by decide +kernel
theorem d_EM_init_262 : decode b_EM_init 262 = .ok (.putfield 74, 3) := by decide +kernel
theorem d_EM_init_265 : decode b_EM_init 265 = .ok (.aload_n 0, 1) := by decide +kernel
theorem d_EM_init_266 : decode b_EM_init 266 = .ok (.bipush 10, 2) := by decide +kernel
theorem d_EM_init_268 : decode b_EM_init 268 = .ok (.newarray .int, 2) := by decide +kernel
theorem d_EM_init_270 : decode b_EM_init 270 = .ok (.putfield 77, 3) := by decide +kernel
theorem d_EM_init_273 : decode b_EM_init 273 = .ok (.aload_n 0, 1) := by decide +kernel
theorem d_EM_init_274 : decode b_EM_init 274 = .ok (.bipush 80, 2) := by decide +kernel
theorem d_EM_init_276 : decode b_EM_init 276 = .ok (.newarray .int, 2) := by decide +kernel
theorem d_EM_init_278 : decode b_EM_init 278 = .ok (.putfield 80, 3) := by decide +kernel
theorem d_EM_init_281 : decode b_EM_init 281 = .ok (.aload_n 0, 1) := by decide +kernel
theorem d_EM_init_282 : decode b_EM_init 282 = .ok (.bipush 10, 2) := by decide +kernel
theorem d_EM_init_284 : decode b_EM_init 284 = .ok (.newarray .int, 2) := by decide +kernel
theorem d_EM_init_286 : decode b_EM_init 286 = .ok (.putfield 83, 3) := by decide +kernel
theorem d_EM_init_289 : decode b_EM_init 289 = .ok (.aload_n 0, 1) := by decide +kernel
theorem d_EM_init_290 : decode b_EM_init 290 = .ok (.bipush 10, 2) := by decide +kernel
theorem d_EM_init_292 : decode b_EM_init 292 = .ok (.newarray .int, 2) := by decide +kernel
theorem d_EM_init_294 : decode b_EM_init 294 = .ok (.putfield 86, 3) := by decide +kernel
theorem d_EM_init_297 : decode b_EM_init 297 = .ok (.aload_n 0, 1) := by decide +kernel
theorem d_EM_init_298 : decode b_EM_init 298 = .ok (.bipush 80, 2) := by decide +kernel
theorem d_EM_init_300 : decode b_EM_init 300 = .ok (.newarray .int, 2) := by decide +kernel
theorem d_EM_init_302 : decode b_EM_init 302 = .ok (.putfield 89, 3) := by decide +kernel
theorem d_EM_init_305 : decode b_EM_init 305 = .ok (.aload_n 0, 1) := by decide +kernel
theorem d_EM_init_306 : decode b_EM_init 306 = .ok (.bipush 80, 2) := by decide +kernel
theorem d_EM_init_308 : decode b_EM_init 308 = .ok (.newarray .int, 2) := by decide +kernel
theorem d_EM_init_310 : decode b_EM_init 310 = .ok (.putfield 92, 3) := by decide +kernel
theorem d_EM_init_313 : decode b_EM_init 313 = .ok (.aload_n 0, 1) := by decide +kernel
theorem d_EM_init_314 : decode b_EM_init 314 = .ok (.bipush 80, 2) := by decide +kernel
theorem d_EM_init_316 : decode b_EM_init 316 = .ok (.newarray .int, 2) := by decide +kernel
theorem d_EM_init_318 : decode b_EM_init 318 = .ok (.putfield 95, 3) := by decide +kernel
theorem d_EM_init_321 : decode b_EM_init 321 = .ok (.aload_n 0, 1) := by decide +kernel
theorem d_EM_init_322 : decode b_EM_init 322 = .ok (.bipush 80, 2) := by decide +kernel
theorem d_EM_init_324 : decode b_EM_init 324 = .ok (.newarray .int, 2) := by decide +kernel
theorem d_EM_init_326 : decode b_EM_init 326 = .ok (.putfield 98, 3) := by decide +kernel
theorem d_EM_init_329 : decode b_EM_init 329 = .ok (.aload_n 0, 1) := by decide +kernel
theorem d_EM_init_330 : decode b_EM_init 330 = .ok (.bipush 10, 2) := by decide +kernel
theorem d_EM_init_332 : decode b_EM_init 332 = .ok (.newarray .int, 2) := by decide +kernel
theorem d_EM_init_334 : decode b_EM_init 334 = .ok (.putfield 101, 3) := by decide +kernel
theorem d_EM_init_337 : decode b_EM_init 337 = .ok (.aload_n 0, 1) := by decide +kernel
theorem d_EM_init_338 : decode b_EM_init 338 = .ok (.bipush 80, 2) := by decide +kernel
theorem d_EM_init_340 : decode b_EM_init 340 = .ok (.newarray .int, 2) := by decide +kernel
theorem d_EM_init_342 : decode b_EM_init 342 = .ok (.putfield 104, 3) := by decide +kernel
theorem d_EM_init_345 : decode b_EM_init 345 = .ok (.aload_n 0, 1) := by decide +kernel
theorem d_EM_init_346 : decode b_EM_init 346 = .ok (.bipush 80, 2) := by decide +kernel
theorem d_EM_init_348 : decode b_EM_init 348 = .ok (.newarray .int, 2) := by decide +kernel
theorem d_EM_init_350 : decode b_EM_init 350 = .ok (.putfield 107, 3) := by decide +kernel
theorem d_EM_init_353 : decode b_EM_init 353 = .ok (.aload_n 0, 1) := by decide +kernel
theorem d_EM_init_354 : decode b_EM_init 354 = .ok (.bipush 80, 2) := by decide +kernel
theorem d_EM_init_356 : decode b_EM_init 356 = .ok (.newarray .int, 2) := by decide +kernel
theorem d_EM_init_358 : decode b_EM_init 358 = .ok (.putfield 110, 3) := by decide +kernel
theorem d_EM_init_361 : decode b_EM_init 361 = .ok (.aload_n 0, 1) := by decide +kernel
theorem d_EM_init_362 : decode b_EM_init 362 = .ok (.sipush 640, 3) := by decide +kernel
theorem d_EM_init_365 : decode b_EM_init 365 = .ok (.newarray .int, 2) := by decide +kernel
theorem d_EM_init_367 : decode b_EM_init 367 = .ok (.putfield 113, 3) := by decide +kernel
theorem d_EM_init_370 : decode b_EM_init 370 = .ok (.aload_n 0, 1) := by decide +kernel
theorem d_EM_init_371 : decode b_EM_init 371 = .ok (.bipush 80, 2) := by decide +kernel
theorem d_EM_init_373 : decode b_EM_init 373 = .ok (.newarray .int, 2) := by decide +kernel
theorem d_EM_init_375 : decode b_EM_init 375 = .ok (.putfield 116, 3) := by decide +kernel
theorem d_EM_init_378 : decode b_EM_init 378 = .ok (.aload_n 0, 1) := by decide +kernel
theorem d_EM_init_379 : decode b_EM_init 379 = .ok (.bipush 80, 2) := by decide +kernel
theorem d_EM_init_381 : decode b_EM_init 381 = .ok (.newarray .int, 2) := by decide +kernel
theorem d_EM_init_383 : decode b_EM_init 383 = .ok (.putfield 119, 3) := by decide +kernel
theorem d_EM_init_386 : decode b_EM_init 386 = .ok (.aload_n 0, 1) := by decide +kernel
theorem d_EM_init_387 : decode b_EM_init 387 = .ok (.bipush 80, 2) := by decide +kernel
theorem d_EM_init_389 : decode b_EM_init 389 = .ok (.newarray .int, 2) := by decide +kernel
theorem d_EM_init_391 : decode b_EM_init 391 = .ok (.putfield 122, 3) := by decide +kernel
theorem d_EM_init_394 : decode b_EM_init 394 = .ok (.aload_n 0, 1) := by decide +kernel
theorem d_EM_init_395 : decode b_EM_init 395 = .ok (.iconst 3, 1) := by decide +kernel
theorem d_EM_init_396 : decode b_EM_init 396 = .ok (.newarray .int, 2) := by decide +kernel
theorem d_EM_init_398 : decode b_EM_init 398 = .ok (.dup, 1) := by decide +kernel
theorem d_EM_init_399 : decode b_EM_init 399 = .ok (.iconst 0, 1) := by decide +kernel
theorem d_EM_init_400 : decode b_EM_init 400 = .ok (.iconst 1, 1) := by decide +kernel
theorem d_EM_init_401 : decode b_EM_init 401 = .ok (.iastore, 1) := by decide +kernel
theorem d_EM_init_402 : decode b_EM_init 402 = .ok (.dup, 1) := by decide +kernel
theorem d_EM_init_403 : decode b_EM_init 403 = .ok (.iconst 1, 1) := by decide +kernel
theorem d_EM_init_404 : decode b_EM_init 404 = .ok (.iconst 1, 1) := by decide +kernel
theorem d_EM_init_405 : decode b_EM_init 405 = .ok (.iastore, 1) := by decide +kernel
theorem d_EM_init_406 : decode b_EM_init 406 = .ok (.dup, 1) := by decide +kernel
theorem d_EM_init_407 : decode b_EM_init 407 = .ok (.iconst 2, 1) := by decide +kernel
theorem d_EM_init_408 : decode b_EM_init 408 = .ok (.iconst 1, 1) := by decide +kernel
theorem d_EM_init_409 : decode b_EM_init 409 = .ok (.iastore, 1) := by decide +kernel
theorem d_EM_init_410 : decode b_EM_init 410 = .ok (.putfield 125, 3) := by decide +kernel
theorem d_EM_init_413 : decode b_EM_init 413 = .ok (.aload_n 0, 1) := by decide +kernel
theorem d_EM_init_414 : decode b_EM_init 414 = .ok (.iconst 3, 1) := by decide +kernel
theorem d_EM_init_415 : decode b_EM_init 415 = .ok (.newarray .int, 2) := by decide +kernel
theorem d_EM_init_417 : decode b_EM_init 417 = .ok (.putfield 128, 3) := by decide +kernel
theorem d_EM_init_420 : decode b_EM_init 420 = .ok (.aload_n 0, 1) := by decide +kernel
theorem d_EM_init_421 : decode b_EM_init 421 = .ok (.iconst 3, 1) := by decide +kernel
theorem d_EM_init_422 : decode b_EM_init 422 = .ok (.newarray .int, 2) := by decide +kernel
theorem d_EM_init_424 : decode b_EM_init 424 = .ok (.putfield 131, 3) := by decide +kernel
theorem d_EM_init_427 : decode b_EM_init 427 = .ok (.aload_n 0, 1) := by decide +kernel
theorem d_EM_init_428 : decode b_EM_init 428 = .ok (.iconst 3, 1) := by decide +kernel
theorem d_EM_init_429 : decode b_EM_init 429 = .ok (.newarray .int, 2) := by decide +kernel
theorem d_EM_init_431 : decode b_EM_init 431 = .ok (.putfield 134, 3) := by decide +kernel
theorem d_EM_init_434 : decode b_EM_init 434 = .ok (.aload_n 0, 1) := by decide +kernel
theorem d_EM_init_435 : decode b_EM_init 435 = .ok (.iconst 3, 1) := by decide +kernel
theorem d_EM_init_436 : decode b_EM_init 436 = .ok (.newarray .int, 2) := by decide +kernel
theorem d_EM_init_438 : decode b_EM_init 438 = .ok (.putfield 137, 3) := by decide +kernel
theorem d_EM_init_441 : decode b_EM_init 441 = .ok (.aload_n 0, 1) := by decide +kernel
theorem d_EM_init_442 : decode b_EM_init 442 = .ok (.iconst 3, 1) := by decide +kernel
theorem d_EM_init_443 : decode b_EM_init 443 = .ok (.newarray .int, 2) := by decide +kernel
theorem d_EM_init_445 : decode b_EM_init 445 = .ok (.putfield 140, 3) := by decide +kernel
theorem d_EM_init_448 : decode b_EM_init 448 = .ok (.aload_n 0, 1) := by decide +kernel
theorem d_EM_init_449 : decode b_EM_init 449 = .ok (.iconst 3, 1) := by decide +kernel
theorem d_EM_init_450 : decode b_EM_init 450 = .ok (.newarray .int, 2) := by decide +kernel
theorem d_EM_init_452 : decode b_EM_init 452 = .ok (.putfield 143, 3) := by decide +kernel
theorem d_EM_init_455 : decode b_EM_init 455 = .ok (.aload_n 0, 1) := by decide +kernel
theorem d_EM_init_456 : decode b_EM_init 456 = .ok (.bipush 24, 2) := by decide +kernel
theorem d_EM_init_458 : decode b_EM_init 458 = .ok (.newarray .int, 2) := by decide +kernel
theorem d_EM_init_460 : decode b_EM_init 460 = .ok (.putfield 146, 3) := by decide +kernel
theorem d_EM_init_463 : decode b_EM_init 463 = .ok (.aload_n 0, 1) := by decide +kernel
theorem d_EM_init_464 : decode b_EM_init 464 = .ok (.iconst 3, 1) := by decide +kernel
theorem d_EM_init_465 : decode b_EM_init 465 = .ok (.newarray .int, 2) := by decide +kernel
theorem d_EM_init_467 : decode b_EM_init 467 = .ok (.putfield 149, 3) := by decide +kernel
theorem d_EM_init_470 : decode b_EM_init 470 = .ok (.aload_n 0, 1) := by decide +kernel
theorem d_EM_init_471 : decode b_EM_init 471 = .ok (.bipush 25, 2) := by decide +kernel
theorem d_EM_init_473 : decode b_EM_init 473 = .ok (.newarray .int, 2) := by decide +kernel
theorem d_EM_init_475 : decode b_EM_init 475 = .ok (.putfield 152, 3) := by decide +kernel
theorem d_EM_init_478 : decode b_EM_init 478 = .ok (.aload_n 0, 1) := by decide +kernel
theorem d_EM_init_479 : decode b_EM_init 479 = .ok (.bipush 25, 2) := by decide +kernel
theorem d_EM_init_481 : decode b_EM_init 481 = .ok (.newarray .int, 2) := by decide +kernel
theorem d_EM_init_483 : decode b_EM_init 483 = .ok (.putfield 155, 3) := by decide +kernel
theorem d_EM_init_486 : decode b_EM_init 486 = .ok (.aload_n 0, 1) := by decide +kernel
theorem d_EM_init_487 : decode b_EM_init 487 = .ok (.bipush 25, 2) := by decide +kernel
theorem d_EM_init_489 : decode b_EM_init 489 = .ok (.newarray .int, 2) := by decide +kernel
theorem d_EM_init_491 : decode b_EM_init 491 = .ok (.putfield 158, 3) := by decide +kernel
theorem d_EM_init_494 : decode b_EM_init 494 = .ok (.aload_n 0, 1) := by decide +kernel
theorem d_EM_init_495 : decode b_EM_init 495 = .ok (.bipush 25, 2) := by decide +kernel
theorem d_EM_init_497 : decode b_EM_init 497 = .ok (.newarray .int, 2) := by decide +kernel
theorem d_EM_init_499 : decode b_EM_init 499 = .ok (.putfield 161, 3) := by decide +kernel
theorem d_EM_init_502 : decode b_EM_init 502 = .ok (.aload_n 0, 1) := by decide +kernel
theorem d_EM_init_503 : decode b_EM_init 503 = .ok (.bipush 25, 2) := by decide +kernel
theorem d_EM_init_505 : decode b_EM_init 505 = .ok (.newarray .int, 2) := by decide +kernel
theorem d_EM_init_507 : decode b_EM_init 507 = .ok (.putfield 164, 3) := by decide +kernel
theorem d_EM_init_510 : decode b_EM_init 510 = .ok (.aload_n 0, 1) := by decide +kernel
theorem d_EM_init_511 : decode b_EM_init 511 = .ok (.bipush 25, 2) := by decide +kernel
theorem d_EM_init_513 : decode b_EM_init 513 = .ok (.newarray .int, 2) := by decide +kernel
theorem d_EM_init_515 : decode b_EM_init 515 = .ok (.putfield 167, 3) := by decide +kernel
theorem d_EM_init_518 : decode b_EM_init 518 = .ok (.aload_n 0, 1) := by decide +kernel
theorem d_EM_init_519 : decode b_EM_init 519 = .ok (.bipush 25, 2) := by decide +kernel
theorem d_EM_init_521 : decode b_EM_init 521 = .ok (.newarray .int, 2) := by decide +kernel
theorem d_EM_init_523 : decode b_EM_init 523 = .ok (.putfield 170, 3) := by decide +kernel
theorem d_EM_init_526 : decode b_EM_init 526 = .ok (.aload_n 0, 1) := by decide +kernel
theorem d_EM_init_527 : decode b_EM_init 527 = .ok (.sipush 200, 3) := by decide +kernel
theorem d_EM_init_530 : decode b_EM_init 530 = .ok (.newarray .int, 2) := by decide +kernel
theorem d_EM_init_532 : decode b_EM_init 532 = .ok (.putfield 173, 3) := by decide +kernel
theorem d_EM_init_535 : decode b_EM_init 535 = .ok (.aload_n 0, 1) := by decide +kernel
theorem d_EM_init_536 : decode b_EM_init 536 = .ok (.getfield 62, 3) := by decide +kernel
theorem d_EM_init_539 : decode b_EM_init 539 = .ok (.iconst 1, 1) := by decide +kernel
theorem d_EM_init_540 : decode b_EM_init 540 = .ok (.iconst 1, 1) := by decide +kernel
theorem d_EM_init_541 : decode b_EM_init 541 = .ok (.bastore, 1) := by decide +kernel
theorem d_EM_init_542 : decode b_EM_init 542 = .ok (.aload_n 0, 1) := by decide +kernel
theorem d_EM_init_543 : decode b_EM_init 543 = .ok (.getfield 65, 3) := by decide +kernel
theorem d_EM_init_546 : decode b_EM_init 546 = .ok (.iconst 1, 1) := by decide +kernel
theorem d_EM_init_547 : decode b_EM_init 547 = .ok (.bipush 7, 2) := by decide +kernel
theorem d_EM_init_549 : decode b_EM_init 549 = .ok (.iastore, 1) := by decide +kernel
theorem d_EM_init_550 : decode b_EM_init 550 = .ok (.aload_n 0, 1) := by decide +kernel
theorem d_EM_init_551 : decode b_EM_init 551 = .ok (.getfield 68, 3) := by decide +kernel
theorem d_EM_init_554 : decode b_EM_init 554 = .ok (.iconst 1, 1) := by decide +kernel
theorem d_EM_init_555 : decode b_EM_init 555 = .ok (.bipush 10, 2) := by decide +kernel
theorem d_EM_init_557 : decode b_EM_init 557 = .ok (.iastore, 1) := by decide +kernel
theorem d_EM_init_558 : decode b_EM_init 558 = .ok (.aload_n 0, 1) := by decide +kernel
theorem d_EM_init_559 : decode b_EM_init 559 = .ok (.getfield 71, 3) := by decide +kernel
theorem d_EM_init_562 : decode b_EM_init 562 = .ok (.iconst 1, 1) := by decide +kernel
theorem d_EM_init_563 : decode b_EM_init 563 = .ok (.bipush 10, 2) := by decide +kernel
theorem d_EM_init_565 : decode b_EM_init 565 = .ok (.iastore, 1) := by decide +kernel
theorem d_EM_init_566 : decode b_EM_init 566 = .ok (.aload_n 0, 1) := by decide +kernel
theorem d_EM_init_567 : decode b_EM_init 567 = .ok (.getfield 74, 3) := by decide +kernel
theorem d_EM_init_570 : decode b_EM_init 570 = .ok (.iconst 1, 1) := by decide +kernel
theorem d_EM_init_571 : decode b_EM_init 571 = .ok (.bipush 10, 2) := by decide +kernel
theorem d_EM_init_573 : decode b_EM_init 573 = .ok (.iastore, 1) := by decide +kernel
theorem d_EM_init_574 : decode b_EM_init 574 = .ok (.aload_n 0, 1) := by decide +kernel
theorem d_EM_init_575 : decode b_EM_init 575 = .ok (.getfield 77, 3) := by decide +kernel
theorem d_EM_init_578 : decode b_EM_init 578 = .ok (.iconst 1, 1) := by decide +kernel
theorem d_EM_init_579 : decode b_EM_init 579 = .ok (.bipush 10, 2) := by decide +kernel
theorem d_EM_init_581 : decode b_EM_init 581 = .ok (.iastore, 1) := by decide +kernel
theorem d_EM_init_582 : decode b_EM_init 582 = .ok (.iconst 0, 1) := by decide +kernel
theorem d_EM_init_583 : decode b_EM_init 583 = .ok (.istore_n 1, 1) := by decide +kernel
theorem d_EM_init_584 : decode b_EM_init 584 = .ok (.iload_n 1, 1) := by decide +kernel
theorem d_EM_init_585 : decode b_EM_init 585 = .ok (.bipush 8, 2) := by decide +kernel
theorem d_EM_init_587 : decode b_EM_init 587 = .ok (.if_icmp .ge 20, 3) := by decide +kernel
theorem d_EM_init_590 : decode b_EM_init 590 = .ok (.aload_n 0, 1) := by decide +kernel
theorem d_EM_init_591 : decode b_EM_init 591 = .ok (.getfield 80, 3) := by decide +kernel
theorem d_EM_init_594 : decode b_EM_init 594 = .ok (.bipush 8, 2) := by decide +kernel
theorem d_EM_init_596 : decode b_EM_init 596 = .ok (.iload_n 1, 1) := by decide +kernel
theorem d_EM_init_597 : decode b_EM_init 597 = .ok (.iadd, 1) := by decide +kernel
theorem d_EM_init_598 : decode b_EM_init 598 = .ok (.bipush 10, 2) := by decide +kernel
theorem d_EM_init_600 : decode b_EM_init 600 = .ok (.iastore, 1) := by decide +kernel
theorem d_EM_init_601 : decode b_EM_init 601 = .ok (.iinc 1 1, 3) := by decide +kernel
theorem d_EM_init_604 : decode b_EM_init 604 = .ok (.goto (-20), 3) := by decide +kernel
theorem d_EM_init_607 : decode b_EM_init 607 = .ok (.return_, 1) := by decide +kernel
