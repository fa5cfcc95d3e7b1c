theorem dX9_init_0 : decode cX9_init 0 = .ok (.aload_n 0, 1) := by decide +kernel
theorem dX9_init_1 : decode cX9_init 1 = .ok (.invokespecial 1, 3) := by decide +kernel
theorem dX9_init_4 : decode cX9_init 4 = .ok (.aload_n 0, 1) := by decide +kernel
theorem dX9_init_5 : decode cX9_init 5 = .ok (.sipush 1545, 3) := by decide +kernel
theorem dX9_init_8 : decode cX9_init 8 = .ok (.newarray .int, 2) := by decide +kernel
theorem dX9_init_10 : decode cX9_init 10 = .ok (.putfield 9, 3) := by decide +kernel
theorem dX9_init_13 : decode cX9_init 13 = .ok (.aload_n 0, 1) := by decide +kernel
theorem dX9_init_14 : decode cX9_init 14 = .ok (.sipush 1545, 3) := by decide +kernel
theorem dX9_init_17 : decode cX9_init 17 = .ok (.newarray .int, 2) := by decide +kernel
theorem dX9_init_19 : decode cX9_init 19 = .ok (.putfield 13, 3) := by decide +kernel
theorem dX9_init_22 : decode cX9_init 22 = .ok (.aload_n 0, 1) := by decide +kernel
theorem dX9_init_23 : decode cX9_init 23 = .ok (.sipush 1545, 3) := by decide +kernel
theorem dX9_init_26 : decode cX9_init 26 = .ok (.newarray .int, 2) := by decide +kernel
theorem dX9_init_28 : decode cX9_init 28 = .ok (.putfield 16, 3) := by decide +kernel
theorem dX9_init_31 : decode cX9_init 31 = .ok (.aload_n 0, 1) := by decide +kernel
theorem dX9_init_32 : decode cX9_init 32 = .ok (.bipush 6, 2) := by decide +kernel
theorem dX9_init_34 : decode cX9_init 34 = .ok (.newarray .int, 2) := by decide +kernel
theorem dX9_init_36 : decode cX9_init 36 = .ok (.putfield 19, 3) := by decide +kernel
theorem dX9_init_39 : decode cX9_init 39 = .ok (.aload_n 0, 1) := by decide +kernel
theorem dX9_init_40 : decode cX9_init 40 = .ok (.bipush 12, 2) := by decide +kernel
theorem dX9_init_42 : decode cX9_init 42 = .ok (.newarray .int, 2) := by decide +kernel
theorem dX9_init_44 : decode cX9_init 44 = .ok (.putfield 22, 3) := by decide +kernel
theorem dX9_init_47 : decode cX9_init 47 = .ok (.aload_n 0, 1) := by decide +kernel
theorem dX9_init_48 : decode cX9_init 48 = .ok (.bipush 12, 2) := by decide +kernel
theorem dX9_init_50 : decode cX9_init 50 = .ok (.newarray .int, 2) := by decide +kernel
theorem dX9_init_52 : decode cX9_init 52 = .ok (.putfield 25, 3) := by decide +kernel
theorem dX9_init_55 : decode cX9_init 55 = .ok (.aload_n 0, 1) := by decide +kernel
theorem dX9_init_56 : decode cX9_init 56 = .ok (.bipush 48, 2) := by decide +kernel
theorem dX9_init_58 : decode cX9_init 58 = .ok (.newarray .int, 2) := by decide +kernel
theorem dX9_init_60 : decode cX9_init 60 = .ok (.putfield 28, 3) := by decide +kernel
theorem dX9_init_63 : decode cX9_init 63 = .ok (.aload_n 0, 1) := by decide +kernel
theorem dX9_init_64 : decode cX9_init 64 = .ok (.iconst 4, 1) := by decide +kernel
theorem dX9_init_65 : decode cX9_init 65 = .ok (.newarray .long, 2) := by decide +kernel
theorem dX9_init_67 : decode cX9_init 67 = .ok (.putfield 31, 3) := by decide +kernel
theorem dX9_init_70 : decode cX9_init 70 = .ok (.aload_n 0, 1) := by decide +kernel
theorem dX9_init_71 : decode cX9_init 71 = .ok (.iconst 4, 1) := by decide +kernel
theorem dX9_init_72 : decode cX9_init 72 = .ok (.newarray .long, 2) := by decide +kernel
theorem dX9_init_74 : decode cX9_init 74 = .ok (.putfield 35, 3) := by decide +kernel
theorem dX9_init_77 : decode cX9_init 77 = .ok (.aload_n 0, 1) := by decide +kernel
theorem dX9_init_78 : decode cX9_init 78 = .ok (.sipush 9600, 3) := by decide +kernel
theorem dX9_init_81 : decode cX9_init 81 = .ok (.newarray .int, 2) := by decide +kernel
theorem dX9_init_83 : decode cX9_init 83 = .ok (.putfield 38, 3) := by decide +kernel
theorem dX9_init_86 : decode cX9_init 86 = .ok (.aload_n 0, 1) := by decide +kernel
theorem dX9_init_87 : decode cX9_init 87 = .ok (.sipush 9600, 3) := by decide +kernel
theorem dX9_init_90 : decode cX9_init 90 = .ok (.newarray .int, 2) := by decide +kernel
theorem dX9_init_92 : decode cX9_init 92 = .ok (.putfield 41, 3) := by decide +kernel
theorem dX9_init_95 : decode cX9_init 95 = .ok (.aload_n 0, 1) := by decide +kernel
theorem dX9_init_96 : decode cX9_init 96 = .ok (.sipush 9600, 3) := by decide +kernel
theorem dX9_init_99 : decode cX9_init 99 = .ok (.newarray .int, 2) := by decide +kernel
theorem dX9_init_101 : decode cX9_init 101 = .ok (.putfield 44, 3) := by decide +kernel
theorem dX9_init_104 : decode cX9_init 104 = .ok (.aload_n 0, 1) := by decide +kernel
theorem dX9_init_105 : decode cX9_init 105 = .ok (.sipush 9600, 3) := by decide +kernel
theorem dX9_init_108 : decode cX9_init 108 = .ok (.newarray .int, 2) := by decide +kernel
theorem dX9_init_110 : decode cX9_init 110 = .ok (.putfield 47, 3) := by decide +kernel
theorem dX9_init_113 : decode cX9_init 113 = .ok (.aload_n 0, 1) := by decide +kernel
theorem dX9_init_114 : decode cX9_init 114 = .ok (.bipush 96, 2) := by decide +kernel
theorem dX9_init_116 : decode cX9_init 116 = .ok (.newarray .int, 2) := by decide +kernel
theorem dX9_init_118 : decode cX9_init 118 = .ok (.putfield 50, 3) := by decide +kernel
theorem dX9_init_121 : decode cX9_init 121 = .ok (.aload_n 0, 1) := by decide +kernel
theorem dX9_init_122 : decode cX9_init 122 = .ok (.bipush 13, 2) := by decide +kernel
theorem dX9_init_124 : decode cX9_init 124 = .ok (.newarray .char, 2) := by decide +kernel
theorem dX9_init_126 : decode cX9_init 126 = .ok (.dup, 1) := by decide +kernel
theorem dX9_init_127 : decode cX9_init 127 = .ok (.iconst 0, 1) := by decide +kernel
theorem dX9_init_128 : decode cX9_init 128 = .ok (.bipush 119, 2) := by decide +kernel
theorem dX9_init_130 : decode cX9_init 130 = .ok (.castore, 1) := by decide +kernel
theorem dX9_init_131 : decode cX9_init 131 = .ok (.dup, 1) := by decide +kernel
theorem dX9_init_132 : decode cX9_init 132 = .ok (.iconst 1, 1) := by decide +kernel
theorem dX9_init_133 : decode cX9_init 133 = .ok (.bipush 97, 2) := by decide +kernel
theorem dX9_init_135 : decode cX9_init 135 = .ok (.castore, 1) := by decide +kernel
theorem dX9_init_136 : decode cX9_init 136 = .ok (.dup, 1) := by decide +kernel
theorem dX9_init_137 : decode cX9_init 137 = .ok (.iconst 2, 1) := by decide +kernel
theorem dX9_init_138 : decode cX9_init 138 = .ok (.bipush 105, 2) := by decide +kernel
theorem dX9_init_140 : decode cX9_init 140 = .ok (.castore, 1) := by decide +kernel
theorem dX9_init_141 : decode cX9_init 141 = .ok (.dup, 1) := by decide +kernel
theorem dX9_init_142 : decode cX9_init 142 = .ok (.iconst 3, 1) := by decide +kernel
theorem dX9_init_143 : decode cX9_init 143 = .ok (.bipush 116, 2) := by decide +kernel
theorem dX9_init_145 : decode cX9_init 145 = .ok (.castore, 1) := by decide +kernel
theorem dX9_init_146 : decode cX9_init 146 = .ok (.dup, 1) := by decide +kernel
theorem dX9_init_147 : decode cX9_init 147 = .ok (.iconst 4, 1) := by decide +kernel
theorem dX9_init_148 : decode cX9_init 148 = .ok (.bipush 115, 2) := by decide +kernel
theorem dX9_init_150 : decode cX9_init 150 = .ok (.castore, 1) := by decide +kernel
theorem dX9_init_151 : decode cX9_init 151 = .ok (.dup, 1) := by decide +kernel
theorem dX9_init_152 : decode cX9_init 152 = .ok (.iconst 5, 1) := by decide +kernel
theorem dX9_init_153 : decode cX9_init 153 = .ok (.bipush 116, 2) := by decide +kernel
theorem dX9_init_155 : decode cX9_init 155 = .ok (.castore, 1) := by decide +kernel
theorem dX9_init_156 : decode cX9_init 156 = .ok (.dup, 1) := by decide +kernel
theorem dX9_init_157 : decode cX9_init 157 = .ok (.bipush 6, 2) := by decide +kernel
theorem dX9_init_159 : decode cX9_init 159 = .ok (.bipush 105, 2) := by decide +kernel
theorem dX9_init_161 : decode cX9_init 161 = .ok (.castore, 1) := by decide +kernel
theorem dX9_init_162 : decode cX9_init 162 = .ok (.dup, 1) := by decide +kernel
theorem dX9_init_163 : decode cX9_init 163 = .ok (.bipush 7, 2) := by decide +kernel
theorem dX9_init_165 : decode cX9_init 165 = .ok (.bipush 100, 2) := by decide +kernel
theorem dX9_init_167 : decode cX9_init 167 = .ok (.castore, 1) := by decide +kernel
theorem dX9_init_168 : decode cX9_init 168 = .ok (.dup, 1) := by decide +kernel
theorem dX9_init_169 : decode cX9_init 169 = .ok (.bipush 8, 2) := by decide +kernel
theorem dX9_init_171 : decode cX9_init 171 = .ok (.bipush 101, 2) := by decide +kernel
theorem dX9_init_173 : decode cX9_init 173 = .ok (.castore, 1) := by decide +kernel
theorem dX9_init_174 : decode cX9_init 174 = .ok (.dup, 1) := by decide +kernel
theorem dX9_init_175 : decode cX9_init 175 = .ok (.bipush 9, 2) := by decide +kernel
theorem dX9_init_177 : decode cX9_init 177 = .ok (.bipush 119, 2) := by decide +kernel
theorem dX9_init_179 : decode cX9_init 179 = .ok (.castore, 1) := by decide +kernel
theorem dX9_init_180 : decode cX9_init 180 = .ok (.dup, 1) := by decide +kernel
theorem dX9_init_181 : decode cX9_init 181 = .ok (.bipush 10, 2) := by decide +kernel
theorem dX9_init_183 : decode cX9_init 183 = .ok (.bipush 97, 2) := by decide +kernel
theorem dX9_init_185 : decode cX9_init 185 = .ok (.castore, 1) := by decide +kernel
theorem dX9_init_186 : decode cX9_init 186 = .ok (.dup, 1) := by decide +kernel
theorem dX9_init_187 : decode cX9_init 187 = .ok (.bipush 11, 2) := by decide +kernel
theorem dX9_init_189 : decode cX9_init 189 = .ok (.bipush 108, 2) := by decide +kernel
theorem dX9_init_191 : decode cX9_init 191 = .ok (.castore, 1) := by decide +kernel
theorem dX9_init_192 : decode cX9_init 192 = .ok (.dup, 1) := by decide +kernel
theorem dX9_init_193 : decode cX9_init 193 = .ok (.bipush 12, 2) := by decide +kernel
theorem dX9_init_195 : decode cX9_init 195 = .ok (.bipush 107, 2) := by decide +kernel
theorem dX9_init_197 : decode cX9_init 197 = .ok (.castore, 1) := by decide +kernel
theorem dX9_init_198 : decode cX9_init 198 = .ok (.putfield 53, 3) := by decide +kernel
theorem dX9_init_201 : decode cX9_init 201 = .ok (.aload_n 0, 1) := by decide +kernel
theorem dX9_init_202 : decode cX9_init 202 = .ok (.iconst 4, 1) := by decide +kernel
theorem dX9_init_203 : decode cX9_init 203 = .ok (.newarray .int, 2) := by decide +kernel
theorem dX9_init_205 : decode cX9_init 205 = .ok (.dup, 1) := by decide +kernel
theorem dX9_init_206 : decode cX9_init 206 = .ok (.iconst 0, 1) := by decide +kernel
theorem dX9_init_207 : decode cX9_init 207 = .ok (.iconst 0, 1) := by decide +kernel
theorem dX9_init_208 : decode cX9_init 208 = .ok (.iastore, 1) := by decide +kernel
theorem dX9_init_209 : decode cX9_init 209 = .ok (.dup, 1) := by decide +kernel
theorem dX9_init_210 : decode cX9_init 210 = .ok (.iconst 1, 1) := by decide +kernel
theorem dX9_init_211 : decode cX9_init 211 = .ok (.iconst 5, 1) := by decide +kernel
theorem dX9_init_212 : decode cX9_init 212 = .ok (.iastore, 1) := by decide +kernel
theorem dX9_init_213 : decode cX9_init 213 = .ok (.dup, 1) := by decide +kernel
theorem dX9_init_214 : decode cX9_init 214 = .ok (.iconst 2, 1) := by decide +kernel
theorem dX9_init_215 : decode cX9_init 215 = .ok (.bipush 9, 2) := by decide +kernel
theorem dX9_init_217 : decode cX9_init 217 = .ok (.iastore, 1) := by decide +kernel
theorem dX9_init_218 : decode cX9_init 218 = .ok (.dup, 1) := by decide +kernel
theorem dX9_init_219 : decode cX9_init 219 = .ok (.iconst 3, 1) := by decide +kernel
theorem dX9_init_220 : decode cX9_init 220 = .ok (.bipush 13, 2) := by decide +kernel
theorem dX9_init_222 : decode cX9_init 222 = .ok (.iastore, 1) := by decide +kernel
theorem dX9_init_223 : decode cX9_init 223 = .ok (.putfield 57, 3) := by decide +kernel
theorem dX9_init_226 : decode cX9_init 226 = .ok (.aload_n 0, 1) := by decide +kernel
theorem dX9_init_227 : decode cX9_init 227 = .ok (.bipush 96, 2) := by decide +kernel
theorem dX9_init_229 : decode cX9_init 229 = .ok (.newarray .int, 2) := by decide +kernel
theorem dX9_init_231 : decode cX9_init 231 = .ok (.putfield 60, 3) := by decide +kernel
theorem dX9_init_234 : decode cX9_init 234 = .ok (.aload_n 0, 1) := by decide +kernel
theorem dX9_init_235 : decode cX9_init 235 = .ok (.bipush 96, 2) := by decide +kernel
theorem dX9_init_237 : decode cX9_init 237 = .ok (.newarray .int, 2) := by decide +kernel
theorem dX9_init_239 : decode cX9_init 239 = .ok (.putfield 63, 3) := by decide +kernel
theorem dX9_init_242 : decode cX9_init 242 = .ok (.aload_n 0, 1) := by decide +kernel
theorem dX9_init_243 : decode cX9_init 243 = .ok (.bipush 10, 2) := by decide +kernel
theorem dX9_init_245 : decode cX9_init 245 = .ok (.newarray .boolean, 2) := by decide +kernel
theorem dX9_init_247 : decode cX9_init 247 = .ok (.putfield 66, 3) := by decide +kernel
theorem dX9_init_250 : decode cX9_init 250 = .ok (.aload_n 0, 1) := by decide +kernel
theorem dX9_init_251 : decode cX9_init 251 = .ok (.bipush 96, 2) := by decide +kernel
theorem dX9_init_253 : decode cX9_init 253 = .ok (.newarray .int, 2) := by decide +kernel
theorem dX9_init_255 : decode cX9_init 255 = .ok (.putfield 70, 3) := by decide +kernel
theorem dX9_init_258 : decode cX9_init 258 = .ok (.aload_n 0, 1) := by decide +kernel
theorem dX9_init_259 : decode cX9_init 259 = .ok (.iconst 4, 1) := by decide +kernel
theorem dX9_init_260 : decode cX9_init 260 = .ok (.newarray .int, 2) := by decide +kernel
theorem dX9_init_262 : decode cX9_init 262 = .ok (.putfield 73, 3) := by decide +kernel
theorem dX9_init_265 : decode cX9_init 265 = .ok (.aload_n 0, 1) := by decide +kernel
theorem dX9_init_266 : decode cX9_init 266 = .ok (.iconst 4, 1) := by decide +kernel
theorem dX9_init_267 : decode cX9_init 267 = .ok (.newarray .int, 2) := by decide +kernel
theorem dX9_init_269 : decode cX9_init 269 = .ok (.dup, 1) := by decide +kernel
theorem dX9_init_270 : decode cX9_init 270 = .ok (.iconst 0, 1) := by decide +kernel
theorem dX9_init_271 : decode cX9_init 271 = .ok (.iconst (-1), 1) := by decide +kernel
theorem dX9_init_272 : decode cX9_init 272 = .ok (.iastore, 1) := by decide +kernel
theorem dX9_init_273 : decode cX9_init 273 = .ok (.dup, 1) := by decide +kernel
theorem dX9_init_274 : decode cX9_init 274 = .ok (.iconst 1, 1) := by decide +kernel
theorem dX9_init_275 : decode cX9_init 275 = .ok (.iconst (-1), 1) := by decide +kernel
theorem dX9_init_276 : decode cX9_init 276 = .ok (.iastore, 1) := by decide +kernel
theorem dX9_init_277 : decode cX9_init 277 = .ok (.dup, 1) := by decide +kernel
theorem dX9_init_278 : decode cX9_init 278 = .ok (.iconst 2, 1) := by decide +kernel
theorem dX9_init_279 : decode cX9_init 279 = .ok (.iconst (-1), 1) := by decide +kernel
theorem dX9_init_280 : decode cX9_init 280 = .ok (.iastore, 1) := by decide +kernel
theorem dX9_init_281 : decode cX9_init 281 = .ok (.dup, 1) := by decide +kernel
theorem dX9_init_282 : decode cX9_init 282 = .ok (.iconst 3, 1) := by decide +kernel
theorem dX9_init_283 : decode cX9_init 283 = .ok (.iconst (-1), 1) := by decide +kernel
theorem dX9_init_284 : decode cX9_init 284 = .ok (.iastore, 1) := by decide +kernel
theorem dX9_init_285 : decode cX9_init 285 = .ok (.putfield 76, 3) := by decide +kernel
theorem dX9_init_288 : decode cX9_init 288 = .ok (.aload_n 0, 1) := by decide +kernel
theorem dX9_init_289 : decode cX9_init 289 = .ok (.iconst 4, 1) := by decide +kernel
theorem dX9_init_290 : decode cX9_init 290 = .ok (.newarray .int, 2) := by decide +kernel
theorem dX9_init_292 : decode cX9_init 292 = .ok (.putfield 79, 3) := by decide +kernel
theorem dX9_init_295 : decode cX9_init 295 = .ok (.aload_n 0, 1) := by decide +kernel
theorem dX9_init_296 : decode cX9_init 296 = .ok (.bipush 96, 2) := by decide +kernel
theorem dX9_init_298 : decode cX9_init 298 = .ok (.newarray .int, 2) := by decide +kernel
theorem dX9_init_300 : decode cX9_init 300 = .ok (.putfield 82, 3) := by decide +kernel
theorem dX9_init_303 : decode cX9_init 303 = .ok (.aload_n 0, 1) := by decide +kernel
theorem dX9_init_304 : decode cX9_init 304 = .ok (.iconst 5, 1) := by decide +kernel
theorem dX9_init_305 : decode cX9_init 305 = .ok (.newarray .int, 2) := by decide +kernel
theorem dX9_init_307 : decode cX9_init 307 = .ok (.putfield 85, 3) := by decide +kernel
theorem dX9_init_310 : decode cX9_init 310 = .ok (.aload_n 0, 1) := by decide +kernel
theorem dX9_init_311 : decode cX9_init 311 = .ok (.iconst 5, 1) := by decide +kernel
theorem dX9_init_312 : decode cX9_init 312 = .ok (.newarray .int, 2) := by decide +kernel
theorem dX9_init_314 : decode cX9_init 314 = .ok (.putfield 88, 3) := by decide +kernel
theorem dX9_init_317 : decode cX9_init 317 = .ok (.aload_n 0, 1) := by decide +kernel
theorem dX9_init_318 : decode cX9_init 318 = .ok (.iconst 5, 1) := by decide +kernel
theorem dX9_init_319 : decode cX9_init 319 = .ok (.newarray .int, 2) := by decide +kernel
theorem dX9_init_321 : decode cX9_init 321 = .ok (.putfield 91, 3) := by decide +kernel
theorem dX9_init_324 : decode cX9_init 324 = .ok (.aload_n 0, 1) := by decide +kernel
theorem dX9_init_325 : decode cX9_init 325 = .ok (.bipush 120, 2) := by decide +kernel
theorem dX9_init_327 : decode cX9_init 327 = .ok (.newarray .int, 2) := by decide +kernel
theorem dX9_init_329 : decode cX9_init 329 = .ok (.putfield 94, 3) := by decide +kernel
theorem dX9_init_332 : decode cX9_init 332 = .ok (.aload_n 0, 1) := by decide +kernel
theorem dX9_init_333 : decode cX9_init 333 = .ok (.bipush 24, 2) := by decide +kernel
theorem dX9_init_335 : decode cX9_init 335 = .ok (.newarray .int, 2) := by decide +kernel
theorem dX9_init_337 : decode cX9_init 337 = .ok (.putfield 97, 3) := by decide +kernel
theorem dX9_init_340 : decode cX9_init 340 = .ok (.aload_n 0, 1) := by decide +kernel
theorem dX9_init_341 : decode cX9_init 341 = .ok (.bipush 60, 2) := by decide +kernel
theorem dX9_init_343 : decode cX9_init 343 = .ok (.newarray .int, 2) := by decide +kernel
theorem dX9_init_345 : decode cX9_init 345 = .ok (.putfield 100, 3) := by decide +kernel
theorem dX9_init_348 : decode cX9_init 348 = .ok (.aload_n 0, 1) := by decide +kernel
theorem dX9_init_349 : decode cX9_init 349 = .ok (.getfield 9, 3) := by decide +kernel
theorem dX9_init_352 : decode cX9_init 352 = .ok (.iconst 0, 1) := by decide +kernel
theorem dX9_init_353 : decode cX9_init 353 = .ok (.iconst 1, 1) := by decide +kernel
theorem dX9_init_354 : decode cX9_init 354 = .ok (.iastore, 1) := by decide +kernel
theorem dX9_init_355 : decode cX9_init 355 = .ok (.aload_n 0, 1) := by decide +kernel
theorem dX9_init_356 : decode cX9_init 356 = .ok (.getfield 9, 3) := by decide +kernel
theorem dX9_init_359 : decode cX9_init 359 = .ok (.iconst 3, 1) := by decide +kernel
theorem dX9_init_360 : decode cX9_init 360 = .ok (.sipush 720, 3) := by decide +kernel
theorem dX9_init_363 : decode cX9_init 363 = .ok (.iastore, 1) := by decide +kernel
theorem dX9_init_364 : decode cX9_init 364 = .ok (.return_, 1) := by decide +kernel
theorem dX9_in_0 : decode cX9_in 0 = .ok (.iload_n 0, 1) := by decide +kernel
theorem dX9_in_1 : decode cX9_in 1 = .ok (.iload_n 1, 1) := by decide +kernel
theorem dX9_in_2 : decode cX9_in 2 = .ok (.if_icmp .lt 12, 3) := by decide +kernel
theorem dX9_in_5 : decode cX9_in 5 = .ok (.iload_n 0, 1) := by decide +kernel
theorem dX9_in_6 : decode cX9_in 6 = .ok (.iload_n 2, 1) := by decide +kernel
theorem dX9_in_7 : decode cX9_in 7 = .ok (.if_icmp .gt 7, 3) := by decide +kernel
theorem dX9_in_10 : decode cX9_in 10 = .ok (.iconst 1, 1) := by decide +kernel
theorem dX9_in_11 : decode cX9_in 11 = .ok (.goto 4, 3) := by decide +kernel
theorem dX9_in_14 : decode cX9_in 14 = .ok (.iconst 0, 1) := by decide +kernel
theorem dX9_in_15 : decode cX9_in 15 = .ok (.ireturn, 1) := by decide +kernel
theorem dX9_within_0 : decode cX9_within 0 = .ok (.iload_n 0, 1) := by decide +kernel
theorem dX9_within_1 : decode cX9_within 1 = .ok (.iload_n 1, 1) := by decide +kernel
theorem dX9_within_2 : decode cX9_within 2 = .ok (.if_icmp .ge 7, 3) := by decide +kernel
theorem dX9_within_5 : decode cX9_within 5 = .ok (.iload_n 1, 1) := by decide +kernel
theorem dX9_within_6 : decode cX9_within 6 = .ok (.goto 13, 3) := by decide +kernel
theorem dX9_within_9 : decode cX9_within 9 = .ok (.iload_n 0, 1) := by decide +kernel
theorem dX9_within_10 : decode cX9_within 10 = .ok (.iload_n 2, 1) := by decide +kernel
theorem dX9_within_11 : decode cX9_within 11 = .ok (.if_icmp .le 7, 3) := by decide +kernel
theorem dX9_within_14 : decode cX9_within 14 = .ok (.iload_n 2, 1) := by decide +kernel
theorem dX9_within_15 : decode cX9_within 15 = .ok (.goto 4, 3) := by decide +kernel
theorem dX9_within_18 : decode cX9_within 18 = .ok (.iload_n 0, 1) := by decide +kernel
theorem dX9_within_19 : decode cX9_within 19 = .ok (.ireturn, 1) := by decide +kernel
theorem dX9_copyAll_0 : decode cX9_copyAll 0 = .ok (.iconst 0, 1) := by decide +kernel
theorem dX9_copyAll_1 : decode cX9_copyAll 1 = .ok (.istore_n 2, 1) := by decide +kernel
theorem dX9_copyAll_2 : decode cX9_copyAll 2 = .ok (.iload_n 2, 1) := by decide +kernel
theorem dX9_copyAll_3 : decode cX9_copyAll 3 = .ok (.sipush 1545, 3) := by decide +kernel
theorem dX9_copyAll_6 : decode cX9_copyAll 6 = .ok (.if_icmp .ge 15, 3) := by decide +kernel
theorem dX9_copyAll_9 : decode cX9_copyAll 9 = .ok (.aload_n 1, 1) := by decide +kernel
theorem dX9_copyAll_10 : decode cX9_copyAll 10 = .ok (.iload_n 2, 1) := by decide +kernel
theorem dX9_copyAll_11 : decode cX9_copyAll 11 = .ok (.aload_n 0, 1) := by decide +kernel
theorem dX9_copyAll_12 : decode cX9_copyAll 12 = .ok (.iload_n 2, 1) := by decide +kernel
theorem dX9_copyAll_13 : decode cX9_copyAll 13 = .ok (.iaload, 1) := by decide +kernel
theorem dX9_copyAll_14 : decode cX9_copyAll 14 = .ok (.iastore, 1) := by decide +kernel
theorem dX9_copyAll_15 : decode cX9_copyAll 15 = .ok (.iinc 2 1, 3) := by decide +kernel
theorem dX9_copyAll_18 : decode cX9_copyAll 18 = .ok (.goto (-16), 3) := by decide +kernel
theorem dX9_copyAll_21 : decode cX9_copyAll 21 = .ok (.return_, 1) := by decide +kernel
theorem dX9_isStop_0 : decode cX9_isStop 0 = .ok (.iload_n 1, 1) := by decide +kernel
theorem dX9_isStop_1 : decode cX9_isStop 1 = .ok (.iconst 0, 1) := by decide +kernel
theorem dX9_isStop_2 : decode cX9_isStop 2 = .ok (.aload_n 0, 1) := by decide +kernel
theorem dX9_isStop_3 : decode cX9_isStop 3 = .ok (.getfield 9, 3) := by decide +kernel
theorem dX9_isStop_6 : decode cX9_isStop 6 = .ok (.iconst 4, 1) := by decide +kernel
theorem dX9_isStop_7 : decode cX9_isStop 7 = .ok (.iaload, 1) := by decide +kernel
theorem dX9_isStop_8 : decode cX9_isStop 8 = .ok (.iconst 1, 1) := by decide +kernel
theorem dX9_isStop_9 : decode cX9_isStop 9 = .ok (.isub, 1) := by decide +kernel
theorem dX9_isStop_10 : decode cX9_isStop 10 = .ok (.invokestatic 103, 3) := by decide +kernel
theorem dX9_isStop_13 : decode cX9_isStop 13 = .ok (.ireturn, 1) := by decide +kernel
theorem dX9_isTrain_0 : decode cX9_isTrain 0 = .ok (.iload_n 1, 1) := by decide +kernel
theorem dX9_isTrain_1 : decode cX9_isTrain 1 = .ok (.iconst 0, 1) := by decide +kernel
theorem dX9_isTrain_2 : decode cX9_isTrain 2 = .ok (.aload_n 0, 1) := by decide +kernel
theorem dX9_isTrain_3 : decode cX9_isTrain 3 = .ok (.getfield 9, 3) := by decide +kernel
theorem dX9_isTrain_6 : decode cX9_isTrain 6 = .ok (.iconst 5, 1) := by decide +kernel
theorem dX9_isTrain_7 : decode cX9_isTrain 7 = .ok (.iaload, 1) := by decide +kernel
theorem dX9_isTrain_8 : decode cX9_isTrain 8 = .ok (.iconst 1, 1) := by decide +kernel
theorem dX9_isTrain_9 : decode cX9_isTrain 9 = .ok (.isub, 1) := by decide +kernel
theorem dX9_isTrain_10 : decode cX9_isTrain 10 = .ok (.invokestatic 103, 3) := by decide +kernel
theorem dX9_isTrain_13 : decode cX9_isTrain 13 = .ok (.ireturn, 1) := by decide +kernel
theorem dX9_of_0 : decode cX9_of 0 = .ok (.aload_n 0, 1) := by decide +kernel
theorem dX9_of_1 : decode cX9_of 1 = .ok (.getfield 9, 3) := by decide +kernel
theorem dX9_of_4 : decode cX9_of 4 = .ok (.bipush 15, 2) := by decide +kernel
theorem dX9_of_6 : decode cX9_of 6 = .ok (.bipush 11, 2) := by decide +kernel
theorem dX9_of_8 : decode cX9_of 8 = .ok (.iload_n 1, 1) := by decide +kernel
theorem dX9_of_9 : decode cX9_of 9 = .ok (.imul, 1) := by decide +kernel
theorem dX9_of_10 : decode cX9_of 10 = .ok (.iadd, 1) := by decide +kernel
theorem dX9_of_11 : decode cX9_of 11 = .ok (.iload_n 2, 1) := by decide +kernel
theorem dX9_of_12 : decode cX9_of 12 = .ok (.iadd, 1) := by decide +kernel
theorem dX9_of_13 : decode cX9_of 13 = .ok (.iaload, 1) := by decide +kernel
theorem dX9_of_14 : decode cX9_of 14 = .ok (.ireturn, 1) := by decide +kernel
theorem dX9_becomes_0 : decode cX9_becomes 0 = .ok (.aload_n 0, 1) := by decide +kernel
theorem dX9_becomes_1 : decode cX9_becomes 1 = .ok (.iload_n 1, 1) := by decide +kernel
theorem dX9_becomes_2 : decode cX9_becomes 2 = .ok (.iload_n 2, 1) := by decide +kernel
theorem dX9_becomes_3 : decode cX9_becomes 3 = .ok (.invokevirtual 107, 3) := by decide +kernel
theorem dX9_becomes_6 : decode cX9_becomes 6 = .ok (.istore 4, 2) := by decide +kernel
theorem dX9_becomes_8 : decode cX9_becomes 8 = .ok (.aload_n 0, 1) := by decide +kernel
theorem dX9_becomes_9 : decode cX9_becomes 9 = .ok (.getfield 9, 3) := by decide +kernel
theorem dX9_becomes_12 : decode cX9_becomes 12 = .ok (.bipush 15, 2) := by decide +kernel
theorem dX9_becomes_14 : decode cX9_becomes 14 = .ok (.bipush 11, 2) := by decide +kernel
theorem dX9_becomes_16 : decode cX9_becomes 16 = .ok (.iload_n 1, 1) := by decide +kernel
theorem dX9_becomes_17 : decode cX9_becomes 17 = .ok (.imul, 1) := by decide +kernel
theorem dX9_becomes_18 : decode cX9_becomes 18 = .ok (.iadd, 1) := by decide +kernel
theorem dX9_becomes_19 : decode cX9_becomes 19 = .ok (.iload_n 2, 1) := by decide +kernel
theorem dX9_becomes_20 : decode cX9_becomes 20 = .ok (.iadd, 1) := by decide +kernel
theorem dX9_becomes_21 : decode cX9_becomes 21 = .ok (.iload_n 3, 1) := by decide +kernel
theorem dX9_becomes_22 : decode cX9_becomes 22 = .ok (.iastore, 1) := by decide +kernel
theorem dX9_becomes_23 : decode cX9_becomes 23 = .ok (.aload_n 0, 1) := by decide +kernel
theorem dX9_becomes_24 : decode cX9_becomes 24 = .ok (.iconst 0, 1) := by decide +kernel
theorem dX9_becomes_25 : decode cX9_becomes 25 = .ok (.putfield 111, 3) := by decide +kernel
theorem dX9_becomes_28 : decode cX9_becomes 28 = .ok (.iload 4, 2) := by decide +kernel
theorem dX9_becomes_30 : decode cX9_becomes 30 = .ok (.ireturn, 1) := by decide +kernel
theorem dX9_orNone_0 : decode cX9_orNone 0 = .ok (.iload_n 0, 1) := by decide +kernel
theorem dX9_orNone_1 : decode cX9_orNone 1 = .ok (.ifCond .ge 8, 3) := by decide +kernel
theorem dX9_orNone_4 : decode cX9_orNone 4 = .ok (.ldc 115, 2) := by decide +kernel
theorem dX9_orNone_6 : decode cX9_orNone 6 = .ok (.goto 4, 3) := by decide +kernel
theorem dX9_orNone_9 : decode cX9_orNone 9 = .ok (.iload_n 0, 1) := by decide +kernel
theorem dX9_orNone_10 : decode cX9_orNone 10 = .ok (.ireturn, 1) := by decide +kernel
theorem dX9_walkOf_0 : decode cX9_walkOf 0 = .ok (.aload_n 0, 1) := by decide +kernel
theorem dX9_walkOf_1 : decode cX9_walkOf 1 = .ok (.iconst 2, 1) := by decide +kernel
theorem dX9_walkOf_2 : decode cX9_walkOf 2 = .ok (.invokevirtual 116, 3) := by decide +kernel
theorem dX9_walkOf_5 : decode cX9_walkOf 5 = .ok (.istore_n 2, 1) := by decide +kernel
theorem dX9_walkOf_6 : decode cX9_walkOf 6 = .ok (.aload_n 0, 1) := by decide +kernel
theorem dX9_walkOf_7 : decode cX9_walkOf 7 = .ok (.getfield 73, 3) := by decide +kernel
theorem dX9_walkOf_10 : decode cX9_walkOf 10 = .ok (.iconst 0, 1) := by decide +kernel
theorem dX9_walkOf_11 : decode cX9_walkOf 11 = .ok (.iload_n 1, 1) := by decide +kernel
theorem dX9_walkOf_12 : decode cX9_walkOf 12 = .ok (.iastore, 1) := by decide +kernel
theorem dX9_walkOf_13 : decode cX9_walkOf 13 = .ok (.aload_n 0, 1) := by decide +kernel
theorem dX9_walkOf_14 : decode cX9_walkOf 14 = .ok (.getfield 73, 3) := by decide +kernel
theorem dX9_walkOf_17 : decode cX9_walkOf 17 = .ok (.iconst 1, 1) := by decide +kernel
theorem dX9_walkOf_18 : decode cX9_walkOf 18 = .ok (.aload_n 0, 1) := by decide +kernel
theorem dX9_walkOf_19 : decode cX9_walkOf 19 = .ok (.getfield 9, 3) := by decide +kernel
theorem dX9_walkOf_22 : decode cX9_walkOf 22 = .ok (.bipush 9, 2) := by decide +kernel
theorem dX9_walkOf_24 : decode cX9_walkOf 24 = .ok (.iload_n 1, 1) := by decide +kernel
theorem dX9_walkOf_25 : decode cX9_walkOf 25 = .ok (.iadd, 1) := by decide +kernel
theorem dX9_walkOf_26 : decode cX9_walkOf 26 = .ok (.iaload, 1) := by decide +kernel
theorem dX9_walkOf_27 : decode cX9_walkOf 27 = .ok (.iastore, 1) := by decide +kernel
theorem dX9_walkOf_28 : decode cX9_walkOf 28 = .ok (.aload_n 0, 1) := by decide +kernel
theorem dX9_walkOf_29 : decode cX9_walkOf 29 = .ok (.getfield 73, 3) := by decide +kernel
theorem dX9_walkOf_32 : decode cX9_walkOf 32 = .ok (.iconst 2, 1) := by decide +kernel
theorem dX9_walkOf_33 : decode cX9_walkOf 33 = .ok (.aload_n 0, 1) := by decide +kernel
theorem dX9_walkOf_34 : decode cX9_walkOf 34 = .ok (.getfield 9, 3) := by decide +kernel
theorem dX9_walkOf_37 : decode cX9_walkOf 37 = .ok (.iconst 1, 1) := by decide +kernel
theorem dX9_walkOf_38 : decode cX9_walkOf 38 = .ok (.iaload, 1) := by decide +kernel
theorem dX9_walkOf_39 : decode cX9_walkOf 39 = .ok (.iastore, 1) := by decide +kernel
theorem dX9_walkOf_40 : decode cX9_walkOf 40 = .ok (.iload_n 2, 1) := by decide +kernel
theorem dX9_walkOf_41 : decode cX9_walkOf 41 = .ok (.ifCond .ge 15, 3) := by decide +kernel
theorem dX9_walkOf_44 : decode cX9_walkOf 44 = .ok (.aload_n 0, 1) := by decide +kernel
theorem dX9_walkOf_45 : decode cX9_walkOf 45 = .ok (.getfield 9, 3) := by decide +kernel
theorem dX9_walkOf_48 : decode cX9_walkOf 48 = .ok (.bipush 9, 2) := by decide +kernel
theorem dX9_walkOf_50 : decode cX9_walkOf 50 = .ok (.iload_n 1, 1) := by decide +kernel
theorem dX9_walkOf_51 : decode cX9_walkOf 51 = .ok (.iadd, 1) := by decide +kernel
theorem dX9_walkOf_52 : decode cX9_walkOf 52 = .ok (.iaload, 1) := by decide +kernel
theorem dX9_walkOf_53 : decode cX9_walkOf 53 = .ok (.goto 14, 3) := by decide +kernel
theorem dX9_walkOf_56 : decode cX9_walkOf 56 = .ok (.aload_n 0, 1) := by decide +kernel
theorem dX9_walkOf_57 : decode cX9_walkOf 57 = .ok (.iload_n 2, 1) := by decide +kernel
theorem dX9_walkOf_58 : decode cX9_walkOf 58 = .ok (.invokevirtual 120, 3) := by decide +kernel
theorem dX9_walkOf_61 : decode cX9_walkOf 61 = .ok (.iconst 0, 1) := by decide +kernel
theorem dX9_walkOf_62 : decode cX9_walkOf 62 = .ok (.bipush 99, 2) := by decide +kernel
theorem dX9_walkOf_64 : decode cX9_walkOf 64 = .ok (.invokestatic 123, 3) := by decide +kernel
theorem dX9_walkOf_67 : decode cX9_walkOf 67 = .ok (.ireturn, 1) := by decide +kernel
theorem dX9_waitsOf_0 : decode cX9_waitsOf 0 = .ok (.aload_n 0, 1) := by decide +kernel
theorem dX9_waitsOf_1 : decode cX9_waitsOf 1 = .ok (.iload_n 1, 1) := by decide +kernel
theorem dX9_waitsOf_2 : decode cX9_waitsOf 2 = .ok (.iconst 0, 1) := by decide +kernel
theorem dX9_waitsOf_3 : decode cX9_waitsOf 3 = .ok (.invokevirtual 107, 3) := by decide +kernel
theorem dX9_waitsOf_6 : decode cX9_waitsOf 6 = .ok (.istore_n 2, 1) := by decide +kernel
theorem dX9_waitsOf_7 : decode cX9_waitsOf 7 = .ok (.aload_n 0, 1) := by decide +kernel
theorem dX9_waitsOf_8 : decode cX9_waitsOf 8 = .ok (.iconst 0, 1) := by decide +kernel
theorem dX9_waitsOf_9 : decode cX9_waitsOf 9 = .ok (.invokevirtual 116, 3) := by decide +kernel
theorem dX9_waitsOf_12 : decode cX9_waitsOf 12 = .ok (.istore_n 3, 1) := by decide +kernel
theorem dX9_waitsOf_13 : decode cX9_waitsOf 13 = .ok (.aload_n 0, 1) := by decide +kernel
theorem dX9_waitsOf_14 : decode cX9_waitsOf 14 = .ok (.getfield 73, 3) := by decide +kernel
theorem dX9_waitsOf_17 : decode cX9_waitsOf 17 = .ok (.iconst 0, 1) := by decide +kernel
theorem dX9_waitsOf_18 : decode cX9_waitsOf 18 = .ok (.iload_n 2, 1) := by decide +kernel
theorem dX9_waitsOf_19 : decode cX9_waitsOf 19 = .ok (.iastore, 1) := by decide +kernel
theorem dX9_waitsOf_20 : decode cX9_waitsOf 20 = .ok (.aload_n 0, 1) := by decide +kernel
theorem dX9_waitsOf_21 : decode cX9_waitsOf 21 = .ok (.getfield 73, 3) := by decide +kernel
theorem dX9_waitsOf_24 : decode cX9_waitsOf 24 = .ok (.iconst 1, 1) := by decide +kernel
theorem dX9_waitsOf_25 : decode cX9_waitsOf 25 = .ok (.iload_n 1, 1) := by decide +kernel
theorem dX9_waitsOf_26 : decode cX9_waitsOf 26 = .ok (.iastore, 1) := by decide +kernel
theorem dX9_waitsOf_27 : decode cX9_waitsOf 27 = .ok (.aload_n 0, 1) := by decide +kernel
theorem dX9_waitsOf_28 : decode cX9_waitsOf 28 = .ok (.getfield 73, 3) := by decide +kernel
theorem dX9_waitsOf_31 : decode cX9_waitsOf 31 = .ok (.iconst 2, 1) := by decide +kernel
theorem dX9_waitsOf_32 : decode cX9_waitsOf 32 = .ok (.aload_n 0, 1) := by decide +kernel
theorem dX9_waitsOf_33 : decode cX9_waitsOf 33 = .ok (.getfield 9, 3) := by decide +kernel
theorem dX9_waitsOf_36 : decode cX9_waitsOf 36 = .ok (.iconst 1, 1) := by decide +kernel
theorem dX9_waitsOf_37 : decode cX9_waitsOf 37 = .ok (.iaload, 1) := by decide +kernel
theorem dX9_waitsOf_38 : decode cX9_waitsOf 38 = .ok (.iastore, 1) := by decide +kernel
theorem dX9_waitsOf_39 : decode cX9_waitsOf 39 = .ok (.iload_n 3, 1) := by decide +kernel
theorem dX9_waitsOf_40 : decode cX9_waitsOf 40 = .ok (.ifCond .ge 26, 3) := by decide +kernel
theorem dX9_waitsOf_43 : decode cX9_waitsOf 43 = .ok (.iload_n 2, 1) := by decide +kernel
theorem dX9_waitsOf_44 : decode cX9_waitsOf 44 = .ok (.iconst 2, 1) := by decide +kernel
theorem dX9_waitsOf_45 : decode cX9_waitsOf 45 = .ok (.if_icmp .ne 7, 3) := by decide +kernel
theorem dX9_waitsOf_48 : decode cX9_waitsOf 48 = .ok (.iconst 5, 1) := by decide +kernel
theorem dX9_waitsOf_49 : decode cX9_waitsOf 49 = .ok (.goto 28, 3) := by decide +kernel
theorem dX9_waitsOf_52 : decode cX9_waitsOf 52 = .ok (.iload_n 2, 1) := by decide +kernel
theorem dX9_waitsOf_53 : decode cX9_waitsOf 53 = .ok (.iconst 4, 1) := by decide +kernel
theorem dX9_waitsOf_54 : decode cX9_waitsOf 54 = .ok (.if_icmp .lt 8, 3) := by decide +kernel
theorem dX9_waitsOf_57 : decode cX9_waitsOf 57 = .ok (.bipush 10, 2) := by decide +kernel
theorem dX9_waitsOf_59 : decode cX9_waitsOf 59 = .ok (.goto 18, 3) := by decide +kernel
theorem dX9_waitsOf_62 : decode cX9_waitsOf 62 = .ok (.iconst 0, 1) := by decide +kernel
theorem dX9_waitsOf_63 : decode cX9_waitsOf 63 = .ok (.goto 14, 3) := by decide +kernel
theorem dX9_waitsOf_66 : decode cX9_waitsOf 66 = .ok (.aload_n 0, 1) := by decide +kernel
theorem dX9_waitsOf_67 : decode cX9_waitsOf 67 = .ok (.iload_n 3, 1) := by decide +kernel
theorem dX9_waitsOf_68 : decode cX9_waitsOf 68 = .ok (.invokevirtual 120, 3) := by decide +kernel
theorem dX9_waitsOf_71 : decode cX9_waitsOf 71 = .ok (.iconst 0, 1) := by decide +kernel
theorem dX9_waitsOf_72 : decode cX9_waitsOf 72 = .ok (.bipush 30, 2) := by decide +kernel
theorem dX9_waitsOf_74 : decode cX9_waitsOf 74 = .ok (.invokestatic 123, 3) := by decide +kernel
theorem dX9_waitsOf_77 : decode cX9_waitsOf 77 = .ok (.ireturn, 1) := by decide +kernel
theorem dX9_tideOf_0 : decode cX9_tideOf 0 = .ok (.aload_n 0, 1) := by decide +kernel
theorem dX9_tideOf_1 : decode cX9_tideOf 1 = .ok (.iconst 1, 1) := by decide +kernel
theorem dX9_tideOf_2 : decode cX9_tideOf 2 = .ok (.invokevirtual 116, 3) := by decide +kernel
theorem dX9_tideOf_5 : decode cX9_tideOf 5 = .ok (.istore_n 2, 1) := by decide +kernel
theorem dX9_tideOf_6 : decode cX9_tideOf 6 = .ok (.aload_n 0, 1) := by decide +kernel
theorem dX9_tideOf_7 : decode cX9_tideOf 7 = .ok (.getfield 73, 3) := by decide +kernel
theorem dX9_tideOf_10 : decode cX9_tideOf 10 = .ok (.iconst 0, 1) := by decide +kernel
theorem dX9_tideOf_11 : decode cX9_tideOf 11 = .ok (.iload_n 1, 1) := by decide +kernel
theorem dX9_tideOf_12 : decode cX9_tideOf 12 = .ok (.iastore, 1) := by decide +kernel
theorem dX9_tideOf_13 : decode cX9_tideOf 13 = .ok (.aload_n 0, 1) := by decide +kernel
theorem dX9_tideOf_14 : decode cX9_tideOf 14 = .ok (.getfield 73, 3) := by decide +kernel
theorem dX9_tideOf_17 : decode cX9_tideOf 17 = .ok (.iconst 1, 1) := by decide +kernel
theorem dX9_tideOf_18 : decode cX9_tideOf 18 = .ok (.aload_n 0, 1) := by decide +kernel
theorem dX9_tideOf_19 : decode cX9_tideOf 19 = .ok (.getfield 9, 3) := by decide +kernel
theorem dX9_tideOf_22 : decode cX9_tideOf 22 = .ok (.iconst 1, 1) := by decide +kernel
theorem dX9_tideOf_23 : decode cX9_tideOf 23 = .ok (.iaload, 1) := by decide +kernel
theorem dX9_tideOf_24 : decode cX9_tideOf 24 = .ok (.iastore, 1) := by decide +kernel
theorem dX9_tideOf_25 : decode cX9_tideOf 25 = .ok (.iload_n 2, 1) := by decide +kernel
theorem dX9_tideOf_26 : decode cX9_tideOf 26 = .ok (.ifCond .ge 7, 3) := by decide +kernel
theorem dX9_tideOf_29 : decode cX9_tideOf 29 = .ok (.iconst 0, 1) := by decide +kernel
theorem dX9_tideOf_30 : decode cX9_tideOf 30 = .ok (.goto 14, 3) := by decide +kernel
theorem dX9_tideOf_33 : decode cX9_tideOf 33 = .ok (.aload_n 0, 1) := by decide +kernel
theorem dX9_tideOf_34 : decode cX9_tideOf 34 = .ok (.iload_n 2, 1) := by decide +kernel
theorem dX9_tideOf_35 : decode cX9_tideOf 35 = .ok (.invokevirtual 120, 3) := by decide +kernel
theorem dX9_tideOf_38 : decode cX9_tideOf 38 = .ok (.iconst 0, 1) := by decide +kernel
theorem dX9_tideOf_39 : decode cX9_tideOf 39 = .ok (.bipush 120, 2) := by decide +kernel
theorem dX9_tideOf_41 : decode cX9_tideOf 41 = .ok (.invokestatic 123, 3) := by decide +kernel
theorem dX9_tideOf_44 : decode cX9_tideOf 44 = .ok (.ireturn, 1) := by decide +kernel
theorem dX9_delayOf_0 : decode cX9_delayOf 0 = .ok (.aload_n 0, 1) := by decide +kernel
theorem dX9_delayOf_1 : decode cX9_delayOf 1 = .ok (.iload_n 1, 1) := by decide +kernel
theorem dX9_delayOf_2 : decode cX9_delayOf 2 = .ok (.iconst 0, 1) := by decide +kernel
theorem dX9_delayOf_3 : decode cX9_delayOf 3 = .ok (.invokevirtual 107, 3) := by decide +kernel
theorem dX9_delayOf_6 : decode cX9_delayOf 6 = .ok (.tableswitch 75 1 4 #[30, 35, 37, 35], 30) := by decide +kernel
theorem dX9_delayOf_36 : decode cX9_delayOf 36 = .ok (.bipush 7, 2) := by decide +kernel
theorem dX9_delayOf_38 : decode cX9_delayOf 38 = .ok (.iload_n 2, 1) := by decide +kernel
theorem dX9_delayOf_39 : decode cX9_delayOf 39 = .ok (.imul, 1) := by decide +kernel
theorem dX9_delayOf_40 : decode cX9_delayOf 40 = .ok (.ireturn, 1) := by decide +kernel
theorem dX9_delayOf_41 : decode cX9_delayOf 41 = .ok (.iconst 0, 1) := by decide +kernel
theorem dX9_delayOf_42 : decode cX9_delayOf 42 = .ok (.ireturn, 1) := by decide +kernel
theorem dX9_delayOf_43 : decode cX9_delayOf 43 = .ok (.bipush 7, 2) := by decide +kernel
theorem dX9_delayOf_45 : decode cX9_delayOf 45 = .ok (.iload_n 2, 1) := by decide +kernel
theorem dX9_delayOf_46 : decode cX9_delayOf 46 = .ok (.imul, 1) := by decide +kernel
theorem dX9_delayOf_47 : decode cX9_delayOf 47 = .ok (.aload_n 0, 1) := by decide +kernel
theorem dX9_delayOf_48 : decode cX9_delayOf 48 = .ok (.iload_n 1, 1) := by decide +kernel
theorem dX9_delayOf_49 : decode cX9_delayOf 49 = .ok (.bipush 6, 2) := by decide +kernel
theorem dX9_delayOf_51 : decode cX9_delayOf 51 = .ok (.invokevirtual 107, 3) := by decide +kernel
theorem dX9_delayOf_54 : decode cX9_delayOf 54 = .ok (.ifCond .ge 7, 3) := by decide +kernel
theorem dX9_delayOf_57 : decode cX9_delayOf 57 = .ok (.iconst 0, 1) := by decide +kernel
theorem dX9_delayOf_58 : decode cX9_delayOf 58 = .ok (.goto 21, 3) := by decide +kernel
theorem dX9_delayOf_61 : decode cX9_delayOf 61 = .ok (.aload_n 0, 1) := by decide +kernel
theorem dX9_delayOf_62 : decode cX9_delayOf 62 = .ok (.getfield 28, 3) := by decide +kernel
theorem dX9_delayOf_65 : decode cX9_delayOf 65 = .ok (.iconst 4, 1) := by decide +kernel
theorem dX9_delayOf_66 : decode cX9_delayOf 66 = .ok (.aload_n 0, 1) := by decide +kernel
theorem dX9_delayOf_67 : decode cX9_delayOf 67 = .ok (.iload_n 1, 1) := by decide +kernel
theorem dX9_delayOf_68 : decode cX9_delayOf 68 = .ok (.bipush 6, 2) := by decide +kernel
theorem dX9_delayOf_70 : decode cX9_delayOf 70 = .ok (.invokevirtual 107, 3) := by decide +kernel
theorem dX9_delayOf_73 : decode cX9_delayOf 73 = .ok (.imul, 1) := by decide +kernel
theorem dX9_delayOf_74 : decode cX9_delayOf 74 = .ok (.iload_n 2, 1) := by decide +kernel
theorem dX9_delayOf_75 : decode cX9_delayOf 75 = .ok (.iadd, 1) := by decide +kernel
theorem dX9_delayOf_76 : decode cX9_delayOf 76 = .ok (.iaload, 1) := by decide +kernel
theorem dX9_delayOf_77 : decode cX9_delayOf 77 = .ok (.iconst 2, 1) := by decide +kernel
theorem dX9_delayOf_78 : decode cX9_delayOf 78 = .ok (.idiv, 1) := by decide +kernel
theorem dX9_delayOf_79 : decode cX9_delayOf 79 = .ok (.iadd, 1) := by decide +kernel
theorem dX9_delayOf_80 : decode cX9_delayOf 80 = .ok (.ireturn, 1) := by decide +kernel
theorem dX9_delayOf_81 : decode cX9_delayOf 81 = .ok (.iconst 5, 1) := by decide +kernel
theorem dX9_delayOf_82 : decode cX9_delayOf 82 = .ok (.iload_n 2, 1) := by decide +kernel
theorem dX9_delayOf_83 : decode cX9_delayOf 83 = .ok (.imul, 1) := by decide +kernel
theorem dX9_delayOf_84 : decode cX9_delayOf 84 = .ok (.ireturn, 1) := by decide +kernel
theorem dX9_learns_0 : decode cX9_learns 0 = .ok (.aload_n 0, 1) := by decide +kernel
theorem dX9_learns_1 : decode cX9_learns 1 = .ok (.getfield 111, 3) := by decide +kernel
theorem dX9_learns_4 : decode cX9_learns 4 = .ok (.ifCond .eq 4, 3) := by decide +kernel
theorem dX9_learns_7 : decode cX9_learns 7 = .ok (.return_, 1) := by decide +kernel
theorem dX9_learns_8 : decode cX9_learns 8 = .ok (.aload_n 0, 1) := by decide +kernel
theorem dX9_learns_9 : decode cX9_learns 9 = .ok (.iconst 1, 1) := by decide +kernel
theorem dX9_learns_10 : decode cX9_learns 10 = .ok (.putfield 111, 3) := by decide +kernel
theorem dX9_learns_13 : decode cX9_learns 13 = .ok (.aload_n 0, 1) := by decide +kernel
theorem dX9_learns_14 : decode cX9_learns 14 = .ok (.sipush 1600, 3) := by decide +kernel
theorem dX9_learns_17 : decode cX9_learns 17 = .ok (.putfield 127, 3) := by decide +kernel
theorem dX9_learns_20 : decode cX9_learns 20 = .ok (.iconst 0, 1) := by decide +kernel
theorem dX9_learns_21 : decode cX9_learns 21 = .ok (.istore_n 1, 1) := by decide +kernel
theorem dX9_learns_22 : decode cX9_learns 22 = .ok (.iload_n 1, 1) := by decide +kernel
theorem dX9_learns_23 : decode cX9_learns 23 = .ok (.aload_n 0, 1) := by decide +kernel
theorem dX9_learns_24 : decode cX9_learns 24 = .ok (.getfield 9, 3) := by decide +kernel
theorem dX9_learns_27 : decode cX9_learns 27 = .ok (.iconst 4, 1) := by decide +kernel
theorem dX9_learns_28 : decode cX9_learns 28 = .ok (.iaload, 1) := by decide +kernel
theorem dX9_learns_29 : decode cX9_learns 29 = .ok (.if_icmp .ge 20, 3) := by decide +kernel
theorem dX9_learns_32 : decode cX9_learns 32 = .ok (.aload_n 0, 1) := by decide +kernel
theorem dX9_learns_33 : decode cX9_learns 33 = .ok (.getfield 19, 3) := by decide +kernel
theorem dX9_learns_36 : decode cX9_learns 36 = .ok (.iload_n 1, 1) := by decide +kernel
theorem dX9_learns_37 : decode cX9_learns 37 = .ok (.aload_n 0, 1) := by decide +kernel
theorem dX9_learns_38 : decode cX9_learns 38 = .ok (.iload_n 1, 1) := by decide +kernel
theorem dX9_learns_39 : decode cX9_learns 39 = .ok (.invokevirtual 131, 3) := by decide +kernel
theorem dX9_learns_42 : decode cX9_learns 42 = .ok (.iastore, 1) := by decide +kernel
theorem dX9_learns_43 : decode cX9_learns 43 = .ok (.iinc 1 1, 3) := by decide +kernel
theorem dX9_learns_46 : decode cX9_learns 46 = .ok (.goto (-24), 3) := by decide +kernel
theorem dX9_learns_49 : decode cX9_learns 49 = .ok (.iconst 0, 1) := by decide +kernel
theorem dX9_learns_50 : decode cX9_learns 50 = .ok (.istore_n 1, 1) := by decide +kernel
theorem dX9_learns_51 : decode cX9_learns 51 = .ok (.iload_n 1, 1) := by decide +kernel
theorem dX9_learns_52 : decode cX9_learns 52 = .ok (.aload_n 0, 1) := by decide +kernel
theorem dX9_learns_53 : decode cX9_learns 53 = .ok (.getfield 9, 3) := by decide +kernel
theorem dX9_learns_56 : decode cX9_learns 56 = .ok (.iconst 5, 1) := by decide +kernel
theorem dX9_learns_57 : decode cX9_learns 57 = .ok (.iaload, 1) := by decide +kernel
theorem dX9_learns_58 : decode cX9_learns 58 = .ok (.if_icmp .ge 81, 3) := by decide +kernel
theorem dX9_learns_61 : decode cX9_learns 61 = .ok (.aload_n 0, 1) := by decide +kernel
theorem dX9_learns_62 : decode cX9_learns 62 = .ok (.getfield 22, 3) := by decide +kernel
theorem dX9_learns_65 : decode cX9_learns 65 = .ok (.iload_n 1, 1) := by decide +kernel
theorem dX9_learns_66 : decode cX9_learns 66 = .ok (.aload_n 0, 1) := by decide +kernel
theorem dX9_learns_67 : decode cX9_learns 67 = .ok (.iload_n 1, 1) := by decide +kernel
theorem dX9_learns_68 : decode cX9_learns 68 = .ok (.iconst 3, 1) := by decide +kernel
theorem dX9_learns_69 : decode cX9_learns 69 = .ok (.invokevirtual 107, 3) := by decide +kernel
theorem dX9_learns_72 : decode cX9_learns 72 = .ok (.aload_n 0, 1) := by decide +kernel
theorem dX9_learns_73 : decode cX9_learns 73 = .ok (.iload_n 1, 1) := by decide +kernel
theorem dX9_learns_74 : decode cX9_learns 74 = .ok (.iconst 0, 1) := by decide +kernel
theorem dX9_learns_75 : decode cX9_learns 75 = .ok (.invokevirtual 107, 3) := by decide +kernel
theorem dX9_learns_78 : decode cX9_learns 78 = .ok (.iconst 4, 1) := by decide +kernel
theorem dX9_learns_79 : decode cX9_learns 79 = .ok (.if_icmp .ne 11, 3) := by decide +kernel
theorem dX9_learns_82 : decode cX9_learns 82 = .ok (.aload_n 0, 1) := by decide +kernel
theorem dX9_learns_83 : decode cX9_learns 83 = .ok (.iload_n 1, 1) := by decide +kernel
theorem dX9_learns_84 : decode cX9_learns 84 = .ok (.invokevirtual 134, 3) := by decide +kernel
theorem dX9_learns_87 : decode cX9_learns 87 = .ok (.goto 4, 3) := by decide +kernel
theorem dX9_learns_90 : decode cX9_learns 90 = .ok (.iconst 0, 1) := by decide +kernel
theorem dX9_learns_91 : decode cX9_learns 91 = .ok (.iadd, 1) := by decide +kernel
theorem dX9_learns_92 : decode cX9_learns 92 = .ok (.iastore, 1) := by decide +kernel
theorem dX9_learns_93 : decode cX9_learns 93 = .ok (.aload_n 0, 1) := by decide +kernel
theorem dX9_learns_94 : decode cX9_learns 94 = .ok (.getfield 25, 3) := by decide +kernel
theorem dX9_learns_97 : decode cX9_learns 97 = .ok (.iload_n 1, 1) := by decide +kernel
theorem dX9_learns_98 : decode cX9_learns 98 = .ok (.aload_n 0, 1) := by decide +kernel
theorem dX9_learns_99 : decode cX9_learns 99 = .ok (.iload_n 1, 1) := by decide +kernel
theorem dX9_learns_100 : decode cX9_learns 100 = .ok (.invokevirtual 137, 3) := by decide +kernel
theorem dX9_learns_103 : decode cX9_learns 103 = .ok (.iastore, 1) := by decide +kernel
theorem dX9_learns_104 : decode cX9_learns 104 = .ok (.iconst 0, 1) := by decide +kernel
theorem dX9_learns_105 : decode cX9_learns 105 = .ok (.istore_n 2, 1) := by decide +kernel
theorem dX9_learns_106 : decode cX9_learns 106 = .ok (.iload_n 2, 1) := by decide +kernel
theorem dX9_learns_107 : decode cX9_learns 107 = .ok (.iconst 4, 1) := by decide +kernel
theorem dX9_learns_108 : decode cX9_learns 108 = .ok (.if_icmp .ge 25, 3) := by decide +kernel
theorem dX9_learns_111 : decode cX9_learns 111 = .ok (.aload_n 0, 1) := by decide +kernel
theorem dX9_learns_112 : decode cX9_learns 112 = .ok (.getfield 28, 3) := by decide +kernel
theorem dX9_learns_115 : decode cX9_learns 115 = .ok (.iconst 4, 1) := by decide +kernel
theorem dX9_learns_116 : decode cX9_learns 116 = .ok (.iload_n 1, 1) := by decide +kernel
theorem dX9_learns_117 : decode cX9_learns 117 = .ok (.imul, 1) := by decide +kernel
theorem dX9_learns_118 : decode cX9_learns 118 = .ok (.iload_n 2, 1) := by decide +kernel
theorem dX9_learns_119 : decode cX9_learns 119 = .ok (.iadd, 1) := by decide +kernel
theorem dX9_learns_120 : decode cX9_learns 120 = .ok (.aload_n 0, 1) := by decide +kernel
theorem dX9_learns_121 : decode cX9_learns 121 = .ok (.iload_n 1, 1) := by decide +kernel
theorem dX9_learns_122 : decode cX9_learns 122 = .ok (.iload_n 2, 1) := by decide +kernel
theorem dX9_learns_123 : decode cX9_learns 123 = .ok (.invokevirtual 140, 3) := by decide +kernel
theorem dX9_learns_126 : decode cX9_learns 126 = .ok (.iastore, 1) := by decide +kernel
theorem dX9_learns_127 : decode cX9_learns 127 = .ok (.iinc 2 1, 3) := by decide +kernel
theorem dX9_learns_130 : decode cX9_learns 130 = .ok (.goto (-24), 3) := by decide +kernel
theorem dX9_learns_133 : decode cX9_learns 133 = .ok (.iinc 1 1, 3) := by decide +kernel
theorem dX9_learns_136 : decode cX9_learns 136 = .ok (.goto (-85), 3) := by decide +kernel
theorem dX9_learns_139 : decode cX9_learns 139 = .ok (.return_, 1) := by decide +kernel
theorem dX9_later_0 : decode cX9_later 0 = .ok (.aload_n 0, 1) := by decide +kernel
theorem dX9_later_1 : decode cX9_later 1 = .ok (.getfield 22, 3) := by decide +kernel
theorem dX9_later_4 : decode cX9_later 4 = .ok (.iload_n 1, 1) := by decide +kernel
theorem dX9_later_5 : decode cX9_later 5 = .ok (.iaload, 1) := by decide +kernel
theorem dX9_later_6 : decode cX9_later 6 = .ok (.aload_n 0, 1) := by decide +kernel
theorem dX9_later_7 : decode cX9_later 7 = .ok (.getfield 28, 3) := by decide +kernel
theorem dX9_later_10 : decode cX9_later 10 = .ok (.iconst 4, 1) := by decide +kernel
theorem dX9_later_11 : decode cX9_later 11 = .ok (.iload_n 1, 1) := by decide +kernel
theorem dX9_later_12 : decode cX9_later 12 = .ok (.imul, 1) := by decide +kernel
theorem dX9_later_13 : decode cX9_later 13 = .ok (.iload_n 2, 1) := by decide +kernel
theorem dX9_later_14 : decode cX9_later 14 = .ok (.iadd, 1) := by decide +kernel
theorem dX9_later_15 : decode cX9_later 15 = .ok (.iaload, 1) := by decide +kernel
theorem dX9_later_16 : decode cX9_later 16 = .ok (.iadd, 1) := by decide +kernel
theorem dX9_later_17 : decode cX9_later 17 = .ok (.ireturn, 1) := by decide +kernel
theorem dX9_there_0 : decode cX9_there 0 = .ok (.aload_n 0, 1) := by decide +kernel
theorem dX9_there_1 : decode cX9_there 1 = .ok (.iload_n 1, 1) := by decide +kernel
theorem dX9_there_2 : decode cX9_there 2 = .ok (.iload_n 2, 1) := by decide +kernel
theorem dX9_there_3 : decode cX9_there 3 = .ok (.invokevirtual 143, 3) := by decide +kernel
theorem dX9_there_6 : decode cX9_there 6 = .ok (.aload_n 0, 1) := by decide +kernel
theorem dX9_there_7 : decode cX9_there 7 = .ok (.iload_n 1, 1) := by decide +kernel
theorem dX9_there_8 : decode cX9_there 8 = .ok (.iconst 4, 1) := by decide +kernel
theorem dX9_there_9 : decode cX9_there 9 = .ok (.invokevirtual 107, 3) := by decide +kernel
theorem dX9_there_12 : decode cX9_there 12 = .ok (.iadd, 1) := by decide +kernel
theorem dX9_there_13 : decode cX9_there 13 = .ok (.ireturn, 1) := by decide +kernel
theorem dX9_fareBy_0 : decode cX9_fareBy 0 = .ok (.iload_n 0, 1) := by decide +kernel
theorem dX9_fareBy_1 : decode cX9_fareBy 1 = .ok (.tableswitch 47 1 4 #[31, 35, 31, 40], 31) := by decide +kernel
theorem dX9_fareBy_32 : decode cX9_fareBy 32 = .ok (.iload_n 1, 1) := by decide +kernel
theorem dX9_fareBy_33 : decode cX9_fareBy 33 = .ok (.iconst 2, 1) := by decide +kernel
theorem dX9_fareBy_34 : decode cX9_fareBy 34 = .ok (.idiv, 1) := by decide +kernel
theorem dX9_fareBy_35 : decode cX9_fareBy 35 = .ok (.ireturn, 1) := by decide +kernel
theorem dX9_fareBy_36 : decode cX9_fareBy 36 = .ok (.iload_n 1, 1) := by decide +kernel
theorem dX9_fareBy_37 : decode cX9_fareBy 37 = .ok (.bipush 10, 2) := by decide +kernel
theorem dX9_fareBy_39 : decode cX9_fareBy 39 = .ok (.iadd, 1) := by decide +kernel
theorem dX9_fareBy_40 : decode cX9_fareBy 40 = .ok (.ireturn, 1) := by decide +kernel
theorem dX9_fareBy_41 : decode cX9_fareBy 41 = .ok (.iconst 2, 1) := by decide +kernel
theorem dX9_fareBy_42 : decode cX9_fareBy 42 = .ok (.iload_n 1, 1) := by decide +kernel
theorem dX9_fareBy_43 : decode cX9_fareBy 43 = .ok (.bipush 10, 2) := by decide +kernel
theorem dX9_fareBy_45 : decode cX9_fareBy 45 = .ok (.iadd, 1) := by decide +kernel
theorem dX9_fareBy_46 : decode cX9_fareBy 46 = .ok (.imul, 1) := by decide +kernel
theorem dX9_fareBy_47 : decode cX9_fareBy 47 = .ok (.ireturn, 1) := by decide +kernel
theorem dX9_fareBy_48 : decode cX9_fareBy 48 = .ok (.iload_n 1, 1) := by decide +kernel
theorem dX9_fareBy_49 : decode cX9_fareBy 49 = .ok (.ireturn, 1) := by decide +kernel
theorem dX9_stop_0 : decode cX9_stop 0 = .ok (.iload_n 1, 1) := by decide +kernel
theorem dX9_stop_1 : decode cX9_stop 1 = .ok (.iconst 0, 1) := by decide +kernel
theorem dX9_stop_2 : decode cX9_stop 2 = .ok (.bipush 99, 2) := by decide +kernel
theorem dX9_stop_4 : decode cX9_stop 4 = .ok (.invokestatic 103, 3) := by decide +kernel
theorem dX9_stop_7 : decode cX9_stop 7 = .ok (.ifCond .ne 6, 3) := by decide +kernel
theorem dX9_stop_10 : decode cX9_stop 10 = .ok (.ldc 146, 2) := by decide +kernel
theorem dX9_stop_12 : decode cX9_stop 12 = .ok (.ireturn, 1) := by decide +kernel
theorem dX9_stop_13 : decode cX9_stop 13 = .ok (.aload_n 0, 1) := by decide +kernel
theorem dX9_stop_14 : decode cX9_stop 14 = .ok (.getfield 9, 3) := by decide +kernel
theorem dX9_stop_17 : decode cX9_stop 17 = .ok (.iconst 4, 1) := by decide +kernel
theorem dX9_stop_18 : decode cX9_stop 18 = .ok (.iaload, 1) := by decide +kernel
theorem dX9_stop_19 : decode cX9_stop 19 = .ok (.bipush 6, 2) := by decide +kernel
theorem dX9_stop_21 : decode cX9_stop 21 = .ok (.if_icmp .ne 6, 3) := by decide +kernel
theorem dX9_stop_24 : decode cX9_stop 24 = .ok (.ldc 147, 2) := by decide +kernel
theorem dX9_stop_26 : decode cX9_stop 26 = .ok (.ireturn, 1) := by decide +kernel
theorem dX9_stop_27 : decode cX9_stop 27 = .ok (.aload_n 0, 1) := by decide +kernel
theorem dX9_stop_28 : decode cX9_stop 28 = .ok (.getfield 9, 3) := by decide +kernel
theorem dX9_stop_31 : decode cX9_stop 31 = .ok (.bipush 9, 2) := by decide +kernel
theorem dX9_stop_33 : decode cX9_stop 33 = .ok (.aload_n 0, 1) := by decide +kernel
theorem dX9_stop_34 : decode cX9_stop 34 = .ok (.getfield 9, 3) := by decide +kernel
theorem dX9_stop_37 : decode cX9_stop 37 = .ok (.iconst 4, 1) := by decide +kernel
theorem dX9_stop_38 : decode cX9_stop 38 = .ok (.iaload, 1) := by decide +kernel
theorem dX9_stop_39 : decode cX9_stop 39 = .ok (.iadd, 1) := by decide +kernel
theorem dX9_stop_40 : decode cX9_stop 40 = .ok (.iload_n 1, 1) := by decide +kernel
theorem dX9_stop_41 : decode cX9_stop 41 = .ok (.iastore, 1) := by decide +kernel
theorem dX9_stop_42 : decode cX9_stop 42 = .ok (.aload_n 0, 1) := by decide +kernel
theorem dX9_stop_43 : decode cX9_stop 43 = .ok (.getfield 9, 3) := by decide +kernel
theorem dX9_stop_46 : decode cX9_stop 46 = .ok (.iconst 4, 1) := by decide +kernel
theorem dX9_stop_47 : decode cX9_stop 47 = .ok (.dup2, 1) := by decide +kernel
theorem dX9_stop_48 : decode cX9_stop 48 = .ok (.iaload, 1) := by decide +kernel
theorem dX9_stop_49 : decode cX9_stop 49 = .ok (.iconst 1, 1) := by decide +kernel
theorem dX9_stop_50 : decode cX9_stop 50 = .ok (.iadd, 1) := by decide +kernel
theorem dX9_stop_51 : decode cX9_stop 51 = .ok (.iastore, 1) := by decide +kernel
theorem dX9_stop_52 : decode cX9_stop 52 = .ok (.aload_n 0, 1) := by decide +kernel
theorem dX9_stop_53 : decode cX9_stop 53 = .ok (.iconst 0, 1) := by decide +kernel
theorem dX9_stop_54 : decode cX9_stop 54 = .ok (.putfield 111, 3) := by decide +kernel
theorem dX9_stop_57 : decode cX9_stop 57 = .ok (.aload_n 0, 1) := by decide +kernel
theorem dX9_stop_58 : decode cX9_stop 58 = .ok (.getfield 9, 3) := by decide +kernel
theorem dX9_stop_61 : decode cX9_stop 61 = .ok (.iconst 4, 1) := by decide +kernel
theorem dX9_stop_62 : decode cX9_stop 62 = .ok (.iaload, 1) := by decide +kernel
theorem dX9_stop_63 : decode cX9_stop 63 = .ok (.iconst 1, 1) := by decide +kernel
theorem dX9_stop_64 : decode cX9_stop 64 = .ok (.isub, 1) := by decide +kernel
theorem dX9_stop_65 : decode cX9_stop 65 = .ok (.ireturn, 1) := by decide +kernel
theorem dX9_walk_0 : decode cX9_walk 0 = .ok (.aload_n 0, 1) := by decide +kernel
theorem dX9_walk_1 : decode cX9_walk 1 = .ok (.iload_n 1, 1) := by decide +kernel
theorem dX9_walk_2 : decode cX9_walk 2 = .ok (.invokevirtual 148, 3) := by decide +kernel
theorem dX9_walk_5 : decode cX9_walk 5 = .ok (.ifCond .eq 11, 3) := by decide +kernel
theorem dX9_walk_8 : decode cX9_walk 8 = .ok (.aload_n 0, 1) := by decide +kernel
theorem dX9_walk_9 : decode cX9_walk 9 = .ok (.iload_n 1, 1) := by decide +kernel
theorem dX9_walk_10 : decode cX9_walk 10 = .ok (.invokevirtual 131, 3) := by decide +kernel
theorem dX9_walk_13 : decode cX9_walk 13 = .ok (.goto 5, 3) := by decide +kernel
theorem dX9_walk_16 : decode cX9_walk 16 = .ok (.ldc 146, 2) := by decide +kernel
theorem dX9_walk_18 : decode cX9_walk 18 = .ok (.ireturn, 1) := by decide +kernel
theorem dX9_train_0 : decode cX9_train 0 = .ok (.iload_n 1, 1) := by decide +kernel
theorem dX9_train_1 : decode cX9_train 1 = .ok (.iconst 0, 1) := by decide +kernel
theorem dX9_train_2 : decode cX9_train 2 = .ok (.iconst 5, 1) := by decide +kernel
theorem dX9_train_3 : decode cX9_train 3 = .ok (.invokestatic 103, 3) := by decide +kernel
theorem dX9_train_6 : decode cX9_train 6 = .ok (.ifCond .eq 44, 3) := by decide +kernel
theorem dX9_train_9 : decode cX9_train 9 = .ok (.iload_n 2, 1) := by decide +kernel
theorem dX9_train_10 : decode cX9_train 10 = .ok (.ifCond .lt 40, 3) := by decide +kernel
theorem dX9_train_13 : decode cX9_train 13 = .ok (.aload_n 0, 1) := by decide +kernel
theorem dX9_train_14 : decode cX9_train 14 = .ok (.iload_n 2, 1) := by decide +kernel
theorem dX9_train_15 : decode cX9_train 15 = .ok (.bipush 10, 2) := by decide +kernel
theorem dX9_train_17 : decode cX9_train 17 = .ok (.idiv, 1) := by decide +kernel
theorem dX9_train_18 : decode cX9_train 18 = .ok (.invokevirtual 148, 3) := by decide +kernel
theorem dX9_train_21 : decode cX9_train 21 = .ok (.ifCond .eq 29, 3) := by decide +kernel
theorem dX9_train_24 : decode cX9_train 24 = .ok (.aload_n 0, 1) := by decide +kernel
theorem dX9_train_25 : decode cX9_train 25 = .ok (.iload_n 2, 1) := by decide +kernel
theorem dX9_train_26 : decode cX9_train 26 = .ok (.bipush 10, 2) := by decide +kernel
theorem dX9_train_28 : decode cX9_train 28 = .ok (.irem, 1) := by decide +kernel
theorem dX9_train_29 : decode cX9_train 29 = .ok (.invokevirtual 148, 3) := by decide +kernel
theorem dX9_train_32 : decode cX9_train 32 = .ok (.ifCond .eq 18, 3) := by decide +kernel
theorem dX9_train_35 : decode cX9_train 35 = .ok (.iload_n 2, 1) := by decide +kernel
theorem dX9_train_36 : decode cX9_train 36 = .ok (.bipush 10, 2) := by decide +kernel
theorem dX9_train_38 : decode cX9_train 38 = .ok (.idiv, 1) := by decide +kernel
theorem dX9_train_39 : decode cX9_train 39 = .ok (.iload_n 2, 1) := by decide +kernel
theorem dX9_train_40 : decode cX9_train 40 = .ok (.bipush 10, 2) := by decide +kernel
theorem dX9_train_42 : decode cX9_train 42 = .ok (.irem, 1) := by decide +kernel
theorem dX9_train_43 : decode cX9_train 43 = .ok (.if_icmp .eq 7, 3) := by decide +kernel
theorem dX9_train_46 : decode cX9_train 46 = .ok (.iconst 1, 1) := by decide +kernel
theorem dX9_train_47 : decode cX9_train 47 = .ok (.goto 4, 3) := by decide +kernel
theorem dX9_train_50 : decode cX9_train 50 = .ok (.iconst 0, 1) := by decide +kernel
theorem dX9_train_51 : decode cX9_train 51 = .ok (.istore 5, 2) := by decide +kernel
theorem dX9_train_53 : decode cX9_train 53 = .ok (.iload 5, 2) := by decide +kernel
theorem dX9_train_55 : decode cX9_train 55 = .ok (.ifCond .eq 26, 3) := by decide +kernel
theorem dX9_train_58 : decode cX9_train 58 = .ok (.iload_n 3, 1) := by decide +kernel
theorem dX9_train_59 : decode cX9_train 59 = .ok (.iconst 0, 1) := by decide +kernel
theorem dX9_train_60 : decode cX9_train 60 = .ok (.sipush 1439, 3) := by decide +kernel
theorem dX9_train_63 : decode cX9_train 63 = .ok (.invokestatic 103, 3) := by decide +kernel
theorem dX9_train_66 : decode cX9_train 66 = .ok (.ifCond .eq 15, 3) := by decide +kernel
theorem dX9_train_69 : decode cX9_train 69 = .ok (.iload 4, 2) := by decide +kernel
theorem dX9_train_71 : decode cX9_train 71 = .ok (.iconst 1, 1) := by decide +kernel
theorem dX9_train_72 : decode cX9_train 72 = .ok (.sipush 600, 3) := by decide +kernel
theorem dX9_train_75 : decode cX9_train 75 = .ok (.invokestatic 103, 3) := by decide +kernel
theorem dX9_train_78 : decode cX9_train 78 = .ok (.ifCond .ne 6, 3) := by decide +kernel
theorem dX9_train_81 : decode cX9_train 81 = .ok (.ldc 146, 2) := by decide +kernel
theorem dX9_train_83 : decode cX9_train 83 = .ok (.ireturn, 1) := by decide +kernel
theorem dX9_train_84 : decode cX9_train 84 = .ok (.aload_n 0, 1) := by decide +kernel
theorem dX9_train_85 : decode cX9_train 85 = .ok (.getfield 9, 3) := by decide +kernel
theorem dX9_train_88 : decode cX9_train 88 = .ok (.iconst 5, 1) := by decide +kernel
theorem dX9_train_89 : decode cX9_train 89 = .ok (.iaload, 1) := by decide +kernel
theorem dX9_train_90 : decode cX9_train 90 = .ok (.bipush 12, 2) := by decide +kernel
theorem dX9_train_92 : decode cX9_train 92 = .ok (.if_icmp .ne 6, 3) := by decide +kernel
theorem dX9_train_95 : decode cX9_train 95 = .ok (.ldc 147, 2) := by decide +kernel
theorem dX9_train_97 : decode cX9_train 97 = .ok (.ireturn, 1) := by decide +kernel
theorem dX9_train_98 : decode cX9_train 98 = .ok (.aload_n 0, 1) := by decide +kernel
theorem dX9_train_99 : decode cX9_train 99 = .ok (.getfield 9, 3) := by decide +kernel
theorem dX9_train_102 : decode cX9_train 102 = .ok (.iconst 5, 1) := by decide +kernel
theorem dX9_train_103 : decode cX9_train 103 = .ok (.iaload, 1) := by decide +kernel
theorem dX9_train_104 : decode cX9_train 104 = .ok (.istore 6, 2) := by decide +kernel
theorem dX9_train_106 : decode cX9_train 106 = .ok (.iconst 0, 1) := by decide +kernel
theorem dX9_train_107 : decode cX9_train 107 = .ok (.istore 7, 2) := by decide +kernel
theorem dX9_train_109 : decode cX9_train 109 = .ok (.iload 7, 2) := by decide +kernel
theorem dX9_train_111 : decode cX9_train 111 = .ok (.bipush 11, 2) := by decide +kernel
theorem dX9_train_113 : decode cX9_train 113 = .ok (.if_icmp .ge 26, 3) := by decide +kernel
theorem dX9_train_116 : decode cX9_train 116 = .ok (.aload_n 0, 1) := by decide +kernel
theorem dX9_train_117 : decode cX9_train 117 = .ok (.getfield 9, 3) := by decide +kernel
theorem dX9_train_120 : decode cX9_train 120 = .ok (.bipush 15, 2) := by decide +kernel
theorem dX9_train_122 : decode cX9_train 122 = .ok (.bipush 11, 2) := by decide +kernel
theorem dX9_train_124 : decode cX9_train 124 = .ok (.iload 6, 2) := by decide +kernel
theorem dX9_train_126 : decode cX9_train 126 = .ok (.imul, 1) := by decide +kernel
theorem dX9_train_127 : decode cX9_train 127 = .ok (.iadd, 1) := by decide +kernel
theorem dX9_train_128 : decode cX9_train 128 = .ok (.iload 7, 2) := by decide +kernel
theorem dX9_train_130 : decode cX9_train 130 = .ok (.iadd, 1) := by decide +kernel
theorem dX9_train_131 : decode cX9_train 131 = .ok (.iconst 0, 1) := by decide +kernel
theorem dX9_train_132 : decode cX9_train 132 = .ok (.iastore, 1) := by decide +kernel
theorem dX9_train_133 : decode cX9_train 133 = .ok (.iinc 7 1, 3) := by decide +kernel
theorem dX9_train_136 : decode cX9_train 136 = .ok (.goto (-27), 3) := by decide +kernel
theorem dX9_train_139 : decode cX9_train 139 = .ok (.aload_n 0, 1) := by decide +kernel
theorem dX9_train_140 : decode cX9_train 140 = .ok (.getfield 9, 3) := by decide +kernel
theorem dX9_train_143 : decode cX9_train 143 = .ok (.iconst 5, 1) := by decide +kernel
theorem dX9_train_144 : decode cX9_train 144 = .ok (.dup2, 1) := by decide +kernel
theorem dX9_train_145 : decode cX9_train 145 = .ok (.iaload, 1) := by decide +kernel
theorem dX9_train_146 : decode cX9_train 146 = .ok (.iconst 1, 1) := by decide +kernel
theorem dX9_train_147 : decode cX9_train 147 = .ok (.iadd, 1) := by decide +kernel
theorem dX9_train_148 : decode cX9_train 148 = .ok (.iastore, 1) := by decide +kernel
theorem dX9_train_149 : decode cX9_train 149 = .ok (.aload_n 0, 1) := by decide +kernel
theorem dX9_train_150 : decode cX9_train 150 = .ok (.getfield 9, 3) := by decide +kernel
theorem dX9_train_153 : decode cX9_train 153 = .ok (.bipush 15, 2) := by decide +kernel
theorem dX9_train_155 : decode cX9_train 155 = .ok (.bipush 11, 2) := by decide +kernel
theorem dX9_train_157 : decode cX9_train 157 = .ok (.iload 6, 2) := by decide +kernel
theorem dX9_train_159 : decode cX9_train 159 = .ok (.imul, 1) := by decide +kernel
theorem dX9_train_160 : decode cX9_train 160 = .ok (.iadd, 1) := by decide +kernel
theorem dX9_train_161 : decode cX9_train 161 = .ok (.iload_n 1, 1) := by decide +kernel
theorem dX9_train_162 : decode cX9_train 162 = .ok (.iastore, 1) := by decide +kernel
theorem dX9_train_163 : decode cX9_train 163 = .ok (.aload_n 0, 1) := by decide +kernel
theorem dX9_train_164 : decode cX9_train 164 = .ok (.getfield 9, 3) := by decide +kernel
theorem dX9_train_167 : decode cX9_train 167 = .ok (.bipush 15, 2) := by decide +kernel
theorem dX9_train_169 : decode cX9_train 169 = .ok (.bipush 11, 2) := by decide +kernel
theorem dX9_train_171 : decode cX9_train 171 = .ok (.iload 6, 2) := by decide +kernel
theorem dX9_train_173 : decode cX9_train 173 = .ok (.imul, 1) := by decide +kernel
theorem dX9_train_174 : decode cX9_train 174 = .ok (.iadd, 1) := by decide +kernel
theorem dX9_train_175 : decode cX9_train 175 = .ok (.iconst 1, 1) := by decide +kernel
theorem dX9_train_176 : decode cX9_train 176 = .ok (.iadd, 1) := by decide +kernel
theorem dX9_train_177 : decode cX9_train 177 = .ok (.iload_n 2, 1) := by decide +kernel
theorem dX9_train_178 : decode cX9_train 178 = .ok (.bipush 10, 2) := by decide +kernel
theorem dX9_train_180 : decode cX9_train 180 = .ok (.idiv, 1) := by decide +kernel
theorem dX9_train_181 : decode cX9_train 181 = .ok (.iastore, 1) := by decide +kernel
theorem dX9_train_182 : decode cX9_train 182 = .ok (.aload_n 0, 1) := by decide +kernel
theorem dX9_train_183 : decode cX9_train 183 = .ok (.getfield 9, 3) := by decide +kernel
theorem dX9_train_186 : decode cX9_train 186 = .ok (.bipush 15, 2) := by decide +kernel
theorem dX9_train_188 : decode cX9_train 188 = .ok (.bipush 11, 2) := by decide +kernel
theorem dX9_train_190 : decode cX9_train 190 = .ok (.iload 6, 2) := by decide +kernel
theorem dX9_train_192 : decode cX9_train 192 = .ok (.imul, 1) := by decide +kernel
theorem dX9_train_193 : decode cX9_train 193 = .ok (.iadd, 1) := by decide +kernel
theorem dX9_train_194 : decode cX9_train 194 = .ok (.iconst 2, 1) := by decide +kernel
theorem dX9_train_195 : decode cX9_train 195 = .ok (.iadd, 1) := by decide +kernel
theorem dX9_train_196 : decode cX9_train 196 = .ok (.iload_n 2, 1) := by decide +kernel
theorem dX9_train_197 : decode cX9_train 197 = .ok (.bipush 10, 2) := by decide +kernel
theorem dX9_train_199 : decode cX9_train 199 = .ok (.irem, 1) := by decide +kernel
theorem dX9_train_200 : decode cX9_train 200 = .ok (.iastore, 1) := by decide +kernel
theorem dX9_train_201 : decode cX9_train 201 = .ok (.aload_n 0, 1) := by decide +kernel
theorem dX9_train_202 : decode cX9_train 202 = .ok (.getfield 9, 3) := by decide +kernel
theorem dX9_train_205 : decode cX9_train 205 = .ok (.bipush 15, 2) := by decide +kernel
theorem dX9_train_207 : decode cX9_train 207 = .ok (.bipush 11, 2) := by decide +kernel
theorem dX9_train_209 : decode cX9_train 209 = .ok (.iload 6, 2) := by decide +kernel
theorem dX9_train_211 : decode cX9_train 211 = .ok (.imul, 1) := by decide +kernel
theorem dX9_train_212 : decode cX9_train 212 = .ok (.iadd, 1) := by decide +kernel
theorem dX9_train_213 : decode cX9_train 213 = .ok (.iconst 3, 1) := by decide +kernel
theorem dX9_train_214 : decode cX9_train 214 = .ok (.iadd, 1) := by decide +kernel
theorem dX9_train_215 : decode cX9_train 215 = .ok (.iload_n 3, 1) := by decide +kernel
theorem dX9_train_216 : decode cX9_train 216 = .ok (.iastore, 1) := by decide +kernel
theorem dX9_train_217 : decode cX9_train 217 = .ok (.aload_n 0, 1) := by decide +kernel
theorem dX9_train_218 : decode cX9_train 218 = .ok (.getfield 9, 3) := by decide +kernel
theorem dX9_train_221 : decode cX9_train 221 = .ok (.bipush 15, 2) := by decide +kernel
theorem dX9_train_223 : decode cX9_train 223 = .ok (.bipush 11, 2) := by decide +kernel
theorem dX9_train_225 : decode cX9_train 225 = .ok (.iload 6, 2) := by decide +kernel
theorem dX9_train_227 : decode cX9_train 227 = .ok (.imul, 1) := by decide +kernel
theorem dX9_train_228 : decode cX9_train 228 = .ok (.iadd, 1) := by decide +kernel
theorem dX9_train_229 : decode cX9_train 229 = .ok (.iconst 4, 1) := by decide +kernel
theorem dX9_train_230 : decode cX9_train 230 = .ok (.iadd, 1) := by decide +kernel
theorem dX9_train_231 : decode cX9_train 231 = .ok (.iload 4, 2) := by decide +kernel
theorem dX9_train_233 : decode cX9_train 233 = .ok (.iastore, 1) := by decide +kernel
theorem dX9_train_234 : decode cX9_train 234 = .ok (.aload_n 0, 1) := by decide +kernel
theorem dX9_train_235 : decode cX9_train 235 = .ok (.getfield 9, 3) := by decide +kernel
theorem dX9_train_238 : decode cX9_train 238 = .ok (.bipush 15, 2) := by decide +kernel
theorem dX9_train_240 : decode cX9_train 240 = .ok (.bipush 11, 2) := by decide +kernel
theorem dX9_train_242 : decode cX9_train 242 = .ok (.iload 6, 2) := by decide +kernel
theorem dX9_train_244 : decode cX9_train 244 = .ok (.imul, 1) := by decide +kernel
theorem dX9_train_245 : decode cX9_train 245 = .ok (.iadd, 1) := by decide +kernel
theorem dX9_train_246 : decode cX9_train 246 = .ok (.bipush 6, 2) := by decide +kernel
theorem dX9_train_248 : decode cX9_train 248 = .ok (.iadd, 1) := by decide +kernel
theorem dX9_train_249 : decode cX9_train 249 = .ok (.iconst (-1), 1) := by decide +kernel
theorem dX9_train_250 : decode cX9_train 250 = .ok (.iastore, 1) := by decide +kernel
theorem dX9_train_251 : decode cX9_train 251 = .ok (.aload_n 0, 1) := by decide +kernel
theorem dX9_train_252 : decode cX9_train 252 = .ok (.getfield 9, 3) := by decide +kernel
theorem dX9_train_255 : decode cX9_train 255 = .ok (.bipush 15, 2) := by decide +kernel
theorem dX9_train_257 : decode cX9_train 257 = .ok (.bipush 11, 2) := by decide +kernel
theorem dX9_train_259 : decode cX9_train 259 = .ok (.iload 6, 2) := by decide +kernel
theorem dX9_train_261 : decode cX9_train 261 = .ok (.imul, 1) := by decide +kernel
theorem dX9_train_262 : decode cX9_train 262 = .ok (.iadd, 1) := by decide +kernel
theorem dX9_train_263 : decode cX9_train 263 = .ok (.bipush 7, 2) := by decide +kernel
theorem dX9_train_265 : decode cX9_train 265 = .ok (.iadd, 1) := by decide +kernel
theorem dX9_train_266 : decode cX9_train 266 = .ok (.bipush 100, 2) := by decide +kernel
theorem dX9_train_268 : decode cX9_train 268 = .ok (.iastore, 1) := by decide +kernel
theorem dX9_train_269 : decode cX9_train 269 = .ok (.aload_n 0, 1) := by decide +kernel
theorem dX9_train_270 : decode cX9_train 270 = .ok (.iconst 0, 1) := by decide +kernel
theorem dX9_train_271 : decode cX9_train 271 = .ok (.putfield 111, 3) := by decide +kernel
theorem dX9_train_274 : decode cX9_train 274 = .ok (.iload 6, 2) := by decide +kernel
theorem dX9_train_276 : decode cX9_train 276 = .ok (.ireturn, 1) := by decide +kernel
theorem dX9_told_0 : decode cX9_told 0 = .ok (.aload_n 0, 1) := by decide +kernel
theorem dX9_told_1 : decode cX9_told 1 = .ok (.iload_n 1, 1) := by decide +kernel
theorem dX9_told_2 : decode cX9_told 2 = .ok (.invokevirtual 152, 3) := by decide +kernel
theorem dX9_told_5 : decode cX9_told 5 = .ok (.ifCond .eq 13, 3) := by decide +kernel
theorem dX9_told_8 : decode cX9_told 8 = .ok (.iload_n 2, 1) := by decide +kernel
theorem dX9_told_9 : decode cX9_told 9 = .ok (.iconst 0, 1) := by decide +kernel
theorem dX9_told_10 : decode cX9_told 10 = .ok (.bipush 17, 2) := by decide +kernel
theorem dX9_told_12 : decode cX9_told 12 = .ok (.invokestatic 103, 3) := by decide +kernel
theorem dX9_told_15 : decode cX9_told 15 = .ok (.ifCond .ne 6, 3) := by decide +kernel
theorem dX9_told_18 : decode cX9_told 18 = .ok (.ldc 146, 2) := by decide +kernel
theorem dX9_told_20 : decode cX9_told 20 = .ok (.ireturn, 1) := by decide +kernel
theorem dX9_told_21 : decode cX9_told 21 = .ok (.aload_n 0, 1) := by decide +kernel
theorem dX9_told_22 : decode cX9_told 22 = .ok (.invokevirtual 155, 3) := by decide +kernel
theorem dX9_told_25 : decode cX9_told 25 = .ok (.iload_n 2, 1) := by decide +kernel
theorem dX9_told_26 : decode cX9_told 26 = .ok (.bipush 9, 2) := by decide +kernel
theorem dX9_told_28 : decode cX9_told 28 = .ok (.if_icmp .le 34, 3) := by decide +kernel
theorem dX9_told_31 : decode cX9_told 31 = .ok (.iload_n 2, 1) := by decide +kernel
theorem dX9_told_32 : decode cX9_told 32 = .ok (.bipush 14, 2) := by decide +kernel
theorem dX9_told_34 : decode cX9_told 34 = .ok (.if_icmp .ge 18, 3) := by decide +kernel
theorem dX9_told_37 : decode cX9_told 37 = .ok (.aload_n 0, 1) := by decide +kernel
theorem dX9_told_38 : decode cX9_told 38 = .ok (.iload_n 1, 1) := by decide +kernel
theorem dX9_told_39 : decode cX9_told 39 = .ok (.bipush 7, 2) := by decide +kernel
theorem dX9_told_41 : decode cX9_told 41 = .ok (.iload_n 2, 1) := by decide +kernel
theorem dX9_told_42 : decode cX9_told 42 = .ok (.iadd, 1) := by decide +kernel
theorem dX9_told_43 : decode cX9_told 43 = .ok (.bipush 10, 2) := by decide +kernel
theorem dX9_told_45 : decode cX9_told 45 = .ok (.isub, 1) := by decide +kernel
theorem dX9_told_46 : decode cX9_told 46 = .ok (.invokevirtual 107, 3) := by decide +kernel
theorem dX9_told_49 : decode cX9_told 49 = .ok (.goto 12, 3) := by decide +kernel
theorem dX9_told_52 : decode cX9_told 52 = .ok (.aload_n 0, 1) := by decide +kernel
theorem dX9_told_53 : decode cX9_told 53 = .ok (.iload_n 1, 1) := by decide +kernel
theorem dX9_told_54 : decode cX9_told 54 = .ok (.iload_n 2, 1) := by decide +kernel
theorem dX9_told_55 : decode cX9_told 55 = .ok (.bipush 14, 2) := by decide +kernel
theorem dX9_told_57 : decode cX9_told 57 = .ok (.isub, 1) := by decide +kernel
theorem dX9_told_58 : decode cX9_told 58 = .ok (.invokevirtual 158, 3) := by decide +kernel
theorem dX9_told_61 : decode cX9_told 61 = .ok (.ireturn, 1) := by decide +kernel
theorem dX9_told_62 : decode cX9_told 62 = .ok (.iload_n 2, 1) := by decide +kernel
theorem dX9_told_63 : decode cX9_told 63 = .ok (.tableswitch 70 6 9 #[29, 40, 47, 54], 29) := by decide +kernel
theorem dX9_told_92 : decode cX9_told 92 = .ok (.aload_n 0, 1) := by decide +kernel
theorem dX9_told_93 : decode cX9_told 93 = .ok (.iload_n 1, 1) := by decide +kernel
theorem dX9_told_94 : decode cX9_told 94 = .ok (.bipush 6, 2) := by decide +kernel
theorem dX9_told_96 : decode cX9_told 96 = .ok (.invokevirtual 107, 3) := by decide +kernel
theorem dX9_told_99 : decode cX9_told 99 = .ok (.invokestatic 161, 3) := by decide +kernel
theorem dX9_told_102 : decode cX9_told 102 = .ok (.ireturn, 1) := by decide +kernel
theorem dX9_told_103 : decode cX9_told 103 = .ok (.aload_n 0, 1) := by decide +kernel
theorem dX9_told_104 : decode cX9_told 104 = .ok (.getfield 22, 3) := by decide +kernel
theorem dX9_told_107 : decode cX9_told 107 = .ok (.iload_n 1, 1) := by decide +kernel
theorem dX9_told_108 : decode cX9_told 108 = .ok (.iaload, 1) := by decide +kernel
theorem dX9_told_109 : decode cX9_told 109 = .ok (.ireturn, 1) := by decide +kernel
theorem dX9_told_110 : decode cX9_told 110 = .ok (.aload_n 0, 1) := by decide +kernel
theorem dX9_told_111 : decode cX9_told 111 = .ok (.getfield 25, 3) := by decide +kernel
theorem dX9_told_114 : decode cX9_told 114 = .ok (.iload_n 1, 1) := by decide +kernel
theorem dX9_told_115 : decode cX9_told 115 = .ok (.iaload, 1) := by decide +kernel
theorem dX9_told_116 : decode cX9_told 116 = .ok (.ireturn, 1) := by decide +kernel
theorem dX9_told_117 : decode cX9_told 117 = .ok (.aload_n 0, 1) := by decide +kernel
theorem dX9_told_118 : decode cX9_told 118 = .ok (.iload_n 1, 1) := by decide +kernel
theorem dX9_told_119 : decode cX9_told 119 = .ok (.iconst 0, 1) := by decide +kernel
theorem dX9_told_120 : decode cX9_told 120 = .ok (.invokevirtual 107, 3) := by decide +kernel
theorem dX9_told_123 : decode cX9_told 123 = .ok (.aload_n 0, 1) := by decide +kernel
theorem dX9_told_124 : decode cX9_told 124 = .ok (.iload_n 1, 1) := by decide +kernel
theorem dX9_told_125 : decode cX9_told 125 = .ok (.iconst 5, 1) := by decide +kernel
theorem dX9_told_126 : decode cX9_told 126 = .ok (.invokevirtual 107, 3) := by decide +kernel
theorem dX9_told_129 : decode cX9_told 129 = .ok (.invokestatic 164, 3) := by decide +kernel
theorem dX9_told_132 : decode cX9_told 132 = .ok (.ireturn, 1) := by decide +kernel
theorem dX9_told_133 : decode cX9_told 133 = .ok (.aload_n 0, 1) := by decide +kernel
theorem dX9_told_134 : decode cX9_told 134 = .ok (.iload_n 1, 1) := by decide +kernel
theorem dX9_told_135 : decode cX9_told 135 = .ok (.iload_n 2, 1) := by decide +kernel
theorem dX9_told_136 : decode cX9_told 136 = .ok (.invokevirtual 107, 3) := by decide +kernel
theorem dX9_told_139 : decode cX9_told 139 = .ok (.ireturn, 1) := by decide +kernel
theorem dX9_isUnder_0 : decode cX9_isUnder 0 = .ok (.iload_n 1, 1) := by decide +kernel
theorem dX9_isUnder_1 : decode cX9_isUnder 1 = .ok (.ifCond .eq 28, 3) := by decide +kernel
theorem dX9_isUnder_4 : decode cX9_isUnder 4 = .ok (.iload_n 0, 1) := by decide +kernel
theorem dX9_isUnder_5 : decode cX9_isUnder 5 = .ok (.iload_n 1, 1) := by decide +kernel
theorem dX9_isUnder_6 : decode cX9_isUnder 6 = .ok (.if_icmp .eq 23, 3) := by decide +kernel
theorem dX9_isUnder_9 : decode cX9_isUnder 9 = .ok (.iload_n 1, 1) := by decide +kernel
theorem dX9_isUnder_10 : decode cX9_isUnder 10 = .ok (.iconst 1, 1) := by decide +kernel
theorem dX9_isUnder_11 : decode cX9_isUnder 11 = .ok (.if_icmp .ne 8, 3) := by decide +kernel
theorem dX9_isUnder_14 : decode cX9_isUnder 14 = .ok (.iload_n 0, 1) := by decide +kernel
theorem dX9_isUnder_15 : decode cX9_isUnder 15 = .ok (.iconst 3, 1) := by decide +kernel
theorem dX9_isUnder_16 : decode cX9_isUnder 16 = .ok (.if_icmp .eq 13, 3) := by decide +kernel
theorem dX9_isUnder_19 : decode cX9_isUnder 19 = .ok (.iload_n 1, 1) := by decide +kernel
theorem dX9_isUnder_20 : decode cX9_isUnder 20 = .ok (.iconst 2, 1) := by decide +kernel
theorem dX9_isUnder_21 : decode cX9_isUnder 21 = .ok (.if_icmp .ne 12, 3) := by decide +kernel
theorem dX9_isUnder_24 : decode cX9_isUnder 24 = .ok (.iload_n 0, 1) := by decide +kernel
theorem dX9_isUnder_25 : decode cX9_isUnder 25 = .ok (.iconst 4, 1) := by decide +kernel
theorem dX9_isUnder_26 : decode cX9_isUnder 26 = .ok (.if_icmp .ne 7, 3) := by decide +kernel
theorem dX9_isUnder_29 : decode cX9_isUnder 29 = .ok (.iconst 1, 1) := by decide +kernel
theorem dX9_isUnder_30 : decode cX9_isUnder 30 = .ok (.goto 4, 3) := by decide +kernel
theorem dX9_isUnder_33 : decode cX9_isUnder 33 = .ok (.iconst 0, 1) := by decide +kernel
theorem dX9_isUnder_34 : decode cX9_isUnder 34 = .ok (.ireturn, 1) := by decide +kernel
theorem dX9_as_0 : decode cX9_as 0 = .ok (.aload_n 0, 1) := by decide +kernel
theorem dX9_as_1 : decode cX9_as 1 = .ok (.iload_n 1, 1) := by decide +kernel
theorem dX9_as_2 : decode cX9_as 2 = .ok (.invokevirtual 152, 3) := by decide +kernel
theorem dX9_as_5 : decode cX9_as 5 = .ok (.ifCond .eq 12, 3) := by decide +kernel
theorem dX9_as_8 : decode cX9_as 8 = .ok (.iload_n 2, 1) := by decide +kernel
theorem dX9_as_9 : decode cX9_as 9 = .ok (.iconst 0, 1) := by decide +kernel
theorem dX9_as_10 : decode cX9_as 10 = .ok (.iconst 5, 1) := by decide +kernel
theorem dX9_as_11 : decode cX9_as 11 = .ok (.invokestatic 103, 3) := by decide +kernel
theorem dX9_as_14 : decode cX9_as 14 = .ok (.ifCond .ne 6, 3) := by decide +kernel
theorem dX9_as_17 : decode cX9_as 17 = .ok (.ldc 146, 2) := by decide +kernel
theorem dX9_as_19 : decode cX9_as 19 = .ok (.ireturn, 1) := by decide +kernel
theorem dX9_as_20 : decode cX9_as 20 = .ok (.aload_n 0, 1) := by decide +kernel
theorem dX9_as_21 : decode cX9_as 21 = .ok (.iload_n 1, 1) := by decide +kernel
theorem dX9_as_22 : decode cX9_as 22 = .ok (.iconst 0, 1) := by decide +kernel
theorem dX9_as_23 : decode cX9_as 23 = .ok (.invokevirtual 107, 3) := by decide +kernel
theorem dX9_as_26 : decode cX9_as 26 = .ok (.iload_n 2, 1) := by decide +kernel
theorem dX9_as_27 : decode cX9_as 27 = .ok (.invokestatic 167, 3) := by decide +kernel
theorem dX9_as_30 : decode cX9_as 30 = .ok (.ifCond .eq 12, 3) := by decide +kernel
theorem dX9_as_33 : decode cX9_as 33 = .ok (.aload_n 0, 1) := by decide +kernel
theorem dX9_as_34 : decode cX9_as 34 = .ok (.iload_n 1, 1) := by decide +kernel
theorem dX9_as_35 : decode cX9_as 35 = .ok (.iconst 3, 1) := by decide +kernel
theorem dX9_as_36 : decode cX9_as 36 = .ok (.invokevirtual 107, 3) := by decide +kernel
theorem dX9_as_39 : decode cX9_as 39 = .ok (.goto 5, 3) := by decide +kernel
theorem dX9_as_42 : decode cX9_as 42 = .ok (.ldc 171, 2) := by decide +kernel
theorem dX9_as_44 : decode cX9_as 44 = .ok (.ireturn, 1) := by decide +kernel
theorem dX9_turns_0 : decode cX9_turns 0 = .ok (.aload_n 0, 1) := by decide +kernel
theorem dX9_turns_1 : decode cX9_turns 1 = .ok (.iload_n 1, 1) := by decide +kernel
theorem dX9_turns_2 : decode cX9_turns 2 = .ok (.invokevirtual 152, 3) := by decide +kernel
theorem dX9_turns_5 : decode cX9_turns 5 = .ok (.ifCond .eq 22, 3) := by decide +kernel
theorem dX9_turns_8 : decode cX9_turns 8 = .ok (.iload_n 2, 1) := by decide +kernel
theorem dX9_turns_9 : decode cX9_turns 9 = .ok (.iconst 0, 1) := by decide +kernel
theorem dX9_turns_10 : decode cX9_turns 10 = .ok (.iconst 5, 1) := by decide +kernel
theorem dX9_turns_11 : decode cX9_turns 11 = .ok (.invokestatic 103, 3) := by decide +kernel
theorem dX9_turns_14 : decode cX9_turns 14 = .ok (.ifCond .eq 13, 3) := by decide +kernel
theorem dX9_turns_17 : decode cX9_turns 17 = .ok (.aload_n 0, 1) := by decide +kernel
theorem dX9_turns_18 : decode cX9_turns 18 = .ok (.iload_n 1, 1) := by decide +kernel
theorem dX9_turns_19 : decode cX9_turns 19 = .ok (.iconst 0, 1) := by decide +kernel
theorem dX9_turns_20 : decode cX9_turns 20 = .ok (.iload_n 2, 1) := by decide +kernel
theorem dX9_turns_21 : decode cX9_turns 21 = .ok (.invokevirtual 172, 3) := by decide +kernel
theorem dX9_turns_24 : decode cX9_turns 24 = .ok (.goto 5, 3) := by decide +kernel
theorem dX9_turns_27 : decode cX9_turns 27 = .ok (.ldc 146, 2) := by decide +kernel
theorem dX9_turns_29 : decode cX9_turns 29 = .ok (.ireturn, 1) := by decide +kernel
theorem dX9_set_0 : decode cX9_set 0 = .ok (.aload_n 0, 1) := by decide +kernel
theorem dX9_set_1 : decode cX9_set 1 = .ok (.iload_n 1, 1) := by decide +kernel
theorem dX9_set_2 : decode cX9_set 2 = .ok (.invokevirtual 152, 3) := by decide +kernel
theorem dX9_set_5 : decode cX9_set 5 = .ok (.ifCond .eq 53, 3) := by decide +kernel
theorem dX9_set_8 : decode cX9_set 8 = .ok (.iload_n 2, 1) := by decide +kernel
theorem dX9_set_9 : decode cX9_set 9 = .ok (.iconst 0, 1) := by decide +kernel
theorem dX9_set_10 : decode cX9_set 10 = .ok (.iconst 2, 1) := by decide +kernel
theorem dX9_set_11 : decode cX9_set 11 = .ok (.invokestatic 103, 3) := by decide +kernel
theorem dX9_set_14 : decode cX9_set 14 = .ok (.ifCond .eq 44, 3) := by decide +kernel
theorem dX9_set_17 : decode cX9_set 17 = .ok (.iload_n 3, 1) := by decide +kernel
theorem dX9_set_18 : decode cX9_set 18 = .ok (.iload_n 2, 1) := by decide +kernel
theorem dX9_set_19 : decode cX9_set 19 = .ok (.iconst 2, 1) := by decide +kernel
theorem dX9_set_20 : decode cX9_set 20 = .ok (.if_icmp .ne 7, 3) := by decide +kernel
theorem dX9_set_23 : decode cX9_set 23 = .ok (.iconst 1, 1) := by decide +kernel
theorem dX9_set_24 : decode cX9_set 24 = .ok (.goto 4, 3) := by decide +kernel
theorem dX9_set_27 : decode cX9_set 27 = .ok (.iconst 0, 1) := by decide +kernel
theorem dX9_set_28 : decode cX9_set 28 = .ok (.iload_n 2, 1) := by decide +kernel
theorem dX9_set_29 : decode cX9_set 29 = .ok (.ifCond .ne 9, 3) := by decide +kernel
theorem dX9_set_32 : decode cX9_set 32 = .ok (.sipush 999, 3) := by decide +kernel
theorem dX9_set_35 : decode cX9_set 35 = .ok (.goto 17, 3) := by decide +kernel
theorem dX9_set_38 : decode cX9_set 38 = .ok (.iload_n 2, 1) := by decide +kernel
theorem dX9_set_39 : decode cX9_set 39 = .ok (.iconst 1, 1) := by decide +kernel
theorem dX9_set_40 : decode cX9_set 40 = .ok (.if_icmp .ne 9, 3) := by decide +kernel
theorem dX9_set_43 : decode cX9_set 43 = .ok (.sipush 1439, 3) := by decide +kernel
theorem dX9_set_46 : decode cX9_set 46 = .ok (.goto 6, 3) := by decide +kernel
theorem dX9_set_49 : decode cX9_set 49 = .ok (.sipush 600, 3) := by decide +kernel
theorem dX9_set_52 : decode cX9_set 52 = .ok (.invokestatic 103, 3) := by decide +kernel
theorem dX9_set_55 : decode cX9_set 55 = .ok (.ifCond .ne 6, 3) := by decide +kernel
theorem dX9_set_58 : decode cX9_set 58 = .ok (.ldc 146, 2) := by decide +kernel
theorem dX9_set_60 : decode cX9_set 60 = .ok (.ireturn, 1) := by decide +kernel
theorem dX9_set_61 : decode cX9_set 61 = .ok (.aload_n 0, 1) := by decide +kernel
theorem dX9_set_62 : decode cX9_set 62 = .ok (.iload_n 1, 1) := by decide +kernel
theorem dX9_set_63 : decode cX9_set 63 = .ok (.iload_n 2, 1) := by decide +kernel
theorem dX9_set_64 : decode cX9_set 64 = .ok (.ifCond .ne 7, 3) := by decide +kernel
theorem dX9_set_67 : decode cX9_set 67 = .ok (.iconst 5, 1) := by decide +kernel
theorem dX9_set_68 : decode cX9_set 68 = .ok (.goto 13, 3) := by decide +kernel
theorem dX9_set_71 : decode cX9_set 71 = .ok (.iload_n 2, 1) := by decide +kernel
theorem dX9_set_72 : decode cX9_set 72 = .ok (.iconst 1, 1) := by decide +kernel
theorem dX9_set_73 : decode cX9_set 73 = .ok (.if_icmp .ne 7, 3) := by decide +kernel
theorem dX9_set_76 : decode cX9_set 76 = .ok (.iconst 3, 1) := by decide +kernel
theorem dX9_set_77 : decode cX9_set 77 = .ok (.goto 4, 3) := by decide +kernel
theorem dX9_set_80 : decode cX9_set 80 = .ok (.iconst 4, 1) := by decide +kernel
theorem dX9_set_81 : decode cX9_set 81 = .ok (.iload_n 3, 1) := by decide +kernel
theorem dX9_set_82 : decode cX9_set 82 = .ok (.invokevirtual 172, 3) := by decide +kernel
theorem dX9_set_85 : decode cX9_set 85 = .ok (.ireturn, 1) := by decide +kernel
theorem dX9_areChances_0 : decode cX9_areChances 0 = .ok (.iload_n 0, 1) := by decide +kernel
theorem dX9_areChances_1 : decode cX9_areChances 1 = .ok (.iconst 0, 1) := by decide +kernel
theorem dX9_areChances_2 : decode cX9_areChances 2 = .ok (.bipush 100, 2) := by decide +kernel
theorem dX9_areChances_4 : decode cX9_areChances 4 = .ok (.invokestatic 103, 3) := by decide +kernel
theorem dX9_areChances_7 : decode cX9_areChances 7 = .ok (.ifCond .eq 37, 3) := by decide +kernel
theorem dX9_areChances_10 : decode cX9_areChances 10 = .ok (.iload_n 1, 1) := by decide +kernel
theorem dX9_areChances_11 : decode cX9_areChances 11 = .ok (.iconst 0, 1) := by decide +kernel
theorem dX9_areChances_12 : decode cX9_areChances 12 = .ok (.bipush 100, 2) := by decide +kernel
theorem dX9_areChances_14 : decode cX9_areChances 14 = .ok (.invokestatic 103, 3) := by decide +kernel
theorem dX9_areChances_17 : decode cX9_areChances 17 = .ok (.ifCond .eq 27, 3) := by decide +kernel
theorem dX9_areChances_20 : decode cX9_areChances 20 = .ok (.iload_n 2, 1) := by decide +kernel
theorem dX9_areChances_21 : decode cX9_areChances 21 = .ok (.iconst 0, 1) := by decide +kernel
theorem dX9_areChances_22 : decode cX9_areChances 22 = .ok (.bipush 100, 2) := by decide +kernel
theorem dX9_areChances_24 : decode cX9_areChances 24 = .ok (.invokestatic 103, 3) := by decide +kernel
theorem dX9_areChances_27 : decode cX9_areChances 27 = .ok (.ifCond .eq 17, 3) := by decide +kernel
theorem dX9_areChances_30 : decode cX9_areChances 30 = .ok (.iload_n 0, 1) := by decide +kernel
theorem dX9_areChances_31 : decode cX9_areChances 31 = .ok (.iload_n 1, 1) := by decide +kernel
theorem dX9_areChances_32 : decode cX9_areChances 32 = .ok (.iadd, 1) := by decide +kernel
theorem dX9_areChances_33 : decode cX9_areChances 33 = .ok (.iload_n 2, 1) := by decide +kernel
theorem dX9_areChances_34 : decode cX9_areChances 34 = .ok (.iadd, 1) := by decide +kernel
theorem dX9_areChances_35 : decode cX9_areChances 35 = .ok (.bipush 100, 2) := by decide +kernel
theorem dX9_areChances_37 : decode cX9_areChances 37 = .ok (.if_icmp .gt 7, 3) := by decide +kernel
theorem dX9_areChances_40 : decode cX9_areChances 40 = .ok (.iconst 1, 1) := by decide +kernel
theorem dX9_areChances_41 : decode cX9_areChances 41 = .ok (.goto 4, 3) := by decide +kernel
theorem dX9_areChances_44 : decode cX9_areChances 44 = .ok (.iconst 0, 1) := by decide +kernel
theorem dX9_areChances_45 : decode cX9_areChances 45 = .ok (.ireturn, 1) := by decide +kernel
theorem dX9_setsChances_0 : decode cX9_setsChances 0 = .ok (.bipush 15, 2) := by decide +kernel
theorem dX9_setsChances_2 : decode cX9_setsChances 2 = .ok (.bipush 11, 2) := by decide +kernel
theorem dX9_setsChances_4 : decode cX9_setsChances 4 = .ok (.iload_n 1, 1) := by decide +kernel
theorem dX9_setsChances_5 : decode cX9_setsChances 5 = .ok (.imul, 1) := by decide +kernel
theorem dX9_setsChances_6 : decode cX9_setsChances 6 = .ok (.iadd, 1) := by decide +kernel
theorem dX9_setsChances_7 : decode cX9_setsChances 7 = .ok (.bipush 7, 2) := by decide +kernel
theorem dX9_setsChances_9 : decode cX9_setsChances 9 = .ok (.iadd, 1) := by decide +kernel
theorem dX9_setsChances_10 : decode cX9_setsChances 10 = .ok (.istore 5, 2) := by decide +kernel
theorem dX9_setsChances_12 : decode cX9_setsChances 12 = .ok (.aload_n 0, 1) := by decide +kernel
theorem dX9_setsChances_13 : decode cX9_setsChances 13 = .ok (.getfield 9, 3) := by decide +kernel
theorem dX9_setsChances_16 : decode cX9_setsChances 16 = .ok (.iload 5, 2) := by decide +kernel
theorem dX9_setsChances_18 : decode cX9_setsChances 18 = .ok (.bipush 100, 2) := by decide +kernel
theorem dX9_setsChances_20 : decode cX9_setsChances 20 = .ok (.iload_n 2, 1) := by decide +kernel
theorem dX9_setsChances_21 : decode cX9_setsChances 21 = .ok (.isub, 1) := by decide +kernel
theorem dX9_setsChances_22 : decode cX9_setsChances 22 = .ok (.iload_n 3, 1) := by decide +kernel
theorem dX9_setsChances_23 : decode cX9_setsChances 23 = .ok (.isub, 1) := by decide +kernel
theorem dX9_setsChances_24 : decode cX9_setsChances 24 = .ok (.iload 4, 2) := by decide +kernel
theorem dX9_setsChances_26 : decode cX9_setsChances 26 = .ok (.isub, 1) := by decide +kernel
theorem dX9_setsChances_27 : decode cX9_setsChances 27 = .ok (.iastore, 1) := by decide +kernel
theorem dX9_setsChances_28 : decode cX9_setsChances 28 = .ok (.aload_n 0, 1) := by decide +kernel
theorem dX9_setsChances_29 : decode cX9_setsChances 29 = .ok (.getfield 9, 3) := by decide +kernel
theorem dX9_setsChances_32 : decode cX9_setsChances 32 = .ok (.iload 5, 2) := by decide +kernel
theorem dX9_setsChances_34 : decode cX9_setsChances 34 = .ok (.iconst 1, 1) := by decide +kernel
theorem dX9_setsChances_35 : decode cX9_setsChances 35 = .ok (.iadd, 1) := by decide +kernel
theorem dX9_setsChances_36 : decode cX9_setsChances 36 = .ok (.iload_n 2, 1) := by decide +kernel
theorem dX9_setsChances_37 : decode cX9_setsChances 37 = .ok (.iastore, 1) := by decide +kernel
theorem dX9_setsChances_38 : decode cX9_setsChances 38 = .ok (.aload_n 0, 1) := by decide +kernel
theorem dX9_setsChances_39 : decode cX9_setsChances 39 = .ok (.getfield 9, 3) := by decide +kernel
theorem dX9_setsChances_42 : decode cX9_setsChances 42 = .ok (.iload 5, 2) := by decide +kernel
theorem dX9_setsChances_44 : decode cX9_setsChances 44 = .ok (.iconst 2, 1) := by decide +kernel
theorem dX9_setsChances_45 : decode cX9_setsChances 45 = .ok (.iadd, 1) := by decide +kernel
theorem dX9_setsChances_46 : decode cX9_setsChances 46 = .ok (.iload_n 3, 1) := by decide +kernel
theorem dX9_setsChances_47 : decode cX9_setsChances 47 = .ok (.iastore, 1) := by decide +kernel
theorem dX9_setsChances_48 : decode cX9_setsChances 48 = .ok (.aload_n 0, 1) := by decide +kernel
theorem dX9_setsChances_49 : decode cX9_setsChances 49 = .ok (.getfield 9, 3) := by decide +kernel
theorem dX9_setsChances_52 : decode cX9_setsChances 52 = .ok (.iload 5, 2) := by decide +kernel
theorem dX9_setsChances_54 : decode cX9_setsChances 54 = .ok (.iconst 3, 1) := by decide +kernel
theorem dX9_setsChances_55 : decode cX9_setsChances 55 = .ok (.iadd, 1) := by decide +kernel
theorem dX9_setsChances_56 : decode cX9_setsChances 56 = .ok (.iload 4, 2) := by decide +kernel
theorem dX9_setsChances_58 : decode cX9_setsChances 58 = .ok (.iastore, 1) := by decide +kernel
theorem dX9_setsChances_59 : decode cX9_setsChances 59 = .ok (.aload_n 0, 1) := by decide +kernel
theorem dX9_setsChances_60 : decode cX9_setsChances 60 = .ok (.iconst 0, 1) := by decide +kernel
theorem dX9_setsChances_61 : decode cX9_setsChances 61 = .ok (.putfield 111, 3) := by decide +kernel
theorem dX9_setsChances_64 : decode cX9_setsChances 64 = .ok (.aload_n 0, 1) := by decide +kernel
theorem dX9_setsChances_65 : decode cX9_setsChances 65 = .ok (.getfield 9, 3) := by decide +kernel
theorem dX9_setsChances_68 : decode cX9_setsChances 68 = .ok (.iload 5, 2) := by decide +kernel
theorem dX9_setsChances_70 : decode cX9_setsChances 70 = .ok (.iaload, 1) := by decide +kernel
theorem dX9_setsChances_71 : decode cX9_setsChances 71 = .ok (.ireturn, 1) := by decide +kernel
theorem dX9_chances_0 : decode cX9_chances 0 = .ok (.aload_n 0, 1) := by decide +kernel
theorem dX9_chances_1 : decode cX9_chances 1 = .ok (.iload_n 1, 1) := by decide +kernel
theorem dX9_chances_2 : decode cX9_chances 2 = .ok (.invokevirtual 152, 3) := by decide +kernel
theorem dX9_chances_5 : decode cX9_chances 5 = .ok (.ifCond .eq 25, 3) := by decide +kernel
theorem dX9_chances_8 : decode cX9_chances 8 = .ok (.iload_n 2, 1) := by decide +kernel
theorem dX9_chances_9 : decode cX9_chances 9 = .ok (.iload_n 3, 1) := by decide +kernel
theorem dX9_chances_10 : decode cX9_chances 10 = .ok (.iload 4, 2) := by decide +kernel
theorem dX9_chances_12 : decode cX9_chances 12 = .ok (.invokestatic 175, 3) := by decide +kernel
theorem dX9_chances_15 : decode cX9_chances 15 = .ok (.ifCond .eq 15, 3) := by decide +kernel
theorem dX9_chances_18 : decode cX9_chances 18 = .ok (.aload_n 0, 1) := by decide +kernel
theorem dX9_chances_19 : decode cX9_chances 19 = .ok (.iload_n 1, 1) := by decide +kernel
theorem dX9_chances_20 : decode cX9_chances 20 = .ok (.iload_n 2, 1) := by decide +kernel
theorem dX9_chances_21 : decode cX9_chances 21 = .ok (.iload_n 3, 1) := by decide +kernel
theorem dX9_chances_22 : decode cX9_chances 22 = .ok (.iload 4, 2) := by decide +kernel
theorem dX9_chances_24 : decode cX9_chances 24 = .ok (.invokevirtual 178, 3) := by decide +kernel
theorem dX9_chances_27 : decode cX9_chances 27 = .ok (.goto 5, 3) := by decide +kernel
theorem dX9_chances_30 : decode cX9_chances 30 = .ok (.ldc 146, 2) := by decide +kernel
theorem dX9_chances_32 : decode cX9_chances 32 = .ok (.ireturn, 1) := by decide +kernel
theorem dX9_hangs_0 : decode cX9_hangs 0 = .ok (.aload_n 0, 1) := by decide +kernel
theorem dX9_hangs_1 : decode cX9_hangs 1 = .ok (.iload_n 1, 1) := by decide +kernel
theorem dX9_hangs_2 : decode cX9_hangs 2 = .ok (.invokevirtual 152, 3) := by decide +kernel
theorem dX9_hangs_5 : decode cX9_hangs 5 = .ok (.ifCond .eq 20, 3) := by decide +kernel
theorem dX9_hangs_8 : decode cX9_hangs 8 = .ok (.iload_n 2, 1) := by decide +kernel
theorem dX9_hangs_9 : decode cX9_hangs 9 = .ok (.ldc 115, 2) := by decide +kernel
theorem dX9_hangs_11 : decode cX9_hangs 11 = .ok (.if_icmp .eq 17, 3) := by decide +kernel
theorem dX9_hangs_14 : decode cX9_hangs 14 = .ok (.iload_n 2, 1) := by decide +kernel
theorem dX9_hangs_15 : decode cX9_hangs 15 = .ok (.iconst 0, 1) := by decide +kernel
theorem dX9_hangs_16 : decode cX9_hangs 16 = .ok (.iload_n 1, 1) := by decide +kernel
theorem dX9_hangs_17 : decode cX9_hangs 17 = .ok (.iconst 1, 1) := by decide +kernel
theorem dX9_hangs_18 : decode cX9_hangs 18 = .ok (.isub, 1) := by decide +kernel
theorem dX9_hangs_19 : decode cX9_hangs 19 = .ok (.invokestatic 103, 3) := by decide +kernel
theorem dX9_hangs_22 : decode cX9_hangs 22 = .ok (.ifCond .ne 6, 3) := by decide +kernel
theorem dX9_hangs_25 : decode cX9_hangs 25 = .ok (.ldc 146, 2) := by decide +kernel
theorem dX9_hangs_27 : decode cX9_hangs 27 = .ok (.ireturn, 1) := by decide +kernel
theorem dX9_hangs_28 : decode cX9_hangs 28 = .ok (.aload_n 0, 1) := by decide +kernel
theorem dX9_hangs_29 : decode cX9_hangs 29 = .ok (.iload_n 1, 1) := by decide +kernel
theorem dX9_hangs_30 : decode cX9_hangs 30 = .ok (.bipush 6, 2) := by decide +kernel
theorem dX9_hangs_32 : decode cX9_hangs 32 = .ok (.iload_n 2, 1) := by decide +kernel
theorem dX9_hangs_33 : decode cX9_hangs 33 = .ok (.ldc 115, 2) := by decide +kernel
theorem dX9_hangs_35 : decode cX9_hangs 35 = .ok (.if_icmp .ne 7, 3) := by decide +kernel
theorem dX9_hangs_38 : decode cX9_hangs 38 = .ok (.iconst (-1), 1) := by decide +kernel
theorem dX9_hangs_39 : decode cX9_hangs 39 = .ok (.goto 4, 3) := by decide +kernel
theorem dX9_hangs_42 : decode cX9_hangs 42 = .ok (.iload_n 2, 1) := by decide +kernel
theorem dX9_hangs_43 : decode cX9_hangs 43 = .ok (.invokevirtual 172, 3) := by decide +kernel
theorem dX9_hangs_46 : decode cX9_hangs 46 = .ok (.invokestatic 161, 3) := by decide +kernel
theorem dX9_hangs_49 : decode cX9_hangs 49 = .ok (.ireturn, 1) := by decide +kernel
theorem dX9_day_0 : decode cX9_day 0 = .ok (.iload_n 1, 1) := by decide +kernel
theorem dX9_day_1 : decode cX9_day 1 = .ok (.iconst 0, 1) := by decide +kernel
theorem dX9_day_2 : decode cX9_day 2 = .ok (.sipush 999, 3) := by decide +kernel
theorem dX9_day_5 : decode cX9_day 5 = .ok (.invokestatic 103, 3) := by decide +kernel
theorem dX9_day_8 : decode cX9_day 8 = .ok (.ifCond .ne 6, 3) := by decide +kernel
theorem dX9_day_11 : decode cX9_day 11 = .ok (.ldc 146, 2) := by decide +kernel
theorem dX9_day_13 : decode cX9_day 13 = .ok (.ireturn, 1) := by decide +kernel
theorem dX9_day_14 : decode cX9_day 14 = .ok (.aload_n 0, 1) := by decide +kernel
theorem dX9_day_15 : decode cX9_day 15 = .ok (.getfield 9, 3) := by decide +kernel
theorem dX9_day_18 : decode cX9_day 18 = .ok (.iconst 1, 1) := by decide +kernel
theorem dX9_day_19 : decode cX9_day 19 = .ok (.iaload, 1) := by decide +kernel
theorem dX9_day_20 : decode cX9_day 20 = .ok (.istore_n 2, 1) := by decide +kernel
theorem dX9_day_21 : decode cX9_day 21 = .ok (.aload_n 0, 1) := by decide +kernel
theorem dX9_day_22 : decode cX9_day 22 = .ok (.getfield 9, 3) := by decide +kernel
theorem dX9_day_25 : decode cX9_day 25 = .ok (.iconst 1, 1) := by decide +kernel
theorem dX9_day_26 : decode cX9_day 26 = .ok (.iload_n 1, 1) := by decide +kernel
theorem dX9_day_27 : decode cX9_day 27 = .ok (.iastore, 1) := by decide +kernel
theorem dX9_day_28 : decode cX9_day 28 = .ok (.aload_n 0, 1) := by decide +kernel
theorem dX9_day_29 : decode cX9_day 29 = .ok (.iconst 0, 1) := by decide +kernel
theorem dX9_day_30 : decode cX9_day 30 = .ok (.putfield 111, 3) := by decide +kernel
theorem dX9_day_33 : decode cX9_day 33 = .ok (.iload_n 2, 1) := by decide +kernel
theorem dX9_day_34 : decode cX9_day 34 = .ok (.ireturn, 1) := by decide +kernel
theorem dX9_makesBy_0 : decode cX9_makesBy 0 = .ok (.iconst 0, 1) := by decide +kernel
theorem dX9_makesBy_1 : decode cX9_makesBy 1 = .ok (.istore 4, 2) := by decide +kernel
theorem dX9_makesBy_3 : decode cX9_makesBy 3 = .ok (.iconst 0, 1) := by decide +kernel
theorem dX9_makesBy_4 : decode cX9_makesBy 4 = .ok (.istore 5, 2) := by decide +kernel
theorem dX9_makesBy_6 : decode cX9_makesBy 6 = .ok (.iload 5, 2) := by decide +kernel
theorem dX9_makesBy_8 : decode cX9_makesBy 8 = .ok (.iconst 4, 1) := by decide +kernel
theorem dX9_makesBy_9 : decode cX9_makesBy 9 = .ok (.if_icmp .ge 96, 3) := by decide +kernel
theorem dX9_makesBy_12 : decode cX9_makesBy 12 = .ok (.aload_n 0, 1) := by decide +kernel
theorem dX9_makesBy_13 : decode cX9_makesBy 13 = .ok (.iload_n 1, 1) := by decide +kernel
theorem dX9_makesBy_14 : decode cX9_makesBy 14 = .ok (.iload 5, 2) := by decide +kernel
theorem dX9_makesBy_16 : decode cX9_makesBy 16 = .ok (.invokevirtual 158, 3) := by decide +kernel
theorem dX9_makesBy_19 : decode cX9_makesBy 19 = .ok (.aload_n 0, 1) := by decide +kernel
theorem dX9_makesBy_20 : decode cX9_makesBy 20 = .ok (.getfield 19, 3) := by decide +kernel
theorem dX9_makesBy_23 : decode cX9_makesBy 23 = .ok (.aload_n 0, 1) := by decide +kernel
theorem dX9_makesBy_24 : decode cX9_makesBy 24 = .ok (.iload_n 1, 1) := by decide +kernel
theorem dX9_makesBy_25 : decode cX9_makesBy 25 = .ok (.iconst 2, 1) := by decide +kernel
theorem dX9_makesBy_26 : decode cX9_makesBy 26 = .ok (.invokevirtual 107, 3) := by decide +kernel
theorem dX9_makesBy_29 : decode cX9_makesBy 29 = .ok (.iaload, 1) := by decide +kernel
theorem dX9_makesBy_30 : decode cX9_makesBy 30 = .ok (.iadd, 1) := by decide +kernel
theorem dX9_makesBy_31 : decode cX9_makesBy 31 = .ok (.istore 6, 2) := by decide +kernel
theorem dX9_makesBy_33 : decode cX9_makesBy 33 = .ok (.iconst 0, 1) := by decide +kernel
theorem dX9_makesBy_34 : decode cX9_makesBy 34 = .ok (.istore 7, 2) := by decide +kernel
theorem dX9_makesBy_36 : decode cX9_makesBy 36 = .ok (.iload 7, 2) := by decide +kernel
theorem dX9_makesBy_38 : decode cX9_makesBy 38 = .ok (.iconst 4, 1) := by decide +kernel
theorem dX9_makesBy_39 : decode cX9_makesBy 39 = .ok (.if_icmp .ge 60, 3) := by decide +kernel
theorem dX9_makesBy_42 : decode cX9_makesBy 42 = .ok (.iload 4, 2) := by decide +kernel
theorem dX9_makesBy_44 : decode cX9_makesBy 44 = .ok (.iload 6, 2) := by decide +kernel
theorem dX9_makesBy_46 : decode cX9_makesBy 46 = .ok (.aload_n 0, 1) := by decide +kernel
theorem dX9_makesBy_47 : decode cX9_makesBy 47 = .ok (.iload_n 2, 1) := by decide +kernel
theorem dX9_makesBy_48 : decode cX9_makesBy 48 = .ok (.iload 7, 2) := by decide +kernel
theorem dX9_makesBy_50 : decode cX9_makesBy 50 = .ok (.invokevirtual 143, 3) := by decide +kernel
theorem dX9_makesBy_53 : decode cX9_makesBy 53 = .ok (.iload_n 3, 1) := by decide +kernel
theorem dX9_makesBy_54 : decode cX9_makesBy 54 = .ok (.iadd, 1) := by decide +kernel
theorem dX9_makesBy_55 : decode cX9_makesBy 55 = .ok (.aload_n 0, 1) := by decide +kernel
theorem dX9_makesBy_56 : decode cX9_makesBy 56 = .ok (.getfield 25, 3) := by decide +kernel
theorem dX9_makesBy_59 : decode cX9_makesBy 59 = .ok (.iload_n 2, 1) := by decide +kernel
theorem dX9_makesBy_60 : decode cX9_makesBy 60 = .ok (.iaload, 1) := by decide +kernel
theorem dX9_makesBy_61 : decode cX9_makesBy 61 = .ok (.iadd, 1) := by decide +kernel
theorem dX9_makesBy_62 : decode cX9_makesBy 62 = .ok (.if_icmp .gt 27, 3) := by decide +kernel
theorem dX9_makesBy_65 : decode cX9_makesBy 65 = .ok (.aload_n 0, 1) := by decide +kernel
theorem dX9_makesBy_66 : decode cX9_makesBy 66 = .ok (.iload_n 1, 1) := by decide +kernel
theorem dX9_makesBy_67 : decode cX9_makesBy 67 = .ok (.bipush 7, 2) := by decide +kernel
theorem dX9_makesBy_69 : decode cX9_makesBy 69 = .ok (.iload 5, 2) := by decide +kernel
theorem dX9_makesBy_71 : decode cX9_makesBy 71 = .ok (.iadd, 1) := by decide +kernel
theorem dX9_makesBy_72 : decode cX9_makesBy 72 = .ok (.invokevirtual 107, 3) := by decide +kernel
theorem dX9_makesBy_75 : decode cX9_makesBy 75 = .ok (.aload_n 0, 1) := by decide +kernel
theorem dX9_makesBy_76 : decode cX9_makesBy 76 = .ok (.iload_n 2, 1) := by decide +kernel
theorem dX9_makesBy_77 : decode cX9_makesBy 77 = .ok (.bipush 7, 2) := by decide +kernel
theorem dX9_makesBy_79 : decode cX9_makesBy 79 = .ok (.iload 7, 2) := by decide +kernel
theorem dX9_makesBy_81 : decode cX9_makesBy 81 = .ok (.iadd, 1) := by decide +kernel
theorem dX9_makesBy_82 : decode cX9_makesBy 82 = .ok (.invokevirtual 107, 3) := by decide +kernel
theorem dX9_makesBy_85 : decode cX9_makesBy 85 = .ok (.imul, 1) := by decide +kernel
theorem dX9_makesBy_86 : decode cX9_makesBy 86 = .ok (.goto 4, 3) := by decide +kernel
theorem dX9_makesBy_89 : decode cX9_makesBy 89 = .ok (.iconst 0, 1) := by decide +kernel
theorem dX9_makesBy_90 : decode cX9_makesBy 90 = .ok (.iadd, 1) := by decide +kernel
theorem dX9_makesBy_91 : decode cX9_makesBy 91 = .ok (.istore 4, 2) := by decide +kernel
theorem dX9_makesBy_93 : decode cX9_makesBy 93 = .ok (.iinc 7 1, 3) := by decide +kernel
theorem dX9_makesBy_96 : decode cX9_makesBy 96 = .ok (.goto (-60), 3) := by decide +kernel
theorem dX9_makesBy_99 : decode cX9_makesBy 99 = .ok (.iinc 5 1, 3) := by decide +kernel
theorem dX9_makesBy_102 : decode cX9_makesBy 102 = .ok (.goto (-96), 3) := by decide +kernel
theorem dX9_makesBy_105 : decode cX9_makesBy 105 = .ok (.iload 4, 2) := by decide +kernel
theorem dX9_makesBy_107 : decode cX9_makesBy 107 = .ok (.ireturn, 1) := by decide +kernel
theorem dX9_areTwo_0 : decode cX9_areTwo 0 = .ok (.aload_n 0, 1) := by decide +kernel
theorem dX9_areTwo_1 : decode cX9_areTwo 1 = .ok (.iload_n 1, 1) := by decide +kernel
theorem dX9_areTwo_2 : decode cX9_areTwo 2 = .ok (.invokevirtual 152, 3) := by decide +kernel
theorem dX9_areTwo_5 : decode cX9_areTwo 5 = .ok (.ifCond .eq 20, 3) := by decide +kernel
theorem dX9_areTwo_8 : decode cX9_areTwo 8 = .ok (.aload_n 0, 1) := by decide +kernel
theorem dX9_areTwo_9 : decode cX9_areTwo 9 = .ok (.iload_n 2, 1) := by decide +kernel
theorem dX9_areTwo_10 : decode cX9_areTwo 10 = .ok (.invokevirtual 152, 3) := by decide +kernel
theorem dX9_areTwo_13 : decode cX9_areTwo 13 = .ok (.ifCond .eq 12, 3) := by decide +kernel
theorem dX9_areTwo_16 : decode cX9_areTwo 16 = .ok (.iload_n 1, 1) := by decide +kernel
theorem dX9_areTwo_17 : decode cX9_areTwo 17 = .ok (.iload_n 2, 1) := by decide +kernel
theorem dX9_areTwo_18 : decode cX9_areTwo 18 = .ok (.if_icmp .eq 7, 3) := by decide +kernel
theorem dX9_areTwo_21 : decode cX9_areTwo 21 = .ok (.iconst 1, 1) := by decide +kernel
theorem dX9_areTwo_22 : decode cX9_areTwo 22 = .ok (.goto 4, 3) := by decide +kernel
theorem dX9_areTwo_25 : decode cX9_areTwo 25 = .ok (.iconst 0, 1) := by decide +kernel
theorem dX9_areTwo_26 : decode cX9_areTwo 26 = .ok (.ireturn, 1) := by decide +kernel
theorem dX9_makes_0 : decode cX9_makes 0 = .ok (.aload_n 0, 1) := by decide +kernel
theorem dX9_makes_1 : decode cX9_makes 1 = .ok (.iload_n 1, 1) := by decide +kernel
theorem dX9_makes_2 : decode cX9_makes 2 = .ok (.iload_n 2, 1) := by decide +kernel
theorem dX9_makes_3 : decode cX9_makes 3 = .ok (.invokevirtual 182, 3) := by decide +kernel
theorem dX9_makes_6 : decode cX9_makes 6 = .ok (.ifCond .ne 6, 3) := by decide +kernel
theorem dX9_makes_9 : decode cX9_makes 9 = .ok (.ldc 146, 2) := by decide +kernel
theorem dX9_makes_11 : decode cX9_makes 11 = .ok (.ireturn, 1) := by decide +kernel
theorem dX9_makes_12 : decode cX9_makes 12 = .ok (.aload_n 0, 1) := by decide +kernel
theorem dX9_makes_13 : decode cX9_makes 13 = .ok (.iload_n 1, 1) := by decide +kernel
theorem dX9_makes_14 : decode cX9_makes 14 = .ok (.iconst 2, 1) := by decide +kernel
theorem dX9_makes_15 : decode cX9_makes 15 = .ok (.invokevirtual 107, 3) := by decide +kernel
theorem dX9_makes_18 : decode cX9_makes 18 = .ok (.aload_n 0, 1) := by decide +kernel
theorem dX9_makes_19 : decode cX9_makes 19 = .ok (.iload_n 2, 1) := by decide +kernel
theorem dX9_makes_20 : decode cX9_makes 20 = .ok (.iconst 1, 1) := by decide +kernel
theorem dX9_makes_21 : decode cX9_makes 21 = .ok (.invokevirtual 107, 3) := by decide +kernel
theorem dX9_makes_24 : decode cX9_makes 24 = .ok (.if_icmp .eq 6, 3) := by decide +kernel
theorem dX9_makes_27 : decode cX9_makes 27 = .ok (.ldc 185, 2) := by decide +kernel
theorem dX9_makes_29 : decode cX9_makes 29 = .ok (.ireturn, 1) := by decide +kernel
theorem dX9_makes_30 : decode cX9_makes 30 = .ok (.aload_n 0, 1) := by decide +kernel
theorem dX9_makes_31 : decode cX9_makes 31 = .ok (.invokevirtual 155, 3) := by decide +kernel
theorem dX9_makes_34 : decode cX9_makes 34 = .ok (.aload_n 0, 1) := by decide +kernel
theorem dX9_makes_35 : decode cX9_makes 35 = .ok (.iload_n 1, 1) := by decide +kernel
theorem dX9_makes_36 : decode cX9_makes 36 = .ok (.iload_n 2, 1) := by decide +kernel
theorem dX9_makes_37 : decode cX9_makes 37 = .ok (.iconst 0, 1) := by decide +kernel
theorem dX9_makes_38 : decode cX9_makes 38 = .ok (.invokevirtual 186, 3) := by decide +kernel
theorem dX9_makes_41 : decode cX9_makes 41 = .ok (.ireturn, 1) := by decide +kernel
theorem dX9_never_0 : decode cX9_never 0 = .ok (.iload_n 1, 1) := by decide +kernel
theorem dX9_never_1 : decode cX9_never 1 = .ok (.iconst 0, 1) := by decide +kernel
theorem dX9_never_2 : decode cX9_never 2 = .ok (.iconst 1, 1) := by decide +kernel
theorem dX9_never_3 : decode cX9_never 3 = .ok (.invokestatic 103, 3) := by decide +kernel
theorem dX9_never_6 : decode cX9_never 6 = .ok (.ifCond .ne 6, 3) := by decide +kernel
theorem dX9_never_9 : decode cX9_never 9 = .ok (.ldc 146, 2) := by decide +kernel
theorem dX9_never_11 : decode cX9_never 11 = .ok (.ireturn, 1) := by decide +kernel
theorem dX9_never_12 : decode cX9_never 12 = .ok (.aload_n 0, 1) := by decide +kernel
theorem dX9_never_13 : decode cX9_never 13 = .ok (.invokevirtual 155, 3) := by decide +kernel
theorem dX9_never_16 : decode cX9_never 16 = .ok (.iconst 0, 1) := by decide +kernel
theorem dX9_never_17 : decode cX9_never 17 = .ok (.istore_n 2, 1) := by decide +kernel
theorem dX9_never_18 : decode cX9_never 18 = .ok (.ldc 115, 2) := by decide +kernel
theorem dX9_never_20 : decode cX9_never 20 = .ok (.istore_n 3, 1) := by decide +kernel
theorem dX9_never_21 : decode cX9_never 21 = .ok (.iconst 0, 1) := by decide +kernel
theorem dX9_never_22 : decode cX9_never 22 = .ok (.istore 4, 2) := by decide +kernel
theorem dX9_never_24 : decode cX9_never 24 = .ok (.iload 4, 2) := by decide +kernel
theorem dX9_never_26 : decode cX9_never 26 = .ok (.aload_n 0, 1) := by decide +kernel
theorem dX9_never_27 : decode cX9_never 27 = .ok (.getfield 9, 3) := by decide +kernel
theorem dX9_never_30 : decode cX9_never 30 = .ok (.iconst 5, 1) := by decide +kernel
theorem dX9_never_31 : decode cX9_never 31 = .ok (.iaload, 1) := by decide +kernel
theorem dX9_never_32 : decode cX9_never 32 = .ok (.if_icmp .ge 85, 3) := by decide +kernel
theorem dX9_never_35 : decode cX9_never 35 = .ok (.iconst 0, 1) := by decide +kernel
theorem dX9_never_36 : decode cX9_never 36 = .ok (.istore 5, 2) := by decide +kernel
theorem dX9_never_38 : decode cX9_never 38 = .ok (.iload 5, 2) := by decide +kernel
theorem dX9_never_40 : decode cX9_never 40 = .ok (.aload_n 0, 1) := by decide +kernel
theorem dX9_never_41 : decode cX9_never 41 = .ok (.getfield 9, 3) := by decide +kernel
theorem dX9_never_44 : decode cX9_never 44 = .ok (.iconst 5, 1) := by decide +kernel
theorem dX9_never_45 : decode cX9_never 45 = .ok (.iaload, 1) := by decide +kernel
theorem dX9_never_46 : decode cX9_never 46 = .ok (.if_icmp .ge 65, 3) := by decide +kernel
theorem dX9_never_49 : decode cX9_never 49 = .ok (.iload 4, 2) := by decide +kernel
theorem dX9_never_51 : decode cX9_never 51 = .ok (.iload 5, 2) := by decide +kernel
theorem dX9_never_53 : decode cX9_never 53 = .ok (.if_icmp .eq 52, 3) := by decide +kernel
theorem dX9_never_56 : decode cX9_never 56 = .ok (.aload_n 0, 1) := by decide +kernel
theorem dX9_never_57 : decode cX9_never 57 = .ok (.iload 4, 2) := by decide +kernel
theorem dX9_never_59 : decode cX9_never 59 = .ok (.iconst 2, 1) := by decide +kernel
theorem dX9_never_60 : decode cX9_never 60 = .ok (.invokevirtual 107, 3) := by decide +kernel
theorem dX9_never_63 : decode cX9_never 63 = .ok (.aload_n 0, 1) := by decide +kernel
theorem dX9_never_64 : decode cX9_never 64 = .ok (.iload 5, 2) := by decide +kernel
theorem dX9_never_66 : decode cX9_never 66 = .ok (.iconst 1, 1) := by decide +kernel
theorem dX9_never_67 : decode cX9_never 67 = .ok (.invokevirtual 107, 3) := by decide +kernel
theorem dX9_never_70 : decode cX9_never 70 = .ok (.if_icmp .ne 35, 3) := by decide +kernel
theorem dX9_never_73 : decode cX9_never 73 = .ok (.aload_n 0, 1) := by decide +kernel
theorem dX9_never_74 : decode cX9_never 74 = .ok (.iload 4, 2) := by decide +kernel
theorem dX9_never_76 : decode cX9_never 76 = .ok (.iload 5, 2) := by decide +kernel
theorem dX9_never_78 : decode cX9_never 78 = .ok (.iconst 0, 1) := by decide +kernel
theorem dX9_never_79 : decode cX9_never 79 = .ok (.invokevirtual 186, 3) := by decide +kernel
theorem dX9_never_82 : decode cX9_never 82 = .ok (.ifCond .ne 23, 3) := by decide +kernel
theorem dX9_never_85 : decode cX9_never 85 = .ok (.iload_n 2, 1) := by decide +kernel
theorem dX9_never_86 : decode cX9_never 86 = .ok (.ifCond .ne 14, 3) := by decide +kernel
theorem dX9_never_89 : decode cX9_never 89 = .ok (.bipush 100, 2) := by decide +kernel
theorem dX9_never_91 : decode cX9_never 91 = .ok (.iload 4, 2) := by decide +kernel
theorem dX9_never_93 : decode cX9_never 93 = .ok (.imul, 1) := by decide +kernel
theorem dX9_never_94 : decode cX9_never 94 = .ok (.iload 5, 2) := by decide +kernel
theorem dX9_never_96 : decode cX9_never 96 = .ok (.iadd, 1) := by decide +kernel
theorem dX9_never_97 : decode cX9_never 97 = .ok (.goto 4, 3) := by decide +kernel
theorem dX9_never_100 : decode cX9_never 100 = .ok (.iload_n 3, 1) := by decide +kernel
theorem dX9_never_101 : decode cX9_never 101 = .ok (.istore_n 3, 1) := by decide +kernel
theorem dX9_never_102 : decode cX9_never 102 = .ok (.iinc 2 1, 3) := by decide +kernel
theorem dX9_never_105 : decode cX9_never 105 = .ok (.iinc 5 1, 3) := by decide +kernel
theorem dX9_never_108 : decode cX9_never 108 = .ok (.goto (-70), 3) := by decide +kernel
theorem dX9_never_111 : decode cX9_never 111 = .ok (.iinc 4 1, 3) := by decide +kernel
theorem dX9_never_114 : decode cX9_never 114 = .ok (.goto (-90), 3) := by decide +kernel
theorem dX9_never_117 : decode cX9_never 117 = .ok (.iload_n 1, 1) := by decide +kernel
theorem dX9_never_118 : decode cX9_never 118 = .ok (.ifCond .ne 7, 3) := by decide +kernel
theorem dX9_never_121 : decode cX9_never 121 = .ok (.iload_n 2, 1) := by decide +kernel
theorem dX9_never_122 : decode cX9_never 122 = .ok (.goto 4, 3) := by decide +kernel
theorem dX9_never_125 : decode cX9_never 125 = .ok (.iload_n 3, 1) := by decide +kernel
theorem dX9_never_126 : decode cX9_never 126 = .ok (.ireturn, 1) := by decide +kernel
theorem dX9_mends_0 : decode cX9_mends 0 = .ok (.aload_n 0, 1) := by decide +kernel
theorem dX9_mends_1 : decode cX9_mends 1 = .ok (.iload_n 1, 1) := by decide +kernel
theorem dX9_mends_2 : decode cX9_mends 2 = .ok (.iload_n 2, 1) := by decide +kernel
theorem dX9_mends_3 : decode cX9_mends 3 = .ok (.invokevirtual 182, 3) := by decide +kernel
theorem dX9_mends_6 : decode cX9_mends 6 = .ok (.ifCond .eq 14, 3) := by decide +kernel
theorem dX9_mends_9 : decode cX9_mends 9 = .ok (.iload_n 3, 1) := by decide +kernel
theorem dX9_mends_10 : decode cX9_mends 10 = .ok (.iconst 1, 1) := by decide +kernel
theorem dX9_mends_11 : decode cX9_mends 11 = .ok (.sipush 10000, 3) := by decide +kernel
theorem dX9_mends_14 : decode cX9_mends 14 = .ok (.invokestatic 103, 3) := by decide +kernel
theorem dX9_mends_17 : decode cX9_mends 17 = .ok (.ifCond .ne 6, 3) := by decide +kernel
theorem dX9_mends_20 : decode cX9_mends 20 = .ok (.ldc 146, 2) := by decide +kernel
theorem dX9_mends_22 : decode cX9_mends 22 = .ok (.ireturn, 1) := by decide +kernel
theorem dX9_mends_23 : decode cX9_mends 23 = .ok (.aload_n 0, 1) := by decide +kernel
theorem dX9_mends_24 : decode cX9_mends 24 = .ok (.iload_n 1, 1) := by decide +kernel
theorem dX9_mends_25 : decode cX9_mends 25 = .ok (.iconst 2, 1) := by decide +kernel
theorem dX9_mends_26 : decode cX9_mends 26 = .ok (.invokevirtual 107, 3) := by decide +kernel
theorem dX9_mends_29 : decode cX9_mends 29 = .ok (.aload_n 0, 1) := by decide +kernel
theorem dX9_mends_30 : decode cX9_mends 30 = .ok (.iload_n 2, 1) := by decide +kernel
theorem dX9_mends_31 : decode cX9_mends 31 = .ok (.iconst 1, 1) := by decide +kernel
theorem dX9_mends_32 : decode cX9_mends 32 = .ok (.invokevirtual 107, 3) := by decide +kernel
theorem dX9_mends_35 : decode cX9_mends 35 = .ok (.if_icmp .eq 6, 3) := by decide +kernel
theorem dX9_mends_38 : decode cX9_mends 38 = .ok (.ldc 185, 2) := by decide +kernel
theorem dX9_mends_40 : decode cX9_mends 40 = .ok (.ireturn, 1) := by decide +kernel
theorem dX9_mends_41 : decode cX9_mends 41 = .ok (.aload_n 0, 1) := by decide +kernel
theorem dX9_mends_42 : decode cX9_mends 42 = .ok (.invokevirtual 155, 3) := by decide +kernel
theorem dX9_mends_45 : decode cX9_mends 45 = .ok (.iconst 0, 1) := by decide +kernel
theorem dX9_mends_46 : decode cX9_mends 46 = .ok (.istore 4, 2) := by decide +kernel
theorem dX9_mends_48 : decode cX9_mends 48 = .ok (.iload 4, 2) := by decide +kernel
theorem dX9_mends_50 : decode cX9_mends 50 = .ok (.sipush 1000, 3) := by decide +kernel
theorem dX9_mends_53 : decode cX9_mends 53 = .ok (.if_icmp .ge 24, 3) := by decide +kernel
theorem dX9_mends_56 : decode cX9_mends 56 = .ok (.aload_n 0, 1) := by decide +kernel
theorem dX9_mends_57 : decode cX9_mends 57 = .ok (.iload_n 1, 1) := by decide +kernel
theorem dX9_mends_58 : decode cX9_mends 58 = .ok (.iload_n 2, 1) := by decide +kernel
theorem dX9_mends_59 : decode cX9_mends 59 = .ok (.iload 4, 2) := by decide +kernel
theorem dX9_mends_61 : decode cX9_mends 61 = .ok (.invokevirtual 186, 3) := by decide +kernel
theorem dX9_mends_64 : decode cX9_mends 64 = .ok (.iload_n 3, 1) := by decide +kernel
theorem dX9_mends_65 : decode cX9_mends 65 = .ok (.if_icmp .lt 6, 3) := by decide +kernel
theorem dX9_mends_68 : decode cX9_mends 68 = .ok (.iload 4, 2) := by decide +kernel
theorem dX9_mends_70 : decode cX9_mends 70 = .ok (.ireturn, 1) := by decide +kernel
theorem dX9_mends_71 : decode cX9_mends 71 = .ok (.iinc 4 1, 3) := by decide +kernel
theorem dX9_mends_74 : decode cX9_mends 74 = .ok (.goto (-26), 3) := by decide +kernel
theorem dX9_mends_77 : decode cX9_mends 77 = .ok (.ldc 115, 2) := by decide +kernel
theorem dX9_mends_79 : decode cX9_mends 79 = .ok (.ireturn, 1) := by decide +kernel
theorem dX9_add_0 : decode cX9_add 0 = .ok (.aload_n 0, 1) := by decide +kernel
theorem dX9_add_1 : decode cX9_add 1 = .ok (.iload_n 1, 1) := by decide +kernel
theorem dX9_add_2 : decode cX9_add 2 = .ok (.invokevirtual 152, 3) := by decide +kernel
theorem dX9_add_5 : decode cX9_add 5 = .ok (.ifCond .ne 6, 3) := by decide +kernel
theorem dX9_add_8 : decode cX9_add 8 = .ok (.ldc 146, 2) := by decide +kernel
theorem dX9_add_10 : decode cX9_add 10 = .ok (.ireturn, 1) := by decide +kernel
theorem dX9_add_11 : decode cX9_add 11 = .ok (.aload_n 0, 1) := by decide +kernel
theorem dX9_add_12 : decode cX9_add 12 = .ok (.getfield 9, 3) := by decide +kernel
theorem dX9_add_15 : decode cX9_add 15 = .ok (.bipush 7, 2) := by decide +kernel
theorem dX9_add_17 : decode cX9_add 17 = .ok (.iaload, 1) := by decide +kernel
theorem dX9_add_18 : decode cX9_add 18 = .ok (.bipush 6, 2) := by decide +kernel
theorem dX9_add_20 : decode cX9_add 20 = .ok (.if_icmp .ne 6, 3) := by decide +kernel
theorem dX9_add_23 : decode cX9_add 23 = .ok (.ldc 147, 2) := by decide +kernel
theorem dX9_add_25 : decode cX9_add 25 = .ok (.ireturn, 1) := by decide +kernel
theorem dX9_add_26 : decode cX9_add 26 = .ok (.aload_n 0, 1) := by decide +kernel
theorem dX9_add_27 : decode cX9_add 27 = .ok (.getfield 9, 3) := by decide +kernel
theorem dX9_add_30 : decode cX9_add 30 = .ok (.sipush 147, 3) := by decide +kernel
theorem dX9_add_33 : decode cX9_add 33 = .ok (.aload_n 0, 1) := by decide +kernel
theorem dX9_add_34 : decode cX9_add 34 = .ok (.getfield 9, 3) := by decide +kernel
theorem dX9_add_37 : decode cX9_add 37 = .ok (.bipush 7, 2) := by decide +kernel
theorem dX9_add_39 : decode cX9_add 39 = .ok (.iaload, 1) := by decide +kernel
theorem dX9_add_40 : decode cX9_add 40 = .ok (.iadd, 1) := by decide +kernel
theorem dX9_add_41 : decode cX9_add 41 = .ok (.iload_n 1, 1) := by decide +kernel
theorem dX9_add_42 : decode cX9_add 42 = .ok (.iastore, 1) := by decide +kernel
theorem dX9_add_43 : decode cX9_add 43 = .ok (.aload_n 0, 1) := by decide +kernel
theorem dX9_add_44 : decode cX9_add 44 = .ok (.getfield 9, 3) := by decide +kernel
theorem dX9_add_47 : decode cX9_add 47 = .ok (.bipush 7, 2) := by decide +kernel
theorem dX9_add_49 : decode cX9_add 49 = .ok (.dup2, 1) := by decide +kernel
theorem dX9_add_50 : decode cX9_add 50 = .ok (.iaload, 1) := by decide +kernel
theorem dX9_add_51 : decode cX9_add 51 = .ok (.iconst 1, 1) := by decide +kernel
theorem dX9_add_52 : decode cX9_add 52 = .ok (.iadd, 1) := by decide +kernel
theorem dX9_add_53 : decode cX9_add 53 = .ok (.iastore, 1) := by decide +kernel
theorem dX9_add_54 : decode cX9_add 54 = .ok (.aload_n 0, 1) := by decide +kernel
theorem dX9_add_55 : decode cX9_add 55 = .ok (.getfield 9, 3) := by decide +kernel
theorem dX9_add_58 : decode cX9_add 58 = .ok (.bipush 7, 2) := by decide +kernel
theorem dX9_add_60 : decode cX9_add 60 = .ok (.iaload, 1) := by decide +kernel
theorem dX9_add_61 : decode cX9_add 61 = .ok (.ireturn, 1) := by decide +kernel
theorem dX9_clear_0 : decode cX9_clear 0 = .ok (.aload_n 0, 1) := by decide +kernel
theorem dX9_clear_1 : decode cX9_clear 1 = .ok (.getfield 9, 3) := by decide +kernel
theorem dX9_clear_4 : decode cX9_clear 4 = .ok (.bipush 7, 2) := by decide +kernel
theorem dX9_clear_6 : decode cX9_clear 6 = .ok (.iaload, 1) := by decide +kernel
theorem dX9_clear_7 : decode cX9_clear 7 = .ok (.istore_n 1, 1) := by decide +kernel
theorem dX9_clear_8 : decode cX9_clear 8 = .ok (.aload_n 0, 1) := by decide +kernel
theorem dX9_clear_9 : decode cX9_clear 9 = .ok (.getfield 9, 3) := by decide +kernel
theorem dX9_clear_12 : decode cX9_clear 12 = .ok (.bipush 7, 2) := by decide +kernel
theorem dX9_clear_14 : decode cX9_clear 14 = .ok (.iconst 0, 1) := by decide +kernel
theorem dX9_clear_15 : decode cX9_clear 15 = .ok (.iastore, 1) := by decide +kernel
theorem dX9_clear_16 : decode cX9_clear 16 = .ok (.iload_n 1, 1) := by decide +kernel
theorem dX9_clear_17 : decode cX9_clear 17 = .ok (.ireturn, 1) := by decide +kernel
theorem dX9_judge_0 : decode cX9_judge 0 = .ok (.iconst 1, 1) := by decide +kernel
theorem dX9_judge_1 : decode cX9_judge 1 = .ok (.istore_n 1, 1) := by decide +kernel
theorem dX9_judge_2 : decode cX9_judge 2 = .ok (.iload_n 1, 1) := by decide +kernel
theorem dX9_judge_3 : decode cX9_judge 3 = .ok (.aload_n 0, 1) := by decide +kernel
theorem dX9_judge_4 : decode cX9_judge 4 = .ok (.getfield 9, 3) := by decide +kernel
theorem dX9_judge_7 : decode cX9_judge 7 = .ok (.bipush 7, 2) := by decide +kernel
theorem dX9_judge_9 : decode cX9_judge 9 = .ok (.iaload, 1) := by decide +kernel
theorem dX9_judge_10 : decode cX9_judge 10 = .ok (.if_icmp .ge 46, 3) := by decide +kernel
theorem dX9_judge_13 : decode cX9_judge 13 = .ok (.aload_n 0, 1) := by decide +kernel
theorem dX9_judge_14 : decode cX9_judge 14 = .ok (.aload_n 0, 1) := by decide +kernel
theorem dX9_judge_15 : decode cX9_judge 15 = .ok (.getfield 9, 3) := by decide +kernel
theorem dX9_judge_18 : decode cX9_judge 18 = .ok (.sipush 147, 3) := by decide +kernel
theorem dX9_judge_21 : decode cX9_judge 21 = .ok (.iload_n 1, 1) := by decide +kernel
theorem dX9_judge_22 : decode cX9_judge 22 = .ok (.iadd, 1) := by decide +kernel
theorem dX9_judge_23 : decode cX9_judge 23 = .ok (.iconst 1, 1) := by decide +kernel
theorem dX9_judge_24 : decode cX9_judge 24 = .ok (.isub, 1) := by decide +kernel
theorem dX9_judge_25 : decode cX9_judge 25 = .ok (.iaload, 1) := by decide +kernel
theorem dX9_judge_26 : decode cX9_judge 26 = .ok (.iconst 2, 1) := by decide +kernel
theorem dX9_judge_27 : decode cX9_judge 27 = .ok (.invokevirtual 107, 3) := by decide +kernel
theorem dX9_judge_30 : decode cX9_judge 30 = .ok (.aload_n 0, 1) := by decide +kernel
theorem dX9_judge_31 : decode cX9_judge 31 = .ok (.aload_n 0, 1) := by decide +kernel
theorem dX9_judge_32 : decode cX9_judge 32 = .ok (.getfield 9, 3) := by decide +kernel
theorem dX9_judge_35 : decode cX9_judge 35 = .ok (.sipush 147, 3) := by decide +kernel
theorem dX9_judge_38 : decode cX9_judge 38 = .ok (.iload_n 1, 1) := by decide +kernel
theorem dX9_judge_39 : decode cX9_judge 39 = .ok (.iadd, 1) := by decide +kernel
theorem dX9_judge_40 : decode cX9_judge 40 = .ok (.iaload, 1) := by decide +kernel
theorem dX9_judge_41 : decode cX9_judge 41 = .ok (.iconst 1, 1) := by decide +kernel
theorem dX9_judge_42 : decode cX9_judge 42 = .ok (.invokevirtual 107, 3) := by decide +kernel
theorem dX9_judge_45 : decode cX9_judge 45 = .ok (.if_icmp .eq 5, 3) := by decide +kernel
theorem dX9_judge_48 : decode cX9_judge 48 = .ok (.iload_n 1, 1) := by decide +kernel
theorem dX9_judge_49 : decode cX9_judge 49 = .ok (.ireturn, 1) := by decide +kernel
theorem dX9_judge_50 : decode cX9_judge 50 = .ok (.iinc 1 1, 3) := by decide +kernel
theorem dX9_judge_53 : decode cX9_judge 53 = .ok (.goto (-51), 3) := by decide +kernel
theorem dX9_judge_56 : decode cX9_judge 56 = .ok (.ldc 115, 2) := by decide +kernel
theorem dX9_judge_58 : decode cX9_judge 58 = .ok (.ireturn, 1) := by decide +kernel
theorem dX9_goesOn_0 : decode cX9_goesOn 0 = .ok (.iconst 0, 1) := by decide +kernel
theorem dX9_goesOn_1 : decode cX9_goesOn 1 = .ok (.istore_n 3, 1) := by decide +kernel
theorem dX9_goesOn_2 : decode cX9_goesOn 2 = .ok (.iload_n 3, 1) := by decide +kernel
theorem dX9_goesOn_3 : decode cX9_goesOn 3 = .ok (.iconst 4, 1) := by decide +kernel
theorem dX9_goesOn_4 : decode cX9_goesOn 4 = .ok (.if_icmp .ge 109, 3) := by decide +kernel
theorem dX9_goesOn_7 : decode cX9_goesOn 7 = .ok (.aload_n 0, 1) := by decide +kernel
theorem dX9_goesOn_8 : decode cX9_goesOn 8 = .ok (.getfield 35, 3) := by decide +kernel
theorem dX9_goesOn_11 : decode cX9_goesOn 11 = .ok (.iload_n 3, 1) := by decide +kernel
theorem dX9_goesOn_12 : decode cX9_goesOn 12 = .ok (.lconst 0, 1) := by decide +kernel
theorem dX9_goesOn_13 : decode cX9_goesOn 13 = .ok (.lastore, 1) := by decide +kernel
theorem dX9_goesOn_14 : decode cX9_goesOn 14 = .ok (.iconst 0, 1) := by decide +kernel
theorem dX9_goesOn_15 : decode cX9_goesOn 15 = .ok (.istore 4, 2) := by decide +kernel
theorem dX9_goesOn_17 : decode cX9_goesOn 17 = .ok (.iload 4, 2) := by decide +kernel
theorem dX9_goesOn_19 : decode cX9_goesOn 19 = .ok (.iconst 4, 1) := by decide +kernel
theorem dX9_goesOn_20 : decode cX9_goesOn 20 = .ok (.if_icmp .ge 87, 3) := by decide +kernel
theorem dX9_goesOn_23 : decode cX9_goesOn 23 = .ok (.aload_n 0, 1) := by decide +kernel
theorem dX9_goesOn_24 : decode cX9_goesOn 24 = .ok (.iload_n 1, 1) := by decide +kernel
theorem dX9_goesOn_25 : decode cX9_goesOn 25 = .ok (.iload 4, 2) := by decide +kernel
theorem dX9_goesOn_27 : decode cX9_goesOn 27 = .ok (.invokevirtual 158, 3) := by decide +kernel
theorem dX9_goesOn_30 : decode cX9_goesOn 30 = .ok (.aload_n 0, 1) := by decide +kernel
theorem dX9_goesOn_31 : decode cX9_goesOn 31 = .ok (.getfield 19, 3) := by decide +kernel
theorem dX9_goesOn_34 : decode cX9_goesOn 34 = .ok (.aload_n 0, 1) := by decide +kernel
theorem dX9_goesOn_35 : decode cX9_goesOn 35 = .ok (.iload_n 1, 1) := by decide +kernel
theorem dX9_goesOn_36 : decode cX9_goesOn 36 = .ok (.iconst 2, 1) := by decide +kernel
theorem dX9_goesOn_37 : decode cX9_goesOn 37 = .ok (.invokevirtual 107, 3) := by decide +kernel
theorem dX9_goesOn_40 : decode cX9_goesOn 40 = .ok (.iaload, 1) := by decide +kernel
theorem dX9_goesOn_41 : decode cX9_goesOn 41 = .ok (.iadd, 1) := by decide +kernel
theorem dX9_goesOn_42 : decode cX9_goesOn 42 = .ok (.aload_n 0, 1) := by decide +kernel
theorem dX9_goesOn_43 : decode cX9_goesOn 43 = .ok (.iload_n 2, 1) := by decide +kernel
theorem dX9_goesOn_44 : decode cX9_goesOn 44 = .ok (.iload_n 3, 1) := by decide +kernel
theorem dX9_goesOn_45 : decode cX9_goesOn 45 = .ok (.invokevirtual 143, 3) := by decide +kernel
theorem dX9_goesOn_48 : decode cX9_goesOn 48 = .ok (.aload_n 0, 1) := by decide +kernel
theorem dX9_goesOn_49 : decode cX9_goesOn 49 = .ok (.getfield 25, 3) := by decide +kernel
theorem dX9_goesOn_52 : decode cX9_goesOn 52 = .ok (.iload_n 2, 1) := by decide +kernel
theorem dX9_goesOn_53 : decode cX9_goesOn 53 = .ok (.iaload, 1) := by decide +kernel
theorem dX9_goesOn_54 : decode cX9_goesOn 54 = .ok (.iadd, 1) := by decide +kernel
theorem dX9_goesOn_55 : decode cX9_goesOn 55 = .ok (.if_icmp .gt 7, 3) := by decide +kernel
theorem dX9_goesOn_58 : decode cX9_goesOn 58 = .ok (.iconst 1, 1) := by decide +kernel
theorem dX9_goesOn_59 : decode cX9_goesOn 59 = .ok (.goto 4, 3) := by decide +kernel
theorem dX9_goesOn_62 : decode cX9_goesOn 62 = .ok (.iconst 0, 1) := by decide +kernel
theorem dX9_goesOn_63 : decode cX9_goesOn 63 = .ok (.istore 5, 2) := by decide +kernel
theorem dX9_goesOn_65 : decode cX9_goesOn 65 = .ok (.aload_n 0, 1) := by decide +kernel
theorem dX9_goesOn_66 : decode cX9_goesOn 66 = .ok (.getfield 35, 3) := by decide +kernel
theorem dX9_goesOn_69 : decode cX9_goesOn 69 = .ok (.iload_n 3, 1) := by decide +kernel
theorem dX9_goesOn_70 : decode cX9_goesOn 70 = .ok (.dup2, 1) := by decide +kernel
theorem dX9_goesOn_71 : decode cX9_goesOn 71 = .ok (.laload, 1) := by decide +kernel
theorem dX9_goesOn_72 : decode cX9_goesOn 72 = .ok (.iload 5, 2) := by decide +kernel
theorem dX9_goesOn_74 : decode cX9_goesOn 74 = .ok (.ifCond .eq 24, 3) := by decide +kernel
theorem dX9_goesOn_77 : decode cX9_goesOn 77 = .ok (.aload_n 0, 1) := by decide +kernel
theorem dX9_goesOn_78 : decode cX9_goesOn 78 = .ok (.getfield 31, 3) := by decide +kernel
theorem dX9_goesOn_81 : decode cX9_goesOn 81 = .ok (.iload 4, 2) := by decide +kernel
theorem dX9_goesOn_83 : decode cX9_goesOn 83 = .ok (.laload, 1) := by decide +kernel
theorem dX9_goesOn_84 : decode cX9_goesOn 84 = .ok (.aload_n 0, 1) := by decide +kernel
theorem dX9_goesOn_85 : decode cX9_goesOn 85 = .ok (.iload_n 2, 1) := by decide +kernel
theorem dX9_goesOn_86 : decode cX9_goesOn 86 = .ok (.bipush 7, 2) := by decide +kernel
theorem dX9_goesOn_88 : decode cX9_goesOn 88 = .ok (.iload_n 3, 1) := by decide +kernel
theorem dX9_goesOn_89 : decode cX9_goesOn 89 = .ok (.iadd, 1) := by decide +kernel
theorem dX9_goesOn_90 : decode cX9_goesOn 90 = .ok (.invokevirtual 107, 3) := by decide +kernel
theorem dX9_goesOn_93 : decode cX9_goesOn 93 = .ok (.i2l, 1) := by decide +kernel
theorem dX9_goesOn_94 : decode cX9_goesOn 94 = .ok (.lmul, 1) := by decide +kernel
theorem dX9_goesOn_95 : decode cX9_goesOn 95 = .ok (.goto 4, 3) := by decide +kernel
theorem dX9_goesOn_98 : decode cX9_goesOn 98 = .ok (.lconst 0, 1) := by decide +kernel
theorem dX9_goesOn_99 : decode cX9_goesOn 99 = .ok (.ladd, 1) := by decide +kernel
theorem dX9_goesOn_100 : decode cX9_goesOn 100 = .ok (.lastore, 1) := by decide +kernel
theorem dX9_goesOn_101 : decode cX9_goesOn 101 = .ok (.iinc 4 1, 3) := by decide +kernel
theorem dX9_goesOn_104 : decode cX9_goesOn 104 = .ok (.goto (-87), 3) := by decide +kernel
theorem dX9_goesOn_107 : decode cX9_goesOn 107 = .ok (.iinc 3 1, 3) := by decide +kernel
theorem dX9_goesOn_110 : decode cX9_goesOn 110 = .ok (.goto (-108), 3) := by decide +kernel
theorem dX9_goesOn_113 : decode cX9_goesOn 113 = .ok (.iconst 0, 1) := by decide +kernel
theorem dX9_goesOn_114 : decode cX9_goesOn 114 = .ok (.istore_n 3, 1) := by decide +kernel
theorem dX9_goesOn_115 : decode cX9_goesOn 115 = .ok (.iload_n 3, 1) := by decide +kernel
theorem dX9_goesOn_116 : decode cX9_goesOn 116 = .ok (.iconst 4, 1) := by decide +kernel
theorem dX9_goesOn_117 : decode cX9_goesOn 117 = .ok (.if_icmp .ge 21, 3) := by decide +kernel
theorem dX9_goesOn_120 : decode cX9_goesOn 120 = .ok (.aload_n 0, 1) := by decide +kernel
theorem dX9_goesOn_121 : decode cX9_goesOn 121 = .ok (.getfield 31, 3) := by decide +kernel
theorem dX9_goesOn_124 : decode cX9_goesOn 124 = .ok (.iload_n 3, 1) := by decide +kernel
theorem dX9_goesOn_125 : decode cX9_goesOn 125 = .ok (.aload_n 0, 1) := by decide +kernel
theorem dX9_goesOn_126 : decode cX9_goesOn 126 = .ok (.getfield 35, 3) := by decide +kernel
theorem dX9_goesOn_129 : decode cX9_goesOn 129 = .ok (.iload_n 3, 1) := by decide +kernel
theorem dX9_goesOn_130 : decode cX9_goesOn 130 = .ok (.laload, 1) := by decide +kernel
theorem dX9_goesOn_131 : decode cX9_goesOn 131 = .ok (.lastore, 1) := by decide +kernel
theorem dX9_goesOn_132 : decode cX9_goesOn 132 = .ok (.iinc 3 1, 3) := by decide +kernel
theorem dX9_goesOn_135 : decode cX9_goesOn 135 = .ok (.goto (-20), 3) := by decide +kernel
theorem dX9_goesOn_138 : decode cX9_goesOn 138 = .ok (.return_, 1) := by decide +kernel
theorem dX9_plan_0 : decode cX9_plan 0 = .ok (.iload_n 1, 1) := by decide +kernel
theorem dX9_plan_1 : decode cX9_plan 1 = .ok (.iconst 0, 1) := by decide +kernel
theorem dX9_plan_2 : decode cX9_plan 2 = .ok (.iconst 1, 1) := by decide +kernel
theorem dX9_plan_3 : decode cX9_plan 3 = .ok (.invokestatic 103, 3) := by decide +kernel
theorem dX9_plan_6 : decode cX9_plan 6 = .ok (.ifCond .ne 7, 3) := by decide +kernel
theorem dX9_plan_9 : decode cX9_plan 9 = .ok (.ldc2_w 189, 3) := by decide +kernel
theorem dX9_plan_12 : decode cX9_plan 12 = .ok (.lreturn, 1) := by decide +kernel
theorem dX9_plan_13 : decode cX9_plan 13 = .ok (.aload_n 0, 1) := by decide +kernel
theorem dX9_plan_14 : decode cX9_plan 14 = .ok (.invokevirtual 191, 3) := by decide +kernel
theorem dX9_plan_17 : decode cX9_plan 17 = .ok (.ldc 115, 2) := by decide +kernel
theorem dX9_plan_19 : decode cX9_plan 19 = .ok (.if_icmp .eq 7, 3) := by decide +kernel
theorem dX9_plan_22 : decode cX9_plan 22 = .ok (.ldc2_w 195, 3) := by decide +kernel
theorem dX9_plan_25 : decode cX9_plan 25 = .ok (.lreturn, 1) := by decide +kernel
theorem dX9_plan_26 : decode cX9_plan 26 = .ok (.aload_n 0, 1) := by decide +kernel
theorem dX9_plan_27 : decode cX9_plan 27 = .ok (.getfield 9, 3) := by decide +kernel
theorem dX9_plan_30 : decode cX9_plan 30 = .ok (.bipush 7, 2) := by decide +kernel
theorem dX9_plan_32 : decode cX9_plan 32 = .ok (.iaload, 1) := by decide +kernel
theorem dX9_plan_33 : decode cX9_plan 33 = .ok (.ifCond .ne 13, 3) := by decide +kernel
theorem dX9_plan_36 : decode cX9_plan 36 = .ok (.iload_n 1, 1) := by decide +kernel
theorem dX9_plan_37 : decode cX9_plan 37 = .ok (.ifCond .ne 7, 3) := by decide +kernel
theorem dX9_plan_40 : decode cX9_plan 40 = .ok (.lconst 1, 1) := by decide +kernel
theorem dX9_plan_41 : decode cX9_plan 41 = .ok (.goto 4, 3) := by decide +kernel
theorem dX9_plan_44 : decode cX9_plan 44 = .ok (.lconst 0, 1) := by decide +kernel
theorem dX9_plan_45 : decode cX9_plan 45 = .ok (.lreturn, 1) := by decide +kernel
theorem dX9_plan_46 : decode cX9_plan 46 = .ok (.aload_n 0, 1) := by decide +kernel
theorem dX9_plan_47 : decode cX9_plan 47 = .ok (.invokevirtual 155, 3) := by decide +kernel
theorem dX9_plan_50 : decode cX9_plan 50 = .ok (.aload_n 0, 1) := by decide +kernel
theorem dX9_plan_51 : decode cX9_plan 51 = .ok (.getfield 9, 3) := by decide +kernel
theorem dX9_plan_54 : decode cX9_plan 54 = .ok (.sipush 147, 3) := by decide +kernel
theorem dX9_plan_57 : decode cX9_plan 57 = .ok (.iaload, 1) := by decide +kernel
theorem dX9_plan_58 : decode cX9_plan 58 = .ok (.istore_n 2, 1) := by decide +kernel
theorem dX9_plan_59 : decode cX9_plan 59 = .ok (.iconst 0, 1) := by decide +kernel
theorem dX9_plan_60 : decode cX9_plan 60 = .ok (.istore_n 3, 1) := by decide +kernel
theorem dX9_plan_61 : decode cX9_plan 61 = .ok (.iload_n 3, 1) := by decide +kernel
theorem dX9_plan_62 : decode cX9_plan 62 = .ok (.iconst 4, 1) := by decide +kernel
theorem dX9_plan_63 : decode cX9_plan 63 = .ok (.if_icmp .ge 25, 3) := by decide +kernel
theorem dX9_plan_66 : decode cX9_plan 66 = .ok (.aload_n 0, 1) := by decide +kernel
theorem dX9_plan_67 : decode cX9_plan 67 = .ok (.getfield 31, 3) := by decide +kernel
theorem dX9_plan_70 : decode cX9_plan 70 = .ok (.iload_n 3, 1) := by decide +kernel
theorem dX9_plan_71 : decode cX9_plan 71 = .ok (.aload_n 0, 1) := by decide +kernel
theorem dX9_plan_72 : decode cX9_plan 72 = .ok (.iload_n 2, 1) := by decide +kernel
theorem dX9_plan_73 : decode cX9_plan 73 = .ok (.bipush 7, 2) := by decide +kernel
theorem dX9_plan_75 : decode cX9_plan 75 = .ok (.iload_n 3, 1) := by decide +kernel
theorem dX9_plan_76 : decode cX9_plan 76 = .ok (.iadd, 1) := by decide +kernel
theorem dX9_plan_77 : decode cX9_plan 77 = .ok (.invokevirtual 107, 3) := by decide +kernel
theorem dX9_plan_80 : decode cX9_plan 80 = .ok (.i2l, 1) := by decide +kernel
theorem dX9_plan_81 : decode cX9_plan 81 = .ok (.lastore, 1) := by decide +kernel
theorem dX9_plan_82 : decode cX9_plan 82 = .ok (.iinc 3 1, 3) := by decide +kernel
theorem dX9_plan_85 : decode cX9_plan 85 = .ok (.goto (-24), 3) := by decide +kernel
theorem dX9_plan_88 : decode cX9_plan 88 = .ok (.iconst 1, 1) := by decide +kernel
theorem dX9_plan_89 : decode cX9_plan 89 = .ok (.istore_n 3, 1) := by decide +kernel
theorem dX9_plan_90 : decode cX9_plan 90 = .ok (.iload_n 3, 1) := by decide +kernel
theorem dX9_plan_91 : decode cX9_plan 91 = .ok (.aload_n 0, 1) := by decide +kernel
theorem dX9_plan_92 : decode cX9_plan 92 = .ok (.getfield 9, 3) := by decide +kernel
theorem dX9_plan_95 : decode cX9_plan 95 = .ok (.bipush 7, 2) := by decide +kernel
theorem dX9_plan_97 : decode cX9_plan 97 = .ok (.iaload, 1) := by decide +kernel
theorem dX9_plan_98 : decode cX9_plan 98 = .ok (.if_icmp .ge 35, 3) := by decide +kernel
theorem dX9_plan_101 : decode cX9_plan 101 = .ok (.aload_n 0, 1) := by decide +kernel
theorem dX9_plan_102 : decode cX9_plan 102 = .ok (.iload_n 2, 1) := by decide +kernel
theorem dX9_plan_103 : decode cX9_plan 103 = .ok (.aload_n 0, 1) := by decide +kernel
theorem dX9_plan_104 : decode cX9_plan 104 = .ok (.getfield 9, 3) := by decide +kernel
theorem dX9_plan_107 : decode cX9_plan 107 = .ok (.sipush 147, 3) := by decide +kernel
theorem dX9_plan_110 : decode cX9_plan 110 = .ok (.iload_n 3, 1) := by decide +kernel
theorem dX9_plan_111 : decode cX9_plan 111 = .ok (.iadd, 1) := by decide +kernel
theorem dX9_plan_112 : decode cX9_plan 112 = .ok (.iaload, 1) := by decide +kernel
theorem dX9_plan_113 : decode cX9_plan 113 = .ok (.invokevirtual 197, 3) := by decide +kernel
theorem dX9_plan_116 : decode cX9_plan 116 = .ok (.aload_n 0, 1) := by decide +kernel
theorem dX9_plan_117 : decode cX9_plan 117 = .ok (.getfield 9, 3) := by decide +kernel
theorem dX9_plan_120 : decode cX9_plan 120 = .ok (.sipush 147, 3) := by decide +kernel
theorem dX9_plan_123 : decode cX9_plan 123 = .ok (.iload_n 3, 1) := by decide +kernel
theorem dX9_plan_124 : decode cX9_plan 124 = .ok (.iadd, 1) := by decide +kernel
theorem dX9_plan_125 : decode cX9_plan 125 = .ok (.iaload, 1) := by decide +kernel
theorem dX9_plan_126 : decode cX9_plan 126 = .ok (.istore_n 2, 1) := by decide +kernel
theorem dX9_plan_127 : decode cX9_plan 127 = .ok (.iinc 3 1, 3) := by decide +kernel
theorem dX9_plan_130 : decode cX9_plan 130 = .ok (.goto (-40), 3) := by decide +kernel
theorem dX9_plan_133 : decode cX9_plan 133 = .ok (.lconst 0, 1) := by decide +kernel
theorem dX9_plan_134 : decode cX9_plan 134 = .ok (.lstore_n 3, 1) := by decide +kernel
theorem dX9_plan_135 : decode cX9_plan 135 = .ok (.iconst 0, 1) := by decide +kernel
theorem dX9_plan_136 : decode cX9_plan 136 = .ok (.istore 5, 2) := by decide +kernel
theorem dX9_plan_138 : decode cX9_plan 138 = .ok (.iload 5, 2) := by decide +kernel
theorem dX9_plan_140 : decode cX9_plan 140 = .ok (.iconst 4, 1) := by decide +kernel
theorem dX9_plan_141 : decode cX9_plan 141 = .ok (.if_icmp .ge 42, 3) := by decide +kernel
theorem dX9_plan_144 : decode cX9_plan 144 = .ok (.lload_n 3, 1) := by decide +kernel
theorem dX9_plan_145 : decode cX9_plan 145 = .ok (.iload_n 1, 1) := by decide +kernel
theorem dX9_plan_146 : decode cX9_plan 146 = .ok (.ifCond .ne 13, 3) := by decide +kernel
theorem dX9_plan_149 : decode cX9_plan 149 = .ok (.aload_n 0, 1) := by decide +kernel
theorem dX9_plan_150 : decode cX9_plan 150 = .ok (.getfield 31, 3) := by decide +kernel
theorem dX9_plan_153 : decode cX9_plan 153 = .ok (.iload 5, 2) := by decide +kernel
theorem dX9_plan_155 : decode cX9_plan 155 = .ok (.laload, 1) := by decide +kernel
theorem dX9_plan_156 : decode cX9_plan 156 = .ok (.goto 19, 3) := by decide +kernel
theorem dX9_plan_159 : decode cX9_plan 159 = .ok (.aload_n 0, 1) := by decide +kernel
theorem dX9_plan_160 : decode cX9_plan 160 = .ok (.getfield 31, 3) := by decide +kernel
theorem dX9_plan_163 : decode cX9_plan 163 = .ok (.iload 5, 2) := by decide +kernel
theorem dX9_plan_165 : decode cX9_plan 165 = .ok (.laload, 1) := by decide +kernel
theorem dX9_plan_166 : decode cX9_plan 166 = .ok (.aload_n 0, 1) := by decide +kernel
theorem dX9_plan_167 : decode cX9_plan 167 = .ok (.iload_n 2, 1) := by decide +kernel
theorem dX9_plan_168 : decode cX9_plan 168 = .ok (.iload 5, 2) := by decide +kernel
theorem dX9_plan_170 : decode cX9_plan 170 = .ok (.invokevirtual 158, 3) := by decide +kernel
theorem dX9_plan_173 : decode cX9_plan 173 = .ok (.i2l, 1) := by decide +kernel
theorem dX9_plan_174 : decode cX9_plan 174 = .ok (.lmul, 1) := by decide +kernel
theorem dX9_plan_175 : decode cX9_plan 175 = .ok (.ladd, 1) := by decide +kernel
theorem dX9_plan_176 : decode cX9_plan 176 = .ok (.lstore_n 3, 1) := by decide +kernel
theorem dX9_plan_177 : decode cX9_plan 177 = .ok (.iinc 5 1, 3) := by decide +kernel
theorem dX9_plan_180 : decode cX9_plan 180 = .ok (.goto (-42), 3) := by decide +kernel
theorem dX9_plan_183 : decode cX9_plan 183 = .ok (.lload_n 3, 1) := by decide +kernel
theorem dX9_plan_184 : decode cX9_plan 184 = .ok (.lreturn, 1) := by decide +kernel
theorem dX9_aim_0 : decode cX9_aim 0 = .ok (.iload_n 1, 1) := by decide +kernel
theorem dX9_aim_1 : decode cX9_aim 1 = .ok (.iconst 0, 1) := by decide +kernel
theorem dX9_aim_2 : decode cX9_aim 2 = .ok (.iconst 1, 1) := by decide +kernel
theorem dX9_aim_3 : decode cX9_aim 3 = .ok (.invokestatic 103, 3) := by decide +kernel
theorem dX9_aim_6 : decode cX9_aim 6 = .ok (.ifCond .eq 31, 3) := by decide +kernel
theorem dX9_aim_9 : decode cX9_aim 9 = .ok (.iload_n 1, 1) := by decide +kernel
theorem dX9_aim_10 : decode cX9_aim 10 = .ok (.ifCond .ne 11, 3) := by decide +kernel
theorem dX9_aim_13 : decode cX9_aim 13 = .ok (.aload_n 0, 1) := by decide +kernel
theorem dX9_aim_14 : decode cX9_aim 14 = .ok (.iload_n 2, 1) := by decide +kernel
theorem dX9_aim_15 : decode cX9_aim 15 = .ok (.invokevirtual 148, 3) := by decide +kernel
theorem dX9_aim_18 : decode cX9_aim 18 = .ok (.ifCond .eq 19, 3) := by decide +kernel
theorem dX9_aim_21 : decode cX9_aim 21 = .ok (.iload_n 1, 1) := by decide +kernel
theorem dX9_aim_22 : decode cX9_aim 22 = .ok (.iconst 1, 1) := by decide +kernel
theorem dX9_aim_23 : decode cX9_aim 23 = .ok (.if_icmp .ne 17, 3) := by decide +kernel
theorem dX9_aim_26 : decode cX9_aim 26 = .ok (.iload_n 2, 1) := by decide +kernel
theorem dX9_aim_27 : decode cX9_aim 27 = .ok (.iconst 0, 1) := by decide +kernel
theorem dX9_aim_28 : decode cX9_aim 28 = .ok (.sipush 2999, 3) := by decide +kernel
theorem dX9_aim_31 : decode cX9_aim 31 = .ok (.invokestatic 103, 3) := by decide +kernel
theorem dX9_aim_34 : decode cX9_aim 34 = .ok (.ifCond .ne 6, 3) := by decide +kernel
theorem dX9_aim_37 : decode cX9_aim 37 = .ok (.ldc 146, 2) := by decide +kernel
theorem dX9_aim_39 : decode cX9_aim 39 = .ok (.ireturn, 1) := by decide +kernel
theorem dX9_aim_40 : decode cX9_aim 40 = .ok (.aload_n 0, 1) := by decide +kernel
theorem dX9_aim_41 : decode cX9_aim 41 = .ok (.getfield 9, 3) := by decide +kernel
theorem dX9_aim_44 : decode cX9_aim 44 = .ok (.iconst 2, 1) := by decide +kernel
theorem dX9_aim_45 : decode cX9_aim 45 = .ok (.iload_n 1, 1) := by decide +kernel
theorem dX9_aim_46 : decode cX9_aim 46 = .ok (.iadd, 1) := by decide +kernel
theorem dX9_aim_47 : decode cX9_aim 47 = .ok (.iaload, 1) := by decide +kernel
theorem dX9_aim_48 : decode cX9_aim 48 = .ok (.istore_n 3, 1) := by decide +kernel
theorem dX9_aim_49 : decode cX9_aim 49 = .ok (.aload_n 0, 1) := by decide +kernel
theorem dX9_aim_50 : decode cX9_aim 50 = .ok (.getfield 9, 3) := by decide +kernel
theorem dX9_aim_53 : decode cX9_aim 53 = .ok (.iconst 2, 1) := by decide +kernel
theorem dX9_aim_54 : decode cX9_aim 54 = .ok (.iload_n 1, 1) := by decide +kernel
theorem dX9_aim_55 : decode cX9_aim 55 = .ok (.iadd, 1) := by decide +kernel
theorem dX9_aim_56 : decode cX9_aim 56 = .ok (.iload_n 2, 1) := by decide +kernel
theorem dX9_aim_57 : decode cX9_aim 57 = .ok (.iastore, 1) := by decide +kernel
theorem dX9_aim_58 : decode cX9_aim 58 = .ok (.aload_n 0, 1) := by decide +kernel
theorem dX9_aim_59 : decode cX9_aim 59 = .ok (.iconst 0, 1) := by decide +kernel
theorem dX9_aim_60 : decode cX9_aim 60 = .ok (.putfield 111, 3) := by decide +kernel
theorem dX9_aim_63 : decode cX9_aim 63 = .ok (.iload_n 3, 1) := by decide +kernel
theorem dX9_aim_64 : decode cX9_aim 64 = .ok (.ireturn, 1) := by decide +kernel
theorem dX9_meanAt_0 : decode cX9_meanAt 0 = .ok (.iload_n 1, 1) := by decide +kernel
theorem dX9_meanAt_1 : decode cX9_meanAt 1 = .ok (.aload_n 0, 1) := by decide +kernel
theorem dX9_meanAt_2 : decode cX9_meanAt 2 = .ok (.getfield 9, 3) := by decide +kernel
theorem dX9_meanAt_5 : decode cX9_meanAt 5 = .ok (.iconst 2, 1) := by decide +kernel
theorem dX9_meanAt_6 : decode cX9_meanAt 6 = .ok (.iaload, 1) := by decide +kernel
theorem dX9_meanAt_7 : decode cX9_meanAt 7 = .ok (.if_icmp .ne 8, 3) := by decide +kernel
theorem dX9_meanAt_10 : decode cX9_meanAt 10 = .ok (.bipush 100, 2) := by decide +kernel
theorem dX9_meanAt_12 : decode cX9_meanAt 12 = .ok (.iload_n 2, 1) := by decide +kernel
theorem dX9_meanAt_13 : decode cX9_meanAt 13 = .ok (.imul, 1) := by decide +kernel
theorem dX9_meanAt_14 : decode cX9_meanAt 14 = .ok (.ireturn, 1) := by decide +kernel
theorem dX9_meanAt_15 : decode cX9_meanAt 15 = .ok (.iload_n 2, 1) := by decide +kernel
theorem dX9_meanAt_16 : decode cX9_meanAt 16 = .ok (.sipush 1600, 3) := by decide +kernel
theorem dX9_meanAt_19 : decode cX9_meanAt 19 = .ok (.if_icmp .ge 18, 3) := by decide +kernel
theorem dX9_meanAt_22 : decode cX9_meanAt 22 = .ok (.aload_n 0, 1) := by decide +kernel
theorem dX9_meanAt_23 : decode cX9_meanAt 23 = .ok (.getfield 38, 3) := by decide +kernel
theorem dX9_meanAt_26 : decode cX9_meanAt 26 = .ok (.sipush 1600, 3) := by decide +kernel
theorem dX9_meanAt_29 : decode cX9_meanAt 29 = .ok (.iload_n 1, 1) := by decide +kernel
theorem dX9_meanAt_30 : decode cX9_meanAt 30 = .ok (.imul, 1) := by decide +kernel
theorem dX9_meanAt_31 : decode cX9_meanAt 31 = .ok (.iload_n 2, 1) := by decide +kernel
theorem dX9_meanAt_32 : decode cX9_meanAt 32 = .ok (.iadd, 1) := by decide +kernel
theorem dX9_meanAt_33 : decode cX9_meanAt 33 = .ok (.iaload, 1) := by decide +kernel
theorem dX9_meanAt_34 : decode cX9_meanAt 34 = .ok (.goto 5, 3) := by decide +kernel
theorem dX9_meanAt_37 : decode cX9_meanAt 37 = .ok (.ldc 201, 2) := by decide +kernel
theorem dX9_meanAt_39 : decode cX9_meanAt 39 = .ok (.ireturn, 1) := by decide +kernel
theorem dX9_takenAt_0 : decode cX9_takenAt 0 = .ok (.iload_n 1, 1) := by decide +kernel
theorem dX9_takenAt_1 : decode cX9_takenAt 1 = .ok (.aload_n 0, 1) := by decide +kernel
theorem dX9_takenAt_2 : decode cX9_takenAt 2 = .ok (.getfield 9, 3) := by decide +kernel
theorem dX9_takenAt_5 : decode cX9_takenAt 5 = .ok (.iconst 2, 1) := by decide +kernel
theorem dX9_takenAt_6 : decode cX9_takenAt 6 = .ok (.iaload, 1) := by decide +kernel
theorem dX9_takenAt_7 : decode cX9_takenAt 7 = .ok (.if_icmp .eq 10, 3) := by decide +kernel
theorem dX9_takenAt_10 : decode cX9_takenAt 10 = .ok (.iload_n 2, 1) := by decide +kernel
theorem dX9_takenAt_11 : decode cX9_takenAt 11 = .ok (.sipush 1600, 3) := by decide +kernel
theorem dX9_takenAt_14 : decode cX9_takenAt 14 = .ok (.if_icmp .lt 7, 3) := by decide +kernel
theorem dX9_takenAt_17 : decode cX9_takenAt 17 = .ok (.iconst (-1), 1) := by decide +kernel
theorem dX9_takenAt_18 : decode cX9_takenAt 18 = .ok (.goto 15, 3) := by decide +kernel
theorem dX9_takenAt_21 : decode cX9_takenAt 21 = .ok (.aload_n 0, 1) := by decide +kernel
theorem dX9_takenAt_22 : decode cX9_takenAt 22 = .ok (.getfield 41, 3) := by decide +kernel
theorem dX9_takenAt_25 : decode cX9_takenAt 25 = .ok (.sipush 1600, 3) := by decide +kernel
theorem dX9_takenAt_28 : decode cX9_takenAt 28 = .ok (.iload_n 1, 1) := by decide +kernel
theorem dX9_takenAt_29 : decode cX9_takenAt 29 = .ok (.imul, 1) := by decide +kernel
theorem dX9_takenAt_30 : decode cX9_takenAt 30 = .ok (.iload_n 2, 1) := by decide +kernel
theorem dX9_takenAt_31 : decode cX9_takenAt 31 = .ok (.iadd, 1) := by decide +kernel
theorem dX9_takenAt_32 : decode cX9_takenAt 32 = .ok (.iaload, 1) := by decide +kernel
theorem dX9_takenAt_33 : decode cX9_takenAt 33 = .ok (.ireturn, 1) := by decide +kernel
theorem dX9_sureAt_0 : decode cX9_sureAt 0 = .ok (.iload_n 1, 1) := by decide +kernel
theorem dX9_sureAt_1 : decode cX9_sureAt 1 = .ok (.aload_n 0, 1) := by decide +kernel
theorem dX9_sureAt_2 : decode cX9_sureAt 2 = .ok (.getfield 9, 3) := by decide +kernel
theorem dX9_sureAt_5 : decode cX9_sureAt 5 = .ok (.iconst 2, 1) := by decide +kernel
theorem dX9_sureAt_6 : decode cX9_sureAt 6 = .ok (.iaload, 1) := by decide +kernel
theorem dX9_sureAt_7 : decode cX9_sureAt 7 = .ok (.if_icmp .ne 21, 3) := by decide +kernel
theorem dX9_sureAt_10 : decode cX9_sureAt 10 = .ok (.iload_n 2, 1) := by decide +kernel
theorem dX9_sureAt_11 : decode cX9_sureAt 11 = .ok (.aload_n 0, 1) := by decide +kernel
theorem dX9_sureAt_12 : decode cX9_sureAt 12 = .ok (.getfield 9, 3) := by decide +kernel
theorem dX9_sureAt_15 : decode cX9_sureAt 15 = .ok (.iconst 3, 1) := by decide +kernel
theorem dX9_sureAt_16 : decode cX9_sureAt 16 = .ok (.iaload, 1) := by decide +kernel
theorem dX9_sureAt_17 : decode cX9_sureAt 17 = .ok (.if_icmp .gt 9, 3) := by decide +kernel
theorem dX9_sureAt_20 : decode cX9_sureAt 20 = .ok (.sipush 10000, 3) := by decide +kernel
theorem dX9_sureAt_23 : decode cX9_sureAt 23 = .ok (.goto 4, 3) := by decide +kernel
theorem dX9_sureAt_26 : decode cX9_sureAt 26 = .ok (.iconst 0, 1) := by decide +kernel
theorem dX9_sureAt_27 : decode cX9_sureAt 27 = .ok (.ireturn, 1) := by decide +kernel
theorem dX9_sureAt_28 : decode cX9_sureAt 28 = .ok (.iload_n 2, 1) := by decide +kernel
theorem dX9_sureAt_29 : decode cX9_sureAt 29 = .ok (.sipush 1600, 3) := by decide +kernel
theorem dX9_sureAt_32 : decode cX9_sureAt 32 = .ok (.if_icmp .ge 18, 3) := by decide +kernel
theorem dX9_sureAt_35 : decode cX9_sureAt 35 = .ok (.aload_n 0, 1) := by decide +kernel
theorem dX9_sureAt_36 : decode cX9_sureAt 36 = .ok (.getfield 44, 3) := by decide +kernel
theorem dX9_sureAt_39 : decode cX9_sureAt 39 = .ok (.sipush 1600, 3) := by decide +kernel
theorem dX9_sureAt_42 : decode cX9_sureAt 42 = .ok (.iload_n 1, 1) := by decide +kernel
theorem dX9_sureAt_43 : decode cX9_sureAt 43 = .ok (.imul, 1) := by decide +kernel
theorem dX9_sureAt_44 : decode cX9_sureAt 44 = .ok (.iload_n 2, 1) := by decide +kernel
theorem dX9_sureAt_45 : decode cX9_sureAt 45 = .ok (.iadd, 1) := by decide +kernel
theorem dX9_sureAt_46 : decode cX9_sureAt 46 = .ok (.iaload, 1) := by decide +kernel
theorem dX9_sureAt_47 : decode cX9_sureAt 47 = .ok (.goto 4, 3) := by decide +kernel
theorem dX9_sureAt_50 : decode cX9_sureAt 50 = .ok (.iconst 0, 1) := by decide +kernel
theorem dX9_sureAt_51 : decode cX9_sureAt 51 = .ok (.ireturn, 1) := by decide +kernel
theorem dX9_cheapAt_0 : decode cX9_cheapAt 0 = .ok (.iload_n 1, 1) := by decide +kernel
theorem dX9_cheapAt_1 : decode cX9_cheapAt 1 = .ok (.aload_n 0, 1) := by decide +kernel
theorem dX9_cheapAt_2 : decode cX9_cheapAt 2 = .ok (.getfield 9, 3) := by decide +kernel
theorem dX9_cheapAt_5 : decode cX9_cheapAt 5 = .ok (.iconst 2, 1) := by decide +kernel
theorem dX9_cheapAt_6 : decode cX9_cheapAt 6 = .ok (.iaload, 1) := by decide +kernel
theorem dX9_cheapAt_7 : decode cX9_cheapAt 7 = .ok (.if_icmp .ne 20, 3) := by decide +kernel
theorem dX9_cheapAt_10 : decode cX9_cheapAt 10 = .ok (.iload_n 2, 1) := by decide +kernel
theorem dX9_cheapAt_11 : decode cX9_cheapAt 11 = .ok (.aload_n 0, 1) := by decide +kernel
theorem dX9_cheapAt_12 : decode cX9_cheapAt 12 = .ok (.getfield 9, 3) := by decide +kernel
theorem dX9_cheapAt_15 : decode cX9_cheapAt 15 = .ok (.iconst 3, 1) := by decide +kernel
theorem dX9_cheapAt_16 : decode cX9_cheapAt 16 = .ok (.iaload, 1) := by decide +kernel
theorem dX9_cheapAt_17 : decode cX9_cheapAt 17 = .ok (.if_icmp .gt 7, 3) := by decide +kernel
theorem dX9_cheapAt_20 : decode cX9_cheapAt 20 = .ok (.iconst 0, 1) := by decide +kernel
theorem dX9_cheapAt_21 : decode cX9_cheapAt 21 = .ok (.goto 5, 3) := by decide +kernel
theorem dX9_cheapAt_24 : decode cX9_cheapAt 24 = .ok (.ldc 202, 2) := by decide +kernel
theorem dX9_cheapAt_26 : decode cX9_cheapAt 26 = .ok (.ireturn, 1) := by decide +kernel
theorem dX9_cheapAt_27 : decode cX9_cheapAt 27 = .ok (.iload_n 2, 1) := by decide +kernel
theorem dX9_cheapAt_28 : decode cX9_cheapAt 28 = .ok (.sipush 1600, 3) := by decide +kernel
theorem dX9_cheapAt_31 : decode cX9_cheapAt 31 = .ok (.if_icmp .ge 18, 3) := by decide +kernel
theorem dX9_cheapAt_34 : decode cX9_cheapAt 34 = .ok (.aload_n 0, 1) := by decide +kernel
theorem dX9_cheapAt_35 : decode cX9_cheapAt 35 = .ok (.getfield 47, 3) := by decide +kernel
theorem dX9_cheapAt_38 : decode cX9_cheapAt 38 = .ok (.sipush 1600, 3) := by decide +kernel
theorem dX9_cheapAt_41 : decode cX9_cheapAt 41 = .ok (.iload_n 1, 1) := by decide +kernel
theorem dX9_cheapAt_42 : decode cX9_cheapAt 42 = .ok (.imul, 1) := by decide +kernel
theorem dX9_cheapAt_43 : decode cX9_cheapAt 43 = .ok (.iload_n 2, 1) := by decide +kernel
theorem dX9_cheapAt_44 : decode cX9_cheapAt 44 = .ok (.iadd, 1) := by decide +kernel
theorem dX9_cheapAt_45 : decode cX9_cheapAt 45 = .ok (.iaload, 1) := by decide +kernel
theorem dX9_cheapAt_46 : decode cX9_cheapAt 46 = .ok (.goto 5, 3) := by decide +kernel
theorem dX9_cheapAt_49 : decode cX9_cheapAt 49 = .ok (.ldc 202, 2) := by decide +kernel
theorem dX9_cheapAt_51 : decode cX9_cheapAt 51 = .ok (.ireturn, 1) := by decide +kernel
theorem dX9_readyBy_0 : decode cX9_readyBy 0 = .ok (.aload_n 0, 1) := by decide +kernel
theorem dX9_readyBy_1 : decode cX9_readyBy 1 = .ok (.iload_n 1, 1) := by decide +kernel
theorem dX9_readyBy_2 : decode cX9_readyBy 2 = .ok (.iload_n 3, 1) := by decide +kernel
theorem dX9_readyBy_3 : decode cX9_readyBy 3 = .ok (.invokevirtual 143, 3) := by decide +kernel
theorem dX9_readyBy_6 : decode cX9_readyBy 6 = .ok (.iload_n 2, 1) := by decide +kernel
theorem dX9_readyBy_7 : decode cX9_readyBy 7 = .ok (.if_icmp .le 12, 3) := by decide +kernel
theorem dX9_readyBy_10 : decode cX9_readyBy 10 = .ok (.aload_n 0, 1) := by decide +kernel
theorem dX9_readyBy_11 : decode cX9_readyBy 11 = .ok (.iload_n 1, 1) := by decide +kernel
theorem dX9_readyBy_12 : decode cX9_readyBy 12 = .ok (.iload_n 3, 1) := by decide +kernel
theorem dX9_readyBy_13 : decode cX9_readyBy 13 = .ok (.invokevirtual 143, 3) := by decide +kernel
theorem dX9_readyBy_16 : decode cX9_readyBy 16 = .ok (.goto 4, 3) := by decide +kernel
theorem dX9_readyBy_19 : decode cX9_readyBy 19 = .ok (.iload_n 2, 1) := by decide +kernel
theorem dX9_readyBy_20 : decode cX9_readyBy 20 = .ok (.istore 4, 2) := by decide +kernel
theorem dX9_readyBy_22 : decode cX9_readyBy 22 = .ok (.aload_n 0, 1) := by decide +kernel
theorem dX9_readyBy_23 : decode cX9_readyBy 23 = .ok (.iload_n 1, 1) := by decide +kernel
theorem dX9_readyBy_24 : decode cX9_readyBy 24 = .ok (.iconst 2, 1) := by decide +kernel
theorem dX9_readyBy_25 : decode cX9_readyBy 25 = .ok (.invokevirtual 107, 3) := by decide +kernel
theorem dX9_readyBy_28 : decode cX9_readyBy 28 = .ok (.istore 5, 2) := by decide +kernel
theorem dX9_readyBy_30 : decode cX9_readyBy 30 = .ok (.iload 4, 2) := by decide +kernel
theorem dX9_readyBy_32 : decode cX9_readyBy 32 = .ok (.aload_n 0, 1) := by decide +kernel
theorem dX9_readyBy_33 : decode cX9_readyBy 33 = .ok (.iload_n 1, 1) := by decide +kernel
theorem dX9_readyBy_34 : decode cX9_readyBy 34 = .ok (.iconst 4, 1) := by decide +kernel
theorem dX9_readyBy_35 : decode cX9_readyBy 35 = .ok (.invokevirtual 107, 3) := by decide +kernel
theorem dX9_readyBy_38 : decode cX9_readyBy 38 = .ok (.iadd, 1) := by decide +kernel
theorem dX9_readyBy_39 : decode cX9_readyBy 39 = .ok (.iload 5, 2) := by decide +kernel
theorem dX9_readyBy_41 : decode cX9_readyBy 41 = .ok (.aload_n 0, 1) := by decide +kernel
theorem dX9_readyBy_42 : decode cX9_readyBy 42 = .ok (.getfield 9, 3) := by decide +kernel
theorem dX9_readyBy_45 : decode cX9_readyBy 45 = .ok (.iconst 2, 1) := by decide +kernel
theorem dX9_readyBy_46 : decode cX9_readyBy 46 = .ok (.iaload, 1) := by decide +kernel
theorem dX9_readyBy_47 : decode cX9_readyBy 47 = .ok (.if_icmp .ne 7, 3) := by decide +kernel
theorem dX9_readyBy_50 : decode cX9_readyBy 50 = .ok (.iconst 0, 1) := by decide +kernel
theorem dX9_readyBy_51 : decode cX9_readyBy 51 = .ok (.goto 10, 3) := by decide +kernel
theorem dX9_readyBy_54 : decode cX9_readyBy 54 = .ok (.aload_n 0, 1) := by decide +kernel
theorem dX9_readyBy_55 : decode cX9_readyBy 55 = .ok (.getfield 19, 3) := by decide +kernel
theorem dX9_readyBy_58 : decode cX9_readyBy 58 = .ok (.iload 5, 2) := by decide +kernel
theorem dX9_readyBy_60 : decode cX9_readyBy 60 = .ok (.iaload, 1) := by decide +kernel
theorem dX9_readyBy_61 : decode cX9_readyBy 61 = .ok (.iadd, 1) := by decide +kernel
theorem dX9_readyBy_62 : decode cX9_readyBy 62 = .ok (.ireturn, 1) := by decide +kernel
theorem dX9_mayTake_0 : decode cX9_mayTake 0 = .ok (.iconst 0, 1) := by decide +kernel
theorem dX9_mayTake_1 : decode cX9_mayTake 1 = .ok (.istore 4, 2) := by decide +kernel
theorem dX9_mayTake_3 : decode cX9_mayTake 3 = .ok (.iconst 0, 1) := by decide +kernel
theorem dX9_mayTake_4 : decode cX9_mayTake 4 = .ok (.istore 5, 2) := by decide +kernel
theorem dX9_mayTake_6 : decode cX9_mayTake 6 = .ok (.iconst 0, 1) := by decide +kernel
theorem dX9_mayTake_7 : decode cX9_mayTake 7 = .ok (.istore 6, 2) := by decide +kernel
theorem dX9_mayTake_9 : decode cX9_mayTake 9 = .ok (.aload_n 0, 1) := by decide +kernel
theorem dX9_mayTake_10 : decode cX9_mayTake 10 = .ok (.iload_n 1, 1) := by decide +kernel
theorem dX9_mayTake_11 : decode cX9_mayTake 11 = .ok (.iconst 2, 1) := by decide +kernel
theorem dX9_mayTake_12 : decode cX9_mayTake 12 = .ok (.invokevirtual 107, 3) := by decide +kernel
theorem dX9_mayTake_15 : decode cX9_mayTake 15 = .ok (.istore 7, 2) := by decide +kernel
theorem dX9_mayTake_17 : decode cX9_mayTake 17 = .ok (.iconst 0, 1) := by decide +kernel
theorem dX9_mayTake_18 : decode cX9_mayTake 18 = .ok (.istore 8, 2) := by decide +kernel
theorem dX9_mayTake_20 : decode cX9_mayTake 20 = .ok (.iload 8, 2) := by decide +kernel
theorem dX9_mayTake_22 : decode cX9_mayTake 22 = .ok (.iconst 4, 1) := by decide +kernel
theorem dX9_mayTake_23 : decode cX9_mayTake 23 = .ok (.if_icmp .ge 96, 3) := by decide +kernel
theorem dX9_mayTake_26 : decode cX9_mayTake 26 = .ok (.aload_n 0, 1) := by decide +kernel
theorem dX9_mayTake_27 : decode cX9_mayTake 27 = .ok (.iload_n 1, 1) := by decide +kernel
theorem dX9_mayTake_28 : decode cX9_mayTake 28 = .ok (.bipush 7, 2) := by decide +kernel
theorem dX9_mayTake_30 : decode cX9_mayTake 30 = .ok (.iload 8, 2) := by decide +kernel
theorem dX9_mayTake_32 : decode cX9_mayTake 32 = .ok (.iadd, 1) := by decide +kernel
theorem dX9_mayTake_33 : decode cX9_mayTake 33 = .ok (.invokevirtual 107, 3) := by decide +kernel
theorem dX9_mayTake_36 : decode cX9_mayTake 36 = .ok (.istore 9, 2) := by decide +kernel
theorem dX9_mayTake_38 : decode cX9_mayTake 38 = .ok (.iload 9, 2) := by decide +kernel
theorem dX9_mayTake_40 : decode cX9_mayTake 40 = .ok (.ifCond .le 73, 3) := by decide +kernel
theorem dX9_mayTake_43 : decode cX9_mayTake 43 = .ok (.aload_n 0, 1) := by decide +kernel
theorem dX9_mayTake_44 : decode cX9_mayTake 44 = .ok (.iload_n 1, 1) := by decide +kernel
theorem dX9_mayTake_45 : decode cX9_mayTake 45 = .ok (.iload_n 3, 1) := by decide +kernel
theorem dX9_mayTake_46 : decode cX9_mayTake 46 = .ok (.iload 8, 2) := by decide +kernel
theorem dX9_mayTake_48 : decode cX9_mayTake 48 = .ok (.invokevirtual 203, 3) := by decide +kernel
theorem dX9_mayTake_51 : decode cX9_mayTake 51 = .ok (.istore 10, 2) := by decide +kernel
theorem dX9_mayTake_53 : decode cX9_mayTake 53 = .ok (.iload 4, 2) := by decide +kernel
theorem dX9_mayTake_55 : decode cX9_mayTake 55 = .ok (.iload 9, 2) := by decide +kernel
theorem dX9_mayTake_57 : decode cX9_mayTake 57 = .ok (.aload_n 0, 1) := by decide +kernel
theorem dX9_mayTake_58 : decode cX9_mayTake 58 = .ok (.iload 7, 2) := by decide +kernel
theorem dX9_mayTake_60 : decode cX9_mayTake 60 = .ok (.iload 10, 2) := by decide +kernel
theorem dX9_mayTake_62 : decode cX9_mayTake 62 = .ok (.invokevirtual 206, 3) := by decide +kernel
theorem dX9_mayTake_65 : decode cX9_mayTake 65 = .ok (.imul, 1) := by decide +kernel
theorem dX9_mayTake_66 : decode cX9_mayTake 66 = .ok (.iadd, 1) := by decide +kernel
theorem dX9_mayTake_67 : decode cX9_mayTake 67 = .ok (.istore 4, 2) := by decide +kernel
theorem dX9_mayTake_69 : decode cX9_mayTake 69 = .ok (.iload 5, 2) := by decide +kernel
theorem dX9_mayTake_71 : decode cX9_mayTake 71 = .ok (.iload 9, 2) := by decide +kernel
theorem dX9_mayTake_73 : decode cX9_mayTake 73 = .ok (.aload_n 0, 1) := by decide +kernel
theorem dX9_mayTake_74 : decode cX9_mayTake 74 = .ok (.iload 7, 2) := by decide +kernel
theorem dX9_mayTake_76 : decode cX9_mayTake 76 = .ok (.iload 10, 2) := by decide +kernel
theorem dX9_mayTake_78 : decode cX9_mayTake 78 = .ok (.invokevirtual 209, 3) := by decide +kernel
theorem dX9_mayTake_81 : decode cX9_mayTake 81 = .ok (.imul, 1) := by decide +kernel
theorem dX9_mayTake_82 : decode cX9_mayTake 82 = .ok (.iadd, 1) := by decide +kernel
theorem dX9_mayTake_83 : decode cX9_mayTake 83 = .ok (.istore 5, 2) := by decide +kernel
theorem dX9_mayTake_85 : decode cX9_mayTake 85 = .ok (.aload_n 0, 1) := by decide +kernel
theorem dX9_mayTake_86 : decode cX9_mayTake 86 = .ok (.iload 7, 2) := by decide +kernel
theorem dX9_mayTake_88 : decode cX9_mayTake 88 = .ok (.iload 10, 2) := by decide +kernel
theorem dX9_mayTake_90 : decode cX9_mayTake 90 = .ok (.invokevirtual 212, 3) := by decide +kernel
theorem dX9_mayTake_93 : decode cX9_mayTake 93 = .ok (.iload 6, 2) := by decide +kernel
theorem dX9_mayTake_95 : decode cX9_mayTake 95 = .ok (.if_icmp .le 14, 3) := by decide +kernel
theorem dX9_mayTake_98 : decode cX9_mayTake 98 = .ok (.aload_n 0, 1) := by decide +kernel
theorem dX9_mayTake_99 : decode cX9_mayTake 99 = .ok (.iload 7, 2) := by decide +kernel
theorem dX9_mayTake_101 : decode cX9_mayTake 101 = .ok (.iload 10, 2) := by decide +kernel
theorem dX9_mayTake_103 : decode cX9_mayTake 103 = .ok (.invokevirtual 212, 3) := by decide +kernel
theorem dX9_mayTake_106 : decode cX9_mayTake 106 = .ok (.goto 5, 3) := by decide +kernel
theorem dX9_mayTake_109 : decode cX9_mayTake 109 = .ok (.iload 6, 2) := by decide +kernel
theorem dX9_mayTake_111 : decode cX9_mayTake 111 = .ok (.istore 6, 2) := by decide +kernel
theorem dX9_mayTake_113 : decode cX9_mayTake 113 = .ok (.iinc 8 1, 3) := by decide +kernel
theorem dX9_mayTake_116 : decode cX9_mayTake 116 = .ok (.goto (-96), 3) := by decide +kernel
theorem dX9_mayTake_119 : decode cX9_mayTake 119 = .ok (.sipush 1600, 3) := by decide +kernel
theorem dX9_mayTake_122 : decode cX9_mayTake 122 = .ok (.iload_n 2, 1) := by decide +kernel
theorem dX9_mayTake_123 : decode cX9_mayTake 123 = .ok (.imul, 1) := by decide +kernel
theorem dX9_mayTake_124 : decode cX9_mayTake 124 = .ok (.iload_n 3, 1) := by decide +kernel
theorem dX9_mayTake_125 : decode cX9_mayTake 125 = .ok (.iadd, 1) := by decide +kernel
theorem dX9_mayTake_126 : decode cX9_mayTake 126 = .ok (.istore 8, 2) := by decide +kernel
theorem dX9_mayTake_128 : decode cX9_mayTake 128 = .ok (.iload 4, 2) := by decide +kernel
theorem dX9_mayTake_130 : decode cX9_mayTake 130 = .ok (.bipush 100, 2) := by decide +kernel
theorem dX9_mayTake_132 : decode cX9_mayTake 132 = .ok (.idiv, 1) := by decide +kernel
theorem dX9_mayTake_133 : decode cX9_mayTake 133 = .ok (.istore 4, 2) := by decide +kernel
theorem dX9_mayTake_135 : decode cX9_mayTake 135 = .ok (.iload 5, 2) := by decide +kernel
theorem dX9_mayTake_137 : decode cX9_mayTake 137 = .ok (.bipush 100, 2) := by decide +kernel
theorem dX9_mayTake_139 : decode cX9_mayTake 139 = .ok (.idiv, 1) := by decide +kernel
theorem dX9_mayTake_140 : decode cX9_mayTake 140 = .ok (.istore 5, 2) := by decide +kernel
theorem dX9_mayTake_142 : decode cX9_mayTake 142 = .ok (.iload 6, 2) := by decide +kernel
theorem dX9_mayTake_144 : decode cX9_mayTake 144 = .ok (.ldc 202, 2) := by decide +kernel
theorem dX9_mayTake_146 : decode cX9_mayTake 146 = .ok (.if_icmp .ne 8, 3) := by decide +kernel
theorem dX9_mayTake_149 : decode cX9_mayTake 149 = .ok (.ldc 202, 2) := by decide +kernel
theorem dX9_mayTake_151 : decode cX9_mayTake 151 = .ok (.goto 21, 3) := by decide +kernel
theorem dX9_mayTake_154 : decode cX9_mayTake 154 = .ok (.iload 6, 2) := by decide +kernel
theorem dX9_mayTake_156 : decode cX9_mayTake 156 = .ok (.aload_n 0, 1) := by decide +kernel
theorem dX9_mayTake_157 : decode cX9_mayTake 157 = .ok (.iload_n 1, 1) := by decide +kernel
theorem dX9_mayTake_158 : decode cX9_mayTake 158 = .ok (.iconst 0, 1) := by decide +kernel
theorem dX9_mayTake_159 : decode cX9_mayTake 159 = .ok (.invokevirtual 107, 3) := by decide +kernel
theorem dX9_mayTake_162 : decode cX9_mayTake 162 = .ok (.aload_n 0, 1) := by decide +kernel
theorem dX9_mayTake_163 : decode cX9_mayTake 163 = .ok (.iload_n 1, 1) := by decide +kernel
theorem dX9_mayTake_164 : decode cX9_mayTake 164 = .ok (.iconst 5, 1) := by decide +kernel
theorem dX9_mayTake_165 : decode cX9_mayTake 165 = .ok (.invokevirtual 107, 3) := by decide +kernel
theorem dX9_mayTake_168 : decode cX9_mayTake 168 = .ok (.invokestatic 164, 3) := by decide +kernel
theorem dX9_mayTake_171 : decode cX9_mayTake 171 = .ok (.iadd, 1) := by decide +kernel
theorem dX9_mayTake_172 : decode cX9_mayTake 172 = .ok (.istore 6, 2) := by decide +kernel
theorem dX9_mayTake_174 : decode cX9_mayTake 174 = .ok (.aload_n 0, 1) := by decide +kernel
theorem dX9_mayTake_175 : decode cX9_mayTake 175 = .ok (.getfield 41, 3) := by decide +kernel
theorem dX9_mayTake_178 : decode cX9_mayTake 178 = .ok (.iload 8, 2) := by decide +kernel
theorem dX9_mayTake_180 : decode cX9_mayTake 180 = .ok (.iaload, 1) := by decide +kernel
theorem dX9_mayTake_181 : decode cX9_mayTake 181 = .ok (.ifCond .lt 15, 3) := by decide +kernel
theorem dX9_mayTake_184 : decode cX9_mayTake 184 = .ok (.iload 4, 2) := by decide +kernel
theorem dX9_mayTake_186 : decode cX9_mayTake 186 = .ok (.aload_n 0, 1) := by decide +kernel
theorem dX9_mayTake_187 : decode cX9_mayTake 187 = .ok (.getfield 38, 3) := by decide +kernel
theorem dX9_mayTake_190 : decode cX9_mayTake 190 = .ok (.iload 8, 2) := by decide +kernel
theorem dX9_mayTake_192 : decode cX9_mayTake 192 = .ok (.iaload, 1) := by decide +kernel
theorem dX9_mayTake_193 : decode cX9_mayTake 193 = .ok (.if_icmp .ge 20, 3) := by decide +kernel
theorem dX9_mayTake_196 : decode cX9_mayTake 196 = .ok (.aload_n 0, 1) := by decide +kernel
theorem dX9_mayTake_197 : decode cX9_mayTake 197 = .ok (.getfield 41, 3) := by decide +kernel
theorem dX9_mayTake_200 : decode cX9_mayTake 200 = .ok (.iload 8, 2) := by decide +kernel
theorem dX9_mayTake_202 : decode cX9_mayTake 202 = .ok (.iload_n 1, 1) := by decide +kernel
theorem dX9_mayTake_203 : decode cX9_mayTake 203 = .ok (.iastore, 1) := by decide +kernel
theorem dX9_mayTake_204 : decode cX9_mayTake 204 = .ok (.aload_n 0, 1) := by decide +kernel
theorem dX9_mayTake_205 : decode cX9_mayTake 205 = .ok (.getfield 38, 3) := by decide +kernel
theorem dX9_mayTake_208 : decode cX9_mayTake 208 = .ok (.iload 8, 2) := by decide +kernel
theorem dX9_mayTake_210 : decode cX9_mayTake 210 = .ok (.iload 4, 2) := by decide +kernel
theorem dX9_mayTake_212 : decode cX9_mayTake 212 = .ok (.iastore, 1) := by decide +kernel
theorem dX9_mayTake_213 : decode cX9_mayTake 213 = .ok (.aload_n 0, 1) := by decide +kernel
theorem dX9_mayTake_214 : decode cX9_mayTake 214 = .ok (.getfield 44, 3) := by decide +kernel
theorem dX9_mayTake_217 : decode cX9_mayTake 217 = .ok (.iload 8, 2) := by decide +kernel
theorem dX9_mayTake_219 : decode cX9_mayTake 219 = .ok (.iload 5, 2) := by decide +kernel
theorem dX9_mayTake_221 : decode cX9_mayTake 221 = .ok (.aload_n 0, 1) := by decide +kernel
theorem dX9_mayTake_222 : decode cX9_mayTake 222 = .ok (.getfield 44, 3) := by decide +kernel
theorem dX9_mayTake_225 : decode cX9_mayTake 225 = .ok (.iload 8, 2) := by decide +kernel
theorem dX9_mayTake_227 : decode cX9_mayTake 227 = .ok (.iaload, 1) := by decide +kernel
theorem dX9_mayTake_228 : decode cX9_mayTake 228 = .ok (.if_icmp .le 8, 3) := by decide +kernel
theorem dX9_mayTake_231 : decode cX9_mayTake 231 = .ok (.iload 5, 2) := by decide +kernel
theorem dX9_mayTake_233 : decode cX9_mayTake 233 = .ok (.goto 10, 3) := by decide +kernel
theorem dX9_mayTake_236 : decode cX9_mayTake 236 = .ok (.aload_n 0, 1) := by decide +kernel
theorem dX9_mayTake_237 : decode cX9_mayTake 237 = .ok (.getfield 44, 3) := by decide +kernel
theorem dX9_mayTake_240 : decode cX9_mayTake 240 = .ok (.iload 8, 2) := by decide +kernel
theorem dX9_mayTake_242 : decode cX9_mayTake 242 = .ok (.iaload, 1) := by decide +kernel
theorem dX9_mayTake_243 : decode cX9_mayTake 243 = .ok (.iastore, 1) := by decide +kernel
theorem dX9_mayTake_244 : decode cX9_mayTake 244 = .ok (.aload_n 0, 1) := by decide +kernel
theorem dX9_mayTake_245 : decode cX9_mayTake 245 = .ok (.getfield 47, 3) := by decide +kernel
theorem dX9_mayTake_248 : decode cX9_mayTake 248 = .ok (.iload 8, 2) := by decide +kernel
theorem dX9_mayTake_250 : decode cX9_mayTake 250 = .ok (.iload 6, 2) := by decide +kernel
theorem dX9_mayTake_252 : decode cX9_mayTake 252 = .ok (.aload_n 0, 1) := by decide +kernel
theorem dX9_mayTake_253 : decode cX9_mayTake 253 = .ok (.getfield 47, 3) := by decide +kernel
theorem dX9_mayTake_256 : decode cX9_mayTake 256 = .ok (.iload 8, 2) := by decide +kernel
theorem dX9_mayTake_258 : decode cX9_mayTake 258 = .ok (.iaload, 1) := by decide +kernel
theorem dX9_mayTake_259 : decode cX9_mayTake 259 = .ok (.if_icmp .ge 8, 3) := by decide +kernel
theorem dX9_mayTake_262 : decode cX9_mayTake 262 = .ok (.iload 6, 2) := by decide +kernel
theorem dX9_mayTake_264 : decode cX9_mayTake 264 = .ok (.goto 10, 3) := by decide +kernel
theorem dX9_mayTake_267 : decode cX9_mayTake 267 = .ok (.aload_n 0, 1) := by decide +kernel
theorem dX9_mayTake_268 : decode cX9_mayTake 268 = .ok (.getfield 47, 3) := by decide +kernel
theorem dX9_mayTake_271 : decode cX9_mayTake 271 = .ok (.iload 8, 2) := by decide +kernel
theorem dX9_mayTake_273 : decode cX9_mayTake 273 = .ok (.iaload, 1) := by decide +kernel
theorem dX9_mayTake_274 : decode cX9_mayTake 274 = .ok (.iastore, 1) := by decide +kernel
theorem dX9_mayTake_275 : decode cX9_mayTake 275 = .ok (.return_, 1) := by decide +kernel
theorem dX9_learnsFrom_0 : decode cX9_learnsFrom 0 = .ok (.aload_n 0, 1) := by decide +kernel
theorem dX9_learnsFrom_1 : decode cX9_learnsFrom 1 = .ok (.invokevirtual 155, 3) := by decide +kernel
theorem dX9_learnsFrom_4 : decode cX9_learnsFrom 4 = .ok (.aload_n 0, 1) := by decide +kernel
theorem dX9_learnsFrom_5 : decode cX9_learnsFrom 5 = .ok (.getfield 127, 3) := by decide +kernel
theorem dX9_learnsFrom_8 : decode cX9_learnsFrom 8 = .ok (.iload_n 1, 1) := by decide +kernel
theorem dX9_learnsFrom_9 : decode cX9_learnsFrom 9 = .ok (.if_icmp .le 143, 3) := by decide +kernel
theorem dX9_learnsFrom_12 : decode cX9_learnsFrom 12 = .ok (.aload_n 0, 1) := by decide +kernel
theorem dX9_learnsFrom_13 : decode cX9_learnsFrom 13 = .ok (.dup, 1) := by decide +kernel
theorem dX9_learnsFrom_14 : decode cX9_learnsFrom 14 = .ok (.getfield 127, 3) := by decide +kernel
theorem dX9_learnsFrom_17 : decode cX9_learnsFrom 17 = .ok (.iconst 1, 1) := by decide +kernel
theorem dX9_learnsFrom_18 : decode cX9_learnsFrom 18 = .ok (.isub, 1) := by decide +kernel
theorem dX9_learnsFrom_19 : decode cX9_learnsFrom 19 = .ok (.putfield 127, 3) := by decide +kernel
theorem dX9_learnsFrom_22 : decode cX9_learnsFrom 22 = .ok (.iconst 0, 1) := by decide +kernel
theorem dX9_learnsFrom_23 : decode cX9_learnsFrom 23 = .ok (.istore_n 2, 1) := by decide +kernel
theorem dX9_learnsFrom_24 : decode cX9_learnsFrom 24 = .ok (.iload_n 2, 1) := by decide +kernel
theorem dX9_learnsFrom_25 : decode cX9_learnsFrom 25 = .ok (.aload_n 0, 1) := by decide +kernel
theorem dX9_learnsFrom_26 : decode cX9_learnsFrom 26 = .ok (.getfield 9, 3) := by decide +kernel
theorem dX9_learnsFrom_29 : decode cX9_learnsFrom 29 = .ok (.iconst 4, 1) := by decide +kernel
theorem dX9_learnsFrom_30 : decode cX9_learnsFrom 30 = .ok (.iaload, 1) := by decide +kernel
theorem dX9_learnsFrom_31 : decode cX9_learnsFrom 31 = .ok (.if_icmp .ge 50, 3) := by decide +kernel
theorem dX9_learnsFrom_34 : decode cX9_learnsFrom 34 = .ok (.sipush 1600, 3) := by decide +kernel
theorem dX9_learnsFrom_37 : decode cX9_learnsFrom 37 = .ok (.iload_n 2, 1) := by decide +kernel
theorem dX9_learnsFrom_38 : decode cX9_learnsFrom 38 = .ok (.imul, 1) := by decide +kernel
theorem dX9_learnsFrom_39 : decode cX9_learnsFrom 39 = .ok (.aload_n 0, 1) := by decide +kernel
theorem dX9_learnsFrom_40 : decode cX9_learnsFrom 40 = .ok (.getfield 127, 3) := by decide +kernel
theorem dX9_learnsFrom_43 : decode cX9_learnsFrom 43 = .ok (.iadd, 1) := by decide +kernel
theorem dX9_learnsFrom_44 : decode cX9_learnsFrom 44 = .ok (.istore_n 3, 1) := by decide +kernel
theorem dX9_learnsFrom_45 : decode cX9_learnsFrom 45 = .ok (.aload_n 0, 1) := by decide +kernel
theorem dX9_learnsFrom_46 : decode cX9_learnsFrom 46 = .ok (.getfield 41, 3) := by decide +kernel
theorem dX9_learnsFrom_49 : decode cX9_learnsFrom 49 = .ok (.iload_n 3, 1) := by decide +kernel
theorem dX9_learnsFrom_50 : decode cX9_learnsFrom 50 = .ok (.iconst (-1), 1) := by decide +kernel
theorem dX9_learnsFrom_51 : decode cX9_learnsFrom 51 = .ok (.iastore, 1) := by decide +kernel
theorem dX9_learnsFrom_52 : decode cX9_learnsFrom 52 = .ok (.aload_n 0, 1) := by decide +kernel
theorem dX9_learnsFrom_53 : decode cX9_learnsFrom 53 = .ok (.getfield 38, 3) := by decide +kernel
theorem dX9_learnsFrom_56 : decode cX9_learnsFrom 56 = .ok (.iload_n 3, 1) := by decide +kernel
theorem dX9_learnsFrom_57 : decode cX9_learnsFrom 57 = .ok (.ldc 201, 2) := by decide +kernel
theorem dX9_learnsFrom_59 : decode cX9_learnsFrom 59 = .ok (.iastore, 1) := by decide +kernel
theorem dX9_learnsFrom_60 : decode cX9_learnsFrom 60 = .ok (.aload_n 0, 1) := by decide +kernel
theorem dX9_learnsFrom_61 : decode cX9_learnsFrom 61 = .ok (.getfield 44, 3) := by decide +kernel
theorem dX9_learnsFrom_64 : decode cX9_learnsFrom 64 = .ok (.iload_n 3, 1) := by decide +kernel
theorem dX9_learnsFrom_65 : decode cX9_learnsFrom 65 = .ok (.iconst 0, 1) := by decide +kernel
theorem dX9_learnsFrom_66 : decode cX9_learnsFrom 66 = .ok (.iastore, 1) := by decide +kernel
theorem dX9_learnsFrom_67 : decode cX9_learnsFrom 67 = .ok (.aload_n 0, 1) := by decide +kernel
theorem dX9_learnsFrom_68 : decode cX9_learnsFrom 68 = .ok (.getfield 47, 3) := by decide +kernel
theorem dX9_learnsFrom_71 : decode cX9_learnsFrom 71 = .ok (.iload_n 3, 1) := by decide +kernel
theorem dX9_learnsFrom_72 : decode cX9_learnsFrom 72 = .ok (.ldc 202, 2) := by decide +kernel
theorem dX9_learnsFrom_74 : decode cX9_learnsFrom 74 = .ok (.iastore, 1) := by decide +kernel
theorem dX9_learnsFrom_75 : decode cX9_learnsFrom 75 = .ok (.iinc 2 1, 3) := by decide +kernel
theorem dX9_learnsFrom_78 : decode cX9_learnsFrom 78 = .ok (.goto (-54), 3) := by decide +kernel
theorem dX9_learnsFrom_81 : decode cX9_learnsFrom 81 = .ok (.iconst 0, 1) := by decide +kernel
theorem dX9_learnsFrom_82 : decode cX9_learnsFrom 82 = .ok (.istore_n 2, 1) := by decide +kernel
theorem dX9_learnsFrom_83 : decode cX9_learnsFrom 83 = .ok (.iload_n 2, 1) := by decide +kernel
theorem dX9_learnsFrom_84 : decode cX9_learnsFrom 84 = .ok (.aload_n 0, 1) := by decide +kernel
theorem dX9_learnsFrom_85 : decode cX9_learnsFrom 85 = .ok (.getfield 9, 3) := by decide +kernel
theorem dX9_learnsFrom_88 : decode cX9_learnsFrom 88 = .ok (.iconst 5, 1) := by decide +kernel
theorem dX9_learnsFrom_89 : decode cX9_learnsFrom 89 = .ok (.iaload, 1) := by decide +kernel
theorem dX9_learnsFrom_90 : decode cX9_learnsFrom 90 = .ok (.if_icmp .ge 59, 3) := by decide +kernel
theorem dX9_learnsFrom_93 : decode cX9_learnsFrom 93 = .ok (.aload_n 0, 1) := by decide +kernel
theorem dX9_learnsFrom_94 : decode cX9_learnsFrom 94 = .ok (.iload_n 2, 1) := by decide +kernel
theorem dX9_learnsFrom_95 : decode cX9_learnsFrom 95 = .ok (.iconst 1, 1) := by decide +kernel
theorem dX9_learnsFrom_96 : decode cX9_learnsFrom 96 = .ok (.invokevirtual 107, 3) := by decide +kernel
theorem dX9_learnsFrom_99 : decode cX9_learnsFrom 99 = .ok (.aload_n 0, 1) := by decide +kernel
theorem dX9_learnsFrom_100 : decode cX9_learnsFrom 100 = .ok (.getfield 9, 3) := by decide +kernel
theorem dX9_learnsFrom_103 : decode cX9_learnsFrom 103 = .ok (.iconst 2, 1) := by decide +kernel
theorem dX9_learnsFrom_104 : decode cX9_learnsFrom 104 = .ok (.iaload, 1) := by decide +kernel
theorem dX9_learnsFrom_105 : decode cX9_learnsFrom 105 = .ok (.if_icmp .eq 38, 3) := by decide +kernel
theorem dX9_learnsFrom_108 : decode cX9_learnsFrom 108 = .ok (.aload_n 0, 1) := by decide +kernel
theorem dX9_learnsFrom_109 : decode cX9_learnsFrom 109 = .ok (.getfield 22, 3) := by decide +kernel
theorem dX9_learnsFrom_112 : decode cX9_learnsFrom 112 = .ok (.iload_n 2, 1) := by decide +kernel
theorem dX9_learnsFrom_113 : decode cX9_learnsFrom 113 = .ok (.iaload, 1) := by decide +kernel
theorem dX9_learnsFrom_114 : decode cX9_learnsFrom 114 = .ok (.aload_n 0, 1) := by decide +kernel
theorem dX9_learnsFrom_115 : decode cX9_learnsFrom 115 = .ok (.getfield 25, 3) := by decide +kernel
theorem dX9_learnsFrom_118 : decode cX9_learnsFrom 118 = .ok (.iload_n 2, 1) := by decide +kernel
theorem dX9_learnsFrom_119 : decode cX9_learnsFrom 119 = .ok (.iaload, 1) := by decide +kernel
theorem dX9_learnsFrom_120 : decode cX9_learnsFrom 120 = .ok (.iadd, 1) := by decide +kernel
theorem dX9_learnsFrom_121 : decode cX9_learnsFrom 121 = .ok (.aload_n 0, 1) := by decide +kernel
theorem dX9_learnsFrom_122 : decode cX9_learnsFrom 122 = .ok (.getfield 127, 3) := by decide +kernel
theorem dX9_learnsFrom_125 : decode cX9_learnsFrom 125 = .ok (.if_icmp .lt 18, 3) := by decide +kernel
theorem dX9_learnsFrom_128 : decode cX9_learnsFrom 128 = .ok (.aload_n 0, 1) := by decide +kernel
theorem dX9_learnsFrom_129 : decode cX9_learnsFrom 129 = .ok (.iload_n 2, 1) := by decide +kernel
theorem dX9_learnsFrom_130 : decode cX9_learnsFrom 130 = .ok (.aload_n 0, 1) := by decide +kernel
theorem dX9_learnsFrom_131 : decode cX9_learnsFrom 131 = .ok (.iload_n 2, 1) := by decide +kernel
theorem dX9_learnsFrom_132 : decode cX9_learnsFrom 132 = .ok (.iconst 1, 1) := by decide +kernel
theorem dX9_learnsFrom_133 : decode cX9_learnsFrom 133 = .ok (.invokevirtual 107, 3) := by decide +kernel
theorem dX9_learnsFrom_136 : decode cX9_learnsFrom 136 = .ok (.aload_n 0, 1) := by decide +kernel
theorem dX9_learnsFrom_137 : decode cX9_learnsFrom 137 = .ok (.getfield 127, 3) := by decide +kernel
theorem dX9_learnsFrom_140 : decode cX9_learnsFrom 140 = .ok (.invokevirtual 215, 3) := by decide +kernel
theorem dX9_learnsFrom_143 : decode cX9_learnsFrom 143 = .ok (.iinc 2 1, 3) := by decide +kernel
theorem dX9_learnsFrom_146 : decode cX9_learnsFrom 146 = .ok (.goto (-63), 3) := by decide +kernel
theorem dX9_learnsFrom_149 : decode cX9_learnsFrom 149 = .ok (.goto (-145), 3) := by decide +kernel
theorem dX9_learnsFrom_152 : decode cX9_learnsFrom 152 = .ok (.return_, 1) := by decide +kernel
theorem dX9_isPlace_0 : decode cX9_isPlace 0 = .ok (.aload_n 0, 1) := by decide +kernel
theorem dX9_isPlace_1 : decode cX9_isPlace 1 = .ok (.iload_n 1, 1) := by decide +kernel
theorem dX9_isPlace_2 : decode cX9_isPlace 2 = .ok (.invokevirtual 148, 3) := by decide +kernel
theorem dX9_isPlace_5 : decode cX9_isPlace 5 = .ok (.ifCond .eq 18, 3) := by decide +kernel
theorem dX9_isPlace_8 : decode cX9_isPlace 8 = .ok (.iload_n 2, 1) := by decide +kernel
theorem dX9_isPlace_9 : decode cX9_isPlace 9 = .ok (.iconst 0, 1) := by decide +kernel
theorem dX9_isPlace_10 : decode cX9_isPlace 10 = .ok (.sipush 2879, 3) := by decide +kernel
theorem dX9_isPlace_13 : decode cX9_isPlace 13 = .ok (.invokestatic 103, 3) := by decide +kernel
theorem dX9_isPlace_16 : decode cX9_isPlace 16 = .ok (.ifCond .eq 7, 3) := by decide +kernel
theorem dX9_isPlace_19 : decode cX9_isPlace 19 = .ok (.iconst 1, 1) := by decide +kernel
theorem dX9_isPlace_20 : decode cX9_isPlace 20 = .ok (.goto 4, 3) := by decide +kernel
theorem dX9_isPlace_23 : decode cX9_isPlace 23 = .ok (.iconst 0, 1) := by decide +kernel
theorem dX9_isPlace_24 : decode cX9_isPlace 24 = .ok (.ireturn, 1) := by decide +kernel
theorem dX9_mean_0 : decode cX9_mean 0 = .ok (.aload_n 0, 1) := by decide +kernel
theorem dX9_mean_1 : decode cX9_mean 1 = .ok (.iload_n 1, 1) := by decide +kernel
theorem dX9_mean_2 : decode cX9_mean 2 = .ok (.iload_n 2, 1) := by decide +kernel
theorem dX9_mean_3 : decode cX9_mean 3 = .ok (.invokevirtual 219, 3) := by decide +kernel
theorem dX9_mean_6 : decode cX9_mean 6 = .ok (.ifCond .ne 6, 3) := by decide +kernel
theorem dX9_mean_9 : decode cX9_mean 9 = .ok (.ldc 146, 2) := by decide +kernel
theorem dX9_mean_11 : decode cX9_mean 11 = .ok (.ireturn, 1) := by decide +kernel
theorem dX9_mean_12 : decode cX9_mean 12 = .ok (.aload_n 0, 1) := by decide +kernel
theorem dX9_mean_13 : decode cX9_mean 13 = .ok (.iload_n 2, 1) := by decide +kernel
theorem dX9_mean_14 : decode cX9_mean 14 = .ok (.invokevirtual 222, 3) := by decide +kernel
theorem dX9_mean_17 : decode cX9_mean 17 = .ok (.aload_n 0, 1) := by decide +kernel
theorem dX9_mean_18 : decode cX9_mean 18 = .ok (.iload_n 1, 1) := by decide +kernel
theorem dX9_mean_19 : decode cX9_mean 19 = .ok (.iload_n 2, 1) := by decide +kernel
theorem dX9_mean_20 : decode cX9_mean 20 = .ok (.invokevirtual 206, 3) := by decide +kernel
theorem dX9_mean_23 : decode cX9_mean 23 = .ok (.ireturn, 1) := by decide +kernel
theorem dX9_taken_0 : decode cX9_taken 0 = .ok (.aload_n 0, 1) := by decide +kernel
theorem dX9_taken_1 : decode cX9_taken 1 = .ok (.iload_n 1, 1) := by decide +kernel
theorem dX9_taken_2 : decode cX9_taken 2 = .ok (.iload_n 2, 1) := by decide +kernel
theorem dX9_taken_3 : decode cX9_taken 3 = .ok (.invokevirtual 219, 3) := by decide +kernel
theorem dX9_taken_6 : decode cX9_taken 6 = .ok (.ifCond .ne 6, 3) := by decide +kernel
theorem dX9_taken_9 : decode cX9_taken 9 = .ok (.ldc 146, 2) := by decide +kernel
theorem dX9_taken_11 : decode cX9_taken 11 = .ok (.ireturn, 1) := by decide +kernel
theorem dX9_taken_12 : decode cX9_taken 12 = .ok (.aload_n 0, 1) := by decide +kernel
theorem dX9_taken_13 : decode cX9_taken 13 = .ok (.iload_n 2, 1) := by decide +kernel
theorem dX9_taken_14 : decode cX9_taken 14 = .ok (.invokevirtual 222, 3) := by decide +kernel
theorem dX9_taken_17 : decode cX9_taken 17 = .ok (.aload_n 0, 1) := by decide +kernel
theorem dX9_taken_18 : decode cX9_taken 18 = .ok (.iload_n 1, 1) := by decide +kernel
theorem dX9_taken_19 : decode cX9_taken 19 = .ok (.iload_n 2, 1) := by decide +kernel
theorem dX9_taken_20 : decode cX9_taken 20 = .ok (.invokevirtual 226, 3) := by decide +kernel
theorem dX9_taken_23 : decode cX9_taken 23 = .ok (.invokestatic 161, 3) := by decide +kernel
theorem dX9_taken_26 : decode cX9_taken 26 = .ok (.ireturn, 1) := by decide +kernel
theorem dX9_sure_0 : decode cX9_sure 0 = .ok (.aload_n 0, 1) := by decide +kernel
theorem dX9_sure_1 : decode cX9_sure 1 = .ok (.iload_n 1, 1) := by decide +kernel
theorem dX9_sure_2 : decode cX9_sure 2 = .ok (.iload_n 2, 1) := by decide +kernel
theorem dX9_sure_3 : decode cX9_sure 3 = .ok (.invokevirtual 219, 3) := by decide +kernel
theorem dX9_sure_6 : decode cX9_sure 6 = .ok (.ifCond .ne 6, 3) := by decide +kernel
theorem dX9_sure_9 : decode cX9_sure 9 = .ok (.ldc 146, 2) := by decide +kernel
theorem dX9_sure_11 : decode cX9_sure 11 = .ok (.ireturn, 1) := by decide +kernel
theorem dX9_sure_12 : decode cX9_sure 12 = .ok (.aload_n 0, 1) := by decide +kernel
theorem dX9_sure_13 : decode cX9_sure 13 = .ok (.iload_n 2, 1) := by decide +kernel
theorem dX9_sure_14 : decode cX9_sure 14 = .ok (.invokevirtual 222, 3) := by decide +kernel
theorem dX9_sure_17 : decode cX9_sure 17 = .ok (.aload_n 0, 1) := by decide +kernel
theorem dX9_sure_18 : decode cX9_sure 18 = .ok (.iload_n 1, 1) := by decide +kernel
theorem dX9_sure_19 : decode cX9_sure 19 = .ok (.iload_n 2, 1) := by decide +kernel
theorem dX9_sure_20 : decode cX9_sure 20 = .ok (.invokevirtual 209, 3) := by decide +kernel
theorem dX9_sure_23 : decode cX9_sure 23 = .ok (.ireturn, 1) := by decide +kernel
theorem dX9_cheap_0 : decode cX9_cheap 0 = .ok (.aload_n 0, 1) := by decide +kernel
theorem dX9_cheap_1 : decode cX9_cheap 1 = .ok (.iload_n 1, 1) := by decide +kernel
theorem dX9_cheap_2 : decode cX9_cheap 2 = .ok (.iload_n 2, 1) := by decide +kernel
theorem dX9_cheap_3 : decode cX9_cheap 3 = .ok (.invokevirtual 219, 3) := by decide +kernel
theorem dX9_cheap_6 : decode cX9_cheap 6 = .ok (.ifCond .ne 6, 3) := by decide +kernel
theorem dX9_cheap_9 : decode cX9_cheap 9 = .ok (.ldc 146, 2) := by decide +kernel
theorem dX9_cheap_11 : decode cX9_cheap 11 = .ok (.ireturn, 1) := by decide +kernel
theorem dX9_cheap_12 : decode cX9_cheap 12 = .ok (.aload_n 0, 1) := by decide +kernel
theorem dX9_cheap_13 : decode cX9_cheap 13 = .ok (.iload_n 2, 1) := by decide +kernel
theorem dX9_cheap_14 : decode cX9_cheap 14 = .ok (.invokevirtual 222, 3) := by decide +kernel
theorem dX9_cheap_17 : decode cX9_cheap 17 = .ok (.aload_n 0, 1) := by decide +kernel
theorem dX9_cheap_18 : decode cX9_cheap 18 = .ok (.iload_n 1, 1) := by decide +kernel
theorem dX9_cheap_19 : decode cX9_cheap 19 = .ok (.iload_n 2, 1) := by decide +kernel
theorem dX9_cheap_20 : decode cX9_cheap 20 = .ok (.invokevirtual 212, 3) := by decide +kernel
theorem dX9_cheap_23 : decode cX9_cheap 23 = .ok (.istore_n 3, 1) := by decide +kernel
theorem dX9_cheap_24 : decode cX9_cheap 24 = .ok (.iload_n 3, 1) := by decide +kernel
theorem dX9_cheap_25 : decode cX9_cheap 25 = .ok (.ldc 202, 2) := by decide +kernel
theorem dX9_cheap_27 : decode cX9_cheap 27 = .ok (.if_icmp .ne 8, 3) := by decide +kernel
theorem dX9_cheap_30 : decode cX9_cheap 30 = .ok (.ldc 115, 2) := by decide +kernel
theorem dX9_cheap_32 : decode cX9_cheap 32 = .ok (.goto 4, 3) := by decide +kernel
theorem dX9_cheap_35 : decode cX9_cheap 35 = .ok (.iload_n 3, 1) := by decide +kernel
theorem dX9_cheap_36 : decode cX9_cheap 36 = .ok (.ireturn, 1) := by decide +kernel
theorem dX9_latest_0 : decode cX9_latest 0 = .ok (.aload_n 0, 1) := by decide +kernel
theorem dX9_latest_1 : decode cX9_latest 1 = .ok (.iload_n 1, 1) := by decide +kernel
theorem dX9_latest_2 : decode cX9_latest 2 = .ok (.invokevirtual 148, 3) := by decide +kernel
theorem dX9_latest_5 : decode cX9_latest 5 = .ok (.ifCond .eq 14, 3) := by decide +kernel
theorem dX9_latest_8 : decode cX9_latest 8 = .ok (.iload_n 2, 1) := by decide +kernel
theorem dX9_latest_9 : decode cX9_latest 9 = .ok (.iconst 0, 1) := by decide +kernel
theorem dX9_latest_10 : decode cX9_latest 10 = .ok (.sipush 10000, 3) := by decide +kernel
theorem dX9_latest_13 : decode cX9_latest 13 = .ok (.invokestatic 103, 3) := by decide +kernel
theorem dX9_latest_16 : decode cX9_latest 16 = .ok (.ifCond .ne 6, 3) := by decide +kernel
theorem dX9_latest_19 : decode cX9_latest 19 = .ok (.ldc 146, 2) := by decide +kernel
theorem dX9_latest_21 : decode cX9_latest 21 = .ok (.ireturn, 1) := by decide +kernel
theorem dX9_latest_22 : decode cX9_latest 22 = .ok (.sipush 1469, 3) := by decide +kernel
theorem dX9_latest_25 : decode cX9_latest 25 = .ok (.istore_n 3, 1) := by decide +kernel
theorem dX9_latest_26 : decode cX9_latest 26 = .ok (.iload_n 3, 1) := by decide +kernel
theorem dX9_latest_27 : decode cX9_latest 27 = .ok (.ifCond .lt 26, 3) := by decide +kernel
theorem dX9_latest_30 : decode cX9_latest 30 = .ok (.aload_n 0, 1) := by decide +kernel
theorem dX9_latest_31 : decode cX9_latest 31 = .ok (.iload_n 3, 1) := by decide +kernel
theorem dX9_latest_32 : decode cX9_latest 32 = .ok (.invokevirtual 222, 3) := by decide +kernel
theorem dX9_latest_35 : decode cX9_latest 35 = .ok (.aload_n 0, 1) := by decide +kernel
theorem dX9_latest_36 : decode cX9_latest 36 = .ok (.iload_n 1, 1) := by decide +kernel
theorem dX9_latest_37 : decode cX9_latest 37 = .ok (.iload_n 3, 1) := by decide +kernel
theorem dX9_latest_38 : decode cX9_latest 38 = .ok (.invokevirtual 209, 3) := by decide +kernel
theorem dX9_latest_41 : decode cX9_latest 41 = .ok (.iload_n 2, 1) := by decide +kernel
theorem dX9_latest_42 : decode cX9_latest 42 = .ok (.if_icmp .lt 5, 3) := by decide +kernel
theorem dX9_latest_45 : decode cX9_latest 45 = .ok (.iload_n 3, 1) := by decide +kernel
theorem dX9_latest_46 : decode cX9_latest 46 = .ok (.ireturn, 1) := by decide +kernel
theorem dX9_latest_47 : decode cX9_latest 47 = .ok (.iinc 3 (-1), 3) := by decide +kernel
theorem dX9_latest_50 : decode cX9_latest 50 = .ok (.goto (-24), 3) := by decide +kernel
theorem dX9_latest_53 : decode cX9_latest 53 = .ok (.ldc 115, 2) := by decide +kernel
theorem dX9_latest_55 : decode cX9_latest 55 = .ok (.ireturn, 1) := by decide +kernel
theorem dX9_feed_0 : decode cX9_feed 0 = .ok (.aload_n 0, 1) := by decide +kernel
theorem dX9_feed_1 : decode cX9_feed 1 = .ok (.getfield 229, 3) := by decide +kernel
theorem dX9_feed_4 : decode cX9_feed 4 = .ok (.bipush 12, 2) := by decide +kernel
theorem dX9_feed_6 : decode cX9_feed 6 = .ok (.iadd, 1) := by decide +kernel
theorem dX9_feed_7 : decode cX9_feed 7 = .ok (.bipush 96, 2) := by decide +kernel
theorem dX9_feed_9 : decode cX9_feed 9 = .ok (.if_icmp .le 6, 3) := by decide +kernel
theorem dX9_feed_12 : decode cX9_feed 12 = .ok (.ldc 147, 2) := by decide +kernel
theorem dX9_feed_14 : decode cX9_feed 14 = .ok (.ireturn, 1) := by decide +kernel
theorem dX9_feed_15 : decode cX9_feed 15 = .ok (.iconst 0, 1) := by decide +kernel
theorem dX9_feed_16 : decode cX9_feed 16 = .ok (.istore 4, 2) := by decide +kernel
theorem dX9_feed_18 : decode cX9_feed 18 = .ok (.iload 4, 2) := by decide +kernel
theorem dX9_feed_20 : decode cX9_feed 20 = .ok (.bipush 12, 2) := by decide +kernel
theorem dX9_feed_22 : decode cX9_feed 22 = .ok (.if_icmp .ge 62, 3) := by decide +kernel
theorem dX9_feed_25 : decode cX9_feed 25 = .ok (.iload 4, 2) := by decide +kernel
theorem dX9_feed_27 : decode cX9_feed 27 = .ok (.iconst 4, 1) := by decide +kernel
theorem dX9_feed_28 : decode cX9_feed 28 = .ok (.if_icmp .ge 7, 3) := by decide +kernel
theorem dX9_feed_31 : decode cX9_feed 31 = .ok (.iload_n 1, 1) := by decide +kernel
theorem dX9_feed_32 : decode cX9_feed 32 = .ok (.goto 15, 3) := by decide +kernel
theorem dX9_feed_35 : decode cX9_feed 35 = .ok (.iload 4, 2) := by decide +kernel
theorem dX9_feed_37 : decode cX9_feed 37 = .ok (.bipush 8, 2) := by decide +kernel
theorem dX9_feed_39 : decode cX9_feed 39 = .ok (.if_icmp .ge 7, 3) := by decide +kernel
theorem dX9_feed_42 : decode cX9_feed 42 = .ok (.iload_n 2, 1) := by decide +kernel
theorem dX9_feed_43 : decode cX9_feed 43 = .ok (.goto 4, 3) := by decide +kernel
theorem dX9_feed_46 : decode cX9_feed 46 = .ok (.iload_n 3, 1) := by decide +kernel
theorem dX9_feed_47 : decode cX9_feed 47 = .ok (.istore 5, 2) := by decide +kernel
theorem dX9_feed_49 : decode cX9_feed 49 = .ok (.aload_n 0, 1) := by decide +kernel
theorem dX9_feed_50 : decode cX9_feed 50 = .ok (.getfield 50, 3) := by decide +kernel
theorem dX9_feed_53 : decode cX9_feed 53 = .ok (.aload_n 0, 1) := by decide +kernel
theorem dX9_feed_54 : decode cX9_feed 54 = .ok (.getfield 229, 3) := by decide +kernel
theorem dX9_feed_57 : decode cX9_feed 57 = .ok (.iload 4, 2) := by decide +kernel
theorem dX9_feed_59 : decode cX9_feed 59 = .ok (.iadd, 1) := by decide +kernel
theorem dX9_feed_60 : decode cX9_feed 60 = .ok (.iload 5, 2) := by decide +kernel
theorem dX9_feed_62 : decode cX9_feed 62 = .ok (.bipush 24, 2) := by decide +kernel
theorem dX9_feed_64 : decode cX9_feed 64 = .ok (.bipush 8, 2) := by decide +kernel
theorem dX9_feed_66 : decode cX9_feed 66 = .ok (.iload 4, 2) := by decide +kernel
theorem dX9_feed_68 : decode cX9_feed 68 = .ok (.iconst 4, 1) := by decide +kernel
theorem dX9_feed_69 : decode cX9_feed 69 = .ok (.irem, 1) := by decide +kernel
theorem dX9_feed_70 : decode cX9_feed 70 = .ok (.imul, 1) := by decide +kernel
theorem dX9_feed_71 : decode cX9_feed 71 = .ok (.isub, 1) := by decide +kernel
theorem dX9_feed_72 : decode cX9_feed 72 = .ok (.ishr, 1) := by decide +kernel
theorem dX9_feed_73 : decode cX9_feed 73 = .ok (.sipush 255, 3) := by decide +kernel
theorem dX9_feed_76 : decode cX9_feed 76 = .ok (.iand, 1) := by decide +kernel
theorem dX9_feed_77 : decode cX9_feed 77 = .ok (.iastore, 1) := by decide +kernel
theorem dX9_feed_78 : decode cX9_feed 78 = .ok (.iinc 4 1, 3) := by decide +kernel
theorem dX9_feed_81 : decode cX9_feed 81 = .ok (.goto (-63), 3) := by decide +kernel
theorem dX9_feed_84 : decode cX9_feed 84 = .ok (.aload_n 0, 1) := by decide +kernel
theorem dX9_feed_85 : decode cX9_feed 85 = .ok (.dup, 1) := by decide +kernel
theorem dX9_feed_86 : decode cX9_feed 86 = .ok (.getfield 229, 3) := by decide +kernel
theorem dX9_feed_89 : decode cX9_feed 89 = .ok (.bipush 12, 2) := by decide +kernel
theorem dX9_feed_91 : decode cX9_feed 91 = .ok (.iadd, 1) := by decide +kernel
theorem dX9_feed_92 : decode cX9_feed 92 = .ok (.putfield 229, 3) := by decide +kernel
theorem dX9_feed_95 : decode cX9_feed 95 = .ok (.aload_n 0, 1) := by decide +kernel
theorem dX9_feed_96 : decode cX9_feed 96 = .ok (.getfield 229, 3) := by decide +kernel
theorem dX9_feed_99 : decode cX9_feed 99 = .ok (.ireturn, 1) := by decide +kernel
theorem dX9_trim_0 : decode cX9_trim 0 = .ok (.iload_n 1, 1) := by decide +kernel
theorem dX9_trim_1 : decode cX9_trim 1 = .ok (.iconst 0, 1) := by decide +kernel
theorem dX9_trim_2 : decode cX9_trim 2 = .ok (.aload_n 0, 1) := by decide +kernel
theorem dX9_trim_3 : decode cX9_trim 3 = .ok (.getfield 229, 3) := by decide +kernel
theorem dX9_trim_6 : decode cX9_trim 6 = .ok (.invokestatic 103, 3) := by decide +kernel
theorem dX9_trim_9 : decode cX9_trim 9 = .ok (.ifCond .ne 6, 3) := by decide +kernel
theorem dX9_trim_12 : decode cX9_trim 12 = .ok (.ldc 146, 2) := by decide +kernel
theorem dX9_trim_14 : decode cX9_trim 14 = .ok (.ireturn, 1) := by decide +kernel
theorem dX9_trim_15 : decode cX9_trim 15 = .ok (.aload_n 0, 1) := by decide +kernel
theorem dX9_trim_16 : decode cX9_trim 16 = .ok (.iload_n 1, 1) := by decide +kernel
theorem dX9_trim_17 : decode cX9_trim 17 = .ok (.putfield 229, 3) := by decide +kernel
theorem dX9_trim_20 : decode cX9_trim 20 = .ok (.iload_n 1, 1) := by decide +kernel
theorem dX9_trim_21 : decode cX9_trim 21 = .ok (.ireturn, 1) := by decide +kernel
theorem dX9_isLetter_0 : decode cX9_isLetter 0 = .ok (.iload_n 1, 1) := by decide +kernel
theorem dX9_isLetter_1 : decode cX9_isLetter 1 = .ok (.aload_n 0, 1) := by decide +kernel
theorem dX9_isLetter_2 : decode cX9_isLetter 2 = .ok (.getfield 229, 3) := by decide +kernel
theorem dX9_isLetter_5 : decode cX9_isLetter 5 = .ok (.if_icmp .ge 29, 3) := by decide +kernel
theorem dX9_isLetter_8 : decode cX9_isLetter 8 = .ok (.aload_n 0, 1) := by decide +kernel
theorem dX9_isLetter_9 : decode cX9_isLetter 9 = .ok (.getfield 50, 3) := by decide +kernel
theorem dX9_isLetter_12 : decode cX9_isLetter 12 = .ok (.iload_n 1, 1) := by decide +kernel
theorem dX9_isLetter_13 : decode cX9_isLetter 13 = .ok (.iaload, 1) := by decide +kernel
theorem dX9_isLetter_14 : decode cX9_isLetter 14 = .ok (.bipush 97, 2) := by decide +kernel
theorem dX9_isLetter_16 : decode cX9_isLetter 16 = .ok (.if_icmp .lt 18, 3) := by decide +kernel
theorem dX9_isLetter_19 : decode cX9_isLetter 19 = .ok (.aload_n 0, 1) := by decide +kernel
theorem dX9_isLetter_20 : decode cX9_isLetter 20 = .ok (.getfield 50, 3) := by decide +kernel
theorem dX9_isLetter_23 : decode cX9_isLetter 23 = .ok (.iload_n 1, 1) := by decide +kernel
theorem dX9_isLetter_24 : decode cX9_isLetter 24 = .ok (.iaload, 1) := by decide +kernel
theorem dX9_isLetter_25 : decode cX9_isLetter 25 = .ok (.bipush 122, 2) := by decide +kernel
theorem dX9_isLetter_27 : decode cX9_isLetter 27 = .ok (.if_icmp .gt 7, 3) := by decide +kernel
theorem dX9_isLetter_30 : decode cX9_isLetter 30 = .ok (.iconst 1, 1) := by decide +kernel
theorem dX9_isLetter_31 : decode cX9_isLetter 31 = .ok (.goto 4, 3) := by decide +kernel
theorem dX9_isLetter_34 : decode cX9_isLetter 34 = .ok (.iconst 0, 1) := by decide +kernel
theorem dX9_isLetter_35 : decode cX9_isLetter 35 = .ok (.ireturn, 1) := by decide +kernel
theorem dX9_isFigure_0 : decode cX9_isFigure 0 = .ok (.iload_n 1, 1) := by decide +kernel
theorem dX9_isFigure_1 : decode cX9_isFigure 1 = .ok (.aload_n 0, 1) := by decide +kernel
theorem dX9_isFigure_2 : decode cX9_isFigure 2 = .ok (.getfield 229, 3) := by decide +kernel
theorem dX9_isFigure_5 : decode cX9_isFigure 5 = .ok (.if_icmp .ge 29, 3) := by decide +kernel
theorem dX9_isFigure_8 : decode cX9_isFigure 8 = .ok (.aload_n 0, 1) := by decide +kernel
theorem dX9_isFigure_9 : decode cX9_isFigure 9 = .ok (.getfield 50, 3) := by decide +kernel
theorem dX9_isFigure_12 : decode cX9_isFigure 12 = .ok (.iload_n 1, 1) := by decide +kernel
theorem dX9_isFigure_13 : decode cX9_isFigure 13 = .ok (.iaload, 1) := by decide +kernel
theorem dX9_isFigure_14 : decode cX9_isFigure 14 = .ok (.bipush 48, 2) := by decide +kernel
theorem dX9_isFigure_16 : decode cX9_isFigure 16 = .ok (.if_icmp .lt 18, 3) := by decide +kernel
theorem dX9_isFigure_19 : decode cX9_isFigure 19 = .ok (.aload_n 0, 1) := by decide +kernel
theorem dX9_isFigure_20 : decode cX9_isFigure 20 = .ok (.getfield 50, 3) := by decide +kernel
theorem dX9_isFigure_23 : decode cX9_isFigure 23 = .ok (.iload_n 1, 1) := by decide +kernel
theorem dX9_isFigure_24 : decode cX9_isFigure 24 = .ok (.iaload, 1) := by decide +kernel
theorem dX9_isFigure_25 : decode cX9_isFigure 25 = .ok (.bipush 57, 2) := by decide +kernel
theorem dX9_isFigure_27 : decode cX9_isFigure 27 = .ok (.if_icmp .gt 7, 3) := by decide +kernel
theorem dX9_isFigure_30 : decode cX9_isFigure 30 = .ok (.iconst 1, 1) := by decide +kernel
theorem dX9_isFigure_31 : decode cX9_isFigure 31 = .ok (.goto 4, 3) := by decide +kernel
theorem dX9_isFigure_34 : decode cX9_isFigure 34 = .ok (.iconst 0, 1) := by decide +kernel
theorem dX9_isFigure_35 : decode cX9_isFigure 35 = .ok (.ireturn, 1) := by decide +kernel
theorem dX9_go_0 : decode cX9_go 0 = .ok (.aload_n 0, 1) := by decide +kernel
theorem dX9_go_1 : decode cX9_go 1 = .ok (.getfield 232, 3) := by decide +kernel
theorem dX9_go_4 : decode cX9_go 4 = .ok (.aload_n 0, 1) := by decide +kernel
theorem dX9_go_5 : decode cX9_go 5 = .ok (.getfield 229, 3) := by decide +kernel
theorem dX9_go_8 : decode cX9_go 8 = .ok (.if_icmp .ge 30, 3) := by decide +kernel
theorem dX9_go_11 : decode cX9_go 11 = .ok (.aload_n 0, 1) := by decide +kernel
theorem dX9_go_12 : decode cX9_go 12 = .ok (.getfield 50, 3) := by decide +kernel
theorem dX9_go_15 : decode cX9_go 15 = .ok (.aload_n 0, 1) := by decide +kernel
theorem dX9_go_16 : decode cX9_go 16 = .ok (.getfield 232, 3) := by decide +kernel
theorem dX9_go_19 : decode cX9_go 19 = .ok (.iaload, 1) := by decide +kernel
theorem dX9_go_20 : decode cX9_go 20 = .ok (.bipush 32, 2) := by decide +kernel
theorem dX9_go_22 : decode cX9_go 22 = .ok (.if_icmp .ne 16, 3) := by decide +kernel
theorem dX9_go_25 : decode cX9_go 25 = .ok (.aload_n 0, 1) := by decide +kernel
theorem dX9_go_26 : decode cX9_go 26 = .ok (.dup, 1) := by decide +kernel
theorem dX9_go_27 : decode cX9_go 27 = .ok (.getfield 232, 3) := by decide +kernel
theorem dX9_go_30 : decode cX9_go 30 = .ok (.iconst 1, 1) := by decide +kernel
theorem dX9_go_31 : decode cX9_go 31 = .ok (.iadd, 1) := by decide +kernel
theorem dX9_go_32 : decode cX9_go 32 = .ok (.putfield 232, 3) := by decide +kernel
theorem dX9_go_35 : decode cX9_go 35 = .ok (.goto (-35), 3) := by decide +kernel
theorem dX9_go_38 : decode cX9_go 38 = .ok (.aload_n 0, 1) := by decide +kernel
theorem dX9_go_39 : decode cX9_go 39 = .ok (.aload_n 0, 1) := by decide +kernel
theorem dX9_go_40 : decode cX9_go 40 = .ok (.getfield 232, 3) := by decide +kernel
theorem dX9_go_43 : decode cX9_go 43 = .ok (.putfield 235, 3) := by decide +kernel
theorem dX9_go_46 : decode cX9_go 46 = .ok (.aload_n 0, 1) := by decide +kernel
theorem dX9_go_47 : decode cX9_go 47 = .ok (.getfield 235, 3) := by decide +kernel
theorem dX9_go_50 : decode cX9_go 50 = .ok (.aload_n 0, 1) := by decide +kernel
theorem dX9_go_51 : decode cX9_go 51 = .ok (.getfield 238, 3) := by decide +kernel
theorem dX9_go_54 : decode cX9_go 54 = .ok (.if_icmp .ne 7, 3) := by decide +kernel
theorem dX9_go_57 : decode cX9_go 57 = .ok (.iconst 1, 1) := by decide +kernel
theorem dX9_go_58 : decode cX9_go 58 = .ok (.goto 4, 3) := by decide +kernel
theorem dX9_go_61 : decode cX9_go 61 = .ok (.iconst 0, 1) := by decide +kernel
theorem dX9_go_62 : decode cX9_go 62 = .ok (.istore_n 1, 1) := by decide +kernel
theorem dX9_go_63 : decode cX9_go 63 = .ok (.aload_n 0, 1) := by decide +kernel
theorem dX9_go_64 : decode cX9_go 64 = .ok (.getfield 235, 3) := by decide +kernel
theorem dX9_go_67 : decode cX9_go 67 = .ok (.aload_n 0, 1) := by decide +kernel
theorem dX9_go_68 : decode cX9_go 68 = .ok (.getfield 229, 3) := by decide +kernel
theorem dX9_go_71 : decode cX9_go 71 = .ok (.if_icmp .ne 11, 3) := by decide +kernel
theorem dX9_go_74 : decode cX9_go 74 = .ok (.aload_n 0, 1) := by decide +kernel
theorem dX9_go_75 : decode cX9_go 75 = .ok (.iconst 0, 1) := by decide +kernel
theorem dX9_go_76 : decode cX9_go 76 = .ok (.putfield 241, 3) := by decide +kernel
theorem dX9_go_79 : decode cX9_go 79 = .ok (.goto 224, 3) := by decide +kernel
theorem dX9_go_82 : decode cX9_go 82 = .ok (.aload_n 0, 1) := by decide +kernel
theorem dX9_go_83 : decode cX9_go 83 = .ok (.aload_n 0, 1) := by decide +kernel
theorem dX9_go_84 : decode cX9_go 84 = .ok (.getfield 235, 3) := by decide +kernel
theorem dX9_go_87 : decode cX9_go 87 = .ok (.invokevirtual 244, 3) := by decide +kernel
theorem dX9_go_90 : decode cX9_go 90 = .ok (.ifCond .eq 64, 3) := by decide +kernel
theorem dX9_go_93 : decode cX9_go 93 = .ok (.aload_n 0, 1) := by decide +kernel
theorem dX9_go_94 : decode cX9_go 94 = .ok (.aload_n 0, 1) := by decide +kernel
theorem dX9_go_95 : decode cX9_go 95 = .ok (.getfield 232, 3) := by decide +kernel
theorem dX9_go_98 : decode cX9_go 98 = .ok (.invokevirtual 244, 3) := by decide +kernel
theorem dX9_go_101 : decode cX9_go 101 = .ok (.ifCond .eq 16, 3) := by decide +kernel
theorem dX9_go_104 : decode cX9_go 104 = .ok (.aload_n 0, 1) := by decide +kernel
theorem dX9_go_105 : decode cX9_go 105 = .ok (.dup, 1) := by decide +kernel
theorem dX9_go_106 : decode cX9_go 106 = .ok (.getfield 232, 3) := by decide +kernel
theorem dX9_go_109 : decode cX9_go 109 = .ok (.iconst 1, 1) := by decide +kernel
theorem dX9_go_110 : decode cX9_go 110 = .ok (.iadd, 1) := by decide +kernel
theorem dX9_go_111 : decode cX9_go 111 = .ok (.putfield 232, 3) := by decide +kernel
theorem dX9_go_114 : decode cX9_go 114 = .ok (.goto (-21), 3) := by decide +kernel
theorem dX9_go_117 : decode cX9_go 117 = .ok (.aload_n 0, 1) := by decide +kernel
theorem dX9_go_118 : decode cX9_go 118 = .ok (.iload_n 1, 1) := by decide +kernel
theorem dX9_go_119 : decode cX9_go 119 = .ok (.ifCond .eq 7, 3) := by decide +kernel
theorem dX9_go_122 : decode cX9_go 122 = .ok (.iconst 4, 1) := by decide +kernel
theorem dX9_go_123 : decode cX9_go 123 = .ok (.goto 4, 3) := by decide +kernel
theorem dX9_go_126 : decode cX9_go 126 = .ok (.iconst 1, 1) := by decide +kernel
theorem dX9_go_127 : decode cX9_go 127 = .ok (.putfield 241, 3) := by decide +kernel
theorem dX9_go_130 : decode cX9_go 130 = .ok (.aload_n 0, 1) := by decide +kernel
theorem dX9_go_131 : decode cX9_go 131 = .ok (.aload_n 0, 1) := by decide +kernel
theorem dX9_go_132 : decode cX9_go 132 = .ok (.getfield 50, 3) := by decide +kernel
theorem dX9_go_135 : decode cX9_go 135 = .ok (.aload_n 0, 1) := by decide +kernel
theorem dX9_go_136 : decode cX9_go 136 = .ok (.getfield 235, 3) := by decide +kernel
theorem dX9_go_139 : decode cX9_go 139 = .ok (.iaload, 1) := by decide +kernel
theorem dX9_go_140 : decode cX9_go 140 = .ok (.putfield 247, 3) := by decide +kernel
theorem dX9_go_143 : decode cX9_go 143 = .ok (.aload_n 0, 1) := by decide +kernel
theorem dX9_go_144 : decode cX9_go 144 = .ok (.aload_n 0, 1) := by decide +kernel
theorem dX9_go_145 : decode cX9_go 145 = .ok (.getfield 232, 3) := by decide +kernel
theorem dX9_go_148 : decode cX9_go 148 = .ok (.putfield 238, 3) := by decide +kernel
theorem dX9_go_151 : decode cX9_go 151 = .ok (.goto 152, 3) := by decide +kernel
theorem dX9_go_154 : decode cX9_go 154 = .ok (.aload_n 0, 1) := by decide +kernel
theorem dX9_go_155 : decode cX9_go 155 = .ok (.aload_n 0, 1) := by decide +kernel
theorem dX9_go_156 : decode cX9_go 156 = .ok (.getfield 235, 3) := by decide +kernel
theorem dX9_go_159 : decode cX9_go 159 = .ok (.invokevirtual 250, 3) := by decide +kernel
theorem dX9_go_162 : decode cX9_go 162 = .ok (.ifCond .eq 113, 3) := by decide +kernel
theorem dX9_go_165 : decode cX9_go 165 = .ok (.aload_n 0, 1) := by decide +kernel
theorem dX9_go_166 : decode cX9_go 166 = .ok (.iconst 0, 1) := by decide +kernel
theorem dX9_go_167 : decode cX9_go 167 = .ok (.putfield 247, 3) := by decide +kernel
theorem dX9_go_170 : decode cX9_go 170 = .ok (.aload_n 0, 1) := by decide +kernel
theorem dX9_go_171 : decode cX9_go 171 = .ok (.aload_n 0, 1) := by decide +kernel
theorem dX9_go_172 : decode cX9_go 172 = .ok (.getfield 232, 3) := by decide +kernel
theorem dX9_go_175 : decode cX9_go 175 = .ok (.invokevirtual 250, 3) := by decide +kernel
theorem dX9_go_178 : decode cX9_go 178 = .ok (.ifCond .eq 60, 3) := by decide +kernel
theorem dX9_go_181 : decode cX9_go 181 = .ok (.aload_n 0, 1) := by decide +kernel
theorem dX9_go_182 : decode cX9_go 182 = .ok (.aload_n 0, 1) := by decide +kernel
theorem dX9_go_183 : decode cX9_go 183 = .ok (.getfield 232, 3) := by decide +kernel
theorem dX9_go_186 : decode cX9_go 186 = .ok (.aload_n 0, 1) := by decide +kernel
theorem dX9_go_187 : decode cX9_go 187 = .ok (.getfield 235, 3) := by decide +kernel
theorem dX9_go_190 : decode cX9_go 190 = .ok (.isub, 1) := by decide +kernel
theorem dX9_go_191 : decode cX9_go 191 = .ok (.iconst 4, 1) := by decide +kernel
theorem dX9_go_192 : decode cX9_go 192 = .ok (.if_icmp .ge 26, 3) := by decide +kernel
theorem dX9_go_195 : decode cX9_go 195 = .ok (.bipush 10, 2) := by decide +kernel
theorem dX9_go_197 : decode cX9_go 197 = .ok (.aload_n 0, 1) := by decide +kernel
theorem dX9_go_198 : decode cX9_go 198 = .ok (.getfield 247, 3) := by decide +kernel
theorem dX9_go_201 : decode cX9_go 201 = .ok (.imul, 1) := by decide +kernel
theorem dX9_go_202 : decode cX9_go 202 = .ok (.aload_n 0, 1) := by decide +kernel
theorem dX9_go_203 : decode cX9_go 203 = .ok (.getfield 50, 3) := by decide +kernel
theorem dX9_go_206 : decode cX9_go 206 = .ok (.aload_n 0, 1) := by decide +kernel
theorem dX9_go_207 : decode cX9_go 207 = .ok (.getfield 232, 3) := by decide +kernel
theorem dX9_go_210 : decode cX9_go 210 = .ok (.iaload, 1) := by decide +kernel
theorem dX9_go_211 : decode cX9_go 211 = .ok (.iadd, 1) := by decide +kernel
theorem dX9_go_212 : decode cX9_go 212 = .ok (.bipush 48, 2) := by decide +kernel
theorem dX9_go_214 : decode cX9_go 214 = .ok (.isub, 1) := by decide +kernel
theorem dX9_go_215 : decode cX9_go 215 = .ok (.goto 7, 3) := by decide +kernel
theorem dX9_go_218 : decode cX9_go 218 = .ok (.aload_n 0, 1) := by decide +kernel
theorem dX9_go_219 : decode cX9_go 219 = .ok (.getfield 247, 3) := by decide +kernel
theorem dX9_go_222 : decode cX9_go 222 = .ok (.putfield 247, 3) := by decide +kernel
theorem dX9_go_225 : decode cX9_go 225 = .ok (.aload_n 0, 1) := by decide +kernel
theorem dX9_go_226 : decode cX9_go 226 = .ok (.dup, 1) := by decide +kernel
theorem dX9_go_227 : decode cX9_go 227 = .ok (.getfield 232, 3) := by decide +kernel
theorem dX9_go_230 : decode cX9_go 230 = .ok (.iconst 1, 1) := by decide +kernel
theorem dX9_go_231 : decode cX9_go 231 = .ok (.iadd, 1) := by decide +kernel
theorem dX9_go_232 : decode cX9_go 232 = .ok (.putfield 232, 3) := by decide +kernel
theorem dX9_go_235 : decode cX9_go 235 = .ok (.goto (-65), 3) := by decide +kernel
theorem dX9_go_238 : decode cX9_go 238 = .ok (.aload_n 0, 1) := by decide +kernel
theorem dX9_go_239 : decode cX9_go 239 = .ok (.iload_n 1, 1) := by decide +kernel
theorem dX9_go_240 : decode cX9_go 240 = .ok (.ifCond .ne 16, 3) := by decide +kernel
theorem dX9_go_243 : decode cX9_go 243 = .ok (.aload_n 0, 1) := by decide +kernel
theorem dX9_go_244 : decode cX9_go 244 = .ok (.getfield 232, 3) := by decide +kernel
theorem dX9_go_247 : decode cX9_go 247 = .ok (.aload_n 0, 1) := by decide +kernel
theorem dX9_go_248 : decode cX9_go 248 = .ok (.getfield 235, 3) := by decide +kernel
theorem dX9_go_251 : decode cX9_go 251 = .ok (.isub, 1) := by decide +kernel
theorem dX9_go_252 : decode cX9_go 252 = .ok (.iconst 4, 1) := by decide +kernel
theorem dX9_go_253 : decode cX9_go 253 = .ok (.if_icmp .le 7, 3) := by decide +kernel
theorem dX9_go_256 : decode cX9_go 256 = .ok (.iconst 4, 1) := by decide +kernel
theorem dX9_go_257 : decode cX9_go 257 = .ok (.goto 4, 3) := by decide +kernel
theorem dX9_go_260 : decode cX9_go 260 = .ok (.iconst 2, 1) := by decide +kernel
theorem dX9_go_261 : decode cX9_go 261 = .ok (.putfield 241, 3) := by decide +kernel
theorem dX9_go_264 : decode cX9_go 264 = .ok (.aload_n 0, 1) := by decide +kernel
theorem dX9_go_265 : decode cX9_go 265 = .ok (.aload_n 0, 1) := by decide +kernel
theorem dX9_go_266 : decode cX9_go 266 = .ok (.getfield 232, 3) := by decide +kernel
theorem dX9_go_269 : decode cX9_go 269 = .ok (.putfield 238, 3) := by decide +kernel
theorem dX9_go_272 : decode cX9_go 272 = .ok (.goto 31, 3) := by decide +kernel
theorem dX9_go_275 : decode cX9_go 275 = .ok (.aload_n 0, 1) := by decide +kernel
theorem dX9_go_276 : decode cX9_go 276 = .ok (.iconst 3, 1) := by decide +kernel
theorem dX9_go_277 : decode cX9_go 277 = .ok (.putfield 241, 3) := by decide +kernel
theorem dX9_go_280 : decode cX9_go 280 = .ok (.aload_n 0, 1) := by decide +kernel
theorem dX9_go_281 : decode cX9_go 281 = .ok (.aload_n 0, 1) := by decide +kernel
theorem dX9_go_282 : decode cX9_go 282 = .ok (.getfield 50, 3) := by decide +kernel
theorem dX9_go_285 : decode cX9_go 285 = .ok (.aload_n 0, 1) := by decide +kernel
theorem dX9_go_286 : decode cX9_go 286 = .ok (.getfield 235, 3) := by decide +kernel
theorem dX9_go_289 : decode cX9_go 289 = .ok (.iaload, 1) := by decide +kernel
theorem dX9_go_290 : decode cX9_go 290 = .ok (.putfield 247, 3) := by decide +kernel
theorem dX9_go_293 : decode cX9_go 293 = .ok (.aload_n 0, 1) := by decide +kernel
theorem dX9_go_294 : decode cX9_go 294 = .ok (.dup, 1) := by decide +kernel
theorem dX9_go_295 : decode cX9_go 295 = .ok (.getfield 232, 3) := by decide +kernel
theorem dX9_go_298 : decode cX9_go 298 = .ok (.iconst 1, 1) := by decide +kernel
theorem dX9_go_299 : decode cX9_go 299 = .ok (.iadd, 1) := by decide +kernel
theorem dX9_go_300 : decode cX9_go 300 = .ok (.putfield 232, 3) := by decide +kernel
theorem dX9_go_303 : decode cX9_go 303 = .ok (.return_, 1) := by decide +kernel
theorem dX9_takesKey_0 : decode cX9_takesKey 0 = .ok (.aload_n 0, 1) := by decide +kernel
theorem dX9_takesKey_1 : decode cX9_takesKey 1 = .ok (.getfield 241, 3) := by decide +kernel
theorem dX9_takesKey_4 : decode cX9_takesKey 4 = .ok (.iconst 1, 1) := by decide +kernel
theorem dX9_takesKey_5 : decode cX9_takesKey 5 = .ok (.if_icmp .eq 5, 3) := by decide +kernel
theorem dX9_takesKey_8 : decode cX9_takesKey 8 = .ok (.iconst 0, 1) := by decide +kernel
theorem dX9_takesKey_9 : decode cX9_takesKey 9 = .ok (.ireturn, 1) := by decide +kernel
theorem dX9_takesKey_10 : decode cX9_takesKey 10 = .ok (.iconst 0, 1) := by decide +kernel
theorem dX9_takesKey_11 : decode cX9_takesKey 11 = .ok (.istore_n 1, 1) := by decide +kernel
theorem dX9_takesKey_12 : decode cX9_takesKey 12 = .ok (.iload_n 1, 1) := by decide +kernel
theorem dX9_takesKey_13 : decode cX9_takesKey 13 = .ok (.iconst 3, 1) := by decide +kernel
theorem dX9_takesKey_14 : decode cX9_takesKey 14 = .ok (.if_icmp .ge 113, 3) := by decide +kernel
theorem dX9_takesKey_17 : decode cX9_takesKey 17 = .ok (.aload_n 0, 1) := by decide +kernel
theorem dX9_takesKey_18 : decode cX9_takesKey 18 = .ok (.getfield 57, 3) := by decide +kernel
theorem dX9_takesKey_21 : decode cX9_takesKey 21 = .ok (.iload_n 1, 1) := by decide +kernel
theorem dX9_takesKey_22 : decode cX9_takesKey 22 = .ok (.iconst 1, 1) := by decide +kernel
theorem dX9_takesKey_23 : decode cX9_takesKey 23 = .ok (.iadd, 1) := by decide +kernel
theorem dX9_takesKey_24 : decode cX9_takesKey 24 = .ok (.iaload, 1) := by decide +kernel
theorem dX9_takesKey_25 : decode cX9_takesKey 25 = .ok (.aload_n 0, 1) := by decide +kernel
theorem dX9_takesKey_26 : decode cX9_takesKey 26 = .ok (.getfield 57, 3) := by decide +kernel
theorem dX9_takesKey_29 : decode cX9_takesKey 29 = .ok (.iload_n 1, 1) := by decide +kernel
theorem dX9_takesKey_30 : decode cX9_takesKey 30 = .ok (.iaload, 1) := by decide +kernel
theorem dX9_takesKey_31 : decode cX9_takesKey 31 = .ok (.isub, 1) := by decide +kernel
theorem dX9_takesKey_32 : decode cX9_takesKey 32 = .ok (.istore_n 2, 1) := by decide +kernel
theorem dX9_takesKey_33 : decode cX9_takesKey 33 = .ok (.iload_n 2, 1) := by decide +kernel
theorem dX9_takesKey_34 : decode cX9_takesKey 34 = .ok (.aload_n 0, 1) := by decide +kernel
theorem dX9_takesKey_35 : decode cX9_takesKey 35 = .ok (.getfield 232, 3) := by decide +kernel
theorem dX9_takesKey_38 : decode cX9_takesKey 38 = .ok (.aload_n 0, 1) := by decide +kernel
theorem dX9_takesKey_39 : decode cX9_takesKey 39 = .ok (.getfield 235, 3) := by decide +kernel
theorem dX9_takesKey_42 : decode cX9_takesKey 42 = .ok (.isub, 1) := by decide +kernel
theorem dX9_takesKey_43 : decode cX9_takesKey 43 = .ok (.if_icmp .ne 7, 3) := by decide +kernel
theorem dX9_takesKey_46 : decode cX9_takesKey 46 = .ok (.iconst 1, 1) := by decide +kernel
theorem dX9_takesKey_47 : decode cX9_takesKey 47 = .ok (.goto 4, 3) := by decide +kernel
theorem dX9_takesKey_50 : decode cX9_takesKey 50 = .ok (.iconst 0, 1) := by decide +kernel
theorem dX9_takesKey_51 : decode cX9_takesKey 51 = .ok (.istore_n 3, 1) := by decide +kernel
theorem dX9_takesKey_52 : decode cX9_takesKey 52 = .ok (.iconst 0, 1) := by decide +kernel
theorem dX9_takesKey_53 : decode cX9_takesKey 53 = .ok (.istore 4, 2) := by decide +kernel
theorem dX9_takesKey_55 : decode cX9_takesKey 55 = .ok (.iload 4, 2) := by decide +kernel
theorem dX9_takesKey_57 : decode cX9_takesKey 57 = .ok (.iload_n 2, 1) := by decide +kernel
theorem dX9_takesKey_58 : decode cX9_takesKey 58 = .ok (.if_icmp .ge 48, 3) := by decide +kernel
theorem dX9_takesKey_61 : decode cX9_takesKey 61 = .ok (.iload_n 3, 1) := by decide +kernel
theorem dX9_takesKey_62 : decode cX9_takesKey 62 = .ok (.ifCond .eq 44, 3) := by decide +kernel
theorem dX9_takesKey_65 : decode cX9_takesKey 65 = .ok (.aload_n 0, 1) := by decide +kernel
theorem dX9_takesKey_66 : decode cX9_takesKey 66 = .ok (.getfield 50, 3) := by decide +kernel
theorem dX9_takesKey_69 : decode cX9_takesKey 69 = .ok (.aload_n 0, 1) := by decide +kernel
theorem dX9_takesKey_70 : decode cX9_takesKey 70 = .ok (.getfield 235, 3) := by decide +kernel
theorem dX9_takesKey_73 : decode cX9_takesKey 73 = .ok (.iload 4, 2) := by decide +kernel
theorem dX9_takesKey_75 : decode cX9_takesKey 75 = .ok (.iadd, 1) := by decide +kernel
theorem dX9_takesKey_76 : decode cX9_takesKey 76 = .ok (.iaload, 1) := by decide +kernel
theorem dX9_takesKey_77 : decode cX9_takesKey 77 = .ok (.aload_n 0, 1) := by decide +kernel
theorem dX9_takesKey_78 : decode cX9_takesKey 78 = .ok (.getfield 53, 3) := by decide +kernel
theorem dX9_takesKey_81 : decode cX9_takesKey 81 = .ok (.aload_n 0, 1) := by decide +kernel
theorem dX9_takesKey_82 : decode cX9_takesKey 82 = .ok (.getfield 57, 3) := by decide +kernel
theorem dX9_takesKey_85 : decode cX9_takesKey 85 = .ok (.iload_n 1, 1) := by decide +kernel
theorem dX9_takesKey_86 : decode cX9_takesKey 86 = .ok (.iaload, 1) := by decide +kernel
theorem dX9_takesKey_87 : decode cX9_takesKey 87 = .ok (.iload 4, 2) := by decide +kernel
theorem dX9_takesKey_89 : decode cX9_takesKey 89 = .ok (.iadd, 1) := by decide +kernel
theorem dX9_takesKey_90 : decode cX9_takesKey 90 = .ok (.caload, 1) := by decide +kernel
theorem dX9_takesKey_91 : decode cX9_takesKey 91 = .ok (.if_icmp .ne 7, 3) := by decide +kernel
theorem dX9_takesKey_94 : decode cX9_takesKey 94 = .ok (.iconst 1, 1) := by decide +kernel
theorem dX9_takesKey_95 : decode cX9_takesKey 95 = .ok (.goto 4, 3) := by decide +kernel
theorem dX9_takesKey_98 : decode cX9_takesKey 98 = .ok (.iconst 0, 1) := by decide +kernel
theorem dX9_takesKey_99 : decode cX9_takesKey 99 = .ok (.istore_n 3, 1) := by decide +kernel
theorem dX9_takesKey_100 : decode cX9_takesKey 100 = .ok (.iinc 4 1, 3) := by decide +kernel
theorem dX9_takesKey_103 : decode cX9_takesKey 103 = .ok (.goto (-48), 3) := by decide +kernel
theorem dX9_takesKey_106 : decode cX9_takesKey 106 = .ok (.iload_n 3, 1) := by decide +kernel
theorem dX9_takesKey_107 : decode cX9_takesKey 107 = .ok (.ifCond .eq 14, 3) := by decide +kernel
theorem dX9_takesKey_110 : decode cX9_takesKey 110 = .ok (.aload_n 0, 1) := by decide +kernel
theorem dX9_takesKey_111 : decode cX9_takesKey 111 = .ok (.iload_n 1, 1) := by decide +kernel
theorem dX9_takesKey_112 : decode cX9_takesKey 112 = .ok (.putfield 253, 3) := by decide +kernel
theorem dX9_takesKey_115 : decode cX9_takesKey 115 = .ok (.aload_n 0, 1) := by decide +kernel
theorem dX9_takesKey_116 : decode cX9_takesKey 116 = .ok (.invokevirtual 256, 3) := by decide +kernel
theorem dX9_takesKey_119 : decode cX9_takesKey 119 = .ok (.iconst 1, 1) := by decide +kernel
theorem dX9_takesKey_120 : decode cX9_takesKey 120 = .ok (.ireturn, 1) := by decide +kernel
theorem dX9_takesKey_121 : decode cX9_takesKey 121 = .ok (.iinc 1 1, 3) := by decide +kernel
theorem dX9_takesKey_124 : decode cX9_takesKey 124 = .ok (.goto (-112), 3) := by decide +kernel
theorem dX9_takesKey_127 : decode cX9_takesKey 127 = .ok (.iconst 0, 1) := by decide +kernel
theorem dX9_takesKey_128 : decode cX9_takesKey 128 = .ok (.ireturn, 1) := by decide +kernel
theorem dX9_nameOf_0 : decode cX9_nameOf 0 = .ok (.aload_n 0, 1) := by decide +kernel
theorem dX9_nameOf_1 : decode cX9_nameOf 1 = .ok (.getfield 253, 3) := by decide +kernel
theorem dX9_nameOf_4 : decode cX9_nameOf 4 = .ok (.lookupswitch 82 #[(0, 28), (1, 60)], 28) := by decide +kernel
theorem dX9_nameOf_32 : decode cX9_nameOf 32 = .ok (.iload_n 1, 1) := by decide +kernel
theorem dX9_nameOf_33 : decode cX9_nameOf 33 = .ok (.bipush 107, 2) := by decide +kernel
theorem dX9_nameOf_35 : decode cX9_nameOf 35 = .ok (.if_icmp .ne 7, 3) := by decide +kernel
theorem dX9_nameOf_38 : decode cX9_nameOf 38 = .ok (.iconst 0, 1) := by decide +kernel
theorem dX9_nameOf_39 : decode cX9_nameOf 39 = .ok (.goto 24, 3) := by decide +kernel
theorem dX9_nameOf_42 : decode cX9_nameOf 42 = .ok (.iload_n 1, 1) := by decide +kernel
theorem dX9_nameOf_43 : decode cX9_nameOf 43 = .ok (.bipush 110, 2) := by decide +kernel
theorem dX9_nameOf_45 : decode cX9_nameOf 45 = .ok (.if_icmp .ne 7, 3) := by decide +kernel
theorem dX9_nameOf_48 : decode cX9_nameOf 48 = .ok (.iconst 1, 1) := by decide +kernel
theorem dX9_nameOf_49 : decode cX9_nameOf 49 = .ok (.goto 14, 3) := by decide +kernel
theorem dX9_nameOf_52 : decode cX9_nameOf 52 = .ok (.iload_n 1, 1) := by decide +kernel
theorem dX9_nameOf_53 : decode cX9_nameOf 53 = .ok (.bipush 100, 2) := by decide +kernel
theorem dX9_nameOf_55 : decode cX9_nameOf 55 = .ok (.if_icmp .ne 7, 3) := by decide +kernel
theorem dX9_nameOf_58 : decode cX9_nameOf 58 = .ok (.iconst 2, 1) := by decide +kernel
theorem dX9_nameOf_59 : decode cX9_nameOf 59 = .ok (.goto 4, 3) := by decide +kernel
theorem dX9_nameOf_62 : decode cX9_nameOf 62 = .ok (.iconst (-1), 1) := by decide +kernel
theorem dX9_nameOf_63 : decode cX9_nameOf 63 = .ok (.ireturn, 1) := by decide +kernel
theorem dX9_nameOf_64 : decode cX9_nameOf 64 = .ok (.iload_n 1, 1) := by decide +kernel
theorem dX9_nameOf_65 : decode cX9_nameOf 65 = .ok (.bipush 110, 2) := by decide +kernel
theorem dX9_nameOf_67 : decode cX9_nameOf 67 = .ok (.if_icmp .ne 7, 3) := by decide +kernel
theorem dX9_nameOf_70 : decode cX9_nameOf 70 = .ok (.iconst 0, 1) := by decide +kernel
theorem dX9_nameOf_71 : decode cX9_nameOf 71 = .ok (.goto 14, 3) := by decide +kernel
theorem dX9_nameOf_74 : decode cX9_nameOf 74 = .ok (.iload_n 1, 1) := by decide +kernel
theorem dX9_nameOf_75 : decode cX9_nameOf 75 = .ok (.bipush 100, 2) := by decide +kernel
theorem dX9_nameOf_77 : decode cX9_nameOf 77 = .ok (.if_icmp .ne 7, 3) := by decide +kernel
theorem dX9_nameOf_80 : decode cX9_nameOf 80 = .ok (.iconst 1, 1) := by decide +kernel
theorem dX9_nameOf_81 : decode cX9_nameOf 81 = .ok (.goto 4, 3) := by decide +kernel
theorem dX9_nameOf_84 : decode cX9_nameOf 84 = .ok (.iconst (-1), 1) := by decide +kernel
theorem dX9_nameOf_85 : decode cX9_nameOf 85 = .ok (.ireturn, 1) := by decide +kernel
theorem dX9_nameOf_86 : decode cX9_nameOf 86 = .ok (.iload_n 1, 1) := by decide +kernel
theorem dX9_nameOf_87 : decode cX9_nameOf 87 = .ok (.bipush 115, 2) := by decide +kernel
theorem dX9_nameOf_89 : decode cX9_nameOf 89 = .ok (.if_icmp .ne 7, 3) := by decide +kernel
theorem dX9_nameOf_92 : decode cX9_nameOf 92 = .ok (.iconst 0, 1) := by decide +kernel
theorem dX9_nameOf_93 : decode cX9_nameOf 93 = .ok (.goto 24, 3) := by decide +kernel
theorem dX9_nameOf_96 : decode cX9_nameOf 96 = .ok (.iload_n 1, 1) := by decide +kernel
theorem dX9_nameOf_97 : decode cX9_nameOf 97 = .ok (.bipush 119, 2) := by decide +kernel
theorem dX9_nameOf_99 : decode cX9_nameOf 99 = .ok (.if_icmp .ne 7, 3) := by decide +kernel
theorem dX9_nameOf_102 : decode cX9_nameOf 102 = .ok (.iconst 1, 1) := by decide +kernel
theorem dX9_nameOf_103 : decode cX9_nameOf 103 = .ok (.goto 14, 3) := by decide +kernel
theorem dX9_nameOf_106 : decode cX9_nameOf 106 = .ok (.iload_n 1, 1) := by decide +kernel
theorem dX9_nameOf_107 : decode cX9_nameOf 107 = .ok (.bipush 100, 2) := by decide +kernel
theorem dX9_nameOf_109 : decode cX9_nameOf 109 = .ok (.if_icmp .ne 7, 3) := by decide +kernel
theorem dX9_nameOf_112 : decode cX9_nameOf 112 = .ok (.iconst 2, 1) := by decide +kernel
theorem dX9_nameOf_113 : decode cX9_nameOf 113 = .ok (.goto 4, 3) := by decide +kernel
theorem dX9_nameOf_116 : decode cX9_nameOf 116 = .ok (.iconst (-1), 1) := by decide +kernel
theorem dX9_nameOf_117 : decode cX9_nameOf 117 = .ok (.ireturn, 1) := by decide +kernel
theorem dX9_rank_0 : decode cX9_rank 0 = .ok (.iload_n 0, 1) := by decide +kernel
theorem dX9_rank_1 : decode cX9_rank 1 = .ok (.iconst (-1), 1) := by decide +kernel
theorem dX9_rank_2 : decode cX9_rank 2 = .ok (.if_icmp .ne 7, 3) := by decide +kernel
theorem dX9_rank_5 : decode cX9_rank 5 = .ok (.iconst 1, 1) := by decide +kernel
theorem dX9_rank_6 : decode cX9_rank 6 = .ok (.goto 45, 3) := by decide +kernel
theorem dX9_rank_9 : decode cX9_rank 9 = .ok (.iload_n 0, 1) := by decide +kernel
theorem dX9_rank_10 : decode cX9_rank 10 = .ok (.bipush (-2), 2) := by decide +kernel
theorem dX9_rank_12 : decode cX9_rank 12 = .ok (.if_icmp .ne 7, 3) := by decide +kernel
theorem dX9_rank_15 : decode cX9_rank 15 = .ok (.iconst 2, 1) := by decide +kernel
theorem dX9_rank_16 : decode cX9_rank 16 = .ok (.goto 35, 3) := by decide +kernel
theorem dX9_rank_19 : decode cX9_rank 19 = .ok (.iload_n 0, 1) := by decide +kernel
theorem dX9_rank_20 : decode cX9_rank 20 = .ok (.bipush (-5), 2) := by decide +kernel
theorem dX9_rank_22 : decode cX9_rank 22 = .ok (.if_icmp .lt 7, 3) := by decide +kernel
theorem dX9_rank_25 : decode cX9_rank 25 = .ok (.iconst 3, 1) := by decide +kernel
theorem dX9_rank_26 : decode cX9_rank 26 = .ok (.goto 25, 3) := by decide +kernel
theorem dX9_rank_29 : decode cX9_rank 29 = .ok (.iload_n 0, 1) := by decide +kernel
theorem dX9_rank_30 : decode cX9_rank 30 = .ok (.bipush (-7), 2) := by decide +kernel
theorem dX9_rank_32 : decode cX9_rank 32 = .ok (.if_icmp .lt 7, 3) := by decide +kernel
theorem dX9_rank_35 : decode cX9_rank 35 = .ok (.iconst 4, 1) := by decide +kernel
theorem dX9_rank_36 : decode cX9_rank 36 = .ok (.goto 15, 3) := by decide +kernel
theorem dX9_rank_39 : decode cX9_rank 39 = .ok (.iload_n 0, 1) := by decide +kernel
theorem dX9_rank_40 : decode cX9_rank 40 = .ok (.bipush (-9), 2) := by decide +kernel
theorem dX9_rank_42 : decode cX9_rank 42 = .ok (.if_icmp .lt 7, 3) := by decide +kernel
theorem dX9_rank_45 : decode cX9_rank 45 = .ok (.iconst 5, 1) := by decide +kernel
theorem dX9_rank_46 : decode cX9_rank 46 = .ok (.goto 5, 3) := by decide +kernel
theorem dX9_rank_49 : decode cX9_rank 49 = .ok (.bipush 6, 2) := by decide +kernel
theorem dX9_rank_51 : decode cX9_rank 51 = .ok (.ireturn, 1) := by decide +kernel
theorem dX9_settle_0 : decode cX9_settle 0 = .ok (.aload_n 0, 1) := by decide +kernel
theorem dX9_settle_1 : decode cX9_settle 1 = .ok (.getfield 259, 3) := by decide +kernel
theorem dX9_settle_4 : decode cX9_settle 4 = .ok (.ifCond .le 78, 3) := by decide +kernel
theorem dX9_settle_7 : decode cX9_settle 7 = .ok (.aload_n 0, 1) := by decide +kernel
theorem dX9_settle_8 : decode cX9_settle 8 = .ok (.getfield 63, 3) := by decide +kernel
theorem dX9_settle_11 : decode cX9_settle 11 = .ok (.aload_n 0, 1) := by decide +kernel
theorem dX9_settle_12 : decode cX9_settle 12 = .ok (.getfield 259, 3) := by decide +kernel
theorem dX9_settle_15 : decode cX9_settle 15 = .ok (.iconst 1, 1) := by decide +kernel
theorem dX9_settle_16 : decode cX9_settle 16 = .ok (.isub, 1) := by decide +kernel
theorem dX9_settle_17 : decode cX9_settle 17 = .ok (.iaload, 1) := by decide +kernel
theorem dX9_settle_18 : decode cX9_settle 18 = .ok (.bipush (-11), 2) := by decide +kernel
theorem dX9_settle_20 : decode cX9_settle 20 = .ok (.if_icmp .eq 62, 3) := by decide +kernel
theorem dX9_settle_23 : decode cX9_settle 23 = .ok (.aload_n 0, 1) := by decide +kernel
theorem dX9_settle_24 : decode cX9_settle 24 = .ok (.getfield 63, 3) := by decide +kernel
theorem dX9_settle_27 : decode cX9_settle 27 = .ok (.aload_n 0, 1) := by decide +kernel
theorem dX9_settle_28 : decode cX9_settle 28 = .ok (.getfield 259, 3) := by decide +kernel
theorem dX9_settle_31 : decode cX9_settle 31 = .ok (.iconst 1, 1) := by decide +kernel
theorem dX9_settle_32 : decode cX9_settle 32 = .ok (.isub, 1) := by decide +kernel
theorem dX9_settle_33 : decode cX9_settle 33 = .ok (.iaload, 1) := by decide +kernel
theorem dX9_settle_34 : decode cX9_settle 34 = .ok (.invokestatic 262, 3) := by decide +kernel
theorem dX9_settle_37 : decode cX9_settle 37 = .ok (.iload_n 1, 1) := by decide +kernel
theorem dX9_settle_38 : decode cX9_settle 38 = .ok (.if_icmp .lt 44, 3) := by decide +kernel
theorem dX9_settle_41 : decode cX9_settle 41 = .ok (.aload_n 0, 1) := by decide +kernel
theorem dX9_settle_42 : decode cX9_settle 42 = .ok (.dup, 1) := by decide +kernel
theorem dX9_settle_43 : decode cX9_settle 43 = .ok (.getfield 259, 3) := by decide +kernel
theorem dX9_settle_46 : decode cX9_settle 46 = .ok (.iconst 1, 1) := by decide +kernel
theorem dX9_settle_47 : decode cX9_settle 47 = .ok (.isub, 1) := by decide +kernel
theorem dX9_settle_48 : decode cX9_settle 48 = .ok (.putfield 259, 3) := by decide +kernel
theorem dX9_settle_51 : decode cX9_settle 51 = .ok (.aload_n 0, 1) := by decide +kernel
theorem dX9_settle_52 : decode cX9_settle 52 = .ok (.getfield 60, 3) := by decide +kernel
theorem dX9_settle_55 : decode cX9_settle 55 = .ok (.aload_n 0, 1) := by decide +kernel
theorem dX9_settle_56 : decode cX9_settle 56 = .ok (.getfield 265, 3) := by decide +kernel
theorem dX9_settle_59 : decode cX9_settle 59 = .ok (.aload_n 0, 1) := by decide +kernel
theorem dX9_settle_60 : decode cX9_settle 60 = .ok (.getfield 63, 3) := by decide +kernel
theorem dX9_settle_63 : decode cX9_settle 63 = .ok (.aload_n 0, 1) := by decide +kernel
theorem dX9_settle_64 : decode cX9_settle 64 = .ok (.getfield 259, 3) := by decide +kernel
theorem dX9_settle_67 : decode cX9_settle 67 = .ok (.iaload, 1) := by decide +kernel
theorem dX9_settle_68 : decode cX9_settle 68 = .ok (.iastore, 1) := by decide +kernel
theorem dX9_settle_69 : decode cX9_settle 69 = .ok (.aload_n 0, 1) := by decide +kernel
theorem dX9_settle_70 : decode cX9_settle 70 = .ok (.dup, 1) := by decide +kernel
theorem dX9_settle_71 : decode cX9_settle 71 = .ok (.getfield 265, 3) := by decide +kernel
theorem dX9_settle_74 : decode cX9_settle 74 = .ok (.iconst 1, 1) := by decide +kernel
theorem dX9_settle_75 : decode cX9_settle 75 = .ok (.iadd, 1) := by decide +kernel
theorem dX9_settle_76 : decode cX9_settle 76 = .ok (.putfield 265, 3) := by decide +kernel
theorem dX9_settle_79 : decode cX9_settle 79 = .ok (.goto (-79), 3) := by decide +kernel
theorem dX9_settle_82 : decode cX9_settle 82 = .ok (.return_, 1) := by decide +kernel
theorem dX9_signHere_0 : decode cX9_signHere 0 = .ok (.aload_n 0, 1) := by decide +kernel
theorem dX9_signHere_1 : decode cX9_signHere 1 = .ok (.getfield 241, 3) := by decide +kernel
theorem dX9_signHere_4 : decode cX9_signHere 4 = .ok (.iconst 3, 1) := by decide +kernel
theorem dX9_signHere_5 : decode cX9_signHere 5 = .ok (.if_icmp .eq 5, 3) := by decide +kernel
theorem dX9_signHere_8 : decode cX9_signHere 8 = .ok (.iconst 0, 1) := by decide +kernel
theorem dX9_signHere_9 : decode cX9_signHere 9 = .ok (.ireturn, 1) := by decide +kernel
theorem dX9_signHere_10 : decode cX9_signHere 10 = .ok (.aload_n 0, 1) := by decide +kernel
theorem dX9_signHere_11 : decode cX9_signHere 11 = .ok (.getfield 247, 3) := by decide +kernel
theorem dX9_signHere_14 : decode cX9_signHere 14 = .ok (.lookupswitch 108 #[(38, 84), (42, 102), (43, 96), (45, 99), (47, 105), (60, 87), (61, 90), (62, 93), (124, 82)], 82) := by decide +kernel
theorem dX9_signHere_96 : decode cX9_signHere 96 = .ok (.iconst (-1), 1) := by decide +kernel
theorem dX9_signHere_97 : decode cX9_signHere 97 = .ok (.ireturn, 1) := by decide +kernel
theorem dX9_signHere_98 : decode cX9_signHere 98 = .ok (.bipush (-2), 2) := by decide +kernel
theorem dX9_signHere_100 : decode cX9_signHere 100 = .ok (.ireturn, 1) := by decide +kernel
theorem dX9_signHere_101 : decode cX9_signHere 101 = .ok (.bipush (-3), 2) := by decide +kernel
theorem dX9_signHere_103 : decode cX9_signHere 103 = .ok (.ireturn, 1) := by decide +kernel
theorem dX9_signHere_104 : decode cX9_signHere 104 = .ok (.bipush (-4), 2) := by decide +kernel
theorem dX9_signHere_106 : decode cX9_signHere 106 = .ok (.ireturn, 1) := by decide +kernel
theorem dX9_signHere_107 : decode cX9_signHere 107 = .ok (.bipush (-5), 2) := by decide +kernel
theorem dX9_signHere_109 : decode cX9_signHere 109 = .ok (.ireturn, 1) := by decide +kernel
theorem dX9_signHere_110 : decode cX9_signHere 110 = .ok (.bipush (-6), 2) := by decide +kernel
theorem dX9_signHere_112 : decode cX9_signHere 112 = .ok (.ireturn, 1) := by decide +kernel
theorem dX9_signHere_113 : decode cX9_signHere 113 = .ok (.bipush (-7), 2) := by decide +kernel
theorem dX9_signHere_115 : decode cX9_signHere 115 = .ok (.ireturn, 1) := by decide +kernel
theorem dX9_signHere_116 : decode cX9_signHere 116 = .ok (.bipush (-8), 2) := by decide +kernel
theorem dX9_signHere_118 : decode cX9_signHere 118 = .ok (.ireturn, 1) := by decide +kernel
theorem dX9_signHere_119 : decode cX9_signHere 119 = .ok (.bipush (-9), 2) := by decide +kernel
theorem dX9_signHere_121 : decode cX9_signHere 121 = .ok (.ireturn, 1) := by decide +kernel
theorem dX9_signHere_122 : decode cX9_signHere 122 = .ok (.iconst 0, 1) := by decide +kernel
theorem dX9_signHere_123 : decode cX9_signHere 123 = .ok (.ireturn, 1) := by decide +kernel
theorem dX9_takesPart_0 : decode cX9_takesPart 0 = .ok (.aload_n 0, 1) := by decide +kernel
theorem dX9_takesPart_1 : decode cX9_takesPart 1 = .ok (.getfield 241, 3) := by decide +kernel
theorem dX9_takesPart_4 : decode cX9_takesPart 4 = .ok (.iconst 1, 1) := by decide +kernel
theorem dX9_takesPart_5 : decode cX9_takesPart 5 = .ok (.if_icmp .ne 31, 3) := by decide +kernel
theorem dX9_takesPart_8 : decode cX9_takesPart 8 = .ok (.aload_n 0, 1) := by decide +kernel
theorem dX9_takesPart_9 : decode cX9_takesPart 9 = .ok (.getfield 232, 3) := by decide +kernel
theorem dX9_takesPart_12 : decode cX9_takesPart 12 = .ok (.aload_n 0, 1) := by decide +kernel
theorem dX9_takesPart_13 : decode cX9_takesPart 13 = .ok (.getfield 235, 3) := by decide +kernel
theorem dX9_takesPart_16 : decode cX9_takesPart 16 = .ok (.isub, 1) := by decide +kernel
theorem dX9_takesPart_17 : decode cX9_takesPart 17 = .ok (.iconst 1, 1) := by decide +kernel
theorem dX9_takesPart_18 : decode cX9_takesPart 18 = .ok (.if_icmp .ne 18, 3) := by decide +kernel
theorem dX9_takesPart_21 : decode cX9_takesPart 21 = .ok (.aload_n 0, 1) := by decide +kernel
theorem dX9_takesPart_22 : decode cX9_takesPart 22 = .ok (.aload_n 0, 1) := by decide +kernel
theorem dX9_takesPart_23 : decode cX9_takesPart 23 = .ok (.getfield 247, 3) := by decide +kernel
theorem dX9_takesPart_26 : decode cX9_takesPart 26 = .ok (.invokevirtual 268, 3) := by decide +kernel
theorem dX9_takesPart_29 : decode cX9_takesPart 29 = .ok (.ifCond .lt 7, 3) := by decide +kernel
theorem dX9_takesPart_32 : decode cX9_takesPart 32 = .ok (.iconst 1, 1) := by decide +kernel
theorem dX9_takesPart_33 : decode cX9_takesPart 33 = .ok (.goto 4, 3) := by decide +kernel
theorem dX9_takesPart_36 : decode cX9_takesPart 36 = .ok (.iconst 0, 1) := by decide +kernel
theorem dX9_takesPart_37 : decode cX9_takesPart 37 = .ok (.istore_n 1, 1) := by decide +kernel
theorem dX9_takesPart_38 : decode cX9_takesPart 38 = .ok (.aload_n 0, 1) := by decide +kernel
theorem dX9_takesPart_39 : decode cX9_takesPart 39 = .ok (.getfield 241, 3) := by decide +kernel
theorem dX9_takesPart_42 : decode cX9_takesPart 42 = .ok (.iconst 2, 1) := by decide +kernel
theorem dX9_takesPart_43 : decode cX9_takesPart 43 = .ok (.if_icmp .eq 9, 3) := by decide +kernel
theorem dX9_takesPart_46 : decode cX9_takesPart 46 = .ok (.iload_n 1, 1) := by decide +kernel
theorem dX9_takesPart_47 : decode cX9_takesPart 47 = .ok (.ifCond .ne 5, 3) := by decide +kernel
theorem dX9_takesPart_50 : decode cX9_takesPart 50 = .ok (.iconst 0, 1) := by decide +kernel
theorem dX9_takesPart_51 : decode cX9_takesPart 51 = .ok (.ireturn, 1) := by decide +kernel
theorem dX9_takesPart_52 : decode cX9_takesPart 52 = .ok (.aload_n 0, 1) := by decide +kernel
theorem dX9_takesPart_53 : decode cX9_takesPart 53 = .ok (.getfield 60, 3) := by decide +kernel
theorem dX9_takesPart_56 : decode cX9_takesPart 56 = .ok (.aload_n 0, 1) := by decide +kernel
theorem dX9_takesPart_57 : decode cX9_takesPart 57 = .ok (.getfield 265, 3) := by decide +kernel
theorem dX9_takesPart_60 : decode cX9_takesPart 60 = .ok (.aload_n 0, 1) := by decide +kernel
theorem dX9_takesPart_61 : decode cX9_takesPart 61 = .ok (.getfield 241, 3) := by decide +kernel
theorem dX9_takesPart_64 : decode cX9_takesPart 64 = .ok (.iconst 2, 1) := by decide +kernel
theorem dX9_takesPart_65 : decode cX9_takesPart 65 = .ok (.if_icmp .ne 10, 3) := by decide +kernel
theorem dX9_takesPart_68 : decode cX9_takesPart 68 = .ok (.aload_n 0, 1) := by decide +kernel
theorem dX9_takesPart_69 : decode cX9_takesPart 69 = .ok (.getfield 247, 3) := by decide +kernel
theorem dX9_takesPart_72 : decode cX9_takesPart 72 = .ok (.goto 15, 3) := by decide +kernel
theorem dX9_takesPart_75 : decode cX9_takesPart 75 = .ok (.sipush 10000, 3) := by decide +kernel
theorem dX9_takesPart_78 : decode cX9_takesPart 78 = .ok (.aload_n 0, 1) := by decide +kernel
theorem dX9_takesPart_79 : decode cX9_takesPart 79 = .ok (.aload_n 0, 1) := by decide +kernel
theorem dX9_takesPart_80 : decode cX9_takesPart 80 = .ok (.getfield 247, 3) := by decide +kernel
theorem dX9_takesPart_83 : decode cX9_takesPart 83 = .ok (.invokevirtual 268, 3) := by decide +kernel
theorem dX9_takesPart_86 : decode cX9_takesPart 86 = .ok (.iadd, 1) := by decide +kernel
theorem dX9_takesPart_87 : decode cX9_takesPart 87 = .ok (.iastore, 1) := by decide +kernel
theorem dX9_takesPart_88 : decode cX9_takesPart 88 = .ok (.aload_n 0, 1) := by decide +kernel
theorem dX9_takesPart_89 : decode cX9_takesPart 89 = .ok (.dup, 1) := by decide +kernel
theorem dX9_takesPart_90 : decode cX9_takesPart 90 = .ok (.getfield 265, 3) := by decide +kernel
theorem dX9_takesPart_93 : decode cX9_takesPart 93 = .ok (.iconst 1, 1) := by decide +kernel
theorem dX9_takesPart_94 : decode cX9_takesPart 94 = .ok (.iadd, 1) := by decide +kernel
theorem dX9_takesPart_95 : decode cX9_takesPart 95 = .ok (.putfield 265, 3) := by decide +kernel
theorem dX9_takesPart_98 : decode cX9_takesPart 98 = .ok (.aload_n 0, 1) := by decide +kernel
theorem dX9_takesPart_99 : decode cX9_takesPart 99 = .ok (.dup, 1) := by decide +kernel
theorem dX9_takesPart_100 : decode cX9_takesPart 100 = .ok (.getfield 271, 3) := by decide +kernel
theorem dX9_takesPart_103 : decode cX9_takesPart 103 = .ok (.iconst 1, 1) := by decide +kernel
theorem dX9_takesPart_104 : decode cX9_takesPart 104 = .ok (.iadd, 1) := by decide +kernel
theorem dX9_takesPart_105 : decode cX9_takesPart 105 = .ok (.putfield 271, 3) := by decide +kernel
theorem dX9_takesPart_108 : decode cX9_takesPart 108 = .ok (.aload_n 0, 1) := by decide +kernel
theorem dX9_takesPart_109 : decode cX9_takesPart 109 = .ok (.bipush 6, 2) := by decide +kernel
theorem dX9_takesPart_111 : decode cX9_takesPart 111 = .ok (.invokevirtual 274, 3) := by decide +kernel
theorem dX9_takesPart_114 : decode cX9_takesPart 114 = .ok (.aload_n 0, 1) := by decide +kernel
theorem dX9_takesPart_115 : decode cX9_takesPart 115 = .ok (.invokevirtual 256, 3) := by decide +kernel
theorem dX9_takesPart_118 : decode cX9_takesPart 118 = .ok (.iconst 1, 1) := by decide +kernel
theorem dX9_takesPart_119 : decode cX9_takesPart 119 = .ok (.ireturn, 1) := by decide +kernel
theorem dX9_takesE_0 : decode cX9_takesE 0 = .ok (.iconst 0, 1) := by decide +kernel
theorem dX9_takesE_1 : decode cX9_takesE 1 = .ok (.istore_n 1, 1) := by decide +kernel
theorem dX9_takesE_2 : decode cX9_takesE 2 = .ok (.iconst 0, 1) := by decide +kernel
theorem dX9_takesE_3 : decode cX9_takesE 3 = .ok (.istore_n 2, 1) := by decide +kernel
theorem dX9_takesE_4 : decode cX9_takesE 4 = .ok (.iconst 1, 1) := by decide +kernel
theorem dX9_takesE_5 : decode cX9_takesE 5 = .ok (.istore_n 3, 1) := by decide +kernel
theorem dX9_takesE_6 : decode cX9_takesE 6 = .ok (.aload_n 0, 1) := by decide +kernel
theorem dX9_takesE_7 : decode cX9_takesE 7 = .ok (.iconst 0, 1) := by decide +kernel
theorem dX9_takesE_8 : decode cX9_takesE 8 = .ok (.putfield 265, 3) := by decide +kernel
theorem dX9_takesE_11 : decode cX9_takesE 11 = .ok (.aload_n 0, 1) := by decide +kernel
theorem dX9_takesE_12 : decode cX9_takesE 12 = .ok (.iconst 0, 1) := by decide +kernel
theorem dX9_takesE_13 : decode cX9_takesE 13 = .ok (.putfield 271, 3) := by decide +kernel
theorem dX9_takesE_16 : decode cX9_takesE 16 = .ok (.aload_n 0, 1) := by decide +kernel
theorem dX9_takesE_17 : decode cX9_takesE 17 = .ok (.iconst 0, 1) := by decide +kernel
theorem dX9_takesE_18 : decode cX9_takesE 18 = .ok (.putfield 259, 3) := by decide +kernel
theorem dX9_takesE_21 : decode cX9_takesE 21 = .ok (.aload_n 0, 1) := by decide +kernel
theorem dX9_takesE_22 : decode cX9_takesE 22 = .ok (.getfield 66, 3) := by decide +kernel
theorem dX9_takesE_25 : decode cX9_takesE 25 = .ok (.iconst 0, 1) := by decide +kernel
theorem dX9_takesE_26 : decode cX9_takesE 26 = .ok (.iconst 0, 1) := by decide +kernel
theorem dX9_takesE_27 : decode cX9_takesE 27 = .ok (.bastore, 1) := by decide +kernel
theorem dX9_takesE_28 : decode cX9_takesE 28 = .ok (.iload_n 3, 1) := by decide +kernel
theorem dX9_takesE_29 : decode cX9_takesE 29 = .ok (.ifCond .ne 10, 3) := by decide +kernel
theorem dX9_takesE_32 : decode cX9_takesE 32 = .ok (.aload_n 0, 1) := by decide +kernel
theorem dX9_takesE_33 : decode cX9_takesE 33 = .ok (.getfield 241, 3) := by decide +kernel
theorem dX9_takesE_36 : decode cX9_takesE 36 = .ok (.ifCond .eq 309, 3) := by decide +kernel
theorem dX9_takesE_39 : decode cX9_takesE 39 = .ok (.iload_n 3, 1) := by decide +kernel
theorem dX9_takesE_40 : decode cX9_takesE 40 = .ok (.ifCond .eq 140, 3) := by decide +kernel
theorem dX9_takesE_43 : decode cX9_takesE 43 = .ok (.aload_n 0, 1) := by decide +kernel
theorem dX9_takesE_44 : decode cX9_takesE 44 = .ok (.getfield 241, 3) := by decide +kernel
theorem dX9_takesE_47 : decode cX9_takesE 47 = .ok (.iconst 3, 1) := by decide +kernel
theorem dX9_takesE_48 : decode cX9_takesE 48 = .ok (.if_icmp .ne 49, 3) := by decide +kernel
theorem dX9_takesE_51 : decode cX9_takesE 51 = .ok (.aload_n 0, 1) := by decide +kernel
theorem dX9_takesE_52 : decode cX9_takesE 52 = .ok (.getfield 247, 3) := by decide +kernel
theorem dX9_takesE_55 : decode cX9_takesE 55 = .ok (.bipush 33, 2) := by decide +kernel
theorem dX9_takesE_57 : decode cX9_takesE 57 = .ok (.if_icmp .ne 40, 3) := by decide +kernel
theorem dX9_takesE_60 : decode cX9_takesE 60 = .ok (.iload_n 2, 1) := by decide +kernel
theorem dX9_takesE_61 : decode cX9_takesE 61 = .ok (.bipush 8, 2) := by decide +kernel
theorem dX9_takesE_63 : decode cX9_takesE 63 = .ok (.if_icmp .ge 34, 3) := by decide +kernel
theorem dX9_takesE_66 : decode cX9_takesE 66 = .ok (.aload_n 0, 1) := by decide +kernel
theorem dX9_takesE_67 : decode cX9_takesE 67 = .ok (.getfield 63, 3) := by decide +kernel
theorem dX9_takesE_70 : decode cX9_takesE 70 = .ok (.aload_n 0, 1) := by decide +kernel
theorem dX9_takesE_71 : decode cX9_takesE 71 = .ok (.getfield 259, 3) := by decide +kernel
theorem dX9_takesE_74 : decode cX9_takesE 74 = .ok (.bipush (-10), 2) := by decide +kernel
theorem dX9_takesE_76 : decode cX9_takesE 76 = .ok (.iastore, 1) := by decide +kernel
theorem dX9_takesE_77 : decode cX9_takesE 77 = .ok (.aload_n 0, 1) := by decide +kernel
theorem dX9_takesE_78 : decode cX9_takesE 78 = .ok (.dup, 1) := by decide +kernel
theorem dX9_takesE_79 : decode cX9_takesE 79 = .ok (.getfield 259, 3) := by decide +kernel
theorem dX9_takesE_82 : decode cX9_takesE 82 = .ok (.iconst 1, 1) := by decide +kernel
theorem dX9_takesE_83 : decode cX9_takesE 83 = .ok (.iadd, 1) := by decide +kernel
theorem dX9_takesE_84 : decode cX9_takesE 84 = .ok (.putfield 259, 3) := by decide +kernel
theorem dX9_takesE_87 : decode cX9_takesE 87 = .ok (.iinc 2 1, 3) := by decide +kernel
theorem dX9_takesE_90 : decode cX9_takesE 90 = .ok (.aload_n 0, 1) := by decide +kernel
theorem dX9_takesE_91 : decode cX9_takesE 91 = .ok (.invokevirtual 256, 3) := by decide +kernel
theorem dX9_takesE_94 : decode cX9_takesE 94 = .ok (.goto 78, 3) := by decide +kernel
theorem dX9_takesE_97 : decode cX9_takesE 97 = .ok (.aload_n 0, 1) := by decide +kernel
theorem dX9_takesE_98 : decode cX9_takesE 98 = .ok (.getfield 241, 3) := by decide +kernel
theorem dX9_takesE_101 : decode cX9_takesE 101 = .ok (.iconst 3, 1) := by decide +kernel
theorem dX9_takesE_102 : decode cX9_takesE 102 = .ok (.if_icmp .ne 56, 3) := by decide +kernel
theorem dX9_takesE_105 : decode cX9_takesE 105 = .ok (.aload_n 0, 1) := by decide +kernel
theorem dX9_takesE_106 : decode cX9_takesE 106 = .ok (.getfield 247, 3) := by decide +kernel
theorem dX9_takesE_109 : decode cX9_takesE 109 = .ok (.bipush 40, 2) := by decide +kernel
theorem dX9_takesE_111 : decode cX9_takesE 111 = .ok (.if_icmp .ne 47, 3) := by decide +kernel
theorem dX9_takesE_114 : decode cX9_takesE 114 = .ok (.iload_n 1, 1) := by decide +kernel
theorem dX9_takesE_115 : decode cX9_takesE 115 = .ok (.bipush 8, 2) := by decide +kernel
theorem dX9_takesE_117 : decode cX9_takesE 117 = .ok (.if_icmp .ge 41, 3) := by decide +kernel
theorem dX9_takesE_120 : decode cX9_takesE 120 = .ok (.aload_n 0, 1) := by decide +kernel
theorem dX9_takesE_121 : decode cX9_takesE 121 = .ok (.getfield 63, 3) := by decide +kernel
theorem dX9_takesE_124 : decode cX9_takesE 124 = .ok (.aload_n 0, 1) := by decide +kernel
theorem dX9_takesE_125 : decode cX9_takesE 125 = .ok (.getfield 259, 3) := by decide +kernel
theorem dX9_takesE_128 : decode cX9_takesE 128 = .ok (.bipush (-11), 2) := by decide +kernel
theorem dX9_takesE_130 : decode cX9_takesE 130 = .ok (.iastore, 1) := by decide +kernel
theorem dX9_takesE_131 : decode cX9_takesE 131 = .ok (.aload_n 0, 1) := by decide +kernel
theorem dX9_takesE_132 : decode cX9_takesE 132 = .ok (.dup, 1) := by decide +kernel
theorem dX9_takesE_133 : decode cX9_takesE 133 = .ok (.getfield 259, 3) := by decide +kernel
theorem dX9_takesE_136 : decode cX9_takesE 136 = .ok (.iconst 1, 1) := by decide +kernel
theorem dX9_takesE_137 : decode cX9_takesE 137 = .ok (.iadd, 1) := by decide +kernel
theorem dX9_takesE_138 : decode cX9_takesE 138 = .ok (.putfield 259, 3) := by decide +kernel
theorem dX9_takesE_141 : decode cX9_takesE 141 = .ok (.iinc 1 1, 3) := by decide +kernel
theorem dX9_takesE_144 : decode cX9_takesE 144 = .ok (.aload_n 0, 1) := by decide +kernel
theorem dX9_takesE_145 : decode cX9_takesE 145 = .ok (.getfield 66, 3) := by decide +kernel
theorem dX9_takesE_148 : decode cX9_takesE 148 = .ok (.iload_n 1, 1) := by decide +kernel
theorem dX9_takesE_149 : decode cX9_takesE 149 = .ok (.iconst 0, 1) := by decide +kernel
theorem dX9_takesE_150 : decode cX9_takesE 150 = .ok (.bastore, 1) := by decide +kernel
theorem dX9_takesE_151 : decode cX9_takesE 151 = .ok (.aload_n 0, 1) := by decide +kernel
theorem dX9_takesE_152 : decode cX9_takesE 152 = .ok (.invokevirtual 256, 3) := by decide +kernel
theorem dX9_takesE_155 : decode cX9_takesE 155 = .ok (.goto 17, 3) := by decide +kernel
theorem dX9_takesE_158 : decode cX9_takesE 158 = .ok (.aload_n 0, 1) := by decide +kernel
theorem dX9_takesE_159 : decode cX9_takesE 159 = .ok (.invokevirtual 277, 3) := by decide +kernel
theorem dX9_takesE_162 : decode cX9_takesE 162 = .ok (.ifCond .eq 8, 3) := by decide +kernel
theorem dX9_takesE_165 : decode cX9_takesE 165 = .ok (.iconst 0, 1) := by decide +kernel
theorem dX9_takesE_166 : decode cX9_takesE 166 = .ok (.istore_n 3, 1) := by decide +kernel
theorem dX9_takesE_167 : decode cX9_takesE 167 = .ok (.goto 5, 3) := by decide +kernel
theorem dX9_takesE_170 : decode cX9_takesE 170 = .ok (.iconst 0, 1) := by decide +kernel
theorem dX9_takesE_171 : decode cX9_takesE 171 = .ok (.ireturn, 1) := by decide +kernel
theorem dX9_takesE_172 : decode cX9_takesE 172 = .ok (.aload_n 0, 1) := by decide +kernel
theorem dX9_takesE_173 : decode cX9_takesE 173 = .ok (.invokevirtual 281, 3) := by decide +kernel
theorem dX9_takesE_176 : decode cX9_takesE 176 = .ok (.istore_n 2, 1) := by decide +kernel
theorem dX9_takesE_177 : decode cX9_takesE 177 = .ok (.goto (-149), 3) := by decide +kernel
theorem dX9_takesE_180 : decode cX9_takesE 180 = .ok (.aload_n 0, 1) := by decide +kernel
theorem dX9_takesE_181 : decode cX9_takesE 181 = .ok (.getfield 241, 3) := by decide +kernel
theorem dX9_takesE_184 : decode cX9_takesE 184 = .ok (.iconst 3, 1) := by decide +kernel
theorem dX9_takesE_185 : decode cX9_takesE 185 = .ok (.if_icmp .ne 52, 3) := by decide +kernel
theorem dX9_takesE_188 : decode cX9_takesE 188 = .ok (.aload_n 0, 1) := by decide +kernel
theorem dX9_takesE_189 : decode cX9_takesE 189 = .ok (.getfield 247, 3) := by decide +kernel
theorem dX9_takesE_192 : decode cX9_takesE 192 = .ok (.bipush 41, 2) := by decide +kernel
theorem dX9_takesE_194 : decode cX9_takesE 194 = .ok (.if_icmp .ne 43, 3) := by decide +kernel
theorem dX9_takesE_197 : decode cX9_takesE 197 = .ok (.iload_n 1, 1) := by decide +kernel
theorem dX9_takesE_198 : decode cX9_takesE 198 = .ok (.ifCond .le 39, 3) := by decide +kernel
theorem dX9_takesE_201 : decode cX9_takesE 201 = .ok (.aload_n 0, 1) := by decide +kernel
theorem dX9_takesE_202 : decode cX9_takesE 202 = .ok (.iconst 0, 1) := by decide +kernel
theorem dX9_takesE_203 : decode cX9_takesE 203 = .ok (.invokevirtual 274, 3) := by decide +kernel
theorem dX9_takesE_206 : decode cX9_takesE 206 = .ok (.aload_n 0, 1) := by decide +kernel
theorem dX9_takesE_207 : decode cX9_takesE 207 = .ok (.dup, 1) := by decide +kernel
theorem dX9_takesE_208 : decode cX9_takesE 208 = .ok (.getfield 259, 3) := by decide +kernel
theorem dX9_takesE_211 : decode cX9_takesE 211 = .ok (.iconst 1, 1) := by decide +kernel
theorem dX9_takesE_212 : decode cX9_takesE 212 = .ok (.isub, 1) := by decide +kernel
theorem dX9_takesE_213 : decode cX9_takesE 213 = .ok (.putfield 259, 3) := by decide +kernel
theorem dX9_takesE_216 : decode cX9_takesE 216 = .ok (.iinc 1 (-1), 3) := by decide +kernel
theorem dX9_takesE_219 : decode cX9_takesE 219 = .ok (.aload_n 0, 1) := by decide +kernel
theorem dX9_takesE_220 : decode cX9_takesE 220 = .ok (.bipush 6, 2) := by decide +kernel
theorem dX9_takesE_222 : decode cX9_takesE 222 = .ok (.invokevirtual 274, 3) := by decide +kernel
theorem dX9_takesE_225 : decode cX9_takesE 225 = .ok (.aload_n 0, 1) := by decide +kernel
theorem dX9_takesE_226 : decode cX9_takesE 226 = .ok (.invokevirtual 281, 3) := by decide +kernel
theorem dX9_takesE_229 : decode cX9_takesE 229 = .ok (.istore_n 2, 1) := by decide +kernel
theorem dX9_takesE_230 : decode cX9_takesE 230 = .ok (.aload_n 0, 1) := by decide +kernel
theorem dX9_takesE_231 : decode cX9_takesE 231 = .ok (.invokevirtual 256, 3) := by decide +kernel
theorem dX9_takesE_234 : decode cX9_takesE 234 = .ok (.goto (-206), 3) := by decide +kernel
theorem dX9_takesE_237 : decode cX9_takesE 237 = .ok (.aload_n 0, 1) := by decide +kernel
theorem dX9_takesE_238 : decode cX9_takesE 238 = .ok (.invokevirtual 284, 3) := by decide +kernel
theorem dX9_takesE_241 : decode cX9_takesE 241 = .ok (.istore 4, 2) := by decide +kernel
theorem dX9_takesE_243 : decode cX9_takesE 243 = .ok (.iload 4, 2) := by decide +kernel
theorem dX9_takesE_245 : decode cX9_takesE 245 = .ok (.ifCond .eq 21, 3) := by decide +kernel
theorem dX9_takesE_248 : decode cX9_takesE 248 = .ok (.iload 4, 2) := by decide +kernel
theorem dX9_takesE_250 : decode cX9_takesE 250 = .ok (.invokestatic 262, 3) := by decide +kernel
theorem dX9_takesE_253 : decode cX9_takesE 253 = .ok (.iconst 3, 1) := by decide +kernel
theorem dX9_takesE_254 : decode cX9_takesE 254 = .ok (.if_icmp .ne 14, 3) := by decide +kernel
theorem dX9_takesE_257 : decode cX9_takesE 257 = .ok (.aload_n 0, 1) := by decide +kernel
theorem dX9_takesE_258 : decode cX9_takesE 258 = .ok (.getfield 66, 3) := by decide +kernel
theorem dX9_takesE_261 : decode cX9_takesE 261 = .ok (.iload_n 1, 1) := by decide +kernel
theorem dX9_takesE_262 : decode cX9_takesE 262 = .ok (.baload, 1) := by decide +kernel
theorem dX9_takesE_263 : decode cX9_takesE 263 = .ok (.ifCond .eq 5, 3) := by decide +kernel
theorem dX9_takesE_266 : decode cX9_takesE 266 = .ok (.iconst 0, 1) := by decide +kernel
theorem dX9_takesE_267 : decode cX9_takesE 267 = .ok (.ireturn, 1) := by decide +kernel
theorem dX9_takesE_268 : decode cX9_takesE 268 = .ok (.aload_n 0, 1) := by decide +kernel
theorem dX9_takesE_269 : decode cX9_takesE 269 = .ok (.getfield 66, 3) := by decide +kernel
theorem dX9_takesE_272 : decode cX9_takesE 272 = .ok (.iload_n 1, 1) := by decide +kernel
theorem dX9_takesE_273 : decode cX9_takesE 273 = .ok (.iload 4, 2) := by decide +kernel
theorem dX9_takesE_275 : decode cX9_takesE 275 = .ok (.invokestatic 262, 3) := by decide +kernel
theorem dX9_takesE_278 : decode cX9_takesE 278 = .ok (.iconst 3, 1) := by decide +kernel
theorem dX9_takesE_279 : decode cX9_takesE 279 = .ok (.if_icmp .eq 21, 3) := by decide +kernel
theorem dX9_takesE_282 : decode cX9_takesE 282 = .ok (.iload 4, 2) := by decide +kernel
theorem dX9_takesE_284 : decode cX9_takesE 284 = .ok (.invokestatic 262, 3) := by decide +kernel
theorem dX9_takesE_287 : decode cX9_takesE 287 = .ok (.iconst 3, 1) := by decide +kernel
theorem dX9_takesE_288 : decode cX9_takesE 288 = .ok (.if_icmp .le 16, 3) := by decide +kernel
theorem dX9_takesE_291 : decode cX9_takesE 291 = .ok (.aload_n 0, 1) := by decide +kernel
theorem dX9_takesE_292 : decode cX9_takesE 292 = .ok (.getfield 66, 3) := by decide +kernel
theorem dX9_takesE_295 : decode cX9_takesE 295 = .ok (.iload_n 1, 1) := by decide +kernel
theorem dX9_takesE_296 : decode cX9_takesE 296 = .ok (.baload, 1) := by decide +kernel
theorem dX9_takesE_297 : decode cX9_takesE 297 = .ok (.ifCond .eq 7, 3) := by decide +kernel
theorem dX9_takesE_300 : decode cX9_takesE 300 = .ok (.iconst 1, 1) := by decide +kernel
theorem dX9_takesE_301 : decode cX9_takesE 301 = .ok (.goto 4, 3) := by decide +kernel
theorem dX9_takesE_304 : decode cX9_takesE 304 = .ok (.iconst 0, 1) := by decide +kernel
theorem dX9_takesE_305 : decode cX9_takesE 305 = .ok (.bastore, 1) := by decide +kernel
theorem dX9_takesE_306 : decode cX9_takesE 306 = .ok (.aload_n 0, 1) := by decide +kernel
theorem dX9_takesE_307 : decode cX9_takesE 307 = .ok (.iload 4, 2) := by decide +kernel
theorem dX9_takesE_309 : decode cX9_takesE 309 = .ok (.invokestatic 262, 3) := by decide +kernel
theorem dX9_takesE_312 : decode cX9_takesE 312 = .ok (.invokevirtual 274, 3) := by decide +kernel
theorem dX9_takesE_315 : decode cX9_takesE 315 = .ok (.aload_n 0, 1) := by decide +kernel
theorem dX9_takesE_316 : decode cX9_takesE 316 = .ok (.getfield 63, 3) := by decide +kernel
theorem dX9_takesE_319 : decode cX9_takesE 319 = .ok (.aload_n 0, 1) := by decide +kernel
theorem dX9_takesE_320 : decode cX9_takesE 320 = .ok (.getfield 259, 3) := by decide +kernel
theorem dX9_takesE_323 : decode cX9_takesE 323 = .ok (.iload 4, 2) := by decide +kernel
theorem dX9_takesE_325 : decode cX9_takesE 325 = .ok (.iastore, 1) := by decide +kernel
theorem dX9_takesE_326 : decode cX9_takesE 326 = .ok (.aload_n 0, 1) := by decide +kernel
theorem dX9_takesE_327 : decode cX9_takesE 327 = .ok (.dup, 1) := by decide +kernel
theorem dX9_takesE_328 : decode cX9_takesE 328 = .ok (.getfield 259, 3) := by decide +kernel
theorem dX9_takesE_331 : decode cX9_takesE 331 = .ok (.iconst 1, 1) := by decide +kernel
theorem dX9_takesE_332 : decode cX9_takesE 332 = .ok (.iadd, 1) := by decide +kernel
theorem dX9_takesE_333 : decode cX9_takesE 333 = .ok (.putfield 259, 3) := by decide +kernel
theorem dX9_takesE_336 : decode cX9_takesE 336 = .ok (.iconst 1, 1) := by decide +kernel
theorem dX9_takesE_337 : decode cX9_takesE 337 = .ok (.istore_n 3, 1) := by decide +kernel
theorem dX9_takesE_338 : decode cX9_takesE 338 = .ok (.aload_n 0, 1) := by decide +kernel
theorem dX9_takesE_339 : decode cX9_takesE 339 = .ok (.invokevirtual 256, 3) := by decide +kernel
theorem dX9_takesE_342 : decode cX9_takesE 342 = .ok (.goto (-314), 3) := by decide +kernel
theorem dX9_takesE_345 : decode cX9_takesE 345 = .ok (.aload_n 0, 1) := by decide +kernel
theorem dX9_takesE_346 : decode cX9_takesE 346 = .ok (.iconst 0, 1) := by decide +kernel
theorem dX9_takesE_347 : decode cX9_takesE 347 = .ok (.invokevirtual 274, 3) := by decide +kernel
theorem dX9_takesE_350 : decode cX9_takesE 350 = .ok (.iload_n 1, 1) := by decide +kernel
theorem dX9_takesE_351 : decode cX9_takesE 351 = .ok (.ifCond .ne 7, 3) := by decide +kernel
theorem dX9_takesE_354 : decode cX9_takesE 354 = .ok (.iconst 1, 1) := by decide +kernel
theorem dX9_takesE_355 : decode cX9_takesE 355 = .ok (.goto 4, 3) := by decide +kernel
theorem dX9_takesE_358 : decode cX9_takesE 358 = .ok (.iconst 0, 1) := by decide +kernel
theorem dX9_takesE_359 : decode cX9_takesE 359 = .ok (.ireturn, 1) := by decide +kernel
theorem dX9_notsOpen_0 : decode cX9_notsOpen 0 = .ok (.iconst 0, 1) := by decide +kernel
theorem dX9_notsOpen_1 : decode cX9_notsOpen 1 = .ok (.istore_n 1, 1) := by decide +kernel
theorem dX9_notsOpen_2 : decode cX9_notsOpen 2 = .ok (.iconst 0, 1) := by decide +kernel
theorem dX9_notsOpen_3 : decode cX9_notsOpen 3 = .ok (.istore_n 2, 1) := by decide +kernel
theorem dX9_notsOpen_4 : decode cX9_notsOpen 4 = .ok (.iload_n 2, 1) := by decide +kernel
theorem dX9_notsOpen_5 : decode cX9_notsOpen 5 = .ok (.aload_n 0, 1) := by decide +kernel
theorem dX9_notsOpen_6 : decode cX9_notsOpen 6 = .ok (.getfield 259, 3) := by decide +kernel
theorem dX9_notsOpen_9 : decode cX9_notsOpen 9 = .ok (.if_icmp .ge 28, 3) := by decide +kernel
theorem dX9_notsOpen_12 : decode cX9_notsOpen 12 = .ok (.iload_n 1, 1) := by decide +kernel
theorem dX9_notsOpen_13 : decode cX9_notsOpen 13 = .ok (.aload_n 0, 1) := by decide +kernel
theorem dX9_notsOpen_14 : decode cX9_notsOpen 14 = .ok (.getfield 63, 3) := by decide +kernel
theorem dX9_notsOpen_17 : decode cX9_notsOpen 17 = .ok (.iload_n 2, 1) := by decide +kernel
theorem dX9_notsOpen_18 : decode cX9_notsOpen 18 = .ok (.iaload, 1) := by decide +kernel
theorem dX9_notsOpen_19 : decode cX9_notsOpen 19 = .ok (.bipush (-10), 2) := by decide +kernel
theorem dX9_notsOpen_21 : decode cX9_notsOpen 21 = .ok (.if_icmp .ne 7, 3) := by decide +kernel
theorem dX9_notsOpen_24 : decode cX9_notsOpen 24 = .ok (.iconst 1, 1) := by decide +kernel
theorem dX9_notsOpen_25 : decode cX9_notsOpen 25 = .ok (.goto 4, 3) := by decide +kernel
theorem dX9_notsOpen_28 : decode cX9_notsOpen 28 = .ok (.iconst 0, 1) := by decide +kernel
theorem dX9_notsOpen_29 : decode cX9_notsOpen 29 = .ok (.iadd, 1) := by decide +kernel
theorem dX9_notsOpen_30 : decode cX9_notsOpen 30 = .ok (.istore_n 1, 1) := by decide +kernel
theorem dX9_notsOpen_31 : decode cX9_notsOpen 31 = .ok (.iinc 2 1, 3) := by decide +kernel
theorem dX9_notsOpen_34 : decode cX9_notsOpen 34 = .ok (.goto (-30), 3) := by decide +kernel
theorem dX9_notsOpen_37 : decode cX9_notsOpen 37 = .ok (.iload_n 1, 1) := by decide +kernel
theorem dX9_notsOpen_38 : decode cX9_notsOpen 38 = .ok (.ireturn, 1) := by decide +kernel
theorem dX9_text_0 : decode cX9_text 0 = .ok (.aload_n 0, 1) := by decide +kernel
theorem dX9_text_1 : decode cX9_text 1 = .ok (.iconst 0, 1) := by decide +kernel
theorem dX9_text_2 : decode cX9_text 2 = .ok (.putfield 232, 3) := by decide +kernel
theorem dX9_text_5 : decode cX9_text 5 = .ok (.aload_n 0, 1) := by decide +kernel
theorem dX9_text_6 : decode cX9_text 6 = .ok (.iconst (-1), 1) := by decide +kernel
theorem dX9_text_7 : decode cX9_text 7 = .ok (.putfield 238, 3) := by decide +kernel
theorem dX9_text_10 : decode cX9_text 10 = .ok (.aload_n 0, 1) := by decide +kernel
theorem dX9_text_11 : decode cX9_text 11 = .ok (.invokevirtual 256, 3) := by decide +kernel
theorem dX9_text_14 : decode cX9_text 14 = .ok (.aload_n 0, 1) := by decide +kernel
theorem dX9_text_15 : decode cX9_text 15 = .ok (.invokevirtual 287, 3) := by decide +kernel
theorem dX9_text_18 : decode cX9_text 18 = .ok (.ifCond .eq 14, 3) := by decide +kernel
theorem dX9_text_21 : decode cX9_text 21 = .ok (.aload_n 0, 1) := by decide +kernel
theorem dX9_text_22 : decode cX9_text 22 = .ok (.invokevirtual 290, 3) := by decide +kernel
theorem dX9_text_25 : decode cX9_text 25 = .ok (.ifCond .eq 7, 3) := by decide +kernel
theorem dX9_text_28 : decode cX9_text 28 = .ok (.iconst 1, 1) := by decide +kernel
theorem dX9_text_29 : decode cX9_text 29 = .ok (.goto 4, 3) := by decide +kernel
theorem dX9_text_32 : decode cX9_text 32 = .ok (.iconst 0, 1) := by decide +kernel
theorem dX9_text_33 : decode cX9_text 33 = .ok (.istore_n 1, 1) := by decide +kernel
theorem dX9_text_34 : decode cX9_text 34 = .ok (.aload_n 0, 1) := by decide +kernel
theorem dX9_text_35 : decode cX9_text 35 = .ok (.iconst 0, 1) := by decide +kernel
theorem dX9_text_36 : decode cX9_text 36 = .ok (.putfield 229, 3) := by decide +kernel
theorem dX9_text_39 : decode cX9_text 39 = .ok (.iload_n 1, 1) := by decide +kernel
theorem dX9_text_40 : decode cX9_text 40 = .ok (.ifCond .ne 11, 3) := by decide +kernel
theorem dX9_text_43 : decode cX9_text 43 = .ok (.bipush (-100), 2) := by decide +kernel
theorem dX9_text_45 : decode cX9_text 45 = .ok (.aload_n 0, 1) := by decide +kernel
theorem dX9_text_46 : decode cX9_text 46 = .ok (.getfield 235, 3) := by decide +kernel
theorem dX9_text_49 : decode cX9_text 49 = .ok (.isub, 1) := by decide +kernel
theorem dX9_text_50 : decode cX9_text 50 = .ok (.ireturn, 1) := by decide +kernel
theorem dX9_text_51 : decode cX9_text 51 = .ok (.aload_n 0, 1) := by decide +kernel
theorem dX9_text_52 : decode cX9_text 52 = .ok (.getfield 9, 3) := by decide +kernel
theorem dX9_text_55 : decode cX9_text 55 = .ok (.bipush 6, 2) := by decide +kernel
theorem dX9_text_57 : decode cX9_text 57 = .ok (.iaload, 1) := by decide +kernel
theorem dX9_text_58 : decode cX9_text 58 = .ok (.bipush 14, 2) := by decide +kernel
theorem dX9_text_60 : decode cX9_text 60 = .ok (.if_icmp .ne 6, 3) := by decide +kernel
theorem dX9_text_63 : decode cX9_text 63 = .ok (.ldc 147, 2) := by decide +kernel
theorem dX9_text_65 : decode cX9_text 65 = .ok (.ireturn, 1) := by decide +kernel
theorem dX9_text_66 : decode cX9_text 66 = .ok (.aload_n 0, 1) := by decide +kernel
theorem dX9_text_67 : decode cX9_text 67 = .ok (.getfield 9, 3) := by decide +kernel
theorem dX9_text_70 : decode cX9_text 70 = .ok (.bipush 6, 2) := by decide +kernel
theorem dX9_text_72 : decode cX9_text 72 = .ok (.iaload, 1) := by decide +kernel
theorem dX9_text_73 : decode cX9_text 73 = .ok (.istore_n 2, 1) := by decide +kernel
theorem dX9_text_74 : decode cX9_text 74 = .ok (.aload_n 0, 1) := by decide +kernel
theorem dX9_text_75 : decode cX9_text 75 = .ok (.getfield 9, 3) := by decide +kernel
theorem dX9_text_78 : decode cX9_text 78 = .ok (.sipush 173, 3) := by decide +kernel
theorem dX9_text_81 : decode cX9_text 81 = .ok (.iconst 2, 1) := by decide +kernel
theorem dX9_text_82 : decode cX9_text 82 = .ok (.iload_n 2, 1) := by decide +kernel
theorem dX9_text_83 : decode cX9_text 83 = .ok (.imul, 1) := by decide +kernel
theorem dX9_text_84 : decode cX9_text 84 = .ok (.iadd, 1) := by decide +kernel
theorem dX9_text_85 : decode cX9_text 85 = .ok (.sipush 1000, 3) := by decide +kernel
theorem dX9_text_88 : decode cX9_text 88 = .ok (.aload_n 0, 1) := by decide +kernel
theorem dX9_text_89 : decode cX9_text 89 = .ok (.getfield 253, 3) := by decide +kernel
theorem dX9_text_92 : decode cX9_text 92 = .ok (.imul, 1) := by decide +kernel
theorem dX9_text_93 : decode cX9_text 93 = .ok (.aload_n 0, 1) := by decide +kernel
theorem dX9_text_94 : decode cX9_text 94 = .ok (.getfield 265, 3) := by decide +kernel
theorem dX9_text_97 : decode cX9_text 97 = .ok (.iadd, 1) := by decide +kernel
theorem dX9_text_98 : decode cX9_text 98 = .ok (.iastore, 1) := by decide +kernel
theorem dX9_text_99 : decode cX9_text 99 = .ok (.aload_n 0, 1) := by decide +kernel
theorem dX9_text_100 : decode cX9_text 100 = .ok (.getfield 9, 3) := by decide +kernel
theorem dX9_text_103 : decode cX9_text 103 = .ok (.sipush 173, 3) := by decide +kernel
theorem dX9_text_106 : decode cX9_text 106 = .ok (.iconst 2, 1) := by decide +kernel
theorem dX9_text_107 : decode cX9_text 107 = .ok (.iload_n 2, 1) := by decide +kernel
theorem dX9_text_108 : decode cX9_text 108 = .ok (.imul, 1) := by decide +kernel
theorem dX9_text_109 : decode cX9_text 109 = .ok (.iadd, 1) := by decide +kernel
theorem dX9_text_110 : decode cX9_text 110 = .ok (.iconst 1, 1) := by decide +kernel
theorem dX9_text_111 : decode cX9_text 111 = .ok (.iadd, 1) := by decide +kernel
theorem dX9_text_112 : decode cX9_text 112 = .ok (.aload_n 0, 1) := by decide +kernel
theorem dX9_text_113 : decode cX9_text 113 = .ok (.getfield 271, 3) := by decide +kernel
theorem dX9_text_116 : decode cX9_text 116 = .ok (.iastore, 1) := by decide +kernel
theorem dX9_text_117 : decode cX9_text 117 = .ok (.iconst 0, 1) := by decide +kernel
theorem dX9_text_118 : decode cX9_text 118 = .ok (.istore_n 3, 1) := by decide +kernel
theorem dX9_text_119 : decode cX9_text 119 = .ok (.iload_n 3, 1) := by decide +kernel
theorem dX9_text_120 : decode cX9_text 120 = .ok (.aload_n 0, 1) := by decide +kernel
theorem dX9_text_121 : decode cX9_text 121 = .ok (.getfield 265, 3) := by decide +kernel
theorem dX9_text_124 : decode cX9_text 124 = .ok (.if_icmp .ge 30, 3) := by decide +kernel
theorem dX9_text_127 : decode cX9_text 127 = .ok (.aload_n 0, 1) := by decide +kernel
theorem dX9_text_128 : decode cX9_text 128 = .ok (.getfield 9, 3) := by decide +kernel
theorem dX9_text_131 : decode cX9_text 131 = .ok (.sipush 201, 3) := by decide +kernel
theorem dX9_text_134 : decode cX9_text 134 = .ok (.bipush 96, 2) := by decide +kernel
theorem dX9_text_136 : decode cX9_text 136 = .ok (.iload_n 2, 1) := by decide +kernel
theorem dX9_text_137 : decode cX9_text 137 = .ok (.imul, 1) := by decide +kernel
theorem dX9_text_138 : decode cX9_text 138 = .ok (.iadd, 1) := by decide +kernel
theorem dX9_text_139 : decode cX9_text 139 = .ok (.iload_n 3, 1) := by decide +kernel
theorem dX9_text_140 : decode cX9_text 140 = .ok (.iadd, 1) := by decide +kernel
theorem dX9_text_141 : decode cX9_text 141 = .ok (.aload_n 0, 1) := by decide +kernel
theorem dX9_text_142 : decode cX9_text 142 = .ok (.getfield 60, 3) := by decide +kernel
theorem dX9_text_145 : decode cX9_text 145 = .ok (.iload_n 3, 1) := by decide +kernel
theorem dX9_text_146 : decode cX9_text 146 = .ok (.iaload, 1) := by decide +kernel
theorem dX9_text_147 : decode cX9_text 147 = .ok (.iastore, 1) := by decide +kernel
theorem dX9_text_148 : decode cX9_text 148 = .ok (.iinc 3 1, 3) := by decide +kernel
theorem dX9_text_151 : decode cX9_text 151 = .ok (.goto (-32), 3) := by decide +kernel
theorem dX9_text_154 : decode cX9_text 154 = .ok (.aload_n 0, 1) := by decide +kernel
theorem dX9_text_155 : decode cX9_text 155 = .ok (.getfield 9, 3) := by decide +kernel
theorem dX9_text_158 : decode cX9_text 158 = .ok (.bipush 6, 2) := by decide +kernel
theorem dX9_text_160 : decode cX9_text 160 = .ok (.dup2, 1) := by decide +kernel
theorem dX9_text_161 : decode cX9_text 161 = .ok (.iaload, 1) := by decide +kernel
theorem dX9_text_162 : decode cX9_text 162 = .ok (.iconst 1, 1) := by decide +kernel
theorem dX9_text_163 : decode cX9_text 163 = .ok (.iadd, 1) := by decide +kernel
theorem dX9_text_164 : decode cX9_text 164 = .ok (.iastore, 1) := by decide +kernel
theorem dX9_text_165 : decode cX9_text 165 = .ok (.aload_n 0, 1) := by decide +kernel
theorem dX9_text_166 : decode cX9_text 166 = .ok (.iconst 0, 1) := by decide +kernel
theorem dX9_text_167 : decode cX9_text 167 = .ok (.putfield 111, 3) := by decide +kernel
theorem dX9_text_170 : decode cX9_text 170 = .ok (.iload_n 2, 1) := by decide +kernel
theorem dX9_text_171 : decode cX9_text 171 = .ok (.ireturn, 1) := by decide +kernel
theorem dX9_textTold_0 : decode cX9_textTold 0 = .ok (.iload_n 1, 1) := by decide +kernel
theorem dX9_textTold_1 : decode cX9_textTold 1 = .ok (.iconst 0, 1) := by decide +kernel
theorem dX9_textTold_2 : decode cX9_textTold 2 = .ok (.aload_n 0, 1) := by decide +kernel
theorem dX9_textTold_3 : decode cX9_textTold 3 = .ok (.getfield 9, 3) := by decide +kernel
theorem dX9_textTold_6 : decode cX9_textTold 6 = .ok (.bipush 6, 2) := by decide +kernel
theorem dX9_textTold_8 : decode cX9_textTold 8 = .ok (.iaload, 1) := by decide +kernel
theorem dX9_textTold_9 : decode cX9_textTold 9 = .ok (.iconst 1, 1) := by decide +kernel
theorem dX9_textTold_10 : decode cX9_textTold 10 = .ok (.isub, 1) := by decide +kernel
theorem dX9_textTold_11 : decode cX9_textTold 11 = .ok (.invokestatic 103, 3) := by decide +kernel
theorem dX9_textTold_14 : decode cX9_textTold 14 = .ok (.ifCond .eq 12, 3) := by decide +kernel
theorem dX9_textTold_17 : decode cX9_textTold 17 = .ok (.iload_n 2, 1) := by decide +kernel
theorem dX9_textTold_18 : decode cX9_textTold 18 = .ok (.iconst 0, 1) := by decide +kernel
theorem dX9_textTold_19 : decode cX9_textTold 19 = .ok (.iconst 1, 1) := by decide +kernel
theorem dX9_textTold_20 : decode cX9_textTold 20 = .ok (.invokestatic 103, 3) := by decide +kernel
theorem dX9_textTold_23 : decode cX9_textTold 23 = .ok (.ifCond .ne 6, 3) := by decide +kernel
theorem dX9_textTold_26 : decode cX9_textTold 26 = .ok (.ldc 146, 2) := by decide +kernel
theorem dX9_textTold_28 : decode cX9_textTold 28 = .ok (.ireturn, 1) := by decide +kernel
theorem dX9_textTold_29 : decode cX9_textTold 29 = .ok (.iload_n 2, 1) := by decide +kernel
theorem dX9_textTold_30 : decode cX9_textTold 30 = .ok (.ifCond .ne 22, 3) := by decide +kernel
theorem dX9_textTold_33 : decode cX9_textTold 33 = .ok (.aload_n 0, 1) := by decide +kernel
theorem dX9_textTold_34 : decode cX9_textTold 34 = .ok (.getfield 9, 3) := by decide +kernel
theorem dX9_textTold_37 : decode cX9_textTold 37 = .ok (.sipush 173, 3) := by decide +kernel
theorem dX9_textTold_40 : decode cX9_textTold 40 = .ok (.iconst 2, 1) := by decide +kernel
theorem dX9_textTold_41 : decode cX9_textTold 41 = .ok (.iload_n 1, 1) := by decide +kernel
theorem dX9_textTold_42 : decode cX9_textTold 42 = .ok (.imul, 1) := by decide +kernel
theorem dX9_textTold_43 : decode cX9_textTold 43 = .ok (.iadd, 1) := by decide +kernel
theorem dX9_textTold_44 : decode cX9_textTold 44 = .ok (.iaload, 1) := by decide +kernel
theorem dX9_textTold_45 : decode cX9_textTold 45 = .ok (.sipush 1000, 3) := by decide +kernel
theorem dX9_textTold_48 : decode cX9_textTold 48 = .ok (.idiv, 1) := by decide +kernel
theorem dX9_textTold_49 : decode cX9_textTold 49 = .ok (.goto 17, 3) := by decide +kernel
theorem dX9_textTold_52 : decode cX9_textTold 52 = .ok (.aload_n 0, 1) := by decide +kernel
theorem dX9_textTold_53 : decode cX9_textTold 53 = .ok (.getfield 9, 3) := by decide +kernel
theorem dX9_textTold_56 : decode cX9_textTold 56 = .ok (.sipush 173, 3) := by decide +kernel
theorem dX9_textTold_59 : decode cX9_textTold 59 = .ok (.iconst 2, 1) := by decide +kernel
theorem dX9_textTold_60 : decode cX9_textTold 60 = .ok (.iload_n 1, 1) := by decide +kernel
theorem dX9_textTold_61 : decode cX9_textTold 61 = .ok (.imul, 1) := by decide +kernel
theorem dX9_textTold_62 : decode cX9_textTold 62 = .ok (.iadd, 1) := by decide +kernel
theorem dX9_textTold_63 : decode cX9_textTold 63 = .ok (.iconst 1, 1) := by decide +kernel
theorem dX9_textTold_64 : decode cX9_textTold 64 = .ok (.iadd, 1) := by decide +kernel
theorem dX9_textTold_65 : decode cX9_textTold 65 = .ok (.iaload, 1) := by decide +kernel
theorem dX9_textTold_66 : decode cX9_textTold 66 = .ok (.ireturn, 1) := by decide +kernel
theorem dX9_counts_0 : decode cX9_counts 0 = .ok (.aload_n 0, 1) := by decide +kernel
theorem dX9_counts_1 : decode cX9_counts 1 = .ok (.getfield 9, 3) := by decide +kernel
theorem dX9_counts_4 : decode cX9_counts 4 = .ok (.bipush 6, 2) := by decide +kernel
theorem dX9_counts_6 : decode cX9_counts 6 = .ok (.iaload, 1) := by decide +kernel
theorem dX9_counts_7 : decode cX9_counts 7 = .ok (.iconst 1, 1) := by decide +kernel
theorem dX9_counts_8 : decode cX9_counts 8 = .ok (.isub, 1) := by decide +kernel
theorem dX9_counts_9 : decode cX9_counts 9 = .ok (.istore_n 2, 1) := by decide +kernel
theorem dX9_counts_10 : decode cX9_counts 10 = .ok (.iload_n 2, 1) := by decide +kernel
theorem dX9_counts_11 : decode cX9_counts 11 = .ok (.ifCond .lt 31, 3) := by decide +kernel
theorem dX9_counts_14 : decode cX9_counts 14 = .ok (.aload_n 0, 1) := by decide +kernel
theorem dX9_counts_15 : decode cX9_counts 15 = .ok (.getfield 9, 3) := by decide +kernel
theorem dX9_counts_18 : decode cX9_counts 18 = .ok (.sipush 173, 3) := by decide +kernel
theorem dX9_counts_21 : decode cX9_counts 21 = .ok (.iconst 2, 1) := by decide +kernel
theorem dX9_counts_22 : decode cX9_counts 22 = .ok (.iload_n 2, 1) := by decide +kernel
theorem dX9_counts_23 : decode cX9_counts 23 = .ok (.imul, 1) := by decide +kernel
theorem dX9_counts_24 : decode cX9_counts 24 = .ok (.iadd, 1) := by decide +kernel
theorem dX9_counts_25 : decode cX9_counts 25 = .ok (.iaload, 1) := by decide +kernel
theorem dX9_counts_26 : decode cX9_counts 26 = .ok (.sipush 1000, 3) := by decide +kernel
theorem dX9_counts_29 : decode cX9_counts 29 = .ok (.idiv, 1) := by decide +kernel
theorem dX9_counts_30 : decode cX9_counts 30 = .ok (.iload_n 1, 1) := by decide +kernel
theorem dX9_counts_31 : decode cX9_counts 31 = .ok (.if_icmp .ne 5, 3) := by decide +kernel
theorem dX9_counts_34 : decode cX9_counts 34 = .ok (.iload_n 2, 1) := by decide +kernel
theorem dX9_counts_35 : decode cX9_counts 35 = .ok (.ireturn, 1) := by decide +kernel
theorem dX9_counts_36 : decode cX9_counts 36 = .ok (.iinc 2 (-1), 3) := by decide +kernel
theorem dX9_counts_39 : decode cX9_counts 39 = .ok (.goto (-29), 3) := by decide +kernel
theorem dX9_counts_42 : decode cX9_counts 42 = .ok (.iconst (-1), 1) := by decide +kernel
theorem dX9_counts_43 : decode cX9_counts 43 = .ok (.ireturn, 1) := by decide +kernel
theorem dX9_why_0 : decode cX9_why 0 = .ok (.iload_n 1, 1) := by decide +kernel
theorem dX9_why_1 : decode cX9_why 1 = .ok (.iconst 0, 1) := by decide +kernel
theorem dX9_why_2 : decode cX9_why 2 = .ok (.iconst 2, 1) := by decide +kernel
theorem dX9_why_3 : decode cX9_why 3 = .ok (.invokestatic 103, 3) := by decide +kernel
theorem dX9_why_6 : decode cX9_why 6 = .ok (.ifCond .ne 6, 3) := by decide +kernel
theorem dX9_why_9 : decode cX9_why 9 = .ok (.ldc 146, 2) := by decide +kernel
theorem dX9_why_11 : decode cX9_why 11 = .ok (.ireturn, 1) := by decide +kernel
theorem dX9_why_12 : decode cX9_why 12 = .ok (.aload_n 0, 1) := by decide +kernel
theorem dX9_why_13 : decode cX9_why 13 = .ok (.iload_n 1, 1) := by decide +kernel
theorem dX9_why_14 : decode cX9_why 14 = .ok (.invokevirtual 116, 3) := by decide +kernel
theorem dX9_why_17 : decode cX9_why 17 = .ok (.istore_n 2, 1) := by decide +kernel
theorem dX9_why_18 : decode cX9_why 18 = .ok (.iload_n 2, 1) := by decide +kernel
theorem dX9_why_19 : decode cX9_why 19 = .ok (.ifCond .ge 8, 3) := by decide +kernel
theorem dX9_why_22 : decode cX9_why 22 = .ok (.ldc 115, 2) := by decide +kernel
theorem dX9_why_24 : decode cX9_why 24 = .ok (.goto 4, 3) := by decide +kernel
theorem dX9_why_27 : decode cX9_why 27 = .ok (.iload_n 2, 1) := by decide +kernel
theorem dX9_why_28 : decode cX9_why 28 = .ok (.ireturn, 1) := by decide +kernel
theorem dX9_two_0 : decode cX9_two 0 = .ok (.iload_n 0, 1) := by decide +kernel
theorem dX9_two_1 : decode cX9_two 1 = .ok (.tableswitch 120 (-8) (-1) #[116, 112, 108, 97, 86, 75, 61, 47], 47) := by decide +kernel
theorem dX9_two_48 : decode cX9_two 48 = .ok (.iload_n 1, 1) := by decide +kernel
theorem dX9_two_49 : decode cX9_two 49 = .ok (.ifCond .ne 7, 3) := by decide +kernel
theorem dX9_two_52 : decode cX9_two 52 = .ok (.iload_n 2, 1) := by decide +kernel
theorem dX9_two_53 : decode cX9_two 53 = .ok (.ifCond .eq 7, 3) := by decide +kernel
theorem dX9_two_56 : decode cX9_two 56 = .ok (.iconst 1, 1) := by decide +kernel
theorem dX9_two_57 : decode cX9_two 57 = .ok (.goto 4, 3) := by decide +kernel
theorem dX9_two_60 : decode cX9_two 60 = .ok (.iconst 0, 1) := by decide +kernel
theorem dX9_two_61 : decode cX9_two 61 = .ok (.ireturn, 1) := by decide +kernel
theorem dX9_two_62 : decode cX9_two 62 = .ok (.iload_n 1, 1) := by decide +kernel
theorem dX9_two_63 : decode cX9_two 63 = .ok (.ifCond .eq 11, 3) := by decide +kernel
theorem dX9_two_66 : decode cX9_two 66 = .ok (.iload_n 2, 1) := by decide +kernel
theorem dX9_two_67 : decode cX9_two 67 = .ok (.ifCond .eq 7, 3) := by decide +kernel
theorem dX9_two_70 : decode cX9_two 70 = .ok (.iconst 1, 1) := by decide +kernel
theorem dX9_two_71 : decode cX9_two 71 = .ok (.goto 4, 3) := by decide +kernel
theorem dX9_two_74 : decode cX9_two 74 = .ok (.iconst 0, 1) := by decide +kernel
theorem dX9_two_75 : decode cX9_two 75 = .ok (.ireturn, 1) := by decide +kernel
theorem dX9_two_76 : decode cX9_two 76 = .ok (.iload_n 1, 1) := by decide +kernel
theorem dX9_two_77 : decode cX9_two 77 = .ok (.iload_n 2, 1) := by decide +kernel
theorem dX9_two_78 : decode cX9_two 78 = .ok (.if_icmp .ge 7, 3) := by decide +kernel
theorem dX9_two_81 : decode cX9_two 81 = .ok (.iconst 1, 1) := by decide +kernel
theorem dX9_two_82 : decode cX9_two 82 = .ok (.goto 4, 3) := by decide +kernel
theorem dX9_two_85 : decode cX9_two 85 = .ok (.iconst 0, 1) := by decide +kernel
theorem dX9_two_86 : decode cX9_two 86 = .ok (.ireturn, 1) := by decide +kernel
theorem dX9_two_87 : decode cX9_two 87 = .ok (.iload_n 1, 1) := by decide +kernel
theorem dX9_two_88 : decode cX9_two 88 = .ok (.iload_n 2, 1) := by decide +kernel
theorem dX9_two_89 : decode cX9_two 89 = .ok (.if_icmp .ne 7, 3) := by decide +kernel
theorem dX9_two_92 : decode cX9_two 92 = .ok (.iconst 1, 1) := by decide +kernel
theorem dX9_two_93 : decode cX9_two 93 = .ok (.goto 4, 3) := by decide +kernel
theorem dX9_two_96 : decode cX9_two 96 = .ok (.iconst 0, 1) := by decide +kernel
theorem dX9_two_97 : decode cX9_two 97 = .ok (.ireturn, 1) := by decide +kernel
theorem dX9_two_98 : decode cX9_two 98 = .ok (.iload_n 1, 1) := by decide +kernel
theorem dX9_two_99 : decode cX9_two 99 = .ok (.iload_n 2, 1) := by decide +kernel
theorem dX9_two_100 : decode cX9_two 100 = .ok (.if_icmp .le 7, 3) := by decide +kernel
theorem dX9_two_103 : decode cX9_two 103 = .ok (.iconst 1, 1) := by decide +kernel
theorem dX9_two_104 : decode cX9_two 104 = .ok (.goto 4, 3) := by decide +kernel
theorem dX9_two_107 : decode cX9_two 107 = .ok (.iconst 0, 1) := by decide +kernel
theorem dX9_two_108 : decode cX9_two 108 = .ok (.ireturn, 1) := by decide +kernel
theorem dX9_two_109 : decode cX9_two 109 = .ok (.iload_n 1, 1) := by decide +kernel
theorem dX9_two_110 : decode cX9_two 110 = .ok (.iload_n 2, 1) := by decide +kernel
theorem dX9_two_111 : decode cX9_two 111 = .ok (.iadd, 1) := by decide +kernel
theorem dX9_two_112 : decode cX9_two 112 = .ok (.ireturn, 1) := by decide +kernel
theorem dX9_two_113 : decode cX9_two 113 = .ok (.iload_n 1, 1) := by decide +kernel
theorem dX9_two_114 : decode cX9_two 114 = .ok (.iload_n 2, 1) := by decide +kernel
theorem dX9_two_115 : decode cX9_two 115 = .ok (.isub, 1) := by decide +kernel
theorem dX9_two_116 : decode cX9_two 116 = .ok (.ireturn, 1) := by decide +kernel
theorem dX9_two_117 : decode cX9_two 117 = .ok (.iload_n 1, 1) := by decide +kernel
theorem dX9_two_118 : decode cX9_two 118 = .ok (.iload_n 2, 1) := by decide +kernel
theorem dX9_two_119 : decode cX9_two 119 = .ok (.imul, 1) := by decide +kernel
theorem dX9_two_120 : decode cX9_two 120 = .ok (.ireturn, 1) := by decide +kernel
theorem dX9_two_121 : decode cX9_two 121 = .ok (.iload_n 2, 1) := by decide +kernel
theorem dX9_two_122 : decode cX9_two 122 = .ok (.ifCond .ne 7, 3) := by decide +kernel
theorem dX9_two_125 : decode cX9_two 125 = .ok (.iconst 0, 1) := by decide +kernel
theorem dX9_two_126 : decode cX9_two 126 = .ok (.goto 6, 3) := by decide +kernel
theorem dX9_two_129 : decode cX9_two 129 = .ok (.iload_n 1, 1) := by decide +kernel
theorem dX9_two_130 : decode cX9_two 130 = .ok (.iload_n 2, 1) := by decide +kernel
theorem dX9_two_131 : decode cX9_two 131 = .ok (.idiv, 1) := by decide +kernel
theorem dX9_two_132 : decode cX9_two 132 = .ok (.ireturn, 1) := by decide +kernel
theorem dX9_worksOut_0 : decode cX9_worksOut 0 = .ok (.iconst 0, 1) := by decide +kernel
theorem dX9_worksOut_1 : decode cX9_worksOut 1 = .ok (.istore_n 2, 1) := by decide +kernel
theorem dX9_worksOut_2 : decode cX9_worksOut 2 = .ok (.aload_n 0, 1) := by decide +kernel
theorem dX9_worksOut_3 : decode cX9_worksOut 3 = .ok (.getfield 9, 3) := by decide +kernel
theorem dX9_worksOut_6 : decode cX9_worksOut 6 = .ok (.sipush 173, 3) := by decide +kernel
theorem dX9_worksOut_9 : decode cX9_worksOut 9 = .ok (.iconst 2, 1) := by decide +kernel
theorem dX9_worksOut_10 : decode cX9_worksOut 10 = .ok (.iload_n 1, 1) := by decide +kernel
theorem dX9_worksOut_11 : decode cX9_worksOut 11 = .ok (.imul, 1) := by decide +kernel
theorem dX9_worksOut_12 : decode cX9_worksOut 12 = .ok (.iadd, 1) := by decide +kernel
theorem dX9_worksOut_13 : decode cX9_worksOut 13 = .ok (.iaload, 1) := by decide +kernel
theorem dX9_worksOut_14 : decode cX9_worksOut 14 = .ok (.sipush 1000, 3) := by decide +kernel
theorem dX9_worksOut_17 : decode cX9_worksOut 17 = .ok (.irem, 1) := by decide +kernel
theorem dX9_worksOut_18 : decode cX9_worksOut 18 = .ok (.istore_n 3, 1) := by decide +kernel
theorem dX9_worksOut_19 : decode cX9_worksOut 19 = .ok (.iconst 0, 1) := by decide +kernel
theorem dX9_worksOut_20 : decode cX9_worksOut 20 = .ok (.istore 4, 2) := by decide +kernel
theorem dX9_worksOut_22 : decode cX9_worksOut 22 = .ok (.iload 4, 2) := by decide +kernel
theorem dX9_worksOut_24 : decode cX9_worksOut 24 = .ok (.iload_n 3, 1) := by decide +kernel
theorem dX9_worksOut_25 : decode cX9_worksOut 25 = .ok (.if_icmp .ge 132, 3) := by decide +kernel
theorem dX9_worksOut_28 : decode cX9_worksOut 28 = .ok (.aload_n 0, 1) := by decide +kernel
theorem dX9_worksOut_29 : decode cX9_worksOut 29 = .ok (.getfield 9, 3) := by decide +kernel
theorem dX9_worksOut_32 : decode cX9_worksOut 32 = .ok (.sipush 201, 3) := by decide +kernel
theorem dX9_worksOut_35 : decode cX9_worksOut 35 = .ok (.bipush 96, 2) := by decide +kernel
theorem dX9_worksOut_37 : decode cX9_worksOut 37 = .ok (.iload_n 1, 1) := by decide +kernel
theorem dX9_worksOut_38 : decode cX9_worksOut 38 = .ok (.imul, 1) := by decide +kernel
theorem dX9_worksOut_39 : decode cX9_worksOut 39 = .ok (.iadd, 1) := by decide +kernel
theorem dX9_worksOut_40 : decode cX9_worksOut 40 = .ok (.iload 4, 2) := by decide +kernel
theorem dX9_worksOut_42 : decode cX9_worksOut 42 = .ok (.iadd, 1) := by decide +kernel
theorem dX9_worksOut_43 : decode cX9_worksOut 43 = .ok (.iaload, 1) := by decide +kernel
theorem dX9_worksOut_44 : decode cX9_worksOut 44 = .ok (.istore 5, 2) := by decide +kernel
theorem dX9_worksOut_46 : decode cX9_worksOut 46 = .ok (.iload 5, 2) := by decide +kernel
theorem dX9_worksOut_48 : decode cX9_worksOut 48 = .ok (.ifCond .lt 39, 3) := by decide +kernel
theorem dX9_worksOut_51 : decode cX9_worksOut 51 = .ok (.aload_n 0, 1) := by decide +kernel
theorem dX9_worksOut_52 : decode cX9_worksOut 52 = .ok (.getfield 70, 3) := by decide +kernel
theorem dX9_worksOut_55 : decode cX9_worksOut 55 = .ok (.iload_n 2, 1) := by decide +kernel
theorem dX9_worksOut_56 : decode cX9_worksOut 56 = .ok (.iload 5, 2) := by decide +kernel
theorem dX9_worksOut_58 : decode cX9_worksOut 58 = .ok (.sipush 10000, 3) := by decide +kernel
theorem dX9_worksOut_61 : decode cX9_worksOut 61 = .ok (.if_icmp .ge 8, 3) := by decide +kernel
theorem dX9_worksOut_64 : decode cX9_worksOut 64 = .ok (.iload 5, 2) := by decide +kernel
theorem dX9_worksOut_66 : decode cX9_worksOut 66 = .ok (.goto 14, 3) := by decide +kernel
theorem dX9_worksOut_69 : decode cX9_worksOut 69 = .ok (.aload_n 0, 1) := by decide +kernel
theorem dX9_worksOut_70 : decode cX9_worksOut 70 = .ok (.getfield 73, 3) := by decide +kernel
theorem dX9_worksOut_73 : decode cX9_worksOut 73 = .ok (.iload 5, 2) := by decide +kernel
theorem dX9_worksOut_75 : decode cX9_worksOut 75 = .ok (.sipush 10000, 3) := by decide +kernel
theorem dX9_worksOut_78 : decode cX9_worksOut 78 = .ok (.isub, 1) := by decide +kernel
theorem dX9_worksOut_79 : decode cX9_worksOut 79 = .ok (.iaload, 1) := by decide +kernel
theorem dX9_worksOut_80 : decode cX9_worksOut 80 = .ok (.iastore, 1) := by decide +kernel
theorem dX9_worksOut_81 : decode cX9_worksOut 81 = .ok (.iinc 2 1, 3) := by decide +kernel
theorem dX9_worksOut_84 : decode cX9_worksOut 84 = .ok (.goto 67, 3) := by decide +kernel
theorem dX9_worksOut_87 : decode cX9_worksOut 87 = .ok (.iload 5, 2) := by decide +kernel
theorem dX9_worksOut_89 : decode cX9_worksOut 89 = .ok (.bipush (-10), 2) := by decide +kernel
theorem dX9_worksOut_91 : decode cX9_worksOut 91 = .ok (.if_icmp .ne 30, 3) := by decide +kernel
theorem dX9_worksOut_94 : decode cX9_worksOut 94 = .ok (.aload_n 0, 1) := by decide +kernel
theorem dX9_worksOut_95 : decode cX9_worksOut 95 = .ok (.getfield 70, 3) := by decide +kernel
theorem dX9_worksOut_98 : decode cX9_worksOut 98 = .ok (.iload_n 2, 1) := by decide +kernel
theorem dX9_worksOut_99 : decode cX9_worksOut 99 = .ok (.iconst 1, 1) := by decide +kernel
theorem dX9_worksOut_100 : decode cX9_worksOut 100 = .ok (.isub, 1) := by decide +kernel
theorem dX9_worksOut_101 : decode cX9_worksOut 101 = .ok (.aload_n 0, 1) := by decide +kernel
theorem dX9_worksOut_102 : decode cX9_worksOut 102 = .ok (.getfield 70, 3) := by decide +kernel
theorem dX9_worksOut_105 : decode cX9_worksOut 105 = .ok (.iload_n 2, 1) := by decide +kernel
theorem dX9_worksOut_106 : decode cX9_worksOut 106 = .ok (.iconst 1, 1) := by decide +kernel
theorem dX9_worksOut_107 : decode cX9_worksOut 107 = .ok (.isub, 1) := by decide +kernel
theorem dX9_worksOut_108 : decode cX9_worksOut 108 = .ok (.iaload, 1) := by decide +kernel
theorem dX9_worksOut_109 : decode cX9_worksOut 109 = .ok (.ifCond .ne 7, 3) := by decide +kernel
theorem dX9_worksOut_112 : decode cX9_worksOut 112 = .ok (.iconst 1, 1) := by decide +kernel
theorem dX9_worksOut_113 : decode cX9_worksOut 113 = .ok (.goto 4, 3) := by decide +kernel
theorem dX9_worksOut_116 : decode cX9_worksOut 116 = .ok (.iconst 0, 1) := by decide +kernel
theorem dX9_worksOut_117 : decode cX9_worksOut 117 = .ok (.iastore, 1) := by decide +kernel
theorem dX9_worksOut_118 : decode cX9_worksOut 118 = .ok (.goto 33, 3) := by decide +kernel
theorem dX9_worksOut_121 : decode cX9_worksOut 121 = .ok (.iinc 2 (-1), 3) := by decide +kernel
theorem dX9_worksOut_124 : decode cX9_worksOut 124 = .ok (.aload_n 0, 1) := by decide +kernel
theorem dX9_worksOut_125 : decode cX9_worksOut 125 = .ok (.getfield 70, 3) := by decide +kernel
theorem dX9_worksOut_128 : decode cX9_worksOut 128 = .ok (.iload_n 2, 1) := by decide +kernel
theorem dX9_worksOut_129 : decode cX9_worksOut 129 = .ok (.iconst 1, 1) := by decide +kernel
theorem dX9_worksOut_130 : decode cX9_worksOut 130 = .ok (.isub, 1) := by decide +kernel
theorem dX9_worksOut_131 : decode cX9_worksOut 131 = .ok (.iload 5, 2) := by decide +kernel
theorem dX9_worksOut_133 : decode cX9_worksOut 133 = .ok (.aload_n 0, 1) := by decide +kernel
theorem dX9_worksOut_134 : decode cX9_worksOut 134 = .ok (.getfield 70, 3) := by decide +kernel
theorem dX9_worksOut_137 : decode cX9_worksOut 137 = .ok (.iload_n 2, 1) := by decide +kernel
theorem dX9_worksOut_138 : decode cX9_worksOut 138 = .ok (.iconst 1, 1) := by decide +kernel
theorem dX9_worksOut_139 : decode cX9_worksOut 139 = .ok (.isub, 1) := by decide +kernel
theorem dX9_worksOut_140 : decode cX9_worksOut 140 = .ok (.iaload, 1) := by decide +kernel
theorem dX9_worksOut_141 : decode cX9_worksOut 141 = .ok (.aload_n 0, 1) := by decide +kernel
theorem dX9_worksOut_142 : decode cX9_worksOut 142 = .ok (.getfield 70, 3) := by decide +kernel
theorem dX9_worksOut_145 : decode cX9_worksOut 145 = .ok (.iload_n 2, 1) := by decide +kernel
theorem dX9_worksOut_146 : decode cX9_worksOut 146 = .ok (.iaload, 1) := by decide +kernel
theorem dX9_worksOut_147 : decode cX9_worksOut 147 = .ok (.invokestatic 293, 3) := by decide +kernel
theorem dX9_worksOut_150 : decode cX9_worksOut 150 = .ok (.iastore, 1) := by decide +kernel
theorem dX9_worksOut_151 : decode cX9_worksOut 151 = .ok (.iinc 4 1, 3) := by decide +kernel
theorem dX9_worksOut_154 : decode cX9_worksOut 154 = .ok (.goto (-132), 3) := by decide +kernel
theorem dX9_worksOut_157 : decode cX9_worksOut 157 = .ok (.aload_n 0, 1) := by decide +kernel
theorem dX9_worksOut_158 : decode cX9_worksOut 158 = .ok (.getfield 70, 3) := by decide +kernel
theorem dX9_worksOut_161 : decode cX9_worksOut 161 = .ok (.iconst 0, 1) := by decide +kernel
theorem dX9_worksOut_162 : decode cX9_worksOut 162 = .ok (.iaload, 1) := by decide +kernel
theorem dX9_worksOut_163 : decode cX9_worksOut 163 = .ok (.ireturn, 1) := by decide +kernel
theorem dX9_guest_0 : decode cX9_guest 0 = .ok (.aload_n 0, 1) := by decide +kernel
theorem dX9_guest_1 : decode cX9_guest 1 = .ok (.iload_n 1, 1) := by decide +kernel
theorem dX9_guest_2 : decode cX9_guest 2 = .ok (.invokevirtual 148, 3) := by decide +kernel
theorem dX9_guest_5 : decode cX9_guest 5 = .ok (.ifCond .eq 14, 3) := by decide +kernel
theorem dX9_guest_8 : decode cX9_guest 8 = .ok (.iload_n 2, 1) := by decide +kernel
theorem dX9_guest_9 : decode cX9_guest 9 = .ok (.iconst 0, 1) := by decide +kernel
theorem dX9_guest_10 : decode cX9_guest 10 = .ok (.sipush 1439, 3) := by decide +kernel
theorem dX9_guest_13 : decode cX9_guest 13 = .ok (.invokestatic 103, 3) := by decide +kernel
theorem dX9_guest_16 : decode cX9_guest 16 = .ok (.ifCond .ne 6, 3) := by decide +kernel
theorem dX9_guest_19 : decode cX9_guest 19 = .ok (.ldc 146, 2) := by decide +kernel
theorem dX9_guest_21 : decode cX9_guest 21 = .ok (.ireturn, 1) := by decide +kernel
theorem dX9_guest_22 : decode cX9_guest 22 = .ok (.aload_n 0, 1) := by decide +kernel
theorem dX9_guest_23 : decode cX9_guest 23 = .ok (.getfield 9, 3) := by decide +kernel
theorem dX9_guest_26 : decode cX9_guest 26 = .ok (.bipush 8, 2) := by decide +kernel
theorem dX9_guest_28 : decode cX9_guest 28 = .ok (.iaload, 1) := by decide +kernel
theorem dX9_guest_29 : decode cX9_guest 29 = .ok (.bipush 10, 2) := by decide +kernel
theorem dX9_guest_31 : decode cX9_guest 31 = .ok (.if_icmp .ne 6, 3) := by decide +kernel
theorem dX9_guest_34 : decode cX9_guest 34 = .ok (.ldc 147, 2) := by decide +kernel
theorem dX9_guest_36 : decode cX9_guest 36 = .ok (.ireturn, 1) := by decide +kernel
theorem dX9_guest_37 : decode cX9_guest 37 = .ok (.aload_n 0, 1) := by decide +kernel
theorem dX9_guest_38 : decode cX9_guest 38 = .ok (.getfield 9, 3) := by decide +kernel
theorem dX9_guest_41 : decode cX9_guest 41 = .ok (.sipush 153, 3) := by decide +kernel
theorem dX9_guest_44 : decode cX9_guest 44 = .ok (.iconst 2, 1) := by decide +kernel
theorem dX9_guest_45 : decode cX9_guest 45 = .ok (.aload_n 0, 1) := by decide +kernel
theorem dX9_guest_46 : decode cX9_guest 46 = .ok (.getfield 9, 3) := by decide +kernel
theorem dX9_guest_49 : decode cX9_guest 49 = .ok (.bipush 8, 2) := by decide +kernel
theorem dX9_guest_51 : decode cX9_guest 51 = .ok (.iaload, 1) := by decide +kernel
theorem dX9_guest_52 : decode cX9_guest 52 = .ok (.imul, 1) := by decide +kernel
theorem dX9_guest_53 : decode cX9_guest 53 = .ok (.iadd, 1) := by decide +kernel
theorem dX9_guest_54 : decode cX9_guest 54 = .ok (.iload_n 1, 1) := by decide +kernel
theorem dX9_guest_55 : decode cX9_guest 55 = .ok (.iastore, 1) := by decide +kernel
theorem dX9_guest_56 : decode cX9_guest 56 = .ok (.aload_n 0, 1) := by decide +kernel
theorem dX9_guest_57 : decode cX9_guest 57 = .ok (.getfield 9, 3) := by decide +kernel
theorem dX9_guest_60 : decode cX9_guest 60 = .ok (.sipush 153, 3) := by decide +kernel
theorem dX9_guest_63 : decode cX9_guest 63 = .ok (.iconst 2, 1) := by decide +kernel
theorem dX9_guest_64 : decode cX9_guest 64 = .ok (.aload_n 0, 1) := by decide +kernel
theorem dX9_guest_65 : decode cX9_guest 65 = .ok (.getfield 9, 3) := by decide +kernel
theorem dX9_guest_68 : decode cX9_guest 68 = .ok (.bipush 8, 2) := by decide +kernel
theorem dX9_guest_70 : decode cX9_guest 70 = .ok (.iaload, 1) := by decide +kernel
theorem dX9_guest_71 : decode cX9_guest 71 = .ok (.imul, 1) := by decide +kernel
theorem dX9_guest_72 : decode cX9_guest 72 = .ok (.iadd, 1) := by decide +kernel
theorem dX9_guest_73 : decode cX9_guest 73 = .ok (.iconst 1, 1) := by decide +kernel
theorem dX9_guest_74 : decode cX9_guest 74 = .ok (.iadd, 1) := by decide +kernel
theorem dX9_guest_75 : decode cX9_guest 75 = .ok (.iload_n 2, 1) := by decide +kernel
theorem dX9_guest_76 : decode cX9_guest 76 = .ok (.iastore, 1) := by decide +kernel
theorem dX9_guest_77 : decode cX9_guest 77 = .ok (.aload_n 0, 1) := by decide +kernel
theorem dX9_guest_78 : decode cX9_guest 78 = .ok (.getfield 9, 3) := by decide +kernel
theorem dX9_guest_81 : decode cX9_guest 81 = .ok (.bipush 8, 2) := by decide +kernel
theorem dX9_guest_83 : decode cX9_guest 83 = .ok (.dup2, 1) := by decide +kernel
theorem dX9_guest_84 : decode cX9_guest 84 = .ok (.iaload, 1) := by decide +kernel
theorem dX9_guest_85 : decode cX9_guest 85 = .ok (.iconst 1, 1) := by decide +kernel
theorem dX9_guest_86 : decode cX9_guest 86 = .ok (.iadd, 1) := by decide +kernel
theorem dX9_guest_87 : decode cX9_guest 87 = .ok (.iastore, 1) := by decide +kernel
theorem dX9_guest_88 : decode cX9_guest 88 = .ok (.aload_n 0, 1) := by decide +kernel
theorem dX9_guest_89 : decode cX9_guest 89 = .ok (.getfield 9, 3) := by decide +kernel
theorem dX9_guest_92 : decode cX9_guest 92 = .ok (.bipush 8, 2) := by decide +kernel
theorem dX9_guest_94 : decode cX9_guest 94 = .ok (.iaload, 1) := by decide +kernel
theorem dX9_guest_95 : decode cX9_guest 95 = .ok (.iconst 1, 1) := by decide +kernel
theorem dX9_guest_96 : decode cX9_guest 96 = .ok (.isub, 1) := by decide +kernel
theorem dX9_guest_97 : decode cX9_guest 97 = .ok (.ireturn, 1) := by decide +kernel
theorem dX9_part_0 : decode cX9_part 0 = .ok (.aload_n 0, 1) := by decide +kernel
theorem dX9_part_1 : decode cX9_part 1 = .ok (.getfield 9, 3) := by decide +kernel
theorem dX9_part_4 : decode cX9_part 4 = .ok (.bipush 8, 2) := by decide +kernel
theorem dX9_part_6 : decode cX9_part 6 = .ok (.iaload, 1) := by decide +kernel
theorem dX9_part_7 : decode cX9_part 7 = .ok (.istore_n 1, 1) := by decide +kernel
theorem dX9_part_8 : decode cX9_part 8 = .ok (.aload_n 0, 1) := by decide +kernel
theorem dX9_part_9 : decode cX9_part 9 = .ok (.getfield 9, 3) := by decide +kernel
theorem dX9_part_12 : decode cX9_part 12 = .ok (.bipush 8, 2) := by decide +kernel
theorem dX9_part_14 : decode cX9_part 14 = .ok (.iconst 0, 1) := by decide +kernel
theorem dX9_part_15 : decode cX9_part 15 = .ok (.iastore, 1) := by decide +kernel
theorem dX9_part_16 : decode cX9_part 16 = .ok (.iload_n 1, 1) := by decide +kernel
theorem dX9_part_17 : decode cX9_part 17 = .ok (.ireturn, 1) := by decide +kernel
theorem dX9_gather_0 : decode cX9_gather 0 = .ok (.iload_n 1, 1) := by decide +kernel
theorem dX9_gather_1 : decode cX9_gather 1 = .ok (.iconst 0, 1) := by decide +kernel
theorem dX9_gather_2 : decode cX9_gather 2 = .ok (.iconst 1, 1) := by decide +kernel
theorem dX9_gather_3 : decode cX9_gather 3 = .ok (.invokestatic 103, 3) := by decide +kernel
theorem dX9_gather_6 : decode cX9_gather 6 = .ok (.ifCond .ne 6, 3) := by decide +kernel
theorem dX9_gather_9 : decode cX9_gather 9 = .ok (.ldc 146, 2) := by decide +kernel
theorem dX9_gather_11 : decode cX9_gather 11 = .ok (.ireturn, 1) := by decide +kernel
theorem dX9_gather_12 : decode cX9_gather 12 = .ok (.aload_n 0, 1) := by decide +kernel
theorem dX9_gather_13 : decode cX9_gather 13 = .ok (.getfield 9, 3) := by decide +kernel
theorem dX9_gather_16 : decode cX9_gather 16 = .ok (.bipush 8, 2) := by decide +kernel
theorem dX9_gather_18 : decode cX9_gather 18 = .ok (.iaload, 1) := by decide +kernel
theorem dX9_gather_19 : decode cX9_gather 19 = .ok (.ifCond .ne 6, 3) := by decide +kernel
theorem dX9_gather_22 : decode cX9_gather 22 = .ok (.ldc 115, 2) := by decide +kernel
theorem dX9_gather_24 : decode cX9_gather 24 = .ok (.ireturn, 1) := by decide +kernel
theorem dX9_gather_25 : decode cX9_gather 25 = .ok (.iconst (-1), 1) := by decide +kernel
theorem dX9_gather_26 : decode cX9_gather 26 = .ok (.istore_n 2, 1) := by decide +kernel
theorem dX9_gather_27 : decode cX9_gather 27 = .ok (.iconst 0, 1) := by decide +kernel
theorem dX9_gather_28 : decode cX9_gather 28 = .ok (.istore_n 3, 1) := by decide +kernel
theorem dX9_gather_29 : decode cX9_gather 29 = .ok (.iconst 0, 1) := by decide +kernel
theorem dX9_gather_30 : decode cX9_gather 30 = .ok (.istore 4, 2) := by decide +kernel
theorem dX9_gather_32 : decode cX9_gather 32 = .ok (.iload 4, 2) := by decide +kernel
theorem dX9_gather_34 : decode cX9_gather 34 = .ok (.aload_n 0, 1) := by decide +kernel
theorem dX9_gather_35 : decode cX9_gather 35 = .ok (.getfield 9, 3) := by decide +kernel
theorem dX9_gather_38 : decode cX9_gather 38 = .ok (.bipush 8, 2) := by decide +kernel
theorem dX9_gather_40 : decode cX9_gather 40 = .ok (.iaload, 1) := by decide +kernel
theorem dX9_gather_41 : decode cX9_gather 41 = .ok (.if_icmp .ge 69, 3) := by decide +kernel
theorem dX9_gather_44 : decode cX9_gather 44 = .ok (.aload_n 0, 1) := by decide +kernel
theorem dX9_gather_45 : decode cX9_gather 45 = .ok (.aload_n 0, 1) := by decide +kernel
theorem dX9_gather_46 : decode cX9_gather 46 = .ok (.getfield 9, 3) := by decide +kernel
theorem dX9_gather_49 : decode cX9_gather 49 = .ok (.sipush 153, 3) := by decide +kernel
theorem dX9_gather_52 : decode cX9_gather 52 = .ok (.iconst 2, 1) := by decide +kernel
theorem dX9_gather_53 : decode cX9_gather 53 = .ok (.iload 4, 2) := by decide +kernel
theorem dX9_gather_55 : decode cX9_gather 55 = .ok (.imul, 1) := by decide +kernel
theorem dX9_gather_56 : decode cX9_gather 56 = .ok (.iadd, 1) := by decide +kernel
theorem dX9_gather_57 : decode cX9_gather 57 = .ok (.iaload, 1) := by decide +kernel
theorem dX9_gather_58 : decode cX9_gather 58 = .ok (.aload_n 0, 1) := by decide +kernel
theorem dX9_gather_59 : decode cX9_gather 59 = .ok (.getfield 9, 3) := by decide +kernel
theorem dX9_gather_62 : decode cX9_gather 62 = .ok (.sipush 153, 3) := by decide +kernel
theorem dX9_gather_65 : decode cX9_gather 65 = .ok (.iconst 2, 1) := by decide +kernel
theorem dX9_gather_66 : decode cX9_gather 66 = .ok (.iload 4, 2) := by decide +kernel
theorem dX9_gather_68 : decode cX9_gather 68 = .ok (.imul, 1) := by decide +kernel
theorem dX9_gather_69 : decode cX9_gather 69 = .ok (.iadd, 1) := by decide +kernel
theorem dX9_gather_70 : decode cX9_gather 70 = .ok (.iconst 1, 1) := by decide +kernel
theorem dX9_gather_71 : decode cX9_gather 71 = .ok (.iadd, 1) := by decide +kernel
theorem dX9_gather_72 : decode cX9_gather 72 = .ok (.iaload, 1) := by decide +kernel
theorem dX9_gather_73 : decode cX9_gather 73 = .ok (.invokevirtual 296, 3) := by decide +kernel
theorem dX9_gather_76 : decode cX9_gather 76 = .ok (.istore 5, 2) := by decide +kernel
theorem dX9_gather_78 : decode cX9_gather 78 = .ok (.iload 5, 2) := by decide +kernel
theorem dX9_gather_80 : decode cX9_gather 80 = .ok (.iload_n 2, 1) := by decide +kernel
theorem dX9_gather_81 : decode cX9_gather 81 = .ok (.if_icmp .le 8, 3) := by decide +kernel
theorem dX9_gather_84 : decode cX9_gather 84 = .ok (.iload 4, 2) := by decide +kernel
theorem dX9_gather_86 : decode cX9_gather 86 = .ok (.goto 4, 3) := by decide +kernel
theorem dX9_gather_89 : decode cX9_gather 89 = .ok (.iload_n 3, 1) := by decide +kernel
theorem dX9_gather_90 : decode cX9_gather 90 = .ok (.istore_n 3, 1) := by decide +kernel
theorem dX9_gather_91 : decode cX9_gather 91 = .ok (.iload 5, 2) := by decide +kernel
theorem dX9_gather_93 : decode cX9_gather 93 = .ok (.iload_n 2, 1) := by decide +kernel
theorem dX9_gather_94 : decode cX9_gather 94 = .ok (.if_icmp .le 8, 3) := by decide +kernel
theorem dX9_gather_97 : decode cX9_gather 97 = .ok (.iload 5, 2) := by decide +kernel
theorem dX9_gather_99 : decode cX9_gather 99 = .ok (.goto 4, 3) := by decide +kernel
theorem dX9_gather_102 : decode cX9_gather 102 = .ok (.iload_n 2, 1) := by decide +kernel
theorem dX9_gather_103 : decode cX9_gather 103 = .ok (.istore_n 2, 1) := by decide +kernel
theorem dX9_gather_104 : decode cX9_gather 104 = .ok (.iinc 4 1, 3) := by decide +kernel
theorem dX9_gather_107 : decode cX9_gather 107 = .ok (.goto (-75), 3) := by decide +kernel
theorem dX9_gather_110 : decode cX9_gather 110 = .ok (.iload_n 1, 1) := by decide +kernel
theorem dX9_gather_111 : decode cX9_gather 111 = .ok (.ifCond .ne 7, 3) := by decide +kernel
theorem dX9_gather_114 : decode cX9_gather 114 = .ok (.iload_n 2, 1) := by decide +kernel
theorem dX9_gather_115 : decode cX9_gather 115 = .ok (.goto 4, 3) := by decide +kernel
theorem dX9_gather_118 : decode cX9_gather 118 = .ok (.iload_n 3, 1) := by decide +kernel
theorem dX9_gather_119 : decode cX9_gather 119 = .ok (.ireturn, 1) := by decide +kernel
theorem dX9_draw_0 : decode cX9_draw 0 = .ok (.aload_n 0, 1) := by decide +kernel
theorem dX9_draw_1 : decode cX9_draw 1 = .ok (.getfield 9, 3) := by decide +kernel
theorem dX9_draw_4 : decode cX9_draw 4 = .ok (.iconst 0, 1) := by decide +kernel
theorem dX9_draw_5 : decode cX9_draw 5 = .ok (.aload_n 0, 1) := by decide +kernel
theorem dX9_draw_6 : decode cX9_draw 6 = .ok (.getfield 9, 3) := by decide +kernel
theorem dX9_draw_9 : decode cX9_draw 9 = .ok (.iconst 0, 1) := by decide +kernel
theorem dX9_draw_10 : decode cX9_draw 10 = .ok (.iaload, 1) := by decide +kernel
theorem dX9_draw_11 : decode cX9_draw 11 = .ok (.ldc_w 299, 3) := by decide +kernel
theorem dX9_draw_14 : decode cX9_draw 14 = .ok (.imul, 1) := by decide +kernel
theorem dX9_draw_15 : decode cX9_draw 15 = .ok (.sipush 12345, 3) := by decide +kernel
theorem dX9_draw_18 : decode cX9_draw 18 = .ok (.iadd, 1) := by decide +kernel
theorem dX9_draw_19 : decode cX9_draw 19 = .ok (.iastore, 1) := by decide +kernel
theorem dX9_draw_20 : decode cX9_draw 20 = .ok (.aload_n 0, 1) := by decide +kernel
theorem dX9_draw_21 : decode cX9_draw 21 = .ok (.getfield 9, 3) := by decide +kernel
theorem dX9_draw_24 : decode cX9_draw 24 = .ok (.iconst 0, 1) := by decide +kernel
theorem dX9_draw_25 : decode cX9_draw 25 = .ok (.iaload, 1) := by decide +kernel
theorem dX9_draw_26 : decode cX9_draw 26 = .ok (.bipush 8, 2) := by decide +kernel
theorem dX9_draw_28 : decode cX9_draw 28 = .ok (.iushr, 1) := by decide +kernel
theorem dX9_draw_29 : decode cX9_draw 29 = .ok (.ireturn, 1) := by decide +kernel
theorem dX9_drawnStep_0 : decode cX9_drawnStep 0 = .ok (.aload_n 0, 1) := by decide +kernel
theorem dX9_drawnStep_1 : decode cX9_drawnStep 1 = .ok (.invokevirtual 300, 3) := by decide +kernel
theorem dX9_drawnStep_4 : decode cX9_drawnStep 4 = .ok (.bipush 100, 2) := by decide +kernel
theorem dX9_drawnStep_6 : decode cX9_drawnStep 6 = .ok (.irem, 1) := by decide +kernel
theorem dX9_drawnStep_7 : decode cX9_drawnStep 7 = .ok (.istore_n 2, 1) := by decide +kernel
theorem dX9_drawnStep_8 : decode cX9_drawnStep 8 = .ok (.iconst 0, 1) := by decide +kernel
theorem dX9_drawnStep_9 : decode cX9_drawnStep 9 = .ok (.istore_n 3, 1) := by decide +kernel
theorem dX9_drawnStep_10 : decode cX9_drawnStep 10 = .ok (.aload_n 0, 1) := by decide +kernel
theorem dX9_drawnStep_11 : decode cX9_drawnStep 11 = .ok (.iload_n 1, 1) := by decide +kernel
theorem dX9_drawnStep_12 : decode cX9_drawnStep 12 = .ok (.bipush 7, 2) := by decide +kernel
theorem dX9_drawnStep_14 : decode cX9_drawnStep 14 = .ok (.invokevirtual 107, 3) := by decide +kernel
theorem dX9_drawnStep_17 : decode cX9_drawnStep 17 = .ok (.istore 4, 2) := by decide +kernel
theorem dX9_drawnStep_19 : decode cX9_drawnStep 19 = .ok (.iload 4, 2) := by decide +kernel
theorem dX9_drawnStep_21 : decode cX9_drawnStep 21 = .ok (.iload_n 2, 1) := by decide +kernel
theorem dX9_drawnStep_22 : decode cX9_drawnStep 22 = .ok (.if_icmp .gt 23, 3) := by decide +kernel
theorem dX9_drawnStep_25 : decode cX9_drawnStep 25 = .ok (.iinc 3 1, 3) := by decide +kernel
theorem dX9_drawnStep_28 : decode cX9_drawnStep 28 = .ok (.iload 4, 2) := by decide +kernel
theorem dX9_drawnStep_30 : decode cX9_drawnStep 30 = .ok (.aload_n 0, 1) := by decide +kernel
theorem dX9_drawnStep_31 : decode cX9_drawnStep 31 = .ok (.iload_n 1, 1) := by decide +kernel
theorem dX9_drawnStep_32 : decode cX9_drawnStep 32 = .ok (.bipush 7, 2) := by decide +kernel
theorem dX9_drawnStep_34 : decode cX9_drawnStep 34 = .ok (.iload_n 3, 1) := by decide +kernel
theorem dX9_drawnStep_35 : decode cX9_drawnStep 35 = .ok (.iadd, 1) := by decide +kernel
theorem dX9_drawnStep_36 : decode cX9_drawnStep 36 = .ok (.invokevirtual 107, 3) := by decide +kernel
theorem dX9_drawnStep_39 : decode cX9_drawnStep 39 = .ok (.iadd, 1) := by decide +kernel
theorem dX9_drawnStep_40 : decode cX9_drawnStep 40 = .ok (.istore 4, 2) := by decide +kernel
theorem dX9_drawnStep_42 : decode cX9_drawnStep 42 = .ok (.goto (-23), 3) := by decide +kernel
theorem dX9_drawnStep_45 : decode cX9_drawnStep 45 = .ok (.iload_n 3, 1) := by decide +kernel
theorem dX9_drawnStep_46 : decode cX9_drawnStep 46 = .ok (.ireturn, 1) := by decide +kernel
theorem dX9_rides_0 : decode cX9_rides 0 = .ok (.aload_n 0, 1) := by decide +kernel
theorem dX9_rides_1 : decode cX9_rides 1 = .ok (.iload_n 2, 1) := by decide +kernel
theorem dX9_rides_2 : decode cX9_rides 2 = .ok (.invokevirtual 222, 3) := by decide +kernel
theorem dX9_rides_5 : decode cX9_rides 5 = .ok (.aload_n 0, 1) := by decide +kernel
theorem dX9_rides_6 : decode cX9_rides 6 = .ok (.iconst 0, 1) := by decide +kernel
theorem dX9_rides_7 : decode cX9_rides 7 = .ok (.putfield 303, 3) := by decide +kernel
theorem dX9_rides_10 : decode cX9_rides 10 = .ok (.iload_n 1, 1) := by decide +kernel
theorem dX9_rides_11 : decode cX9_rides 11 = .ok (.istore_n 3, 1) := by decide +kernel
theorem dX9_rides_12 : decode cX9_rides 12 = .ok (.iload_n 2, 1) := by decide +kernel
theorem dX9_rides_13 : decode cX9_rides 13 = .ok (.istore 4, 2) := by decide +kernel
theorem dX9_rides_15 : decode cX9_rides 15 = .ok (.aload_n 0, 1) := by decide +kernel
theorem dX9_rides_16 : decode cX9_rides 16 = .ok (.iload_n 3, 1) := by decide +kernel
theorem dX9_rides_17 : decode cX9_rides 17 = .ok (.iload 4, 2) := by decide +kernel
theorem dX9_rides_19 : decode cX9_rides 19 = .ok (.invokevirtual 226, 3) := by decide +kernel
theorem dX9_rides_22 : decode cX9_rides 22 = .ok (.istore 5, 2) := by decide +kernel
theorem dX9_rides_24 : decode cX9_rides 24 = .ok (.iload 5, 2) := by decide +kernel
theorem dX9_rides_26 : decode cX9_rides 26 = .ok (.ifCond .lt 49, 3) := by decide +kernel
theorem dX9_rides_29 : decode cX9_rides 29 = .ok (.aload_n 0, 1) := by decide +kernel
theorem dX9_rides_30 : decode cX9_rides 30 = .ok (.iload 5, 2) := by decide +kernel
theorem dX9_rides_32 : decode cX9_rides 32 = .ok (.iload 4, 2) := by decide +kernel
theorem dX9_rides_34 : decode cX9_rides 34 = .ok (.aload_n 0, 1) := by decide +kernel
theorem dX9_rides_35 : decode cX9_rides 35 = .ok (.iload 5, 2) := by decide +kernel
theorem dX9_rides_37 : decode cX9_rides 37 = .ok (.invokevirtual 306, 3) := by decide +kernel
theorem dX9_rides_40 : decode cX9_rides 40 = .ok (.invokevirtual 203, 3) := by decide +kernel
theorem dX9_rides_43 : decode cX9_rides 43 = .ok (.istore 4, 2) := by decide +kernel
theorem dX9_rides_45 : decode cX9_rides 45 = .ok (.aload_n 0, 1) := by decide +kernel
theorem dX9_rides_46 : decode cX9_rides 46 = .ok (.iload 5, 2) := by decide +kernel
theorem dX9_rides_48 : decode cX9_rides 48 = .ok (.iconst 2, 1) := by decide +kernel
theorem dX9_rides_49 : decode cX9_rides 49 = .ok (.invokevirtual 107, 3) := by decide +kernel
theorem dX9_rides_52 : decode cX9_rides 52 = .ok (.istore_n 3, 1) := by decide +kernel
theorem dX9_rides_53 : decode cX9_rides 53 = .ok (.aload_n 0, 1) := by decide +kernel
theorem dX9_rides_54 : decode cX9_rides 54 = .ok (.dup, 1) := by decide +kernel
theorem dX9_rides_55 : decode cX9_rides 55 = .ok (.getfield 303, 3) := by decide +kernel
theorem dX9_rides_58 : decode cX9_rides 58 = .ok (.iconst 1, 1) := by decide +kernel
theorem dX9_rides_59 : decode cX9_rides 59 = .ok (.iadd, 1) := by decide +kernel
theorem dX9_rides_60 : decode cX9_rides 60 = .ok (.putfield 303, 3) := by decide +kernel
theorem dX9_rides_63 : decode cX9_rides 63 = .ok (.aload_n 0, 1) := by decide +kernel
theorem dX9_rides_64 : decode cX9_rides 64 = .ok (.iload_n 3, 1) := by decide +kernel
theorem dX9_rides_65 : decode cX9_rides 65 = .ok (.iload 4, 2) := by decide +kernel
theorem dX9_rides_67 : decode cX9_rides 67 = .ok (.invokevirtual 226, 3) := by decide +kernel
theorem dX9_rides_70 : decode cX9_rides 70 = .ok (.istore 5, 2) := by decide +kernel
theorem dX9_rides_72 : decode cX9_rides 72 = .ok (.goto (-48), 3) := by decide +kernel
theorem dX9_rides_75 : decode cX9_rides 75 = .ok (.iload_n 3, 1) := by decide +kernel
theorem dX9_rides_76 : decode cX9_rides 76 = .ok (.aload_n 0, 1) := by decide +kernel
theorem dX9_rides_77 : decode cX9_rides 77 = .ok (.getfield 9, 3) := by decide +kernel
theorem dX9_rides_80 : decode cX9_rides 80 = .ok (.iconst 2, 1) := by decide +kernel
theorem dX9_rides_81 : decode cX9_rides 81 = .ok (.iaload, 1) := by decide +kernel
theorem dX9_rides_82 : decode cX9_rides 82 = .ok (.if_icmp .ne 8, 3) := by decide +kernel
theorem dX9_rides_85 : decode cX9_rides 85 = .ok (.iload 4, 2) := by decide +kernel
theorem dX9_rides_87 : decode cX9_rides 87 = .ok (.goto 6, 3) := by decide +kernel
theorem dX9_rides_90 : decode cX9_rides 90 = .ok (.sipush 2880, 3) := by decide +kernel
theorem dX9_rides_93 : decode cX9_rides 93 = .ok (.ireturn, 1) := by decide +kernel
theorem dX9_ride_0 : decode cX9_ride 0 = .ok (.aload_n 0, 1) := by decide +kernel
theorem dX9_ride_1 : decode cX9_ride 1 = .ok (.iload_n 1, 1) := by decide +kernel
theorem dX9_ride_2 : decode cX9_ride 2 = .ok (.iload_n 2, 1) := by decide +kernel
theorem dX9_ride_3 : decode cX9_ride 3 = .ok (.invokevirtual 219, 3) := by decide +kernel
theorem dX9_ride_6 : decode cX9_ride 6 = .ok (.ifCond .eq 12, 3) := by decide +kernel
theorem dX9_ride_9 : decode cX9_ride 9 = .ok (.aload_n 0, 1) := by decide +kernel
theorem dX9_ride_10 : decode cX9_ride 10 = .ok (.iload_n 1, 1) := by decide +kernel
theorem dX9_ride_11 : decode cX9_ride 11 = .ok (.iload_n 2, 1) := by decide +kernel
theorem dX9_ride_12 : decode cX9_ride 12 = .ok (.invokevirtual 309, 3) := by decide +kernel
theorem dX9_ride_15 : decode cX9_ride 15 = .ok (.goto 5, 3) := by decide +kernel
theorem dX9_ride_18 : decode cX9_ride 18 = .ok (.ldc 146, 2) := by decide +kernel
theorem dX9_ride_20 : decode cX9_ride 20 = .ok (.ireturn, 1) := by decide +kernel
theorem dX9_seed_0 : decode cX9_seed 0 = .ok (.aload_n 0, 1) := by decide +kernel
theorem dX9_seed_1 : decode cX9_seed 1 = .ok (.getfield 9, 3) := by decide +kernel
theorem dX9_seed_4 : decode cX9_seed 4 = .ok (.iconst 0, 1) := by decide +kernel
theorem dX9_seed_5 : decode cX9_seed 5 = .ok (.iaload, 1) := by decide +kernel
theorem dX9_seed_6 : decode cX9_seed 6 = .ok (.istore_n 2, 1) := by decide +kernel
theorem dX9_seed_7 : decode cX9_seed 7 = .ok (.aload_n 0, 1) := by decide +kernel
theorem dX9_seed_8 : decode cX9_seed 8 = .ok (.getfield 9, 3) := by decide +kernel
theorem dX9_seed_11 : decode cX9_seed 11 = .ok (.iconst 0, 1) := by decide +kernel
theorem dX9_seed_12 : decode cX9_seed 12 = .ok (.iload_n 1, 1) := by decide +kernel
theorem dX9_seed_13 : decode cX9_seed 13 = .ok (.iastore, 1) := by decide +kernel
theorem dX9_seed_14 : decode cX9_seed 14 = .ok (.iload_n 2, 1) := by decide +kernel
theorem dX9_seed_15 : decode cX9_seed 15 = .ok (.ireturn, 1) := by decide +kernel
theorem dX9_isSheet_0 : decode cX9_isSheet 0 = .ok (.iload_n 0, 1) := by decide +kernel
theorem dX9_isSheet_1 : decode cX9_isSheet 1 = .ok (.iconst 0, 1) := by decide +kernel
theorem dX9_isSheet_2 : decode cX9_isSheet 2 = .ok (.iconst 3, 1) := by decide +kernel
theorem dX9_isSheet_3 : decode cX9_isSheet 3 = .ok (.invokestatic 103, 3) := by decide +kernel
theorem dX9_isSheet_6 : decode cX9_isSheet 6 = .ok (.ireturn, 1) := by decide +kernel
theorem dX9_isSlot_0 : decode cX9_isSlot 0 = .ok (.iload_n 0, 1) := by decide +kernel
theorem dX9_isSlot_1 : decode cX9_isSlot 1 = .ok (.iconst 0, 1) := by decide +kernel
theorem dX9_isSlot_2 : decode cX9_isSlot 2 = .ok (.iconst 4, 1) := by decide +kernel
theorem dX9_isSlot_3 : decode cX9_isSlot 3 = .ok (.invokestatic 103, 3) := by decide +kernel
theorem dX9_isSlot_6 : decode cX9_isSlot 6 = .ok (.ireturn, 1) := by decide +kernel
theorem dX9_sheet_0 : decode cX9_sheet 0 = .ok (.iload_n 1, 1) := by decide +kernel
theorem dX9_sheet_1 : decode cX9_sheet 1 = .ok (.invokestatic 312, 3) := by decide +kernel
theorem dX9_sheet_4 : decode cX9_sheet 4 = .ok (.ifCond .eq 22, 3) := by decide +kernel
theorem dX9_sheet_7 : decode cX9_sheet 7 = .ok (.iload_n 2, 1) := by decide +kernel
theorem dX9_sheet_8 : decode cX9_sheet 8 = .ok (.iconst (-1), 1) := by decide +kernel
theorem dX9_sheet_9 : decode cX9_sheet 9 = .ok (.iconst 1, 1) := by decide +kernel
theorem dX9_sheet_10 : decode cX9_sheet 10 = .ok (.invokestatic 103, 3) := by decide +kernel
theorem dX9_sheet_13 : decode cX9_sheet 13 = .ok (.ifCond .eq 13, 3) := by decide +kernel
theorem dX9_sheet_16 : decode cX9_sheet 16 = .ok (.iload_n 2, 1) := by decide +kernel
theorem dX9_sheet_17 : decode cX9_sheet 17 = .ok (.ifCond .lt 12, 3) := by decide +kernel
theorem dX9_sheet_20 : decode cX9_sheet 20 = .ok (.iload_n 3, 1) := by decide +kernel
theorem dX9_sheet_21 : decode cX9_sheet 21 = .ok (.bipush 24, 2) := by decide +kernel
theorem dX9_sheet_23 : decode cX9_sheet 23 = .ok (.if_icmp .le 6, 3) := by decide +kernel
theorem dX9_sheet_26 : decode cX9_sheet 26 = .ok (.ldc 146, 2) := by decide +kernel
theorem dX9_sheet_28 : decode cX9_sheet 28 = .ok (.ireturn, 1) := by decide +kernel
theorem dX9_sheet_29 : decode cX9_sheet 29 = .ok (.iload_n 2, 1) := by decide +kernel
theorem dX9_sheet_30 : decode cX9_sheet 30 = .ok (.ifCond .lt 11, 3) := by decide +kernel
theorem dX9_sheet_33 : decode cX9_sheet 33 = .ok (.iload_n 3, 1) := by decide +kernel
theorem dX9_sheet_34 : decode cX9_sheet 34 = .ok (.ifCond .ge 7, 3) := by decide +kernel
theorem dX9_sheet_37 : decode cX9_sheet 37 = .ok (.ldc_w 315, 3) := by decide +kernel
theorem dX9_sheet_40 : decode cX9_sheet 40 = .ok (.ireturn, 1) := by decide +kernel
theorem dX9_sheet_41 : decode cX9_sheet 41 = .ok (.aload_n 0, 1) := by decide +kernel
theorem dX9_sheet_42 : decode cX9_sheet 42 = .ok (.getfield 76, 3) := by decide +kernel
theorem dX9_sheet_45 : decode cX9_sheet 45 = .ok (.iload_n 1, 1) := by decide +kernel
theorem dX9_sheet_46 : decode cX9_sheet 46 = .ok (.iload_n 2, 1) := by decide +kernel
theorem dX9_sheet_47 : decode cX9_sheet 47 = .ok (.iastore, 1) := by decide +kernel
theorem dX9_sheet_48 : decode cX9_sheet 48 = .ok (.aload_n 0, 1) := by decide +kernel
theorem dX9_sheet_49 : decode cX9_sheet 49 = .ok (.getfield 79, 3) := by decide +kernel
theorem dX9_sheet_52 : decode cX9_sheet 52 = .ok (.iload_n 1, 1) := by decide +kernel
theorem dX9_sheet_53 : decode cX9_sheet 53 = .ok (.iload_n 2, 1) := by decide +kernel
theorem dX9_sheet_54 : decode cX9_sheet 54 = .ok (.ifCond .ge 7, 3) := by decide +kernel
theorem dX9_sheet_57 : decode cX9_sheet 57 = .ok (.iconst 0, 1) := by decide +kernel
theorem dX9_sheet_58 : decode cX9_sheet 58 = .ok (.goto 4, 3) := by decide +kernel
theorem dX9_sheet_61 : decode cX9_sheet 61 = .ok (.iload_n 3, 1) := by decide +kernel
theorem dX9_sheet_62 : decode cX9_sheet 62 = .ok (.iastore, 1) := by decide +kernel
theorem dX9_sheet_63 : decode cX9_sheet 63 = .ok (.iconst 0, 1) := by decide +kernel
theorem dX9_sheet_64 : decode cX9_sheet 64 = .ok (.istore 4, 2) := by decide +kernel
theorem dX9_sheet_66 : decode cX9_sheet 66 = .ok (.iload 4, 2) := by decide +kernel
theorem dX9_sheet_68 : decode cX9_sheet 68 = .ok (.bipush 24, 2) := by decide +kernel
theorem dX9_sheet_70 : decode cX9_sheet 70 = .ok (.if_icmp .ge 22, 3) := by decide +kernel
theorem dX9_sheet_73 : decode cX9_sheet 73 = .ok (.aload_n 0, 1) := by decide +kernel
theorem dX9_sheet_74 : decode cX9_sheet 74 = .ok (.getfield 82, 3) := by decide +kernel
theorem dX9_sheet_77 : decode cX9_sheet 77 = .ok (.bipush 24, 2) := by decide +kernel
theorem dX9_sheet_79 : decode cX9_sheet 79 = .ok (.iload_n 1, 1) := by decide +kernel
theorem dX9_sheet_80 : decode cX9_sheet 80 = .ok (.imul, 1) := by decide +kernel
theorem dX9_sheet_81 : decode cX9_sheet 81 = .ok (.iload 4, 2) := by decide +kernel
theorem dX9_sheet_83 : decode cX9_sheet 83 = .ok (.iadd, 1) := by decide +kernel
theorem dX9_sheet_84 : decode cX9_sheet 84 = .ok (.iconst 0, 1) := by decide +kernel
theorem dX9_sheet_85 : decode cX9_sheet 85 = .ok (.iastore, 1) := by decide +kernel
theorem dX9_sheet_86 : decode cX9_sheet 86 = .ok (.iinc 4 1, 3) := by decide +kernel
theorem dX9_sheet_89 : decode cX9_sheet 89 = .ok (.goto (-23), 3) := by decide +kernel
theorem dX9_sheet_92 : decode cX9_sheet 92 = .ok (.aload_n 0, 1) := by decide +kernel
theorem dX9_sheet_93 : decode cX9_sheet 93 = .ok (.getfield 79, 3) := by decide +kernel
theorem dX9_sheet_96 : decode cX9_sheet 96 = .ok (.iload_n 1, 1) := by decide +kernel
theorem dX9_sheet_97 : decode cX9_sheet 97 = .ok (.iaload, 1) := by decide +kernel
theorem dX9_sheet_98 : decode cX9_sheet 98 = .ok (.ireturn, 1) := by decide +kernel
theorem dX9_mark_0 : decode cX9_mark 0 = .ok (.iload_n 1, 1) := by decide +kernel
theorem dX9_mark_1 : decode cX9_mark 1 = .ok (.invokestatic 312, 3) := by decide +kernel
theorem dX9_mark_4 : decode cX9_mark 4 = .ok (.ifCond .ne 6, 3) := by decide +kernel
theorem dX9_mark_7 : decode cX9_mark 7 = .ok (.ldc 146, 2) := by decide +kernel
theorem dX9_mark_9 : decode cX9_mark 9 = .ok (.ireturn, 1) := by decide +kernel
theorem dX9_mark_10 : decode cX9_mark 10 = .ok (.aload_n 0, 1) := by decide +kernel
theorem dX9_mark_11 : decode cX9_mark 11 = .ok (.getfield 76, 3) := by decide +kernel
theorem dX9_mark_14 : decode cX9_mark 14 = .ok (.iload_n 1, 1) := by decide +kernel
theorem dX9_mark_15 : decode cX9_mark 15 = .ok (.iaload, 1) := by decide +kernel
theorem dX9_mark_16 : decode cX9_mark 16 = .ok (.ifCond .ge 7, 3) := by decide +kernel
theorem dX9_mark_19 : decode cX9_mark 19 = .ok (.ldc_w 316, 3) := by decide +kernel
theorem dX9_mark_22 : decode cX9_mark 22 = .ok (.ireturn, 1) := by decide +kernel
theorem dX9_mark_23 : decode cX9_mark 23 = .ok (.iload_n 2, 1) := by decide +kernel
theorem dX9_mark_24 : decode cX9_mark 24 = .ok (.iconst 0, 1) := by decide +kernel
theorem dX9_mark_25 : decode cX9_mark 25 = .ok (.aload_n 0, 1) := by decide +kernel
theorem dX9_mark_26 : decode cX9_mark 26 = .ok (.getfield 79, 3) := by decide +kernel
theorem dX9_mark_29 : decode cX9_mark 29 = .ok (.iload_n 1, 1) := by decide +kernel
theorem dX9_mark_30 : decode cX9_mark 30 = .ok (.iaload, 1) := by decide +kernel
theorem dX9_mark_31 : decode cX9_mark 31 = .ok (.iconst 1, 1) := by decide +kernel
theorem dX9_mark_32 : decode cX9_mark 32 = .ok (.isub, 1) := by decide +kernel
theorem dX9_mark_33 : decode cX9_mark 33 = .ok (.invokestatic 103, 3) := by decide +kernel
theorem dX9_mark_36 : decode cX9_mark 36 = .ok (.ifCond .ne 7, 3) := by decide +kernel
theorem dX9_mark_39 : decode cX9_mark 39 = .ok (.ldc_w 317, 3) := by decide +kernel
theorem dX9_mark_42 : decode cX9_mark 42 = .ok (.ireturn, 1) := by decide +kernel
theorem dX9_mark_43 : decode cX9_mark 43 = .ok (.aload_n 0, 1) := by decide +kernel
theorem dX9_mark_44 : decode cX9_mark 44 = .ok (.getfield 76, 3) := by decide +kernel
theorem dX9_mark_47 : decode cX9_mark 47 = .ok (.iload_n 1, 1) := by decide +kernel
theorem dX9_mark_48 : decode cX9_mark 48 = .ok (.iaload, 1) := by decide +kernel
theorem dX9_mark_49 : decode cX9_mark 49 = .ok (.ifCond .ne 12, 3) := by decide +kernel
theorem dX9_mark_52 : decode cX9_mark 52 = .ok (.iload_n 3, 1) := by decide +kernel
theorem dX9_mark_53 : decode cX9_mark 53 = .ok (.ldc 115, 2) := by decide +kernel
theorem dX9_mark_55 : decode cX9_mark 55 = .ok (.if_icmp .ne 6, 3) := by decide +kernel
theorem dX9_mark_58 : decode cX9_mark 58 = .ok (.ldc 171, 2) := by decide +kernel
theorem dX9_mark_60 : decode cX9_mark 60 = .ok (.ireturn, 1) := by decide +kernel
theorem dX9_mark_61 : decode cX9_mark 61 = .ok (.aload_n 0, 1) := by decide +kernel
theorem dX9_mark_62 : decode cX9_mark 62 = .ok (.getfield 76, 3) := by decide +kernel
theorem dX9_mark_65 : decode cX9_mark 65 = .ok (.iload_n 1, 1) := by decide +kernel
theorem dX9_mark_66 : decode cX9_mark 66 = .ok (.iaload, 1) := by decide +kernel
theorem dX9_mark_67 : decode cX9_mark 67 = .ok (.iconst 1, 1) := by decide +kernel
theorem dX9_mark_68 : decode cX9_mark 68 = .ok (.if_icmp .ne 25, 3) := by decide +kernel
theorem dX9_mark_71 : decode cX9_mark 71 = .ok (.iload_n 3, 1) := by decide +kernel
theorem dX9_mark_72 : decode cX9_mark 72 = .ok (.ldc 115, 2) := by decide +kernel
theorem dX9_mark_74 : decode cX9_mark 74 = .ok (.if_icmp .eq 19, 3) := by decide +kernel
theorem dX9_mark_77 : decode cX9_mark 77 = .ok (.iload_n 3, 1) := by decide +kernel
theorem dX9_mark_78 : decode cX9_mark 78 = .ok (.ldc_w 318, 3) := by decide +kernel
theorem dX9_mark_81 : decode cX9_mark 81 = .ok (.ldc_w 319, 3) := by decide +kernel
theorem dX9_mark_84 : decode cX9_mark 84 = .ok (.invokestatic 103, 3) := by decide +kernel
theorem dX9_mark_87 : decode cX9_mark 87 = .ok (.ifCond .ne 6, 3) := by decide +kernel
theorem dX9_mark_90 : decode cX9_mark 90 = .ok (.ldc 146, 2) := by decide +kernel
theorem dX9_mark_92 : decode cX9_mark 92 = .ok (.ireturn, 1) := by decide +kernel
theorem dX9_mark_93 : decode cX9_mark 93 = .ok (.aload_n 0, 1) := by decide +kernel
theorem dX9_mark_94 : decode cX9_mark 94 = .ok (.getfield 82, 3) := by decide +kernel
theorem dX9_mark_97 : decode cX9_mark 97 = .ok (.bipush 24, 2) := by decide +kernel
theorem dX9_mark_99 : decode cX9_mark 99 = .ok (.iload_n 1, 1) := by decide +kernel
theorem dX9_mark_100 : decode cX9_mark 100 = .ok (.imul, 1) := by decide +kernel
theorem dX9_mark_101 : decode cX9_mark 101 = .ok (.iload_n 2, 1) := by decide +kernel
theorem dX9_mark_102 : decode cX9_mark 102 = .ok (.iadd, 1) := by decide +kernel
theorem dX9_mark_103 : decode cX9_mark 103 = .ok (.aload_n 0, 1) := by decide +kernel
theorem dX9_mark_104 : decode cX9_mark 104 = .ok (.getfield 76, 3) := by decide +kernel
theorem dX9_mark_107 : decode cX9_mark 107 = .ok (.iload_n 1, 1) := by decide +kernel
theorem dX9_mark_108 : decode cX9_mark 108 = .ok (.iaload, 1) := by decide +kernel
theorem dX9_mark_109 : decode cX9_mark 109 = .ok (.ifCond .ne 8, 3) := by decide +kernel
theorem dX9_mark_112 : decode cX9_mark 112 = .ok (.iload_n 3, 1) := by decide +kernel
theorem dX9_mark_113 : decode cX9_mark 113 = .ok (.i2s, 1) := by decide +kernel
theorem dX9_mark_114 : decode cX9_mark 114 = .ok (.goto 4, 3) := by decide +kernel
theorem dX9_mark_117 : decode cX9_mark 117 = .ok (.iload_n 3, 1) := by decide +kernel
theorem dX9_mark_118 : decode cX9_mark 118 = .ok (.iastore, 1) := by decide +kernel
theorem dX9_mark_119 : decode cX9_mark 119 = .ok (.iconst 1, 1) := by decide +kernel
theorem dX9_mark_120 : decode cX9_mark 120 = .ok (.ireturn, 1) := by decide +kernel
theorem dX9_pour_0 : decode cX9_pour 0 = .ok (.iload_n 1, 1) := by decide +kernel
theorem dX9_pour_1 : decode cX9_pour 1 = .ok (.invokestatic 312, 3) := by decide +kernel
theorem dX9_pour_4 : decode cX9_pour 4 = .ok (.ifCond .eq 11, 3) := by decide +kernel
theorem dX9_pour_7 : decode cX9_pour 7 = .ok (.aload_n 0, 1) := by decide +kernel
theorem dX9_pour_8 : decode cX9_pour 8 = .ok (.iload_n 2, 1) := by decide +kernel
theorem dX9_pour_9 : decode cX9_pour 9 = .ok (.invokevirtual 152, 3) := by decide +kernel
theorem dX9_pour_12 : decode cX9_pour 12 = .ok (.ifCond .ne 6, 3) := by decide +kernel
theorem dX9_pour_15 : decode cX9_pour 15 = .ok (.ldc 146, 2) := by decide +kernel
theorem dX9_pour_17 : decode cX9_pour 17 = .ok (.ireturn, 1) := by decide +kernel
theorem dX9_pour_18 : decode cX9_pour 18 = .ok (.aload_n 0, 1) := by decide +kernel
theorem dX9_pour_19 : decode cX9_pour 19 = .ok (.getfield 76, 3) := by decide +kernel
theorem dX9_pour_22 : decode cX9_pour 22 = .ok (.iload_n 1, 1) := by decide +kernel
theorem dX9_pour_23 : decode cX9_pour 23 = .ok (.iaload, 1) := by decide +kernel
theorem dX9_pour_24 : decode cX9_pour 24 = .ok (.ifCond .ge 7, 3) := by decide +kernel
theorem dX9_pour_27 : decode cX9_pour 27 = .ok (.ldc_w 316, 3) := by decide +kernel
theorem dX9_pour_30 : decode cX9_pour 30 = .ok (.ireturn, 1) := by decide +kernel
theorem dX9_pour_31 : decode cX9_pour 31 = .ok (.aload_n 0, 1) := by decide +kernel
theorem dX9_pour_32 : decode cX9_pour 32 = .ok (.getfield 79, 3) := by decide +kernel
theorem dX9_pour_35 : decode cX9_pour 35 = .ok (.iload_n 1, 1) := by decide +kernel
theorem dX9_pour_36 : decode cX9_pour 36 = .ok (.iaload, 1) := by decide +kernel
theorem dX9_pour_37 : decode cX9_pour 37 = .ok (.iconst 3, 1) := by decide +kernel
theorem dX9_pour_38 : decode cX9_pour 38 = .ok (.if_icmp .ge 7, 3) := by decide +kernel
theorem dX9_pour_41 : decode cX9_pour 41 = .ok (.ldc_w 317, 3) := by decide +kernel
theorem dX9_pour_44 : decode cX9_pour 44 = .ok (.ireturn, 1) := by decide +kernel
theorem dX9_pour_45 : decode cX9_pour 45 = .ok (.aload_n 0, 1) := by decide +kernel
theorem dX9_pour_46 : decode cX9_pour 46 = .ok (.getfield 82, 3) := by decide +kernel
theorem dX9_pour_49 : decode cX9_pour 49 = .ok (.bipush 24, 2) := by decide +kernel
theorem dX9_pour_51 : decode cX9_pour 51 = .ok (.iload_n 1, 1) := by decide +kernel
theorem dX9_pour_52 : decode cX9_pour 52 = .ok (.imul, 1) := by decide +kernel
theorem dX9_pour_53 : decode cX9_pour 53 = .ok (.iaload, 1) := by decide +kernel
theorem dX9_pour_54 : decode cX9_pour 54 = .ok (.istore_n 3, 1) := by decide +kernel
theorem dX9_pour_55 : decode cX9_pour 55 = .ok (.aload_n 0, 1) := by decide +kernel
theorem dX9_pour_56 : decode cX9_pour 56 = .ok (.getfield 82, 3) := by decide +kernel
theorem dX9_pour_59 : decode cX9_pour 59 = .ok (.bipush 24, 2) := by decide +kernel
theorem dX9_pour_61 : decode cX9_pour 61 = .ok (.iload_n 1, 1) := by decide +kernel
theorem dX9_pour_62 : decode cX9_pour 62 = .ok (.imul, 1) := by decide +kernel
theorem dX9_pour_63 : decode cX9_pour 63 = .ok (.iconst 1, 1) := by decide +kernel
theorem dX9_pour_64 : decode cX9_pour 64 = .ok (.iadd, 1) := by decide +kernel
theorem dX9_pour_65 : decode cX9_pour 65 = .ok (.iaload, 1) := by decide +kernel
theorem dX9_pour_66 : decode cX9_pour 66 = .ok (.istore 4, 2) := by decide +kernel
theorem dX9_pour_68 : decode cX9_pour 68 = .ok (.aload_n 0, 1) := by decide +kernel
theorem dX9_pour_69 : decode cX9_pour 69 = .ok (.getfield 82, 3) := by decide +kernel
theorem dX9_pour_72 : decode cX9_pour 72 = .ok (.bipush 24, 2) := by decide +kernel
theorem dX9_pour_74 : decode cX9_pour 74 = .ok (.iload_n 1, 1) := by decide +kernel
theorem dX9_pour_75 : decode cX9_pour 75 = .ok (.imul, 1) := by decide +kernel
theorem dX9_pour_76 : decode cX9_pour 76 = .ok (.iconst 2, 1) := by decide +kernel
theorem dX9_pour_77 : decode cX9_pour 77 = .ok (.iadd, 1) := by decide +kernel
theorem dX9_pour_78 : decode cX9_pour 78 = .ok (.iaload, 1) := by decide +kernel
theorem dX9_pour_79 : decode cX9_pour 79 = .ok (.istore 5, 2) := by decide +kernel
theorem dX9_pour_81 : decode cX9_pour 81 = .ok (.iload_n 3, 1) := by decide +kernel
theorem dX9_pour_82 : decode cX9_pour 82 = .ok (.ldc 115, 2) := by decide +kernel
theorem dX9_pour_84 : decode cX9_pour 84 = .ok (.if_icmp .eq 17, 3) := by decide +kernel
theorem dX9_pour_87 : decode cX9_pour 87 = .ok (.iload 4, 2) := by decide +kernel
theorem dX9_pour_89 : decode cX9_pour 89 = .ok (.ldc 115, 2) := by decide +kernel
theorem dX9_pour_91 : decode cX9_pour 91 = .ok (.if_icmp .eq 10, 3) := by decide +kernel
theorem dX9_pour_94 : decode cX9_pour 94 = .ok (.iload 5, 2) := by decide +kernel
theorem dX9_pour_96 : decode cX9_pour 96 = .ok (.ldc 115, 2) := by decide +kernel
theorem dX9_pour_98 : decode cX9_pour 98 = .ok (.if_icmp .ne 6, 3) := by decide +kernel
theorem dX9_pour_101 : decode cX9_pour 101 = .ok (.ldc 171, 2) := by decide +kernel
theorem dX9_pour_103 : decode cX9_pour 103 = .ok (.ireturn, 1) := by decide +kernel
theorem dX9_pour_104 : decode cX9_pour 104 = .ok (.iload_n 3, 1) := by decide +kernel
theorem dX9_pour_105 : decode cX9_pour 105 = .ok (.iload 4, 2) := by decide +kernel
theorem dX9_pour_107 : decode cX9_pour 107 = .ok (.iload 5, 2) := by decide +kernel
theorem dX9_pour_109 : decode cX9_pour 109 = .ok (.invokestatic 175, 3) := by decide +kernel
theorem dX9_pour_112 : decode cX9_pour 112 = .ok (.ifCond .eq 16, 3) := by decide +kernel
theorem dX9_pour_115 : decode cX9_pour 115 = .ok (.aload_n 0, 1) := by decide +kernel
theorem dX9_pour_116 : decode cX9_pour 116 = .ok (.iload_n 2, 1) := by decide +kernel
theorem dX9_pour_117 : decode cX9_pour 117 = .ok (.iload_n 3, 1) := by decide +kernel
theorem dX9_pour_118 : decode cX9_pour 118 = .ok (.iload 4, 2) := by decide +kernel
theorem dX9_pour_120 : decode cX9_pour 120 = .ok (.iload 5, 2) := by decide +kernel
theorem dX9_pour_122 : decode cX9_pour 122 = .ok (.invokevirtual 178, 3) := by decide +kernel
theorem dX9_pour_125 : decode cX9_pour 125 = .ok (.goto 5, 3) := by decide +kernel
theorem dX9_pour_128 : decode cX9_pour 128 = .ok (.ldc 146, 2) := by decide +kernel
theorem dX9_pour_130 : decode cX9_pour 130 = .ok (.ireturn, 1) := by decide +kernel
theorem dX9_reads_0 : decode cX9_reads 0 = .ok (.iload_n 1, 1) := by decide +kernel
theorem dX9_reads_1 : decode cX9_reads 1 = .ok (.invokestatic 312, 3) := by decide +kernel
theorem dX9_reads_4 : decode cX9_reads 4 = .ok (.ifCond .eq 11, 3) := by decide +kernel
theorem dX9_reads_7 : decode cX9_reads 7 = .ok (.aload_n 0, 1) := by decide +kernel
theorem dX9_reads_8 : decode cX9_reads 8 = .ok (.iload_n 2, 1) := by decide +kernel
theorem dX9_reads_9 : decode cX9_reads 9 = .ok (.invokevirtual 152, 3) := by decide +kernel
theorem dX9_reads_12 : decode cX9_reads 12 = .ok (.ifCond .ne 6, 3) := by decide +kernel
theorem dX9_reads_15 : decode cX9_reads 15 = .ok (.ldc 146, 2) := by decide +kernel
theorem dX9_reads_17 : decode cX9_reads 17 = .ok (.ireturn, 1) := by decide +kernel
theorem dX9_reads_18 : decode cX9_reads 18 = .ok (.aload_n 0, 1) := by decide +kernel
theorem dX9_reads_19 : decode cX9_reads 19 = .ok (.getfield 76, 3) := by decide +kernel
theorem dX9_reads_22 : decode cX9_reads 22 = .ok (.iload_n 1, 1) := by decide +kernel
theorem dX9_reads_23 : decode cX9_reads 23 = .ok (.iaload, 1) := by decide +kernel
theorem dX9_reads_24 : decode cX9_reads 24 = .ok (.ifCond .ge 7, 3) := by decide +kernel
theorem dX9_reads_27 : decode cX9_reads 27 = .ok (.ldc_w 316, 3) := by decide +kernel
theorem dX9_reads_30 : decode cX9_reads 30 = .ok (.ireturn, 1) := by decide +kernel
theorem dX9_reads_31 : decode cX9_reads 31 = .ok (.aload_n 0, 1) := by decide +kernel
theorem dX9_reads_32 : decode cX9_reads 32 = .ok (.invokevirtual 155, 3) := by decide +kernel
theorem dX9_reads_35 : decode cX9_reads 35 = .ok (.iconst 0, 1) := by decide +kernel
theorem dX9_reads_36 : decode cX9_reads 36 = .ok (.istore_n 3, 1) := by decide +kernel
theorem dX9_reads_37 : decode cX9_reads 37 = .ok (.iload_n 3, 1) := by decide +kernel
theorem dX9_reads_38 : decode cX9_reads 38 = .ok (.aload_n 0, 1) := by decide +kernel
theorem dX9_reads_39 : decode cX9_reads 39 = .ok (.getfield 79, 3) := by decide +kernel
theorem dX9_reads_42 : decode cX9_reads 42 = .ok (.iload_n 1, 1) := by decide +kernel
theorem dX9_reads_43 : decode cX9_reads 43 = .ok (.iaload, 1) := by decide +kernel
theorem dX9_reads_44 : decode cX9_reads 44 = .ok (.if_icmp .ge 47, 3) := by decide +kernel
theorem dX9_reads_47 : decode cX9_reads 47 = .ok (.aload_n 0, 1) := by decide +kernel
theorem dX9_reads_48 : decode cX9_reads 48 = .ok (.getfield 82, 3) := by decide +kernel
theorem dX9_reads_51 : decode cX9_reads 51 = .ok (.bipush 24, 2) := by decide +kernel
theorem dX9_reads_53 : decode cX9_reads 53 = .ok (.iload_n 1, 1) := by decide +kernel
theorem dX9_reads_54 : decode cX9_reads 54 = .ok (.imul, 1) := by decide +kernel
theorem dX9_reads_55 : decode cX9_reads 55 = .ok (.iload_n 3, 1) := by decide +kernel
theorem dX9_reads_56 : decode cX9_reads 56 = .ok (.iadd, 1) := by decide +kernel
theorem dX9_reads_57 : decode cX9_reads 57 = .ok (.iaload, 1) := by decide +kernel
theorem dX9_reads_58 : decode cX9_reads 58 = .ok (.istore 4, 2) := by decide +kernel
theorem dX9_reads_60 : decode cX9_reads 60 = .ok (.iload 4, 2) := by decide +kernel
theorem dX9_reads_62 : decode cX9_reads 62 = .ok (.ldc 115, 2) := by decide +kernel
theorem dX9_reads_64 : decode cX9_reads 64 = .ok (.if_icmp .eq 21, 3) := by decide +kernel
theorem dX9_reads_67 : decode cX9_reads 67 = .ok (.iload_n 3, 1) := by decide +kernel
theorem dX9_reads_68 : decode cX9_reads 68 = .ok (.iconst 3, 1) := by decide +kernel
theorem dX9_reads_69 : decode cX9_reads 69 = .ok (.if_icmp .gt 14, 3) := by decide +kernel
theorem dX9_reads_72 : decode cX9_reads 72 = .ok (.iload 4, 2) := by decide +kernel
theorem dX9_reads_74 : decode cX9_reads 74 = .ok (.aload_n 0, 1) := by decide +kernel
theorem dX9_reads_75 : decode cX9_reads 75 = .ok (.iload_n 2, 1) := by decide +kernel
theorem dX9_reads_76 : decode cX9_reads 76 = .ok (.iload_n 3, 1) := by decide +kernel
theorem dX9_reads_77 : decode cX9_reads 77 = .ok (.invokevirtual 158, 3) := by decide +kernel
theorem dX9_reads_80 : decode cX9_reads 80 = .ok (.if_icmp .eq 5, 3) := by decide +kernel
theorem dX9_reads_83 : decode cX9_reads 83 = .ok (.iload_n 3, 1) := by decide +kernel
theorem dX9_reads_84 : decode cX9_reads 84 = .ok (.ireturn, 1) := by decide +kernel
theorem dX9_reads_85 : decode cX9_reads 85 = .ok (.iinc 3 1, 3) := by decide +kernel
theorem dX9_reads_88 : decode cX9_reads 88 = .ok (.goto (-51), 3) := by decide +kernel
theorem dX9_reads_91 : decode cX9_reads 91 = .ok (.ldc 115, 2) := by decide +kernel
theorem dX9_reads_93 : decode cX9_reads 93 = .ok (.ireturn, 1) := by decide +kernel
theorem dX9_copy_0 : decode cX9_copy 0 = .ok (.iload_n 1, 1) := by decide +kernel
theorem dX9_copy_1 : decode cX9_copy 1 = .ok (.invokestatic 312, 3) := by decide +kernel
theorem dX9_copy_4 : decode cX9_copy 4 = .ok (.ifCond .eq 10, 3) := by decide +kernel
theorem dX9_copy_7 : decode cX9_copy 7 = .ok (.iload_n 3, 1) := by decide +kernel
theorem dX9_copy_8 : decode cX9_copy 8 = .ok (.invokestatic 312, 3) := by decide +kernel
theorem dX9_copy_11 : decode cX9_copy 11 = .ok (.ifCond .ne 6, 3) := by decide +kernel
theorem dX9_copy_14 : decode cX9_copy 14 = .ok (.ldc 146, 2) := by decide +kernel
theorem dX9_copy_16 : decode cX9_copy 16 = .ok (.ireturn, 1) := by decide +kernel
theorem dX9_copy_17 : decode cX9_copy 17 = .ok (.aload_n 0, 1) := by decide +kernel
theorem dX9_copy_18 : decode cX9_copy 18 = .ok (.getfield 76, 3) := by decide +kernel
theorem dX9_copy_21 : decode cX9_copy 21 = .ok (.iload_n 1, 1) := by decide +kernel
theorem dX9_copy_22 : decode cX9_copy 22 = .ok (.iaload, 1) := by decide +kernel
theorem dX9_copy_23 : decode cX9_copy 23 = .ok (.ifCond .lt 12, 3) := by decide +kernel
theorem dX9_copy_26 : decode cX9_copy 26 = .ok (.aload_n 0, 1) := by decide +kernel
theorem dX9_copy_27 : decode cX9_copy 27 = .ok (.getfield 76, 3) := by decide +kernel
theorem dX9_copy_30 : decode cX9_copy 30 = .ok (.iload_n 3, 1) := by decide +kernel
theorem dX9_copy_31 : decode cX9_copy 31 = .ok (.iaload, 1) := by decide +kernel
theorem dX9_copy_32 : decode cX9_copy 32 = .ok (.ifCond .ge 7, 3) := by decide +kernel
theorem dX9_copy_35 : decode cX9_copy 35 = .ok (.ldc_w 316, 3) := by decide +kernel
theorem dX9_copy_38 : decode cX9_copy 38 = .ok (.ireturn, 1) := by decide +kernel
theorem dX9_copy_39 : decode cX9_copy 39 = .ok (.aload_n 0, 1) := by decide +kernel
theorem dX9_copy_40 : decode cX9_copy 40 = .ok (.getfield 76, 3) := by decide +kernel
theorem dX9_copy_43 : decode cX9_copy 43 = .ok (.iload_n 1, 1) := by decide +kernel
theorem dX9_copy_44 : decode cX9_copy 44 = .ok (.iaload, 1) := by decide +kernel
theorem dX9_copy_45 : decode cX9_copy 45 = .ok (.aload_n 0, 1) := by decide +kernel
theorem dX9_copy_46 : decode cX9_copy 46 = .ok (.getfield 76, 3) := by decide +kernel
theorem dX9_copy_49 : decode cX9_copy 49 = .ok (.iload_n 3, 1) := by decide +kernel
theorem dX9_copy_50 : decode cX9_copy 50 = .ok (.iaload, 1) := by decide +kernel
theorem dX9_copy_51 : decode cX9_copy 51 = .ok (.if_icmp .eq 6, 3) := by decide +kernel
theorem dX9_copy_54 : decode cX9_copy 54 = .ok (.ldc 171, 2) := by decide +kernel
theorem dX9_copy_56 : decode cX9_copy 56 = .ok (.ireturn, 1) := by decide +kernel
theorem dX9_copy_57 : decode cX9_copy 57 = .ok (.iload_n 2, 1) := by decide +kernel
theorem dX9_copy_58 : decode cX9_copy 58 = .ok (.ifCond .lt 40, 3) := by decide +kernel
theorem dX9_copy_61 : decode cX9_copy 61 = .ok (.iload 4, 2) := by decide +kernel
theorem dX9_copy_63 : decode cX9_copy 63 = .ok (.ifCond .lt 35, 3) := by decide +kernel
theorem dX9_copy_66 : decode cX9_copy 66 = .ok (.iload 5, 2) := by decide +kernel
theorem dX9_copy_68 : decode cX9_copy 68 = .ok (.ifCond .lt 30, 3) := by decide +kernel
theorem dX9_copy_71 : decode cX9_copy 71 = .ok (.iload_n 2, 1) := by decide +kernel
theorem dX9_copy_72 : decode cX9_copy 72 = .ok (.aload_n 0, 1) := by decide +kernel
theorem dX9_copy_73 : decode cX9_copy 73 = .ok (.getfield 79, 3) := by decide +kernel
theorem dX9_copy_76 : decode cX9_copy 76 = .ok (.iload_n 1, 1) := by decide +kernel
theorem dX9_copy_77 : decode cX9_copy 77 = .ok (.iaload, 1) := by decide +kernel
theorem dX9_copy_78 : decode cX9_copy 78 = .ok (.iload 5, 2) := by decide +kernel
theorem dX9_copy_80 : decode cX9_copy 80 = .ok (.isub, 1) := by decide +kernel
theorem dX9_copy_81 : decode cX9_copy 81 = .ok (.if_icmp .gt 17, 3) := by decide +kernel
theorem dX9_copy_84 : decode cX9_copy 84 = .ok (.iload 4, 2) := by decide +kernel
theorem dX9_copy_86 : decode cX9_copy 86 = .ok (.aload_n 0, 1) := by decide +kernel
theorem dX9_copy_87 : decode cX9_copy 87 = .ok (.getfield 79, 3) := by decide +kernel
theorem dX9_copy_90 : decode cX9_copy 90 = .ok (.iload_n 3, 1) := by decide +kernel
theorem dX9_copy_91 : decode cX9_copy 91 = .ok (.iaload, 1) := by decide +kernel
theorem dX9_copy_92 : decode cX9_copy 92 = .ok (.iload 5, 2) := by decide +kernel
theorem dX9_copy_94 : decode cX9_copy 94 = .ok (.isub, 1) := by decide +kernel
theorem dX9_copy_95 : decode cX9_copy 95 = .ok (.if_icmp .le 7, 3) := by decide +kernel
theorem dX9_copy_98 : decode cX9_copy 98 = .ok (.ldc_w 317, 3) := by decide +kernel
theorem dX9_copy_101 : decode cX9_copy 101 = .ok (.ireturn, 1) := by decide +kernel
theorem dX9_copy_102 : decode cX9_copy 102 = .ok (.iconst 0, 1) := by decide +kernel
theorem dX9_copy_103 : decode cX9_copy 103 = .ok (.istore 6, 2) := by decide +kernel
theorem dX9_copy_105 : decode cX9_copy 105 = .ok (.iload 6, 2) := by decide +kernel
theorem dX9_copy_107 : decode cX9_copy 107 = .ok (.iload 5, 2) := by decide +kernel
theorem dX9_copy_109 : decode cX9_copy 109 = .ok (.if_icmp .ge 30, 3) := by decide +kernel
theorem dX9_copy_112 : decode cX9_copy 112 = .ok (.aload_n 0, 1) := by decide +kernel
theorem dX9_copy_113 : decode cX9_copy 113 = .ok (.getfield 97, 3) := by decide +kernel
theorem dX9_copy_116 : decode cX9_copy 116 = .ok (.iload 6, 2) := by decide +kernel
theorem dX9_copy_118 : decode cX9_copy 118 = .ok (.aload_n 0, 1) := by decide +kernel
theorem dX9_copy_119 : decode cX9_copy 119 = .ok (.getfield 82, 3) := by decide +kernel
theorem dX9_copy_122 : decode cX9_copy 122 = .ok (.bipush 24, 2) := by decide +kernel
theorem dX9_copy_124 : decode cX9_copy 124 = .ok (.iload_n 1, 1) := by decide +kernel
theorem dX9_copy_125 : decode cX9_copy 125 = .ok (.imul, 1) := by decide +kernel
theorem dX9_copy_126 : decode cX9_copy 126 = .ok (.iload_n 2, 1) := by decide +kernel
theorem dX9_copy_127 : decode cX9_copy 127 = .ok (.iadd, 1) := by decide +kernel
theorem dX9_copy_128 : decode cX9_copy 128 = .ok (.iload 6, 2) := by decide +kernel
theorem dX9_copy_130 : decode cX9_copy 130 = .ok (.iadd, 1) := by decide +kernel
theorem dX9_copy_131 : decode cX9_copy 131 = .ok (.iaload, 1) := by decide +kernel
theorem dX9_copy_132 : decode cX9_copy 132 = .ok (.iastore, 1) := by decide +kernel
theorem dX9_copy_133 : decode cX9_copy 133 = .ok (.iinc 6 1, 3) := by decide +kernel
theorem dX9_copy_136 : decode cX9_copy 136 = .ok (.goto (-31), 3) := by decide +kernel
theorem dX9_copy_139 : decode cX9_copy 139 = .ok (.iconst 0, 1) := by decide +kernel
theorem dX9_copy_140 : decode cX9_copy 140 = .ok (.istore 6, 2) := by decide +kernel
theorem dX9_copy_142 : decode cX9_copy 142 = .ok (.iload 6, 2) := by decide +kernel
theorem dX9_copy_144 : decode cX9_copy 144 = .ok (.iload 5, 2) := by decide +kernel
theorem dX9_copy_146 : decode cX9_copy 146 = .ok (.if_icmp .ge 31, 3) := by decide +kernel
theorem dX9_copy_149 : decode cX9_copy 149 = .ok (.aload_n 0, 1) := by decide +kernel
theorem dX9_copy_150 : decode cX9_copy 150 = .ok (.getfield 82, 3) := by decide +kernel
theorem dX9_copy_153 : decode cX9_copy 153 = .ok (.bipush 24, 2) := by decide +kernel
theorem dX9_copy_155 : decode cX9_copy 155 = .ok (.iload_n 3, 1) := by decide +kernel
theorem dX9_copy_156 : decode cX9_copy 156 = .ok (.imul, 1) := by decide +kernel
theorem dX9_copy_157 : decode cX9_copy 157 = .ok (.iload 4, 2) := by decide +kernel
theorem dX9_copy_159 : decode cX9_copy 159 = .ok (.iadd, 1) := by decide +kernel
theorem dX9_copy_160 : decode cX9_copy 160 = .ok (.iload 6, 2) := by decide +kernel
theorem dX9_copy_162 : decode cX9_copy 162 = .ok (.iadd, 1) := by decide +kernel
theorem dX9_copy_163 : decode cX9_copy 163 = .ok (.aload_n 0, 1) := by decide +kernel
theorem dX9_copy_164 : decode cX9_copy 164 = .ok (.getfield 97, 3) := by decide +kernel
theorem dX9_copy_167 : decode cX9_copy 167 = .ok (.iload 6, 2) := by decide +kernel
theorem dX9_copy_169 : decode cX9_copy 169 = .ok (.iaload, 1) := by decide +kernel
theorem dX9_copy_170 : decode cX9_copy 170 = .ok (.iastore, 1) := by decide +kernel
theorem dX9_copy_171 : decode cX9_copy 171 = .ok (.iinc 6 1, 3) := by decide +kernel
theorem dX9_copy_174 : decode cX9_copy 174 = .ok (.goto (-32), 3) := by decide +kernel
theorem dX9_copy_177 : decode cX9_copy 177 = .ok (.iload 5, 2) := by decide +kernel
theorem dX9_copy_179 : decode cX9_copy 179 = .ok (.ireturn, 1) := by decide +kernel
theorem dX9_lay_0 : decode cX9_lay 0 = .ok (.iload_n 1, 1) := by decide +kernel
theorem dX9_lay_1 : decode cX9_lay 1 = .ok (.invokestatic 320, 3) := by decide +kernel
theorem dX9_lay_4 : decode cX9_lay 4 = .ok (.ifCond .eq 37, 3) := by decide +kernel
theorem dX9_lay_7 : decode cX9_lay 7 = .ok (.iload_n 2, 1) := by decide +kernel
theorem dX9_lay_8 : decode cX9_lay 8 = .ok (.iconst 0, 1) := by decide +kernel
theorem dX9_lay_9 : decode cX9_lay 9 = .ok (.iconst 3, 1) := by decide +kernel
theorem dX9_lay_10 : decode cX9_lay 10 = .ok (.invokestatic 103, 3) := by decide +kernel
theorem dX9_lay_13 : decode cX9_lay 13 = .ok (.ifCond .eq 28, 3) := by decide +kernel
theorem dX9_lay_16 : decode cX9_lay 16 = .ok (.iload_n 2, 1) := by decide +kernel
theorem dX9_lay_17 : decode cX9_lay 17 = .ok (.iconst 1, 1) := by decide +kernel
theorem dX9_lay_18 : decode cX9_lay 18 = .ok (.if_icmp .ne 11, 3) := by decide +kernel
theorem dX9_lay_21 : decode cX9_lay 21 = .ok (.aload_n 0, 1) := by decide +kernel
theorem dX9_lay_22 : decode cX9_lay 22 = .ok (.iload_n 3, 1) := by decide +kernel
theorem dX9_lay_23 : decode cX9_lay 23 = .ok (.invokevirtual 152, 3) := by decide +kernel
theorem dX9_lay_26 : decode cX9_lay 26 = .ok (.ifCond .eq 15, 3) := by decide +kernel
theorem dX9_lay_29 : decode cX9_lay 29 = .ok (.iload_n 2, 1) := by decide +kernel
theorem dX9_lay_30 : decode cX9_lay 30 = .ok (.iconst 2, 1) := by decide +kernel
theorem dX9_lay_31 : decode cX9_lay 31 = .ok (.if_icmp .ne 13, 3) := by decide +kernel
theorem dX9_lay_34 : decode cX9_lay 34 = .ok (.iload_n 3, 1) := by decide +kernel
theorem dX9_lay_35 : decode cX9_lay 35 = .ok (.invokestatic 312, 3) := by decide +kernel
theorem dX9_lay_38 : decode cX9_lay 38 = .ok (.ifCond .ne 6, 3) := by decide +kernel
theorem dX9_lay_41 : decode cX9_lay 41 = .ok (.ldc 146, 2) := by decide +kernel
theorem dX9_lay_43 : decode cX9_lay 43 = .ok (.ireturn, 1) := by decide +kernel
theorem dX9_lay_44 : decode cX9_lay 44 = .ok (.iload_n 2, 1) := by decide +kernel
theorem dX9_lay_45 : decode cX9_lay 45 = .ok (.iconst 2, 1) := by decide +kernel
theorem dX9_lay_46 : decode cX9_lay 46 = .ok (.if_icmp .ne 16, 3) := by decide +kernel
theorem dX9_lay_49 : decode cX9_lay 49 = .ok (.aload_n 0, 1) := by decide +kernel
theorem dX9_lay_50 : decode cX9_lay 50 = .ok (.getfield 76, 3) := by decide +kernel
theorem dX9_lay_53 : decode cX9_lay 53 = .ok (.iload_n 3, 1) := by decide +kernel
theorem dX9_lay_54 : decode cX9_lay 54 = .ok (.iaload, 1) := by decide +kernel
theorem dX9_lay_55 : decode cX9_lay 55 = .ok (.ifCond .ge 7, 3) := by decide +kernel
theorem dX9_lay_58 : decode cX9_lay 58 = .ok (.ldc_w 316, 3) := by decide +kernel
theorem dX9_lay_61 : decode cX9_lay 61 = .ok (.ireturn, 1) := by decide +kernel
theorem dX9_lay_62 : decode cX9_lay 62 = .ok (.aload_n 0, 1) := by decide +kernel
theorem dX9_lay_63 : decode cX9_lay 63 = .ok (.getfield 85, 3) := by decide +kernel
theorem dX9_lay_66 : decode cX9_lay 66 = .ok (.iload_n 1, 1) := by decide +kernel
theorem dX9_lay_67 : decode cX9_lay 67 = .ok (.iaload, 1) := by decide +kernel
theorem dX9_lay_68 : decode cX9_lay 68 = .ok (.istore 4, 2) := by decide +kernel
theorem dX9_lay_70 : decode cX9_lay 70 = .ok (.aload_n 0, 1) := by decide +kernel
theorem dX9_lay_71 : decode cX9_lay 71 = .ok (.getfield 85, 3) := by decide +kernel
theorem dX9_lay_74 : decode cX9_lay 74 = .ok (.iload_n 1, 1) := by decide +kernel
theorem dX9_lay_75 : decode cX9_lay 75 = .ok (.iload_n 2, 1) := by decide +kernel
theorem dX9_lay_76 : decode cX9_lay 76 = .ok (.iastore, 1) := by decide +kernel
theorem dX9_lay_77 : decode cX9_lay 77 = .ok (.aload_n 0, 1) := by decide +kernel
theorem dX9_lay_78 : decode cX9_lay 78 = .ok (.getfield 88, 3) := by decide +kernel
theorem dX9_lay_81 : decode cX9_lay 81 = .ok (.iload_n 1, 1) := by decide +kernel
theorem dX9_lay_82 : decode cX9_lay 82 = .ok (.iload_n 2, 1) := by decide +kernel
theorem dX9_lay_83 : decode cX9_lay 83 = .ok (.iconst 1, 1) := by decide +kernel
theorem dX9_lay_84 : decode cX9_lay 84 = .ok (.if_icmp .ne 12, 3) := by decide +kernel
theorem dX9_lay_87 : decode cX9_lay 87 = .ok (.aload_n 0, 1) := by decide +kernel
theorem dX9_lay_88 : decode cX9_lay 88 = .ok (.iload_n 3, 1) := by decide +kernel
theorem dX9_lay_89 : decode cX9_lay 89 = .ok (.iconst 0, 1) := by decide +kernel
theorem dX9_lay_90 : decode cX9_lay 90 = .ok (.invokevirtual 107, 3) := by decide +kernel
theorem dX9_lay_93 : decode cX9_lay 93 = .ok (.goto 18, 3) := by decide +kernel
theorem dX9_lay_96 : decode cX9_lay 96 = .ok (.iload_n 2, 1) := by decide +kernel
theorem dX9_lay_97 : decode cX9_lay 97 = .ok (.iconst 2, 1) := by decide +kernel
theorem dX9_lay_98 : decode cX9_lay 98 = .ok (.if_icmp .ne 12, 3) := by decide +kernel
theorem dX9_lay_101 : decode cX9_lay 101 = .ok (.aload_n 0, 1) := by decide +kernel
theorem dX9_lay_102 : decode cX9_lay 102 = .ok (.getfield 79, 3) := by decide +kernel
theorem dX9_lay_105 : decode cX9_lay 105 = .ok (.iload_n 3, 1) := by decide +kernel
theorem dX9_lay_106 : decode cX9_lay 106 = .ok (.iaload, 1) := by decide +kernel
theorem dX9_lay_107 : decode cX9_lay 107 = .ok (.goto 4, 3) := by decide +kernel
theorem dX9_lay_110 : decode cX9_lay 110 = .ok (.iload_n 3, 1) := by decide +kernel
theorem dX9_lay_111 : decode cX9_lay 111 = .ok (.iastore, 1) := by decide +kernel
theorem dX9_lay_112 : decode cX9_lay 112 = .ok (.aload_n 0, 1) := by decide +kernel
theorem dX9_lay_113 : decode cX9_lay 113 = .ok (.getfield 91, 3) := by decide +kernel
theorem dX9_lay_116 : decode cX9_lay 116 = .ok (.iload_n 1, 1) := by decide +kernel
theorem dX9_lay_117 : decode cX9_lay 117 = .ok (.iload_n 2, 1) := by decide +kernel
theorem dX9_lay_118 : decode cX9_lay 118 = .ok (.iconst 1, 1) := by decide +kernel
theorem dX9_lay_119 : decode cX9_lay 119 = .ok (.if_icmp .ne 21, 3) := by decide +kernel
theorem dX9_lay_122 : decode cX9_lay 122 = .ok (.aload_n 0, 1) := by decide +kernel
theorem dX9_lay_123 : decode cX9_lay 123 = .ok (.iload_n 3, 1) := by decide +kernel
theorem dX9_lay_124 : decode cX9_lay 124 = .ok (.iconst 0, 1) := by decide +kernel
theorem dX9_lay_125 : decode cX9_lay 125 = .ok (.invokevirtual 107, 3) := by decide +kernel
theorem dX9_lay_128 : decode cX9_lay 128 = .ok (.aload_n 0, 1) := by decide +kernel
theorem dX9_lay_129 : decode cX9_lay 129 = .ok (.iload_n 3, 1) := by decide +kernel
theorem dX9_lay_130 : decode cX9_lay 130 = .ok (.iconst 5, 1) := by decide +kernel
theorem dX9_lay_131 : decode cX9_lay 131 = .ok (.invokevirtual 107, 3) := by decide +kernel
theorem dX9_lay_134 : decode cX9_lay 134 = .ok (.invokestatic 164, 3) := by decide +kernel
theorem dX9_lay_137 : decode cX9_lay 137 = .ok (.goto 4, 3) := by decide +kernel
theorem dX9_lay_140 : decode cX9_lay 140 = .ok (.iconst 0, 1) := by decide +kernel
theorem dX9_lay_141 : decode cX9_lay 141 = .ok (.iastore, 1) := by decide +kernel
theorem dX9_lay_142 : decode cX9_lay 142 = .ok (.iconst 0, 1) := by decide +kernel
theorem dX9_lay_143 : decode cX9_lay 143 = .ok (.istore 5, 2) := by decide +kernel
theorem dX9_lay_145 : decode cX9_lay 145 = .ok (.iload 5, 2) := by decide +kernel
theorem dX9_lay_147 : decode cX9_lay 147 = .ok (.bipush 24, 2) := by decide +kernel
theorem dX9_lay_149 : decode cX9_lay 149 = .ok (.if_icmp .ge 38, 3) := by decide +kernel
theorem dX9_lay_152 : decode cX9_lay 152 = .ok (.iload_n 2, 1) := by decide +kernel
theorem dX9_lay_153 : decode cX9_lay 153 = .ok (.iconst 2, 1) := by decide +kernel
theorem dX9_lay_154 : decode cX9_lay 154 = .ok (.if_icmp .ne 33, 3) := by decide +kernel
theorem dX9_lay_157 : decode cX9_lay 157 = .ok (.aload_n 0, 1) := by decide +kernel
theorem dX9_lay_158 : decode cX9_lay 158 = .ok (.getfield 94, 3) := by decide +kernel
theorem dX9_lay_161 : decode cX9_lay 161 = .ok (.bipush 24, 2) := by decide +kernel
theorem dX9_lay_163 : decode cX9_lay 163 = .ok (.iload_n 1, 1) := by decide +kernel
theorem dX9_lay_164 : decode cX9_lay 164 = .ok (.imul, 1) := by decide +kernel
theorem dX9_lay_165 : decode cX9_lay 165 = .ok (.iload 5, 2) := by decide +kernel
theorem dX9_lay_167 : decode cX9_lay 167 = .ok (.iadd, 1) := by decide +kernel
theorem dX9_lay_168 : decode cX9_lay 168 = .ok (.aload_n 0, 1) := by decide +kernel
theorem dX9_lay_169 : decode cX9_lay 169 = .ok (.getfield 82, 3) := by decide +kernel
theorem dX9_lay_172 : decode cX9_lay 172 = .ok (.bipush 24, 2) := by decide +kernel
theorem dX9_lay_174 : decode cX9_lay 174 = .ok (.iload_n 3, 1) := by decide +kernel
theorem dX9_lay_175 : decode cX9_lay 175 = .ok (.imul, 1) := by decide +kernel
theorem dX9_lay_176 : decode cX9_lay 176 = .ok (.iload 5, 2) := by decide +kernel
theorem dX9_lay_178 : decode cX9_lay 178 = .ok (.iadd, 1) := by decide +kernel
theorem dX9_lay_179 : decode cX9_lay 179 = .ok (.iaload, 1) := by decide +kernel
theorem dX9_lay_180 : decode cX9_lay 180 = .ok (.iastore, 1) := by decide +kernel
theorem dX9_lay_181 : decode cX9_lay 181 = .ok (.iinc 5 1, 3) := by decide +kernel
theorem dX9_lay_184 : decode cX9_lay 184 = .ok (.goto (-39), 3) := by decide +kernel
theorem dX9_lay_187 : decode cX9_lay 187 = .ok (.iload 4, 2) := by decide +kernel
theorem dX9_lay_189 : decode cX9_lay 189 = .ok (.ireturn, 1) := by decide +kernel
theorem dX9_ask_0 : decode cX9_ask 0 = .ok (.iload_n 1, 1) := by decide +kernel
theorem dX9_ask_1 : decode cX9_ask 1 = .ok (.invokestatic 320, 3) := by decide +kernel
theorem dX9_ask_4 : decode cX9_ask 4 = .ok (.ifCond .eq 12, 3) := by decide +kernel
theorem dX9_ask_7 : decode cX9_ask 7 = .ok (.iload_n 2, 1) := by decide +kernel
theorem dX9_ask_8 : decode cX9_ask 8 = .ok (.iconst 0, 1) := by decide +kernel
theorem dX9_ask_9 : decode cX9_ask 9 = .ok (.iconst 5, 1) := by decide +kernel
theorem dX9_ask_10 : decode cX9_ask 10 = .ok (.invokestatic 103, 3) := by decide +kernel
theorem dX9_ask_13 : decode cX9_ask 13 = .ok (.ifCond .ne 6, 3) := by decide +kernel
theorem dX9_ask_16 : decode cX9_ask 16 = .ok (.ldc 146, 2) := by decide +kernel
theorem dX9_ask_18 : decode cX9_ask 18 = .ok (.ireturn, 1) := by decide +kernel
theorem dX9_ask_19 : decode cX9_ask 19 = .ok (.aload_n 0, 1) := by decide +kernel
theorem dX9_ask_20 : decode cX9_ask 20 = .ok (.getfield 85, 3) := by decide +kernel
theorem dX9_ask_23 : decode cX9_ask 23 = .ok (.iload_n 1, 1) := by decide +kernel
theorem dX9_ask_24 : decode cX9_ask 24 = .ok (.iaload, 1) := by decide +kernel
theorem dX9_ask_25 : decode cX9_ask 25 = .ok (.ifCond .ne 7, 3) := by decide +kernel
theorem dX9_ask_28 : decode cX9_ask 28 = .ok (.ldc_w 316, 3) := by decide +kernel
theorem dX9_ask_31 : decode cX9_ask 31 = .ok (.ireturn, 1) := by decide +kernel
theorem dX9_ask_32 : decode cX9_ask 32 = .ok (.aload_n 0, 1) := by decide +kernel
theorem dX9_ask_33 : decode cX9_ask 33 = .ok (.getfield 85, 3) := by decide +kernel
theorem dX9_ask_36 : decode cX9_ask 36 = .ok (.iload_n 1, 1) := by decide +kernel
theorem dX9_ask_37 : decode cX9_ask 37 = .ok (.iaload, 1) := by decide +kernel
theorem dX9_ask_38 : decode cX9_ask 38 = .ok (.iconst 1, 1) := by decide +kernel
theorem dX9_ask_39 : decode cX9_ask 39 = .ok (.if_icmp .ne 25, 3) := by decide +kernel
theorem dX9_ask_42 : decode cX9_ask 42 = .ok (.aload_n 0, 1) := by decide +kernel
theorem dX9_ask_43 : decode cX9_ask 43 = .ok (.getfield 88, 3) := by decide +kernel
theorem dX9_ask_46 : decode cX9_ask 46 = .ok (.iload_n 1, 1) := by decide +kernel
theorem dX9_ask_47 : decode cX9_ask 47 = .ok (.iaload, 1) := by decide +kernel
theorem dX9_ask_48 : decode cX9_ask 48 = .ok (.iload_n 2, 1) := by decide +kernel
theorem dX9_ask_49 : decode cX9_ask 49 = .ok (.invokestatic 167, 3) := by decide +kernel
theorem dX9_ask_52 : decode cX9_ask 52 = .ok (.ifCond .eq 12, 3) := by decide +kernel
theorem dX9_ask_55 : decode cX9_ask 55 = .ok (.aload_n 0, 1) := by decide +kernel
theorem dX9_ask_56 : decode cX9_ask 56 = .ok (.getfield 91, 3) := by decide +kernel
theorem dX9_ask_59 : decode cX9_ask 59 = .ok (.iload_n 1, 1) := by decide +kernel
theorem dX9_ask_60 : decode cX9_ask 60 = .ok (.iaload, 1) := by decide +kernel
theorem dX9_ask_61 : decode cX9_ask 61 = .ok (.goto 5, 3) := by decide +kernel
theorem dX9_ask_64 : decode cX9_ask 64 = .ok (.ldc 171, 2) := by decide +kernel
theorem dX9_ask_66 : decode cX9_ask 66 = .ok (.ireturn, 1) := by decide +kernel
theorem dX9_item_0 : decode cX9_item 0 = .ok (.iload_n 1, 1) := by decide +kernel
theorem dX9_item_1 : decode cX9_item 1 = .ok (.invokestatic 320, 3) := by decide +kernel
theorem dX9_item_4 : decode cX9_item 4 = .ok (.ifCond .ne 6, 3) := by decide +kernel
theorem dX9_item_7 : decode cX9_item 7 = .ok (.ldc 146, 2) := by decide +kernel
theorem dX9_item_9 : decode cX9_item 9 = .ok (.ireturn, 1) := by decide +kernel
theorem dX9_item_10 : decode cX9_item 10 = .ok (.aload_n 0, 1) := by decide +kernel
theorem dX9_item_11 : decode cX9_item 11 = .ok (.getfield 85, 3) := by decide +kernel
theorem dX9_item_14 : decode cX9_item 14 = .ok (.iload_n 1, 1) := by decide +kernel
theorem dX9_item_15 : decode cX9_item 15 = .ok (.iaload, 1) := by decide +kernel
theorem dX9_item_16 : decode cX9_item 16 = .ok (.ifCond .ne 7, 3) := by decide +kernel
theorem dX9_item_19 : decode cX9_item 19 = .ok (.ldc_w 316, 3) := by decide +kernel
theorem dX9_item_22 : decode cX9_item 22 = .ok (.ireturn, 1) := by decide +kernel
theorem dX9_item_23 : decode cX9_item 23 = .ok (.aload_n 0, 1) := by decide +kernel
theorem dX9_item_24 : decode cX9_item 24 = .ok (.getfield 85, 3) := by decide +kernel
theorem dX9_item_27 : decode cX9_item 27 = .ok (.iload_n 1, 1) := by decide +kernel
theorem dX9_item_28 : decode cX9_item 28 = .ok (.iaload, 1) := by decide +kernel
theorem dX9_item_29 : decode cX9_item 29 = .ok (.iconst 2, 1) := by decide +kernel
theorem dX9_item_30 : decode cX9_item 30 = .ok (.if_icmp .eq 6, 3) := by decide +kernel
theorem dX9_item_33 : decode cX9_item 33 = .ok (.ldc 171, 2) := by decide +kernel
theorem dX9_item_35 : decode cX9_item 35 = .ok (.ireturn, 1) := by decide +kernel
theorem dX9_item_36 : decode cX9_item 36 = .ok (.iload_n 2, 1) := by decide +kernel
theorem dX9_item_37 : decode cX9_item 37 = .ok (.iconst 0, 1) := by decide +kernel
theorem dX9_item_38 : decode cX9_item 38 = .ok (.aload_n 0, 1) := by decide +kernel
theorem dX9_item_39 : decode cX9_item 39 = .ok (.getfield 88, 3) := by decide +kernel
theorem dX9_item_42 : decode cX9_item 42 = .ok (.iload_n 1, 1) := by decide +kernel
theorem dX9_item_43 : decode cX9_item 43 = .ok (.iaload, 1) := by decide +kernel
theorem dX9_item_44 : decode cX9_item 44 = .ok (.iconst 1, 1) := by decide +kernel
theorem dX9_item_45 : decode cX9_item 45 = .ok (.isub, 1) := by decide +kernel
theorem dX9_item_46 : decode cX9_item 46 = .ok (.invokestatic 103, 3) := by decide +kernel
theorem dX9_item_49 : decode cX9_item 49 = .ok (.ifCond .ne 7, 3) := by decide +kernel
theorem dX9_item_52 : decode cX9_item 52 = .ok (.ldc_w 317, 3) := by decide +kernel
theorem dX9_item_55 : decode cX9_item 55 = .ok (.ireturn, 1) := by decide +kernel
theorem dX9_item_56 : decode cX9_item 56 = .ok (.aload_n 0, 1) := by decide +kernel
theorem dX9_item_57 : decode cX9_item 57 = .ok (.getfield 94, 3) := by decide +kernel
theorem dX9_item_60 : decode cX9_item 60 = .ok (.bipush 24, 2) := by decide +kernel
theorem dX9_item_62 : decode cX9_item 62 = .ok (.iload_n 1, 1) := by decide +kernel
theorem dX9_item_63 : decode cX9_item 63 = .ok (.imul, 1) := by decide +kernel
theorem dX9_item_64 : decode cX9_item 64 = .ok (.iload_n 2, 1) := by decide +kernel
theorem dX9_item_65 : decode cX9_item 65 = .ok (.iadd, 1) := by decide +kernel
theorem dX9_item_66 : decode cX9_item 66 = .ok (.iaload, 1) := by decide +kernel
theorem dX9_item_67 : decode cX9_item 67 = .ok (.istore_n 3, 1) := by decide +kernel
theorem dX9_item_68 : decode cX9_item 68 = .ok (.iload_n 3, 1) := by decide +kernel
theorem dX9_item_69 : decode cX9_item 69 = .ok (.ldc 115, 2) := by decide +kernel
theorem dX9_item_71 : decode cX9_item 71 = .ok (.if_icmp .ne 8, 3) := by decide +kernel
theorem dX9_item_74 : decode cX9_item 74 = .ok (.ldc 171, 2) := by decide +kernel
theorem dX9_item_76 : decode cX9_item 76 = .ok (.goto 4, 3) := by decide +kernel
theorem dX9_item_79 : decode cX9_item 79 = .ok (.iload_n 3, 1) := by decide +kernel
theorem dX9_item_80 : decode cX9_item 80 = .ok (.ireturn, 1) := by decide +kernel
theorem dX9_rest_0 : decode cX9_rest 0 = .ok (.iload_n 1, 1) := by decide +kernel
theorem dX9_rest_1 : decode cX9_rest 1 = .ok (.invokestatic 320, 3) := by decide +kernel
theorem dX9_rest_4 : decode cX9_rest 4 = .ok (.ifCond .ne 6, 3) := by decide +kernel
theorem dX9_rest_7 : decode cX9_rest 7 = .ok (.ldc 146, 2) := by decide +kernel
theorem dX9_rest_9 : decode cX9_rest 9 = .ok (.ireturn, 1) := by decide +kernel
theorem dX9_rest_10 : decode cX9_rest 10 = .ok (.aload_n 0, 1) := by decide +kernel
theorem dX9_rest_11 : decode cX9_rest 11 = .ok (.getfield 85, 3) := by decide +kernel
theorem dX9_rest_14 : decode cX9_rest 14 = .ok (.iload_n 1, 1) := by decide +kernel
theorem dX9_rest_15 : decode cX9_rest 15 = .ok (.iaload, 1) := by decide +kernel
theorem dX9_rest_16 : decode cX9_rest 16 = .ok (.ifCond .ne 7, 3) := by decide +kernel
theorem dX9_rest_19 : decode cX9_rest 19 = .ok (.ldc_w 316, 3) := by decide +kernel
theorem dX9_rest_22 : decode cX9_rest 22 = .ok (.ireturn, 1) := by decide +kernel
theorem dX9_rest_23 : decode cX9_rest 23 = .ok (.aload_n 0, 1) := by decide +kernel
theorem dX9_rest_24 : decode cX9_rest 24 = .ok (.getfield 85, 3) := by decide +kernel
theorem dX9_rest_27 : decode cX9_rest 27 = .ok (.iload_n 1, 1) := by decide +kernel
theorem dX9_rest_28 : decode cX9_rest 28 = .ok (.iaload, 1) := by decide +kernel
theorem dX9_rest_29 : decode cX9_rest 29 = .ok (.iconst 3, 1) := by decide +kernel
theorem dX9_rest_30 : decode cX9_rest 30 = .ok (.if_icmp .eq 6, 3) := by decide +kernel
theorem dX9_rest_33 : decode cX9_rest 33 = .ok (.ldc 171, 2) := by decide +kernel
theorem dX9_rest_35 : decode cX9_rest 35 = .ok (.ireturn, 1) := by decide +kernel
theorem dX9_rest_36 : decode cX9_rest 36 = .ok (.iload_n 2, 1) := by decide +kernel
theorem dX9_rest_37 : decode cX9_rest 37 = .ok (.ifCond .ne 8, 3) := by decide +kernel
theorem dX9_rest_40 : decode cX9_rest 40 = .ok (.ldc 185, 2) := by decide +kernel
theorem dX9_rest_42 : decode cX9_rest 42 = .ok (.goto 20, 3) := by decide +kernel
theorem dX9_rest_45 : decode cX9_rest 45 = .ok (.iload_n 2, 1) := by decide +kernel
theorem dX9_rest_46 : decode cX9_rest 46 = .ok (.iconst (-1), 1) := by decide +kernel
theorem dX9_rest_47 : decode cX9_rest 47 = .ok (.if_icmp .ne 7, 3) := by decide +kernel
theorem dX9_rest_50 : decode cX9_rest 50 = .ok (.iconst 0, 1) := by decide +kernel
theorem dX9_rest_51 : decode cX9_rest 51 = .ok (.goto 11, 3) := by decide +kernel
theorem dX9_rest_54 : decode cX9_rest 54 = .ok (.aload_n 0, 1) := by decide +kernel
theorem dX9_rest_55 : decode cX9_rest 55 = .ok (.getfield 88, 3) := by decide +kernel
theorem dX9_rest_58 : decode cX9_rest 58 = .ok (.iload_n 1, 1) := by decide +kernel
theorem dX9_rest_59 : decode cX9_rest 59 = .ok (.iaload, 1) := by decide +kernel
theorem dX9_rest_60 : decode cX9_rest 60 = .ok (.iload_n 2, 1) := by decide +kernel
theorem dX9_rest_61 : decode cX9_rest 61 = .ok (.irem, 1) := by decide +kernel
theorem dX9_rest_62 : decode cX9_rest 62 = .ok (.ireturn, 1) := by decide +kernel
theorem dX9_tell_0 : decode cX9_tell 0 = .ok (.aload_n 0, 1) := by decide +kernel
theorem dX9_tell_1 : decode cX9_tell 1 = .ok (.getfield 323, 3) := by decide +kernel
theorem dX9_tell_4 : decode cX9_tell 4 = .ok (.bipush 60, 2) := by decide +kernel
theorem dX9_tell_6 : decode cX9_tell 6 = .ok (.if_icmp .ne 6, 3) := by decide +kernel
theorem dX9_tell_9 : decode cX9_tell 9 = .ok (.ldc 147, 2) := by decide +kernel
theorem dX9_tell_11 : decode cX9_tell 11 = .ok (.ireturn, 1) := by decide +kernel
theorem dX9_tell_12 : decode cX9_tell 12 = .ok (.aload_n 0, 1) := by decide +kernel
theorem dX9_tell_13 : decode cX9_tell 13 = .ok (.getfield 100, 3) := by decide +kernel
theorem dX9_tell_16 : decode cX9_tell 16 = .ok (.aload_n 0, 1) := by decide +kernel
theorem dX9_tell_17 : decode cX9_tell 17 = .ok (.getfield 323, 3) := by decide +kernel
theorem dX9_tell_20 : decode cX9_tell 20 = .ok (.iload_n 1, 1) := by decide +kernel
theorem dX9_tell_21 : decode cX9_tell 21 = .ok (.iastore, 1) := by decide +kernel
theorem dX9_tell_22 : decode cX9_tell 22 = .ok (.aload_n 0, 1) := by decide +kernel
theorem dX9_tell_23 : decode cX9_tell 23 = .ok (.dup, 1) := by decide +kernel
theorem dX9_tell_24 : decode cX9_tell 24 = .ok (.getfield 323, 3) := by decide +kernel
theorem dX9_tell_27 : decode cX9_tell 27 = .ok (.iconst 1, 1) := by decide +kernel
theorem dX9_tell_28 : decode cX9_tell 28 = .ok (.iadd, 1) := by decide +kernel
theorem dX9_tell_29 : decode cX9_tell 29 = .ok (.putfield 323, 3) := by decide +kernel
theorem dX9_tell_32 : decode cX9_tell 32 = .ok (.aload_n 0, 1) := by decide +kernel
theorem dX9_tell_33 : decode cX9_tell 33 = .ok (.getfield 323, 3) := by decide +kernel
theorem dX9_tell_36 : decode cX9_tell 36 = .ok (.ireturn, 1) := by decide +kernel
theorem dX9_rightRides_0 : decode cX9_rightRides 0 = .ok (.iconst 0, 1) := by decide +kernel
theorem dX9_rightRides_1 : decode cX9_rightRides 1 = .ok (.istore_n 3, 1) := by decide +kernel
theorem dX9_rightRides_2 : decode cX9_rightRides 2 = .ok (.iconst 0, 1) := by decide +kernel
theorem dX9_rightRides_3 : decode cX9_rightRides 3 = .ok (.istore 4, 2) := by decide +kernel
theorem dX9_rightRides_5 : decode cX9_rightRides 5 = .ok (.iload 4, 2) := by decide +kernel
theorem dX9_rightRides_7 : decode cX9_rightRides 7 = .ok (.iload_n 1, 1) := by decide +kernel
theorem dX9_rightRides_8 : decode cX9_rightRides 8 = .ok (.if_icmp .ge 117, 3) := by decide +kernel
theorem dX9_rightRides_11 : decode cX9_rightRides 11 = .ok (.iload_n 3, 1) := by decide +kernel
theorem dX9_rightRides_12 : decode cX9_rightRides 12 = .ok (.iconst 2, 1) := by decide +kernel
theorem dX9_rightRides_13 : decode cX9_rightRides 13 = .ok (.iload 4, 2) := by decide +kernel
theorem dX9_rightRides_15 : decode cX9_rightRides 15 = .ok (.imul, 1) := by decide +kernel
theorem dX9_rightRides_16 : decode cX9_rightRides 16 = .ok (.if_icmp .ne 109, 3) := by decide +kernel
theorem dX9_rightRides_19 : decode cX9_rightRides 19 = .ok (.sipush 153, 3) := by decide +kernel
theorem dX9_rightRides_22 : decode cX9_rightRides 22 = .ok (.iconst 2, 1) := by decide +kernel
theorem dX9_rightRides_23 : decode cX9_rightRides 23 = .ok (.iload 4, 2) := by decide +kernel
theorem dX9_rightRides_25 : decode cX9_rightRides 25 = .ok (.aload_n 0, 1) := by decide +kernel
theorem dX9_rightRides_26 : decode cX9_rightRides 26 = .ok (.getfield 9, 3) := by decide +kernel
theorem dX9_rightRides_29 : decode cX9_rightRides 29 = .ok (.bipush 8, 2) := by decide +kernel
theorem dX9_rightRides_31 : decode cX9_rightRides 31 = .ok (.iaload, 1) := by decide +kernel
theorem dX9_rightRides_32 : decode cX9_rightRides 32 = .ok (.irem, 1) := by decide +kernel
theorem dX9_rightRides_33 : decode cX9_rightRides 33 = .ok (.imul, 1) := by decide +kernel
theorem dX9_rightRides_34 : decode cX9_rightRides 34 = .ok (.iadd, 1) := by decide +kernel
theorem dX9_rightRides_35 : decode cX9_rightRides 35 = .ok (.istore 5, 2) := by decide +kernel
theorem dX9_rightRides_37 : decode cX9_rightRides 37 = .ok (.aload_n 0, 1) := by decide +kernel
theorem dX9_rightRides_38 : decode cX9_rightRides 38 = .ok (.aload_n 0, 1) := by decide +kernel
theorem dX9_rightRides_39 : decode cX9_rightRides 39 = .ok (.getfield 9, 3) := by decide +kernel
theorem dX9_rightRides_42 : decode cX9_rightRides 42 = .ok (.iload 5, 2) := by decide +kernel
theorem dX9_rightRides_44 : decode cX9_rightRides 44 = .ok (.iaload, 1) := by decide +kernel
theorem dX9_rightRides_45 : decode cX9_rightRides 45 = .ok (.aload_n 0, 1) := by decide +kernel
theorem dX9_rightRides_46 : decode cX9_rightRides 46 = .ok (.getfield 9, 3) := by decide +kernel
theorem dX9_rightRides_49 : decode cX9_rightRides 49 = .ok (.iload 5, 2) := by decide +kernel
theorem dX9_rightRides_51 : decode cX9_rightRides 51 = .ok (.iconst 1, 1) := by decide +kernel
theorem dX9_rightRides_52 : decode cX9_rightRides 52 = .ok (.iadd, 1) := by decide +kernel
theorem dX9_rightRides_53 : decode cX9_rightRides 53 = .ok (.iaload, 1) := by decide +kernel
theorem dX9_rightRides_54 : decode cX9_rightRides 54 = .ok (.invokevirtual 309, 3) := by decide +kernel
theorem dX9_rightRides_57 : decode cX9_rightRides 57 = .ok (.istore 6, 2) := by decide +kernel
theorem dX9_rightRides_59 : decode cX9_rightRides 59 = .ok (.iload_n 3, 1) := by decide +kernel
theorem dX9_rightRides_60 : decode cX9_rightRides 60 = .ok (.iload_n 3, 1) := by decide +kernel
theorem dX9_rightRides_61 : decode cX9_rightRides 61 = .ok (.iload_n 2, 1) := by decide +kernel
theorem dX9_rightRides_62 : decode cX9_rightRides 62 = .ok (.if_icmp .ge 18, 3) := by decide +kernel
theorem dX9_rightRides_65 : decode cX9_rightRides 65 = .ok (.aload_n 0, 1) := by decide +kernel
theorem dX9_rightRides_66 : decode cX9_rightRides 66 = .ok (.getfield 100, 3) := by decide +kernel
theorem dX9_rightRides_69 : decode cX9_rightRides 69 = .ok (.iload_n 3, 1) := by decide +kernel
theorem dX9_rightRides_70 : decode cX9_rightRides 70 = .ok (.iaload, 1) := by decide +kernel
theorem dX9_rightRides_71 : decode cX9_rightRides 71 = .ok (.iload 6, 2) := by decide +kernel
theorem dX9_rightRides_73 : decode cX9_rightRides 73 = .ok (.if_icmp .ne 7, 3) := by decide +kernel
theorem dX9_rightRides_76 : decode cX9_rightRides 76 = .ok (.iconst 1, 1) := by decide +kernel
theorem dX9_rightRides_77 : decode cX9_rightRides 77 = .ok (.goto 4, 3) := by decide +kernel
theorem dX9_rightRides_80 : decode cX9_rightRides 80 = .ok (.iconst 0, 1) := by decide +kernel
theorem dX9_rightRides_81 : decode cX9_rightRides 81 = .ok (.iadd, 1) := by decide +kernel
theorem dX9_rightRides_82 : decode cX9_rightRides 82 = .ok (.istore_n 3, 1) := by decide +kernel
theorem dX9_rightRides_83 : decode cX9_rightRides 83 = .ok (.iload_n 3, 1) := by decide +kernel
theorem dX9_rightRides_84 : decode cX9_rightRides 84 = .ok (.iload_n 3, 1) := by decide +kernel
theorem dX9_rightRides_85 : decode cX9_rightRides 85 = .ok (.iconst 2, 1) := by decide +kernel
theorem dX9_rightRides_86 : decode cX9_rightRides 86 = .ok (.iload 4, 2) := by decide +kernel
theorem dX9_rightRides_88 : decode cX9_rightRides 88 = .ok (.imul, 1) := by decide +kernel
theorem dX9_rightRides_89 : decode cX9_rightRides 89 = .ok (.iconst 1, 1) := by decide +kernel
theorem dX9_rightRides_90 : decode cX9_rightRides 90 = .ok (.iadd, 1) := by decide +kernel
theorem dX9_rightRides_91 : decode cX9_rightRides 91 = .ok (.if_icmp .ne 25, 3) := by decide +kernel
theorem dX9_rightRides_94 : decode cX9_rightRides 94 = .ok (.iload_n 3, 1) := by decide +kernel
theorem dX9_rightRides_95 : decode cX9_rightRides 95 = .ok (.iload_n 2, 1) := by decide +kernel
theorem dX9_rightRides_96 : decode cX9_rightRides 96 = .ok (.if_icmp .ge 20, 3) := by decide +kernel
theorem dX9_rightRides_99 : decode cX9_rightRides 99 = .ok (.aload_n 0, 1) := by decide +kernel
theorem dX9_rightRides_100 : decode cX9_rightRides 100 = .ok (.getfield 100, 3) := by decide +kernel
theorem dX9_rightRides_103 : decode cX9_rightRides 103 = .ok (.iload_n 3, 1) := by decide +kernel
theorem dX9_rightRides_104 : decode cX9_rightRides 104 = .ok (.iaload, 1) := by decide +kernel
theorem dX9_rightRides_105 : decode cX9_rightRides 105 = .ok (.aload_n 0, 1) := by decide +kernel
theorem dX9_rightRides_106 : decode cX9_rightRides 106 = .ok (.getfield 303, 3) := by decide +kernel
theorem dX9_rightRides_109 : decode cX9_rightRides 109 = .ok (.if_icmp .ne 7, 3) := by decide +kernel
theorem dX9_rightRides_112 : decode cX9_rightRides 112 = .ok (.iconst 1, 1) := by decide +kernel
theorem dX9_rightRides_113 : decode cX9_rightRides 113 = .ok (.goto 4, 3) := by decide +kernel
theorem dX9_rightRides_116 : decode cX9_rightRides 116 = .ok (.iconst 0, 1) := by decide +kernel
theorem dX9_rightRides_117 : decode cX9_rightRides 117 = .ok (.iadd, 1) := by decide +kernel
theorem dX9_rightRides_118 : decode cX9_rightRides 118 = .ok (.istore_n 3, 1) := by decide +kernel
theorem dX9_rightRides_119 : decode cX9_rightRides 119 = .ok (.iinc 4 1, 3) := by decide +kernel
theorem dX9_rightRides_122 : decode cX9_rightRides 122 = .ok (.goto (-117), 3) := by decide +kernel
theorem dX9_rightRides_125 : decode cX9_rightRides 125 = .ok (.iload_n 3, 1) := by decide +kernel
theorem dX9_rightRides_126 : decode cX9_rightRides 126 = .ok (.ireturn, 1) := by decide +kernel
theorem dX9_check_0 : decode cX9_check 0 = .ok (.aload_n 0, 1) := by decide +kernel
theorem dX9_check_1 : decode cX9_check 1 = .ok (.getfield 323, 3) := by decide +kernel
theorem dX9_check_4 : decode cX9_check 4 = .ok (.istore_n 2, 1) := by decide +kernel
theorem dX9_check_5 : decode cX9_check 5 = .ok (.aload_n 0, 1) := by decide +kernel
theorem dX9_check_6 : decode cX9_check 6 = .ok (.iconst 0, 1) := by decide +kernel
theorem dX9_check_7 : decode cX9_check 7 = .ok (.putfield 323, 3) := by decide +kernel
theorem dX9_check_10 : decode cX9_check 10 = .ok (.iload_n 1, 1) := by decide +kernel
theorem dX9_check_11 : decode cX9_check 11 = .ok (.iconst 1, 1) := by decide +kernel
theorem dX9_check_12 : decode cX9_check 12 = .ok (.bipush 30, 2) := by decide +kernel
theorem dX9_check_14 : decode cX9_check 14 = .ok (.invokestatic 103, 3) := by decide +kernel
theorem dX9_check_17 : decode cX9_check 17 = .ok (.ifCond .ne 6, 3) := by decide +kernel
theorem dX9_check_20 : decode cX9_check 20 = .ok (.ldc 146, 2) := by decide +kernel
theorem dX9_check_22 : decode cX9_check 22 = .ok (.ireturn, 1) := by decide +kernel
theorem dX9_check_23 : decode cX9_check 23 = .ok (.aload_n 0, 1) := by decide +kernel
theorem dX9_check_24 : decode cX9_check 24 = .ok (.getfield 326, 3) := by decide +kernel
theorem dX9_check_27 : decode cX9_check 27 = .ok (.ifCond .eq 13, 3) := by decide +kernel
theorem dX9_check_30 : decode cX9_check 30 = .ok (.aload_n 0, 1) := by decide +kernel
theorem dX9_check_31 : decode cX9_check 31 = .ok (.getfield 13, 3) := by decide +kernel
theorem dX9_check_34 : decode cX9_check 34 = .ok (.bipush 8, 2) := by decide +kernel
theorem dX9_check_36 : decode cX9_check 36 = .ok (.iaload, 1) := by decide +kernel
theorem dX9_check_37 : decode cX9_check 37 = .ok (.ifCond .ne 6, 3) := by decide +kernel
theorem dX9_check_40 : decode cX9_check 40 = .ok (.ldc 185, 2) := by decide +kernel
theorem dX9_check_42 : decode cX9_check 42 = .ok (.ireturn, 1) := by decide +kernel
theorem dX9_check_43 : decode cX9_check 43 = .ok (.aload_n 0, 1) := by decide +kernel
theorem dX9_check_44 : decode cX9_check 44 = .ok (.getfield 9, 3) := by decide +kernel
theorem dX9_check_47 : decode cX9_check 47 = .ok (.aload_n 0, 1) := by decide +kernel
theorem dX9_check_48 : decode cX9_check 48 = .ok (.getfield 16, 3) := by decide +kernel
theorem dX9_check_51 : decode cX9_check 51 = .ok (.invokestatic 329, 3) := by decide +kernel
theorem dX9_check_54 : decode cX9_check 54 = .ok (.aload_n 0, 1) := by decide +kernel
theorem dX9_check_55 : decode cX9_check 55 = .ok (.getfield 13, 3) := by decide +kernel
theorem dX9_check_58 : decode cX9_check 58 = .ok (.aload_n 0, 1) := by decide +kernel
theorem dX9_check_59 : decode cX9_check 59 = .ok (.getfield 9, 3) := by decide +kernel
theorem dX9_check_62 : decode cX9_check 62 = .ok (.invokestatic 329, 3) := by decide +kernel
theorem dX9_check_65 : decode cX9_check 65 = .ok (.aload_n 0, 1) := by decide +kernel
theorem dX9_check_66 : decode cX9_check 66 = .ok (.iconst 0, 1) := by decide +kernel
theorem dX9_check_67 : decode cX9_check 67 = .ok (.putfield 111, 3) := by decide +kernel
theorem dX9_check_70 : decode cX9_check 70 = .ok (.aload_n 0, 1) := by decide +kernel
theorem dX9_check_71 : decode cX9_check 71 = .ok (.iload_n 1, 1) := by decide +kernel
theorem dX9_check_72 : decode cX9_check 72 = .ok (.iload_n 2, 1) := by decide +kernel
theorem dX9_check_73 : decode cX9_check 73 = .ok (.invokevirtual 333, 3) := by decide +kernel
theorem dX9_check_76 : decode cX9_check 76 = .ok (.istore_n 3, 1) := by decide +kernel
theorem dX9_check_77 : decode cX9_check 77 = .ok (.aload_n 0, 1) := by decide +kernel
theorem dX9_check_78 : decode cX9_check 78 = .ok (.getfield 16, 3) := by decide +kernel
theorem dX9_check_81 : decode cX9_check 81 = .ok (.aload_n 0, 1) := by decide +kernel
theorem dX9_check_82 : decode cX9_check 82 = .ok (.getfield 9, 3) := by decide +kernel
theorem dX9_check_85 : decode cX9_check 85 = .ok (.invokestatic 329, 3) := by decide +kernel
theorem dX9_check_88 : decode cX9_check 88 = .ok (.aload_n 0, 1) := by decide +kernel
theorem dX9_check_89 : decode cX9_check 89 = .ok (.iconst 0, 1) := by decide +kernel
theorem dX9_check_90 : decode cX9_check 90 = .ok (.putfield 111, 3) := by decide +kernel
theorem dX9_check_93 : decode cX9_check 93 = .ok (.iload_n 3, 1) := by decide +kernel
theorem dX9_check_94 : decode cX9_check 94 = .ok (.iload_n 2, 1) := by decide +kernel
theorem dX9_check_95 : decode cX9_check 95 = .ok (.if_icmp .ne 14, 3) := by decide +kernel
theorem dX9_check_98 : decode cX9_check 98 = .ok (.iload_n 3, 1) := by decide +kernel
theorem dX9_check_99 : decode cX9_check 99 = .ok (.iconst 2, 1) := by decide +kernel
theorem dX9_check_100 : decode cX9_check 100 = .ok (.iload_n 1, 1) := by decide +kernel
theorem dX9_check_101 : decode cX9_check 101 = .ok (.imul, 1) := by decide +kernel
theorem dX9_check_102 : decode cX9_check 102 = .ok (.if_icmp .ne 7, 3) := by decide +kernel
theorem dX9_check_105 : decode cX9_check 105 = .ok (.iconst 0, 1) := by decide +kernel
theorem dX9_check_106 : decode cX9_check 106 = .ok (.goto 6, 3) := by decide +kernel
theorem dX9_check_109 : decode cX9_check 109 = .ok (.iconst 1, 1) := by decide +kernel
theorem dX9_check_110 : decode cX9_check 110 = .ok (.iload_n 3, 1) := by decide +kernel
theorem dX9_check_111 : decode cX9_check 111 = .ok (.iadd, 1) := by decide +kernel
theorem dX9_check_112 : decode cX9_check 112 = .ok (.ireturn, 1) := by decide +kernel
theorem dX9_keep_0 : decode cX9_keep 0 = .ok (.aload_n 0, 1) := by decide +kernel
theorem dX9_keep_1 : decode cX9_keep 1 = .ok (.getfield 9, 3) := by decide +kernel
theorem dX9_keep_4 : decode cX9_keep 4 = .ok (.aload_n 0, 1) := by decide +kernel
theorem dX9_keep_5 : decode cX9_keep 5 = .ok (.getfield 13, 3) := by decide +kernel
theorem dX9_keep_8 : decode cX9_keep 8 = .ok (.invokestatic 329, 3) := by decide +kernel
theorem dX9_keep_11 : decode cX9_keep 11 = .ok (.aload_n 0, 1) := by decide +kernel
theorem dX9_keep_12 : decode cX9_keep 12 = .ok (.iconst 1, 1) := by decide +kernel
theorem dX9_keep_13 : decode cX9_keep 13 = .ok (.putfield 326, 3) := by decide +kernel
theorem dX9_keep_16 : decode cX9_keep 16 = .ok (.aload_n 0, 1) := by decide +kernel
theorem dX9_keep_17 : decode cX9_keep 17 = .ok (.getfield 9, 3) := by decide +kernel
theorem dX9_keep_20 : decode cX9_keep 20 = .ok (.iconst 5, 1) := by decide +kernel
theorem dX9_keep_21 : decode cX9_keep 21 = .ok (.iaload, 1) := by decide +kernel
theorem dX9_keep_22 : decode cX9_keep 22 = .ok (.ireturn, 1) := by decide +kernel
theorem dX9_back_0 : decode cX9_back 0 = .ok (.aload_n 0, 1) := by decide +kernel
theorem dX9_back_1 : decode cX9_back 1 = .ok (.getfield 326, 3) := by decide +kernel
theorem dX9_back_4 : decode cX9_back 4 = .ok (.ifCond .ne 6, 3) := by decide +kernel
theorem dX9_back_7 : decode cX9_back 7 = .ok (.ldc 185, 2) := by decide +kernel
theorem dX9_back_9 : decode cX9_back 9 = .ok (.ireturn, 1) := by decide +kernel
theorem dX9_back_10 : decode cX9_back 10 = .ok (.aload_n 0, 1) := by decide +kernel
theorem dX9_back_11 : decode cX9_back 11 = .ok (.getfield 13, 3) := by decide +kernel
theorem dX9_back_14 : decode cX9_back 14 = .ok (.aload_n 0, 1) := by decide +kernel
theorem dX9_back_15 : decode cX9_back 15 = .ok (.getfield 9, 3) := by decide +kernel
theorem dX9_back_18 : decode cX9_back 18 = .ok (.invokestatic 329, 3) := by decide +kernel
theorem dX9_back_21 : decode cX9_back 21 = .ok (.aload_n 0, 1) := by decide +kernel
theorem dX9_back_22 : decode cX9_back 22 = .ok (.iconst 0, 1) := by decide +kernel
theorem dX9_back_23 : decode cX9_back 23 = .ok (.putfield 111, 3) := by decide +kernel
theorem dX9_back_26 : decode cX9_back 26 = .ok (.aload_n 0, 1) := by decide +kernel
theorem dX9_back_27 : decode cX9_back 27 = .ok (.getfield 9, 3) := by decide +kernel
theorem dX9_back_30 : decode cX9_back 30 = .ok (.iconst 5, 1) := by decide +kernel
theorem dX9_back_31 : decode cX9_back 31 = .ok (.iaload, 1) := by decide +kernel
theorem dX9_back_32 : decode cX9_back 32 = .ok (.ireturn, 1) := by decide +kernel
theorem dX9_count_0 : decode cX9_count 0 = .ok (.iload_n 1, 1) := by decide +kernel
theorem dX9_count_1 : decode cX9_count 1 = .ok (.tableswitch 135 0 10 #[59, 66, 73, 81, 89, 97, 104, 111, 118, 123, 128], 59) := by decide +kernel
theorem dX9_count_60 : decode cX9_count 60 = .ok (.aload_n 0, 1) := by decide +kernel
theorem dX9_count_61 : decode cX9_count 61 = .ok (.getfield 9, 3) := by decide +kernel
theorem dX9_count_64 : decode cX9_count 64 = .ok (.iconst 4, 1) := by decide +kernel
theorem dX9_count_65 : decode cX9_count 65 = .ok (.iaload, 1) := by decide +kernel
theorem dX9_count_66 : decode cX9_count 66 = .ok (.ireturn, 1) := by decide +kernel
theorem dX9_count_67 : decode cX9_count 67 = .ok (.aload_n 0, 1) := by decide +kernel
theorem dX9_count_68 : decode cX9_count 68 = .ok (.getfield 9, 3) := by decide +kernel
theorem dX9_count_71 : decode cX9_count 71 = .ok (.iconst 5, 1) := by decide +kernel
theorem dX9_count_72 : decode cX9_count 72 = .ok (.iaload, 1) := by decide +kernel
theorem dX9_count_73 : decode cX9_count 73 = .ok (.ireturn, 1) := by decide +kernel
theorem dX9_count_74 : decode cX9_count 74 = .ok (.aload_n 0, 1) := by decide +kernel
theorem dX9_count_75 : decode cX9_count 75 = .ok (.getfield 9, 3) := by decide +kernel
theorem dX9_count_78 : decode cX9_count 78 = .ok (.bipush 6, 2) := by decide +kernel
theorem dX9_count_80 : decode cX9_count 80 = .ok (.iaload, 1) := by decide +kernel
theorem dX9_count_81 : decode cX9_count 81 = .ok (.ireturn, 1) := by decide +kernel
theorem dX9_count_82 : decode cX9_count 82 = .ok (.aload_n 0, 1) := by decide +kernel
theorem dX9_count_83 : decode cX9_count 83 = .ok (.getfield 9, 3) := by decide +kernel
theorem dX9_count_86 : decode cX9_count 86 = .ok (.bipush 7, 2) := by decide +kernel
theorem dX9_count_88 : decode cX9_count 88 = .ok (.iaload, 1) := by decide +kernel
theorem dX9_count_89 : decode cX9_count 89 = .ok (.ireturn, 1) := by decide +kernel
theorem dX9_count_90 : decode cX9_count 90 = .ok (.aload_n 0, 1) := by decide +kernel
theorem dX9_count_91 : decode cX9_count 91 = .ok (.getfield 9, 3) := by decide +kernel
theorem dX9_count_94 : decode cX9_count 94 = .ok (.bipush 8, 2) := by decide +kernel
theorem dX9_count_96 : decode cX9_count 96 = .ok (.iaload, 1) := by decide +kernel
theorem dX9_count_97 : decode cX9_count 97 = .ok (.ireturn, 1) := by decide +kernel
theorem dX9_count_98 : decode cX9_count 98 = .ok (.aload_n 0, 1) := by decide +kernel
theorem dX9_count_99 : decode cX9_count 99 = .ok (.getfield 9, 3) := by decide +kernel
theorem dX9_count_102 : decode cX9_count 102 = .ok (.iconst 2, 1) := by decide +kernel
theorem dX9_count_103 : decode cX9_count 103 = .ok (.iaload, 1) := by decide +kernel
theorem dX9_count_104 : decode cX9_count 104 = .ok (.ireturn, 1) := by decide +kernel
theorem dX9_count_105 : decode cX9_count 105 = .ok (.aload_n 0, 1) := by decide +kernel
theorem dX9_count_106 : decode cX9_count 106 = .ok (.getfield 9, 3) := by decide +kernel
theorem dX9_count_109 : decode cX9_count 109 = .ok (.iconst 3, 1) := by decide +kernel
theorem dX9_count_110 : decode cX9_count 110 = .ok (.iaload, 1) := by decide +kernel
theorem dX9_count_111 : decode cX9_count 111 = .ok (.ireturn, 1) := by decide +kernel
theorem dX9_count_112 : decode cX9_count 112 = .ok (.aload_n 0, 1) := by decide +kernel
theorem dX9_count_113 : decode cX9_count 113 = .ok (.getfield 9, 3) := by decide +kernel
theorem dX9_count_116 : decode cX9_count 116 = .ok (.iconst 1, 1) := by decide +kernel
theorem dX9_count_117 : decode cX9_count 117 = .ok (.iaload, 1) := by decide +kernel
theorem dX9_count_118 : decode cX9_count 118 = .ok (.ireturn, 1) := by decide +kernel
theorem dX9_count_119 : decode cX9_count 119 = .ok (.aload_n 0, 1) := by decide +kernel
theorem dX9_count_120 : decode cX9_count 120 = .ok (.getfield 323, 3) := by decide +kernel
theorem dX9_count_123 : decode cX9_count 123 = .ok (.ireturn, 1) := by decide +kernel
theorem dX9_count_124 : decode cX9_count 124 = .ok (.aload_n 0, 1) := by decide +kernel
theorem dX9_count_125 : decode cX9_count 125 = .ok (.getfield 229, 3) := by decide +kernel
theorem dX9_count_128 : decode cX9_count 128 = .ok (.ireturn, 1) := by decide +kernel
theorem dX9_count_129 : decode cX9_count 129 = .ok (.aload_n 0, 1) := by decide +kernel
theorem dX9_count_130 : decode cX9_count 130 = .ok (.getfield 9, 3) := by decide +kernel
theorem dX9_count_133 : decode cX9_count 133 = .ok (.iconst 0, 1) := by decide +kernel
theorem dX9_count_134 : decode cX9_count 134 = .ok (.iaload, 1) := by decide +kernel
theorem dX9_count_135 : decode cX9_count 135 = .ok (.ireturn, 1) := by decide +kernel
theorem dX9_count_136 : decode cX9_count 136 = .ok (.ldc 146, 2) := by decide +kernel
theorem dX9_count_138 : decode cX9_count 138 = .ok (.ireturn, 1) := by decide +kernel
