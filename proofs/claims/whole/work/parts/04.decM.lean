theorem dX7_init_0 : decode cX7_init 0 = .ok (.aload_n 0, 1) := by decide +kernel
theorem dX7_init_1 : decode cX7_init 1 = .ok (.invokespecial 1, 3) := by decide +kernel
theorem dX7_init_4 : decode cX7_init 4 = .ok (.aload_n 0, 1) := by decide +kernel
theorem dX7_init_5 : decode cX7_init 5 = .ok (.sipush 591, 3) := by decide +kernel
theorem dX7_init_8 : decode cX7_init 8 = .ok (.newarray .int, 2) := by decide +kernel
theorem dX7_init_10 : decode cX7_init 10 = .ok (.putfield 7, 3) := by decide +kernel
theorem dX7_init_13 : decode cX7_init 13 = .ok (.aload_n 0, 1) := by decide +kernel
theorem dX7_init_14 : decode cX7_init 14 = .ok (.sipush 591, 3) := by decide +kernel
theorem dX7_init_17 : decode cX7_init 17 = .ok (.newarray .int, 2) := by decide +kernel
theorem dX7_init_19 : decode cX7_init 19 = .ok (.putfield 13, 3) := by decide +kernel
theorem dX7_init_22 : decode cX7_init 22 = .ok (.aload_n 0, 1) := by decide +kernel
theorem dX7_init_23 : decode cX7_init 23 = .ok (.bipush 114, 2) := by decide +kernel
theorem dX7_init_25 : decode cX7_init 25 = .ok (.newarray .int, 2) := by decide +kernel
theorem dX7_init_27 : decode cX7_init 27 = .ok (.putfield 16, 3) := by decide +kernel
theorem dX7_init_30 : decode cX7_init 30 = .ok (.aload_n 0, 1) := by decide +kernel
theorem dX7_init_31 : decode cX7_init 31 = .ok (.bipush 114, 2) := by decide +kernel
theorem dX7_init_33 : decode cX7_init 33 = .ok (.newarray .int, 2) := by decide +kernel
theorem dX7_init_35 : decode cX7_init 35 = .ok (.putfield 19, 3) := by decide +kernel
theorem dX7_init_38 : decode cX7_init 38 = .ok (.aload_n 0, 1) := by decide +kernel
theorem dX7_init_39 : decode cX7_init 39 = .ok (.sipush 1182, 3) := by decide +kernel
theorem dX7_init_42 : decode cX7_init 42 = .ok (.newarray .int, 2) := by decide +kernel
theorem dX7_init_44 : decode cX7_init 44 = .ok (.putfield 22, 3) := by decide +kernel
theorem dX7_init_47 : decode cX7_init 47 = .ok (.aload_n 0, 1) := by decide +kernel
theorem dX7_init_48 : decode cX7_init 48 = .ok (.iconst 2, 1) := by decide +kernel
theorem dX7_init_49 : decode cX7_init 49 = .ok (.newarray .boolean, 2) := by decide +kernel
theorem dX7_init_51 : decode cX7_init 51 = .ok (.putfield 25, 3) := by decide +kernel
theorem dX7_init_54 : decode cX7_init 54 = .ok (.aload_n 0, 1) := by decide +kernel
theorem dX7_init_55 : decode cX7_init 55 = .ok (.sipush 400, 3) := by decide +kernel
theorem dX7_init_58 : decode cX7_init 58 = .ok (.newarray .int, 2) := by decide +kernel
theorem dX7_init_60 : decode cX7_init 60 = .ok (.putfield 29, 3) := by decide +kernel
theorem dX7_init_63 : decode cX7_init 63 = .ok (.aload_n 0, 1) := by decide +kernel
theorem dX7_init_64 : decode cX7_init 64 = .ok (.bipush 10, 2) := by decide +kernel
theorem dX7_init_66 : decode cX7_init 66 = .ok (.newarray .int, 2) := by decide +kernel
theorem dX7_init_68 : decode cX7_init 68 = .ok (.dup, 1) := by decide +kernel
theorem dX7_init_69 : decode cX7_init 69 = .ok (.iconst 0, 1) := by decide +kernel
theorem dX7_init_70 : decode cX7_init 70 = .ok (.iconst 0, 1) := by decide +kernel
theorem dX7_init_71 : decode cX7_init 71 = .ok (.iastore, 1) := by decide +kernel
theorem dX7_init_72 : decode cX7_init 72 = .ok (.dup, 1) := by decide +kernel
theorem dX7_init_73 : decode cX7_init 73 = .ok (.iconst 1, 1) := by decide +kernel
theorem dX7_init_74 : decode cX7_init 74 = .ok (.iconst 3, 1) := by decide +kernel
theorem dX7_init_75 : decode cX7_init 75 = .ok (.iastore, 1) := by decide +kernel
theorem dX7_init_76 : decode cX7_init 76 = .ok (.dup, 1) := by decide +kernel
theorem dX7_init_77 : decode cX7_init 77 = .ok (.iconst 2, 1) := by decide +kernel
theorem dX7_init_78 : decode cX7_init 78 = .ok (.bipush 8, 2) := by decide +kernel
theorem dX7_init_80 : decode cX7_init 80 = .ok (.iastore, 1) := by decide +kernel
theorem dX7_init_81 : decode cX7_init 81 = .ok (.dup, 1) := by decide +kernel
theorem dX7_init_82 : decode cX7_init 82 = .ok (.iconst 3, 1) := by decide +kernel
theorem dX7_init_83 : decode cX7_init 83 = .ok (.bipush 11, 2) := by decide +kernel
theorem dX7_init_85 : decode cX7_init 85 = .ok (.iastore, 1) := by decide +kernel
theorem dX7_init_86 : decode cX7_init 86 = .ok (.dup, 1) := by decide +kernel
theorem dX7_init_87 : decode cX7_init 87 = .ok (.iconst 4, 1) := by decide +kernel
theorem dX7_init_88 : decode cX7_init 88 = .ok (.bipush 18, 2) := by decide +kernel
theorem dX7_init_90 : decode cX7_init 90 = .ok (.iastore, 1) := by decide +kernel
theorem dX7_init_91 : decode cX7_init 91 = .ok (.dup, 1) := by decide +kernel
theorem dX7_init_92 : decode cX7_init 92 = .ok (.iconst 5, 1) := by decide +kernel
theorem dX7_init_93 : decode cX7_init 93 = .ok (.bipush 25, 2) := by decide +kernel
theorem dX7_init_95 : decode cX7_init 95 = .ok (.iastore, 1) := by decide +kernel
theorem dX7_init_96 : decode cX7_init 96 = .ok (.dup, 1) := by decide +kernel
theorem dX7_init_97 : decode cX7_init 97 = .ok (.bipush 6, 2) := by decide +kernel
theorem dX7_init_99 : decode cX7_init 99 = .ok (.bipush 28, 2) := by decide +kernel
theorem dX7_init_101 : decode cX7_init 101 = .ok (.iastore, 1) := by decide +kernel
theorem dX7_init_102 : decode cX7_init 102 = .ok (.dup, 1) := by decide +kernel
theorem dX7_init_103 : decode cX7_init 103 = .ok (.bipush 7, 2) := by decide +kernel
theorem dX7_init_105 : decode cX7_init 105 = .ok (.bipush 31, 2) := by decide +kernel
theorem dX7_init_107 : decode cX7_init 107 = .ok (.iastore, 1) := by decide +kernel
theorem dX7_init_108 : decode cX7_init 108 = .ok (.dup, 1) := by decide +kernel
theorem dX7_init_109 : decode cX7_init 109 = .ok (.bipush 8, 2) := by decide +kernel
theorem dX7_init_111 : decode cX7_init 111 = .ok (.bipush 35, 2) := by decide +kernel
theorem dX7_init_113 : decode cX7_init 113 = .ok (.iastore, 1) := by decide +kernel
theorem dX7_init_114 : decode cX7_init 114 = .ok (.dup, 1) := by decide +kernel
theorem dX7_init_115 : decode cX7_init 115 = .ok (.bipush 9, 2) := by decide +kernel
theorem dX7_init_117 : decode cX7_init 117 = .ok (.bipush 41, 2) := by decide +kernel
theorem dX7_init_119 : decode cX7_init 119 = .ok (.iastore, 1) := by decide +kernel
theorem dX7_init_120 : decode cX7_init 120 = .ok (.putfield 32, 3) := by decide +kernel
theorem dX7_init_123 : decode cX7_init 123 = .ok (.aload_n 0, 1) := by decide +kernel
theorem dX7_init_124 : decode cX7_init 124 = .ok (.bipush 41, 2) := by decide +kernel
theorem dX7_init_126 : decode cX7_init 126 = .ok (.newarray .int, 2) := by decide +kernel
theorem dX7_init_128 : decode cX7_init 128 = .ok (.dup, 1) := by decide +kernel
theorem dX7_init_129 : decode cX7_init 129 = .ok (.iconst 0, 1) := by decide +kernel
theorem dX7_init_130 : decode cX7_init 130 = .ok (.bipush 115, 2) := by decide +kernel
theorem dX7_init_132 : decode cX7_init 132 = .ok (.iastore, 1) := by decide +kernel
theorem dX7_init_133 : decode cX7_init 133 = .ok (.dup, 1) := by decide +kernel
theorem dX7_init_134 : decode cX7_init 134 = .ok (.iconst 1, 1) := by decide +kernel
theorem dX7_init_135 : decode cX7_init 135 = .ok (.bipush 101, 2) := by decide +kernel
theorem dX7_init_137 : decode cX7_init 137 = .ok (.iastore, 1) := by decide +kernel
theorem dX7_init_138 : decode cX7_init 138 = .ok (.dup, 1) := by decide +kernel
theorem dX7_init_139 : decode cX7_init 139 = .ok (.iconst 2, 1) := by decide +kernel
theorem dX7_init_140 : decode cX7_init 140 = .ok (.bipush 116, 2) := by decide +kernel
theorem dX7_init_142 : decode cX7_init 142 = .ok (.iastore, 1) := by decide +kernel
theorem dX7_init_143 : decode cX7_init 143 = .ok (.dup, 1) := by decide +kernel
theorem dX7_init_144 : decode cX7_init 144 = .ok (.iconst 3, 1) := by decide +kernel
theorem dX7_init_145 : decode cX7_init 145 = .ok (.bipush 115, 2) := by decide +kernel
theorem dX7_init_147 : decode cX7_init 147 = .ok (.iastore, 1) := by decide +kernel
theorem dX7_init_148 : decode cX7_init 148 = .ok (.dup, 1) := by decide +kernel
theorem dX7_init_149 : decode cX7_init 149 = .ok (.iconst 4, 1) := by decide +kernel
theorem dX7_init_150 : decode cX7_init 150 = .ok (.bipush 104, 2) := by decide +kernel
theorem dX7_init_152 : decode cX7_init 152 = .ok (.iastore, 1) := by decide +kernel
theorem dX7_init_153 : decode cX7_init 153 = .ok (.dup, 1) := by decide +kernel
theorem dX7_init_154 : decode cX7_init 154 = .ok (.iconst 5, 1) := by decide +kernel
theorem dX7_init_155 : decode cX7_init 155 = .ok (.bipush 97, 2) := by decide +kernel
theorem dX7_init_157 : decode cX7_init 157 = .ok (.iastore, 1) := by decide +kernel
theorem dX7_init_158 : decode cX7_init 158 = .ok (.dup, 1) := by decide +kernel
theorem dX7_init_159 : decode cX7_init 159 = .ok (.bipush 6, 2) := by decide +kernel
theorem dX7_init_161 : decode cX7_init 161 = .ok (.bipush 112, 2) := by decide +kernel
theorem dX7_init_163 : decode cX7_init 163 = .ok (.iastore, 1) := by decide +kernel
theorem dX7_init_164 : decode cX7_init 164 = .ok (.dup, 1) := by decide +kernel
theorem dX7_init_165 : decode cX7_init 165 = .ok (.bipush 7, 2) := by decide +kernel
theorem dX7_init_167 : decode cX7_init 167 = .ok (.bipush 101, 2) := by decide +kernel
theorem dX7_init_169 : decode cX7_init 169 = .ok (.iastore, 1) := by decide +kernel
theorem dX7_init_170 : decode cX7_init 170 = .ok (.dup, 1) := by decide +kernel
theorem dX7_init_171 : decode cX7_init 171 = .ok (.bipush 8, 2) := by decide +kernel
theorem dX7_init_173 : decode cX7_init 173 = .ok (.bipush 112, 2) := by decide +kernel
theorem dX7_init_175 : decode cX7_init 175 = .ok (.iastore, 1) := by decide +kernel
theorem dX7_init_176 : decode cX7_init 176 = .ok (.dup, 1) := by decide +kernel
theorem dX7_init_177 : decode cX7_init 177 = .ok (.bipush 9, 2) := by decide +kernel
theorem dX7_init_179 : decode cX7_init 179 = .ok (.bipush 97, 2) := by decide +kernel
theorem dX7_init_181 : decode cX7_init 181 = .ok (.iastore, 1) := by decide +kernel
theorem dX7_init_182 : decode cX7_init 182 = .ok (.dup, 1) := by decide +kernel
theorem dX7_init_183 : decode cX7_init 183 = .ok (.bipush 10, 2) := by decide +kernel
theorem dX7_init_185 : decode cX7_init 185 = .ok (.bipush 114, 2) := by decide +kernel
theorem dX7_init_187 : decode cX7_init 187 = .ok (.iastore, 1) := by decide +kernel
theorem dX7_init_188 : decode cX7_init 188 = .ok (.dup, 1) := by decide +kernel
theorem dX7_init_189 : decode cX7_init 189 = .ok (.bipush 11, 2) := by decide +kernel
theorem dX7_init_191 : decode cX7_init 191 = .ok (.bipush 109, 2) := by decide +kernel
theorem dX7_init_193 : decode cX7_init 193 = .ok (.iastore, 1) := by decide +kernel
theorem dX7_init_194 : decode cX7_init 194 = .ok (.dup, 1) := by decide +kernel
theorem dX7_init_195 : decode cX7_init 195 = .ok (.bipush 12, 2) := by decide +kernel
theorem dX7_init_197 : decode cX7_init 197 = .ok (.bipush 101, 2) := by decide +kernel
theorem dX7_init_199 : decode cX7_init 199 = .ok (.iastore, 1) := by decide +kernel
theorem dX7_init_200 : decode cX7_init 200 = .ok (.dup, 1) := by decide +kernel
theorem dX7_init_201 : decode cX7_init 201 = .ok (.bipush 13, 2) := by decide +kernel
theorem dX7_init_203 : decode cX7_init 203 = .ok (.bipush 97, 2) := by decide +kernel
theorem dX7_init_205 : decode cX7_init 205 = .ok (.iastore, 1) := by decide +kernel
theorem dX7_init_206 : decode cX7_init 206 = .ok (.dup, 1) := by decide +kernel
theorem dX7_init_207 : decode cX7_init 207 = .ok (.bipush 14, 2) := by decide +kernel
theorem dX7_init_209 : decode cX7_init 209 = .ok (.bipush 115, 2) := by decide +kernel
theorem dX7_init_211 : decode cX7_init 211 = .ok (.iastore, 1) := by decide +kernel
theorem dX7_init_212 : decode cX7_init 212 = .ok (.dup, 1) := by decide +kernel
theorem dX7_init_213 : decode cX7_init 213 = .ok (.bipush 15, 2) := by decide +kernel
theorem dX7_init_215 : decode cX7_init 215 = .ok (.bipush 117, 2) := by decide +kernel
theorem dX7_init_217 : decode cX7_init 217 = .ok (.iastore, 1) := by decide +kernel
theorem dX7_init_218 : decode cX7_init 218 = .ok (.dup, 1) := by decide +kernel
theorem dX7_init_219 : decode cX7_init 219 = .ok (.bipush 16, 2) := by decide +kernel
theorem dX7_init_221 : decode cX7_init 221 = .ok (.bipush 114, 2) := by decide +kernel
theorem dX7_init_223 : decode cX7_init 223 = .ok (.iastore, 1) := by decide +kernel
theorem dX7_init_224 : decode cX7_init 224 = .ok (.dup, 1) := by decide +kernel
theorem dX7_init_225 : decode cX7_init 225 = .ok (.bipush 17, 2) := by decide +kernel
theorem dX7_init_227 : decode cX7_init 227 = .ok (.bipush 101, 2) := by decide +kernel
theorem dX7_init_229 : decode cX7_init 229 = .ok (.iastore, 1) := by decide +kernel
theorem dX7_init_230 : decode cX7_init 230 = .ok (.dup, 1) := by decide +kernel
theorem dX7_init_231 : decode cX7_init 231 = .ok (.bipush 18, 2) := by decide +kernel
theorem dX7_init_233 : decode cX7_init 233 = .ok (.bipush 108, 2) := by decide +kernel
theorem dX7_init_235 : decode cX7_init 235 = .ok (.iastore, 1) := by decide +kernel
theorem dX7_init_236 : decode cX7_init 236 = .ok (.dup, 1) := by decide +kernel
theorem dX7_init_237 : decode cX7_init 237 = .ok (.bipush 19, 2) := by decide +kernel
theorem dX7_init_239 : decode cX7_init 239 = .ok (.bipush 101, 2) := by decide +kernel
theorem dX7_init_241 : decode cX7_init 241 = .ok (.iastore, 1) := by decide +kernel
theorem dX7_init_242 : decode cX7_init 242 = .ok (.dup, 1) := by decide +kernel
theorem dX7_init_243 : decode cX7_init 243 = .ok (.bipush 20, 2) := by decide +kernel
theorem dX7_init_245 : decode cX7_init 245 = .ok (.bipush 97, 2) := by decide +kernel
theorem dX7_init_247 : decode cX7_init 247 = .ok (.iastore, 1) := by decide +kernel
theorem dX7_init_248 : decode cX7_init 248 = .ok (.dup, 1) := by decide +kernel
theorem dX7_init_249 : decode cX7_init 249 = .ok (.bipush 21, 2) := by decide +kernel
theorem dX7_init_251 : decode cX7_init 251 = .ok (.bipush 100, 2) := by decide +kernel
theorem dX7_init_253 : decode cX7_init 253 = .ok (.iastore, 1) := by decide +kernel
theorem dX7_init_254 : decode cX7_init 254 = .ok (.dup, 1) := by decide +kernel
theorem dX7_init_255 : decode cX7_init 255 = .ok (.bipush 22, 2) := by decide +kernel
theorem dX7_init_257 : decode cX7_init 257 = .ok (.bipush 105, 2) := by decide +kernel
theorem dX7_init_259 : decode cX7_init 259 = .ok (.iastore, 1) := by decide +kernel
theorem dX7_init_260 : decode cX7_init 260 = .ok (.dup, 1) := by decide +kernel
theorem dX7_init_261 : decode cX7_init 261 = .ok (.bipush 23, 2) := by decide +kernel
theorem dX7_init_263 : decode cX7_init 263 = .ok (.bipush 110, 2) := by decide +kernel
theorem dX7_init_265 : decode cX7_init 265 = .ok (.iastore, 1) := by decide +kernel
theorem dX7_init_266 : decode cX7_init 266 = .ok (.dup, 1) := by decide +kernel
theorem dX7_init_267 : decode cX7_init 267 = .ok (.bipush 24, 2) := by decide +kernel
theorem dX7_init_269 : decode cX7_init 269 = .ok (.bipush 103, 2) := by decide +kernel
theorem dX7_init_271 : decode cX7_init 271 = .ok (.iastore, 1) := by decide +kernel
theorem dX7_init_272 : decode cX7_init 272 = .ok (.dup, 1) := by decide +kernel
theorem dX7_init_273 : decode cX7_init 273 = .ok (.bipush 25, 2) := by decide +kernel
theorem dX7_init_275 : decode cX7_init 275 = .ok (.bipush 99, 2) := by decide +kernel
theorem dX7_init_277 : decode cX7_init 277 = .ok (.iastore, 1) := by decide +kernel
theorem dX7_init_278 : decode cX7_init 278 = .ok (.dup, 1) := by decide +kernel
theorem dX7_init_279 : decode cX7_init 279 = .ok (.bipush 26, 2) := by decide +kernel
theorem dX7_init_281 : decode cX7_init 281 = .ok (.bipush 97, 2) := by decide +kernel
theorem dX7_init_283 : decode cX7_init 283 = .ok (.iastore, 1) := by decide +kernel
theorem dX7_init_284 : decode cX7_init 284 = .ok (.dup, 1) := by decide +kernel
theorem dX7_init_285 : decode cX7_init 285 = .ok (.bipush 27, 2) := by decide +kernel
theorem dX7_init_287 : decode cX7_init 287 = .ok (.bipush 112, 2) := by decide +kernel
theorem dX7_init_289 : decode cX7_init 289 = .ok (.iastore, 1) := by decide +kernel
theorem dX7_init_290 : decode cX7_init 290 = .ok (.dup, 1) := by decide +kernel
theorem dX7_init_291 : decode cX7_init 291 = .ok (.bipush 28, 2) := by decide +kernel
theorem dX7_init_293 : decode cX7_init 293 = .ok (.bipush 103, 2) := by decide +kernel
theorem dX7_init_295 : decode cX7_init 295 = .ok (.iastore, 1) := by decide +kernel
theorem dX7_init_296 : decode cX7_init 296 = .ok (.dup, 1) := by decide +kernel
theorem dX7_init_297 : decode cX7_init 297 = .ok (.bipush 29, 2) := by decide +kernel
theorem dX7_init_299 : decode cX7_init 299 = .ok (.bipush 97, 2) := by decide +kernel
theorem dX7_init_301 : decode cX7_init 301 = .ok (.iastore, 1) := by decide +kernel
theorem dX7_init_302 : decode cX7_init 302 = .ok (.dup, 1) := by decide +kernel
theorem dX7_init_303 : decode cX7_init 303 = .ok (.bipush 30, 2) := by decide +kernel
theorem dX7_init_305 : decode cX7_init 305 = .ok (.bipush 112, 2) := by decide +kernel
theorem dX7_init_307 : decode cX7_init 307 = .ok (.iastore, 1) := by decide +kernel
theorem dX7_init_308 : decode cX7_init 308 = .ok (.dup, 1) := by decide +kernel
theorem dX7_init_309 : decode cX7_init 309 = .ok (.bipush 31, 2) := by decide +kernel
theorem dX7_init_311 : decode cX7_init 311 = .ok (.bipush 109, 2) := by decide +kernel
theorem dX7_init_313 : decode cX7_init 313 = .ok (.iastore, 1) := by decide +kernel
theorem dX7_init_314 : decode cX7_init 314 = .ok (.dup, 1) := by decide +kernel
theorem dX7_init_315 : decode cX7_init 315 = .ok (.bipush 32, 2) := by decide +kernel
theorem dX7_init_317 : decode cX7_init 317 = .ok (.bipush 111, 2) := by decide +kernel
theorem dX7_init_319 : decode cX7_init 319 = .ok (.iastore, 1) := by decide +kernel
theorem dX7_init_320 : decode cX7_init 320 = .ok (.dup, 1) := by decide +kernel
theorem dX7_init_321 : decode cX7_init 321 = .ok (.bipush 33, 2) := by decide +kernel
theorem dX7_init_323 : decode cX7_init 323 = .ok (.bipush 100, 2) := by decide +kernel
theorem dX7_init_325 : decode cX7_init 325 = .ok (.iastore, 1) := by decide +kernel
theorem dX7_init_326 : decode cX7_init 326 = .ok (.dup, 1) := by decide +kernel
theorem dX7_init_327 : decode cX7_init 327 = .ok (.bipush 34, 2) := by decide +kernel
theorem dX7_init_329 : decode cX7_init 329 = .ok (.bipush 101, 2) := by decide +kernel
theorem dX7_init_331 : decode cX7_init 331 = .ok (.iastore, 1) := by decide +kernel
theorem dX7_init_332 : decode cX7_init 332 = .ok (.dup, 1) := by decide +kernel
theorem dX7_init_333 : decode cX7_init 333 = .ok (.bipush 35, 2) := by decide +kernel
theorem dX7_init_335 : decode cX7_init 335 = .ok (.bipush 112, 2) := by decide +kernel
theorem dX7_init_337 : decode cX7_init 337 = .ok (.iastore, 1) := by decide +kernel
theorem dX7_init_338 : decode cX7_init 338 = .ok (.dup, 1) := by decide +kernel
theorem dX7_init_339 : decode cX7_init 339 = .ok (.bipush 36, 2) := by decide +kernel
theorem dX7_init_341 : decode cX7_init 341 = .ok (.bipush 111, 2) := by decide +kernel
theorem dX7_init_343 : decode cX7_init 343 = .ok (.iastore, 1) := by decide +kernel
theorem dX7_init_344 : decode cX7_init 344 = .ok (.dup, 1) := by decide +kernel
theorem dX7_init_345 : decode cX7_init 345 = .ok (.bipush 37, 2) := by decide +kernel
theorem dX7_init_347 : decode cX7_init 347 = .ok (.bipush 108, 2) := by decide +kernel
theorem dX7_init_349 : decode cX7_init 349 = .ok (.iastore, 1) := by decide +kernel
theorem dX7_init_350 : decode cX7_init 350 = .ok (.dup, 1) := by decide +kernel
theorem dX7_init_351 : decode cX7_init 351 = .ok (.bipush 38, 2) := by decide +kernel
theorem dX7_init_353 : decode cX7_init 353 = .ok (.bipush 105, 2) := by decide +kernel
theorem dX7_init_355 : decode cX7_init 355 = .ok (.iastore, 1) := by decide +kernel
theorem dX7_init_356 : decode cX7_init 356 = .ok (.dup, 1) := by decide +kernel
theorem dX7_init_357 : decode cX7_init 357 = .ok (.bipush 39, 2) := by decide +kernel
theorem dX7_init_359 : decode cX7_init 359 = .ok (.bipush 99, 2) := by decide +kernel
theorem dX7_init_361 : decode cX7_init 361 = .ok (.iastore, 1) := by decide +kernel
theorem dX7_init_362 : decode cX7_init 362 = .ok (.dup, 1) := by decide +kernel
theorem dX7_init_363 : decode cX7_init 363 = .ok (.bipush 40, 2) := by decide +kernel
theorem dX7_init_365 : decode cX7_init 365 = .ok (.bipush 121, 2) := by decide +kernel
theorem dX7_init_367 : decode cX7_init 367 = .ok (.iastore, 1) := by decide +kernel
theorem dX7_init_368 : decode cX7_init 368 = .ok (.putfield 35, 3) := by decide +kernel
theorem dX7_init_371 : decode cX7_init 371 = .ok (.aload_n 0, 1) := by decide +kernel
theorem dX7_init_372 : decode cX7_init 372 = .ok (.bipush 6, 2) := by decide +kernel
theorem dX7_init_374 : decode cX7_init 374 = .ok (.newarray .boolean, 2) := by decide +kernel
theorem dX7_init_376 : decode cX7_init 376 = .ok (.putfield 38, 3) := by decide +kernel
theorem dX7_init_379 : decode cX7_init 379 = .ok (.aload_n 0, 1) := by decide +kernel
theorem dX7_init_380 : decode cX7_init 380 = .ok (.bipush 9, 2) := by decide +kernel
theorem dX7_init_382 : decode cX7_init 382 = .ok (.newarray .int, 2) := by decide +kernel
theorem dX7_init_384 : decode cX7_init 384 = .ok (.putfield 41, 3) := by decide +kernel
theorem dX7_init_387 : decode cX7_init 387 = .ok (.aload_n 0, 1) := by decide +kernel
theorem dX7_init_388 : decode cX7_init 388 = .ok (.bipush 8, 2) := by decide +kernel
theorem dX7_init_390 : decode cX7_init 390 = .ok (.newarray .int, 2) := by decide +kernel
theorem dX7_init_392 : decode cX7_init 392 = .ok (.putfield 44, 3) := by decide +kernel
theorem dX7_init_395 : decode cX7_init 395 = .ok (.aload_n 0, 1) := by decide +kernel
theorem dX7_init_396 : decode cX7_init 396 = .ok (.sipush 300, 3) := by decide +kernel
theorem dX7_init_399 : decode cX7_init 399 = .ok (.newarray .int, 2) := by decide +kernel
theorem dX7_init_401 : decode cX7_init 401 = .ok (.putfield 47, 3) := by decide +kernel
theorem dX7_init_404 : decode cX7_init 404 = .ok (.aload_n 0, 1) := by decide +kernel
theorem dX7_init_405 : decode cX7_init 405 = .ok (.sipush 300, 3) := by decide +kernel
theorem dX7_init_408 : decode cX7_init 408 = .ok (.newarray .int, 2) := by decide +kernel
theorem dX7_init_410 : decode cX7_init 410 = .ok (.putfield 50, 3) := by decide +kernel
theorem dX7_init_413 : decode cX7_init 413 = .ok (.aload_n 0, 1) := by decide +kernel
theorem dX7_init_414 : decode cX7_init 414 = .ok (.sipush 300, 3) := by decide +kernel
theorem dX7_init_417 : decode cX7_init 417 = .ok (.newarray .int, 2) := by decide +kernel
theorem dX7_init_419 : decode cX7_init 419 = .ok (.putfield 53, 3) := by decide +kernel
theorem dX7_init_422 : decode cX7_init 422 = .ok (.aload_n 0, 1) := by decide +kernel
theorem dX7_init_423 : decode cX7_init 423 = .ok (.sipush 300, 3) := by decide +kernel
theorem dX7_init_426 : decode cX7_init 426 = .ok (.newarray .int, 2) := by decide +kernel
theorem dX7_init_428 : decode cX7_init 428 = .ok (.putfield 56, 3) := by decide +kernel
theorem dX7_init_431 : decode cX7_init 431 = .ok (.aload_n 0, 1) := by decide +kernel
theorem dX7_init_432 : decode cX7_init 432 = .ok (.sipush 6642, 3) := by decide +kernel
theorem dX7_init_435 : decode cX7_init 435 = .ok (.newarray .int, 2) := by decide +kernel
theorem dX7_init_437 : decode cX7_init 437 = .ok (.putfield 59, 3) := by decide +kernel
theorem dX7_init_440 : decode cX7_init 440 = .ok (.aload_n 0, 1) := by decide +kernel
theorem dX7_init_441 : decode cX7_init 441 = .ok (.sipush 6642, 3) := by decide +kernel
theorem dX7_init_444 : decode cX7_init 444 = .ok (.newarray .int, 2) := by decide +kernel
theorem dX7_init_446 : decode cX7_init 446 = .ok (.putfield 62, 3) := by decide +kernel
theorem dX7_init_449 : decode cX7_init 449 = .ok (.aload_n 0, 1) := by decide +kernel
theorem dX7_init_450 : decode cX7_init 450 = .ok (.sipush 6642, 3) := by decide +kernel
theorem dX7_init_453 : decode cX7_init 453 = .ok (.newarray .int, 2) := by decide +kernel
theorem dX7_init_455 : decode cX7_init 455 = .ok (.putfield 65, 3) := by decide +kernel
theorem dX7_init_458 : decode cX7_init 458 = .ok (.aload_n 0, 1) := by decide +kernel
theorem dX7_init_459 : decode cX7_init 459 = .ok (.bipush 7, 2) := by decide +kernel
theorem dX7_init_461 : decode cX7_init 461 = .ok (.newarray .int, 2) := by decide +kernel
theorem dX7_init_463 : decode cX7_init 463 = .ok (.putfield 68, 3) := by decide +kernel
theorem dX7_init_466 : decode cX7_init 466 = .ok (.aload_n 0, 1) := by decide +kernel
theorem dX7_init_467 : decode cX7_init 467 = .ok (.getfield 7, 3) := by decide +kernel
theorem dX7_init_470 : decode cX7_init 470 = .ok (.sipush 585, 3) := by decide +kernel
theorem dX7_init_473 : decode cX7_init 473 = .ok (.bipush 40, 2) := by decide +kernel
theorem dX7_init_475 : decode cX7_init 475 = .ok (.iastore, 1) := by decide +kernel
theorem dX7_init_476 : decode cX7_init 476 = .ok (.aload_n 0, 1) := by decide +kernel
theorem dX7_init_477 : decode cX7_init 477 = .ok (.getfield 7, 3) := by decide +kernel
theorem dX7_init_480 : decode cX7_init 480 = .ok (.sipush 586, 3) := by decide +kernel
theorem dX7_init_483 : decode cX7_init 483 = .ok (.bipush 8, 2) := by decide +kernel
theorem dX7_init_485 : decode cX7_init 485 = .ok (.iastore, 1) := by decide +kernel
theorem dX7_init_486 : decode cX7_init 486 = .ok (.aload_n 0, 1) := by decide +kernel
theorem dX7_init_487 : decode cX7_init 487 = .ok (.getfield 7, 3) := by decide +kernel
theorem dX7_init_490 : decode cX7_init 490 = .ok (.sipush 587, 3) := by decide +kernel
theorem dX7_init_493 : decode cX7_init 493 = .ok (.iconst 5, 1) := by decide +kernel
theorem dX7_init_494 : decode cX7_init 494 = .ok (.iastore, 1) := by decide +kernel
theorem dX7_init_495 : decode cX7_init 495 = .ok (.aload_n 0, 1) := by decide +kernel
theorem dX7_init_496 : decode cX7_init 496 = .ok (.getfield 7, 3) := by decide +kernel
theorem dX7_init_499 : decode cX7_init 499 = .ok (.sipush 588, 3) := by decide +kernel
theorem dX7_init_502 : decode cX7_init 502 = .ok (.iconst 1, 1) := by decide +kernel
theorem dX7_init_503 : decode cX7_init 503 = .ok (.iastore, 1) := by decide +kernel
theorem dX7_init_504 : decode cX7_init 504 = .ok (.return_, 1) := by decide +kernel
theorem dX7_in_0 : decode cX7_in 0 = .ok (.lload_n 0, 1) := by decide +kernel
theorem dX7_in_1 : decode cX7_in 1 = .ok (.lload_n 2, 1) := by decide +kernel
theorem dX7_in_2 : decode cX7_in 2 = .ok (.lcmp, 1) := by decide +kernel
theorem dX7_in_3 : decode cX7_in 3 = .ok (.ifCond .lt 14, 3) := by decide +kernel
theorem dX7_in_6 : decode cX7_in 6 = .ok (.lload_n 0, 1) := by decide +kernel
theorem dX7_in_7 : decode cX7_in 7 = .ok (.lload 4, 2) := by decide +kernel
theorem dX7_in_9 : decode cX7_in 9 = .ok (.lcmp, 1) := by decide +kernel
theorem dX7_in_10 : decode cX7_in 10 = .ok (.ifCond .gt 7, 3) := by decide +kernel
theorem dX7_in_13 : decode cX7_in 13 = .ok (.iconst 1, 1) := by decide +kernel
theorem dX7_in_14 : decode cX7_in 14 = .ok (.goto 4, 3) := by decide +kernel
theorem dX7_in_17 : decode cX7_in 17 = .ok (.iconst 0, 1) := by decide +kernel
theorem dX7_in_18 : decode cX7_in 18 = .ok (.ireturn, 1) := by decide +kernel
theorem dX7_leastOf_0 : decode cX7_leastOf 0 = .ok (.iload_n 0, 1) := by decide +kernel
theorem dX7_leastOf_1 : decode cX7_leastOf 1 = .ok (.ifCond .ne 8, 3) := by decide +kernel
theorem dX7_leastOf_4 : decode cX7_leastOf 4 = .ok (.bipush 20, 2) := by decide +kernel
theorem dX7_leastOf_6 : decode cX7_leastOf 6 = .ok (.goto 22, 3) := by decide +kernel
theorem dX7_leastOf_9 : decode cX7_leastOf 9 = .ok (.iload_n 0, 1) := by decide +kernel
theorem dX7_leastOf_10 : decode cX7_leastOf 10 = .ok (.iconst 1, 1) := by decide +kernel
theorem dX7_leastOf_11 : decode cX7_leastOf 11 = .ok (.if_icmp .ne 7, 3) := by decide +kernel
theorem dX7_leastOf_14 : decode cX7_leastOf 14 = .ok (.iconst 4, 1) := by decide +kernel
theorem dX7_leastOf_15 : decode cX7_leastOf 15 = .ok (.goto 13, 3) := by decide +kernel
theorem dX7_leastOf_18 : decode cX7_leastOf 18 = .ok (.iload_n 0, 1) := by decide +kernel
theorem dX7_leastOf_19 : decode cX7_leastOf 19 = .ok (.iconst 2, 1) := by decide +kernel
theorem dX7_leastOf_20 : decode cX7_leastOf 20 = .ok (.if_icmp .ne 7, 3) := by decide +kernel
theorem dX7_leastOf_23 : decode cX7_leastOf 23 = .ok (.iconst 2, 1) := by decide +kernel
theorem dX7_leastOf_24 : decode cX7_leastOf 24 = .ok (.goto 4, 3) := by decide +kernel
theorem dX7_leastOf_27 : decode cX7_leastOf 27 = .ok (.iconst 0, 1) := by decide +kernel
theorem dX7_leastOf_28 : decode cX7_leastOf 28 = .ok (.ireturn, 1) := by decide +kernel
theorem dX7_mostOf_0 : decode cX7_mostOf 0 = .ok (.iload_n 0, 1) := by decide +kernel
theorem dX7_mostOf_1 : decode cX7_mostOf 1 = .ok (.ifCond .ne 8, 3) := by decide +kernel
theorem dX7_mostOf_4 : decode cX7_mostOf 4 = .ok (.bipush 99, 2) := by decide +kernel
theorem dX7_mostOf_6 : decode cX7_mostOf 6 = .ok (.goto 33, 3) := by decide +kernel
theorem dX7_mostOf_9 : decode cX7_mostOf 9 = .ok (.iload_n 0, 1) := by decide +kernel
theorem dX7_mostOf_10 : decode cX7_mostOf 10 = .ok (.iconst 3, 1) := by decide +kernel
theorem dX7_mostOf_11 : decode cX7_mostOf 11 = .ok (.if_icmp .ge 8, 3) := by decide +kernel
theorem dX7_mostOf_14 : decode cX7_mostOf 14 = .ok (.bipush 20, 2) := by decide +kernel
theorem dX7_mostOf_16 : decode cX7_mostOf 16 = .ok (.goto 23, 3) := by decide +kernel
theorem dX7_mostOf_19 : decode cX7_mostOf 19 = .ok (.iload_n 0, 1) := by decide +kernel
theorem dX7_mostOf_20 : decode cX7_mostOf 20 = .ok (.iconst 3, 1) := by decide +kernel
theorem dX7_mostOf_21 : decode cX7_mostOf 21 = .ok (.if_icmp .ne 8, 3) := by decide +kernel
theorem dX7_mostOf_24 : decode cX7_mostOf 24 = .ok (.bipush 9, 2) := by decide +kernel
theorem dX7_mostOf_26 : decode cX7_mostOf 26 = .ok (.goto 13, 3) := by decide +kernel
theorem dX7_mostOf_29 : decode cX7_mostOf 29 = .ok (.iload_n 0, 1) := by decide +kernel
theorem dX7_mostOf_30 : decode cX7_mostOf 30 = .ok (.iconst 4, 1) := by decide +kernel
theorem dX7_mostOf_31 : decode cX7_mostOf 31 = .ok (.if_icmp .ne 7, 3) := by decide +kernel
theorem dX7_mostOf_34 : decode cX7_mostOf 34 = .ok (.iconst 1, 1) := by decide +kernel
theorem dX7_mostOf_35 : decode cX7_mostOf 35 = .ok (.goto 4, 3) := by decide +kernel
theorem dX7_mostOf_38 : decode cX7_mostOf 38 = .ok (.iconst 2, 1) := by decide +kernel
theorem dX7_mostOf_39 : decode cX7_mostOf 39 = .ok (.ireturn, 1) := by decide +kernel
theorem dX7_feed_0 : decode cX7_feed 0 = .ok (.iload_n 1, 1) := by decide +kernel
theorem dX7_feed_1 : decode cX7_feed 1 = .ok (.i2l, 1) := by decide +kernel
theorem dX7_feed_2 : decode cX7_feed 2 = .ok (.lconst 0, 1) := by decide +kernel
theorem dX7_feed_3 : decode cX7_feed 3 = .ok (.ldc2_w 71, 3) := by decide +kernel
theorem dX7_feed_6 : decode cX7_feed 6 = .ok (.invokestatic 73, 3) := by decide +kernel
theorem dX7_feed_9 : decode cX7_feed 9 = .ok (.ifCond .ne 5, 3) := by decide +kernel
theorem dX7_feed_12 : decode cX7_feed 12 = .ok (.iconst (-1), 1) := by decide +kernel
theorem dX7_feed_13 : decode cX7_feed 13 = .ok (.ireturn, 1) := by decide +kernel
theorem dX7_feed_14 : decode cX7_feed 14 = .ok (.aload_n 0, 1) := by decide +kernel
theorem dX7_feed_15 : decode cX7_feed 15 = .ok (.getfield 77, 3) := by decide +kernel
theorem dX7_feed_18 : decode cX7_feed 18 = .ok (.sipush 400, 3) := by decide +kernel
theorem dX7_feed_21 : decode cX7_feed 21 = .ok (.if_icmp .ne 6, 3) := by decide +kernel
theorem dX7_feed_24 : decode cX7_feed 24 = .ok (.bipush (-3), 2) := by decide +kernel
theorem dX7_feed_26 : decode cX7_feed 26 = .ok (.ireturn, 1) := by decide +kernel
theorem dX7_feed_27 : decode cX7_feed 27 = .ok (.aload_n 0, 1) := by decide +kernel
theorem dX7_feed_28 : decode cX7_feed 28 = .ok (.getfield 29, 3) := by decide +kernel
theorem dX7_feed_31 : decode cX7_feed 31 = .ok (.aload_n 0, 1) := by decide +kernel
theorem dX7_feed_32 : decode cX7_feed 32 = .ok (.getfield 77, 3) := by decide +kernel
theorem dX7_feed_35 : decode cX7_feed 35 = .ok (.iload_n 1, 1) := by decide +kernel
theorem dX7_feed_36 : decode cX7_feed 36 = .ok (.iastore, 1) := by decide +kernel
theorem dX7_feed_37 : decode cX7_feed 37 = .ok (.aload_n 0, 1) := by decide +kernel
theorem dX7_feed_38 : decode cX7_feed 38 = .ok (.dup, 1) := by decide +kernel
theorem dX7_feed_39 : decode cX7_feed 39 = .ok (.getfield 77, 3) := by decide +kernel
theorem dX7_feed_42 : decode cX7_feed 42 = .ok (.iconst 1, 1) := by decide +kernel
theorem dX7_feed_43 : decode cX7_feed 43 = .ok (.iadd, 1) := by decide +kernel
theorem dX7_feed_44 : decode cX7_feed 44 = .ok (.putfield 77, 3) := by decide +kernel
theorem dX7_feed_47 : decode cX7_feed 47 = .ok (.aload_n 0, 1) := by decide +kernel
theorem dX7_feed_48 : decode cX7_feed 48 = .ok (.getfield 77, 3) := by decide +kernel
theorem dX7_feed_51 : decode cX7_feed 51 = .ok (.ireturn, 1) := by decide +kernel
theorem dX7_end_0 : decode cX7_end 0 = .ok (.iload_n 1, 1) := by decide +kernel
theorem dX7_end_1 : decode cX7_end 1 = .ok (.i2l, 1) := by decide +kernel
theorem dX7_end_2 : decode cX7_end 2 = .ok (.lconst 0, 1) := by decide +kernel
theorem dX7_end_3 : decode cX7_end 3 = .ok (.aload_n 0, 1) := by decide +kernel
theorem dX7_end_4 : decode cX7_end 4 = .ok (.getfield 77, 3) := by decide +kernel
theorem dX7_end_7 : decode cX7_end 7 = .ok (.i2l, 1) := by decide +kernel
theorem dX7_end_8 : decode cX7_end 8 = .ok (.invokestatic 73, 3) := by decide +kernel
theorem dX7_end_11 : decode cX7_end 11 = .ok (.ifCond .ne 5, 3) := by decide +kernel
theorem dX7_end_14 : decode cX7_end 14 = .ok (.iconst (-1), 1) := by decide +kernel
theorem dX7_end_15 : decode cX7_end 15 = .ok (.ireturn, 1) := by decide +kernel
theorem dX7_end_16 : decode cX7_end 16 = .ok (.aload_n 0, 1) := by decide +kernel
theorem dX7_end_17 : decode cX7_end 17 = .ok (.getfield 77, 3) := by decide +kernel
theorem dX7_end_20 : decode cX7_end 20 = .ok (.istore_n 2, 1) := by decide +kernel
theorem dX7_end_21 : decode cX7_end 21 = .ok (.aload_n 0, 1) := by decide +kernel
theorem dX7_end_22 : decode cX7_end 22 = .ok (.iload_n 1, 1) := by decide +kernel
theorem dX7_end_23 : decode cX7_end 23 = .ok (.putfield 77, 3) := by decide +kernel
theorem dX7_end_26 : decode cX7_end 26 = .ok (.iload_n 2, 1) := by decide +kernel
theorem dX7_end_27 : decode cX7_end 27 = .ok (.ireturn, 1) := by decide +kernel
theorem dX7_byteAt_0 : decode cX7_byteAt 0 = .ok (.iload_n 1, 1) := by decide +kernel
theorem dX7_byteAt_1 : decode cX7_byteAt 1 = .ok (.aload_n 0, 1) := by decide +kernel
theorem dX7_byteAt_2 : decode cX7_byteAt 2 = .ok (.getfield 77, 3) := by decide +kernel
theorem dX7_byteAt_5 : decode cX7_byteAt 5 = .ok (.if_icmp .ge 12, 3) := by decide +kernel
theorem dX7_byteAt_8 : decode cX7_byteAt 8 = .ok (.aload_n 0, 1) := by decide +kernel
theorem dX7_byteAt_9 : decode cX7_byteAt 9 = .ok (.getfield 29, 3) := by decide +kernel
theorem dX7_byteAt_12 : decode cX7_byteAt 12 = .ok (.iload_n 1, 1) := by decide +kernel
theorem dX7_byteAt_13 : decode cX7_byteAt 13 = .ok (.iaload, 1) := by decide +kernel
theorem dX7_byteAt_14 : decode cX7_byteAt 14 = .ok (.goto 5, 3) := by decide +kernel
theorem dX7_byteAt_17 : decode cX7_byteAt 17 = .ok (.bipush (-4), 2) := by decide +kernel
theorem dX7_byteAt_19 : decode cX7_byteAt 19 = .ok (.ireturn, 1) := by decide +kernel
theorem dX7_must_0 : decode cX7_must 0 = .ok (.iload_n 1, 1) := by decide +kernel
theorem dX7_must_1 : decode cX7_must 1 = .ok (.ifCond .ne 23, 3) := by decide +kernel
theorem dX7_must_4 : decode cX7_must 4 = .ok (.aload_n 0, 1) := by decide +kernel
theorem dX7_must_5 : decode cX7_must 5 = .ok (.getfield 81, 3) := by decide +kernel
theorem dX7_must_8 : decode cX7_must 8 = .ok (.ifCond .ne 16, 3) := by decide +kernel
theorem dX7_must_11 : decode cX7_must 11 = .ok (.aload_n 0, 1) := by decide +kernel
theorem dX7_must_12 : decode cX7_must 12 = .ok (.iload_n 2, 1) := by decide +kernel
theorem dX7_must_13 : decode cX7_must 13 = .ok (.putfield 81, 3) := by decide +kernel
theorem dX7_must_16 : decode cX7_must 16 = .ok (.aload_n 0, 1) := by decide +kernel
theorem dX7_must_17 : decode cX7_must 17 = .ok (.aload_n 0, 1) := by decide +kernel
theorem dX7_must_18 : decode cX7_must 18 = .ok (.getfield 84, 3) := by decide +kernel
theorem dX7_must_21 : decode cX7_must 21 = .ok (.putfield 87, 3) := by decide +kernel
theorem dX7_must_24 : decode cX7_must 24 = .ok (.return_, 1) := by decide +kernel
theorem dX7_reads_0 : decode cX7_reads 0 = .ok (.aload_n 0, 1) := by decide +kernel
theorem dX7_reads_1 : decode cX7_reads 1 = .ok (.getfield 81, 3) := by decide +kernel
theorem dX7_reads_4 : decode cX7_reads 4 = .ok (.ifCond .le 4, 3) := by decide +kernel
theorem dX7_reads_7 : decode cX7_reads 7 = .ok (.return_, 1) := by decide +kernel
theorem dX7_reads_8 : decode cX7_reads 8 = .ok (.aload_n 0, 1) := by decide +kernel
theorem dX7_reads_9 : decode cX7_reads 9 = .ok (.aload_n 0, 1) := by decide +kernel
theorem dX7_reads_10 : decode cX7_reads 10 = .ok (.getfield 90, 3) := by decide +kernel
theorem dX7_reads_13 : decode cX7_reads 13 = .ok (.invokevirtual 93, 3) := by decide +kernel
theorem dX7_reads_16 : decode cX7_reads 16 = .ok (.bipush 32, 2) := by decide +kernel
theorem dX7_reads_18 : decode cX7_reads 18 = .ok (.if_icmp .ne 16, 3) := by decide +kernel
theorem dX7_reads_21 : decode cX7_reads 21 = .ok (.aload_n 0, 1) := by decide +kernel
theorem dX7_reads_22 : decode cX7_reads 22 = .ok (.dup, 1) := by decide +kernel
theorem dX7_reads_23 : decode cX7_reads 23 = .ok (.getfield 90, 3) := by decide +kernel
theorem dX7_reads_26 : decode cX7_reads 26 = .ok (.iconst 1, 1) := by decide +kernel
theorem dX7_reads_27 : decode cX7_reads 27 = .ok (.iadd, 1) := by decide +kernel
theorem dX7_reads_28 : decode cX7_reads 28 = .ok (.putfield 90, 3) := by decide +kernel
theorem dX7_reads_31 : decode cX7_reads 31 = .ok (.goto (-23), 3) := by decide +kernel
theorem dX7_reads_34 : decode cX7_reads 34 = .ok (.aload_n 0, 1) := by decide +kernel
theorem dX7_reads_35 : decode cX7_reads 35 = .ok (.aload_n 0, 1) := by decide +kernel
theorem dX7_reads_36 : decode cX7_reads 36 = .ok (.getfield 90, 3) := by decide +kernel
theorem dX7_reads_39 : decode cX7_reads 39 = .ok (.putfield 84, 3) := by decide +kernel
theorem dX7_reads_42 : decode cX7_reads 42 = .ok (.aload_n 0, 1) := by decide +kernel
theorem dX7_reads_43 : decode cX7_reads 43 = .ok (.aload_n 0, 1) := by decide +kernel
theorem dX7_reads_44 : decode cX7_reads 44 = .ok (.getfield 90, 3) := by decide +kernel
theorem dX7_reads_47 : decode cX7_reads 47 = .ok (.invokevirtual 93, 3) := by decide +kernel
theorem dX7_reads_50 : decode cX7_reads 50 = .ok (.istore_n 1, 1) := by decide +kernel
theorem dX7_reads_51 : decode cX7_reads 51 = .ok (.aload_n 0, 1) := by decide +kernel
theorem dX7_reads_52 : decode cX7_reads 52 = .ok (.iload_n 1, 1) := by decide +kernel
theorem dX7_reads_53 : decode cX7_reads 53 = .ok (.putfield 97, 3) := by decide +kernel
theorem dX7_reads_56 : decode cX7_reads 56 = .ok (.iload_n 1, 1) := by decide +kernel
theorem dX7_reads_57 : decode cX7_reads 57 = .ok (.bipush (-4), 2) := by decide +kernel
theorem dX7_reads_59 : decode cX7_reads 59 = .ok (.if_icmp .ne 11, 3) := by decide +kernel
theorem dX7_reads_62 : decode cX7_reads 62 = .ok (.aload_n 0, 1) := by decide +kernel
theorem dX7_reads_63 : decode cX7_reads 63 = .ok (.iconst 0, 1) := by decide +kernel
theorem dX7_reads_64 : decode cX7_reads 64 = .ok (.putfield 100, 3) := by decide +kernel
theorem dX7_reads_67 : decode cX7_reads 67 = .ok (.goto 220, 3) := by decide +kernel
theorem dX7_reads_70 : decode cX7_reads 70 = .ok (.iload_n 1, 1) := by decide +kernel
theorem dX7_reads_71 : decode cX7_reads 71 = .ok (.i2l, 1) := by decide +kernel
theorem dX7_reads_72 : decode cX7_reads 72 = .ok (.ldc2_w 103, 3) := by decide +kernel
theorem dX7_reads_75 : decode cX7_reads 75 = .ok (.ldc2_w 105, 3) := by decide +kernel
theorem dX7_reads_78 : decode cX7_reads 78 = .ok (.invokestatic 73, 3) := by decide +kernel
theorem dX7_reads_81 : decode cX7_reads 81 = .ok (.ifCond .eq 42, 3) := by decide +kernel
theorem dX7_reads_84 : decode cX7_reads 84 = .ok (.aload_n 0, 1) := by decide +kernel
theorem dX7_reads_85 : decode cX7_reads 85 = .ok (.iconst 1, 1) := by decide +kernel
theorem dX7_reads_86 : decode cX7_reads 86 = .ok (.putfield 100, 3) := by decide +kernel
theorem dX7_reads_89 : decode cX7_reads 89 = .ok (.aload_n 0, 1) := by decide +kernel
theorem dX7_reads_90 : decode cX7_reads 90 = .ok (.aload_n 0, 1) := by decide +kernel
theorem dX7_reads_91 : decode cX7_reads 91 = .ok (.getfield 90, 3) := by decide +kernel
theorem dX7_reads_94 : decode cX7_reads 94 = .ok (.invokevirtual 93, 3) := by decide +kernel
theorem dX7_reads_97 : decode cX7_reads 97 = .ok (.i2l, 1) := by decide +kernel
theorem dX7_reads_98 : decode cX7_reads 98 = .ok (.ldc2_w 103, 3) := by decide +kernel
theorem dX7_reads_101 : decode cX7_reads 101 = .ok (.ldc2_w 105, 3) := by decide +kernel
theorem dX7_reads_104 : decode cX7_reads 104 = .ok (.invokestatic 73, 3) := by decide +kernel
theorem dX7_reads_107 : decode cX7_reads 107 = .ok (.ifCond .eq 180, 3) := by decide +kernel
theorem dX7_reads_110 : decode cX7_reads 110 = .ok (.aload_n 0, 1) := by decide +kernel
theorem dX7_reads_111 : decode cX7_reads 111 = .ok (.dup, 1) := by decide +kernel
theorem dX7_reads_112 : decode cX7_reads 112 = .ok (.getfield 90, 3) := by decide +kernel
theorem dX7_reads_115 : decode cX7_reads 115 = .ok (.iconst 1, 1) := by decide +kernel
theorem dX7_reads_116 : decode cX7_reads 116 = .ok (.iadd, 1) := by decide +kernel
theorem dX7_reads_117 : decode cX7_reads 117 = .ok (.putfield 90, 3) := by decide +kernel
theorem dX7_reads_120 : decode cX7_reads 120 = .ok (.goto (-31), 3) := by decide +kernel
theorem dX7_reads_123 : decode cX7_reads 123 = .ok (.iload_n 1, 1) := by decide +kernel
theorem dX7_reads_124 : decode cX7_reads 124 = .ok (.i2l, 1) := by decide +kernel
theorem dX7_reads_125 : decode cX7_reads 125 = .ok (.ldc2_w 107, 3) := by decide +kernel
theorem dX7_reads_128 : decode cX7_reads 128 = .ok (.ldc2_w 109, 3) := by decide +kernel
theorem dX7_reads_131 : decode cX7_reads 131 = .ok (.invokestatic 73, 3) := by decide +kernel
theorem dX7_reads_134 : decode cX7_reads 134 = .ok (.ifCond .eq 116, 3) := by decide +kernel
theorem dX7_reads_137 : decode cX7_reads 137 = .ok (.aload_n 0, 1) := by decide +kernel
theorem dX7_reads_138 : decode cX7_reads 138 = .ok (.iconst 2, 1) := by decide +kernel
theorem dX7_reads_139 : decode cX7_reads 139 = .ok (.putfield 100, 3) := by decide +kernel
theorem dX7_reads_142 : decode cX7_reads 142 = .ok (.aload_n 0, 1) := by decide +kernel
theorem dX7_reads_143 : decode cX7_reads 143 = .ok (.iconst 0, 1) := by decide +kernel
theorem dX7_reads_144 : decode cX7_reads 144 = .ok (.putfield 97, 3) := by decide +kernel
theorem dX7_reads_147 : decode cX7_reads 147 = .ok (.aload_n 0, 1) := by decide +kernel
theorem dX7_reads_148 : decode cX7_reads 148 = .ok (.aload_n 0, 1) := by decide +kernel
theorem dX7_reads_149 : decode cX7_reads 149 = .ok (.getfield 90, 3) := by decide +kernel
theorem dX7_reads_152 : decode cX7_reads 152 = .ok (.invokevirtual 93, 3) := by decide +kernel
theorem dX7_reads_155 : decode cX7_reads 155 = .ok (.i2l, 1) := by decide +kernel
theorem dX7_reads_156 : decode cX7_reads 156 = .ok (.ldc2_w 107, 3) := by decide +kernel
theorem dX7_reads_159 : decode cX7_reads 159 = .ok (.ldc2_w 109, 3) := by decide +kernel
theorem dX7_reads_162 : decode cX7_reads 162 = .ok (.invokestatic 73, 3) := by decide +kernel
theorem dX7_reads_165 : decode cX7_reads 165 = .ok (.ifCond .eq 59, 3) := by decide +kernel
theorem dX7_reads_168 : decode cX7_reads 168 = .ok (.aload_n 0, 1) := by decide +kernel
theorem dX7_reads_169 : decode cX7_reads 169 = .ok (.aload_n 0, 1) := by decide +kernel
theorem dX7_reads_170 : decode cX7_reads 170 = .ok (.getfield 90, 3) := by decide +kernel
theorem dX7_reads_173 : decode cX7_reads 173 = .ok (.aload_n 0, 1) := by decide +kernel
theorem dX7_reads_174 : decode cX7_reads 174 = .ok (.getfield 84, 3) := by decide +kernel
theorem dX7_reads_177 : decode cX7_reads 177 = .ok (.isub, 1) := by decide +kernel
theorem dX7_reads_178 : decode cX7_reads 178 = .ok (.iconst 2, 1) := by decide +kernel
theorem dX7_reads_179 : decode cX7_reads 179 = .ok (.if_icmp .ge 25, 3) := by decide +kernel
theorem dX7_reads_182 : decode cX7_reads 182 = .ok (.bipush 10, 2) := by decide +kernel
theorem dX7_reads_184 : decode cX7_reads 184 = .ok (.aload_n 0, 1) := by decide +kernel
theorem dX7_reads_185 : decode cX7_reads 185 = .ok (.getfield 97, 3) := by decide +kernel
theorem dX7_reads_188 : decode cX7_reads 188 = .ok (.imul, 1) := by decide +kernel
theorem dX7_reads_189 : decode cX7_reads 189 = .ok (.aload_n 0, 1) := by decide +kernel
theorem dX7_reads_190 : decode cX7_reads 190 = .ok (.aload_n 0, 1) := by decide +kernel
theorem dX7_reads_191 : decode cX7_reads 191 = .ok (.getfield 90, 3) := by decide +kernel
theorem dX7_reads_194 : decode cX7_reads 194 = .ok (.invokevirtual 93, 3) := by decide +kernel
theorem dX7_reads_197 : decode cX7_reads 197 = .ok (.iadd, 1) := by decide +kernel
theorem dX7_reads_198 : decode cX7_reads 198 = .ok (.bipush 48, 2) := by decide +kernel
theorem dX7_reads_200 : decode cX7_reads 200 = .ok (.isub, 1) := by decide +kernel
theorem dX7_reads_201 : decode cX7_reads 201 = .ok (.goto 7, 3) := by decide +kernel
theorem dX7_reads_204 : decode cX7_reads 204 = .ok (.aload_n 0, 1) := by decide +kernel
theorem dX7_reads_205 : decode cX7_reads 205 = .ok (.getfield 97, 3) := by decide +kernel
theorem dX7_reads_208 : decode cX7_reads 208 = .ok (.putfield 97, 3) := by decide +kernel
theorem dX7_reads_211 : decode cX7_reads 211 = .ok (.aload_n 0, 1) := by decide +kernel
theorem dX7_reads_212 : decode cX7_reads 212 = .ok (.dup, 1) := by decide +kernel
theorem dX7_reads_213 : decode cX7_reads 213 = .ok (.getfield 90, 3) := by decide +kernel
theorem dX7_reads_216 : decode cX7_reads 216 = .ok (.iconst 1, 1) := by decide +kernel
theorem dX7_reads_217 : decode cX7_reads 217 = .ok (.iadd, 1) := by decide +kernel
theorem dX7_reads_218 : decode cX7_reads 218 = .ok (.putfield 90, 3) := by decide +kernel
theorem dX7_reads_221 : decode cX7_reads 221 = .ok (.goto (-74), 3) := by decide +kernel
theorem dX7_reads_224 : decode cX7_reads 224 = .ok (.aload_n 0, 1) := by decide +kernel
theorem dX7_reads_225 : decode cX7_reads 225 = .ok (.aload_n 0, 1) := by decide +kernel
theorem dX7_reads_226 : decode cX7_reads 226 = .ok (.getfield 90, 3) := by decide +kernel
theorem dX7_reads_229 : decode cX7_reads 229 = .ok (.aload_n 0, 1) := by decide +kernel
theorem dX7_reads_230 : decode cX7_reads 230 = .ok (.getfield 84, 3) := by decide +kernel
theorem dX7_reads_233 : decode cX7_reads 233 = .ok (.isub, 1) := by decide +kernel
theorem dX7_reads_234 : decode cX7_reads 234 = .ok (.iconst 2, 1) := by decide +kernel
theorem dX7_reads_235 : decode cX7_reads 235 = .ok (.if_icmp .gt 7, 3) := by decide +kernel
theorem dX7_reads_238 : decode cX7_reads 238 = .ok (.iconst 1, 1) := by decide +kernel
theorem dX7_reads_239 : decode cX7_reads 239 = .ok (.goto 4, 3) := by decide +kernel
theorem dX7_reads_242 : decode cX7_reads 242 = .ok (.iconst 0, 1) := by decide +kernel
theorem dX7_reads_243 : decode cX7_reads 243 = .ok (.iconst 1, 1) := by decide +kernel
theorem dX7_reads_244 : decode cX7_reads 244 = .ok (.invokevirtual 111, 3) := by decide +kernel
theorem dX7_reads_247 : decode cX7_reads 247 = .ok (.goto 40, 3) := by decide +kernel
theorem dX7_reads_250 : decode cX7_reads 250 = .ok (.aload_n 0, 1) := by decide +kernel
theorem dX7_reads_251 : decode cX7_reads 251 = .ok (.iconst 3, 1) := by decide +kernel
theorem dX7_reads_252 : decode cX7_reads 252 = .ok (.putfield 100, 3) := by decide +kernel
theorem dX7_reads_255 : decode cX7_reads 255 = .ok (.aload_n 0, 1) := by decide +kernel
theorem dX7_reads_256 : decode cX7_reads 256 = .ok (.iload_n 1, 1) := by decide +kernel
theorem dX7_reads_257 : decode cX7_reads 257 = .ok (.bipush 58, 2) := by decide +kernel
theorem dX7_reads_259 : decode cX7_reads 259 = .ok (.if_icmp .eq 9, 3) := by decide +kernel
theorem dX7_reads_262 : decode cX7_reads 262 = .ok (.iload_n 1, 1) := by decide +kernel
theorem dX7_reads_263 : decode cX7_reads 263 = .ok (.bipush 59, 2) := by decide +kernel
theorem dX7_reads_265 : decode cX7_reads 265 = .ok (.if_icmp .ne 7, 3) := by decide +kernel
theorem dX7_reads_268 : decode cX7_reads 268 = .ok (.iconst 1, 1) := by decide +kernel
theorem dX7_reads_269 : decode cX7_reads 269 = .ok (.goto 4, 3) := by decide +kernel
theorem dX7_reads_272 : decode cX7_reads 272 = .ok (.iconst 0, 1) := by decide +kernel
theorem dX7_reads_273 : decode cX7_reads 273 = .ok (.iconst 1, 1) := by decide +kernel
theorem dX7_reads_274 : decode cX7_reads 274 = .ok (.invokevirtual 111, 3) := by decide +kernel
theorem dX7_reads_277 : decode cX7_reads 277 = .ok (.aload_n 0, 1) := by decide +kernel
theorem dX7_reads_278 : decode cX7_reads 278 = .ok (.dup, 1) := by decide +kernel
theorem dX7_reads_279 : decode cX7_reads 279 = .ok (.getfield 90, 3) := by decide +kernel
theorem dX7_reads_282 : decode cX7_reads 282 = .ok (.iconst 1, 1) := by decide +kernel
theorem dX7_reads_283 : decode cX7_reads 283 = .ok (.iadd, 1) := by decide +kernel
theorem dX7_reads_284 : decode cX7_reads 284 = .ok (.putfield 90, 3) := by decide +kernel
theorem dX7_reads_287 : decode cX7_reads 287 = .ok (.return_, 1) := by decide +kernel
theorem dX7_isSign_0 : decode cX7_isSign 0 = .ok (.aload_n 0, 1) := by decide +kernel
theorem dX7_isSign_1 : decode cX7_isSign 1 = .ok (.getfield 100, 3) := by decide +kernel
theorem dX7_isSign_4 : decode cX7_isSign 4 = .ok (.iconst 3, 1) := by decide +kernel
theorem dX7_isSign_5 : decode cX7_isSign 5 = .ok (.if_icmp .ne 15, 3) := by decide +kernel
theorem dX7_isSign_8 : decode cX7_isSign 8 = .ok (.aload_n 0, 1) := by decide +kernel
theorem dX7_isSign_9 : decode cX7_isSign 9 = .ok (.getfield 97, 3) := by decide +kernel
theorem dX7_isSign_12 : decode cX7_isSign 12 = .ok (.iload_n 1, 1) := by decide +kernel
theorem dX7_isSign_13 : decode cX7_isSign 13 = .ok (.if_icmp .ne 7, 3) := by decide +kernel
theorem dX7_isSign_16 : decode cX7_isSign 16 = .ok (.iconst 1, 1) := by decide +kernel
theorem dX7_isSign_17 : decode cX7_isSign 17 = .ok (.goto 4, 3) := by decide +kernel
theorem dX7_isSign_20 : decode cX7_isSign 20 = .ok (.iconst 0, 1) := by decide +kernel
theorem dX7_isSign_21 : decode cX7_isSign 21 = .ok (.ireturn, 1) := by decide +kernel
theorem dX7_nameNow_0 : decode cX7_nameNow 0 = .ok (.iload_n 1, 1) := by decide +kernel
theorem dX7_nameNow_1 : decode cX7_nameNow 1 = .ok (.istore_n 3, 1) := by decide +kernel
theorem dX7_nameNow_2 : decode cX7_nameNow 2 = .ok (.iload_n 3, 1) := by decide +kernel
theorem dX7_nameNow_3 : decode cX7_nameNow 3 = .ok (.iload_n 2, 1) := by decide +kernel
theorem dX7_nameNow_4 : decode cX7_nameNow 4 = .ok (.if_icmp .ge 125, 3) := by decide +kernel
theorem dX7_nameNow_7 : decode cX7_nameNow 7 = .ok (.aload_n 0, 1) := by decide +kernel
theorem dX7_nameNow_8 : decode cX7_nameNow 8 = .ok (.getfield 100, 3) := by decide +kernel
theorem dX7_nameNow_11 : decode cX7_nameNow 11 = .ok (.iconst 1, 1) := by decide +kernel
theorem dX7_nameNow_12 : decode cX7_nameNow 12 = .ok (.if_icmp .ne 34, 3) := by decide +kernel
theorem dX7_nameNow_15 : decode cX7_nameNow 15 = .ok (.aload_n 0, 1) := by decide +kernel
theorem dX7_nameNow_16 : decode cX7_nameNow 16 = .ok (.getfield 90, 3) := by decide +kernel
theorem dX7_nameNow_19 : decode cX7_nameNow 19 = .ok (.aload_n 0, 1) := by decide +kernel
theorem dX7_nameNow_20 : decode cX7_nameNow 20 = .ok (.getfield 84, 3) := by decide +kernel
theorem dX7_nameNow_23 : decode cX7_nameNow 23 = .ok (.isub, 1) := by decide +kernel
theorem dX7_nameNow_24 : decode cX7_nameNow 24 = .ok (.aload_n 0, 1) := by decide +kernel
theorem dX7_nameNow_25 : decode cX7_nameNow 25 = .ok (.getfield 32, 3) := by decide +kernel
theorem dX7_nameNow_28 : decode cX7_nameNow 28 = .ok (.iload_n 3, 1) := by decide +kernel
theorem dX7_nameNow_29 : decode cX7_nameNow 29 = .ok (.iconst 1, 1) := by decide +kernel
theorem dX7_nameNow_30 : decode cX7_nameNow 30 = .ok (.iadd, 1) := by decide +kernel
theorem dX7_nameNow_31 : decode cX7_nameNow 31 = .ok (.iaload, 1) := by decide +kernel
theorem dX7_nameNow_32 : decode cX7_nameNow 32 = .ok (.aload_n 0, 1) := by decide +kernel
theorem dX7_nameNow_33 : decode cX7_nameNow 33 = .ok (.getfield 32, 3) := by decide +kernel
theorem dX7_nameNow_36 : decode cX7_nameNow 36 = .ok (.iload_n 3, 1) := by decide +kernel
theorem dX7_nameNow_37 : decode cX7_nameNow 37 = .ok (.iaload, 1) := by decide +kernel
theorem dX7_nameNow_38 : decode cX7_nameNow 38 = .ok (.isub, 1) := by decide +kernel
theorem dX7_nameNow_39 : decode cX7_nameNow 39 = .ok (.if_icmp .ne 7, 3) := by decide +kernel
theorem dX7_nameNow_42 : decode cX7_nameNow 42 = .ok (.iconst 1, 1) := by decide +kernel
theorem dX7_nameNow_43 : decode cX7_nameNow 43 = .ok (.goto 4, 3) := by decide +kernel
theorem dX7_nameNow_46 : decode cX7_nameNow 46 = .ok (.iconst 0, 1) := by decide +kernel
theorem dX7_nameNow_47 : decode cX7_nameNow 47 = .ok (.istore 4, 2) := by decide +kernel
theorem dX7_nameNow_49 : decode cX7_nameNow 49 = .ok (.aload_n 0, 1) := by decide +kernel
theorem dX7_nameNow_50 : decode cX7_nameNow 50 = .ok (.getfield 32, 3) := by decide +kernel
theorem dX7_nameNow_53 : decode cX7_nameNow 53 = .ok (.iload_n 3, 1) := by decide +kernel
theorem dX7_nameNow_54 : decode cX7_nameNow 54 = .ok (.iaload, 1) := by decide +kernel
theorem dX7_nameNow_55 : decode cX7_nameNow 55 = .ok (.istore 5, 2) := by decide +kernel
theorem dX7_nameNow_57 : decode cX7_nameNow 57 = .ok (.iload 5, 2) := by decide +kernel
theorem dX7_nameNow_59 : decode cX7_nameNow 59 = .ok (.aload_n 0, 1) := by decide +kernel
theorem dX7_nameNow_60 : decode cX7_nameNow 60 = .ok (.getfield 32, 3) := by decide +kernel
theorem dX7_nameNow_63 : decode cX7_nameNow 63 = .ok (.iload_n 3, 1) := by decide +kernel
theorem dX7_nameNow_64 : decode cX7_nameNow 64 = .ok (.iconst 1, 1) := by decide +kernel
theorem dX7_nameNow_65 : decode cX7_nameNow 65 = .ok (.iadd, 1) := by decide +kernel
theorem dX7_nameNow_66 : decode cX7_nameNow 66 = .ok (.iaload, 1) := by decide +kernel
theorem dX7_nameNow_67 : decode cX7_nameNow 67 = .ok (.if_icmp .ge 49, 3) := by decide +kernel
theorem dX7_nameNow_70 : decode cX7_nameNow 70 = .ok (.iload 4, 2) := by decide +kernel
theorem dX7_nameNow_72 : decode cX7_nameNow 72 = .ok (.ifCond .eq 44, 3) := by decide +kernel
theorem dX7_nameNow_75 : decode cX7_nameNow 75 = .ok (.aload_n 0, 1) := by decide +kernel
theorem dX7_nameNow_76 : decode cX7_nameNow 76 = .ok (.aload_n 0, 1) := by decide +kernel
theorem dX7_nameNow_77 : decode cX7_nameNow 77 = .ok (.getfield 84, 3) := by decide +kernel
theorem dX7_nameNow_80 : decode cX7_nameNow 80 = .ok (.iload 5, 2) := by decide +kernel
theorem dX7_nameNow_82 : decode cX7_nameNow 82 = .ok (.iadd, 1) := by decide +kernel
theorem dX7_nameNow_83 : decode cX7_nameNow 83 = .ok (.aload_n 0, 1) := by decide +kernel
theorem dX7_nameNow_84 : decode cX7_nameNow 84 = .ok (.getfield 32, 3) := by decide +kernel
theorem dX7_nameNow_87 : decode cX7_nameNow 87 = .ok (.iload_n 3, 1) := by decide +kernel
theorem dX7_nameNow_88 : decode cX7_nameNow 88 = .ok (.iaload, 1) := by decide +kernel
theorem dX7_nameNow_89 : decode cX7_nameNow 89 = .ok (.isub, 1) := by decide +kernel
theorem dX7_nameNow_90 : decode cX7_nameNow 90 = .ok (.invokevirtual 93, 3) := by decide +kernel
theorem dX7_nameNow_93 : decode cX7_nameNow 93 = .ok (.aload_n 0, 1) := by decide +kernel
theorem dX7_nameNow_94 : decode cX7_nameNow 94 = .ok (.getfield 35, 3) := by decide +kernel
theorem dX7_nameNow_97 : decode cX7_nameNow 97 = .ok (.iload 5, 2) := by decide +kernel
theorem dX7_nameNow_99 : decode cX7_nameNow 99 = .ok (.iaload, 1) := by decide +kernel
theorem dX7_nameNow_100 : decode cX7_nameNow 100 = .ok (.if_icmp .ne 7, 3) := by decide +kernel
theorem dX7_nameNow_103 : decode cX7_nameNow 103 = .ok (.iconst 1, 1) := by decide +kernel
theorem dX7_nameNow_104 : decode cX7_nameNow 104 = .ok (.goto 4, 3) := by decide +kernel
theorem dX7_nameNow_107 : decode cX7_nameNow 107 = .ok (.iconst 0, 1) := by decide +kernel
theorem dX7_nameNow_108 : decode cX7_nameNow 108 = .ok (.istore 4, 2) := by decide +kernel
theorem dX7_nameNow_110 : decode cX7_nameNow 110 = .ok (.iinc 5 1, 3) := by decide +kernel
theorem dX7_nameNow_113 : decode cX7_nameNow 113 = .ok (.goto (-56), 3) := by decide +kernel
theorem dX7_nameNow_116 : decode cX7_nameNow 116 = .ok (.iload 4, 2) := by decide +kernel
theorem dX7_nameNow_118 : decode cX7_nameNow 118 = .ok (.ifCond .eq 5, 3) := by decide +kernel
theorem dX7_nameNow_121 : decode cX7_nameNow 121 = .ok (.iload_n 3, 1) := by decide +kernel
theorem dX7_nameNow_122 : decode cX7_nameNow 122 = .ok (.ireturn, 1) := by decide +kernel
theorem dX7_nameNow_123 : decode cX7_nameNow 123 = .ok (.iinc 3 1, 3) := by decide +kernel
theorem dX7_nameNow_126 : decode cX7_nameNow 126 = .ok (.goto (-124), 3) := by decide +kernel
theorem dX7_nameNow_129 : decode cX7_nameNow 129 = .ok (.bipush (-4), 2) := by decide +kernel
theorem dX7_nameNow_131 : decode cX7_nameNow 131 = .ok (.ireturn, 1) := by decide +kernel
theorem dX7_number_0 : decode cX7_number 0 = .ok (.aload_n 0, 1) := by decide +kernel
theorem dX7_number_1 : decode cX7_number 1 = .ok (.aload_n 0, 1) := by decide +kernel
theorem dX7_number_2 : decode cX7_number 2 = .ok (.getfield 100, 3) := by decide +kernel
theorem dX7_number_5 : decode cX7_number 5 = .ok (.iconst 2, 1) := by decide +kernel
theorem dX7_number_6 : decode cX7_number 6 = .ok (.if_icmp .ne 7, 3) := by decide +kernel
theorem dX7_number_9 : decode cX7_number 9 = .ok (.iconst 1, 1) := by decide +kernel
theorem dX7_number_10 : decode cX7_number 10 = .ok (.goto 4, 3) := by decide +kernel
theorem dX7_number_13 : decode cX7_number 13 = .ok (.iconst 0, 1) := by decide +kernel
theorem dX7_number_14 : decode cX7_number 14 = .ok (.iconst 2, 1) := by decide +kernel
theorem dX7_number_15 : decode cX7_number 15 = .ok (.invokevirtual 111, 3) := by decide +kernel
theorem dX7_number_18 : decode cX7_number 18 = .ok (.aload_n 0, 1) := by decide +kernel
theorem dX7_number_19 : decode cX7_number 19 = .ok (.aload_n 0, 1) := by decide +kernel
theorem dX7_number_20 : decode cX7_number 20 = .ok (.getfield 81, 3) := by decide +kernel
theorem dX7_number_23 : decode cX7_number 23 = .ok (.ifCond .gt 18, 3) := by decide +kernel
theorem dX7_number_26 : decode cX7_number 26 = .ok (.aload_n 0, 1) := by decide +kernel
theorem dX7_number_27 : decode cX7_number 27 = .ok (.getfield 97, 3) := by decide +kernel
theorem dX7_number_30 : decode cX7_number 30 = .ok (.i2l, 1) := by decide +kernel
theorem dX7_number_31 : decode cX7_number 31 = .ok (.iload_n 1, 1) := by decide +kernel
theorem dX7_number_32 : decode cX7_number 32 = .ok (.i2l, 1) := by decide +kernel
theorem dX7_number_33 : decode cX7_number 33 = .ok (.iload_n 2, 1) := by decide +kernel
theorem dX7_number_34 : decode cX7_number 34 = .ok (.i2l, 1) := by decide +kernel
theorem dX7_number_35 : decode cX7_number 35 = .ok (.invokestatic 73, 3) := by decide +kernel
theorem dX7_number_38 : decode cX7_number 38 = .ok (.ifCond .eq 7, 3) := by decide +kernel
theorem dX7_number_41 : decode cX7_number 41 = .ok (.iconst 1, 1) := by decide +kernel
theorem dX7_number_42 : decode cX7_number 42 = .ok (.goto 4, 3) := by decide +kernel
theorem dX7_number_45 : decode cX7_number 45 = .ok (.iconst 0, 1) := by decide +kernel
theorem dX7_number_46 : decode cX7_number 46 = .ok (.iconst 3, 1) := by decide +kernel
theorem dX7_number_47 : decode cX7_number 47 = .ok (.invokevirtual 111, 3) := by decide +kernel
theorem dX7_number_50 : decode cX7_number 50 = .ok (.aload_n 0, 1) := by decide +kernel
theorem dX7_number_51 : decode cX7_number 51 = .ok (.getfield 81, 3) := by decide +kernel
theorem dX7_number_54 : decode cX7_number 54 = .ok (.ifCond .le 7, 3) := by decide +kernel
theorem dX7_number_57 : decode cX7_number 57 = .ok (.iconst 0, 1) := by decide +kernel
theorem dX7_number_58 : decode cX7_number 58 = .ok (.goto 7, 3) := by decide +kernel
theorem dX7_number_61 : decode cX7_number 61 = .ok (.aload_n 0, 1) := by decide +kernel
theorem dX7_number_62 : decode cX7_number 62 = .ok (.getfield 97, 3) := by decide +kernel
theorem dX7_number_65 : decode cX7_number 65 = .ok (.istore_n 3, 1) := by decide +kernel
theorem dX7_number_66 : decode cX7_number 66 = .ok (.aload_n 0, 1) := by decide +kernel
theorem dX7_number_67 : decode cX7_number 67 = .ok (.invokevirtual 115, 3) := by decide +kernel
theorem dX7_number_70 : decode cX7_number 70 = .ok (.iload_n 3, 1) := by decide +kernel
theorem dX7_number_71 : decode cX7_number 71 = .ok (.ireturn, 1) := by decide +kernel
theorem dX7_readsSetting_0 : decode cX7_readsSetting 0 = .ok (.aload_n 0, 1) := by decide +kernel
theorem dX7_readsSetting_1 : decode cX7_readsSetting 1 = .ok (.iconst 3, 1) := by decide +kernel
theorem dX7_readsSetting_2 : decode cX7_readsSetting 2 = .ok (.bipush 9, 2) := by decide +kernel
theorem dX7_readsSetting_4 : decode cX7_readsSetting 4 = .ok (.invokevirtual 118, 3) := by decide +kernel
theorem dX7_readsSetting_7 : decode cX7_readsSetting 7 = .ok (.istore_n 1, 1) := by decide +kernel
theorem dX7_readsSetting_8 : decode cX7_readsSetting 8 = .ok (.aload_n 0, 1) := by decide +kernel
theorem dX7_readsSetting_9 : decode cX7_readsSetting 9 = .ok (.iload_n 1, 1) := by decide +kernel
theorem dX7_readsSetting_10 : decode cX7_readsSetting 10 = .ok (.bipush (-4), 2) := by decide +kernel
theorem dX7_readsSetting_12 : decode cX7_readsSetting 12 = .ok (.if_icmp .eq 7, 3) := by decide +kernel
theorem dX7_readsSetting_15 : decode cX7_readsSetting 15 = .ok (.iconst 1, 1) := by decide +kernel
theorem dX7_readsSetting_16 : decode cX7_readsSetting 16 = .ok (.goto 4, 3) := by decide +kernel
theorem dX7_readsSetting_19 : decode cX7_readsSetting 19 = .ok (.iconst 0, 1) := by decide +kernel
theorem dX7_readsSetting_20 : decode cX7_readsSetting 20 = .ok (.iconst 2, 1) := by decide +kernel
theorem dX7_readsSetting_21 : decode cX7_readsSetting 21 = .ok (.invokevirtual 111, 3) := by decide +kernel
theorem dX7_readsSetting_24 : decode cX7_readsSetting 24 = .ok (.aload_n 0, 1) := by decide +kernel
theorem dX7_readsSetting_25 : decode cX7_readsSetting 25 = .ok (.aload_n 0, 1) := by decide +kernel
theorem dX7_readsSetting_26 : decode cX7_readsSetting 26 = .ok (.getfield 81, 3) := by decide +kernel
theorem dX7_readsSetting_29 : decode cX7_readsSetting 29 = .ok (.ifCond .gt 14, 3) := by decide +kernel
theorem dX7_readsSetting_32 : decode cX7_readsSetting 32 = .ok (.aload_n 0, 1) := by decide +kernel
theorem dX7_readsSetting_33 : decode cX7_readsSetting 33 = .ok (.getfield 38, 3) := by decide +kernel
theorem dX7_readsSetting_36 : decode cX7_readsSetting 36 = .ok (.iload_n 1, 1) := by decide +kernel
theorem dX7_readsSetting_37 : decode cX7_readsSetting 37 = .ok (.iconst 3, 1) := by decide +kernel
theorem dX7_readsSetting_38 : decode cX7_readsSetting 38 = .ok (.isub, 1) := by decide +kernel
theorem dX7_readsSetting_39 : decode cX7_readsSetting 39 = .ok (.baload, 1) := by decide +kernel
theorem dX7_readsSetting_40 : decode cX7_readsSetting 40 = .ok (.ifCond .ne 7, 3) := by decide +kernel
theorem dX7_readsSetting_43 : decode cX7_readsSetting 43 = .ok (.iconst 1, 1) := by decide +kernel
theorem dX7_readsSetting_44 : decode cX7_readsSetting 44 = .ok (.goto 4, 3) := by decide +kernel
theorem dX7_readsSetting_47 : decode cX7_readsSetting 47 = .ok (.iconst 0, 1) := by decide +kernel
theorem dX7_readsSetting_48 : decode cX7_readsSetting 48 = .ok (.iconst 4, 1) := by decide +kernel
theorem dX7_readsSetting_49 : decode cX7_readsSetting 49 = .ok (.invokevirtual 111, 3) := by decide +kernel
theorem dX7_readsSetting_52 : decode cX7_readsSetting 52 = .ok (.aload_n 0, 1) := by decide +kernel
theorem dX7_readsSetting_53 : decode cX7_readsSetting 53 = .ok (.invokevirtual 115, 3) := by decide +kernel
theorem dX7_readsSetting_56 : decode cX7_readsSetting 56 = .ok (.aload_n 0, 1) := by decide +kernel
theorem dX7_readsSetting_57 : decode cX7_readsSetting 57 = .ok (.getfield 81, 3) := by decide +kernel
theorem dX7_readsSetting_60 : decode cX7_readsSetting 60 = .ok (.ifCond .ne 36, 3) := by decide +kernel
theorem dX7_readsSetting_63 : decode cX7_readsSetting 63 = .ok (.iload_n 1, 1) := by decide +kernel
theorem dX7_readsSetting_64 : decode cX7_readsSetting 64 = .ok (.iconst 3, 1) := by decide +kernel
theorem dX7_readsSetting_65 : decode cX7_readsSetting 65 = .ok (.isub, 1) := by decide +kernel
theorem dX7_readsSetting_66 : decode cX7_readsSetting 66 = .ok (.istore_n 2, 1) := by decide +kernel
theorem dX7_readsSetting_67 : decode cX7_readsSetting 67 = .ok (.aload_n 0, 1) := by decide +kernel
theorem dX7_readsSetting_68 : decode cX7_readsSetting 68 = .ok (.getfield 38, 3) := by decide +kernel
theorem dX7_readsSetting_71 : decode cX7_readsSetting 71 = .ok (.iload_n 2, 1) := by decide +kernel
theorem dX7_readsSetting_72 : decode cX7_readsSetting 72 = .ok (.iconst 1, 1) := by decide +kernel
theorem dX7_readsSetting_73 : decode cX7_readsSetting 73 = .ok (.bastore, 1) := by decide +kernel
theorem dX7_readsSetting_74 : decode cX7_readsSetting 74 = .ok (.aload_n 0, 1) := by decide +kernel
theorem dX7_readsSetting_75 : decode cX7_readsSetting 75 = .ok (.getfield 13, 3) := by decide +kernel
theorem dX7_readsSetting_78 : decode cX7_readsSetting 78 = .ok (.sipush 585, 3) := by decide +kernel
theorem dX7_readsSetting_81 : decode cX7_readsSetting 81 = .ok (.iload_n 2, 1) := by decide +kernel
theorem dX7_readsSetting_82 : decode cX7_readsSetting 82 = .ok (.iadd, 1) := by decide +kernel
theorem dX7_readsSetting_83 : decode cX7_readsSetting 83 = .ok (.aload_n 0, 1) := by decide +kernel
theorem dX7_readsSetting_84 : decode cX7_readsSetting 84 = .ok (.iload_n 2, 1) := by decide +kernel
theorem dX7_readsSetting_85 : decode cX7_readsSetting 85 = .ok (.invokestatic 122, 3) := by decide +kernel
theorem dX7_readsSetting_88 : decode cX7_readsSetting 88 = .ok (.iload_n 2, 1) := by decide +kernel
theorem dX7_readsSetting_89 : decode cX7_readsSetting 89 = .ok (.invokestatic 125, 3) := by decide +kernel
theorem dX7_readsSetting_92 : decode cX7_readsSetting 92 = .ok (.invokevirtual 128, 3) := by decide +kernel
theorem dX7_readsSetting_95 : decode cX7_readsSetting 95 = .ok (.iastore, 1) := by decide +kernel
theorem dX7_readsSetting_96 : decode cX7_readsSetting 96 = .ok (.return_, 1) := by decide +kernel
theorem dX7_shapeOf_0 : decode cX7_shapeOf 0 = .ok (.iconst 0, 1) := by decide +kernel
theorem dX7_shapeOf_1 : decode cX7_shapeOf 1 = .ok (.istore_n 2, 1) := by decide +kernel
theorem dX7_shapeOf_2 : decode cX7_shapeOf 2 = .ok (.iload_n 2, 1) := by decide +kernel
theorem dX7_shapeOf_3 : decode cX7_shapeOf 3 = .ok (.aload_n 0, 1) := by decide +kernel
theorem dX7_shapeOf_4 : decode cX7_shapeOf 4 = .ok (.getfield 131, 3) := by decide +kernel
theorem dX7_shapeOf_7 : decode cX7_shapeOf 7 = .ok (.if_icmp .ge 26, 3) := by decide +kernel
theorem dX7_shapeOf_10 : decode cX7_shapeOf 10 = .ok (.aload_n 0, 1) := by decide +kernel
theorem dX7_shapeOf_11 : decode cX7_shapeOf 11 = .ok (.getfield 19, 3) := by decide +kernel
theorem dX7_shapeOf_14 : decode cX7_shapeOf 14 = .ok (.bipush 19, 2) := by decide +kernel
theorem dX7_shapeOf_16 : decode cX7_shapeOf 16 = .ok (.iload_n 2, 1) := by decide +kernel
theorem dX7_shapeOf_17 : decode cX7_shapeOf 17 = .ok (.imul, 1) := by decide +kernel
theorem dX7_shapeOf_18 : decode cX7_shapeOf 18 = .ok (.iconst 0, 1) := by decide +kernel
theorem dX7_shapeOf_19 : decode cX7_shapeOf 19 = .ok (.iadd, 1) := by decide +kernel
theorem dX7_shapeOf_20 : decode cX7_shapeOf 20 = .ok (.iaload, 1) := by decide +kernel
theorem dX7_shapeOf_21 : decode cX7_shapeOf 21 = .ok (.iload_n 1, 1) := by decide +kernel
theorem dX7_shapeOf_22 : decode cX7_shapeOf 22 = .ok (.if_icmp .ne 5, 3) := by decide +kernel
theorem dX7_shapeOf_25 : decode cX7_shapeOf 25 = .ok (.iload_n 2, 1) := by decide +kernel
theorem dX7_shapeOf_26 : decode cX7_shapeOf 26 = .ok (.ireturn, 1) := by decide +kernel
theorem dX7_shapeOf_27 : decode cX7_shapeOf 27 = .ok (.iinc 2 1, 3) := by decide +kernel
theorem dX7_shapeOf_30 : decode cX7_shapeOf 30 = .ok (.goto (-28), 3) := by decide +kernel
theorem dX7_shapeOf_33 : decode cX7_shapeOf 33 = .ok (.bipush (-4), 2) := by decide +kernel
theorem dX7_shapeOf_35 : decode cX7_shapeOf 35 = .ok (.ireturn, 1) := by decide +kernel
theorem dX7_isLetterNow_0 : decode cX7_isLetterNow 0 = .ok (.aload_n 0, 1) := by decide +kernel
theorem dX7_isLetterNow_1 : decode cX7_isLetterNow 1 = .ok (.getfield 100, 3) := by decide +kernel
theorem dX7_isLetterNow_4 : decode cX7_isLetterNow 4 = .ok (.iconst 1, 1) := by decide +kernel
theorem dX7_isLetterNow_5 : decode cX7_isLetterNow 5 = .ok (.if_icmp .ne 20, 3) := by decide +kernel
theorem dX7_isLetterNow_8 : decode cX7_isLetterNow 8 = .ok (.aload_n 0, 1) := by decide +kernel
theorem dX7_isLetterNow_9 : decode cX7_isLetterNow 9 = .ok (.getfield 90, 3) := by decide +kernel
theorem dX7_isLetterNow_12 : decode cX7_isLetterNow 12 = .ok (.aload_n 0, 1) := by decide +kernel
theorem dX7_isLetterNow_13 : decode cX7_isLetterNow 13 = .ok (.getfield 84, 3) := by decide +kernel
theorem dX7_isLetterNow_16 : decode cX7_isLetterNow 16 = .ok (.isub, 1) := by decide +kernel
theorem dX7_isLetterNow_17 : decode cX7_isLetterNow 17 = .ok (.iconst 1, 1) := by decide +kernel
theorem dX7_isLetterNow_18 : decode cX7_isLetterNow 18 = .ok (.if_icmp .ne 7, 3) := by decide +kernel
theorem dX7_isLetterNow_21 : decode cX7_isLetterNow 21 = .ok (.iconst 1, 1) := by decide +kernel
theorem dX7_isLetterNow_22 : decode cX7_isLetterNow 22 = .ok (.goto 4, 3) := by decide +kernel
theorem dX7_isLetterNow_25 : decode cX7_isLetterNow 25 = .ok (.iconst 0, 1) := by decide +kernel
theorem dX7_isLetterNow_26 : decode cX7_isLetterNow 26 = .ok (.ireturn, 1) := by decide +kernel
theorem dX7_readsStep_0 : decode cX7_readsStep 0 = .ok (.aload_n 0, 1) := by decide +kernel
theorem dX7_readsStep_1 : decode cX7_readsStep 1 = .ok (.getfield 19, 3) := by decide +kernel
theorem dX7_readsStep_4 : decode cX7_readsStep 4 = .ok (.iload_n 1, 1) := by decide +kernel
theorem dX7_readsStep_5 : decode cX7_readsStep 5 = .ok (.iconst 2, 1) := by decide +kernel
theorem dX7_readsStep_6 : decode cX7_readsStep 6 = .ok (.iadd, 1) := by decide +kernel
theorem dX7_readsStep_7 : decode cX7_readsStep 7 = .ok (.iaload, 1) := by decide +kernel
theorem dX7_readsStep_8 : decode cX7_readsStep 8 = .ok (.istore_n 2, 1) := by decide +kernel
theorem dX7_readsStep_9 : decode cX7_readsStep 9 = .ok (.aload_n 0, 1) := by decide +kernel
theorem dX7_readsStep_10 : decode cX7_readsStep 10 = .ok (.aload_n 0, 1) := by decide +kernel
theorem dX7_readsStep_11 : decode cX7_readsStep 11 = .ok (.getfield 100, 3) := by decide +kernel
theorem dX7_readsStep_14 : decode cX7_readsStep 14 = .ok (.iconst 2, 1) := by decide +kernel
theorem dX7_readsStep_15 : decode cX7_readsStep 15 = .ok (.if_icmp .ne 13, 3) := by decide +kernel
theorem dX7_readsStep_18 : decode cX7_readsStep 18 = .ok (.iload_n 2, 1) := by decide +kernel
theorem dX7_readsStep_19 : decode cX7_readsStep 19 = .ok (.bipush 8, 2) := by decide +kernel
theorem dX7_readsStep_21 : decode cX7_readsStep 21 = .ok (.if_icmp .ge 7, 3) := by decide +kernel
theorem dX7_readsStep_24 : decode cX7_readsStep 24 = .ok (.iconst 1, 1) := by decide +kernel
theorem dX7_readsStep_25 : decode cX7_readsStep 25 = .ok (.goto 4, 3) := by decide +kernel
theorem dX7_readsStep_28 : decode cX7_readsStep 28 = .ok (.iconst 0, 1) := by decide +kernel
theorem dX7_readsStep_29 : decode cX7_readsStep 29 = .ok (.iconst 2, 1) := by decide +kernel
theorem dX7_readsStep_30 : decode cX7_readsStep 30 = .ok (.invokevirtual 111, 3) := by decide +kernel
theorem dX7_readsStep_33 : decode cX7_readsStep 33 = .ok (.aload_n 0, 1) := by decide +kernel
theorem dX7_readsStep_34 : decode cX7_readsStep 34 = .ok (.getfield 19, 3) := by decide +kernel
theorem dX7_readsStep_37 : decode cX7_readsStep 37 = .ok (.iload_n 1, 1) := by decide +kernel
theorem dX7_readsStep_38 : decode cX7_readsStep 38 = .ok (.iconst 1, 1) := by decide +kernel
theorem dX7_readsStep_39 : decode cX7_readsStep 39 = .ok (.iadd, 1) := by decide +kernel
theorem dX7_readsStep_40 : decode cX7_readsStep 40 = .ok (.iaload, 1) := by decide +kernel
theorem dX7_readsStep_41 : decode cX7_readsStep 41 = .ok (.istore_n 3, 1) := by decide +kernel
theorem dX7_readsStep_42 : decode cX7_readsStep 42 = .ok (.iload_n 2, 1) := by decide +kernel
theorem dX7_readsStep_43 : decode cX7_readsStep 43 = .ok (.ifCond .ne 7, 3) := by decide +kernel
theorem dX7_readsStep_46 : decode cX7_readsStep 46 = .ok (.iconst 0, 1) := by decide +kernel
theorem dX7_readsStep_47 : decode cX7_readsStep 47 = .ok (.goto 27, 3) := by decide +kernel
theorem dX7_readsStep_50 : decode cX7_readsStep 50 = .ok (.aload_n 0, 1) := by decide +kernel
theorem dX7_readsStep_51 : decode cX7_readsStep 51 = .ok (.getfield 19, 3) := by decide +kernel
theorem dX7_readsStep_54 : decode cX7_readsStep 54 = .ok (.iload_n 1, 1) := by decide +kernel
theorem dX7_readsStep_55 : decode cX7_readsStep 55 = .ok (.iconst 3, 1) := by decide +kernel
theorem dX7_readsStep_56 : decode cX7_readsStep 56 = .ok (.iadd, 1) := by decide +kernel
theorem dX7_readsStep_57 : decode cX7_readsStep 57 = .ok (.iload_n 2, 1) := by decide +kernel
theorem dX7_readsStep_58 : decode cX7_readsStep 58 = .ok (.bipush 8, 2) := by decide +kernel
theorem dX7_readsStep_60 : decode cX7_readsStep 60 = .ok (.if_icmp .gt 9, 3) := by decide +kernel
theorem dX7_readsStep_63 : decode cX7_readsStep 63 = .ok (.iload_n 2, 1) := by decide +kernel
theorem dX7_readsStep_64 : decode cX7_readsStep 64 = .ok (.iconst 1, 1) := by decide +kernel
theorem dX7_readsStep_65 : decode cX7_readsStep 65 = .ok (.isub, 1) := by decide +kernel
theorem dX7_readsStep_66 : decode cX7_readsStep 66 = .ok (.goto 4, 3) := by decide +kernel
theorem dX7_readsStep_69 : decode cX7_readsStep 69 = .ok (.iconst 0, 1) := by decide +kernel
theorem dX7_readsStep_70 : decode cX7_readsStep 70 = .ok (.iadd, 1) := by decide +kernel
theorem dX7_readsStep_71 : decode cX7_readsStep 71 = .ok (.iaload, 1) := by decide +kernel
theorem dX7_readsStep_72 : decode cX7_readsStep 72 = .ok (.iconst 1, 1) := by decide +kernel
theorem dX7_readsStep_73 : decode cX7_readsStep 73 = .ok (.iadd, 1) := by decide +kernel
theorem dX7_readsStep_74 : decode cX7_readsStep 74 = .ok (.istore 4, 2) := by decide +kernel
theorem dX7_readsStep_76 : decode cX7_readsStep 76 = .ok (.aload_n 0, 1) := by decide +kernel
theorem dX7_readsStep_77 : decode cX7_readsStep 77 = .ok (.iload 4, 2) := by decide +kernel
theorem dX7_readsStep_79 : decode cX7_readsStep 79 = .ok (.iload_n 2, 1) := by decide +kernel
theorem dX7_readsStep_80 : decode cX7_readsStep 80 = .ok (.ifCond .ne 7, 3) := by decide +kernel
theorem dX7_readsStep_83 : decode cX7_readsStep 83 = .ok (.iconst 0, 1) := by decide +kernel
theorem dX7_readsStep_84 : decode cX7_readsStep 84 = .ok (.goto 6, 3) := by decide +kernel
theorem dX7_readsStep_87 : decode cX7_readsStep 87 = .ok (.iload_n 3, 1) := by decide +kernel
theorem dX7_readsStep_88 : decode cX7_readsStep 88 = .ok (.iconst 1, 1) := by decide +kernel
theorem dX7_readsStep_89 : decode cX7_readsStep 89 = .ok (.isub, 1) := by decide +kernel
theorem dX7_readsStep_90 : decode cX7_readsStep 90 = .ok (.invokevirtual 128, 3) := by decide +kernel
theorem dX7_readsStep_93 : decode cX7_readsStep 93 = .ok (.istore 5, 2) := by decide +kernel
theorem dX7_readsStep_95 : decode cX7_readsStep 95 = .ok (.aload_n 0, 1) := by decide +kernel
theorem dX7_readsStep_96 : decode cX7_readsStep 96 = .ok (.getfield 81, 3) := by decide +kernel
theorem dX7_readsStep_99 : decode cX7_readsStep 99 = .ok (.ifCond .le 7, 3) := by decide +kernel
theorem dX7_readsStep_102 : decode cX7_readsStep 102 = .ok (.iconst 0, 1) := by decide +kernel
theorem dX7_readsStep_103 : decode cX7_readsStep 103 = .ok (.goto 10, 3) := by decide +kernel
theorem dX7_readsStep_106 : decode cX7_readsStep 106 = .ok (.aload_n 0, 1) := by decide +kernel
theorem dX7_readsStep_107 : decode cX7_readsStep 107 = .ok (.iconst 0, 1) := by decide +kernel
theorem dX7_readsStep_108 : decode cX7_readsStep 108 = .ok (.bipush 60, 2) := by decide +kernel
theorem dX7_readsStep_110 : decode cX7_readsStep 110 = .ok (.invokevirtual 128, 3) := by decide +kernel
theorem dX7_readsStep_113 : decode cX7_readsStep 113 = .ok (.istore 6, 2) := by decide +kernel
theorem dX7_readsStep_115 : decode cX7_readsStep 115 = .ok (.aload_n 0, 1) := by decide +kernel
theorem dX7_readsStep_116 : decode cX7_readsStep 116 = .ok (.getfield 81, 3) := by decide +kernel
theorem dX7_readsStep_119 : decode cX7_readsStep 119 = .ok (.ifCond .ne 40, 3) := by decide +kernel
theorem dX7_readsStep_122 : decode cX7_readsStep 122 = .ok (.aload_n 0, 1) := by decide +kernel
theorem dX7_readsStep_123 : decode cX7_readsStep 123 = .ok (.getfield 19, 3) := by decide +kernel
theorem dX7_readsStep_126 : decode cX7_readsStep 126 = .ok (.iload_n 1, 1) := by decide +kernel
theorem dX7_readsStep_127 : decode cX7_readsStep 127 = .ok (.iconst 3, 1) := by decide +kernel
theorem dX7_readsStep_128 : decode cX7_readsStep 128 = .ok (.iadd, 1) := by decide +kernel
theorem dX7_readsStep_129 : decode cX7_readsStep 129 = .ok (.iload_n 2, 1) := by decide +kernel
theorem dX7_readsStep_130 : decode cX7_readsStep 130 = .ok (.iadd, 1) := by decide +kernel
theorem dX7_readsStep_131 : decode cX7_readsStep 131 = .ok (.iload 5, 2) := by decide +kernel
theorem dX7_readsStep_133 : decode cX7_readsStep 133 = .ok (.iastore, 1) := by decide +kernel
theorem dX7_readsStep_134 : decode cX7_readsStep 134 = .ok (.aload_n 0, 1) := by decide +kernel
theorem dX7_readsStep_135 : decode cX7_readsStep 135 = .ok (.getfield 19, 3) := by decide +kernel
theorem dX7_readsStep_138 : decode cX7_readsStep 138 = .ok (.iload_n 1, 1) := by decide +kernel
theorem dX7_readsStep_139 : decode cX7_readsStep 139 = .ok (.bipush 11, 2) := by decide +kernel
theorem dX7_readsStep_141 : decode cX7_readsStep 141 = .ok (.iadd, 1) := by decide +kernel
theorem dX7_readsStep_142 : decode cX7_readsStep 142 = .ok (.iload_n 2, 1) := by decide +kernel
theorem dX7_readsStep_143 : decode cX7_readsStep 143 = .ok (.iadd, 1) := by decide +kernel
theorem dX7_readsStep_144 : decode cX7_readsStep 144 = .ok (.iload 6, 2) := by decide +kernel
theorem dX7_readsStep_146 : decode cX7_readsStep 146 = .ok (.iastore, 1) := by decide +kernel
theorem dX7_readsStep_147 : decode cX7_readsStep 147 = .ok (.aload_n 0, 1) := by decide +kernel
theorem dX7_readsStep_148 : decode cX7_readsStep 148 = .ok (.getfield 19, 3) := by decide +kernel
theorem dX7_readsStep_151 : decode cX7_readsStep 151 = .ok (.iload_n 1, 1) := by decide +kernel
theorem dX7_readsStep_152 : decode cX7_readsStep 152 = .ok (.iconst 2, 1) := by decide +kernel
theorem dX7_readsStep_153 : decode cX7_readsStep 153 = .ok (.iadd, 1) := by decide +kernel
theorem dX7_readsStep_154 : decode cX7_readsStep 154 = .ok (.dup2, 1) := by decide +kernel
theorem dX7_readsStep_155 : decode cX7_readsStep 155 = .ok (.iaload, 1) := by decide +kernel
theorem dX7_readsStep_156 : decode cX7_readsStep 156 = .ok (.iconst 1, 1) := by decide +kernel
theorem dX7_readsStep_157 : decode cX7_readsStep 157 = .ok (.iadd, 1) := by decide +kernel
theorem dX7_readsStep_158 : decode cX7_readsStep 158 = .ok (.iastore, 1) := by decide +kernel
theorem dX7_readsStep_159 : decode cX7_readsStep 159 = .ok (.return_, 1) := by decide +kernel
theorem dX7_readsShape_0 : decode cX7_readsShape 0 = .ok (.bipush 19, 2) := by decide +kernel
theorem dX7_readsShape_2 : decode cX7_readsShape 2 = .ok (.aload_n 0, 1) := by decide +kernel
theorem dX7_readsShape_3 : decode cX7_readsShape 3 = .ok (.getfield 131, 3) := by decide +kernel
theorem dX7_readsShape_6 : decode cX7_readsShape 6 = .ok (.imul, 1) := by decide +kernel
theorem dX7_readsShape_7 : decode cX7_readsShape 7 = .ok (.istore_n 1, 1) := by decide +kernel
theorem dX7_readsShape_8 : decode cX7_readsShape 8 = .ok (.aload_n 0, 1) := by decide +kernel
theorem dX7_readsShape_9 : decode cX7_readsShape 9 = .ok (.aload_n 0, 1) := by decide +kernel
theorem dX7_readsShape_10 : decode cX7_readsShape 10 = .ok (.invokevirtual 134, 3) := by decide +kernel
theorem dX7_readsShape_13 : decode cX7_readsShape 13 = .ok (.iconst 2, 1) := by decide +kernel
theorem dX7_readsShape_14 : decode cX7_readsShape 14 = .ok (.invokevirtual 111, 3) := by decide +kernel
theorem dX7_readsShape_17 : decode cX7_readsShape 17 = .ok (.aload_n 0, 1) := by decide +kernel
theorem dX7_readsShape_18 : decode cX7_readsShape 18 = .ok (.aload_n 0, 1) := by decide +kernel
theorem dX7_readsShape_19 : decode cX7_readsShape 19 = .ok (.getfield 81, 3) := by decide +kernel
theorem dX7_readsShape_22 : decode cX7_readsShape 22 = .ok (.ifCond .gt 21, 3) := by decide +kernel
theorem dX7_readsShape_25 : decode cX7_readsShape 25 = .ok (.aload_n 0, 1) := by decide +kernel
theorem dX7_readsShape_26 : decode cX7_readsShape 26 = .ok (.aload_n 0, 1) := by decide +kernel
theorem dX7_readsShape_27 : decode cX7_readsShape 27 = .ok (.getfield 97, 3) := by decide +kernel
theorem dX7_readsShape_30 : decode cX7_readsShape 30 = .ok (.bipush 97, 2) := by decide +kernel
theorem dX7_readsShape_32 : decode cX7_readsShape 32 = .ok (.isub, 1) := by decide +kernel
theorem dX7_readsShape_33 : decode cX7_readsShape 33 = .ok (.iconst 1, 1) := by decide +kernel
theorem dX7_readsShape_34 : decode cX7_readsShape 34 = .ok (.iadd, 1) := by decide +kernel
theorem dX7_readsShape_35 : decode cX7_readsShape 35 = .ok (.invokevirtual 138, 3) := by decide +kernel
theorem dX7_readsShape_38 : decode cX7_readsShape 38 = .ok (.bipush (-4), 2) := by decide +kernel
theorem dX7_readsShape_40 : decode cX7_readsShape 40 = .ok (.if_icmp .ne 7, 3) := by decide +kernel
theorem dX7_readsShape_43 : decode cX7_readsShape 43 = .ok (.iconst 1, 1) := by decide +kernel
theorem dX7_readsShape_44 : decode cX7_readsShape 44 = .ok (.goto 4, 3) := by decide +kernel
theorem dX7_readsShape_47 : decode cX7_readsShape 47 = .ok (.iconst 0, 1) := by decide +kernel
theorem dX7_readsShape_48 : decode cX7_readsShape 48 = .ok (.iconst 4, 1) := by decide +kernel
theorem dX7_readsShape_49 : decode cX7_readsShape 49 = .ok (.invokevirtual 111, 3) := by decide +kernel
theorem dX7_readsShape_52 : decode cX7_readsShape 52 = .ok (.aload_n 0, 1) := by decide +kernel
theorem dX7_readsShape_53 : decode cX7_readsShape 53 = .ok (.getfield 81, 3) := by decide +kernel
theorem dX7_readsShape_56 : decode cX7_readsShape 56 = .ok (.ifCond .le 4, 3) := by decide +kernel
theorem dX7_readsShape_59 : decode cX7_readsShape 59 = .ok (.return_, 1) := by decide +kernel
theorem dX7_readsShape_60 : decode cX7_readsShape 60 = .ok (.aload_n 0, 1) := by decide +kernel
theorem dX7_readsShape_61 : decode cX7_readsShape 61 = .ok (.getfield 19, 3) := by decide +kernel
theorem dX7_readsShape_64 : decode cX7_readsShape 64 = .ok (.iload_n 1, 1) := by decide +kernel
theorem dX7_readsShape_65 : decode cX7_readsShape 65 = .ok (.iconst 0, 1) := by decide +kernel
theorem dX7_readsShape_66 : decode cX7_readsShape 66 = .ok (.iadd, 1) := by decide +kernel
theorem dX7_readsShape_67 : decode cX7_readsShape 67 = .ok (.aload_n 0, 1) := by decide +kernel
theorem dX7_readsShape_68 : decode cX7_readsShape 68 = .ok (.getfield 97, 3) := by decide +kernel
theorem dX7_readsShape_71 : decode cX7_readsShape 71 = .ok (.bipush 97, 2) := by decide +kernel
theorem dX7_readsShape_73 : decode cX7_readsShape 73 = .ok (.isub, 1) := by decide +kernel
theorem dX7_readsShape_74 : decode cX7_readsShape 74 = .ok (.iconst 1, 1) := by decide +kernel
theorem dX7_readsShape_75 : decode cX7_readsShape 75 = .ok (.iadd, 1) := by decide +kernel
theorem dX7_readsShape_76 : decode cX7_readsShape 76 = .ok (.iastore, 1) := by decide +kernel
theorem dX7_readsShape_77 : decode cX7_readsShape 77 = .ok (.aload_n 0, 1) := by decide +kernel
theorem dX7_readsShape_78 : decode cX7_readsShape 78 = .ok (.invokevirtual 115, 3) := by decide +kernel
theorem dX7_readsShape_81 : decode cX7_readsShape 81 = .ok (.aload_n 0, 1) := by decide +kernel
theorem dX7_readsShape_82 : decode cX7_readsShape 82 = .ok (.getfield 19, 3) := by decide +kernel
theorem dX7_readsShape_85 : decode cX7_readsShape 85 = .ok (.iload_n 1, 1) := by decide +kernel
theorem dX7_readsShape_86 : decode cX7_readsShape 86 = .ok (.iconst 1, 1) := by decide +kernel
theorem dX7_readsShape_87 : decode cX7_readsShape 87 = .ok (.iadd, 1) := by decide +kernel
theorem dX7_readsShape_88 : decode cX7_readsShape 88 = .ok (.aload_n 0, 1) := by decide +kernel
theorem dX7_readsShape_89 : decode cX7_readsShape 89 = .ok (.iconst 1, 1) := by decide +kernel
theorem dX7_readsShape_90 : decode cX7_readsShape 90 = .ok (.bipush 60, 2) := by decide +kernel
theorem dX7_readsShape_92 : decode cX7_readsShape 92 = .ok (.invokevirtual 128, 3) := by decide +kernel
theorem dX7_readsShape_95 : decode cX7_readsShape 95 = .ok (.iastore, 1) := by decide +kernel
theorem dX7_readsShape_96 : decode cX7_readsShape 96 = .ok (.aload_n 0, 1) := by decide +kernel
theorem dX7_readsShape_97 : decode cX7_readsShape 97 = .ok (.getfield 19, 3) := by decide +kernel
theorem dX7_readsShape_100 : decode cX7_readsShape 100 = .ok (.iload_n 1, 1) := by decide +kernel
theorem dX7_readsShape_101 : decode cX7_readsShape 101 = .ok (.iconst 2, 1) := by decide +kernel
theorem dX7_readsShape_102 : decode cX7_readsShape 102 = .ok (.iadd, 1) := by decide +kernel
theorem dX7_readsShape_103 : decode cX7_readsShape 103 = .ok (.iconst 0, 1) := by decide +kernel
theorem dX7_readsShape_104 : decode cX7_readsShape 104 = .ok (.iastore, 1) := by decide +kernel
theorem dX7_readsShape_105 : decode cX7_readsShape 105 = .ok (.aload_n 0, 1) := by decide +kernel
theorem dX7_readsShape_106 : decode cX7_readsShape 106 = .ok (.getfield 81, 3) := by decide +kernel
theorem dX7_readsShape_109 : decode cX7_readsShape 109 = .ok (.ifCond .ne 7, 3) := by decide +kernel
theorem dX7_readsShape_112 : decode cX7_readsShape 112 = .ok (.iconst 1, 1) := by decide +kernel
theorem dX7_readsShape_113 : decode cX7_readsShape 113 = .ok (.goto 4, 3) := by decide +kernel
theorem dX7_readsShape_116 : decode cX7_readsShape 116 = .ok (.iconst 0, 1) := by decide +kernel
theorem dX7_readsShape_117 : decode cX7_readsShape 117 = .ok (.istore_n 2, 1) := by decide +kernel
theorem dX7_readsShape_118 : decode cX7_readsShape 118 = .ok (.iload_n 2, 1) := by decide +kernel
theorem dX7_readsShape_119 : decode cX7_readsShape 119 = .ok (.ifCond .eq 32, 3) := by decide +kernel
theorem dX7_readsShape_122 : decode cX7_readsShape 122 = .ok (.aload_n 0, 1) := by decide +kernel
theorem dX7_readsShape_123 : decode cX7_readsShape 123 = .ok (.iload_n 1, 1) := by decide +kernel
theorem dX7_readsShape_124 : decode cX7_readsShape 124 = .ok (.invokevirtual 141, 3) := by decide +kernel
theorem dX7_readsShape_127 : decode cX7_readsShape 127 = .ok (.aload_n 0, 1) := by decide +kernel
theorem dX7_readsShape_128 : decode cX7_readsShape 128 = .ok (.getfield 81, 3) := by decide +kernel
theorem dX7_readsShape_131 : decode cX7_readsShape 131 = .ok (.ifCond .ne 15, 3) := by decide +kernel
theorem dX7_readsShape_134 : decode cX7_readsShape 134 = .ok (.aload_n 0, 1) := by decide +kernel
theorem dX7_readsShape_135 : decode cX7_readsShape 135 = .ok (.getfield 100, 3) := by decide +kernel
theorem dX7_readsShape_138 : decode cX7_readsShape 138 = .ok (.iconst 2, 1) := by decide +kernel
theorem dX7_readsShape_139 : decode cX7_readsShape 139 = .ok (.if_icmp .ne 7, 3) := by decide +kernel
theorem dX7_readsShape_142 : decode cX7_readsShape 142 = .ok (.iconst 1, 1) := by decide +kernel
theorem dX7_readsShape_143 : decode cX7_readsShape 143 = .ok (.goto 4, 3) := by decide +kernel
theorem dX7_readsShape_146 : decode cX7_readsShape 146 = .ok (.iconst 0, 1) := by decide +kernel
theorem dX7_readsShape_147 : decode cX7_readsShape 147 = .ok (.istore_n 2, 1) := by decide +kernel
theorem dX7_readsShape_148 : decode cX7_readsShape 148 = .ok (.goto (-30), 3) := by decide +kernel
theorem dX7_readsShape_151 : decode cX7_readsShape 151 = .ok (.aload_n 0, 1) := by decide +kernel
theorem dX7_readsShape_152 : decode cX7_readsShape 152 = .ok (.dup, 1) := by decide +kernel
theorem dX7_readsShape_153 : decode cX7_readsShape 153 = .ok (.getfield 131, 3) := by decide +kernel
theorem dX7_readsShape_156 : decode cX7_readsShape 156 = .ok (.iconst 1, 1) := by decide +kernel
theorem dX7_readsShape_157 : decode cX7_readsShape 157 = .ok (.iadd, 1) := by decide +kernel
theorem dX7_readsShape_158 : decode cX7_readsShape 158 = .ok (.putfield 131, 3) := by decide +kernel
theorem dX7_readsShape_161 : decode cX7_readsShape 161 = .ok (.return_, 1) := by decide +kernel
theorem dX7_wordsOfDraft_0 : decode cX7_wordsOfDraft 0 = .ok (.iconst 0, 1) := by decide +kernel
theorem dX7_wordsOfDraft_1 : decode cX7_wordsOfDraft 1 = .ok (.istore_n 1, 1) := by decide +kernel
theorem dX7_wordsOfDraft_2 : decode cX7_wordsOfDraft 2 = .ok (.iconst 0, 1) := by decide +kernel
theorem dX7_wordsOfDraft_3 : decode cX7_wordsOfDraft 3 = .ok (.istore_n 2, 1) := by decide +kernel
theorem dX7_wordsOfDraft_4 : decode cX7_wordsOfDraft 4 = .ok (.iload_n 2, 1) := by decide +kernel
theorem dX7_wordsOfDraft_5 : decode cX7_wordsOfDraft 5 = .ok (.aload_n 0, 1) := by decide +kernel
theorem dX7_wordsOfDraft_6 : decode cX7_wordsOfDraft 6 = .ok (.getfield 13, 3) := by decide +kernel
theorem dX7_wordsOfDraft_9 : decode cX7_wordsOfDraft 9 = .ok (.iconst 0, 1) := by decide +kernel
theorem dX7_wordsOfDraft_10 : decode cX7_wordsOfDraft 10 = .ok (.iaload, 1) := by decide +kernel
theorem dX7_wordsOfDraft_11 : decode cX7_wordsOfDraft 11 = .ok (.if_icmp .ge 24, 3) := by decide +kernel
theorem dX7_wordsOfDraft_14 : decode cX7_wordsOfDraft 14 = .ok (.iload_n 1, 1) := by decide +kernel
theorem dX7_wordsOfDraft_15 : decode cX7_wordsOfDraft 15 = .ok (.aload_n 0, 1) := by decide +kernel
theorem dX7_wordsOfDraft_16 : decode cX7_wordsOfDraft 16 = .ok (.getfield 13, 3) := by decide +kernel
theorem dX7_wordsOfDraft_19 : decode cX7_wordsOfDraft 19 = .ok (.iconst 1, 1) := by decide +kernel
theorem dX7_wordsOfDraft_20 : decode cX7_wordsOfDraft 20 = .ok (.iconst 3, 1) := by decide +kernel
theorem dX7_wordsOfDraft_21 : decode cX7_wordsOfDraft 21 = .ok (.iload_n 2, 1) := by decide +kernel
theorem dX7_wordsOfDraft_22 : decode cX7_wordsOfDraft 22 = .ok (.imul, 1) := by decide +kernel
theorem dX7_wordsOfDraft_23 : decode cX7_wordsOfDraft 23 = .ok (.iadd, 1) := by decide +kernel
theorem dX7_wordsOfDraft_24 : decode cX7_wordsOfDraft 24 = .ok (.iconst 2, 1) := by decide +kernel
theorem dX7_wordsOfDraft_25 : decode cX7_wordsOfDraft 25 = .ok (.iadd, 1) := by decide +kernel
theorem dX7_wordsOfDraft_26 : decode cX7_wordsOfDraft 26 = .ok (.iaload, 1) := by decide +kernel
theorem dX7_wordsOfDraft_27 : decode cX7_wordsOfDraft 27 = .ok (.iadd, 1) := by decide +kernel
theorem dX7_wordsOfDraft_28 : decode cX7_wordsOfDraft 28 = .ok (.istore_n 1, 1) := by decide +kernel
theorem dX7_wordsOfDraft_29 : decode cX7_wordsOfDraft 29 = .ok (.iinc 2 1, 3) := by decide +kernel
theorem dX7_wordsOfDraft_32 : decode cX7_wordsOfDraft 32 = .ok (.goto (-28), 3) := by decide +kernel
theorem dX7_wordsOfDraft_35 : decode cX7_wordsOfDraft 35 = .ok (.iload_n 1, 1) := by decide +kernel
theorem dX7_wordsOfDraft_36 : decode cX7_wordsOfDraft 36 = .ok (.ireturn, 1) := by decide +kernel
theorem dX7_readsWord_0 : decode cX7_readsWord 0 = .ok (.aload_n 0, 1) := by decide +kernel
theorem dX7_readsWord_1 : decode cX7_readsWord 1 = .ok (.aload_n 0, 1) := by decide +kernel
theorem dX7_readsWord_2 : decode cX7_readsWord 2 = .ok (.getfield 100, 3) := by decide +kernel
theorem dX7_readsWord_5 : decode cX7_readsWord 5 = .ok (.iconst 1, 1) := by decide +kernel
theorem dX7_readsWord_6 : decode cX7_readsWord 6 = .ok (.if_icmp .ne 7, 3) := by decide +kernel
theorem dX7_readsWord_9 : decode cX7_readsWord 9 = .ok (.iconst 1, 1) := by decide +kernel
theorem dX7_readsWord_10 : decode cX7_readsWord 10 = .ok (.goto 4, 3) := by decide +kernel
theorem dX7_readsWord_13 : decode cX7_readsWord 13 = .ok (.iconst 0, 1) := by decide +kernel
theorem dX7_readsWord_14 : decode cX7_readsWord 14 = .ok (.iconst 2, 1) := by decide +kernel
theorem dX7_readsWord_15 : decode cX7_readsWord 15 = .ok (.invokevirtual 111, 3) := by decide +kernel
theorem dX7_readsWord_18 : decode cX7_readsWord 18 = .ok (.aload_n 0, 1) := by decide +kernel
theorem dX7_readsWord_19 : decode cX7_readsWord 19 = .ok (.aload_n 0, 1) := by decide +kernel
theorem dX7_readsWord_20 : decode cX7_readsWord 20 = .ok (.getfield 81, 3) := by decide +kernel
theorem dX7_readsWord_23 : decode cX7_readsWord 23 = .ok (.ifCond .gt 17, 3) := by decide +kernel
theorem dX7_readsWord_26 : decode cX7_readsWord 26 = .ok (.aload_n 0, 1) := by decide +kernel
theorem dX7_readsWord_27 : decode cX7_readsWord 27 = .ok (.getfield 90, 3) := by decide +kernel
theorem dX7_readsWord_30 : decode cX7_readsWord 30 = .ok (.aload_n 0, 1) := by decide +kernel
theorem dX7_readsWord_31 : decode cX7_readsWord 31 = .ok (.getfield 84, 3) := by decide +kernel
theorem dX7_readsWord_34 : decode cX7_readsWord 34 = .ok (.isub, 1) := by decide +kernel
theorem dX7_readsWord_35 : decode cX7_readsWord 35 = .ok (.bipush 6, 2) := by decide +kernel
theorem dX7_readsWord_37 : decode cX7_readsWord 37 = .ok (.if_icmp .gt 7, 3) := by decide +kernel
theorem dX7_readsWord_40 : decode cX7_readsWord 40 = .ok (.iconst 1, 1) := by decide +kernel
theorem dX7_readsWord_41 : decode cX7_readsWord 41 = .ok (.goto 4, 3) := by decide +kernel
theorem dX7_readsWord_44 : decode cX7_readsWord 44 = .ok (.iconst 0, 1) := by decide +kernel
theorem dX7_readsWord_45 : decode cX7_readsWord 45 = .ok (.iconst 3, 1) := by decide +kernel
theorem dX7_readsWord_46 : decode cX7_readsWord 46 = .ok (.invokevirtual 111, 3) := by decide +kernel
theorem dX7_readsWord_49 : decode cX7_readsWord 49 = .ok (.aload_n 0, 1) := by decide +kernel
theorem dX7_readsWord_50 : decode cX7_readsWord 50 = .ok (.aload_n 0, 1) := by decide +kernel
theorem dX7_readsWord_51 : decode cX7_readsWord 51 = .ok (.getfield 81, 3) := by decide +kernel
theorem dX7_readsWord_54 : decode cX7_readsWord 54 = .ok (.ifCond .gt 12, 3) := by decide +kernel
theorem dX7_readsWord_57 : decode cX7_readsWord 57 = .ok (.aload_n 0, 1) := by decide +kernel
theorem dX7_readsWord_58 : decode cX7_readsWord 58 = .ok (.invokevirtual 145, 3) := by decide +kernel
theorem dX7_readsWord_61 : decode cX7_readsWord 61 = .ok (.bipush 80, 2) := by decide +kernel
theorem dX7_readsWord_63 : decode cX7_readsWord 63 = .ok (.if_icmp .ge 7, 3) := by decide +kernel
theorem dX7_readsWord_66 : decode cX7_readsWord 66 = .ok (.iconst 1, 1) := by decide +kernel
theorem dX7_readsWord_67 : decode cX7_readsWord 67 = .ok (.goto 4, 3) := by decide +kernel
theorem dX7_readsWord_70 : decode cX7_readsWord 70 = .ok (.iconst 0, 1) := by decide +kernel
theorem dX7_readsWord_71 : decode cX7_readsWord 71 = .ok (.iconst 5, 1) := by decide +kernel
theorem dX7_readsWord_72 : decode cX7_readsWord 72 = .ok (.invokevirtual 111, 3) := by decide +kernel
theorem dX7_readsWord_75 : decode cX7_readsWord 75 = .ok (.aload_n 0, 1) := by decide +kernel
theorem dX7_readsWord_76 : decode cX7_readsWord 76 = .ok (.getfield 81, 3) := by decide +kernel
theorem dX7_readsWord_79 : decode cX7_readsWord 79 = .ok (.ifCond .le 4, 3) := by decide +kernel
theorem dX7_readsWord_82 : decode cX7_readsWord 82 = .ok (.return_, 1) := by decide +kernel
theorem dX7_readsWord_83 : decode cX7_readsWord 83 = .ok (.bipush 25, 2) := by decide +kernel
theorem dX7_readsWord_85 : decode cX7_readsWord 85 = .ok (.bipush 7, 2) := by decide +kernel
theorem dX7_readsWord_87 : decode cX7_readsWord 87 = .ok (.aload_n 0, 1) := by decide +kernel
theorem dX7_readsWord_88 : decode cX7_readsWord 88 = .ok (.invokevirtual 145, 3) := by decide +kernel
theorem dX7_readsWord_91 : decode cX7_readsWord 91 = .ok (.imul, 1) := by decide +kernel
theorem dX7_readsWord_92 : decode cX7_readsWord 92 = .ok (.iadd, 1) := by decide +kernel
theorem dX7_readsWord_93 : decode cX7_readsWord 93 = .ok (.istore_n 2, 1) := by decide +kernel
theorem dX7_readsWord_94 : decode cX7_readsWord 94 = .ok (.aload_n 0, 1) := by decide +kernel
theorem dX7_readsWord_95 : decode cX7_readsWord 95 = .ok (.getfield 13, 3) := by decide +kernel
theorem dX7_readsWord_98 : decode cX7_readsWord 98 = .ok (.iload_n 2, 1) := by decide +kernel
theorem dX7_readsWord_99 : decode cX7_readsWord 99 = .ok (.aload_n 0, 1) := by decide +kernel
theorem dX7_readsWord_100 : decode cX7_readsWord 100 = .ok (.getfield 90, 3) := by decide +kernel
theorem dX7_readsWord_103 : decode cX7_readsWord 103 = .ok (.aload_n 0, 1) := by decide +kernel
theorem dX7_readsWord_104 : decode cX7_readsWord 104 = .ok (.getfield 84, 3) := by decide +kernel
theorem dX7_readsWord_107 : decode cX7_readsWord 107 = .ok (.isub, 1) := by decide +kernel
theorem dX7_readsWord_108 : decode cX7_readsWord 108 = .ok (.iastore, 1) := by decide +kernel
theorem dX7_readsWord_109 : decode cX7_readsWord 109 = .ok (.iconst 0, 1) := by decide +kernel
theorem dX7_readsWord_110 : decode cX7_readsWord 110 = .ok (.istore_n 3, 1) := by decide +kernel
theorem dX7_readsWord_111 : decode cX7_readsWord 111 = .ok (.iload_n 3, 1) := by decide +kernel
theorem dX7_readsWord_112 : decode cX7_readsWord 112 = .ok (.bipush 6, 2) := by decide +kernel
theorem dX7_readsWord_114 : decode cX7_readsWord 114 = .ok (.if_icmp .ge 51, 3) := by decide +kernel
theorem dX7_readsWord_117 : decode cX7_readsWord 117 = .ok (.aload_n 0, 1) := by decide +kernel
theorem dX7_readsWord_118 : decode cX7_readsWord 118 = .ok (.getfield 13, 3) := by decide +kernel
theorem dX7_readsWord_121 : decode cX7_readsWord 121 = .ok (.iload_n 2, 1) := by decide +kernel
theorem dX7_readsWord_122 : decode cX7_readsWord 122 = .ok (.iconst 1, 1) := by decide +kernel
theorem dX7_readsWord_123 : decode cX7_readsWord 123 = .ok (.iadd, 1) := by decide +kernel
theorem dX7_readsWord_124 : decode cX7_readsWord 124 = .ok (.iload_n 3, 1) := by decide +kernel
theorem dX7_readsWord_125 : decode cX7_readsWord 125 = .ok (.iadd, 1) := by decide +kernel
theorem dX7_readsWord_126 : decode cX7_readsWord 126 = .ok (.iload_n 3, 1) := by decide +kernel
theorem dX7_readsWord_127 : decode cX7_readsWord 127 = .ok (.aload_n 0, 1) := by decide +kernel
theorem dX7_readsWord_128 : decode cX7_readsWord 128 = .ok (.getfield 90, 3) := by decide +kernel
theorem dX7_readsWord_131 : decode cX7_readsWord 131 = .ok (.aload_n 0, 1) := by decide +kernel
theorem dX7_readsWord_132 : decode cX7_readsWord 132 = .ok (.getfield 84, 3) := by decide +kernel
theorem dX7_readsWord_135 : decode cX7_readsWord 135 = .ok (.isub, 1) := by decide +kernel
theorem dX7_readsWord_136 : decode cX7_readsWord 136 = .ok (.if_icmp .ge 21, 3) := by decide +kernel
theorem dX7_readsWord_139 : decode cX7_readsWord 139 = .ok (.aload_n 0, 1) := by decide +kernel
theorem dX7_readsWord_140 : decode cX7_readsWord 140 = .ok (.aload_n 0, 1) := by decide +kernel
theorem dX7_readsWord_141 : decode cX7_readsWord 141 = .ok (.getfield 84, 3) := by decide +kernel
theorem dX7_readsWord_144 : decode cX7_readsWord 144 = .ok (.iload_n 3, 1) := by decide +kernel
theorem dX7_readsWord_145 : decode cX7_readsWord 145 = .ok (.iadd, 1) := by decide +kernel
theorem dX7_readsWord_146 : decode cX7_readsWord 146 = .ok (.invokevirtual 93, 3) := by decide +kernel
theorem dX7_readsWord_149 : decode cX7_readsWord 149 = .ok (.bipush 97, 2) := by decide +kernel
theorem dX7_readsWord_151 : decode cX7_readsWord 151 = .ok (.isub, 1) := by decide +kernel
theorem dX7_readsWord_152 : decode cX7_readsWord 152 = .ok (.iconst 1, 1) := by decide +kernel
theorem dX7_readsWord_153 : decode cX7_readsWord 153 = .ok (.iadd, 1) := by decide +kernel
theorem dX7_readsWord_154 : decode cX7_readsWord 154 = .ok (.goto 4, 3) := by decide +kernel
theorem dX7_readsWord_157 : decode cX7_readsWord 157 = .ok (.iconst 0, 1) := by decide +kernel
theorem dX7_readsWord_158 : decode cX7_readsWord 158 = .ok (.iastore, 1) := by decide +kernel
theorem dX7_readsWord_159 : decode cX7_readsWord 159 = .ok (.iinc 3 1, 3) := by decide +kernel
theorem dX7_readsWord_162 : decode cX7_readsWord 162 = .ok (.goto (-51), 3) := by decide +kernel
theorem dX7_readsWord_165 : decode cX7_readsWord 165 = .ok (.aload_n 0, 1) := by decide +kernel
theorem dX7_readsWord_166 : decode cX7_readsWord 166 = .ok (.getfield 13, 3) := by decide +kernel
theorem dX7_readsWord_169 : decode cX7_readsWord 169 = .ok (.iconst 1, 1) := by decide +kernel
theorem dX7_readsWord_170 : decode cX7_readsWord 170 = .ok (.iconst 3, 1) := by decide +kernel
theorem dX7_readsWord_171 : decode cX7_readsWord 171 = .ok (.iload_n 1, 1) := by decide +kernel
theorem dX7_readsWord_172 : decode cX7_readsWord 172 = .ok (.imul, 1) := by decide +kernel
theorem dX7_readsWord_173 : decode cX7_readsWord 173 = .ok (.iadd, 1) := by decide +kernel
theorem dX7_readsWord_174 : decode cX7_readsWord 174 = .ok (.iconst 2, 1) := by decide +kernel
theorem dX7_readsWord_175 : decode cX7_readsWord 175 = .ok (.iadd, 1) := by decide +kernel
theorem dX7_readsWord_176 : decode cX7_readsWord 176 = .ok (.dup2, 1) := by decide +kernel
theorem dX7_readsWord_177 : decode cX7_readsWord 177 = .ok (.iaload, 1) := by decide +kernel
theorem dX7_readsWord_178 : decode cX7_readsWord 178 = .ok (.iconst 1, 1) := by decide +kernel
theorem dX7_readsWord_179 : decode cX7_readsWord 179 = .ok (.iadd, 1) := by decide +kernel
theorem dX7_readsWord_180 : decode cX7_readsWord 180 = .ok (.iastore, 1) := by decide +kernel
theorem dX7_readsWord_181 : decode cX7_readsWord 181 = .ok (.aload_n 0, 1) := by decide +kernel
theorem dX7_readsWord_182 : decode cX7_readsWord 182 = .ok (.invokevirtual 115, 3) := by decide +kernel
theorem dX7_readsWord_185 : decode cX7_readsWord 185 = .ok (.return_, 1) := by decide +kernel
theorem dX7_readsPar_0 : decode cX7_readsPar 0 = .ok (.aload_n 0, 1) := by decide +kernel
theorem dX7_readsPar_1 : decode cX7_readsPar 1 = .ok (.getfield 13, 3) := by decide +kernel
theorem dX7_readsPar_4 : decode cX7_readsPar 4 = .ok (.iconst 0, 1) := by decide +kernel
theorem dX7_readsPar_5 : decode cX7_readsPar 5 = .ok (.iaload, 1) := by decide +kernel
theorem dX7_readsPar_6 : decode cX7_readsPar 6 = .ok (.istore_n 1, 1) := by decide +kernel
theorem dX7_readsPar_7 : decode cX7_readsPar 7 = .ok (.aload_n 0, 1) := by decide +kernel
theorem dX7_readsPar_8 : decode cX7_readsPar 8 = .ok (.getfield 13, 3) := by decide +kernel
theorem dX7_readsPar_11 : decode cX7_readsPar 11 = .ok (.iconst 1, 1) := by decide +kernel
theorem dX7_readsPar_12 : decode cX7_readsPar 12 = .ok (.iconst 3, 1) := by decide +kernel
theorem dX7_readsPar_13 : decode cX7_readsPar 13 = .ok (.iload_n 1, 1) := by decide +kernel
theorem dX7_readsPar_14 : decode cX7_readsPar 14 = .ok (.imul, 1) := by decide +kernel
theorem dX7_readsPar_15 : decode cX7_readsPar 15 = .ok (.iadd, 1) := by decide +kernel
theorem dX7_readsPar_16 : decode cX7_readsPar 16 = .ok (.bipush (-4), 2) := by decide +kernel
theorem dX7_readsPar_18 : decode cX7_readsPar 18 = .ok (.iastore, 1) := by decide +kernel
theorem dX7_readsPar_19 : decode cX7_readsPar 19 = .ok (.aload_n 0, 1) := by decide +kernel
theorem dX7_readsPar_20 : decode cX7_readsPar 20 = .ok (.getfield 13, 3) := by decide +kernel
theorem dX7_readsPar_23 : decode cX7_readsPar 23 = .ok (.iconst 1, 1) := by decide +kernel
theorem dX7_readsPar_24 : decode cX7_readsPar 24 = .ok (.iconst 3, 1) := by decide +kernel
theorem dX7_readsPar_25 : decode cX7_readsPar 25 = .ok (.iload_n 1, 1) := by decide +kernel
theorem dX7_readsPar_26 : decode cX7_readsPar 26 = .ok (.imul, 1) := by decide +kernel
theorem dX7_readsPar_27 : decode cX7_readsPar 27 = .ok (.iadd, 1) := by decide +kernel
theorem dX7_readsPar_28 : decode cX7_readsPar 28 = .ok (.iconst 1, 1) := by decide +kernel
theorem dX7_readsPar_29 : decode cX7_readsPar 29 = .ok (.iadd, 1) := by decide +kernel
theorem dX7_readsPar_30 : decode cX7_readsPar 30 = .ok (.iconst 0, 1) := by decide +kernel
theorem dX7_readsPar_31 : decode cX7_readsPar 31 = .ok (.iastore, 1) := by decide +kernel
theorem dX7_readsPar_32 : decode cX7_readsPar 32 = .ok (.aload_n 0, 1) := by decide +kernel
theorem dX7_readsPar_33 : decode cX7_readsPar 33 = .ok (.getfield 13, 3) := by decide +kernel
theorem dX7_readsPar_36 : decode cX7_readsPar 36 = .ok (.iconst 1, 1) := by decide +kernel
theorem dX7_readsPar_37 : decode cX7_readsPar 37 = .ok (.iconst 3, 1) := by decide +kernel
theorem dX7_readsPar_38 : decode cX7_readsPar 38 = .ok (.iload_n 1, 1) := by decide +kernel
theorem dX7_readsPar_39 : decode cX7_readsPar 39 = .ok (.imul, 1) := by decide +kernel
theorem dX7_readsPar_40 : decode cX7_readsPar 40 = .ok (.iadd, 1) := by decide +kernel
theorem dX7_readsPar_41 : decode cX7_readsPar 41 = .ok (.iconst 2, 1) := by decide +kernel
theorem dX7_readsPar_42 : decode cX7_readsPar 42 = .ok (.iadd, 1) := by decide +kernel
theorem dX7_readsPar_43 : decode cX7_readsPar 43 = .ok (.iconst 0, 1) := by decide +kernel
theorem dX7_readsPar_44 : decode cX7_readsPar 44 = .ok (.iastore, 1) := by decide +kernel
theorem dX7_readsPar_45 : decode cX7_readsPar 45 = .ok (.aload_n 0, 1) := by decide +kernel
theorem dX7_readsPar_46 : decode cX7_readsPar 46 = .ok (.getfield 100, 3) := by decide +kernel
theorem dX7_readsPar_49 : decode cX7_readsPar 49 = .ok (.iconst 1, 1) := by decide +kernel
theorem dX7_readsPar_50 : decode cX7_readsPar 50 = .ok (.if_icmp .ne 89, 3) := by decide +kernel
theorem dX7_readsPar_53 : decode cX7_readsPar 53 = .ok (.aload_n 0, 1) := by decide +kernel
theorem dX7_readsPar_54 : decode cX7_readsPar 54 = .ok (.invokevirtual 134, 3) := by decide +kernel
theorem dX7_readsPar_57 : decode cX7_readsPar 57 = .ok (.ifCond .eq 19, 3) := by decide +kernel
theorem dX7_readsPar_60 : decode cX7_readsPar 60 = .ok (.aload_n 0, 1) := by decide +kernel
theorem dX7_readsPar_61 : decode cX7_readsPar 61 = .ok (.aload_n 0, 1) := by decide +kernel
theorem dX7_readsPar_62 : decode cX7_readsPar 62 = .ok (.getfield 97, 3) := by decide +kernel
theorem dX7_readsPar_65 : decode cX7_readsPar 65 = .ok (.bipush 97, 2) := by decide +kernel
theorem dX7_readsPar_67 : decode cX7_readsPar 67 = .ok (.isub, 1) := by decide +kernel
theorem dX7_readsPar_68 : decode cX7_readsPar 68 = .ok (.iconst 1, 1) := by decide +kernel
theorem dX7_readsPar_69 : decode cX7_readsPar 69 = .ok (.iadd, 1) := by decide +kernel
theorem dX7_readsPar_70 : decode cX7_readsPar 70 = .ok (.invokevirtual 138, 3) := by decide +kernel
theorem dX7_readsPar_73 : decode cX7_readsPar 73 = .ok (.goto 5, 3) := by decide +kernel
theorem dX7_readsPar_76 : decode cX7_readsPar 76 = .ok (.bipush (-4), 2) := by decide +kernel
theorem dX7_readsPar_78 : decode cX7_readsPar 78 = .ok (.istore_n 2, 1) := by decide +kernel
theorem dX7_readsPar_79 : decode cX7_readsPar 79 = .ok (.aload_n 0, 1) := by decide +kernel
theorem dX7_readsPar_80 : decode cX7_readsPar 80 = .ok (.iload_n 2, 1) := by decide +kernel
theorem dX7_readsPar_81 : decode cX7_readsPar 81 = .ok (.bipush (-4), 2) := by decide +kernel
theorem dX7_readsPar_83 : decode cX7_readsPar 83 = .ok (.if_icmp .eq 7, 3) := by decide +kernel
theorem dX7_readsPar_86 : decode cX7_readsPar 86 = .ok (.iconst 1, 1) := by decide +kernel
theorem dX7_readsPar_87 : decode cX7_readsPar 87 = .ok (.goto 4, 3) := by decide +kernel
theorem dX7_readsPar_90 : decode cX7_readsPar 90 = .ok (.iconst 0, 1) := by decide +kernel
theorem dX7_readsPar_91 : decode cX7_readsPar 91 = .ok (.iconst 2, 1) := by decide +kernel
theorem dX7_readsPar_92 : decode cX7_readsPar 92 = .ok (.invokevirtual 111, 3) := by decide +kernel
theorem dX7_readsPar_95 : decode cX7_readsPar 95 = .ok (.aload_n 0, 1) := by decide +kernel
theorem dX7_readsPar_96 : decode cX7_readsPar 96 = .ok (.invokevirtual 115, 3) := by decide +kernel
theorem dX7_readsPar_99 : decode cX7_readsPar 99 = .ok (.aload_n 0, 1) := by decide +kernel
theorem dX7_readsPar_100 : decode cX7_readsPar 100 = .ok (.getfield 13, 3) := by decide +kernel
theorem dX7_readsPar_103 : decode cX7_readsPar 103 = .ok (.iconst 1, 1) := by decide +kernel
theorem dX7_readsPar_104 : decode cX7_readsPar 104 = .ok (.iconst 3, 1) := by decide +kernel
theorem dX7_readsPar_105 : decode cX7_readsPar 105 = .ok (.iload_n 1, 1) := by decide +kernel
theorem dX7_readsPar_106 : decode cX7_readsPar 106 = .ok (.imul, 1) := by decide +kernel
theorem dX7_readsPar_107 : decode cX7_readsPar 107 = .ok (.iadd, 1) := by decide +kernel
theorem dX7_readsPar_108 : decode cX7_readsPar 108 = .ok (.iload_n 2, 1) := by decide +kernel
theorem dX7_readsPar_109 : decode cX7_readsPar 109 = .ok (.iastore, 1) := by decide +kernel
theorem dX7_readsPar_110 : decode cX7_readsPar 110 = .ok (.aload_n 0, 1) := by decide +kernel
theorem dX7_readsPar_111 : decode cX7_readsPar 111 = .ok (.getfield 13, 3) := by decide +kernel
theorem dX7_readsPar_114 : decode cX7_readsPar 114 = .ok (.iconst 1, 1) := by decide +kernel
theorem dX7_readsPar_115 : decode cX7_readsPar 115 = .ok (.iconst 3, 1) := by decide +kernel
theorem dX7_readsPar_116 : decode cX7_readsPar 116 = .ok (.iload_n 1, 1) := by decide +kernel
theorem dX7_readsPar_117 : decode cX7_readsPar 117 = .ok (.imul, 1) := by decide +kernel
theorem dX7_readsPar_118 : decode cX7_readsPar 118 = .ok (.iadd, 1) := by decide +kernel
theorem dX7_readsPar_119 : decode cX7_readsPar 119 = .ok (.iconst 1, 1) := by decide +kernel
theorem dX7_readsPar_120 : decode cX7_readsPar 120 = .ok (.iadd, 1) := by decide +kernel
theorem dX7_readsPar_121 : decode cX7_readsPar 121 = .ok (.aload_n 0, 1) := by decide +kernel
theorem dX7_readsPar_122 : decode cX7_readsPar 122 = .ok (.getfield 81, 3) := by decide +kernel
theorem dX7_readsPar_125 : decode cX7_readsPar 125 = .ok (.ifCond .le 7, 3) := by decide +kernel
theorem dX7_readsPar_128 : decode cX7_readsPar 128 = .ok (.iconst 0, 1) := by decide +kernel
theorem dX7_readsPar_129 : decode cX7_readsPar 129 = .ok (.goto 9, 3) := by decide +kernel
theorem dX7_readsPar_132 : decode cX7_readsPar 132 = .ok (.aload_n 0, 1) := by decide +kernel
theorem dX7_readsPar_133 : decode cX7_readsPar 133 = .ok (.iconst 2, 1) := by decide +kernel
theorem dX7_readsPar_134 : decode cX7_readsPar 134 = .ok (.iconst 5, 1) := by decide +kernel
theorem dX7_readsPar_135 : decode cX7_readsPar 135 = .ok (.invokevirtual 128, 3) := by decide +kernel
theorem dX7_readsPar_138 : decode cX7_readsPar 138 = .ok (.iastore, 1) := by decide +kernel
theorem dX7_readsPar_139 : decode cX7_readsPar 139 = .ok (.aload_n 0, 1) := by decide +kernel
theorem dX7_readsPar_140 : decode cX7_readsPar 140 = .ok (.aload_n 0, 1) := by decide +kernel
theorem dX7_readsPar_141 : decode cX7_readsPar 141 = .ok (.getfield 81, 3) := by decide +kernel
theorem dX7_readsPar_144 : decode cX7_readsPar 144 = .ok (.ifCond .gt 12, 3) := by decide +kernel
theorem dX7_readsPar_147 : decode cX7_readsPar 147 = .ok (.aload_n 0, 1) := by decide +kernel
theorem dX7_readsPar_148 : decode cX7_readsPar 148 = .ok (.bipush 58, 2) := by decide +kernel
theorem dX7_readsPar_150 : decode cX7_readsPar 150 = .ok (.invokevirtual 149, 3) := by decide +kernel
theorem dX7_readsPar_153 : decode cX7_readsPar 153 = .ok (.ifCond .eq 7, 3) := by decide +kernel
theorem dX7_readsPar_156 : decode cX7_readsPar 156 = .ok (.iconst 1, 1) := by decide +kernel
theorem dX7_readsPar_157 : decode cX7_readsPar 157 = .ok (.goto 4, 3) := by decide +kernel
theorem dX7_readsPar_160 : decode cX7_readsPar 160 = .ok (.iconst 0, 1) := by decide +kernel
theorem dX7_readsPar_161 : decode cX7_readsPar 161 = .ok (.iconst 2, 1) := by decide +kernel
theorem dX7_readsPar_162 : decode cX7_readsPar 162 = .ok (.invokevirtual 111, 3) := by decide +kernel
theorem dX7_readsPar_165 : decode cX7_readsPar 165 = .ok (.aload_n 0, 1) := by decide +kernel
theorem dX7_readsPar_166 : decode cX7_readsPar 166 = .ok (.invokevirtual 115, 3) := by decide +kernel
theorem dX7_readsPar_169 : decode cX7_readsPar 169 = .ok (.aload_n 0, 1) := by decide +kernel
theorem dX7_readsPar_170 : decode cX7_readsPar 170 = .ok (.getfield 13, 3) := by decide +kernel
theorem dX7_readsPar_173 : decode cX7_readsPar 173 = .ok (.iconst 0, 1) := by decide +kernel
theorem dX7_readsPar_174 : decode cX7_readsPar 174 = .ok (.dup2, 1) := by decide +kernel
theorem dX7_readsPar_175 : decode cX7_readsPar 175 = .ok (.iaload, 1) := by decide +kernel
theorem dX7_readsPar_176 : decode cX7_readsPar 176 = .ok (.iconst 1, 1) := by decide +kernel
theorem dX7_readsPar_177 : decode cX7_readsPar 177 = .ok (.iadd, 1) := by decide +kernel
theorem dX7_readsPar_178 : decode cX7_readsPar 178 = .ok (.iastore, 1) := by decide +kernel
theorem dX7_readsPar_179 : decode cX7_readsPar 179 = .ok (.aload_n 0, 1) := by decide +kernel
theorem dX7_readsPar_180 : decode cX7_readsPar 180 = .ok (.getfield 81, 3) := by decide +kernel
theorem dX7_readsPar_183 : decode cX7_readsPar 183 = .ok (.ifCond .ne 7, 3) := by decide +kernel
theorem dX7_readsPar_186 : decode cX7_readsPar 186 = .ok (.iconst 1, 1) := by decide +kernel
theorem dX7_readsPar_187 : decode cX7_readsPar 187 = .ok (.goto 4, 3) := by decide +kernel
theorem dX7_readsPar_190 : decode cX7_readsPar 190 = .ok (.iconst 0, 1) := by decide +kernel
theorem dX7_readsPar_191 : decode cX7_readsPar 191 = .ok (.istore_n 2, 1) := by decide +kernel
theorem dX7_readsPar_192 : decode cX7_readsPar 192 = .ok (.iload_n 2, 1) := by decide +kernel
theorem dX7_readsPar_193 : decode cX7_readsPar 193 = .ok (.ifCond .eq 32, 3) := by decide +kernel
theorem dX7_readsPar_196 : decode cX7_readsPar 196 = .ok (.aload_n 0, 1) := by decide +kernel
theorem dX7_readsPar_197 : decode cX7_readsPar 197 = .ok (.iload_n 1, 1) := by decide +kernel
theorem dX7_readsPar_198 : decode cX7_readsPar 198 = .ok (.invokevirtual 153, 3) := by decide +kernel
theorem dX7_readsPar_201 : decode cX7_readsPar 201 = .ok (.aload_n 0, 1) := by decide +kernel
theorem dX7_readsPar_202 : decode cX7_readsPar 202 = .ok (.getfield 81, 3) := by decide +kernel
theorem dX7_readsPar_205 : decode cX7_readsPar 205 = .ok (.ifCond .ne 15, 3) := by decide +kernel
theorem dX7_readsPar_208 : decode cX7_readsPar 208 = .ok (.aload_n 0, 1) := by decide +kernel
theorem dX7_readsPar_209 : decode cX7_readsPar 209 = .ok (.getfield 100, 3) := by decide +kernel
theorem dX7_readsPar_212 : decode cX7_readsPar 212 = .ok (.iconst 1, 1) := by decide +kernel
theorem dX7_readsPar_213 : decode cX7_readsPar 213 = .ok (.if_icmp .ne 7, 3) := by decide +kernel
theorem dX7_readsPar_216 : decode cX7_readsPar 216 = .ok (.iconst 1, 1) := by decide +kernel
theorem dX7_readsPar_217 : decode cX7_readsPar 217 = .ok (.goto 4, 3) := by decide +kernel
theorem dX7_readsPar_220 : decode cX7_readsPar 220 = .ok (.iconst 0, 1) := by decide +kernel
theorem dX7_readsPar_221 : decode cX7_readsPar 221 = .ok (.istore_n 2, 1) := by decide +kernel
theorem dX7_readsPar_222 : decode cX7_readsPar 222 = .ok (.goto (-30), 3) := by decide +kernel
theorem dX7_readsPar_225 : decode cX7_readsPar 225 = .ok (.return_, 1) := by decide +kernel
theorem dX7_readsLine_0 : decode cX7_readsLine 0 = .ok (.aload_n 0, 1) := by decide +kernel
theorem dX7_readsLine_1 : decode cX7_readsLine 1 = .ok (.iconst 0, 1) := by decide +kernel
theorem dX7_readsLine_2 : decode cX7_readsLine 2 = .ok (.iconst 3, 1) := by decide +kernel
theorem dX7_readsLine_3 : decode cX7_readsLine 3 = .ok (.invokevirtual 118, 3) := by decide +kernel
theorem dX7_readsLine_6 : decode cX7_readsLine 6 = .ok (.istore_n 1, 1) := by decide +kernel
theorem dX7_readsLine_7 : decode cX7_readsLine 7 = .ok (.aload_n 0, 1) := by decide +kernel
theorem dX7_readsLine_8 : decode cX7_readsLine 8 = .ok (.iload_n 1, 1) := by decide +kernel
theorem dX7_readsLine_9 : decode cX7_readsLine 9 = .ok (.bipush (-4), 2) := by decide +kernel
theorem dX7_readsLine_11 : decode cX7_readsLine 11 = .ok (.if_icmp .eq 7, 3) := by decide +kernel
theorem dX7_readsLine_14 : decode cX7_readsLine 14 = .ok (.iconst 1, 1) := by decide +kernel
theorem dX7_readsLine_15 : decode cX7_readsLine 15 = .ok (.goto 4, 3) := by decide +kernel
theorem dX7_readsLine_18 : decode cX7_readsLine 18 = .ok (.iconst 0, 1) := by decide +kernel
theorem dX7_readsLine_19 : decode cX7_readsLine 19 = .ok (.iconst 2, 1) := by decide +kernel
theorem dX7_readsLine_20 : decode cX7_readsLine 20 = .ok (.invokevirtual 111, 3) := by decide +kernel
theorem dX7_readsLine_23 : decode cX7_readsLine 23 = .ok (.aload_n 0, 1) := by decide +kernel
theorem dX7_readsLine_24 : decode cX7_readsLine 24 = .ok (.aload_n 0, 1) := by decide +kernel
theorem dX7_readsLine_25 : decode cX7_readsLine 25 = .ok (.getfield 81, 3) := by decide +kernel
theorem dX7_readsLine_28 : decode cX7_readsLine 28 = .ok (.ifCond .gt 17, 3) := by decide +kernel
theorem dX7_readsLine_31 : decode cX7_readsLine 31 = .ok (.iload_n 1, 1) := by decide +kernel
theorem dX7_readsLine_32 : decode cX7_readsLine 32 = .ok (.iconst 1, 1) := by decide +kernel
theorem dX7_readsLine_33 : decode cX7_readsLine 33 = .ok (.if_icmp .ne 12, 3) := by decide +kernel
theorem dX7_readsLine_36 : decode cX7_readsLine 36 = .ok (.aload_n 0, 1) := by decide +kernel
theorem dX7_readsLine_37 : decode cX7_readsLine 37 = .ok (.getfield 131, 3) := by decide +kernel
theorem dX7_readsLine_40 : decode cX7_readsLine 40 = .ok (.bipush 6, 2) := by decide +kernel
theorem dX7_readsLine_42 : decode cX7_readsLine 42 = .ok (.if_icmp .ge 7, 3) := by decide +kernel
theorem dX7_readsLine_45 : decode cX7_readsLine 45 = .ok (.iconst 1, 1) := by decide +kernel
theorem dX7_readsLine_46 : decode cX7_readsLine 46 = .ok (.goto 4, 3) := by decide +kernel
theorem dX7_readsLine_49 : decode cX7_readsLine 49 = .ok (.iconst 0, 1) := by decide +kernel
theorem dX7_readsLine_50 : decode cX7_readsLine 50 = .ok (.iconst 5, 1) := by decide +kernel
theorem dX7_readsLine_51 : decode cX7_readsLine 51 = .ok (.invokevirtual 111, 3) := by decide +kernel
theorem dX7_readsLine_54 : decode cX7_readsLine 54 = .ok (.aload_n 0, 1) := by decide +kernel
theorem dX7_readsLine_55 : decode cX7_readsLine 55 = .ok (.aload_n 0, 1) := by decide +kernel
theorem dX7_readsLine_56 : decode cX7_readsLine 56 = .ok (.getfield 81, 3) := by decide +kernel
theorem dX7_readsLine_59 : decode cX7_readsLine 59 = .ok (.ifCond .gt 19, 3) := by decide +kernel
theorem dX7_readsLine_62 : decode cX7_readsLine 62 = .ok (.iload_n 1, 1) := by decide +kernel
theorem dX7_readsLine_63 : decode cX7_readsLine 63 = .ok (.iconst 2, 1) := by decide +kernel
theorem dX7_readsLine_64 : decode cX7_readsLine 64 = .ok (.if_icmp .ne 14, 3) := by decide +kernel
theorem dX7_readsLine_67 : decode cX7_readsLine 67 = .ok (.aload_n 0, 1) := by decide +kernel
theorem dX7_readsLine_68 : decode cX7_readsLine 68 = .ok (.getfield 13, 3) := by decide +kernel
theorem dX7_readsLine_71 : decode cX7_readsLine 71 = .ok (.iconst 0, 1) := by decide +kernel
theorem dX7_readsLine_72 : decode cX7_readsLine 72 = .ok (.iaload, 1) := by decide +kernel
theorem dX7_readsLine_73 : decode cX7_readsLine 73 = .ok (.bipush 8, 2) := by decide +kernel
theorem dX7_readsLine_75 : decode cX7_readsLine 75 = .ok (.if_icmp .ge 7, 3) := by decide +kernel
theorem dX7_readsLine_78 : decode cX7_readsLine 78 = .ok (.iconst 1, 1) := by decide +kernel
theorem dX7_readsLine_79 : decode cX7_readsLine 79 = .ok (.goto 4, 3) := by decide +kernel
theorem dX7_readsLine_82 : decode cX7_readsLine 82 = .ok (.iconst 0, 1) := by decide +kernel
theorem dX7_readsLine_83 : decode cX7_readsLine 83 = .ok (.iconst 5, 1) := by decide +kernel
theorem dX7_readsLine_84 : decode cX7_readsLine 84 = .ok (.invokevirtual 111, 3) := by decide +kernel
theorem dX7_readsLine_87 : decode cX7_readsLine 87 = .ok (.aload_n 0, 1) := by decide +kernel
theorem dX7_readsLine_88 : decode cX7_readsLine 88 = .ok (.invokevirtual 115, 3) := by decide +kernel
theorem dX7_readsLine_91 : decode cX7_readsLine 91 = .ok (.aload_n 0, 1) := by decide +kernel
theorem dX7_readsLine_92 : decode cX7_readsLine 92 = .ok (.getfield 81, 3) := by decide +kernel
theorem dX7_readsLine_95 : decode cX7_readsLine 95 = .ok (.ifCond .le 4, 3) := by decide +kernel
theorem dX7_readsLine_98 : decode cX7_readsLine 98 = .ok (.return_, 1) := by decide +kernel
theorem dX7_readsLine_99 : decode cX7_readsLine 99 = .ok (.iload_n 1, 1) := by decide +kernel
theorem dX7_readsLine_100 : decode cX7_readsLine 100 = .ok (.ifCond .ne 10, 3) := by decide +kernel
theorem dX7_readsLine_103 : decode cX7_readsLine 103 = .ok (.aload_n 0, 1) := by decide +kernel
theorem dX7_readsLine_104 : decode cX7_readsLine 104 = .ok (.invokevirtual 156, 3) := by decide +kernel
theorem dX7_readsLine_107 : decode cX7_readsLine 107 = .ok (.goto 19, 3) := by decide +kernel
theorem dX7_readsLine_110 : decode cX7_readsLine 110 = .ok (.iload_n 1, 1) := by decide +kernel
theorem dX7_readsLine_111 : decode cX7_readsLine 111 = .ok (.iconst 1, 1) := by decide +kernel
theorem dX7_readsLine_112 : decode cX7_readsLine 112 = .ok (.if_icmp .ne 10, 3) := by decide +kernel
theorem dX7_readsLine_115 : decode cX7_readsLine 115 = .ok (.aload_n 0, 1) := by decide +kernel
theorem dX7_readsLine_116 : decode cX7_readsLine 116 = .ok (.invokevirtual 159, 3) := by decide +kernel
theorem dX7_readsLine_119 : decode cX7_readsLine 119 = .ok (.goto 7, 3) := by decide +kernel
theorem dX7_readsLine_122 : decode cX7_readsLine 122 = .ok (.aload_n 0, 1) := by decide +kernel
theorem dX7_readsLine_123 : decode cX7_readsLine 123 = .ok (.invokevirtual 162, 3) := by decide +kernel
theorem dX7_readsLine_126 : decode cX7_readsLine 126 = .ok (.aload_n 0, 1) := by decide +kernel
theorem dX7_readsLine_127 : decode cX7_readsLine 127 = .ok (.aload_n 0, 1) := by decide +kernel
theorem dX7_readsLine_128 : decode cX7_readsLine 128 = .ok (.getfield 81, 3) := by decide +kernel
theorem dX7_readsLine_131 : decode cX7_readsLine 131 = .ok (.ifCond .gt 12, 3) := by decide +kernel
theorem dX7_readsLine_134 : decode cX7_readsLine 134 = .ok (.aload_n 0, 1) := by decide +kernel
theorem dX7_readsLine_135 : decode cX7_readsLine 135 = .ok (.bipush 59, 2) := by decide +kernel
theorem dX7_readsLine_137 : decode cX7_readsLine 137 = .ok (.invokevirtual 149, 3) := by decide +kernel
theorem dX7_readsLine_140 : decode cX7_readsLine 140 = .ok (.ifCond .eq 7, 3) := by decide +kernel
theorem dX7_readsLine_143 : decode cX7_readsLine 143 = .ok (.iconst 1, 1) := by decide +kernel
theorem dX7_readsLine_144 : decode cX7_readsLine 144 = .ok (.goto 4, 3) := by decide +kernel
theorem dX7_readsLine_147 : decode cX7_readsLine 147 = .ok (.iconst 0, 1) := by decide +kernel
theorem dX7_readsLine_148 : decode cX7_readsLine 148 = .ok (.iconst 2, 1) := by decide +kernel
theorem dX7_readsLine_149 : decode cX7_readsLine 149 = .ok (.invokevirtual 111, 3) := by decide +kernel
theorem dX7_readsLine_152 : decode cX7_readsLine 152 = .ok (.aload_n 0, 1) := by decide +kernel
theorem dX7_readsLine_153 : decode cX7_readsLine 153 = .ok (.invokevirtual 115, 3) := by decide +kernel
theorem dX7_readsLine_156 : decode cX7_readsLine 156 = .ok (.return_, 1) := by decide +kernel
theorem dX7_text_0 : decode cX7_text 0 = .ok (.aload_n 0, 1) := by decide +kernel
theorem dX7_text_1 : decode cX7_text 1 = .ok (.iconst 0, 1) := by decide +kernel
theorem dX7_text_2 : decode cX7_text 2 = .ok (.putfield 81, 3) := by decide +kernel
theorem dX7_text_5 : decode cX7_text 5 = .ok (.aload_n 0, 1) := by decide +kernel
theorem dX7_text_6 : decode cX7_text 6 = .ok (.iconst 0, 1) := by decide +kernel
theorem dX7_text_7 : decode cX7_text 7 = .ok (.putfield 90, 3) := by decide +kernel
theorem dX7_text_10 : decode cX7_text 10 = .ok (.aload_n 0, 1) := by decide +kernel
theorem dX7_text_11 : decode cX7_text 11 = .ok (.iconst 0, 1) := by decide +kernel
theorem dX7_text_12 : decode cX7_text 12 = .ok (.putfield 131, 3) := by decide +kernel
theorem dX7_text_15 : decode cX7_text 15 = .ok (.iconst 0, 1) := by decide +kernel
theorem dX7_text_16 : decode cX7_text 16 = .ok (.istore_n 1, 1) := by decide +kernel
theorem dX7_text_17 : decode cX7_text 17 = .ok (.iload_n 1, 1) := by decide +kernel
theorem dX7_text_18 : decode cX7_text 18 = .ok (.sipush 591, 3) := by decide +kernel
theorem dX7_text_21 : decode cX7_text 21 = .ok (.if_icmp .ge 32, 3) := by decide +kernel
theorem dX7_text_24 : decode cX7_text 24 = .ok (.aload_n 0, 1) := by decide +kernel
theorem dX7_text_25 : decode cX7_text 25 = .ok (.getfield 13, 3) := by decide +kernel
theorem dX7_text_28 : decode cX7_text 28 = .ok (.iload_n 1, 1) := by decide +kernel
theorem dX7_text_29 : decode cX7_text 29 = .ok (.iload_n 1, 1) := by decide +kernel
theorem dX7_text_30 : decode cX7_text 30 = .ok (.sipush 585, 3) := by decide +kernel
theorem dX7_text_33 : decode cX7_text 33 = .ok (.if_icmp .ge 7, 3) := by decide +kernel
theorem dX7_text_36 : decode cX7_text 36 = .ok (.iconst 0, 1) := by decide +kernel
theorem dX7_text_37 : decode cX7_text 37 = .ok (.goto 9, 3) := by decide +kernel
theorem dX7_text_40 : decode cX7_text 40 = .ok (.aload_n 0, 1) := by decide +kernel
theorem dX7_text_41 : decode cX7_text 41 = .ok (.getfield 7, 3) := by decide +kernel
theorem dX7_text_44 : decode cX7_text 44 = .ok (.iload_n 1, 1) := by decide +kernel
theorem dX7_text_45 : decode cX7_text 45 = .ok (.iaload, 1) := by decide +kernel
theorem dX7_text_46 : decode cX7_text 46 = .ok (.iastore, 1) := by decide +kernel
theorem dX7_text_47 : decode cX7_text 47 = .ok (.iinc 1 1, 3) := by decide +kernel
theorem dX7_text_50 : decode cX7_text 50 = .ok (.goto (-33), 3) := by decide +kernel
theorem dX7_text_53 : decode cX7_text 53 = .ok (.iconst 0, 1) := by decide +kernel
theorem dX7_text_54 : decode cX7_text 54 = .ok (.istore_n 1, 1) := by decide +kernel
theorem dX7_text_55 : decode cX7_text 55 = .ok (.iload_n 1, 1) := by decide +kernel
theorem dX7_text_56 : decode cX7_text 56 = .ok (.bipush 6, 2) := by decide +kernel
theorem dX7_text_58 : decode cX7_text 58 = .ok (.if_icmp .ge 16, 3) := by decide +kernel
theorem dX7_text_61 : decode cX7_text 61 = .ok (.aload_n 0, 1) := by decide +kernel
theorem dX7_text_62 : decode cX7_text 62 = .ok (.getfield 38, 3) := by decide +kernel
theorem dX7_text_65 : decode cX7_text 65 = .ok (.iload_n 1, 1) := by decide +kernel
theorem dX7_text_66 : decode cX7_text 66 = .ok (.iconst 0, 1) := by decide +kernel
theorem dX7_text_67 : decode cX7_text 67 = .ok (.bastore, 1) := by decide +kernel
theorem dX7_text_68 : decode cX7_text 68 = .ok (.iinc 1 1, 3) := by decide +kernel
theorem dX7_text_71 : decode cX7_text 71 = .ok (.goto (-16), 3) := by decide +kernel
theorem dX7_text_74 : decode cX7_text 74 = .ok (.iconst 0, 1) := by decide +kernel
theorem dX7_text_75 : decode cX7_text 75 = .ok (.istore_n 1, 1) := by decide +kernel
theorem dX7_text_76 : decode cX7_text 76 = .ok (.aload_n 0, 1) := by decide +kernel
theorem dX7_text_77 : decode cX7_text 77 = .ok (.invokevirtual 115, 3) := by decide +kernel
theorem dX7_text_80 : decode cX7_text 80 = .ok (.aload_n 0, 1) := by decide +kernel
theorem dX7_text_81 : decode cX7_text 81 = .ok (.getfield 81, 3) := by decide +kernel
theorem dX7_text_84 : decode cX7_text 84 = .ok (.ifCond .ne 20, 3) := by decide +kernel
theorem dX7_text_87 : decode cX7_text 87 = .ok (.aload_n 0, 1) := by decide +kernel
theorem dX7_text_88 : decode cX7_text 88 = .ok (.getfield 100, 3) := by decide +kernel
theorem dX7_text_91 : decode cX7_text 91 = .ok (.ifCond .eq 13, 3) := by decide +kernel
theorem dX7_text_94 : decode cX7_text 94 = .ok (.aload_n 0, 1) := by decide +kernel
theorem dX7_text_95 : decode cX7_text 95 = .ok (.invokevirtual 165, 3) := by decide +kernel
theorem dX7_text_98 : decode cX7_text 98 = .ok (.iinc 1 1, 3) := by decide +kernel
theorem dX7_text_101 : decode cX7_text 101 = .ok (.goto (-21), 3) := by decide +kernel
theorem dX7_text_104 : decode cX7_text 104 = .ok (.aload_n 0, 1) := by decide +kernel
theorem dX7_text_105 : decode cX7_text 105 = .ok (.iconst 0, 1) := by decide +kernel
theorem dX7_text_106 : decode cX7_text 106 = .ok (.putfield 77, 3) := by decide +kernel
theorem dX7_text_109 : decode cX7_text 109 = .ok (.aload_n 0, 1) := by decide +kernel
theorem dX7_text_110 : decode cX7_text 110 = .ok (.getfield 81, 3) := by decide +kernel
theorem dX7_text_113 : decode cX7_text 113 = .ok (.ifCond .le 11, 3) := by decide +kernel
theorem dX7_text_116 : decode cX7_text 116 = .ok (.bipush (-10), 2) := by decide +kernel
theorem dX7_text_118 : decode cX7_text 118 = .ok (.aload_n 0, 1) := by decide +kernel
theorem dX7_text_119 : decode cX7_text 119 = .ok (.getfield 87, 3) := by decide +kernel
theorem dX7_text_122 : decode cX7_text 122 = .ok (.isub, 1) := by decide +kernel
theorem dX7_text_123 : decode cX7_text 123 = .ok (.ireturn, 1) := by decide +kernel
theorem dX7_text_124 : decode cX7_text 124 = .ok (.iconst 0, 1) := by decide +kernel
theorem dX7_text_125 : decode cX7_text 125 = .ok (.istore_n 2, 1) := by decide +kernel
theorem dX7_text_126 : decode cX7_text 126 = .ok (.iload_n 2, 1) := by decide +kernel
theorem dX7_text_127 : decode cX7_text 127 = .ok (.sipush 591, 3) := by decide +kernel
theorem dX7_text_130 : decode cX7_text 130 = .ok (.if_icmp .ge 21, 3) := by decide +kernel
theorem dX7_text_133 : decode cX7_text 133 = .ok (.aload_n 0, 1) := by decide +kernel
theorem dX7_text_134 : decode cX7_text 134 = .ok (.getfield 7, 3) := by decide +kernel
theorem dX7_text_137 : decode cX7_text 137 = .ok (.iload_n 2, 1) := by decide +kernel
theorem dX7_text_138 : decode cX7_text 138 = .ok (.aload_n 0, 1) := by decide +kernel
theorem dX7_text_139 : decode cX7_text 139 = .ok (.getfield 13, 3) := by decide +kernel
theorem dX7_text_142 : decode cX7_text 142 = .ok (.iload_n 2, 1) := by decide +kernel
theorem dX7_text_143 : decode cX7_text 143 = .ok (.iaload, 1) := by decide +kernel
theorem dX7_text_144 : decode cX7_text 144 = .ok (.iastore, 1) := by decide +kernel
theorem dX7_text_145 : decode cX7_text 145 = .ok (.iinc 2 1, 3) := by decide +kernel
theorem dX7_text_148 : decode cX7_text 148 = .ok (.goto (-22), 3) := by decide +kernel
theorem dX7_text_151 : decode cX7_text 151 = .ok (.iconst 0, 1) := by decide +kernel
theorem dX7_text_152 : decode cX7_text 152 = .ok (.istore_n 2, 1) := by decide +kernel
theorem dX7_text_153 : decode cX7_text 153 = .ok (.iload_n 2, 1) := by decide +kernel
theorem dX7_text_154 : decode cX7_text 154 = .ok (.bipush 19, 2) := by decide +kernel
theorem dX7_text_156 : decode cX7_text 156 = .ok (.aload_n 0, 1) := by decide +kernel
theorem dX7_text_157 : decode cX7_text 157 = .ok (.getfield 131, 3) := by decide +kernel
theorem dX7_text_160 : decode cX7_text 160 = .ok (.imul, 1) := by decide +kernel
theorem dX7_text_161 : decode cX7_text 161 = .ok (.if_icmp .ge 21, 3) := by decide +kernel
theorem dX7_text_164 : decode cX7_text 164 = .ok (.aload_n 0, 1) := by decide +kernel
theorem dX7_text_165 : decode cX7_text 165 = .ok (.getfield 16, 3) := by decide +kernel
theorem dX7_text_168 : decode cX7_text 168 = .ok (.iload_n 2, 1) := by decide +kernel
theorem dX7_text_169 : decode cX7_text 169 = .ok (.aload_n 0, 1) := by decide +kernel
theorem dX7_text_170 : decode cX7_text 170 = .ok (.getfield 19, 3) := by decide +kernel
theorem dX7_text_173 : decode cX7_text 173 = .ok (.iload_n 2, 1) := by decide +kernel
theorem dX7_text_174 : decode cX7_text 174 = .ok (.iaload, 1) := by decide +kernel
theorem dX7_text_175 : decode cX7_text 175 = .ok (.iastore, 1) := by decide +kernel
theorem dX7_text_176 : decode cX7_text 176 = .ok (.iinc 2 1, 3) := by decide +kernel
theorem dX7_text_179 : decode cX7_text 179 = .ok (.goto (-26), 3) := by decide +kernel
theorem dX7_text_182 : decode cX7_text 182 = .ok (.aload_n 0, 1) := by decide +kernel
theorem dX7_text_183 : decode cX7_text 183 = .ok (.aload_n 0, 1) := by decide +kernel
theorem dX7_text_184 : decode cX7_text 184 = .ok (.getfield 131, 3) := by decide +kernel
theorem dX7_text_187 : decode cX7_text 187 = .ok (.putfield 168, 3) := by decide +kernel
theorem dX7_text_190 : decode cX7_text 190 = .ok (.aload_n 0, 1) := by decide +kernel
theorem dX7_text_191 : decode cX7_text 191 = .ok (.getfield 25, 3) := by decide +kernel
theorem dX7_text_194 : decode cX7_text 194 = .ok (.iconst 0, 1) := by decide +kernel
theorem dX7_text_195 : decode cX7_text 195 = .ok (.iconst 0, 1) := by decide +kernel
theorem dX7_text_196 : decode cX7_text 196 = .ok (.bastore, 1) := by decide +kernel
theorem dX7_text_197 : decode cX7_text 197 = .ok (.aload_n 0, 1) := by decide +kernel
theorem dX7_text_198 : decode cX7_text 198 = .ok (.getfield 25, 3) := by decide +kernel
theorem dX7_text_201 : decode cX7_text 201 = .ok (.iconst 1, 1) := by decide +kernel
theorem dX7_text_202 : decode cX7_text 202 = .ok (.iconst 0, 1) := by decide +kernel
theorem dX7_text_203 : decode cX7_text 203 = .ok (.bastore, 1) := by decide +kernel
theorem dX7_text_204 : decode cX7_text 204 = .ok (.iload_n 1, 1) := by decide +kernel
theorem dX7_text_205 : decode cX7_text 205 = .ok (.ireturn, 1) := by decide +kernel
theorem dX7_fault_0 : decode cX7_fault 0 = .ok (.aload_n 0, 1) := by decide +kernel
theorem dX7_fault_1 : decode cX7_fault 1 = .ok (.getfield 81, 3) := by decide +kernel
theorem dX7_fault_4 : decode cX7_fault 4 = .ok (.ireturn, 1) := by decide +kernel
theorem dX7_parShape_0 : decode cX7_parShape 0 = .ok (.aload_n 0, 1) := by decide +kernel
theorem dX7_parShape_1 : decode cX7_parShape 1 = .ok (.getfield 7, 3) := by decide +kernel
theorem dX7_parShape_4 : decode cX7_parShape 4 = .ok (.iconst 1, 1) := by decide +kernel
theorem dX7_parShape_5 : decode cX7_parShape 5 = .ok (.iconst 3, 1) := by decide +kernel
theorem dX7_parShape_6 : decode cX7_parShape 6 = .ok (.iload_n 1, 1) := by decide +kernel
theorem dX7_parShape_7 : decode cX7_parShape 7 = .ok (.imul, 1) := by decide +kernel
theorem dX7_parShape_8 : decode cX7_parShape 8 = .ok (.iadd, 1) := by decide +kernel
theorem dX7_parShape_9 : decode cX7_parShape 9 = .ok (.iaload, 1) := by decide +kernel
theorem dX7_parShape_10 : decode cX7_parShape 10 = .ok (.ireturn, 1) := by decide +kernel
theorem dX7_parDrop_0 : decode cX7_parDrop 0 = .ok (.aload_n 0, 1) := by decide +kernel
theorem dX7_parDrop_1 : decode cX7_parDrop 1 = .ok (.getfield 7, 3) := by decide +kernel
theorem dX7_parDrop_4 : decode cX7_parDrop 4 = .ok (.iconst 1, 1) := by decide +kernel
theorem dX7_parDrop_5 : decode cX7_parDrop 5 = .ok (.iconst 3, 1) := by decide +kernel
theorem dX7_parDrop_6 : decode cX7_parDrop 6 = .ok (.iload_n 1, 1) := by decide +kernel
theorem dX7_parDrop_7 : decode cX7_parDrop 7 = .ok (.imul, 1) := by decide +kernel
theorem dX7_parDrop_8 : decode cX7_parDrop 8 = .ok (.iadd, 1) := by decide +kernel
theorem dX7_parDrop_9 : decode cX7_parDrop 9 = .ok (.iconst 1, 1) := by decide +kernel
theorem dX7_parDrop_10 : decode cX7_parDrop 10 = .ok (.iadd, 1) := by decide +kernel
theorem dX7_parDrop_11 : decode cX7_parDrop 11 = .ok (.iaload, 1) := by decide +kernel
theorem dX7_parDrop_12 : decode cX7_parDrop 12 = .ok (.ireturn, 1) := by decide +kernel
theorem dX7_parWords_0 : decode cX7_parWords 0 = .ok (.aload_n 0, 1) := by decide +kernel
theorem dX7_parWords_1 : decode cX7_parWords 1 = .ok (.getfield 7, 3) := by decide +kernel
theorem dX7_parWords_4 : decode cX7_parWords 4 = .ok (.iconst 1, 1) := by decide +kernel
theorem dX7_parWords_5 : decode cX7_parWords 5 = .ok (.iconst 3, 1) := by decide +kernel
theorem dX7_parWords_6 : decode cX7_parWords 6 = .ok (.iload_n 1, 1) := by decide +kernel
theorem dX7_parWords_7 : decode cX7_parWords 7 = .ok (.imul, 1) := by decide +kernel
theorem dX7_parWords_8 : decode cX7_parWords 8 = .ok (.iadd, 1) := by decide +kernel
theorem dX7_parWords_9 : decode cX7_parWords 9 = .ok (.iconst 2, 1) := by decide +kernel
theorem dX7_parWords_10 : decode cX7_parWords 10 = .ok (.iadd, 1) := by decide +kernel
theorem dX7_parWords_11 : decode cX7_parWords 11 = .ok (.iaload, 1) := by decide +kernel
theorem dX7_parWords_12 : decode cX7_parWords 12 = .ok (.ireturn, 1) := by decide +kernel
theorem dX7_firstWord_0 : decode cX7_firstWord 0 = .ok (.iconst 0, 1) := by decide +kernel
theorem dX7_firstWord_1 : decode cX7_firstWord 1 = .ok (.istore_n 2, 1) := by decide +kernel
theorem dX7_firstWord_2 : decode cX7_firstWord 2 = .ok (.iconst 0, 1) := by decide +kernel
theorem dX7_firstWord_3 : decode cX7_firstWord 3 = .ok (.istore_n 3, 1) := by decide +kernel
theorem dX7_firstWord_4 : decode cX7_firstWord 4 = .ok (.iload_n 3, 1) := by decide +kernel
theorem dX7_firstWord_5 : decode cX7_firstWord 5 = .ok (.iload_n 1, 1) := by decide +kernel
theorem dX7_firstWord_6 : decode cX7_firstWord 6 = .ok (.if_icmp .ge 17, 3) := by decide +kernel
theorem dX7_firstWord_9 : decode cX7_firstWord 9 = .ok (.iload_n 2, 1) := by decide +kernel
theorem dX7_firstWord_10 : decode cX7_firstWord 10 = .ok (.aload_n 0, 1) := by decide +kernel
theorem dX7_firstWord_11 : decode cX7_firstWord 11 = .ok (.iload_n 3, 1) := by decide +kernel
theorem dX7_firstWord_12 : decode cX7_firstWord 12 = .ok (.invokevirtual 171, 3) := by decide +kernel
theorem dX7_firstWord_15 : decode cX7_firstWord 15 = .ok (.iadd, 1) := by decide +kernel
theorem dX7_firstWord_16 : decode cX7_firstWord 16 = .ok (.istore_n 2, 1) := by decide +kernel
theorem dX7_firstWord_17 : decode cX7_firstWord 17 = .ok (.iinc 3 1, 3) := by decide +kernel
theorem dX7_firstWord_20 : decode cX7_firstWord 20 = .ok (.goto (-16), 3) := by decide +kernel
theorem dX7_firstWord_23 : decode cX7_firstWord 23 = .ok (.iload_n 2, 1) := by decide +kernel
theorem dX7_firstWord_24 : decode cX7_firstWord 24 = .ok (.ireturn, 1) := by decide +kernel
theorem dX7_heightOf_0 : decode cX7_heightOf 0 = .ok (.aload_n 0, 1) := by decide +kernel
theorem dX7_heightOf_1 : decode cX7_heightOf 1 = .ok (.iload_n 1, 1) := by decide +kernel
theorem dX7_heightOf_2 : decode cX7_heightOf 2 = .ok (.invokevirtual 174, 3) := by decide +kernel
theorem dX7_heightOf_5 : decode cX7_heightOf 5 = .ok (.bipush (-4), 2) := by decide +kernel
theorem dX7_heightOf_7 : decode cX7_heightOf 7 = .ok (.if_icmp .ne 7, 3) := by decide +kernel
theorem dX7_heightOf_10 : decode cX7_heightOf 10 = .ok (.iconst 0, 1) := by decide +kernel
theorem dX7_heightOf_11 : decode cX7_heightOf 11 = .ok (.goto 28, 3) := by decide +kernel
theorem dX7_heightOf_14 : decode cX7_heightOf 14 = .ok (.aload_n 0, 1) := by decide +kernel
theorem dX7_heightOf_15 : decode cX7_heightOf 15 = .ok (.iload_n 1, 1) := by decide +kernel
theorem dX7_heightOf_16 : decode cX7_heightOf 16 = .ok (.invokevirtual 177, 3) := by decide +kernel
theorem dX7_heightOf_19 : decode cX7_heightOf 19 = .ok (.iconst 1, 1) := by decide +kernel
theorem dX7_heightOf_20 : decode cX7_heightOf 20 = .ok (.isub, 1) := by decide +kernel
theorem dX7_heightOf_21 : decode cX7_heightOf 21 = .ok (.aload_n 0, 1) := by decide +kernel
theorem dX7_heightOf_22 : decode cX7_heightOf 22 = .ok (.getfield 7, 3) := by decide +kernel
theorem dX7_heightOf_25 : decode cX7_heightOf 25 = .ok (.sipush 586, 3) := by decide +kernel
theorem dX7_heightOf_28 : decode cX7_heightOf 28 = .ok (.iaload, 1) := by decide +kernel
theorem dX7_heightOf_29 : decode cX7_heightOf 29 = .ok (.imul, 1) := by decide +kernel
theorem dX7_heightOf_30 : decode cX7_heightOf 30 = .ok (.aload_n 0, 1) := by decide +kernel
theorem dX7_heightOf_31 : decode cX7_heightOf 31 = .ok (.getfield 7, 3) := by decide +kernel
theorem dX7_heightOf_34 : decode cX7_heightOf 34 = .ok (.sipush 587, 3) := by decide +kernel
theorem dX7_heightOf_37 : decode cX7_heightOf 37 = .ok (.iaload, 1) := by decide +kernel
theorem dX7_heightOf_38 : decode cX7_heightOf 38 = .ok (.iadd, 1) := by decide +kernel
theorem dX7_heightOf_39 : decode cX7_heightOf 39 = .ok (.ireturn, 1) := by decide +kernel
theorem dX7_ofShape_0 : decode cX7_ofShape 0 = .ok (.aload_n 0, 1) := by decide +kernel
theorem dX7_ofShape_1 : decode cX7_ofShape 1 = .ok (.getfield 16, 3) := by decide +kernel
theorem dX7_ofShape_4 : decode cX7_ofShape 4 = .ok (.bipush 19, 2) := by decide +kernel
theorem dX7_ofShape_6 : decode cX7_ofShape 6 = .ok (.aload_n 0, 1) := by decide +kernel
theorem dX7_ofShape_7 : decode cX7_ofShape 7 = .ok (.iload_n 1, 1) := by decide +kernel
theorem dX7_ofShape_8 : decode cX7_ofShape 8 = .ok (.invokevirtual 174, 3) := by decide +kernel
theorem dX7_ofShape_11 : decode cX7_ofShape 11 = .ok (.imul, 1) := by decide +kernel
theorem dX7_ofShape_12 : decode cX7_ofShape 12 = .ok (.iload_n 2, 1) := by decide +kernel
theorem dX7_ofShape_13 : decode cX7_ofShape 13 = .ok (.iadd, 1) := by decide +kernel
theorem dX7_ofShape_14 : decode cX7_ofShape 14 = .ok (.iaload, 1) := by decide +kernel
theorem dX7_ofShape_15 : decode cX7_ofShape 15 = .ok (.ireturn, 1) := by decide +kernel
theorem dX7_drawnBegin_0 : decode cX7_drawnBegin 0 = .ok (.iload_n 2, 1) := by decide +kernel
theorem dX7_drawnBegin_1 : decode cX7_drawnBegin 1 = .ok (.aload_n 0, 1) := by decide +kernel
theorem dX7_drawnBegin_2 : decode cX7_drawnBegin 2 = .ok (.iload_n 1, 1) := by decide +kernel
theorem dX7_drawnBegin_3 : decode cX7_drawnBegin 3 = .ok (.iconst 2, 1) := by decide +kernel
theorem dX7_drawnBegin_4 : decode cX7_drawnBegin 4 = .ok (.invokevirtual 180, 3) := by decide +kernel
theorem dX7_drawnBegin_7 : decode cX7_drawnBegin 7 = .ok (.if_icmp .ne 11, 3) := by decide +kernel
theorem dX7_drawnBegin_10 : decode cX7_drawnBegin 10 = .ok (.aload_n 0, 1) := by decide +kernel
theorem dX7_drawnBegin_11 : decode cX7_drawnBegin 11 = .ok (.iload_n 1, 1) := by decide +kernel
theorem dX7_drawnBegin_12 : decode cX7_drawnBegin 12 = .ok (.invokevirtual 183, 3) := by decide +kernel
theorem dX7_drawnBegin_15 : decode cX7_drawnBegin 15 = .ok (.goto 24, 3) := by decide +kernel
theorem dX7_drawnBegin_18 : decode cX7_drawnBegin 18 = .ok (.aload_n 0, 1) := by decide +kernel
theorem dX7_drawnBegin_19 : decode cX7_drawnBegin 19 = .ok (.iload_n 1, 1) := by decide +kernel
theorem dX7_drawnBegin_20 : decode cX7_drawnBegin 20 = .ok (.iconst 3, 1) := by decide +kernel
theorem dX7_drawnBegin_21 : decode cX7_drawnBegin 21 = .ok (.iload_n 2, 1) := by decide +kernel
theorem dX7_drawnBegin_22 : decode cX7_drawnBegin 22 = .ok (.iadd, 1) := by decide +kernel
theorem dX7_drawnBegin_23 : decode cX7_drawnBegin 23 = .ok (.invokevirtual 180, 3) := by decide +kernel
theorem dX7_drawnBegin_26 : decode cX7_drawnBegin 26 = .ok (.aload_n 0, 1) := by decide +kernel
theorem dX7_drawnBegin_27 : decode cX7_drawnBegin 27 = .ok (.iload_n 1, 1) := by decide +kernel
theorem dX7_drawnBegin_28 : decode cX7_drawnBegin 28 = .ok (.invokevirtual 183, 3) := by decide +kernel
theorem dX7_drawnBegin_31 : decode cX7_drawnBegin 31 = .ok (.imul, 1) := by decide +kernel
theorem dX7_drawnBegin_32 : decode cX7_drawnBegin 32 = .ok (.aload_n 0, 1) := by decide +kernel
theorem dX7_drawnBegin_33 : decode cX7_drawnBegin 33 = .ok (.iload_n 1, 1) := by decide +kernel
theorem dX7_drawnBegin_34 : decode cX7_drawnBegin 34 = .ok (.iconst 1, 1) := by decide +kernel
theorem dX7_drawnBegin_35 : decode cX7_drawnBegin 35 = .ok (.invokevirtual 180, 3) := by decide +kernel
theorem dX7_drawnBegin_38 : decode cX7_drawnBegin 38 = .ok (.idiv, 1) := by decide +kernel
theorem dX7_drawnBegin_39 : decode cX7_drawnBegin 39 = .ok (.ireturn, 1) := by decide +kernel
theorem dX7_drawnExtent_0 : decode cX7_drawnExtent 0 = .ok (.aload_n 0, 1) := by decide +kernel
theorem dX7_drawnExtent_1 : decode cX7_drawnExtent 1 = .ok (.iload_n 1, 1) := by decide +kernel
theorem dX7_drawnExtent_2 : decode cX7_drawnExtent 2 = .ok (.bipush 11, 2) := by decide +kernel
theorem dX7_drawnExtent_4 : decode cX7_drawnExtent 4 = .ok (.iload_n 2, 1) := by decide +kernel
theorem dX7_drawnExtent_5 : decode cX7_drawnExtent 5 = .ok (.iadd, 1) := by decide +kernel
theorem dX7_drawnExtent_6 : decode cX7_drawnExtent 6 = .ok (.invokevirtual 180, 3) := by decide +kernel
theorem dX7_drawnExtent_9 : decode cX7_drawnExtent 9 = .ok (.aload_n 0, 1) := by decide +kernel
theorem dX7_drawnExtent_10 : decode cX7_drawnExtent 10 = .ok (.iload_n 1, 1) := by decide +kernel
theorem dX7_drawnExtent_11 : decode cX7_drawnExtent 11 = .ok (.invokevirtual 183, 3) := by decide +kernel
theorem dX7_drawnExtent_14 : decode cX7_drawnExtent 14 = .ok (.imul, 1) := by decide +kernel
theorem dX7_drawnExtent_15 : decode cX7_drawnExtent 15 = .ok (.aload_n 0, 1) := by decide +kernel
theorem dX7_drawnExtent_16 : decode cX7_drawnExtent 16 = .ok (.iload_n 1, 1) := by decide +kernel
theorem dX7_drawnExtent_17 : decode cX7_drawnExtent 17 = .ok (.iconst 1, 1) := by decide +kernel
theorem dX7_drawnExtent_18 : decode cX7_drawnExtent 18 = .ok (.invokevirtual 180, 3) := by decide +kernel
theorem dX7_drawnExtent_21 : decode cX7_drawnExtent 21 = .ok (.iadd, 1) := by decide +kernel
theorem dX7_drawnExtent_22 : decode cX7_drawnExtent 22 = .ok (.iconst 1, 1) := by decide +kernel
theorem dX7_drawnExtent_23 : decode cX7_drawnExtent 23 = .ok (.isub, 1) := by decide +kernel
theorem dX7_drawnExtent_24 : decode cX7_drawnExtent 24 = .ok (.aload_n 0, 1) := by decide +kernel
theorem dX7_drawnExtent_25 : decode cX7_drawnExtent 25 = .ok (.iload_n 1, 1) := by decide +kernel
theorem dX7_drawnExtent_26 : decode cX7_drawnExtent 26 = .ok (.iconst 1, 1) := by decide +kernel
theorem dX7_drawnExtent_27 : decode cX7_drawnExtent 27 = .ok (.invokevirtual 180, 3) := by decide +kernel
theorem dX7_drawnExtent_30 : decode cX7_drawnExtent 30 = .ok (.idiv, 1) := by decide +kernel
theorem dX7_drawnExtent_31 : decode cX7_drawnExtent 31 = .ok (.ireturn, 1) := by decide +kernel
theorem dX7_reachOf_0 : decode cX7_reachOf 0 = .ok (.aload_n 0, 1) := by decide +kernel
theorem dX7_reachOf_1 : decode cX7_reachOf 1 = .ok (.iload_n 1, 1) := by decide +kernel
theorem dX7_reachOf_2 : decode cX7_reachOf 2 = .ok (.invokevirtual 174, 3) := by decide +kernel
theorem dX7_reachOf_5 : decode cX7_reachOf 5 = .ok (.bipush (-4), 2) := by decide +kernel
theorem dX7_reachOf_7 : decode cX7_reachOf 7 = .ok (.if_icmp .eq 7, 3) := by decide +kernel
theorem dX7_reachOf_10 : decode cX7_reachOf 10 = .ok (.iload_n 2, 1) := by decide +kernel
theorem dX7_reachOf_11 : decode cX7_reachOf 11 = .ok (.ifCond .ge 5, 3) := by decide +kernel
theorem dX7_reachOf_14 : decode cX7_reachOf 14 = .ok (.iconst 0, 1) := by decide +kernel
theorem dX7_reachOf_15 : decode cX7_reachOf 15 = .ok (.ireturn, 1) := by decide +kernel
theorem dX7_reachOf_16 : decode cX7_reachOf 16 = .ok (.iload_n 2, 1) := by decide +kernel
theorem dX7_reachOf_17 : decode cX7_reachOf 17 = .ok (.i2l, 1) := by decide +kernel
theorem dX7_reachOf_18 : decode cX7_reachOf 18 = .ok (.aload_n 0, 1) := by decide +kernel
theorem dX7_reachOf_19 : decode cX7_reachOf 19 = .ok (.getfield 7, 3) := by decide +kernel
theorem dX7_reachOf_22 : decode cX7_reachOf 22 = .ok (.sipush 586, 3) := by decide +kernel
theorem dX7_reachOf_25 : decode cX7_reachOf 25 = .ok (.iaload, 1) := by decide +kernel
theorem dX7_reachOf_26 : decode cX7_reachOf 26 = .ok (.i2l, 1) := by decide +kernel
theorem dX7_reachOf_27 : decode cX7_reachOf 27 = .ok (.lmul, 1) := by decide +kernel
theorem dX7_reachOf_28 : decode cX7_reachOf 28 = .ok (.lstore_n 3, 1) := by decide +kernel
theorem dX7_reachOf_29 : decode cX7_reachOf 29 = .ok (.bipush (-4), 2) := by decide +kernel
theorem dX7_reachOf_31 : decode cX7_reachOf 31 = .ok (.istore 5, 2) := by decide +kernel
theorem dX7_reachOf_33 : decode cX7_reachOf 33 = .ok (.iconst 0, 1) := by decide +kernel
theorem dX7_reachOf_34 : decode cX7_reachOf 34 = .ok (.istore 6, 2) := by decide +kernel
theorem dX7_reachOf_36 : decode cX7_reachOf 36 = .ok (.iload 6, 2) := by decide +kernel
theorem dX7_reachOf_38 : decode cX7_reachOf 38 = .ok (.aload_n 0, 1) := by decide +kernel
theorem dX7_reachOf_39 : decode cX7_reachOf 39 = .ok (.iload_n 1, 1) := by decide +kernel
theorem dX7_reachOf_40 : decode cX7_reachOf 40 = .ok (.iconst 2, 1) := by decide +kernel
theorem dX7_reachOf_41 : decode cX7_reachOf 41 = .ok (.invokevirtual 180, 3) := by decide +kernel
theorem dX7_reachOf_44 : decode cX7_reachOf 44 = .ok (.if_icmp .ge 83, 3) := by decide +kernel
theorem dX7_reachOf_47 : decode cX7_reachOf 47 = .ok (.aload_n 0, 1) := by decide +kernel
theorem dX7_reachOf_48 : decode cX7_reachOf 48 = .ok (.iload_n 1, 1) := by decide +kernel
theorem dX7_reachOf_49 : decode cX7_reachOf 49 = .ok (.iload 6, 2) := by decide +kernel
theorem dX7_reachOf_51 : decode cX7_reachOf 51 = .ok (.invokevirtual 186, 3) := by decide +kernel
theorem dX7_reachOf_54 : decode cX7_reachOf 54 = .ok (.istore 7, 2) := by decide +kernel
theorem dX7_reachOf_56 : decode cX7_reachOf 56 = .ok (.aload_n 0, 1) := by decide +kernel
theorem dX7_reachOf_57 : decode cX7_reachOf 57 = .ok (.iload_n 1, 1) := by decide +kernel
theorem dX7_reachOf_58 : decode cX7_reachOf 58 = .ok (.iload 6, 2) := by decide +kernel
theorem dX7_reachOf_60 : decode cX7_reachOf 60 = .ok (.iconst 1, 1) := by decide +kernel
theorem dX7_reachOf_61 : decode cX7_reachOf 61 = .ok (.iadd, 1) := by decide +kernel
theorem dX7_reachOf_62 : decode cX7_reachOf 62 = .ok (.invokevirtual 186, 3) := by decide +kernel
theorem dX7_reachOf_65 : decode cX7_reachOf 65 = .ok (.istore 8, 2) := by decide +kernel
theorem dX7_reachOf_67 : decode cX7_reachOf 67 = .ok (.iload 7, 2) := by decide +kernel
theorem dX7_reachOf_69 : decode cX7_reachOf 69 = .ok (.iload 8, 2) := by decide +kernel
theorem dX7_reachOf_71 : decode cX7_reachOf 71 = .ok (.if_icmp .ge 50, 3) := by decide +kernel
theorem dX7_reachOf_74 : decode cX7_reachOf 74 = .ok (.iload 7, 2) := by decide +kernel
theorem dX7_reachOf_76 : decode cX7_reachOf 76 = .ok (.i2l, 1) := by decide +kernel
theorem dX7_reachOf_77 : decode cX7_reachOf 77 = .ok (.lload_n 3, 1) := by decide +kernel
theorem dX7_reachOf_78 : decode cX7_reachOf 78 = .ok (.aload_n 0, 1) := by decide +kernel
theorem dX7_reachOf_79 : decode cX7_reachOf 79 = .ok (.getfield 7, 3) := by decide +kernel
theorem dX7_reachOf_82 : decode cX7_reachOf 82 = .ok (.sipush 586, 3) := by decide +kernel
theorem dX7_reachOf_85 : decode cX7_reachOf 85 = .ok (.iaload, 1) := by decide +kernel
theorem dX7_reachOf_86 : decode cX7_reachOf 86 = .ok (.i2l, 1) := by decide +kernel
theorem dX7_reachOf_87 : decode cX7_reachOf 87 = .ok (.ladd, 1) := by decide +kernel
theorem dX7_reachOf_88 : decode cX7_reachOf 88 = .ok (.lcmp, 1) := by decide +kernel
theorem dX7_reachOf_89 : decode cX7_reachOf 89 = .ok (.ifCond .ge 32, 3) := by decide +kernel
theorem dX7_reachOf_92 : decode cX7_reachOf 92 = .ok (.iload 8, 2) := by decide +kernel
theorem dX7_reachOf_94 : decode cX7_reachOf 94 = .ok (.i2l, 1) := by decide +kernel
theorem dX7_reachOf_95 : decode cX7_reachOf 95 = .ok (.lload_n 3, 1) := by decide +kernel
theorem dX7_reachOf_96 : decode cX7_reachOf 96 = .ok (.lcmp, 1) := by decide +kernel
theorem dX7_reachOf_97 : decode cX7_reachOf 97 = .ok (.ifCond .le 24, 3) := by decide +kernel
theorem dX7_reachOf_100 : decode cX7_reachOf 100 = .ok (.aload_n 0, 1) := by decide +kernel
theorem dX7_reachOf_101 : decode cX7_reachOf 101 = .ok (.iload_n 1, 1) := by decide +kernel
theorem dX7_reachOf_102 : decode cX7_reachOf 102 = .ok (.iload 6, 2) := by decide +kernel
theorem dX7_reachOf_104 : decode cX7_reachOf 104 = .ok (.invokevirtual 189, 3) := by decide +kernel
theorem dX7_reachOf_107 : decode cX7_reachOf 107 = .ok (.iload 5, 2) := by decide +kernel
theorem dX7_reachOf_109 : decode cX7_reachOf 109 = .ok (.if_icmp .le 12, 3) := by decide +kernel
theorem dX7_reachOf_112 : decode cX7_reachOf 112 = .ok (.aload_n 0, 1) := by decide +kernel
theorem dX7_reachOf_113 : decode cX7_reachOf 113 = .ok (.iload_n 1, 1) := by decide +kernel
theorem dX7_reachOf_114 : decode cX7_reachOf 114 = .ok (.iload 6, 2) := by decide +kernel
theorem dX7_reachOf_116 : decode cX7_reachOf 116 = .ok (.invokevirtual 189, 3) := by decide +kernel
theorem dX7_reachOf_119 : decode cX7_reachOf 119 = .ok (.istore 5, 2) := by decide +kernel
theorem dX7_reachOf_121 : decode cX7_reachOf 121 = .ok (.iinc 6 1, 3) := by decide +kernel
theorem dX7_reachOf_124 : decode cX7_reachOf 124 = .ok (.goto (-88), 3) := by decide +kernel
theorem dX7_reachOf_127 : decode cX7_reachOf 127 = .ok (.iload 5, 2) := by decide +kernel
theorem dX7_reachOf_129 : decode cX7_reachOf 129 = .ok (.bipush (-4), 2) := by decide +kernel
theorem dX7_reachOf_131 : decode cX7_reachOf 131 = .ok (.if_icmp .ne 7, 3) := by decide +kernel
theorem dX7_reachOf_134 : decode cX7_reachOf 134 = .ok (.iconst 0, 1) := by decide +kernel
theorem dX7_reachOf_135 : decode cX7_reachOf 135 = .ok (.goto 14, 3) := by decide +kernel
theorem dX7_reachOf_138 : decode cX7_reachOf 138 = .ok (.iload 5, 2) := by decide +kernel
theorem dX7_reachOf_140 : decode cX7_reachOf 140 = .ok (.aload_n 0, 1) := by decide +kernel
theorem dX7_reachOf_141 : decode cX7_reachOf 141 = .ok (.getfield 7, 3) := by decide +kernel
theorem dX7_reachOf_144 : decode cX7_reachOf 144 = .ok (.sipush 588, 3) := by decide +kernel
theorem dX7_reachOf_147 : decode cX7_reachOf 147 = .ok (.iaload, 1) := by decide +kernel
theorem dX7_reachOf_148 : decode cX7_reachOf 148 = .ok (.iadd, 1) := by decide +kernel
theorem dX7_reachOf_149 : decode cX7_reachOf 149 = .ok (.ireturn, 1) := by decide +kernel
theorem dX7_reachedBy_0 : decode cX7_reachedBy 0 = .ok (.iconst 0, 1) := by decide +kernel
theorem dX7_reachedBy_1 : decode cX7_reachedBy 1 = .ok (.istore_n 2, 1) := by decide +kernel
theorem dX7_reachedBy_2 : decode cX7_reachedBy 2 = .ok (.iconst 0, 1) := by decide +kernel
theorem dX7_reachedBy_3 : decode cX7_reachedBy 3 = .ok (.istore_n 3, 1) := by decide +kernel
theorem dX7_reachedBy_4 : decode cX7_reachedBy 4 = .ok (.iload_n 3, 1) := by decide +kernel
theorem dX7_reachedBy_5 : decode cX7_reachedBy 5 = .ok (.aload_n 0, 1) := by decide +kernel
theorem dX7_reachedBy_6 : decode cX7_reachedBy 6 = .ok (.getfield 7, 3) := by decide +kernel
theorem dX7_reachedBy_9 : decode cX7_reachedBy 9 = .ok (.sipush 586, 3) := by decide +kernel
theorem dX7_reachedBy_12 : decode cX7_reachedBy 12 = .ok (.iaload, 1) := by decide +kernel
theorem dX7_reachedBy_13 : decode cX7_reachedBy 13 = .ok (.imul, 1) := by decide +kernel
theorem dX7_reachedBy_14 : decode cX7_reachedBy 14 = .ok (.aload_n 0, 1) := by decide +kernel
theorem dX7_reachedBy_15 : decode cX7_reachedBy 15 = .ok (.iload_n 1, 1) := by decide +kernel
theorem dX7_reachedBy_16 : decode cX7_reachedBy 16 = .ok (.invokevirtual 183, 3) := by decide +kernel
theorem dX7_reachedBy_19 : decode cX7_reachedBy 19 = .ok (.if_icmp .ge 33, 3) := by decide +kernel
theorem dX7_reachedBy_22 : decode cX7_reachedBy 22 = .ok (.aload_n 0, 1) := by decide +kernel
theorem dX7_reachedBy_23 : decode cX7_reachedBy 23 = .ok (.iload_n 1, 1) := by decide +kernel
theorem dX7_reachedBy_24 : decode cX7_reachedBy 24 = .ok (.iload_n 3, 1) := by decide +kernel
theorem dX7_reachedBy_25 : decode cX7_reachedBy 25 = .ok (.invokevirtual 192, 3) := by decide +kernel
theorem dX7_reachedBy_28 : decode cX7_reachedBy 28 = .ok (.ifCond .le 16, 3) := by decide +kernel
theorem dX7_reachedBy_31 : decode cX7_reachedBy 31 = .ok (.aload_n 0, 1) := by decide +kernel
theorem dX7_reachedBy_32 : decode cX7_reachedBy 32 = .ok (.getfield 41, 3) := by decide +kernel
theorem dX7_reachedBy_35 : decode cX7_reachedBy 35 = .ok (.iload_n 1, 1) := by decide +kernel
theorem dX7_reachedBy_36 : decode cX7_reachedBy 36 = .ok (.iaload, 1) := by decide +kernel
theorem dX7_reachedBy_37 : decode cX7_reachedBy 37 = .ok (.iload_n 3, 1) := by decide +kernel
theorem dX7_reachedBy_38 : decode cX7_reachedBy 38 = .ok (.iadd, 1) := by decide +kernel
theorem dX7_reachedBy_39 : decode cX7_reachedBy 39 = .ok (.iconst 1, 1) := by decide +kernel
theorem dX7_reachedBy_40 : decode cX7_reachedBy 40 = .ok (.iadd, 1) := by decide +kernel
theorem dX7_reachedBy_41 : decode cX7_reachedBy 41 = .ok (.goto 4, 3) := by decide +kernel
theorem dX7_reachedBy_44 : decode cX7_reachedBy 44 = .ok (.iload_n 2, 1) := by decide +kernel
theorem dX7_reachedBy_45 : decode cX7_reachedBy 45 = .ok (.istore_n 2, 1) := by decide +kernel
theorem dX7_reachedBy_46 : decode cX7_reachedBy 46 = .ok (.iinc 3 1, 3) := by decide +kernel
theorem dX7_reachedBy_49 : decode cX7_reachedBy 49 = .ok (.goto (-45), 3) := by decide +kernel
theorem dX7_reachedBy_52 : decode cX7_reachedBy 52 = .ok (.iload_n 2, 1) := by decide +kernel
theorem dX7_reachedBy_53 : decode cX7_reachedBy 53 = .ok (.ireturn, 1) := by decide +kernel
theorem dX7_widthOf_0 : decode cX7_widthOf 0 = .ok (.iconst 0, 1) := by decide +kernel
theorem dX7_widthOf_1 : decode cX7_widthOf 1 = .ok (.istore_n 2, 1) := by decide +kernel
theorem dX7_widthOf_2 : decode cX7_widthOf 2 = .ok (.iconst 0, 1) := by decide +kernel
theorem dX7_widthOf_3 : decode cX7_widthOf 3 = .ok (.istore_n 3, 1) := by decide +kernel
theorem dX7_widthOf_4 : decode cX7_widthOf 4 = .ok (.iload_n 3, 1) := by decide +kernel
theorem dX7_widthOf_5 : decode cX7_widthOf 5 = .ok (.aload_n 0, 1) := by decide +kernel
theorem dX7_widthOf_6 : decode cX7_widthOf 6 = .ok (.getfield 7, 3) := by decide +kernel
theorem dX7_widthOf_9 : decode cX7_widthOf 9 = .ok (.bipush 25, 2) := by decide +kernel
theorem dX7_widthOf_11 : decode cX7_widthOf 11 = .ok (.bipush 7, 2) := by decide +kernel
theorem dX7_widthOf_13 : decode cX7_widthOf 13 = .ok (.iload_n 1, 1) := by decide +kernel
theorem dX7_widthOf_14 : decode cX7_widthOf 14 = .ok (.imul, 1) := by decide +kernel
theorem dX7_widthOf_15 : decode cX7_widthOf 15 = .ok (.iadd, 1) := by decide +kernel
theorem dX7_widthOf_16 : decode cX7_widthOf 16 = .ok (.iaload, 1) := by decide +kernel
theorem dX7_widthOf_17 : decode cX7_widthOf 17 = .ok (.if_icmp .ge 86, 3) := by decide +kernel
theorem dX7_widthOf_20 : decode cX7_widthOf 20 = .ok (.aload_n 0, 1) := by decide +kernel
theorem dX7_widthOf_21 : decode cX7_widthOf 21 = .ok (.getfield 7, 3) := by decide +kernel
theorem dX7_widthOf_24 : decode cX7_widthOf 24 = .ok (.bipush 25, 2) := by decide +kernel
theorem dX7_widthOf_26 : decode cX7_widthOf 26 = .ok (.bipush 7, 2) := by decide +kernel
theorem dX7_widthOf_28 : decode cX7_widthOf 28 = .ok (.iload_n 1, 1) := by decide +kernel
theorem dX7_widthOf_29 : decode cX7_widthOf 29 = .ok (.imul, 1) := by decide +kernel
theorem dX7_widthOf_30 : decode cX7_widthOf 30 = .ok (.iadd, 1) := by decide +kernel
theorem dX7_widthOf_31 : decode cX7_widthOf 31 = .ok (.iconst 1, 1) := by decide +kernel
theorem dX7_widthOf_32 : decode cX7_widthOf 32 = .ok (.iadd, 1) := by decide +kernel
theorem dX7_widthOf_33 : decode cX7_widthOf 33 = .ok (.iload_n 3, 1) := by decide +kernel
theorem dX7_widthOf_34 : decode cX7_widthOf 34 = .ok (.iadd, 1) := by decide +kernel
theorem dX7_widthOf_35 : decode cX7_widthOf 35 = .ok (.iaload, 1) := by decide +kernel
theorem dX7_widthOf_36 : decode cX7_widthOf 36 = .ok (.bipush 97, 2) := by decide +kernel
theorem dX7_widthOf_38 : decode cX7_widthOf 38 = .ok (.iadd, 1) := by decide +kernel
theorem dX7_widthOf_39 : decode cX7_widthOf 39 = .ok (.iconst 1, 1) := by decide +kernel
theorem dX7_widthOf_40 : decode cX7_widthOf 40 = .ok (.isub, 1) := by decide +kernel
theorem dX7_widthOf_41 : decode cX7_widthOf 41 = .ok (.istore 4, 2) := by decide +kernel
theorem dX7_widthOf_43 : decode cX7_widthOf 43 = .ok (.iload_n 2, 1) := by decide +kernel
theorem dX7_widthOf_44 : decode cX7_widthOf 44 = .ok (.iload 4, 2) := by decide +kernel
theorem dX7_widthOf_46 : decode cX7_widthOf 46 = .ok (.bipush 105, 2) := by decide +kernel
theorem dX7_widthOf_48 : decode cX7_widthOf 48 = .ok (.if_icmp .eq 24, 3) := by decide +kernel
theorem dX7_widthOf_51 : decode cX7_widthOf 51 = .ok (.iload 4, 2) := by decide +kernel
theorem dX7_widthOf_53 : decode cX7_widthOf 53 = .ok (.bipush 106, 2) := by decide +kernel
theorem dX7_widthOf_55 : decode cX7_widthOf 55 = .ok (.if_icmp .eq 17, 3) := by decide +kernel
theorem dX7_widthOf_58 : decode cX7_widthOf 58 = .ok (.iload 4, 2) := by decide +kernel
theorem dX7_widthOf_60 : decode cX7_widthOf 60 = .ok (.bipush 108, 2) := by decide +kernel
theorem dX7_widthOf_62 : decode cX7_widthOf 62 = .ok (.if_icmp .eq 10, 3) := by decide +kernel
theorem dX7_widthOf_65 : decode cX7_widthOf 65 = .ok (.iload 4, 2) := by decide +kernel
theorem dX7_widthOf_67 : decode cX7_widthOf 67 = .ok (.bipush 116, 2) := by decide +kernel
theorem dX7_widthOf_69 : decode cX7_widthOf 69 = .ok (.if_icmp .ne 7, 3) := by decide +kernel
theorem dX7_widthOf_72 : decode cX7_widthOf 72 = .ok (.iconst 1, 1) := by decide +kernel
theorem dX7_widthOf_73 : decode cX7_widthOf 73 = .ok (.goto 22, 3) := by decide +kernel
theorem dX7_widthOf_76 : decode cX7_widthOf 76 = .ok (.iload 4, 2) := by decide +kernel
theorem dX7_widthOf_78 : decode cX7_widthOf 78 = .ok (.bipush 109, 2) := by decide +kernel
theorem dX7_widthOf_80 : decode cX7_widthOf 80 = .ok (.if_icmp .eq 10, 3) := by decide +kernel
theorem dX7_widthOf_83 : decode cX7_widthOf 83 = .ok (.iload 4, 2) := by decide +kernel
theorem dX7_widthOf_85 : decode cX7_widthOf 85 = .ok (.bipush 119, 2) := by decide +kernel
theorem dX7_widthOf_87 : decode cX7_widthOf 87 = .ok (.if_icmp .ne 7, 3) := by decide +kernel
theorem dX7_widthOf_90 : decode cX7_widthOf 90 = .ok (.iconst 3, 1) := by decide +kernel
theorem dX7_widthOf_91 : decode cX7_widthOf 91 = .ok (.goto 4, 3) := by decide +kernel
theorem dX7_widthOf_94 : decode cX7_widthOf 94 = .ok (.iconst 2, 1) := by decide +kernel
theorem dX7_widthOf_95 : decode cX7_widthOf 95 = .ok (.iadd, 1) := by decide +kernel
theorem dX7_widthOf_96 : decode cX7_widthOf 96 = .ok (.istore_n 2, 1) := by decide +kernel
theorem dX7_widthOf_97 : decode cX7_widthOf 97 = .ok (.iinc 3 1, 3) := by decide +kernel
theorem dX7_widthOf_100 : decode cX7_widthOf 100 = .ok (.goto (-96), 3) := by decide +kernel
theorem dX7_widthOf_103 : decode cX7_widthOf 103 = .ok (.iload_n 2, 1) := by decide +kernel
theorem dX7_widthOf_104 : decode cX7_widthOf 104 = .ok (.ireturn, 1) := by decide +kernel
theorem dX7_usedBy_0 : decode cX7_usedBy 0 = .ok (.iload_n 2, 1) := by decide +kernel
theorem dX7_usedBy_1 : decode cX7_usedBy 1 = .ok (.iconst 1, 1) := by decide +kernel
theorem dX7_usedBy_2 : decode cX7_usedBy 2 = .ok (.isub, 1) := by decide +kernel
theorem dX7_usedBy_3 : decode cX7_usedBy 3 = .ok (.istore_n 3, 1) := by decide +kernel
theorem dX7_usedBy_4 : decode cX7_usedBy 4 = .ok (.iconst 0, 1) := by decide +kernel
theorem dX7_usedBy_5 : decode cX7_usedBy 5 = .ok (.istore 4, 2) := by decide +kernel
theorem dX7_usedBy_7 : decode cX7_usedBy 7 = .ok (.iload 4, 2) := by decide +kernel
theorem dX7_usedBy_9 : decode cX7_usedBy 9 = .ok (.iload_n 2, 1) := by decide +kernel
theorem dX7_usedBy_10 : decode cX7_usedBy 10 = .ok (.if_icmp .ge 20, 3) := by decide +kernel
theorem dX7_usedBy_13 : decode cX7_usedBy 13 = .ok (.iload_n 3, 1) := by decide +kernel
theorem dX7_usedBy_14 : decode cX7_usedBy 14 = .ok (.aload_n 0, 1) := by decide +kernel
theorem dX7_usedBy_15 : decode cX7_usedBy 15 = .ok (.iload_n 1, 1) := by decide +kernel
theorem dX7_usedBy_16 : decode cX7_usedBy 16 = .ok (.iload 4, 2) := by decide +kernel
theorem dX7_usedBy_18 : decode cX7_usedBy 18 = .ok (.iadd, 1) := by decide +kernel
theorem dX7_usedBy_19 : decode cX7_usedBy 19 = .ok (.invokevirtual 195, 3) := by decide +kernel
theorem dX7_usedBy_22 : decode cX7_usedBy 22 = .ok (.iadd, 1) := by decide +kernel
theorem dX7_usedBy_23 : decode cX7_usedBy 23 = .ok (.istore_n 3, 1) := by decide +kernel
theorem dX7_usedBy_24 : decode cX7_usedBy 24 = .ok (.iinc 4 1, 3) := by decide +kernel
theorem dX7_usedBy_27 : decode cX7_usedBy 27 = .ok (.goto (-20), 3) := by decide +kernel
theorem dX7_usedBy_30 : decode cX7_usedBy 30 = .ok (.iload_n 3, 1) := by decide +kernel
theorem dX7_usedBy_31 : decode cX7_usedBy 31 = .ok (.ireturn, 1) := by decide +kernel
theorem dX7_indentAt_0 : decode cX7_indentAt 0 = .ok (.aload_n 0, 1) := by decide +kernel
theorem dX7_indentAt_1 : decode cX7_indentAt 1 = .ok (.iload_n 1, 1) := by decide +kernel
theorem dX7_indentAt_2 : decode cX7_indentAt 2 = .ok (.invokevirtual 174, 3) := by decide +kernel
theorem dX7_indentAt_5 : decode cX7_indentAt 5 = .ok (.bipush (-4), 2) := by decide +kernel
theorem dX7_indentAt_7 : decode cX7_indentAt 7 = .ok (.if_icmp .eq 17, 3) := by decide +kernel
theorem dX7_indentAt_10 : decode cX7_indentAt 10 = .ok (.aload_n 0, 1) := by decide +kernel
theorem dX7_indentAt_11 : decode cX7_indentAt 11 = .ok (.iload_n 1, 1) := by decide +kernel
theorem dX7_indentAt_12 : decode cX7_indentAt 12 = .ok (.iload_n 2, 1) := by decide +kernel
theorem dX7_indentAt_13 : decode cX7_indentAt 13 = .ok (.aload_n 0, 1) := by decide +kernel
theorem dX7_indentAt_14 : decode cX7_indentAt 14 = .ok (.getfield 41, 3) := by decide +kernel
theorem dX7_indentAt_17 : decode cX7_indentAt 17 = .ok (.iload_n 1, 1) := by decide +kernel
theorem dX7_indentAt_18 : decode cX7_indentAt 18 = .ok (.iaload, 1) := by decide +kernel
theorem dX7_indentAt_19 : decode cX7_indentAt 19 = .ok (.isub, 1) := by decide +kernel
theorem dX7_indentAt_20 : decode cX7_indentAt 20 = .ok (.invokevirtual 192, 3) := by decide +kernel
theorem dX7_indentAt_23 : decode cX7_indentAt 23 = .ok (.ireturn, 1) := by decide +kernel
theorem dX7_indentAt_24 : decode cX7_indentAt 24 = .ok (.iconst 0, 1) := by decide +kernel
theorem dX7_indentAt_25 : decode cX7_indentAt 25 = .ok (.istore_n 3, 1) := by decide +kernel
theorem dX7_indentAt_26 : decode cX7_indentAt 26 = .ok (.iconst 0, 1) := by decide +kernel
theorem dX7_indentAt_27 : decode cX7_indentAt 27 = .ok (.istore 4, 2) := by decide +kernel
theorem dX7_indentAt_29 : decode cX7_indentAt 29 = .ok (.iload 4, 2) := by decide +kernel
theorem dX7_indentAt_31 : decode cX7_indentAt 31 = .ok (.iload_n 1, 1) := by decide +kernel
theorem dX7_indentAt_32 : decode cX7_indentAt 32 = .ok (.if_icmp .ge 51, 3) := by decide +kernel
theorem dX7_indentAt_35 : decode cX7_indentAt 35 = .ok (.aload_n 0, 1) := by decide +kernel
theorem dX7_indentAt_36 : decode cX7_indentAt 36 = .ok (.getfield 7, 3) := by decide +kernel
theorem dX7_indentAt_39 : decode cX7_indentAt 39 = .ok (.sipush 590, 3) := by decide +kernel
theorem dX7_indentAt_42 : decode cX7_indentAt 42 = .ok (.iaload, 1) := by decide +kernel
theorem dX7_indentAt_43 : decode cX7_indentAt 43 = .ok (.iconst 2, 1) := by decide +kernel
theorem dX7_indentAt_44 : decode cX7_indentAt 44 = .ok (.if_icmp .ne 39, 3) := by decide +kernel
theorem dX7_indentAt_47 : decode cX7_indentAt 47 = .ok (.aload_n 0, 1) := by decide +kernel
theorem dX7_indentAt_48 : decode cX7_indentAt 48 = .ok (.iload 4, 2) := by decide +kernel
theorem dX7_indentAt_50 : decode cX7_indentAt 50 = .ok (.iload_n 2, 1) := by decide +kernel
theorem dX7_indentAt_51 : decode cX7_indentAt 51 = .ok (.aload_n 0, 1) := by decide +kernel
theorem dX7_indentAt_52 : decode cX7_indentAt 52 = .ok (.getfield 41, 3) := by decide +kernel
theorem dX7_indentAt_55 : decode cX7_indentAt 55 = .ok (.iload 4, 2) := by decide +kernel
theorem dX7_indentAt_57 : decode cX7_indentAt 57 = .ok (.iaload, 1) := by decide +kernel
theorem dX7_indentAt_58 : decode cX7_indentAt 58 = .ok (.isub, 1) := by decide +kernel
theorem dX7_indentAt_59 : decode cX7_indentAt 59 = .ok (.invokevirtual 192, 3) := by decide +kernel
theorem dX7_indentAt_62 : decode cX7_indentAt 62 = .ok (.istore 5, 2) := by decide +kernel
theorem dX7_indentAt_64 : decode cX7_indentAt 64 = .ok (.iload 5, 2) := by decide +kernel
theorem dX7_indentAt_66 : decode cX7_indentAt 66 = .ok (.iload_n 3, 1) := by decide +kernel
theorem dX7_indentAt_67 : decode cX7_indentAt 67 = .ok (.if_icmp .le 8, 3) := by decide +kernel
theorem dX7_indentAt_70 : decode cX7_indentAt 70 = .ok (.iload 5, 2) := by decide +kernel
theorem dX7_indentAt_72 : decode cX7_indentAt 72 = .ok (.goto 4, 3) := by decide +kernel
theorem dX7_indentAt_75 : decode cX7_indentAt 75 = .ok (.iload_n 3, 1) := by decide +kernel
theorem dX7_indentAt_76 : decode cX7_indentAt 76 = .ok (.istore_n 3, 1) := by decide +kernel
theorem dX7_indentAt_77 : decode cX7_indentAt 77 = .ok (.iinc 4 1, 3) := by decide +kernel
theorem dX7_indentAt_80 : decode cX7_indentAt 80 = .ok (.goto (-51), 3) := by decide +kernel
theorem dX7_indentAt_83 : decode cX7_indentAt 83 = .ok (.iload_n 3, 1) := by decide +kernel
theorem dX7_indentAt_84 : decode cX7_indentAt 84 = .ok (.ireturn, 1) := by decide +kernel
theorem dX7_roomAt_0 : decode cX7_roomAt 0 = .ok (.aload_n 0, 1) := by decide +kernel
theorem dX7_roomAt_1 : decode cX7_roomAt 1 = .ok (.getfield 7, 3) := by decide +kernel
theorem dX7_roomAt_4 : decode cX7_roomAt 4 = .ok (.sipush 585, 3) := by decide +kernel
theorem dX7_roomAt_7 : decode cX7_roomAt 7 = .ok (.iaload, 1) := by decide +kernel
theorem dX7_roomAt_8 : decode cX7_roomAt 8 = .ok (.aload_n 0, 1) := by decide +kernel
theorem dX7_roomAt_9 : decode cX7_roomAt 9 = .ok (.iload_n 1, 1) := by decide +kernel
theorem dX7_roomAt_10 : decode cX7_roomAt 10 = .ok (.iload_n 2, 1) := by decide +kernel
theorem dX7_roomAt_11 : decode cX7_roomAt 11 = .ok (.invokevirtual 198, 3) := by decide +kernel
theorem dX7_roomAt_14 : decode cX7_roomAt 14 = .ok (.isub, 1) := by decide +kernel
theorem dX7_roomAt_15 : decode cX7_roomAt 15 = .ok (.istore_n 3, 1) := by decide +kernel
theorem dX7_roomAt_16 : decode cX7_roomAt 16 = .ok (.iload_n 3, 1) := by decide +kernel
theorem dX7_roomAt_17 : decode cX7_roomAt 17 = .ok (.ifCond .ge 7, 3) := by decide +kernel
theorem dX7_roomAt_20 : decode cX7_roomAt 20 = .ok (.iconst 0, 1) := by decide +kernel
theorem dX7_roomAt_21 : decode cX7_roomAt 21 = .ok (.goto 4, 3) := by decide +kernel
theorem dX7_roomAt_24 : decode cX7_roomAt 24 = .ok (.iload_n 3, 1) := by decide +kernel
theorem dX7_roomAt_25 : decode cX7_roomAt 25 = .ok (.ireturn, 1) := by decide +kernel
theorem dX7_laysFirst_0 : decode cX7_laysFirst 0 = .ok (.aload_n 0, 1) := by decide +kernel
theorem dX7_laysFirst_1 : decode cX7_laysFirst 1 = .ok (.iload_n 1, 1) := by decide +kernel
theorem dX7_laysFirst_2 : decode cX7_laysFirst 2 = .ok (.invokevirtual 201, 3) := by decide +kernel
theorem dX7_laysFirst_5 : decode cX7_laysFirst 5 = .ok (.istore_n 2, 1) := by decide +kernel
theorem dX7_laysFirst_6 : decode cX7_laysFirst 6 = .ok (.iload_n 2, 1) := by decide +kernel
theorem dX7_laysFirst_7 : decode cX7_laysFirst 7 = .ok (.aload_n 0, 1) := by decide +kernel
theorem dX7_laysFirst_8 : decode cX7_laysFirst 8 = .ok (.iload_n 1, 1) := by decide +kernel
theorem dX7_laysFirst_9 : decode cX7_laysFirst 9 = .ok (.invokevirtual 171, 3) := by decide +kernel
theorem dX7_laysFirst_12 : decode cX7_laysFirst 12 = .ok (.iadd, 1) := by decide +kernel
theorem dX7_laysFirst_13 : decode cX7_laysFirst 13 = .ok (.istore_n 3, 1) := by decide +kernel
theorem dX7_laysFirst_14 : decode cX7_laysFirst 14 = .ok (.aload_n 0, 1) := by decide +kernel
theorem dX7_laysFirst_15 : decode cX7_laysFirst 15 = .ok (.getfield 41, 3) := by decide +kernel
theorem dX7_laysFirst_18 : decode cX7_laysFirst 18 = .ok (.iload_n 1, 1) := by decide +kernel
theorem dX7_laysFirst_19 : decode cX7_laysFirst 19 = .ok (.iaload, 1) := by decide +kernel
theorem dX7_laysFirst_20 : decode cX7_laysFirst 20 = .ok (.istore 4, 2) := by decide +kernel
theorem dX7_laysFirst_22 : decode cX7_laysFirst 22 = .ok (.iload_n 2, 1) := by decide +kernel
theorem dX7_laysFirst_23 : decode cX7_laysFirst 23 = .ok (.iload_n 3, 1) := by decide +kernel
theorem dX7_laysFirst_24 : decode cX7_laysFirst 24 = .ok (.if_icmp .ge 71, 3) := by decide +kernel
theorem dX7_laysFirst_27 : decode cX7_laysFirst 27 = .ok (.aload_n 0, 1) := by decide +kernel
theorem dX7_laysFirst_28 : decode cX7_laysFirst 28 = .ok (.iload_n 1, 1) := by decide +kernel
theorem dX7_laysFirst_29 : decode cX7_laysFirst 29 = .ok (.iload 4, 2) := by decide +kernel
theorem dX7_laysFirst_31 : decode cX7_laysFirst 31 = .ok (.invokevirtual 204, 3) := by decide +kernel
theorem dX7_laysFirst_34 : decode cX7_laysFirst 34 = .ok (.istore 5, 2) := by decide +kernel
theorem dX7_laysFirst_36 : decode cX7_laysFirst 36 = .ok (.iconst 1, 1) := by decide +kernel
theorem dX7_laysFirst_37 : decode cX7_laysFirst 37 = .ok (.istore 6, 2) := by decide +kernel
theorem dX7_laysFirst_39 : decode cX7_laysFirst 39 = .ok (.iload_n 2, 1) := by decide +kernel
theorem dX7_laysFirst_40 : decode cX7_laysFirst 40 = .ok (.iload 6, 2) := by decide +kernel
theorem dX7_laysFirst_42 : decode cX7_laysFirst 42 = .ok (.iadd, 1) := by decide +kernel
theorem dX7_laysFirst_43 : decode cX7_laysFirst 43 = .ok (.iload_n 3, 1) := by decide +kernel
theorem dX7_laysFirst_44 : decode cX7_laysFirst 44 = .ok (.if_icmp .ge 23, 3) := by decide +kernel
theorem dX7_laysFirst_47 : decode cX7_laysFirst 47 = .ok (.aload_n 0, 1) := by decide +kernel
theorem dX7_laysFirst_48 : decode cX7_laysFirst 48 = .ok (.iload_n 2, 1) := by decide +kernel
theorem dX7_laysFirst_49 : decode cX7_laysFirst 49 = .ok (.iload 6, 2) := by decide +kernel
theorem dX7_laysFirst_51 : decode cX7_laysFirst 51 = .ok (.iconst 1, 1) := by decide +kernel
theorem dX7_laysFirst_52 : decode cX7_laysFirst 52 = .ok (.iadd, 1) := by decide +kernel
theorem dX7_laysFirst_53 : decode cX7_laysFirst 53 = .ok (.invokevirtual 207, 3) := by decide +kernel
theorem dX7_laysFirst_56 : decode cX7_laysFirst 56 = .ok (.iload 5, 2) := by decide +kernel
theorem dX7_laysFirst_58 : decode cX7_laysFirst 58 = .ok (.if_icmp .gt 9, 3) := by decide +kernel
theorem dX7_laysFirst_61 : decode cX7_laysFirst 61 = .ok (.iinc 6 1, 3) := by decide +kernel
theorem dX7_laysFirst_64 : decode cX7_laysFirst 64 = .ok (.goto (-25), 3) := by decide +kernel
theorem dX7_laysFirst_67 : decode cX7_laysFirst 67 = .ok (.aload_n 0, 1) := by decide +kernel
theorem dX7_laysFirst_68 : decode cX7_laysFirst 68 = .ok (.getfield 50, 3) := by decide +kernel
theorem dX7_laysFirst_71 : decode cX7_laysFirst 71 = .ok (.iload 4, 2) := by decide +kernel
theorem dX7_laysFirst_73 : decode cX7_laysFirst 73 = .ok (.iload_n 2, 1) := by decide +kernel
theorem dX7_laysFirst_74 : decode cX7_laysFirst 74 = .ok (.iastore, 1) := by decide +kernel
theorem dX7_laysFirst_75 : decode cX7_laysFirst 75 = .ok (.aload_n 0, 1) := by decide +kernel
theorem dX7_laysFirst_76 : decode cX7_laysFirst 76 = .ok (.getfield 53, 3) := by decide +kernel
theorem dX7_laysFirst_79 : decode cX7_laysFirst 79 = .ok (.iload 4, 2) := by decide +kernel
theorem dX7_laysFirst_81 : decode cX7_laysFirst 81 = .ok (.iload 6, 2) := by decide +kernel
theorem dX7_laysFirst_83 : decode cX7_laysFirst 83 = .ok (.iastore, 1) := by decide +kernel
theorem dX7_laysFirst_84 : decode cX7_laysFirst 84 = .ok (.iload_n 2, 1) := by decide +kernel
theorem dX7_laysFirst_85 : decode cX7_laysFirst 85 = .ok (.iload 6, 2) := by decide +kernel
theorem dX7_laysFirst_87 : decode cX7_laysFirst 87 = .ok (.iadd, 1) := by decide +kernel
theorem dX7_laysFirst_88 : decode cX7_laysFirst 88 = .ok (.istore_n 2, 1) := by decide +kernel
theorem dX7_laysFirst_89 : decode cX7_laysFirst 89 = .ok (.iinc 4 1, 3) := by decide +kernel
theorem dX7_laysFirst_92 : decode cX7_laysFirst 92 = .ok (.goto (-70), 3) := by decide +kernel
theorem dX7_laysFirst_95 : decode cX7_laysFirst 95 = .ok (.iload 4, 2) := by decide +kernel
theorem dX7_laysFirst_97 : decode cX7_laysFirst 97 = .ok (.aload_n 0, 1) := by decide +kernel
theorem dX7_laysFirst_98 : decode cX7_laysFirst 98 = .ok (.getfield 41, 3) := by decide +kernel
theorem dX7_laysFirst_101 : decode cX7_laysFirst 101 = .ok (.iload_n 1, 1) := by decide +kernel
theorem dX7_laysFirst_102 : decode cX7_laysFirst 102 = .ok (.iaload, 1) := by decide +kernel
theorem dX7_laysFirst_103 : decode cX7_laysFirst 103 = .ok (.isub, 1) := by decide +kernel
theorem dX7_laysFirst_104 : decode cX7_laysFirst 104 = .ok (.ireturn, 1) := by decide +kernel
theorem dX7_laysEven_0 : decode cX7_laysEven 0 = .ok (.aload_n 0, 1) := by decide +kernel
theorem dX7_laysEven_1 : decode cX7_laysEven 1 = .ok (.iload_n 1, 1) := by decide +kernel
theorem dX7_laysEven_2 : decode cX7_laysEven 2 = .ok (.invokevirtual 171, 3) := by decide +kernel
theorem dX7_laysEven_5 : decode cX7_laysEven 5 = .ok (.istore_n 3, 1) := by decide +kernel
theorem dX7_laysEven_6 : decode cX7_laysEven 6 = .ok (.aload_n 0, 1) := by decide +kernel
theorem dX7_laysEven_7 : decode cX7_laysEven 7 = .ok (.iload_n 1, 1) := by decide +kernel
theorem dX7_laysEven_8 : decode cX7_laysEven 8 = .ok (.invokevirtual 201, 3) := by decide +kernel
theorem dX7_laysEven_11 : decode cX7_laysEven 11 = .ok (.istore 4, 2) := by decide +kernel
theorem dX7_laysEven_13 : decode cX7_laysEven 13 = .ok (.iload_n 2, 1) := by decide +kernel
theorem dX7_laysEven_14 : decode cX7_laysEven 14 = .ok (.iconst 1, 1) := by decide +kernel
theorem dX7_laysEven_15 : decode cX7_laysEven 15 = .ok (.isub, 1) := by decide +kernel
theorem dX7_laysEven_16 : decode cX7_laysEven 16 = .ok (.istore 5, 2) := by decide +kernel
theorem dX7_laysEven_18 : decode cX7_laysEven 18 = .ok (.iload 5, 2) := by decide +kernel
theorem dX7_laysEven_20 : decode cX7_laysEven 20 = .ok (.ifCond .lt 76, 3) := by decide +kernel
theorem dX7_laysEven_23 : decode cX7_laysEven 23 = .ok (.aload_n 0, 1) := by decide +kernel
theorem dX7_laysEven_24 : decode cX7_laysEven 24 = .ok (.iload_n 1, 1) := by decide +kernel
theorem dX7_laysEven_25 : decode cX7_laysEven 25 = .ok (.aload_n 0, 1) := by decide +kernel
theorem dX7_laysEven_26 : decode cX7_laysEven 26 = .ok (.getfield 41, 3) := by decide +kernel
theorem dX7_laysEven_29 : decode cX7_laysEven 29 = .ok (.iload_n 1, 1) := by decide +kernel
theorem dX7_laysEven_30 : decode cX7_laysEven 30 = .ok (.iaload, 1) := by decide +kernel
theorem dX7_laysEven_31 : decode cX7_laysEven 31 = .ok (.iload 5, 2) := by decide +kernel
theorem dX7_laysEven_33 : decode cX7_laysEven 33 = .ok (.iadd, 1) := by decide +kernel
theorem dX7_laysEven_34 : decode cX7_laysEven 34 = .ok (.invokevirtual 204, 3) := by decide +kernel
theorem dX7_laysEven_37 : decode cX7_laysEven 37 = .ok (.istore 6, 2) := by decide +kernel
theorem dX7_laysEven_39 : decode cX7_laysEven 39 = .ok (.iconst 0, 1) := by decide +kernel
theorem dX7_laysEven_40 : decode cX7_laysEven 40 = .ok (.istore 7, 2) := by decide +kernel
theorem dX7_laysEven_42 : decode cX7_laysEven 42 = .ok (.iload 7, 2) := by decide +kernel
theorem dX7_laysEven_44 : decode cX7_laysEven 44 = .ok (.iload_n 3, 1) := by decide +kernel
theorem dX7_laysEven_45 : decode cX7_laysEven 45 = .ok (.if_icmp .ge 45, 3) := by decide +kernel
theorem dX7_laysEven_48 : decode cX7_laysEven 48 = .ok (.aload_n 0, 1) := by decide +kernel
theorem dX7_laysEven_49 : decode cX7_laysEven 49 = .ok (.bipush 81, 2) := by decide +kernel
theorem dX7_laysEven_51 : decode cX7_laysEven 51 = .ok (.iload 5, 2) := by decide +kernel
theorem dX7_laysEven_53 : decode cX7_laysEven 53 = .ok (.imul, 1) := by decide +kernel
theorem dX7_laysEven_54 : decode cX7_laysEven 54 = .ok (.iload 7, 2) := by decide +kernel
theorem dX7_laysEven_56 : decode cX7_laysEven 56 = .ok (.iadd, 1) := by decide +kernel
theorem dX7_laysEven_57 : decode cX7_laysEven 57 = .ok (.iload 4, 2) := by decide +kernel
theorem dX7_laysEven_59 : decode cX7_laysEven 59 = .ok (.iload 7, 2) := by decide +kernel
theorem dX7_laysEven_61 : decode cX7_laysEven 61 = .ok (.iadd, 1) := by decide +kernel
theorem dX7_laysEven_62 : decode cX7_laysEven 62 = .ok (.iload_n 3, 1) := by decide +kernel
theorem dX7_laysEven_63 : decode cX7_laysEven 63 = .ok (.iload 7, 2) := by decide +kernel
theorem dX7_laysEven_65 : decode cX7_laysEven 65 = .ok (.isub, 1) := by decide +kernel
theorem dX7_laysEven_66 : decode cX7_laysEven 66 = .ok (.iload 5, 2) := by decide +kernel
theorem dX7_laysEven_68 : decode cX7_laysEven 68 = .ok (.iload_n 2, 1) := by decide +kernel
theorem dX7_laysEven_69 : decode cX7_laysEven 69 = .ok (.iconst 1, 1) := by decide +kernel
theorem dX7_laysEven_70 : decode cX7_laysEven 70 = .ok (.isub, 1) := by decide +kernel
theorem dX7_laysEven_71 : decode cX7_laysEven 71 = .ok (.if_icmp .ne 7, 3) := by decide +kernel
theorem dX7_laysEven_74 : decode cX7_laysEven 74 = .ok (.iconst 1, 1) := by decide +kernel
theorem dX7_laysEven_75 : decode cX7_laysEven 75 = .ok (.goto 4, 3) := by decide +kernel
theorem dX7_laysEven_78 : decode cX7_laysEven 78 = .ok (.iconst 0, 1) := by decide +kernel
theorem dX7_laysEven_79 : decode cX7_laysEven 79 = .ok (.iload 6, 2) := by decide +kernel
theorem dX7_laysEven_81 : decode cX7_laysEven 81 = .ok (.invokevirtual 210, 3) := by decide +kernel
theorem dX7_laysEven_84 : decode cX7_laysEven 84 = .ok (.iinc 7 1, 3) := by decide +kernel
theorem dX7_laysEven_87 : decode cX7_laysEven 87 = .ok (.goto (-45), 3) := by decide +kernel
theorem dX7_laysEven_90 : decode cX7_laysEven 90 = .ok (.iinc 5 (-1), 3) := by decide +kernel
theorem dX7_laysEven_93 : decode cX7_laysEven 93 = .ok (.goto (-75), 3) := by decide +kernel
theorem dX7_laysEven_96 : decode cX7_laysEven 96 = .ok (.iconst 0, 1) := by decide +kernel
theorem dX7_laysEven_97 : decode cX7_laysEven 97 = .ok (.istore 5, 2) := by decide +kernel
theorem dX7_laysEven_99 : decode cX7_laysEven 99 = .ok (.iconst 0, 1) := by decide +kernel
theorem dX7_laysEven_100 : decode cX7_laysEven 100 = .ok (.istore 6, 2) := by decide +kernel
theorem dX7_laysEven_102 : decode cX7_laysEven 102 = .ok (.iload 6, 2) := by decide +kernel
theorem dX7_laysEven_104 : decode cX7_laysEven 104 = .ok (.iload_n 2, 1) := by decide +kernel
theorem dX7_laysEven_105 : decode cX7_laysEven 105 = .ok (.if_icmp .ge 73, 3) := by decide +kernel
theorem dX7_laysEven_108 : decode cX7_laysEven 108 = .ok (.aload_n 0, 1) := by decide +kernel
theorem dX7_laysEven_109 : decode cX7_laysEven 109 = .ok (.getfield 50, 3) := by decide +kernel
theorem dX7_laysEven_112 : decode cX7_laysEven 112 = .ok (.aload_n 0, 1) := by decide +kernel
theorem dX7_laysEven_113 : decode cX7_laysEven 113 = .ok (.getfield 41, 3) := by decide +kernel
theorem dX7_laysEven_116 : decode cX7_laysEven 116 = .ok (.iload_n 1, 1) := by decide +kernel
theorem dX7_laysEven_117 : decode cX7_laysEven 117 = .ok (.iaload, 1) := by decide +kernel
theorem dX7_laysEven_118 : decode cX7_laysEven 118 = .ok (.iload 6, 2) := by decide +kernel
theorem dX7_laysEven_120 : decode cX7_laysEven 120 = .ok (.iadd, 1) := by decide +kernel
theorem dX7_laysEven_121 : decode cX7_laysEven 121 = .ok (.iload 4, 2) := by decide +kernel
theorem dX7_laysEven_123 : decode cX7_laysEven 123 = .ok (.iload 5, 2) := by decide +kernel
theorem dX7_laysEven_125 : decode cX7_laysEven 125 = .ok (.iadd, 1) := by decide +kernel
theorem dX7_laysEven_126 : decode cX7_laysEven 126 = .ok (.iastore, 1) := by decide +kernel
theorem dX7_laysEven_127 : decode cX7_laysEven 127 = .ok (.aload_n 0, 1) := by decide +kernel
theorem dX7_laysEven_128 : decode cX7_laysEven 128 = .ok (.getfield 53, 3) := by decide +kernel
theorem dX7_laysEven_131 : decode cX7_laysEven 131 = .ok (.aload_n 0, 1) := by decide +kernel
theorem dX7_laysEven_132 : decode cX7_laysEven 132 = .ok (.getfield 41, 3) := by decide +kernel
theorem dX7_laysEven_135 : decode cX7_laysEven 135 = .ok (.iload_n 1, 1) := by decide +kernel
theorem dX7_laysEven_136 : decode cX7_laysEven 136 = .ok (.iaload, 1) := by decide +kernel
theorem dX7_laysEven_137 : decode cX7_laysEven 137 = .ok (.iload 6, 2) := by decide +kernel
theorem dX7_laysEven_139 : decode cX7_laysEven 139 = .ok (.iadd, 1) := by decide +kernel
theorem dX7_laysEven_140 : decode cX7_laysEven 140 = .ok (.aload_n 0, 1) := by decide +kernel
theorem dX7_laysEven_141 : decode cX7_laysEven 141 = .ok (.getfield 65, 3) := by decide +kernel
theorem dX7_laysEven_144 : decode cX7_laysEven 144 = .ok (.bipush 81, 2) := by decide +kernel
theorem dX7_laysEven_146 : decode cX7_laysEven 146 = .ok (.iload 6, 2) := by decide +kernel
theorem dX7_laysEven_148 : decode cX7_laysEven 148 = .ok (.imul, 1) := by decide +kernel
theorem dX7_laysEven_149 : decode cX7_laysEven 149 = .ok (.iload 5, 2) := by decide +kernel
theorem dX7_laysEven_151 : decode cX7_laysEven 151 = .ok (.iadd, 1) := by decide +kernel
theorem dX7_laysEven_152 : decode cX7_laysEven 152 = .ok (.iaload, 1) := by decide +kernel
theorem dX7_laysEven_153 : decode cX7_laysEven 153 = .ok (.iastore, 1) := by decide +kernel
theorem dX7_laysEven_154 : decode cX7_laysEven 154 = .ok (.iload 5, 2) := by decide +kernel
theorem dX7_laysEven_156 : decode cX7_laysEven 156 = .ok (.aload_n 0, 1) := by decide +kernel
theorem dX7_laysEven_157 : decode cX7_laysEven 157 = .ok (.getfield 65, 3) := by decide +kernel
theorem dX7_laysEven_160 : decode cX7_laysEven 160 = .ok (.bipush 81, 2) := by decide +kernel
theorem dX7_laysEven_162 : decode cX7_laysEven 162 = .ok (.iload 6, 2) := by decide +kernel
theorem dX7_laysEven_164 : decode cX7_laysEven 164 = .ok (.imul, 1) := by decide +kernel
theorem dX7_laysEven_165 : decode cX7_laysEven 165 = .ok (.iload 5, 2) := by decide +kernel
theorem dX7_laysEven_167 : decode cX7_laysEven 167 = .ok (.iadd, 1) := by decide +kernel
theorem dX7_laysEven_168 : decode cX7_laysEven 168 = .ok (.iaload, 1) := by decide +kernel
theorem dX7_laysEven_169 : decode cX7_laysEven 169 = .ok (.iadd, 1) := by decide +kernel
theorem dX7_laysEven_170 : decode cX7_laysEven 170 = .ok (.istore 5, 2) := by decide +kernel
theorem dX7_laysEven_172 : decode cX7_laysEven 172 = .ok (.iinc 6 1, 3) := by decide +kernel
theorem dX7_laysEven_175 : decode cX7_laysEven 175 = .ok (.goto (-73), 3) := by decide +kernel
theorem dX7_laysEven_178 : decode cX7_laysEven 178 = .ok (.return_, 1) := by decide +kernel
theorem dX7_choosesAt_0 : decode cX7_choosesAt 0 = .ok (.aload_n 0, 1) := by decide +kernel
theorem dX7_choosesAt_1 : decode cX7_choosesAt 1 = .ok (.getfield 65, 3) := by decide +kernel
theorem dX7_choosesAt_4 : decode cX7_choosesAt 4 = .ok (.iload_n 1, 1) := by decide +kernel
theorem dX7_choosesAt_5 : decode cX7_choosesAt 5 = .ok (.iconst 0, 1) := by decide +kernel
theorem dX7_choosesAt_6 : decode cX7_choosesAt 6 = .ok (.iastore, 1) := by decide +kernel
theorem dX7_choosesAt_7 : decode cX7_choosesAt 7 = .ok (.iconst (-1), 1) := by decide +kernel
theorem dX7_choosesAt_8 : decode cX7_choosesAt 8 = .ok (.istore 6, 2) := by decide +kernel
theorem dX7_choosesAt_10 : decode cX7_choosesAt 10 = .ok (.iconst 1, 1) := by decide +kernel
theorem dX7_choosesAt_11 : decode cX7_choosesAt 11 = .ok (.istore 7, 2) := by decide +kernel
theorem dX7_choosesAt_13 : decode cX7_choosesAt 13 = .ok (.iload 7, 2) := by decide +kernel
theorem dX7_choosesAt_15 : decode cX7_choosesAt 15 = .ok (.iload_n 3, 1) := by decide +kernel
theorem dX7_choosesAt_16 : decode cX7_choosesAt 16 = .ok (.if_icmp .gt 253, 3) := by decide +kernel
theorem dX7_choosesAt_19 : decode cX7_choosesAt 19 = .ok (.iload 6, 2) := by decide +kernel
theorem dX7_choosesAt_21 : decode cX7_choosesAt 21 = .ok (.iconst 1, 1) := by decide +kernel
theorem dX7_choosesAt_22 : decode cX7_choosesAt 22 = .ok (.aload_n 0, 1) := by decide +kernel
theorem dX7_choosesAt_23 : decode cX7_choosesAt 23 = .ok (.iload_n 2, 1) := by decide +kernel
theorem dX7_choosesAt_24 : decode cX7_choosesAt 24 = .ok (.iload 7, 2) := by decide +kernel
theorem dX7_choosesAt_26 : decode cX7_choosesAt 26 = .ok (.iadd, 1) := by decide +kernel
theorem dX7_choosesAt_27 : decode cX7_choosesAt 27 = .ok (.iconst 1, 1) := by decide +kernel
theorem dX7_choosesAt_28 : decode cX7_choosesAt 28 = .ok (.isub, 1) := by decide +kernel
theorem dX7_choosesAt_29 : decode cX7_choosesAt 29 = .ok (.invokevirtual 195, 3) := by decide +kernel
theorem dX7_choosesAt_32 : decode cX7_choosesAt 32 = .ok (.iadd, 1) := by decide +kernel
theorem dX7_choosesAt_33 : decode cX7_choosesAt 33 = .ok (.iadd, 1) := by decide +kernel
theorem dX7_choosesAt_34 : decode cX7_choosesAt 34 = .ok (.istore 6, 2) := by decide +kernel
theorem dX7_choosesAt_36 : decode cX7_choosesAt 36 = .ok (.iload 6, 2) := by decide +kernel
theorem dX7_choosesAt_38 : decode cX7_choosesAt 38 = .ok (.iload 5, 2) := by decide +kernel
theorem dX7_choosesAt_40 : decode cX7_choosesAt 40 = .ok (.if_icmp .gt 7, 3) := by decide +kernel
theorem dX7_choosesAt_43 : decode cX7_choosesAt 43 = .ok (.iconst 1, 1) := by decide +kernel
theorem dX7_choosesAt_44 : decode cX7_choosesAt 44 = .ok (.goto 4, 3) := by decide +kernel
theorem dX7_choosesAt_47 : decode cX7_choosesAt 47 = .ok (.iconst 0, 1) := by decide +kernel
theorem dX7_choosesAt_48 : decode cX7_choosesAt 48 = .ok (.istore 8, 2) := by decide +kernel
theorem dX7_choosesAt_50 : decode cX7_choosesAt 50 = .ok (.iload 7, 2) := by decide +kernel
theorem dX7_choosesAt_52 : decode cX7_choosesAt 52 = .ok (.iconst 1, 1) := by decide +kernel
theorem dX7_choosesAt_53 : decode cX7_choosesAt 53 = .ok (.if_icmp .le 9, 3) := by decide +kernel
theorem dX7_choosesAt_56 : decode cX7_choosesAt 56 = .ok (.iload 8, 2) := by decide +kernel
theorem dX7_choosesAt_58 : decode cX7_choosesAt 58 = .ok (.ifCond .ne 4, 3) := by decide +kernel
theorem dX7_choosesAt_61 : decode cX7_choosesAt 61 = .ok (.return_, 1) := by decide +kernel
theorem dX7_choosesAt_62 : decode cX7_choosesAt 62 = .ok (.iload 8, 2) := by decide +kernel
theorem dX7_choosesAt_64 : decode cX7_choosesAt 64 = .ok (.ifCond .eq 7, 3) := by decide +kernel
theorem dX7_choosesAt_67 : decode cX7_choosesAt 67 = .ok (.iconst 0, 1) := by decide +kernel
theorem dX7_choosesAt_68 : decode cX7_choosesAt 68 = .ok (.goto 4, 3) := by decide +kernel
theorem dX7_choosesAt_71 : decode cX7_choosesAt 71 = .ok (.iconst 1, 1) := by decide +kernel
theorem dX7_choosesAt_72 : decode cX7_choosesAt 72 = .ok (.istore 9, 2) := by decide +kernel
theorem dX7_choosesAt_74 : decode cX7_choosesAt 74 = .ok (.iload 4, 2) := by decide +kernel
theorem dX7_choosesAt_76 : decode cX7_choosesAt 76 = .ok (.ifCond .ne 8, 3) := by decide +kernel
theorem dX7_choosesAt_79 : decode cX7_choosesAt 79 = .ok (.iload 8, 2) := by decide +kernel
theorem dX7_choosesAt_81 : decode cX7_choosesAt 81 = .ok (.ifCond .ne 7, 3) := by decide +kernel
theorem dX7_choosesAt_84 : decode cX7_choosesAt 84 = .ok (.iconst 0, 1) := by decide +kernel
theorem dX7_choosesAt_85 : decode cX7_choosesAt 85 = .ok (.goto 14, 3) := by decide +kernel
theorem dX7_choosesAt_88 : decode cX7_choosesAt 88 = .ok (.iload 5, 2) := by decide +kernel
theorem dX7_choosesAt_90 : decode cX7_choosesAt 90 = .ok (.iload 6, 2) := by decide +kernel
theorem dX7_choosesAt_92 : decode cX7_choosesAt 92 = .ok (.isub, 1) := by decide +kernel
theorem dX7_choosesAt_93 : decode cX7_choosesAt 93 = .ok (.iload 5, 2) := by decide +kernel
theorem dX7_choosesAt_95 : decode cX7_choosesAt 95 = .ok (.iload 6, 2) := by decide +kernel
theorem dX7_choosesAt_97 : decode cX7_choosesAt 97 = .ok (.isub, 1) := by decide +kernel
theorem dX7_choosesAt_98 : decode cX7_choosesAt 98 = .ok (.imul, 1) := by decide +kernel
theorem dX7_choosesAt_99 : decode cX7_choosesAt 99 = .ok (.istore 10, 2) := by decide +kernel
theorem dX7_choosesAt_101 : decode cX7_choosesAt 101 = .ok (.iload 4, 2) := by decide +kernel
theorem dX7_choosesAt_103 : decode cX7_choosesAt 103 = .ok (.ifCond .eq 17, 3) := by decide +kernel
theorem dX7_choosesAt_106 : decode cX7_choosesAt 106 = .ok (.iload 7, 2) := by decide +kernel
theorem dX7_choosesAt_108 : decode cX7_choosesAt 108 = .ok (.iload_n 3, 1) := by decide +kernel
theorem dX7_choosesAt_109 : decode cX7_choosesAt 109 = .ok (.if_icmp .ne 7, 3) := by decide +kernel
theorem dX7_choosesAt_112 : decode cX7_choosesAt 112 = .ok (.iconst 1, 1) := by decide +kernel
theorem dX7_choosesAt_113 : decode cX7_choosesAt 113 = .ok (.goto 33, 3) := by decide +kernel
theorem dX7_choosesAt_116 : decode cX7_choosesAt 116 = .ok (.iconst 0, 1) := by decide +kernel
theorem dX7_choosesAt_117 : decode cX7_choosesAt 117 = .ok (.goto 29, 3) := by decide +kernel
theorem dX7_choosesAt_120 : decode cX7_choosesAt 120 = .ok (.iload 7, 2) := by decide +kernel
theorem dX7_choosesAt_122 : decode cX7_choosesAt 122 = .ok (.iload_n 3, 1) := by decide +kernel
theorem dX7_choosesAt_123 : decode cX7_choosesAt 123 = .ok (.if_icmp .ge 22, 3) := by decide +kernel
theorem dX7_choosesAt_126 : decode cX7_choosesAt 126 = .ok (.aload_n 0, 1) := by decide +kernel
theorem dX7_choosesAt_127 : decode cX7_choosesAt 127 = .ok (.getfield 65, 3) := by decide +kernel
theorem dX7_choosesAt_130 : decode cX7_choosesAt 130 = .ok (.iload_n 1, 1) := by decide +kernel
theorem dX7_choosesAt_131 : decode cX7_choosesAt 131 = .ok (.bipush 81, 2) := by decide +kernel
theorem dX7_choosesAt_133 : decode cX7_choosesAt 133 = .ok (.iadd, 1) := by decide +kernel
theorem dX7_choosesAt_134 : decode cX7_choosesAt 134 = .ok (.iload 7, 2) := by decide +kernel
theorem dX7_choosesAt_136 : decode cX7_choosesAt 136 = .ok (.iadd, 1) := by decide +kernel
theorem dX7_choosesAt_137 : decode cX7_choosesAt 137 = .ok (.iaload, 1) := by decide +kernel
theorem dX7_choosesAt_138 : decode cX7_choosesAt 138 = .ok (.ifCond .le 7, 3) := by decide +kernel
theorem dX7_choosesAt_141 : decode cX7_choosesAt 141 = .ok (.iconst 1, 1) := by decide +kernel
theorem dX7_choosesAt_142 : decode cX7_choosesAt 142 = .ok (.goto 4, 3) := by decide +kernel
theorem dX7_choosesAt_145 : decode cX7_choosesAt 145 = .ok (.iconst 0, 1) := by decide +kernel
theorem dX7_choosesAt_146 : decode cX7_choosesAt 146 = .ok (.istore 11, 2) := by decide +kernel
theorem dX7_choosesAt_148 : decode cX7_choosesAt 148 = .ok (.iload 11, 2) := by decide +kernel
theorem dX7_choosesAt_150 : decode cX7_choosesAt 150 = .ok (.ifCond .eq 42, 3) := by decide +kernel
theorem dX7_choosesAt_153 : decode cX7_choosesAt 153 = .ok (.iload 4, 2) := by decide +kernel
theorem dX7_choosesAt_155 : decode cX7_choosesAt 155 = .ok (.ifCond .ne 37, 3) := by decide +kernel
theorem dX7_choosesAt_158 : decode cX7_choosesAt 158 = .ok (.iload 9, 2) := by decide +kernel
theorem dX7_choosesAt_160 : decode cX7_choosesAt 160 = .ok (.aload_n 0, 1) := by decide +kernel
theorem dX7_choosesAt_161 : decode cX7_choosesAt 161 = .ok (.getfield 59, 3) := by decide +kernel
theorem dX7_choosesAt_164 : decode cX7_choosesAt 164 = .ok (.iload_n 1, 1) := by decide +kernel
theorem dX7_choosesAt_165 : decode cX7_choosesAt 165 = .ok (.bipush 81, 2) := by decide +kernel
theorem dX7_choosesAt_167 : decode cX7_choosesAt 167 = .ok (.iadd, 1) := by decide +kernel
theorem dX7_choosesAt_168 : decode cX7_choosesAt 168 = .ok (.iload 7, 2) := by decide +kernel
theorem dX7_choosesAt_170 : decode cX7_choosesAt 170 = .ok (.iadd, 1) := by decide +kernel
theorem dX7_choosesAt_171 : decode cX7_choosesAt 171 = .ok (.iaload, 1) := by decide +kernel
theorem dX7_choosesAt_172 : decode cX7_choosesAt 172 = .ok (.iadd, 1) := by decide +kernel
theorem dX7_choosesAt_173 : decode cX7_choosesAt 173 = .ok (.istore 9, 2) := by decide +kernel
theorem dX7_choosesAt_175 : decode cX7_choosesAt 175 = .ok (.iload 10, 2) := by decide +kernel
theorem dX7_choosesAt_177 : decode cX7_choosesAt 177 = .ok (.aload_n 0, 1) := by decide +kernel
theorem dX7_choosesAt_178 : decode cX7_choosesAt 178 = .ok (.getfield 62, 3) := by decide +kernel
theorem dX7_choosesAt_181 : decode cX7_choosesAt 181 = .ok (.iload_n 1, 1) := by decide +kernel
theorem dX7_choosesAt_182 : decode cX7_choosesAt 182 = .ok (.bipush 81, 2) := by decide +kernel
theorem dX7_choosesAt_184 : decode cX7_choosesAt 184 = .ok (.iadd, 1) := by decide +kernel
theorem dX7_choosesAt_185 : decode cX7_choosesAt 185 = .ok (.iload 7, 2) := by decide +kernel
theorem dX7_choosesAt_187 : decode cX7_choosesAt 187 = .ok (.iadd, 1) := by decide +kernel
theorem dX7_choosesAt_188 : decode cX7_choosesAt 188 = .ok (.iaload, 1) := by decide +kernel
theorem dX7_choosesAt_189 : decode cX7_choosesAt 189 = .ok (.iadd, 1) := by decide +kernel
theorem dX7_choosesAt_190 : decode cX7_choosesAt 190 = .ok (.istore 10, 2) := by decide +kernel
theorem dX7_choosesAt_192 : decode cX7_choosesAt 192 = .ok (.iload 11, 2) := by decide +kernel
theorem dX7_choosesAt_194 : decode cX7_choosesAt 194 = .ok (.ifCond .eq 69, 3) := by decide +kernel
theorem dX7_choosesAt_197 : decode cX7_choosesAt 197 = .ok (.aload_n 0, 1) := by decide +kernel
theorem dX7_choosesAt_198 : decode cX7_choosesAt 198 = .ok (.getfield 65, 3) := by decide +kernel
theorem dX7_choosesAt_201 : decode cX7_choosesAt 201 = .ok (.iload_n 1, 1) := by decide +kernel
theorem dX7_choosesAt_202 : decode cX7_choosesAt 202 = .ok (.iaload, 1) := by decide +kernel
theorem dX7_choosesAt_203 : decode cX7_choosesAt 203 = .ok (.ifCond .eq 36, 3) := by decide +kernel
theorem dX7_choosesAt_206 : decode cX7_choosesAt 206 = .ok (.iload 9, 2) := by decide +kernel
theorem dX7_choosesAt_208 : decode cX7_choosesAt 208 = .ok (.aload_n 0, 1) := by decide +kernel
theorem dX7_choosesAt_209 : decode cX7_choosesAt 209 = .ok (.getfield 59, 3) := by decide +kernel
theorem dX7_choosesAt_212 : decode cX7_choosesAt 212 = .ok (.iload_n 1, 1) := by decide +kernel
theorem dX7_choosesAt_213 : decode cX7_choosesAt 213 = .ok (.iaload, 1) := by decide +kernel
theorem dX7_choosesAt_214 : decode cX7_choosesAt 214 = .ok (.if_icmp .lt 25, 3) := by decide +kernel
theorem dX7_choosesAt_217 : decode cX7_choosesAt 217 = .ok (.iload 9, 2) := by decide +kernel
theorem dX7_choosesAt_219 : decode cX7_choosesAt 219 = .ok (.aload_n 0, 1) := by decide +kernel
theorem dX7_choosesAt_220 : decode cX7_choosesAt 220 = .ok (.getfield 59, 3) := by decide +kernel
theorem dX7_choosesAt_223 : decode cX7_choosesAt 223 = .ok (.iload_n 1, 1) := by decide +kernel
theorem dX7_choosesAt_224 : decode cX7_choosesAt 224 = .ok (.iaload, 1) := by decide +kernel
theorem dX7_choosesAt_225 : decode cX7_choosesAt 225 = .ok (.if_icmp .ne 38, 3) := by decide +kernel
theorem dX7_choosesAt_228 : decode cX7_choosesAt 228 = .ok (.iload 10, 2) := by decide +kernel
theorem dX7_choosesAt_230 : decode cX7_choosesAt 230 = .ok (.aload_n 0, 1) := by decide +kernel
theorem dX7_choosesAt_231 : decode cX7_choosesAt 231 = .ok (.getfield 62, 3) := by decide +kernel
theorem dX7_choosesAt_234 : decode cX7_choosesAt 234 = .ok (.iload_n 1, 1) := by decide +kernel
theorem dX7_choosesAt_235 : decode cX7_choosesAt 235 = .ok (.iaload, 1) := by decide +kernel
theorem dX7_choosesAt_236 : decode cX7_choosesAt 236 = .ok (.if_icmp .gt 27, 3) := by decide +kernel
theorem dX7_choosesAt_239 : decode cX7_choosesAt 239 = .ok (.aload_n 0, 1) := by decide +kernel
theorem dX7_choosesAt_240 : decode cX7_choosesAt 240 = .ok (.getfield 65, 3) := by decide +kernel
theorem dX7_choosesAt_243 : decode cX7_choosesAt 243 = .ok (.iload_n 1, 1) := by decide +kernel
theorem dX7_choosesAt_244 : decode cX7_choosesAt 244 = .ok (.iload 7, 2) := by decide +kernel
theorem dX7_choosesAt_246 : decode cX7_choosesAt 246 = .ok (.iastore, 1) := by decide +kernel
theorem dX7_choosesAt_247 : decode cX7_choosesAt 247 = .ok (.aload_n 0, 1) := by decide +kernel
theorem dX7_choosesAt_248 : decode cX7_choosesAt 248 = .ok (.getfield 59, 3) := by decide +kernel
theorem dX7_choosesAt_251 : decode cX7_choosesAt 251 = .ok (.iload_n 1, 1) := by decide +kernel
theorem dX7_choosesAt_252 : decode cX7_choosesAt 252 = .ok (.iload 9, 2) := by decide +kernel
theorem dX7_choosesAt_254 : decode cX7_choosesAt 254 = .ok (.iastore, 1) := by decide +kernel
theorem dX7_choosesAt_255 : decode cX7_choosesAt 255 = .ok (.aload_n 0, 1) := by decide +kernel
theorem dX7_choosesAt_256 : decode cX7_choosesAt 256 = .ok (.getfield 62, 3) := by decide +kernel
theorem dX7_choosesAt_259 : decode cX7_choosesAt 259 = .ok (.iload_n 1, 1) := by decide +kernel
theorem dX7_choosesAt_260 : decode cX7_choosesAt 260 = .ok (.iload 10, 2) := by decide +kernel
theorem dX7_choosesAt_262 : decode cX7_choosesAt 262 = .ok (.iastore, 1) := by decide +kernel
theorem dX7_choosesAt_263 : decode cX7_choosesAt 263 = .ok (.iinc 7 1, 3) := by decide +kernel
theorem dX7_choosesAt_266 : decode cX7_choosesAt 266 = .ok (.goto (-253), 3) := by decide +kernel
theorem dX7_choosesAt_269 : decode cX7_choosesAt 269 = .ok (.return_, 1) := by decide +kernel
theorem dX7_lays_0 : decode cX7_lays 0 = .ok (.aload_n 0, 1) := by decide +kernel
theorem dX7_lays_1 : decode cX7_lays 1 = .ok (.iconst 0, 1) := by decide +kernel
theorem dX7_lays_2 : decode cX7_lays 2 = .ok (.putfield 214, 3) := by decide +kernel
theorem dX7_lays_5 : decode cX7_lays 5 = .ok (.iconst 0, 1) := by decide +kernel
theorem dX7_lays_6 : decode cX7_lays 6 = .ok (.istore_n 1, 1) := by decide +kernel
theorem dX7_lays_7 : decode cX7_lays 7 = .ok (.iload_n 1, 1) := by decide +kernel
theorem dX7_lays_8 : decode cX7_lays 8 = .ok (.aload_n 0, 1) := by decide +kernel
theorem dX7_lays_9 : decode cX7_lays 9 = .ok (.getfield 7, 3) := by decide +kernel
theorem dX7_lays_12 : decode cX7_lays 12 = .ok (.iconst 0, 1) := by decide +kernel
theorem dX7_lays_13 : decode cX7_lays 13 = .ok (.iaload, 1) := by decide +kernel
theorem dX7_lays_14 : decode cX7_lays 14 = .ok (.if_icmp .ge 192, 3) := by decide +kernel
theorem dX7_lays_17 : decode cX7_lays 17 = .ok (.aload_n 0, 1) := by decide +kernel
theorem dX7_lays_18 : decode cX7_lays 18 = .ok (.getfield 214, 3) := by decide +kernel
theorem dX7_lays_21 : decode cX7_lays 21 = .ok (.istore_n 2, 1) := by decide +kernel
theorem dX7_lays_22 : decode cX7_lays 22 = .ok (.aload_n 0, 1) := by decide +kernel
theorem dX7_lays_23 : decode cX7_lays 23 = .ok (.getfield 7, 3) := by decide +kernel
theorem dX7_lays_26 : decode cX7_lays 26 = .ok (.sipush 590, 3) := by decide +kernel
theorem dX7_lays_29 : decode cX7_lays 29 = .ok (.iaload, 1) := by decide +kernel
theorem dX7_lays_30 : decode cX7_lays 30 = .ok (.iconst 1, 1) := by decide +kernel
theorem dX7_lays_31 : decode cX7_lays 31 = .ok (.if_icmp .eq 25, 3) := by decide +kernel
theorem dX7_lays_34 : decode cX7_lays 34 = .ok (.aload_n 0, 1) := by decide +kernel
theorem dX7_lays_35 : decode cX7_lays 35 = .ok (.getfield 7, 3) := by decide +kernel
theorem dX7_lays_38 : decode cX7_lays 38 = .ok (.sipush 590, 3) := by decide +kernel
theorem dX7_lays_41 : decode cX7_lays 41 = .ok (.iaload, 1) := by decide +kernel
theorem dX7_lays_42 : decode cX7_lays 42 = .ok (.iconst 2, 1) := by decide +kernel
theorem dX7_lays_43 : decode cX7_lays 43 = .ok (.if_icmp .ne 45, 3) := by decide +kernel
theorem dX7_lays_46 : decode cX7_lays 46 = .ok (.aload_n 0, 1) := by decide +kernel
theorem dX7_lays_47 : decode cX7_lays 47 = .ok (.iload_n 1, 1) := by decide +kernel
theorem dX7_lays_48 : decode cX7_lays 48 = .ok (.invokevirtual 174, 3) := by decide +kernel
theorem dX7_lays_51 : decode cX7_lays 51 = .ok (.bipush (-4), 2) := by decide +kernel
theorem dX7_lays_53 : decode cX7_lays 53 = .ok (.if_icmp .eq 35, 3) := by decide +kernel
theorem dX7_lays_56 : decode cX7_lays 56 = .ok (.iconst 0, 1) := by decide +kernel
theorem dX7_lays_57 : decode cX7_lays 57 = .ok (.istore_n 3, 1) := by decide +kernel
theorem dX7_lays_58 : decode cX7_lays 58 = .ok (.iload_n 3, 1) := by decide +kernel
theorem dX7_lays_59 : decode cX7_lays 59 = .ok (.iload_n 1, 1) := by decide +kernel
theorem dX7_lays_60 : decode cX7_lays 60 = .ok (.if_icmp .ge 28, 3) := by decide +kernel
theorem dX7_lays_63 : decode cX7_lays 63 = .ok (.aload_n 0, 1) := by decide +kernel
theorem dX7_lays_64 : decode cX7_lays 64 = .ok (.iload_n 3, 1) := by decide +kernel
theorem dX7_lays_65 : decode cX7_lays 65 = .ok (.invokevirtual 217, 3) := by decide +kernel
theorem dX7_lays_68 : decode cX7_lays 68 = .ok (.iload_n 2, 1) := by decide +kernel
theorem dX7_lays_69 : decode cX7_lays 69 = .ok (.if_icmp .le 11, 3) := by decide +kernel
theorem dX7_lays_72 : decode cX7_lays 72 = .ok (.aload_n 0, 1) := by decide +kernel
theorem dX7_lays_73 : decode cX7_lays 73 = .ok (.iload_n 3, 1) := by decide +kernel
theorem dX7_lays_74 : decode cX7_lays 74 = .ok (.invokevirtual 217, 3) := by decide +kernel
theorem dX7_lays_77 : decode cX7_lays 77 = .ok (.goto 4, 3) := by decide +kernel
theorem dX7_lays_80 : decode cX7_lays 80 = .ok (.iload_n 2, 1) := by decide +kernel
theorem dX7_lays_81 : decode cX7_lays 81 = .ok (.istore_n 2, 1) := by decide +kernel
theorem dX7_lays_82 : decode cX7_lays 82 = .ok (.iinc 3 1, 3) := by decide +kernel
theorem dX7_lays_85 : decode cX7_lays 85 = .ok (.goto (-27), 3) := by decide +kernel
theorem dX7_lays_88 : decode cX7_lays 88 = .ok (.aload_n 0, 1) := by decide +kernel
theorem dX7_lays_89 : decode cX7_lays 89 = .ok (.getfield 214, 3) := by decide +kernel
theorem dX7_lays_92 : decode cX7_lays 92 = .ok (.istore_n 3, 1) := by decide +kernel
theorem dX7_lays_93 : decode cX7_lays 93 = .ok (.iload_n 3, 1) := by decide +kernel
theorem dX7_lays_94 : decode cX7_lays 94 = .ok (.iload_n 2, 1) := by decide +kernel
theorem dX7_lays_95 : decode cX7_lays 95 = .ok (.if_icmp .ge 17, 3) := by decide +kernel
theorem dX7_lays_98 : decode cX7_lays 98 = .ok (.aload_n 0, 1) := by decide +kernel
theorem dX7_lays_99 : decode cX7_lays 99 = .ok (.getfield 47, 3) := by decide +kernel
theorem dX7_lays_102 : decode cX7_lays 102 = .ok (.iload_n 3, 1) := by decide +kernel
theorem dX7_lays_103 : decode cX7_lays 103 = .ok (.bipush (-4), 2) := by decide +kernel
theorem dX7_lays_105 : decode cX7_lays 105 = .ok (.iastore, 1) := by decide +kernel
theorem dX7_lays_106 : decode cX7_lays 106 = .ok (.iinc 3 1, 3) := by decide +kernel
theorem dX7_lays_109 : decode cX7_lays 109 = .ok (.goto (-16), 3) := by decide +kernel
theorem dX7_lays_112 : decode cX7_lays 112 = .ok (.aload_n 0, 1) := by decide +kernel
theorem dX7_lays_113 : decode cX7_lays 113 = .ok (.getfield 41, 3) := by decide +kernel
theorem dX7_lays_116 : decode cX7_lays 116 = .ok (.iload_n 1, 1) := by decide +kernel
theorem dX7_lays_117 : decode cX7_lays 117 = .ok (.iload_n 2, 1) := by decide +kernel
theorem dX7_lays_118 : decode cX7_lays 118 = .ok (.iastore, 1) := by decide +kernel
theorem dX7_lays_119 : decode cX7_lays 119 = .ok (.aload_n 0, 1) := by decide +kernel
theorem dX7_lays_120 : decode cX7_lays 120 = .ok (.getfield 44, 3) := by decide +kernel
theorem dX7_lays_123 : decode cX7_lays 123 = .ok (.iload_n 1, 1) := by decide +kernel
theorem dX7_lays_124 : decode cX7_lays 124 = .ok (.aload_n 0, 1) := by decide +kernel
theorem dX7_lays_125 : decode cX7_lays 125 = .ok (.iload_n 1, 1) := by decide +kernel
theorem dX7_lays_126 : decode cX7_lays 126 = .ok (.invokevirtual 220, 3) := by decide +kernel
theorem dX7_lays_129 : decode cX7_lays 129 = .ok (.iastore, 1) := by decide +kernel
theorem dX7_lays_130 : decode cX7_lays 130 = .ok (.aload_n 0, 1) := by decide +kernel
theorem dX7_lays_131 : decode cX7_lays 131 = .ok (.getfield 7, 3) := by decide +kernel
theorem dX7_lays_134 : decode cX7_lays 134 = .ok (.sipush 589, 3) := by decide +kernel
theorem dX7_lays_137 : decode cX7_lays 137 = .ok (.iaload, 1) := by decide +kernel
theorem dX7_lays_138 : decode cX7_lays 138 = .ok (.iconst 1, 1) := by decide +kernel
theorem dX7_lays_139 : decode cX7_lays 139 = .ok (.if_icmp .ne 14, 3) := by decide +kernel
theorem dX7_lays_142 : decode cX7_lays 142 = .ok (.aload_n 0, 1) := by decide +kernel
theorem dX7_lays_143 : decode cX7_lays 143 = .ok (.iload_n 1, 1) := by decide +kernel
theorem dX7_lays_144 : decode cX7_lays 144 = .ok (.aload_n 0, 1) := by decide +kernel
theorem dX7_lays_145 : decode cX7_lays 145 = .ok (.getfield 44, 3) := by decide +kernel
theorem dX7_lays_148 : decode cX7_lays 148 = .ok (.iload_n 1, 1) := by decide +kernel
theorem dX7_lays_149 : decode cX7_lays 149 = .ok (.iaload, 1) := by decide +kernel
theorem dX7_lays_150 : decode cX7_lays 150 = .ok (.invokevirtual 223, 3) := by decide +kernel
theorem dX7_lays_153 : decode cX7_lays 153 = .ok (.aload_n 0, 1) := by decide +kernel
theorem dX7_lays_154 : decode cX7_lays 154 = .ok (.iload_n 2, 1) := by decide +kernel
theorem dX7_lays_155 : decode cX7_lays 155 = .ok (.aload_n 0, 1) := by decide +kernel
theorem dX7_lays_156 : decode cX7_lays 156 = .ok (.getfield 44, 3) := by decide +kernel
theorem dX7_lays_159 : decode cX7_lays 159 = .ok (.iload_n 1, 1) := by decide +kernel
theorem dX7_lays_160 : decode cX7_lays 160 = .ok (.iaload, 1) := by decide +kernel
theorem dX7_lays_161 : decode cX7_lays 161 = .ok (.iadd, 1) := by decide +kernel
theorem dX7_lays_162 : decode cX7_lays 162 = .ok (.putfield 214, 3) := by decide +kernel
theorem dX7_lays_165 : decode cX7_lays 165 = .ok (.iload_n 2, 1) := by decide +kernel
theorem dX7_lays_166 : decode cX7_lays 166 = .ok (.istore_n 3, 1) := by decide +kernel
theorem dX7_lays_167 : decode cX7_lays 167 = .ok (.iload_n 3, 1) := by decide +kernel
theorem dX7_lays_168 : decode cX7_lays 168 = .ok (.aload_n 0, 1) := by decide +kernel
theorem dX7_lays_169 : decode cX7_lays 169 = .ok (.getfield 214, 3) := by decide +kernel
theorem dX7_lays_172 : decode cX7_lays 172 = .ok (.if_icmp .ge 28, 3) := by decide +kernel
theorem dX7_lays_175 : decode cX7_lays 175 = .ok (.aload_n 0, 1) := by decide +kernel
theorem dX7_lays_176 : decode cX7_lays 176 = .ok (.getfield 47, 3) := by decide +kernel
theorem dX7_lays_179 : decode cX7_lays 179 = .ok (.iload_n 3, 1) := by decide +kernel
theorem dX7_lays_180 : decode cX7_lays 180 = .ok (.iload_n 1, 1) := by decide +kernel
theorem dX7_lays_181 : decode cX7_lays 181 = .ok (.iastore, 1) := by decide +kernel
theorem dX7_lays_182 : decode cX7_lays 182 = .ok (.aload_n 0, 1) := by decide +kernel
theorem dX7_lays_183 : decode cX7_lays 183 = .ok (.getfield 56, 3) := by decide +kernel
theorem dX7_lays_186 : decode cX7_lays 186 = .ok (.iload_n 3, 1) := by decide +kernel
theorem dX7_lays_187 : decode cX7_lays 187 = .ok (.aload_n 0, 1) := by decide +kernel
theorem dX7_lays_188 : decode cX7_lays 188 = .ok (.iload_n 1, 1) := by decide +kernel
theorem dX7_lays_189 : decode cX7_lays 189 = .ok (.iload_n 3, 1) := by decide +kernel
theorem dX7_lays_190 : decode cX7_lays 190 = .ok (.invokevirtual 198, 3) := by decide +kernel
theorem dX7_lays_193 : decode cX7_lays 193 = .ok (.iastore, 1) := by decide +kernel
theorem dX7_lays_194 : decode cX7_lays 194 = .ok (.iinc 3 1, 3) := by decide +kernel
theorem dX7_lays_197 : decode cX7_lays 197 = .ok (.goto (-30), 3) := by decide +kernel
theorem dX7_lays_200 : decode cX7_lays 200 = .ok (.iinc 1 1, 3) := by decide +kernel
theorem dX7_lays_203 : decode cX7_lays 203 = .ok (.goto (-196), 3) := by decide +kernel
theorem dX7_lays_206 : decode cX7_lays 206 = .ok (.return_, 1) := by decide +kernel
theorem dX7_isOver_0 : decode cX7_isOver 0 = .ok (.aload_n 0, 1) := by decide +kernel
theorem dX7_isOver_1 : decode cX7_isOver 1 = .ok (.aload_n 0, 1) := by decide +kernel
theorem dX7_isOver_2 : decode cX7_isOver 2 = .ok (.getfield 50, 3) := by decide +kernel
theorem dX7_isOver_5 : decode cX7_isOver 5 = .ok (.iload_n 1, 1) := by decide +kernel
theorem dX7_isOver_6 : decode cX7_isOver 6 = .ok (.iaload, 1) := by decide +kernel
theorem dX7_isOver_7 : decode cX7_isOver 7 = .ok (.aload_n 0, 1) := by decide +kernel
theorem dX7_isOver_8 : decode cX7_isOver 8 = .ok (.getfield 53, 3) := by decide +kernel
theorem dX7_isOver_11 : decode cX7_isOver 11 = .ok (.iload_n 1, 1) := by decide +kernel
theorem dX7_isOver_12 : decode cX7_isOver 12 = .ok (.iaload, 1) := by decide +kernel
theorem dX7_isOver_13 : decode cX7_isOver 13 = .ok (.invokevirtual 207, 3) := by decide +kernel
theorem dX7_isOver_16 : decode cX7_isOver 16 = .ok (.aload_n 0, 1) := by decide +kernel
theorem dX7_isOver_17 : decode cX7_isOver 17 = .ok (.aload_n 0, 1) := by decide +kernel
theorem dX7_isOver_18 : decode cX7_isOver 18 = .ok (.getfield 47, 3) := by decide +kernel
theorem dX7_isOver_21 : decode cX7_isOver 21 = .ok (.iload_n 1, 1) := by decide +kernel
theorem dX7_isOver_22 : decode cX7_isOver 22 = .ok (.iaload, 1) := by decide +kernel
theorem dX7_isOver_23 : decode cX7_isOver 23 = .ok (.iload_n 1, 1) := by decide +kernel
theorem dX7_isOver_24 : decode cX7_isOver 24 = .ok (.invokevirtual 204, 3) := by decide +kernel
theorem dX7_isOver_27 : decode cX7_isOver 27 = .ok (.if_icmp .le 7, 3) := by decide +kernel
theorem dX7_isOver_30 : decode cX7_isOver 30 = .ok (.iconst 1, 1) := by decide +kernel
theorem dX7_isOver_31 : decode cX7_isOver 31 = .ok (.goto 4, 3) := by decide +kernel
theorem dX7_isOver_34 : decode cX7_isOver 34 = .ok (.iconst 0, 1) := by decide +kernel
theorem dX7_isOver_35 : decode cX7_isOver 35 = .ok (.ireturn, 1) := by decide +kernel
theorem dX7_isClash_0 : decode cX7_isClash 0 = .ok (.iconst 0, 1) := by decide +kernel
theorem dX7_isClash_1 : decode cX7_isClash 1 = .ok (.istore_n 2, 1) := by decide +kernel
theorem dX7_isClash_2 : decode cX7_isClash 2 = .ok (.iconst 0, 1) := by decide +kernel
theorem dX7_isClash_3 : decode cX7_isClash 3 = .ok (.istore_n 3, 1) := by decide +kernel
theorem dX7_isClash_4 : decode cX7_isClash 4 = .ok (.iload_n 3, 1) := by decide +kernel
theorem dX7_isClash_5 : decode cX7_isClash 5 = .ok (.aload_n 0, 1) := by decide +kernel
theorem dX7_isClash_6 : decode cX7_isClash 6 = .ok (.getfield 47, 3) := by decide +kernel
theorem dX7_isClash_9 : decode cX7_isClash 9 = .ok (.iload_n 1, 1) := by decide +kernel
theorem dX7_isClash_10 : decode cX7_isClash 10 = .ok (.iaload, 1) := by decide +kernel
theorem dX7_isClash_11 : decode cX7_isClash 11 = .ok (.if_icmp .ge 46, 3) := by decide +kernel
theorem dX7_isClash_14 : decode cX7_isClash 14 = .ok (.aload_n 0, 1) := by decide +kernel
theorem dX7_isClash_15 : decode cX7_isClash 15 = .ok (.getfield 7, 3) := by decide +kernel
theorem dX7_isClash_18 : decode cX7_isClash 18 = .ok (.sipush 590, 3) := by decide +kernel
theorem dX7_isClash_21 : decode cX7_isClash 21 = .ok (.iaload, 1) := by decide +kernel
theorem dX7_isClash_22 : decode cX7_isClash 22 = .ok (.ifCond .ne 35, 3) := by decide +kernel
theorem dX7_isClash_25 : decode cX7_isClash 25 = .ok (.iload_n 2, 1) := by decide +kernel
theorem dX7_isClash_26 : decode cX7_isClash 26 = .ok (.ifCond .ne 19, 3) := by decide +kernel
theorem dX7_isClash_29 : decode cX7_isClash 29 = .ok (.aload_n 0, 1) := by decide +kernel
theorem dX7_isClash_30 : decode cX7_isClash 30 = .ok (.iload_n 3, 1) := by decide +kernel
theorem dX7_isClash_31 : decode cX7_isClash 31 = .ok (.iload_n 1, 1) := by decide +kernel
theorem dX7_isClash_32 : decode cX7_isClash 32 = .ok (.aload_n 0, 1) := by decide +kernel
theorem dX7_isClash_33 : decode cX7_isClash 33 = .ok (.getfield 41, 3) := by decide +kernel
theorem dX7_isClash_36 : decode cX7_isClash 36 = .ok (.iload_n 3, 1) := by decide +kernel
theorem dX7_isClash_37 : decode cX7_isClash 37 = .ok (.iaload, 1) := by decide +kernel
theorem dX7_isClash_38 : decode cX7_isClash 38 = .ok (.isub, 1) := by decide +kernel
theorem dX7_isClash_39 : decode cX7_isClash 39 = .ok (.invokevirtual 192, 3) := by decide +kernel
theorem dX7_isClash_42 : decode cX7_isClash 42 = .ok (.ifCond .le 7, 3) := by decide +kernel
theorem dX7_isClash_45 : decode cX7_isClash 45 = .ok (.iconst 1, 1) := by decide +kernel
theorem dX7_isClash_46 : decode cX7_isClash 46 = .ok (.goto 4, 3) := by decide +kernel
theorem dX7_isClash_49 : decode cX7_isClash 49 = .ok (.iconst 0, 1) := by decide +kernel
theorem dX7_isClash_50 : decode cX7_isClash 50 = .ok (.istore_n 2, 1) := by decide +kernel
theorem dX7_isClash_51 : decode cX7_isClash 51 = .ok (.iinc 3 1, 3) := by decide +kernel
theorem dX7_isClash_54 : decode cX7_isClash 54 = .ok (.goto (-50), 3) := by decide +kernel
theorem dX7_isClash_57 : decode cX7_isClash 57 = .ok (.iload_n 2, 1) := by decide +kernel
theorem dX7_isClash_58 : decode cX7_isClash 58 = .ok (.ireturn, 1) := by decide +kernel
theorem dX7_counted_0 : decode cX7_counted 0 = .ok (.iconst 0, 1) := by decide +kernel
theorem dX7_counted_1 : decode cX7_counted 1 = .ok (.istore_n 2, 1) := by decide +kernel
theorem dX7_counted_2 : decode cX7_counted 2 = .ok (.iconst 0, 1) := by decide +kernel
theorem dX7_counted_3 : decode cX7_counted 3 = .ok (.istore_n 3, 1) := by decide +kernel
theorem dX7_counted_4 : decode cX7_counted 4 = .ok (.iload_n 3, 1) := by decide +kernel
theorem dX7_counted_5 : decode cX7_counted 5 = .ok (.aload_n 0, 1) := by decide +kernel
theorem dX7_counted_6 : decode cX7_counted 6 = .ok (.getfield 214, 3) := by decide +kernel
theorem dX7_counted_9 : decode cX7_counted 9 = .ok (.if_icmp .ge 83, 3) := by decide +kernel
theorem dX7_counted_12 : decode cX7_counted 12 = .ok (.aload_n 0, 1) := by decide +kernel
theorem dX7_counted_13 : decode cX7_counted 13 = .ok (.getfield 47, 3) := by decide +kernel
theorem dX7_counted_16 : decode cX7_counted 16 = .ok (.iload_n 3, 1) := by decide +kernel
theorem dX7_counted_17 : decode cX7_counted 17 = .ok (.iaload, 1) := by decide +kernel
theorem dX7_counted_18 : decode cX7_counted 18 = .ok (.bipush (-4), 2) := by decide +kernel
theorem dX7_counted_20 : decode cX7_counted 20 = .ok (.if_icmp .ne 7, 3) := by decide +kernel
theorem dX7_counted_23 : decode cX7_counted 23 = .ok (.iconst 1, 1) := by decide +kernel
theorem dX7_counted_24 : decode cX7_counted 24 = .ok (.goto 4, 3) := by decide +kernel
theorem dX7_counted_27 : decode cX7_counted 27 = .ok (.iconst 0, 1) := by decide +kernel
theorem dX7_counted_28 : decode cX7_counted 28 = .ok (.istore 4, 2) := by decide +kernel
theorem dX7_counted_30 : decode cX7_counted 30 = .ok (.iload_n 2, 1) := by decide +kernel
theorem dX7_counted_31 : decode cX7_counted 31 = .ok (.iload_n 1, 1) := by decide +kernel
theorem dX7_counted_32 : decode cX7_counted 32 = .ok (.iconst 4, 1) := by decide +kernel
theorem dX7_counted_33 : decode cX7_counted 33 = .ok (.if_icmp .eq 46, 3) := by decide +kernel
theorem dX7_counted_36 : decode cX7_counted 36 = .ok (.iload_n 1, 1) := by decide +kernel
theorem dX7_counted_37 : decode cX7_counted 37 = .ok (.iconst 5, 1) := by decide +kernel
theorem dX7_counted_38 : decode cX7_counted 38 = .ok (.if_icmp .ne 11, 3) := by decide +kernel
theorem dX7_counted_41 : decode cX7_counted 41 = .ok (.iload 4, 2) := by decide +kernel
theorem dX7_counted_43 : decode cX7_counted 43 = .ok (.ifCond .eq 40, 3) := by decide +kernel
theorem dX7_counted_46 : decode cX7_counted 46 = .ok (.goto 33, 3) := by decide +kernel
theorem dX7_counted_49 : decode cX7_counted 49 = .ok (.iload 4, 2) := by decide +kernel
theorem dX7_counted_51 : decode cX7_counted 51 = .ok (.ifCond .ne 32, 3) := by decide +kernel
theorem dX7_counted_54 : decode cX7_counted 54 = .ok (.iload_n 1, 1) := by decide +kernel
theorem dX7_counted_55 : decode cX7_counted 55 = .ok (.bipush 6, 2) := by decide +kernel
theorem dX7_counted_57 : decode cX7_counted 57 = .ok (.if_icmp .ne 14, 3) := by decide +kernel
theorem dX7_counted_60 : decode cX7_counted 60 = .ok (.aload_n 0, 1) := by decide +kernel
theorem dX7_counted_61 : decode cX7_counted 61 = .ok (.iload_n 3, 1) := by decide +kernel
theorem dX7_counted_62 : decode cX7_counted 62 = .ok (.invokevirtual 227, 3) := by decide +kernel
theorem dX7_counted_65 : decode cX7_counted 65 = .ok (.ifCond .eq 18, 3) := by decide +kernel
theorem dX7_counted_68 : decode cX7_counted 68 = .ok (.goto 11, 3) := by decide +kernel
theorem dX7_counted_71 : decode cX7_counted 71 = .ok (.aload_n 0, 1) := by decide +kernel
theorem dX7_counted_72 : decode cX7_counted 72 = .ok (.iload_n 3, 1) := by decide +kernel
theorem dX7_counted_73 : decode cX7_counted 73 = .ok (.invokevirtual 230, 3) := by decide +kernel
theorem dX7_counted_76 : decode cX7_counted 76 = .ok (.ifCond .eq 7, 3) := by decide +kernel
theorem dX7_counted_79 : decode cX7_counted 79 = .ok (.iconst 1, 1) := by decide +kernel
theorem dX7_counted_80 : decode cX7_counted 80 = .ok (.goto 4, 3) := by decide +kernel
theorem dX7_counted_83 : decode cX7_counted 83 = .ok (.iconst 0, 1) := by decide +kernel
theorem dX7_counted_84 : decode cX7_counted 84 = .ok (.iadd, 1) := by decide +kernel
theorem dX7_counted_85 : decode cX7_counted 85 = .ok (.istore_n 2, 1) := by decide +kernel
theorem dX7_counted_86 : decode cX7_counted 86 = .ok (.iinc 3 1, 3) := by decide +kernel
theorem dX7_counted_89 : decode cX7_counted 89 = .ok (.goto (-85), 3) := by decide +kernel
theorem dX7_counted_92 : decode cX7_counted 92 = .ok (.iload_n 2, 1) := by decide +kernel
theorem dX7_counted_93 : decode cX7_counted 93 = .ok (.ireturn, 1) := by decide +kernel
theorem dX7_allWords_0 : decode cX7_allWords 0 = .ok (.aload_n 0, 1) := by decide +kernel
theorem dX7_allWords_1 : decode cX7_allWords 1 = .ok (.aload_n 0, 1) := by decide +kernel
theorem dX7_allWords_2 : decode cX7_allWords 2 = .ok (.getfield 7, 3) := by decide +kernel
theorem dX7_allWords_5 : decode cX7_allWords 5 = .ok (.iconst 0, 1) := by decide +kernel
theorem dX7_allWords_6 : decode cX7_allWords 6 = .ok (.iaload, 1) := by decide +kernel
theorem dX7_allWords_7 : decode cX7_allWords 7 = .ok (.invokevirtual 201, 3) := by decide +kernel
theorem dX7_allWords_10 : decode cX7_allWords 10 = .ok (.ireturn, 1) := by decide +kernel
theorem dX7_isLikeWord_0 : decode cX7_isLikeWord 0 = .ok (.iconst 1, 1) := by decide +kernel
theorem dX7_isLikeWord_1 : decode cX7_isLikeWord 1 = .ok (.istore_n 3, 1) := by decide +kernel
theorem dX7_isLikeWord_2 : decode cX7_isLikeWord 2 = .ok (.iconst 0, 1) := by decide +kernel
theorem dX7_isLikeWord_3 : decode cX7_isLikeWord 3 = .ok (.istore 4, 2) := by decide +kernel
theorem dX7_isLikeWord_5 : decode cX7_isLikeWord 5 = .ok (.iload 4, 2) := by decide +kernel
theorem dX7_isLikeWord_7 : decode cX7_isLikeWord 7 = .ok (.bipush 7, 2) := by decide +kernel
theorem dX7_isLikeWord_9 : decode cX7_isLikeWord 9 = .ok (.if_icmp .ge 52, 3) := by decide +kernel
theorem dX7_isLikeWord_12 : decode cX7_isLikeWord 12 = .ok (.iload_n 3, 1) := by decide +kernel
theorem dX7_isLikeWord_13 : decode cX7_isLikeWord 13 = .ok (.ifCond .eq 40, 3) := by decide +kernel
theorem dX7_isLikeWord_16 : decode cX7_isLikeWord 16 = .ok (.aload_n 0, 1) := by decide +kernel
theorem dX7_isLikeWord_17 : decode cX7_isLikeWord 17 = .ok (.getfield 7, 3) := by decide +kernel
theorem dX7_isLikeWord_20 : decode cX7_isLikeWord 20 = .ok (.bipush 25, 2) := by decide +kernel
theorem dX7_isLikeWord_22 : decode cX7_isLikeWord 22 = .ok (.bipush 7, 2) := by decide +kernel
theorem dX7_isLikeWord_24 : decode cX7_isLikeWord 24 = .ok (.iload_n 1, 1) := by decide +kernel
theorem dX7_isLikeWord_25 : decode cX7_isLikeWord 25 = .ok (.imul, 1) := by decide +kernel
theorem dX7_isLikeWord_26 : decode cX7_isLikeWord 26 = .ok (.iadd, 1) := by decide +kernel
theorem dX7_isLikeWord_27 : decode cX7_isLikeWord 27 = .ok (.iload 4, 2) := by decide +kernel
theorem dX7_isLikeWord_29 : decode cX7_isLikeWord 29 = .ok (.iadd, 1) := by decide +kernel
theorem dX7_isLikeWord_30 : decode cX7_isLikeWord 30 = .ok (.iaload, 1) := by decide +kernel
theorem dX7_isLikeWord_31 : decode cX7_isLikeWord 31 = .ok (.aload_n 0, 1) := by decide +kernel
theorem dX7_isLikeWord_32 : decode cX7_isLikeWord 32 = .ok (.getfield 7, 3) := by decide +kernel
theorem dX7_isLikeWord_35 : decode cX7_isLikeWord 35 = .ok (.bipush 25, 2) := by decide +kernel
theorem dX7_isLikeWord_37 : decode cX7_isLikeWord 37 = .ok (.bipush 7, 2) := by decide +kernel
theorem dX7_isLikeWord_39 : decode cX7_isLikeWord 39 = .ok (.iload_n 2, 1) := by decide +kernel
theorem dX7_isLikeWord_40 : decode cX7_isLikeWord 40 = .ok (.imul, 1) := by decide +kernel
theorem dX7_isLikeWord_41 : decode cX7_isLikeWord 41 = .ok (.iadd, 1) := by decide +kernel
theorem dX7_isLikeWord_42 : decode cX7_isLikeWord 42 = .ok (.iload 4, 2) := by decide +kernel
theorem dX7_isLikeWord_44 : decode cX7_isLikeWord 44 = .ok (.iadd, 1) := by decide +kernel
theorem dX7_isLikeWord_45 : decode cX7_isLikeWord 45 = .ok (.iaload, 1) := by decide +kernel
theorem dX7_isLikeWord_46 : decode cX7_isLikeWord 46 = .ok (.if_icmp .ne 7, 3) := by decide +kernel
theorem dX7_isLikeWord_49 : decode cX7_isLikeWord 49 = .ok (.iconst 1, 1) := by decide +kernel
theorem dX7_isLikeWord_50 : decode cX7_isLikeWord 50 = .ok (.goto 4, 3) := by decide +kernel
theorem dX7_isLikeWord_53 : decode cX7_isLikeWord 53 = .ok (.iconst 0, 1) := by decide +kernel
theorem dX7_isLikeWord_54 : decode cX7_isLikeWord 54 = .ok (.istore_n 3, 1) := by decide +kernel
theorem dX7_isLikeWord_55 : decode cX7_isLikeWord 55 = .ok (.iinc 4 1, 3) := by decide +kernel
theorem dX7_isLikeWord_58 : decode cX7_isLikeWord 58 = .ok (.goto (-53), 3) := by decide +kernel
theorem dX7_isLikeWord_61 : decode cX7_isLikeWord 61 = .ok (.iload_n 3, 1) := by decide +kernel
theorem dX7_isLikeWord_62 : decode cX7_isLikeWord 62 = .ok (.ireturn, 1) := by decide +kernel
theorem dX7_likes_0 : decode cX7_likes 0 = .ok (.iconst 0, 1) := by decide +kernel
theorem dX7_likes_1 : decode cX7_likes 1 = .ok (.istore_n 3, 1) := by decide +kernel
theorem dX7_likes_2 : decode cX7_likes 2 = .ok (.iconst 0, 1) := by decide +kernel
theorem dX7_likes_3 : decode cX7_likes 3 = .ok (.istore 4, 2) := by decide +kernel
theorem dX7_likes_5 : decode cX7_likes 5 = .ok (.iload 4, 2) := by decide +kernel
theorem dX7_likes_7 : decode cX7_likes 7 = .ok (.iload_n 2, 1) := by decide +kernel
theorem dX7_likes_8 : decode cX7_likes 8 = .ok (.if_icmp .ge 27, 3) := by decide +kernel
theorem dX7_likes_11 : decode cX7_likes 11 = .ok (.iload_n 3, 1) := by decide +kernel
theorem dX7_likes_12 : decode cX7_likes 12 = .ok (.aload_n 0, 1) := by decide +kernel
theorem dX7_likes_13 : decode cX7_likes 13 = .ok (.iload_n 1, 1) := by decide +kernel
theorem dX7_likes_14 : decode cX7_likes 14 = .ok (.iload 4, 2) := by decide +kernel
theorem dX7_likes_16 : decode cX7_likes 16 = .ok (.invokevirtual 233, 3) := by decide +kernel
theorem dX7_likes_19 : decode cX7_likes 19 = .ok (.ifCond .eq 7, 3) := by decide +kernel
theorem dX7_likes_22 : decode cX7_likes 22 = .ok (.iconst 1, 1) := by decide +kernel
theorem dX7_likes_23 : decode cX7_likes 23 = .ok (.goto 4, 3) := by decide +kernel
theorem dX7_likes_26 : decode cX7_likes 26 = .ok (.iconst 0, 1) := by decide +kernel
theorem dX7_likes_27 : decode cX7_likes 27 = .ok (.iadd, 1) := by decide +kernel
theorem dX7_likes_28 : decode cX7_likes 28 = .ok (.istore_n 3, 1) := by decide +kernel
theorem dX7_likes_29 : decode cX7_likes 29 = .ok (.iinc 4 1, 3) := by decide +kernel
theorem dX7_likes_32 : decode cX7_likes 32 = .ok (.goto (-27), 3) := by decide +kernel
theorem dX7_likes_35 : decode cX7_likes 35 = .ok (.iload_n 3, 1) := by decide +kernel
theorem dX7_likes_36 : decode cX7_likes 36 = .ok (.ireturn, 1) := by decide +kernel
theorem dX7_unlike_0 : decode cX7_unlike 0 = .ok (.iconst 0, 1) := by decide +kernel
theorem dX7_unlike_1 : decode cX7_unlike 1 = .ok (.istore_n 1, 1) := by decide +kernel
theorem dX7_unlike_2 : decode cX7_unlike 2 = .ok (.iconst 0, 1) := by decide +kernel
theorem dX7_unlike_3 : decode cX7_unlike 3 = .ok (.istore_n 2, 1) := by decide +kernel
theorem dX7_unlike_4 : decode cX7_unlike 4 = .ok (.iload_n 2, 1) := by decide +kernel
theorem dX7_unlike_5 : decode cX7_unlike 5 = .ok (.aload_n 0, 1) := by decide +kernel
theorem dX7_unlike_6 : decode cX7_unlike 6 = .ok (.invokevirtual 237, 3) := by decide +kernel
theorem dX7_unlike_9 : decode cX7_unlike 9 = .ok (.if_icmp .ge 26, 3) := by decide +kernel
theorem dX7_unlike_12 : decode cX7_unlike 12 = .ok (.iload_n 1, 1) := by decide +kernel
theorem dX7_unlike_13 : decode cX7_unlike 13 = .ok (.aload_n 0, 1) := by decide +kernel
theorem dX7_unlike_14 : decode cX7_unlike 14 = .ok (.iload_n 2, 1) := by decide +kernel
theorem dX7_unlike_15 : decode cX7_unlike 15 = .ok (.iload_n 2, 1) := by decide +kernel
theorem dX7_unlike_16 : decode cX7_unlike 16 = .ok (.invokevirtual 240, 3) := by decide +kernel
theorem dX7_unlike_19 : decode cX7_unlike 19 = .ok (.ifCond .ne 7, 3) := by decide +kernel
theorem dX7_unlike_22 : decode cX7_unlike 22 = .ok (.iconst 1, 1) := by decide +kernel
theorem dX7_unlike_23 : decode cX7_unlike 23 = .ok (.goto 4, 3) := by decide +kernel
theorem dX7_unlike_26 : decode cX7_unlike 26 = .ok (.iconst 0, 1) := by decide +kernel
theorem dX7_unlike_27 : decode cX7_unlike 27 = .ok (.iadd, 1) := by decide +kernel
theorem dX7_unlike_28 : decode cX7_unlike 28 = .ok (.istore_n 1, 1) := by decide +kernel
theorem dX7_unlike_29 : decode cX7_unlike 29 = .ok (.iinc 2 1, 3) := by decide +kernel
theorem dX7_unlike_32 : decode cX7_unlike 32 = .ok (.goto (-28), 3) := by decide +kernel
theorem dX7_unlike_35 : decode cX7_unlike 35 = .ok (.iload_n 1, 1) := by decide +kernel
theorem dX7_unlike_36 : decode cX7_unlike 36 = .ok (.ireturn, 1) := by decide +kernel
theorem dX7_rule_0 : decode cX7_rule 0 = .ok (.iload_n 1, 1) := by decide +kernel
theorem dX7_rule_1 : decode cX7_rule 1 = .ok (.i2l, 1) := by decide +kernel
theorem dX7_rule_2 : decode cX7_rule 2 = .ok (.lconst 0, 1) := by decide +kernel
theorem dX7_rule_3 : decode cX7_rule 3 = .ok (.ldc2_w 243, 3) := by decide +kernel
theorem dX7_rule_6 : decode cX7_rule 6 = .ok (.invokestatic 73, 3) := by decide +kernel
theorem dX7_rule_9 : decode cX7_rule 9 = .ok (.ifCond .ne 5, 3) := by decide +kernel
theorem dX7_rule_12 : decode cX7_rule 12 = .ok (.iconst (-1), 1) := by decide +kernel
theorem dX7_rule_13 : decode cX7_rule 13 = .ok (.ireturn, 1) := by decide +kernel
theorem dX7_rule_14 : decode cX7_rule 14 = .ok (.iload_n 1, 1) := by decide +kernel
theorem dX7_rule_15 : decode cX7_rule 15 = .ok (.i2l, 1) := by decide +kernel
theorem dX7_rule_16 : decode cX7_rule 16 = .ok (.ldc2_w 245, 3) := by decide +kernel
theorem dX7_rule_19 : decode cX7_rule 19 = .ok (.ldc2_w 247, 3) := by decide +kernel
theorem dX7_rule_22 : decode cX7_rule 22 = .ok (.invokestatic 73, 3) := by decide +kernel
theorem dX7_rule_25 : decode cX7_rule 25 = .ok (.ifCond .eq 17, 3) := by decide +kernel
theorem dX7_rule_28 : decode cX7_rule 28 = .ok (.aload_n 0, 1) := by decide +kernel
theorem dX7_rule_29 : decode cX7_rule 29 = .ok (.getfield 7, 3) := by decide +kernel
theorem dX7_rule_32 : decode cX7_rule 32 = .ok (.sipush 585, 3) := by decide +kernel
theorem dX7_rule_35 : decode cX7_rule 35 = .ok (.iload_n 1, 1) := by decide +kernel
theorem dX7_rule_36 : decode cX7_rule 36 = .ok (.iadd, 1) := by decide +kernel
theorem dX7_rule_37 : decode cX7_rule 37 = .ok (.bipush 8, 2) := by decide +kernel
theorem dX7_rule_39 : decode cX7_rule 39 = .ok (.isub, 1) := by decide +kernel
theorem dX7_rule_40 : decode cX7_rule 40 = .ok (.iaload, 1) := by decide +kernel
theorem dX7_rule_41 : decode cX7_rule 41 = .ok (.ireturn, 1) := by decide +kernel
theorem dX7_rule_42 : decode cX7_rule 42 = .ok (.iload_n 1, 1) := by decide +kernel
theorem dX7_rule_43 : decode cX7_rule 43 = .ok (.tableswitch 134 0 15 #[77, 82, 89, 94, 134, 134, 134, 134, 134, 134, 134, 134, 134, 134, 99, 104], 77) := by decide +kernel
theorem dX7_rule_120 : decode cX7_rule 120 = .ok (.aload_n 0, 1) := by decide +kernel
theorem dX7_rule_121 : decode cX7_rule 121 = .ok (.getfield 168, 3) := by decide +kernel
theorem dX7_rule_124 : decode cX7_rule 124 = .ok (.ireturn, 1) := by decide +kernel
theorem dX7_rule_125 : decode cX7_rule 125 = .ok (.aload_n 0, 1) := by decide +kernel
theorem dX7_rule_126 : decode cX7_rule 126 = .ok (.getfield 7, 3) := by decide +kernel
theorem dX7_rule_129 : decode cX7_rule 129 = .ok (.iconst 0, 1) := by decide +kernel
theorem dX7_rule_130 : decode cX7_rule 130 = .ok (.iaload, 1) := by decide +kernel
theorem dX7_rule_131 : decode cX7_rule 131 = .ok (.ireturn, 1) := by decide +kernel
theorem dX7_rule_132 : decode cX7_rule 132 = .ok (.aload_n 0, 1) := by decide +kernel
theorem dX7_rule_133 : decode cX7_rule 133 = .ok (.invokevirtual 237, 3) := by decide +kernel
theorem dX7_rule_136 : decode cX7_rule 136 = .ok (.ireturn, 1) := by decide +kernel
theorem dX7_rule_137 : decode cX7_rule 137 = .ok (.aload_n 0, 1) := by decide +kernel
theorem dX7_rule_138 : decode cX7_rule 138 = .ok (.invokevirtual 249, 3) := by decide +kernel
theorem dX7_rule_141 : decode cX7_rule 141 = .ok (.ireturn, 1) := by decide +kernel
theorem dX7_rule_142 : decode cX7_rule 142 = .ok (.aload_n 0, 1) := by decide +kernel
theorem dX7_rule_143 : decode cX7_rule 143 = .ok (.getfield 77, 3) := by decide +kernel
theorem dX7_rule_146 : decode cX7_rule 146 = .ok (.ireturn, 1) := by decide +kernel
theorem dX7_rule_147 : decode cX7_rule 147 = .ok (.aload_n 0, 1) := by decide +kernel
theorem dX7_rule_148 : decode cX7_rule 148 = .ok (.getfield 25, 3) := by decide +kernel
theorem dX7_rule_151 : decode cX7_rule 151 = .ok (.iconst 0, 1) := by decide +kernel
theorem dX7_rule_152 : decode cX7_rule 152 = .ok (.baload, 1) := by decide +kernel
theorem dX7_rule_153 : decode cX7_rule 153 = .ok (.ifCond .eq 7, 3) := by decide +kernel
theorem dX7_rule_156 : decode cX7_rule 156 = .ok (.iconst 1, 1) := by decide +kernel
theorem dX7_rule_157 : decode cX7_rule 157 = .ok (.goto 4, 3) := by decide +kernel
theorem dX7_rule_160 : decode cX7_rule 160 = .ok (.iconst 0, 1) := by decide +kernel
theorem dX7_rule_161 : decode cX7_rule 161 = .ok (.aload_n 0, 1) := by decide +kernel
theorem dX7_rule_162 : decode cX7_rule 162 = .ok (.getfield 25, 3) := by decide +kernel
theorem dX7_rule_165 : decode cX7_rule 165 = .ok (.iconst 1, 1) := by decide +kernel
theorem dX7_rule_166 : decode cX7_rule 166 = .ok (.baload, 1) := by decide +kernel
theorem dX7_rule_167 : decode cX7_rule 167 = .ok (.ifCond .eq 7, 3) := by decide +kernel
theorem dX7_rule_170 : decode cX7_rule 170 = .ok (.iconst 1, 1) := by decide +kernel
theorem dX7_rule_171 : decode cX7_rule 171 = .ok (.goto 4, 3) := by decide +kernel
theorem dX7_rule_174 : decode cX7_rule 174 = .ok (.iconst 0, 1) := by decide +kernel
theorem dX7_rule_175 : decode cX7_rule 175 = .ok (.iadd, 1) := by decide +kernel
theorem dX7_rule_176 : decode cX7_rule 176 = .ok (.ireturn, 1) := by decide +kernel
theorem dX7_rule_177 : decode cX7_rule 177 = .ok (.aload_n 0, 1) := by decide +kernel
theorem dX7_rule_178 : decode cX7_rule 178 = .ok (.invokevirtual 252, 3) := by decide +kernel
theorem dX7_rule_181 : decode cX7_rule 181 = .ok (.aload_n 0, 1) := by decide +kernel
theorem dX7_rule_182 : decode cX7_rule 182 = .ok (.iload_n 1, 1) := by decide +kernel
theorem dX7_rule_183 : decode cX7_rule 183 = .ok (.invokevirtual 255, 3) := by decide +kernel
theorem dX7_rule_186 : decode cX7_rule 186 = .ok (.ireturn, 1) := by decide +kernel
theorem dX7_isShape_0 : decode cX7_isShape 0 = .ok (.iload_n 1, 1) := by decide +kernel
theorem dX7_isShape_1 : decode cX7_isShape 1 = .ok (.i2l, 1) := by decide +kernel
theorem dX7_isShape_2 : decode cX7_isShape 2 = .ok (.lconst 0, 1) := by decide +kernel
theorem dX7_isShape_3 : decode cX7_isShape 3 = .ok (.aload_n 0, 1) := by decide +kernel
theorem dX7_isShape_4 : decode cX7_isShape 4 = .ok (.getfield 168, 3) := by decide +kernel
theorem dX7_isShape_7 : decode cX7_isShape 7 = .ok (.iconst 1, 1) := by decide +kernel
theorem dX7_isShape_8 : decode cX7_isShape 8 = .ok (.isub, 1) := by decide +kernel
theorem dX7_isShape_9 : decode cX7_isShape 9 = .ok (.i2l, 1) := by decide +kernel
theorem dX7_isShape_10 : decode cX7_isShape 10 = .ok (.invokestatic 73, 3) := by decide +kernel
theorem dX7_isShape_13 : decode cX7_isShape 13 = .ok (.ireturn, 1) := by decide +kernel
theorem dX7_shape_0 : decode cX7_shape 0 = .ok (.aload_n 0, 1) := by decide +kernel
theorem dX7_shape_1 : decode cX7_shape 1 = .ok (.iload_n 1, 1) := by decide +kernel
theorem dX7_shape_2 : decode cX7_shape 2 = .ok (.invokevirtual 258, 3) := by decide +kernel
theorem dX7_shape_5 : decode cX7_shape 5 = .ok (.ifCond .eq 15, 3) := by decide +kernel
theorem dX7_shape_8 : decode cX7_shape 8 = .ok (.iload_n 2, 1) := by decide +kernel
theorem dX7_shape_9 : decode cX7_shape 9 = .ok (.i2l, 1) := by decide +kernel
theorem dX7_shape_10 : decode cX7_shape 10 = .ok (.lconst 0, 1) := by decide +kernel
theorem dX7_shape_11 : decode cX7_shape 11 = .ok (.ldc2_w 261, 3) := by decide +kernel
theorem dX7_shape_14 : decode cX7_shape 14 = .ok (.invokestatic 73, 3) := by decide +kernel
theorem dX7_shape_17 : decode cX7_shape 17 = .ok (.ifCond .ne 5, 3) := by decide +kernel
theorem dX7_shape_20 : decode cX7_shape 20 = .ok (.iconst (-1), 1) := by decide +kernel
theorem dX7_shape_21 : decode cX7_shape 21 = .ok (.ireturn, 1) := by decide +kernel
theorem dX7_shape_22 : decode cX7_shape 22 = .ok (.iload_n 2, 1) := by decide +kernel
theorem dX7_shape_23 : decode cX7_shape 23 = .ok (.iconst 3, 1) := by decide +kernel
theorem dX7_shape_24 : decode cX7_shape 24 = .ok (.if_icmp .ge 15, 3) := by decide +kernel
theorem dX7_shape_27 : decode cX7_shape 27 = .ok (.aload_n 0, 1) := by decide +kernel
theorem dX7_shape_28 : decode cX7_shape 28 = .ok (.getfield 16, 3) := by decide +kernel
theorem dX7_shape_31 : decode cX7_shape 31 = .ok (.bipush 19, 2) := by decide +kernel
theorem dX7_shape_33 : decode cX7_shape 33 = .ok (.iload_n 1, 1) := by decide +kernel
theorem dX7_shape_34 : decode cX7_shape 34 = .ok (.imul, 1) := by decide +kernel
theorem dX7_shape_35 : decode cX7_shape 35 = .ok (.iload_n 2, 1) := by decide +kernel
theorem dX7_shape_36 : decode cX7_shape 36 = .ok (.iadd, 1) := by decide +kernel
theorem dX7_shape_37 : decode cX7_shape 37 = .ok (.iaload, 1) := by decide +kernel
theorem dX7_shape_38 : decode cX7_shape 38 = .ok (.ireturn, 1) := by decide +kernel
theorem dX7_shape_39 : decode cX7_shape 39 = .ok (.iconst 0, 1) := by decide +kernel
theorem dX7_shape_40 : decode cX7_shape 40 = .ok (.istore_n 3, 1) := by decide +kernel
theorem dX7_shape_41 : decode cX7_shape 41 = .ok (.iconst 0, 1) := by decide +kernel
theorem dX7_shape_42 : decode cX7_shape 42 = .ok (.istore 4, 2) := by decide +kernel
theorem dX7_shape_44 : decode cX7_shape 44 = .ok (.iload 4, 2) := by decide +kernel
theorem dX7_shape_46 : decode cX7_shape 46 = .ok (.aload_n 0, 1) := by decide +kernel
theorem dX7_shape_47 : decode cX7_shape 47 = .ok (.getfield 16, 3) := by decide +kernel
theorem dX7_shape_50 : decode cX7_shape 50 = .ok (.bipush 19, 2) := by decide +kernel
theorem dX7_shape_52 : decode cX7_shape 52 = .ok (.iload_n 1, 1) := by decide +kernel
theorem dX7_shape_53 : decode cX7_shape 53 = .ok (.imul, 1) := by decide +kernel
theorem dX7_shape_54 : decode cX7_shape 54 = .ok (.iconst 2, 1) := by decide +kernel
theorem dX7_shape_55 : decode cX7_shape 55 = .ok (.iadd, 1) := by decide +kernel
theorem dX7_shape_56 : decode cX7_shape 56 = .ok (.iaload, 1) := by decide +kernel
theorem dX7_shape_57 : decode cX7_shape 57 = .ok (.if_icmp .ge 39, 3) := by decide +kernel
theorem dX7_shape_60 : decode cX7_shape 60 = .ok (.aload_n 0, 1) := by decide +kernel
theorem dX7_shape_61 : decode cX7_shape 61 = .ok (.getfield 16, 3) := by decide +kernel
theorem dX7_shape_64 : decode cX7_shape 64 = .ok (.bipush 19, 2) := by decide +kernel
theorem dX7_shape_66 : decode cX7_shape 66 = .ok (.iload_n 1, 1) := by decide +kernel
theorem dX7_shape_67 : decode cX7_shape 67 = .ok (.imul, 1) := by decide +kernel
theorem dX7_shape_68 : decode cX7_shape 68 = .ok (.bipush 11, 2) := by decide +kernel
theorem dX7_shape_70 : decode cX7_shape 70 = .ok (.iadd, 1) := by decide +kernel
theorem dX7_shape_71 : decode cX7_shape 71 = .ok (.iload 4, 2) := by decide +kernel
theorem dX7_shape_73 : decode cX7_shape 73 = .ok (.iadd, 1) := by decide +kernel
theorem dX7_shape_74 : decode cX7_shape 74 = .ok (.iaload, 1) := by decide +kernel
theorem dX7_shape_75 : decode cX7_shape 75 = .ok (.istore 5, 2) := by decide +kernel
theorem dX7_shape_77 : decode cX7_shape 77 = .ok (.iload 5, 2) := by decide +kernel
theorem dX7_shape_79 : decode cX7_shape 79 = .ok (.iload_n 3, 1) := by decide +kernel
theorem dX7_shape_80 : decode cX7_shape 80 = .ok (.if_icmp .le 8, 3) := by decide +kernel
theorem dX7_shape_83 : decode cX7_shape 83 = .ok (.iload 5, 2) := by decide +kernel
theorem dX7_shape_85 : decode cX7_shape 85 = .ok (.goto 4, 3) := by decide +kernel
theorem dX7_shape_88 : decode cX7_shape 88 = .ok (.iload_n 3, 1) := by decide +kernel
theorem dX7_shape_89 : decode cX7_shape 89 = .ok (.istore_n 3, 1) := by decide +kernel
theorem dX7_shape_90 : decode cX7_shape 90 = .ok (.iinc 4 1, 3) := by decide +kernel
theorem dX7_shape_93 : decode cX7_shape 93 = .ok (.goto (-49), 3) := by decide +kernel
theorem dX7_shape_96 : decode cX7_shape 96 = .ok (.iload_n 3, 1) := by decide +kernel
theorem dX7_shape_97 : decode cX7_shape 97 = .ok (.ireturn, 1) := by decide +kernel
theorem dX7_step_0 : decode cX7_step 0 = .ok (.aload_n 0, 1) := by decide +kernel
theorem dX7_step_1 : decode cX7_step 1 = .ok (.iload_n 1, 1) := by decide +kernel
theorem dX7_step_2 : decode cX7_step 2 = .ok (.invokevirtual 258, 3) := by decide +kernel
theorem dX7_step_5 : decode cX7_step 5 = .ok (.ifCond .eq 17, 3) := by decide +kernel
theorem dX7_step_8 : decode cX7_step 8 = .ok (.iload_n 2, 1) := by decide +kernel
theorem dX7_step_9 : decode cX7_step 9 = .ok (.ifCond .lt 13, 3) := by decide +kernel
theorem dX7_step_12 : decode cX7_step 12 = .ok (.iload_n 3, 1) := by decide +kernel
theorem dX7_step_13 : decode cX7_step 13 = .ok (.i2l, 1) := by decide +kernel
theorem dX7_step_14 : decode cX7_step 14 = .ok (.lconst 0, 1) := by decide +kernel
theorem dX7_step_15 : decode cX7_step 15 = .ok (.lconst 1, 1) := by decide +kernel
theorem dX7_step_16 : decode cX7_step 16 = .ok (.invokestatic 73, 3) := by decide +kernel
theorem dX7_step_19 : decode cX7_step 19 = .ok (.ifCond .ne 5, 3) := by decide +kernel
theorem dX7_step_22 : decode cX7_step 22 = .ok (.iconst (-1), 1) := by decide +kernel
theorem dX7_step_23 : decode cX7_step 23 = .ok (.ireturn, 1) := by decide +kernel
theorem dX7_step_24 : decode cX7_step 24 = .ok (.iload_n 2, 1) := by decide +kernel
theorem dX7_step_25 : decode cX7_step 25 = .ok (.aload_n 0, 1) := by decide +kernel
theorem dX7_step_26 : decode cX7_step 26 = .ok (.getfield 16, 3) := by decide +kernel
theorem dX7_step_29 : decode cX7_step 29 = .ok (.bipush 19, 2) := by decide +kernel
theorem dX7_step_31 : decode cX7_step 31 = .ok (.iload_n 1, 1) := by decide +kernel
theorem dX7_step_32 : decode cX7_step 32 = .ok (.imul, 1) := by decide +kernel
theorem dX7_step_33 : decode cX7_step 33 = .ok (.iconst 2, 1) := by decide +kernel
theorem dX7_step_34 : decode cX7_step 34 = .ok (.iadd, 1) := by decide +kernel
theorem dX7_step_35 : decode cX7_step 35 = .ok (.iaload, 1) := by decide +kernel
theorem dX7_step_36 : decode cX7_step 36 = .ok (.if_icmp .ge 28, 3) := by decide +kernel
theorem dX7_step_39 : decode cX7_step 39 = .ok (.aload_n 0, 1) := by decide +kernel
theorem dX7_step_40 : decode cX7_step 40 = .ok (.getfield 16, 3) := by decide +kernel
theorem dX7_step_43 : decode cX7_step 43 = .ok (.bipush 19, 2) := by decide +kernel
theorem dX7_step_45 : decode cX7_step 45 = .ok (.iload_n 1, 1) := by decide +kernel
theorem dX7_step_46 : decode cX7_step 46 = .ok (.imul, 1) := by decide +kernel
theorem dX7_step_47 : decode cX7_step 47 = .ok (.iload_n 3, 1) := by decide +kernel
theorem dX7_step_48 : decode cX7_step 48 = .ok (.ifCond .ne 7, 3) := by decide +kernel
theorem dX7_step_51 : decode cX7_step 51 = .ok (.iconst 3, 1) := by decide +kernel
theorem dX7_step_52 : decode cX7_step 52 = .ok (.goto 5, 3) := by decide +kernel
theorem dX7_step_55 : decode cX7_step 55 = .ok (.bipush 11, 2) := by decide +kernel
theorem dX7_step_57 : decode cX7_step 57 = .ok (.iadd, 1) := by decide +kernel
theorem dX7_step_58 : decode cX7_step 58 = .ok (.iload_n 2, 1) := by decide +kernel
theorem dX7_step_59 : decode cX7_step 59 = .ok (.iadd, 1) := by decide +kernel
theorem dX7_step_60 : decode cX7_step 60 = .ok (.iaload, 1) := by decide +kernel
theorem dX7_step_61 : decode cX7_step 61 = .ok (.goto 5, 3) := by decide +kernel
theorem dX7_step_64 : decode cX7_step 64 = .ok (.bipush (-4), 2) := by decide +kernel
theorem dX7_step_66 : decode cX7_step 66 = .ok (.ireturn, 1) := by decide +kernel
theorem dX7_isPar_0 : decode cX7_isPar 0 = .ok (.iload_n 1, 1) := by decide +kernel
theorem dX7_isPar_1 : decode cX7_isPar 1 = .ok (.i2l, 1) := by decide +kernel
theorem dX7_isPar_2 : decode cX7_isPar 2 = .ok (.lconst 0, 1) := by decide +kernel
theorem dX7_isPar_3 : decode cX7_isPar 3 = .ok (.aload_n 0, 1) := by decide +kernel
theorem dX7_isPar_4 : decode cX7_isPar 4 = .ok (.getfield 7, 3) := by decide +kernel
theorem dX7_isPar_7 : decode cX7_isPar 7 = .ok (.iconst 0, 1) := by decide +kernel
theorem dX7_isPar_8 : decode cX7_isPar 8 = .ok (.iaload, 1) := by decide +kernel
theorem dX7_isPar_9 : decode cX7_isPar 9 = .ok (.iconst 1, 1) := by decide +kernel
theorem dX7_isPar_10 : decode cX7_isPar 10 = .ok (.isub, 1) := by decide +kernel
theorem dX7_isPar_11 : decode cX7_isPar 11 = .ok (.i2l, 1) := by decide +kernel
theorem dX7_isPar_12 : decode cX7_isPar 12 = .ok (.invokestatic 73, 3) := by decide +kernel
theorem dX7_isPar_15 : decode cX7_isPar 15 = .ok (.ireturn, 1) := by decide +kernel
theorem dX7_slacksOf_0 : decode cX7_slacksOf 0 = .ok (.iconst 0, 1) := by decide +kernel
theorem dX7_slacksOf_1 : decode cX7_slacksOf 1 = .ok (.istore_n 2, 1) := by decide +kernel
theorem dX7_slacksOf_2 : decode cX7_slacksOf 2 = .ok (.aload_n 0, 1) := by decide +kernel
theorem dX7_slacksOf_3 : decode cX7_slacksOf 3 = .ok (.getfield 41, 3) := by decide +kernel
theorem dX7_slacksOf_6 : decode cX7_slacksOf 6 = .ok (.iload_n 1, 1) := by decide +kernel
theorem dX7_slacksOf_7 : decode cX7_slacksOf 7 = .ok (.iaload, 1) := by decide +kernel
theorem dX7_slacksOf_8 : decode cX7_slacksOf 8 = .ok (.istore_n 3, 1) := by decide +kernel
theorem dX7_slacksOf_9 : decode cX7_slacksOf 9 = .ok (.iload_n 3, 1) := by decide +kernel
theorem dX7_slacksOf_10 : decode cX7_slacksOf 10 = .ok (.aload_n 0, 1) := by decide +kernel
theorem dX7_slacksOf_11 : decode cX7_slacksOf 11 = .ok (.getfield 41, 3) := by decide +kernel
theorem dX7_slacksOf_14 : decode cX7_slacksOf 14 = .ok (.iload_n 1, 1) := by decide +kernel
theorem dX7_slacksOf_15 : decode cX7_slacksOf 15 = .ok (.iaload, 1) := by decide +kernel
theorem dX7_slacksOf_16 : decode cX7_slacksOf 16 = .ok (.aload_n 0, 1) := by decide +kernel
theorem dX7_slacksOf_17 : decode cX7_slacksOf 17 = .ok (.getfield 44, 3) := by decide +kernel
theorem dX7_slacksOf_20 : decode cX7_slacksOf 20 = .ok (.iload_n 1, 1) := by decide +kernel
theorem dX7_slacksOf_21 : decode cX7_slacksOf 21 = .ok (.iaload, 1) := by decide +kernel
theorem dX7_slacksOf_22 : decode cX7_slacksOf 22 = .ok (.iadd, 1) := by decide +kernel
theorem dX7_slacksOf_23 : decode cX7_slacksOf 23 = .ok (.iconst 1, 1) := by decide +kernel
theorem dX7_slacksOf_24 : decode cX7_slacksOf 24 = .ok (.isub, 1) := by decide +kernel
theorem dX7_slacksOf_25 : decode cX7_slacksOf 25 = .ok (.if_icmp .ge 54, 3) := by decide +kernel
theorem dX7_slacksOf_28 : decode cX7_slacksOf 28 = .ok (.aload_n 0, 1) := by decide +kernel
theorem dX7_slacksOf_29 : decode cX7_slacksOf 29 = .ok (.iload_n 3, 1) := by decide +kernel
theorem dX7_slacksOf_30 : decode cX7_slacksOf 30 = .ok (.invokevirtual 230, 3) := by decide +kernel
theorem dX7_slacksOf_33 : decode cX7_slacksOf 33 = .ok (.ifCond .eq 7, 3) := by decide +kernel
theorem dX7_slacksOf_36 : decode cX7_slacksOf 36 = .ok (.iconst 0, 1) := by decide +kernel
theorem dX7_slacksOf_37 : decode cX7_slacksOf 37 = .ok (.goto 26, 3) := by decide +kernel
theorem dX7_slacksOf_40 : decode cX7_slacksOf 40 = .ok (.aload_n 0, 1) := by decide +kernel
theorem dX7_slacksOf_41 : decode cX7_slacksOf 41 = .ok (.iload_n 1, 1) := by decide +kernel
theorem dX7_slacksOf_42 : decode cX7_slacksOf 42 = .ok (.iload_n 3, 1) := by decide +kernel
theorem dX7_slacksOf_43 : decode cX7_slacksOf 43 = .ok (.invokevirtual 204, 3) := by decide +kernel
theorem dX7_slacksOf_46 : decode cX7_slacksOf 46 = .ok (.aload_n 0, 1) := by decide +kernel
theorem dX7_slacksOf_47 : decode cX7_slacksOf 47 = .ok (.aload_n 0, 1) := by decide +kernel
theorem dX7_slacksOf_48 : decode cX7_slacksOf 48 = .ok (.getfield 50, 3) := by decide +kernel
theorem dX7_slacksOf_51 : decode cX7_slacksOf 51 = .ok (.iload_n 3, 1) := by decide +kernel
theorem dX7_slacksOf_52 : decode cX7_slacksOf 52 = .ok (.iaload, 1) := by decide +kernel
theorem dX7_slacksOf_53 : decode cX7_slacksOf 53 = .ok (.aload_n 0, 1) := by decide +kernel
theorem dX7_slacksOf_54 : decode cX7_slacksOf 54 = .ok (.getfield 53, 3) := by decide +kernel
theorem dX7_slacksOf_57 : decode cX7_slacksOf 57 = .ok (.iload_n 3, 1) := by decide +kernel
theorem dX7_slacksOf_58 : decode cX7_slacksOf 58 = .ok (.iaload, 1) := by decide +kernel
theorem dX7_slacksOf_59 : decode cX7_slacksOf 59 = .ok (.invokevirtual 207, 3) := by decide +kernel
theorem dX7_slacksOf_62 : decode cX7_slacksOf 62 = .ok (.isub, 1) := by decide +kernel
theorem dX7_slacksOf_63 : decode cX7_slacksOf 63 = .ok (.istore 4, 2) := by decide +kernel
theorem dX7_slacksOf_65 : decode cX7_slacksOf 65 = .ok (.iload_n 2, 1) := by decide +kernel
theorem dX7_slacksOf_66 : decode cX7_slacksOf 66 = .ok (.iload 4, 2) := by decide +kernel
theorem dX7_slacksOf_68 : decode cX7_slacksOf 68 = .ok (.iload 4, 2) := by decide +kernel
theorem dX7_slacksOf_70 : decode cX7_slacksOf 70 = .ok (.imul, 1) := by decide +kernel
theorem dX7_slacksOf_71 : decode cX7_slacksOf 71 = .ok (.iadd, 1) := by decide +kernel
theorem dX7_slacksOf_72 : decode cX7_slacksOf 72 = .ok (.istore_n 2, 1) := by decide +kernel
theorem dX7_slacksOf_73 : decode cX7_slacksOf 73 = .ok (.iinc 3 1, 3) := by decide +kernel
theorem dX7_slacksOf_76 : decode cX7_slacksOf 76 = .ok (.goto (-67), 3) := by decide +kernel
theorem dX7_slacksOf_79 : decode cX7_slacksOf 79 = .ok (.iload_n 2, 1) := by decide +kernel
theorem dX7_slacksOf_80 : decode cX7_slacksOf 80 = .ok (.ireturn, 1) := by decide +kernel
theorem dX7_ofLines_0 : decode cX7_ofLines 0 = .ok (.iconst 0, 1) := by decide +kernel
theorem dX7_ofLines_1 : decode cX7_ofLines 1 = .ok (.istore_n 3, 1) := by decide +kernel
theorem dX7_ofLines_2 : decode cX7_ofLines 2 = .ok (.aload_n 0, 1) := by decide +kernel
theorem dX7_ofLines_3 : decode cX7_ofLines 3 = .ok (.getfield 41, 3) := by decide +kernel
theorem dX7_ofLines_6 : decode cX7_ofLines 6 = .ok (.iload_n 1, 1) := by decide +kernel
theorem dX7_ofLines_7 : decode cX7_ofLines 7 = .ok (.iaload, 1) := by decide +kernel
theorem dX7_ofLines_8 : decode cX7_ofLines 8 = .ok (.istore 4, 2) := by decide +kernel
theorem dX7_ofLines_10 : decode cX7_ofLines 10 = .ok (.iload 4, 2) := by decide +kernel
theorem dX7_ofLines_12 : decode cX7_ofLines 12 = .ok (.aload_n 0, 1) := by decide +kernel
theorem dX7_ofLines_13 : decode cX7_ofLines 13 = .ok (.getfield 41, 3) := by decide +kernel
theorem dX7_ofLines_16 : decode cX7_ofLines 16 = .ok (.iload_n 1, 1) := by decide +kernel
theorem dX7_ofLines_17 : decode cX7_ofLines 17 = .ok (.iaload, 1) := by decide +kernel
theorem dX7_ofLines_18 : decode cX7_ofLines 18 = .ok (.aload_n 0, 1) := by decide +kernel
theorem dX7_ofLines_19 : decode cX7_ofLines 19 = .ok (.getfield 44, 3) := by decide +kernel
theorem dX7_ofLines_22 : decode cX7_ofLines 22 = .ok (.iload_n 1, 1) := by decide +kernel
theorem dX7_ofLines_23 : decode cX7_ofLines 23 = .ok (.iaload, 1) := by decide +kernel
theorem dX7_ofLines_24 : decode cX7_ofLines 24 = .ok (.iadd, 1) := by decide +kernel
theorem dX7_ofLines_25 : decode cX7_ofLines 25 = .ok (.if_icmp .ge 62, 3) := by decide +kernel
theorem dX7_ofLines_28 : decode cX7_ofLines 28 = .ok (.iload_n 2, 1) := by decide +kernel
theorem dX7_ofLines_29 : decode cX7_ofLines 29 = .ok (.bipush 7, 2) := by decide +kernel
theorem dX7_ofLines_31 : decode cX7_ofLines 31 = .ok (.if_icmp .ne 15, 3) := by decide +kernel
theorem dX7_ofLines_34 : decode cX7_ofLines 34 = .ok (.aload_n 0, 1) := by decide +kernel
theorem dX7_ofLines_35 : decode cX7_ofLines 35 = .ok (.iload 4, 2) := by decide +kernel
theorem dX7_ofLines_37 : decode cX7_ofLines 37 = .ok (.invokevirtual 227, 3) := by decide +kernel
theorem dX7_ofLines_40 : decode cX7_ofLines 40 = .ok (.ifCond .eq 6, 3) := by decide +kernel
theorem dX7_ofLines_43 : decode cX7_ofLines 43 = .ok (.iload 4, 2) := by decide +kernel
theorem dX7_ofLines_45 : decode cX7_ofLines 45 = .ok (.ireturn, 1) := by decide +kernel
theorem dX7_ofLines_46 : decode cX7_ofLines 46 = .ok (.iload_n 3, 1) := by decide +kernel
theorem dX7_ofLines_47 : decode cX7_ofLines 47 = .ok (.iload_n 2, 1) := by decide +kernel
theorem dX7_ofLines_48 : decode cX7_ofLines 48 = .ok (.bipush 6, 2) := by decide +kernel
theorem dX7_ofLines_50 : decode cX7_ofLines 50 = .ok (.if_icmp .ne 15, 3) := by decide +kernel
theorem dX7_ofLines_53 : decode cX7_ofLines 53 = .ok (.aload_n 0, 1) := by decide +kernel
theorem dX7_ofLines_54 : decode cX7_ofLines 54 = .ok (.iload 4, 2) := by decide +kernel
theorem dX7_ofLines_56 : decode cX7_ofLines 56 = .ok (.invokevirtual 227, 3) := by decide +kernel
theorem dX7_ofLines_59 : decode cX7_ofLines 59 = .ok (.ifCond .eq 19, 3) := by decide +kernel
theorem dX7_ofLines_62 : decode cX7_ofLines 62 = .ok (.goto 12, 3) := by decide +kernel
theorem dX7_ofLines_65 : decode cX7_ofLines 65 = .ok (.aload_n 0, 1) := by decide +kernel
theorem dX7_ofLines_66 : decode cX7_ofLines 66 = .ok (.iload 4, 2) := by decide +kernel
theorem dX7_ofLines_68 : decode cX7_ofLines 68 = .ok (.invokevirtual 230, 3) := by decide +kernel
theorem dX7_ofLines_71 : decode cX7_ofLines 71 = .ok (.ifCond .eq 7, 3) := by decide +kernel
theorem dX7_ofLines_74 : decode cX7_ofLines 74 = .ok (.iconst 1, 1) := by decide +kernel
theorem dX7_ofLines_75 : decode cX7_ofLines 75 = .ok (.goto 4, 3) := by decide +kernel
theorem dX7_ofLines_78 : decode cX7_ofLines 78 = .ok (.iconst 0, 1) := by decide +kernel
theorem dX7_ofLines_79 : decode cX7_ofLines 79 = .ok (.iadd, 1) := by decide +kernel
theorem dX7_ofLines_80 : decode cX7_ofLines 80 = .ok (.istore_n 3, 1) := by decide +kernel
theorem dX7_ofLines_81 : decode cX7_ofLines 81 = .ok (.iinc 4 1, 3) := by decide +kernel
theorem dX7_ofLines_84 : decode cX7_ofLines 84 = .ok (.goto (-74), 3) := by decide +kernel
theorem dX7_ofLines_87 : decode cX7_ofLines 87 = .ok (.iload_n 2, 1) := by decide +kernel
theorem dX7_ofLines_88 : decode cX7_ofLines 88 = .ok (.bipush 7, 2) := by decide +kernel
theorem dX7_ofLines_90 : decode cX7_ofLines 90 = .ok (.if_icmp .ne 8, 3) := by decide +kernel
theorem dX7_ofLines_93 : decode cX7_ofLines 93 = .ok (.bipush (-4), 2) := by decide +kernel
theorem dX7_ofLines_95 : decode cX7_ofLines 95 = .ok (.goto 4, 3) := by decide +kernel
theorem dX7_ofLines_98 : decode cX7_ofLines 98 = .ok (.iload_n 3, 1) := by decide +kernel
theorem dX7_ofLines_99 : decode cX7_ofLines 99 = .ok (.ireturn, 1) := by decide +kernel
theorem dX7_par_0 : decode cX7_par 0 = .ok (.aload_n 0, 1) := by decide +kernel
theorem dX7_par_1 : decode cX7_par 1 = .ok (.iload_n 1, 1) := by decide +kernel
theorem dX7_par_2 : decode cX7_par 2 = .ok (.invokevirtual 263, 3) := by decide +kernel
theorem dX7_par_5 : decode cX7_par 5 = .ok (.ifCond .eq 15, 3) := by decide +kernel
theorem dX7_par_8 : decode cX7_par 8 = .ok (.iload_n 2, 1) := by decide +kernel
theorem dX7_par_9 : decode cX7_par 9 = .ok (.i2l, 1) := by decide +kernel
theorem dX7_par_10 : decode cX7_par 10 = .ok (.lconst 0, 1) := by decide +kernel
theorem dX7_par_11 : decode cX7_par 11 = .ok (.ldc2_w 266, 3) := by decide +kernel
theorem dX7_par_14 : decode cX7_par 14 = .ok (.invokestatic 73, 3) := by decide +kernel
theorem dX7_par_17 : decode cX7_par 17 = .ok (.ifCond .ne 5, 3) := by decide +kernel
theorem dX7_par_20 : decode cX7_par 20 = .ok (.iconst (-1), 1) := by decide +kernel
theorem dX7_par_21 : decode cX7_par 21 = .ok (.ireturn, 1) := by decide +kernel
theorem dX7_par_22 : decode cX7_par 22 = .ok (.aload_n 0, 1) := by decide +kernel
theorem dX7_par_23 : decode cX7_par 23 = .ok (.invokevirtual 252, 3) := by decide +kernel
theorem dX7_par_26 : decode cX7_par 26 = .ok (.iload_n 2, 1) := by decide +kernel
theorem dX7_par_27 : decode cX7_par 27 = .ok (.tableswitch 97 0 9 #[53, 59, 65, 71, 77, 84, 97, 97, 97, 91], 53) := by decide +kernel
theorem dX7_par_80 : decode cX7_par 80 = .ok (.aload_n 0, 1) := by decide +kernel
theorem dX7_par_81 : decode cX7_par 81 = .ok (.iload_n 1, 1) := by decide +kernel
theorem dX7_par_82 : decode cX7_par 82 = .ok (.invokevirtual 171, 3) := by decide +kernel
theorem dX7_par_85 : decode cX7_par 85 = .ok (.ireturn, 1) := by decide +kernel
theorem dX7_par_86 : decode cX7_par 86 = .ok (.aload_n 0, 1) := by decide +kernel
theorem dX7_par_87 : decode cX7_par 87 = .ok (.iload_n 1, 1) := by decide +kernel
theorem dX7_par_88 : decode cX7_par 88 = .ok (.invokevirtual 174, 3) := by decide +kernel
theorem dX7_par_91 : decode cX7_par 91 = .ok (.ireturn, 1) := by decide +kernel
theorem dX7_par_92 : decode cX7_par 92 = .ok (.aload_n 0, 1) := by decide +kernel
theorem dX7_par_93 : decode cX7_par 93 = .ok (.iload_n 1, 1) := by decide +kernel
theorem dX7_par_94 : decode cX7_par 94 = .ok (.invokevirtual 177, 3) := by decide +kernel
theorem dX7_par_97 : decode cX7_par 97 = .ok (.ireturn, 1) := by decide +kernel
theorem dX7_par_98 : decode cX7_par 98 = .ok (.aload_n 0, 1) := by decide +kernel
theorem dX7_par_99 : decode cX7_par 99 = .ok (.iload_n 1, 1) := by decide +kernel
theorem dX7_par_100 : decode cX7_par 100 = .ok (.invokevirtual 183, 3) := by decide +kernel
theorem dX7_par_103 : decode cX7_par 103 = .ok (.ireturn, 1) := by decide +kernel
theorem dX7_par_104 : decode cX7_par 104 = .ok (.aload_n 0, 1) := by decide +kernel
theorem dX7_par_105 : decode cX7_par 105 = .ok (.getfield 41, 3) := by decide +kernel
theorem dX7_par_108 : decode cX7_par 108 = .ok (.iload_n 1, 1) := by decide +kernel
theorem dX7_par_109 : decode cX7_par 109 = .ok (.iaload, 1) := by decide +kernel
theorem dX7_par_110 : decode cX7_par 110 = .ok (.ireturn, 1) := by decide +kernel
theorem dX7_par_111 : decode cX7_par 111 = .ok (.aload_n 0, 1) := by decide +kernel
theorem dX7_par_112 : decode cX7_par 112 = .ok (.getfield 44, 3) := by decide +kernel
theorem dX7_par_115 : decode cX7_par 115 = .ok (.iload_n 1, 1) := by decide +kernel
theorem dX7_par_116 : decode cX7_par 116 = .ok (.iaload, 1) := by decide +kernel
theorem dX7_par_117 : decode cX7_par 117 = .ok (.ireturn, 1) := by decide +kernel
theorem dX7_par_118 : decode cX7_par 118 = .ok (.aload_n 0, 1) := by decide +kernel
theorem dX7_par_119 : decode cX7_par 119 = .ok (.iload_n 1, 1) := by decide +kernel
theorem dX7_par_120 : decode cX7_par 120 = .ok (.invokevirtual 268, 3) := by decide +kernel
theorem dX7_par_123 : decode cX7_par 123 = .ok (.ireturn, 1) := by decide +kernel
theorem dX7_par_124 : decode cX7_par 124 = .ok (.aload_n 0, 1) := by decide +kernel
theorem dX7_par_125 : decode cX7_par 125 = .ok (.iload_n 1, 1) := by decide +kernel
theorem dX7_par_126 : decode cX7_par 126 = .ok (.iload_n 2, 1) := by decide +kernel
theorem dX7_par_127 : decode cX7_par 127 = .ok (.invokevirtual 271, 3) := by decide +kernel
theorem dX7_par_130 : decode cX7_par 130 = .ok (.ireturn, 1) := by decide +kernel
theorem dX7_lineOfWord_0 : decode cX7_lineOfWord 0 = .ok (.iconst 0, 1) := by decide +kernel
theorem dX7_lineOfWord_1 : decode cX7_lineOfWord 1 = .ok (.istore_n 2, 1) := by decide +kernel
theorem dX7_lineOfWord_2 : decode cX7_lineOfWord 2 = .ok (.aload_n 0, 1) := by decide +kernel
theorem dX7_lineOfWord_3 : decode cX7_lineOfWord 3 = .ok (.getfield 47, 3) := by decide +kernel
theorem dX7_lineOfWord_6 : decode cX7_lineOfWord 6 = .ok (.iload_n 2, 1) := by decide +kernel
theorem dX7_lineOfWord_7 : decode cX7_lineOfWord 7 = .ok (.iaload, 1) := by decide +kernel
theorem dX7_lineOfWord_8 : decode cX7_lineOfWord 8 = .ok (.bipush (-4), 2) := by decide +kernel
theorem dX7_lineOfWord_10 : decode cX7_lineOfWord 10 = .ok (.if_icmp .eq 30, 3) := by decide +kernel
theorem dX7_lineOfWord_13 : decode cX7_lineOfWord 13 = .ok (.iload_n 1, 1) := by decide +kernel
theorem dX7_lineOfWord_14 : decode cX7_lineOfWord 14 = .ok (.aload_n 0, 1) := by decide +kernel
theorem dX7_lineOfWord_15 : decode cX7_lineOfWord 15 = .ok (.getfield 50, 3) := by decide +kernel
theorem dX7_lineOfWord_18 : decode cX7_lineOfWord 18 = .ok (.iload_n 2, 1) := by decide +kernel
theorem dX7_lineOfWord_19 : decode cX7_lineOfWord 19 = .ok (.iaload, 1) := by decide +kernel
theorem dX7_lineOfWord_20 : decode cX7_lineOfWord 20 = .ok (.if_icmp .lt 20, 3) := by decide +kernel
theorem dX7_lineOfWord_23 : decode cX7_lineOfWord 23 = .ok (.iload_n 1, 1) := by decide +kernel
theorem dX7_lineOfWord_24 : decode cX7_lineOfWord 24 = .ok (.aload_n 0, 1) := by decide +kernel
theorem dX7_lineOfWord_25 : decode cX7_lineOfWord 25 = .ok (.getfield 50, 3) := by decide +kernel
theorem dX7_lineOfWord_28 : decode cX7_lineOfWord 28 = .ok (.iload_n 2, 1) := by decide +kernel
theorem dX7_lineOfWord_29 : decode cX7_lineOfWord 29 = .ok (.iaload, 1) := by decide +kernel
theorem dX7_lineOfWord_30 : decode cX7_lineOfWord 30 = .ok (.aload_n 0, 1) := by decide +kernel
theorem dX7_lineOfWord_31 : decode cX7_lineOfWord 31 = .ok (.getfield 53, 3) := by decide +kernel
theorem dX7_lineOfWord_34 : decode cX7_lineOfWord 34 = .ok (.iload_n 2, 1) := by decide +kernel
theorem dX7_lineOfWord_35 : decode cX7_lineOfWord 35 = .ok (.iaload, 1) := by decide +kernel
theorem dX7_lineOfWord_36 : decode cX7_lineOfWord 36 = .ok (.iadd, 1) := by decide +kernel
theorem dX7_lineOfWord_37 : decode cX7_lineOfWord 37 = .ok (.if_icmp .lt 9, 3) := by decide +kernel
theorem dX7_lineOfWord_40 : decode cX7_lineOfWord 40 = .ok (.iinc 2 1, 3) := by decide +kernel
theorem dX7_lineOfWord_43 : decode cX7_lineOfWord 43 = .ok (.goto (-41), 3) := by decide +kernel
theorem dX7_lineOfWord_46 : decode cX7_lineOfWord 46 = .ok (.iload_n 2, 1) := by decide +kernel
theorem dX7_lineOfWord_47 : decode cX7_lineOfWord 47 = .ok (.ireturn, 1) := by decide +kernel
theorem dX7_beginOf_0 : decode cX7_beginOf 0 = .ok (.aload_n 0, 1) := by decide +kernel
theorem dX7_beginOf_1 : decode cX7_beginOf 1 = .ok (.iload_n 1, 1) := by decide +kernel
theorem dX7_beginOf_2 : decode cX7_beginOf 2 = .ok (.invokevirtual 274, 3) := by decide +kernel
theorem dX7_beginOf_5 : decode cX7_beginOf 5 = .ok (.istore_n 2, 1) := by decide +kernel
theorem dX7_beginOf_6 : decode cX7_beginOf 6 = .ok (.iload_n 1, 1) := by decide +kernel
theorem dX7_beginOf_7 : decode cX7_beginOf 7 = .ok (.aload_n 0, 1) := by decide +kernel
theorem dX7_beginOf_8 : decode cX7_beginOf 8 = .ok (.getfield 50, 3) := by decide +kernel
theorem dX7_beginOf_11 : decode cX7_beginOf 11 = .ok (.iload_n 2, 1) := by decide +kernel
theorem dX7_beginOf_12 : decode cX7_beginOf 12 = .ok (.iaload, 1) := by decide +kernel
theorem dX7_beginOf_13 : decode cX7_beginOf 13 = .ok (.isub, 1) := by decide +kernel
theorem dX7_beginOf_14 : decode cX7_beginOf 14 = .ok (.istore_n 3, 1) := by decide +kernel
theorem dX7_beginOf_15 : decode cX7_beginOf 15 = .ok (.aload_n 0, 1) := by decide +kernel
theorem dX7_beginOf_16 : decode cX7_beginOf 16 = .ok (.getfield 56, 3) := by decide +kernel
theorem dX7_beginOf_19 : decode cX7_beginOf 19 = .ok (.iload_n 2, 1) := by decide +kernel
theorem dX7_beginOf_20 : decode cX7_beginOf 20 = .ok (.iaload, 1) := by decide +kernel
theorem dX7_beginOf_21 : decode cX7_beginOf 21 = .ok (.iload_n 3, 1) := by decide +kernel
theorem dX7_beginOf_22 : decode cX7_beginOf 22 = .ok (.ifCond .ne 7, 3) := by decide +kernel
theorem dX7_beginOf_25 : decode cX7_beginOf 25 = .ok (.iconst 0, 1) := by decide +kernel
theorem dX7_beginOf_26 : decode cX7_beginOf 26 = .ok (.goto 16, 3) := by decide +kernel
theorem dX7_beginOf_29 : decode cX7_beginOf 29 = .ok (.aload_n 0, 1) := by decide +kernel
theorem dX7_beginOf_30 : decode cX7_beginOf 30 = .ok (.aload_n 0, 1) := by decide +kernel
theorem dX7_beginOf_31 : decode cX7_beginOf 31 = .ok (.getfield 50, 3) := by decide +kernel
theorem dX7_beginOf_34 : decode cX7_beginOf 34 = .ok (.iload_n 2, 1) := by decide +kernel
theorem dX7_beginOf_35 : decode cX7_beginOf 35 = .ok (.iaload, 1) := by decide +kernel
theorem dX7_beginOf_36 : decode cX7_beginOf 36 = .ok (.iload_n 3, 1) := by decide +kernel
theorem dX7_beginOf_37 : decode cX7_beginOf 37 = .ok (.invokevirtual 207, 3) := by decide +kernel
theorem dX7_beginOf_40 : decode cX7_beginOf 40 = .ok (.iconst 1, 1) := by decide +kernel
theorem dX7_beginOf_41 : decode cX7_beginOf 41 = .ok (.iadd, 1) := by decide +kernel
theorem dX7_beginOf_42 : decode cX7_beginOf 42 = .ok (.iadd, 1) := by decide +kernel
theorem dX7_beginOf_43 : decode cX7_beginOf 43 = .ok (.ireturn, 1) := by decide +kernel
theorem dX7_word_0 : decode cX7_word 0 = .ok (.aload_n 0, 1) := by decide +kernel
theorem dX7_word_1 : decode cX7_word 1 = .ok (.iload_n 1, 1) := by decide +kernel
theorem dX7_word_2 : decode cX7_word 2 = .ok (.invokevirtual 263, 3) := by decide +kernel
theorem dX7_word_5 : decode cX7_word 5 = .ok (.ifCond .eq 19, 3) := by decide +kernel
theorem dX7_word_8 : decode cX7_word 8 = .ok (.iload_n 2, 1) := by decide +kernel
theorem dX7_word_9 : decode cX7_word 9 = .ok (.ifCond .lt 15, 3) := by decide +kernel
theorem dX7_word_12 : decode cX7_word 12 = .ok (.iload_n 3, 1) := by decide +kernel
theorem dX7_word_13 : decode cX7_word 13 = .ok (.i2l, 1) := by decide +kernel
theorem dX7_word_14 : decode cX7_word 14 = .ok (.lconst 0, 1) := by decide +kernel
theorem dX7_word_15 : decode cX7_word 15 = .ok (.ldc2_w 277, 3) := by decide +kernel
theorem dX7_word_18 : decode cX7_word 18 = .ok (.invokestatic 73, 3) := by decide +kernel
theorem dX7_word_21 : decode cX7_word 21 = .ok (.ifCond .ne 5, 3) := by decide +kernel
theorem dX7_word_24 : decode cX7_word 24 = .ok (.iconst (-1), 1) := by decide +kernel
theorem dX7_word_25 : decode cX7_word 25 = .ok (.ireturn, 1) := by decide +kernel
theorem dX7_word_26 : decode cX7_word 26 = .ok (.iload_n 2, 1) := by decide +kernel
theorem dX7_word_27 : decode cX7_word 27 = .ok (.aload_n 0, 1) := by decide +kernel
theorem dX7_word_28 : decode cX7_word 28 = .ok (.iload_n 1, 1) := by decide +kernel
theorem dX7_word_29 : decode cX7_word 29 = .ok (.invokevirtual 171, 3) := by decide +kernel
theorem dX7_word_32 : decode cX7_word 32 = .ok (.if_icmp .lt 6, 3) := by decide +kernel
theorem dX7_word_35 : decode cX7_word 35 = .ok (.bipush (-4), 2) := by decide +kernel
theorem dX7_word_37 : decode cX7_word 37 = .ok (.ireturn, 1) := by decide +kernel
theorem dX7_word_38 : decode cX7_word 38 = .ok (.aload_n 0, 1) := by decide +kernel
theorem dX7_word_39 : decode cX7_word 39 = .ok (.iload_n 1, 1) := by decide +kernel
theorem dX7_word_40 : decode cX7_word 40 = .ok (.invokevirtual 201, 3) := by decide +kernel
theorem dX7_word_43 : decode cX7_word 43 = .ok (.iload_n 2, 1) := by decide +kernel
theorem dX7_word_44 : decode cX7_word 44 = .ok (.iadd, 1) := by decide +kernel
theorem dX7_word_45 : decode cX7_word 45 = .ok (.istore 4, 2) := by decide +kernel
theorem dX7_word_47 : decode cX7_word 47 = .ok (.aload_n 0, 1) := by decide +kernel
theorem dX7_word_48 : decode cX7_word 48 = .ok (.invokevirtual 252, 3) := by decide +kernel
theorem dX7_word_51 : decode cX7_word 51 = .ok (.iload_n 3, 1) := by decide +kernel
theorem dX7_word_52 : decode cX7_word 52 = .ok (.tableswitch 71 0 3 #[32, 46, 53, 64], 32) := by decide +kernel
theorem dX7_word_84 : decode cX7_word 84 = .ok (.aload_n 0, 1) := by decide +kernel
theorem dX7_word_85 : decode cX7_word 85 = .ok (.getfield 7, 3) := by decide +kernel
theorem dX7_word_88 : decode cX7_word 88 = .ok (.bipush 25, 2) := by decide +kernel
theorem dX7_word_90 : decode cX7_word 90 = .ok (.bipush 7, 2) := by decide +kernel
theorem dX7_word_92 : decode cX7_word 92 = .ok (.iload 4, 2) := by decide +kernel
theorem dX7_word_94 : decode cX7_word 94 = .ok (.imul, 1) := by decide +kernel
theorem dX7_word_95 : decode cX7_word 95 = .ok (.iadd, 1) := by decide +kernel
theorem dX7_word_96 : decode cX7_word 96 = .ok (.iaload, 1) := by decide +kernel
theorem dX7_word_97 : decode cX7_word 97 = .ok (.ireturn, 1) := by decide +kernel
theorem dX7_word_98 : decode cX7_word 98 = .ok (.aload_n 0, 1) := by decide +kernel
theorem dX7_word_99 : decode cX7_word 99 = .ok (.iload 4, 2) := by decide +kernel
theorem dX7_word_101 : decode cX7_word 101 = .ok (.invokevirtual 195, 3) := by decide +kernel
theorem dX7_word_104 : decode cX7_word 104 = .ok (.ireturn, 1) := by decide +kernel
theorem dX7_word_105 : decode cX7_word 105 = .ok (.aload_n 0, 1) := by decide +kernel
theorem dX7_word_106 : decode cX7_word 106 = .ok (.iload 4, 2) := by decide +kernel
theorem dX7_word_108 : decode cX7_word 108 = .ok (.aload_n 0, 1) := by decide +kernel
theorem dX7_word_109 : decode cX7_word 109 = .ok (.invokevirtual 237, 3) := by decide +kernel
theorem dX7_word_112 : decode cX7_word 112 = .ok (.invokevirtual 240, 3) := by decide +kernel
theorem dX7_word_115 : decode cX7_word 115 = .ok (.ireturn, 1) := by decide +kernel
theorem dX7_word_116 : decode cX7_word 116 = .ok (.aload_n 0, 1) := by decide +kernel
theorem dX7_word_117 : decode cX7_word 117 = .ok (.iload 4, 2) := by decide +kernel
theorem dX7_word_119 : decode cX7_word 119 = .ok (.invokevirtual 274, 3) := by decide +kernel
theorem dX7_word_122 : decode cX7_word 122 = .ok (.ireturn, 1) := by decide +kernel
theorem dX7_word_123 : decode cX7_word 123 = .ok (.aload_n 0, 1) := by decide +kernel
theorem dX7_word_124 : decode cX7_word 124 = .ok (.iload 4, 2) := by decide +kernel
theorem dX7_word_126 : decode cX7_word 126 = .ok (.invokevirtual 279, 3) := by decide +kernel
theorem dX7_word_129 : decode cX7_word 129 = .ok (.ireturn, 1) := by decide +kernel
theorem dX7_letter_0 : decode cX7_letter 0 = .ok (.aload_n 0, 1) := by decide +kernel
theorem dX7_letter_1 : decode cX7_letter 1 = .ok (.iload_n 1, 1) := by decide +kernel
theorem dX7_letter_2 : decode cX7_letter 2 = .ok (.invokevirtual 263, 3) := by decide +kernel
theorem dX7_letter_5 : decode cX7_letter 5 = .ok (.ifCond .eq 11, 3) := by decide +kernel
theorem dX7_letter_8 : decode cX7_letter 8 = .ok (.iload_n 2, 1) := by decide +kernel
theorem dX7_letter_9 : decode cX7_letter 9 = .ok (.ifCond .lt 7, 3) := by decide +kernel
theorem dX7_letter_12 : decode cX7_letter 12 = .ok (.iload_n 3, 1) := by decide +kernel
theorem dX7_letter_13 : decode cX7_letter 13 = .ok (.ifCond .ge 5, 3) := by decide +kernel
theorem dX7_letter_16 : decode cX7_letter 16 = .ok (.iconst (-1), 1) := by decide +kernel
theorem dX7_letter_17 : decode cX7_letter 17 = .ok (.ireturn, 1) := by decide +kernel
theorem dX7_letter_18 : decode cX7_letter 18 = .ok (.iload_n 2, 1) := by decide +kernel
theorem dX7_letter_19 : decode cX7_letter 19 = .ok (.aload_n 0, 1) := by decide +kernel
theorem dX7_letter_20 : decode cX7_letter 20 = .ok (.iload_n 1, 1) := by decide +kernel
theorem dX7_letter_21 : decode cX7_letter 21 = .ok (.invokevirtual 171, 3) := by decide +kernel
theorem dX7_letter_24 : decode cX7_letter 24 = .ok (.if_icmp .lt 6, 3) := by decide +kernel
theorem dX7_letter_27 : decode cX7_letter 27 = .ok (.bipush (-4), 2) := by decide +kernel
theorem dX7_letter_29 : decode cX7_letter 29 = .ok (.ireturn, 1) := by decide +kernel
theorem dX7_letter_30 : decode cX7_letter 30 = .ok (.bipush 25, 2) := by decide +kernel
theorem dX7_letter_32 : decode cX7_letter 32 = .ok (.bipush 7, 2) := by decide +kernel
theorem dX7_letter_34 : decode cX7_letter 34 = .ok (.aload_n 0, 1) := by decide +kernel
theorem dX7_letter_35 : decode cX7_letter 35 = .ok (.iload_n 1, 1) := by decide +kernel
theorem dX7_letter_36 : decode cX7_letter 36 = .ok (.invokevirtual 201, 3) := by decide +kernel
theorem dX7_letter_39 : decode cX7_letter 39 = .ok (.iload_n 2, 1) := by decide +kernel
theorem dX7_letter_40 : decode cX7_letter 40 = .ok (.iadd, 1) := by decide +kernel
theorem dX7_letter_41 : decode cX7_letter 41 = .ok (.imul, 1) := by decide +kernel
theorem dX7_letter_42 : decode cX7_letter 42 = .ok (.iadd, 1) := by decide +kernel
theorem dX7_letter_43 : decode cX7_letter 43 = .ok (.istore 4, 2) := by decide +kernel
theorem dX7_letter_45 : decode cX7_letter 45 = .ok (.iload_n 3, 1) := by decide +kernel
theorem dX7_letter_46 : decode cX7_letter 46 = .ok (.aload_n 0, 1) := by decide +kernel
theorem dX7_letter_47 : decode cX7_letter 47 = .ok (.getfield 7, 3) := by decide +kernel
theorem dX7_letter_50 : decode cX7_letter 50 = .ok (.iload 4, 2) := by decide +kernel
theorem dX7_letter_52 : decode cX7_letter 52 = .ok (.iaload, 1) := by decide +kernel
theorem dX7_letter_53 : decode cX7_letter 53 = .ok (.if_icmp .ge 17, 3) := by decide +kernel
theorem dX7_letter_56 : decode cX7_letter 56 = .ok (.aload_n 0, 1) := by decide +kernel
theorem dX7_letter_57 : decode cX7_letter 57 = .ok (.getfield 7, 3) := by decide +kernel
theorem dX7_letter_60 : decode cX7_letter 60 = .ok (.iload 4, 2) := by decide +kernel
theorem dX7_letter_62 : decode cX7_letter 62 = .ok (.iconst 1, 1) := by decide +kernel
theorem dX7_letter_63 : decode cX7_letter 63 = .ok (.iadd, 1) := by decide +kernel
theorem dX7_letter_64 : decode cX7_letter 64 = .ok (.iload_n 3, 1) := by decide +kernel
theorem dX7_letter_65 : decode cX7_letter 65 = .ok (.iadd, 1) := by decide +kernel
theorem dX7_letter_66 : decode cX7_letter 66 = .ok (.iaload, 1) := by decide +kernel
theorem dX7_letter_67 : decode cX7_letter 67 = .ok (.goto 5, 3) := by decide +kernel
theorem dX7_letter_70 : decode cX7_letter 70 = .ok (.bipush (-4), 2) := by decide +kernel
theorem dX7_letter_72 : decode cX7_letter 72 = .ok (.ireturn, 1) := by decide +kernel
theorem dX7_drawn_0 : decode cX7_drawn 0 = .ok (.aload_n 0, 1) := by decide +kernel
theorem dX7_drawn_1 : decode cX7_drawn 1 = .ok (.iload_n 1, 1) := by decide +kernel
theorem dX7_drawn_2 : decode cX7_drawn 2 = .ok (.invokevirtual 263, 3) := by decide +kernel
theorem dX7_drawn_5 : decode cX7_drawn 5 = .ok (.ifCond .eq 19, 3) := by decide +kernel
theorem dX7_drawn_8 : decode cX7_drawn 8 = .ok (.iload_n 2, 1) := by decide +kernel
theorem dX7_drawn_9 : decode cX7_drawn 9 = .ok (.ifCond .lt 15, 3) := by decide +kernel
theorem dX7_drawn_12 : decode cX7_drawn 12 = .ok (.iload_n 3, 1) := by decide +kernel
theorem dX7_drawn_13 : decode cX7_drawn 13 = .ok (.i2l, 1) := by decide +kernel
theorem dX7_drawn_14 : decode cX7_drawn 14 = .ok (.lconst 0, 1) := by decide +kernel
theorem dX7_drawn_15 : decode cX7_drawn 15 = .ok (.ldc2_w 282, 3) := by decide +kernel
theorem dX7_drawn_18 : decode cX7_drawn 18 = .ok (.invokestatic 73, 3) := by decide +kernel
theorem dX7_drawn_21 : decode cX7_drawn 21 = .ok (.ifCond .ne 5, 3) := by decide +kernel
theorem dX7_drawn_24 : decode cX7_drawn 24 = .ok (.iconst (-1), 1) := by decide +kernel
theorem dX7_drawn_25 : decode cX7_drawn 25 = .ok (.ireturn, 1) := by decide +kernel
theorem dX7_drawn_26 : decode cX7_drawn 26 = .ok (.aload_n 0, 1) := by decide +kernel
theorem dX7_drawn_27 : decode cX7_drawn 27 = .ok (.iload_n 1, 1) := by decide +kernel
theorem dX7_drawn_28 : decode cX7_drawn 28 = .ok (.invokevirtual 174, 3) := by decide +kernel
theorem dX7_drawn_31 : decode cX7_drawn 31 = .ok (.bipush (-4), 2) := by decide +kernel
theorem dX7_drawn_33 : decode cX7_drawn 33 = .ok (.if_icmp .eq 13, 3) := by decide +kernel
theorem dX7_drawn_36 : decode cX7_drawn 36 = .ok (.iload_n 2, 1) := by decide +kernel
theorem dX7_drawn_37 : decode cX7_drawn 37 = .ok (.aload_n 0, 1) := by decide +kernel
theorem dX7_drawn_38 : decode cX7_drawn 38 = .ok (.iload_n 1, 1) := by decide +kernel
theorem dX7_drawn_39 : decode cX7_drawn 39 = .ok (.iconst 2, 1) := by decide +kernel
theorem dX7_drawn_40 : decode cX7_drawn 40 = .ok (.invokevirtual 180, 3) := by decide +kernel
theorem dX7_drawn_43 : decode cX7_drawn 43 = .ok (.if_icmp .lt 6, 3) := by decide +kernel
theorem dX7_drawn_46 : decode cX7_drawn 46 = .ok (.bipush (-4), 2) := by decide +kernel
theorem dX7_drawn_48 : decode cX7_drawn 48 = .ok (.ireturn, 1) := by decide +kernel
theorem dX7_drawn_49 : decode cX7_drawn 49 = .ok (.iload_n 3, 1) := by decide +kernel
theorem dX7_drawn_50 : decode cX7_drawn 50 = .ok (.iconst 2, 1) := by decide +kernel
theorem dX7_drawn_51 : decode cX7_drawn 51 = .ok (.if_icmp .ne 12, 3) := by decide +kernel
theorem dX7_drawn_54 : decode cX7_drawn 54 = .ok (.aload_n 0, 1) := by decide +kernel
theorem dX7_drawn_55 : decode cX7_drawn 55 = .ok (.iload_n 1, 1) := by decide +kernel
theorem dX7_drawn_56 : decode cX7_drawn 56 = .ok (.iload_n 2, 1) := by decide +kernel
theorem dX7_drawn_57 : decode cX7_drawn 57 = .ok (.invokevirtual 189, 3) := by decide +kernel
theorem dX7_drawn_60 : decode cX7_drawn 60 = .ok (.goto 11, 3) := by decide +kernel
theorem dX7_drawn_63 : decode cX7_drawn 63 = .ok (.aload_n 0, 1) := by decide +kernel
theorem dX7_drawn_64 : decode cX7_drawn 64 = .ok (.iload_n 1, 1) := by decide +kernel
theorem dX7_drawn_65 : decode cX7_drawn 65 = .ok (.iload_n 2, 1) := by decide +kernel
theorem dX7_drawn_66 : decode cX7_drawn 66 = .ok (.iload_n 3, 1) := by decide +kernel
theorem dX7_drawn_67 : decode cX7_drawn 67 = .ok (.iadd, 1) := by decide +kernel
theorem dX7_drawn_68 : decode cX7_drawn 68 = .ok (.invokevirtual 186, 3) := by decide +kernel
theorem dX7_drawn_71 : decode cX7_drawn 71 = .ok (.ireturn, 1) := by decide +kernel
theorem dX7_reach_0 : decode cX7_reach 0 = .ok (.aload_n 0, 1) := by decide +kernel
theorem dX7_reach_1 : decode cX7_reach 1 = .ok (.iload_n 1, 1) := by decide +kernel
theorem dX7_reach_2 : decode cX7_reach 2 = .ok (.invokevirtual 263, 3) := by decide +kernel
theorem dX7_reach_5 : decode cX7_reach 5 = .ok (.ifCond .eq 7, 3) := by decide +kernel
theorem dX7_reach_8 : decode cX7_reach 8 = .ok (.iload_n 2, 1) := by decide +kernel
theorem dX7_reach_9 : decode cX7_reach 9 = .ok (.ifCond .ge 5, 3) := by decide +kernel
theorem dX7_reach_12 : decode cX7_reach 12 = .ok (.iconst (-1), 1) := by decide +kernel
theorem dX7_reach_13 : decode cX7_reach 13 = .ok (.ireturn, 1) := by decide +kernel
theorem dX7_reach_14 : decode cX7_reach 14 = .ok (.aload_n 0, 1) := by decide +kernel
theorem dX7_reach_15 : decode cX7_reach 15 = .ok (.iload_n 1, 1) := by decide +kernel
theorem dX7_reach_16 : decode cX7_reach 16 = .ok (.invokevirtual 174, 3) := by decide +kernel
theorem dX7_reach_19 : decode cX7_reach 19 = .ok (.bipush (-4), 2) := by decide +kernel
theorem dX7_reach_21 : decode cX7_reach 21 = .ok (.if_icmp .ne 8, 3) := by decide +kernel
theorem dX7_reach_24 : decode cX7_reach 24 = .ok (.bipush (-4), 2) := by decide +kernel
theorem dX7_reach_26 : decode cX7_reach 26 = .ok (.goto 9, 3) := by decide +kernel
theorem dX7_reach_29 : decode cX7_reach 29 = .ok (.aload_n 0, 1) := by decide +kernel
theorem dX7_reach_30 : decode cX7_reach 30 = .ok (.iload_n 1, 1) := by decide +kernel
theorem dX7_reach_31 : decode cX7_reach 31 = .ok (.iload_n 2, 1) := by decide +kernel
theorem dX7_reach_32 : decode cX7_reach 32 = .ok (.invokevirtual 192, 3) := by decide +kernel
theorem dX7_reach_35 : decode cX7_reach 35 = .ok (.ireturn, 1) := by decide +kernel
theorem dX7_line_0 : decode cX7_line 0 = .ok (.aload_n 0, 1) := by decide +kernel
theorem dX7_line_1 : decode cX7_line 1 = .ok (.invokevirtual 252, 3) := by decide +kernel
theorem dX7_line_4 : decode cX7_line 4 = .ok (.iload_n 1, 1) := by decide +kernel
theorem dX7_line_5 : decode cX7_line 5 = .ok (.i2l, 1) := by decide +kernel
theorem dX7_line_6 : decode cX7_line 6 = .ok (.lconst 0, 1) := by decide +kernel
theorem dX7_line_7 : decode cX7_line 7 = .ok (.aload_n 0, 1) := by decide +kernel
theorem dX7_line_8 : decode cX7_line 8 = .ok (.getfield 214, 3) := by decide +kernel
theorem dX7_line_11 : decode cX7_line 11 = .ok (.iconst 1, 1) := by decide +kernel
theorem dX7_line_12 : decode cX7_line 12 = .ok (.isub, 1) := by decide +kernel
theorem dX7_line_13 : decode cX7_line 13 = .ok (.i2l, 1) := by decide +kernel
theorem dX7_line_14 : decode cX7_line 14 = .ok (.invokestatic 73, 3) := by decide +kernel
theorem dX7_line_17 : decode cX7_line 17 = .ok (.ifCond .eq 15, 3) := by decide +kernel
theorem dX7_line_20 : decode cX7_line 20 = .ok (.iload_n 2, 1) := by decide +kernel
theorem dX7_line_21 : decode cX7_line 21 = .ok (.i2l, 1) := by decide +kernel
theorem dX7_line_22 : decode cX7_line 22 = .ok (.lconst 0, 1) := by decide +kernel
theorem dX7_line_23 : decode cX7_line 23 = .ok (.ldc2_w 284, 3) := by decide +kernel
theorem dX7_line_26 : decode cX7_line 26 = .ok (.invokestatic 73, 3) := by decide +kernel
theorem dX7_line_29 : decode cX7_line 29 = .ok (.ifCond .ne 5, 3) := by decide +kernel
theorem dX7_line_32 : decode cX7_line 32 = .ok (.iconst (-1), 1) := by decide +kernel
theorem dX7_line_33 : decode cX7_line 33 = .ok (.ireturn, 1) := by decide +kernel
theorem dX7_line_34 : decode cX7_line 34 = .ok (.aload_n 0, 1) := by decide +kernel
theorem dX7_line_35 : decode cX7_line 35 = .ok (.getfield 47, 3) := by decide +kernel
theorem dX7_line_38 : decode cX7_line 38 = .ok (.iload_n 1, 1) := by decide +kernel
theorem dX7_line_39 : decode cX7_line 39 = .ok (.iaload, 1) := by decide +kernel
theorem dX7_line_40 : decode cX7_line 40 = .ok (.bipush (-4), 2) := by decide +kernel
theorem dX7_line_42 : decode cX7_line 42 = .ok (.if_icmp .ne 6, 3) := by decide +kernel
theorem dX7_line_45 : decode cX7_line 45 = .ok (.bipush (-4), 2) := by decide +kernel
theorem dX7_line_47 : decode cX7_line 47 = .ok (.ireturn, 1) := by decide +kernel
theorem dX7_line_48 : decode cX7_line 48 = .ok (.iload_n 2, 1) := by decide +kernel
theorem dX7_line_49 : decode cX7_line 49 = .ok (.tableswitch 125 0 6 #[43, 50, 68, 75, 82, 94, 111], 43) := by decide +kernel
theorem dX7_line_92 : decode cX7_line 92 = .ok (.aload_n 0, 1) := by decide +kernel
theorem dX7_line_93 : decode cX7_line 93 = .ok (.getfield 47, 3) := by decide +kernel
theorem dX7_line_96 : decode cX7_line 96 = .ok (.iload_n 1, 1) := by decide +kernel
theorem dX7_line_97 : decode cX7_line 97 = .ok (.iaload, 1) := by decide +kernel
theorem dX7_line_98 : decode cX7_line 98 = .ok (.ireturn, 1) := by decide +kernel
theorem dX7_line_99 : decode cX7_line 99 = .ok (.aload_n 0, 1) := by decide +kernel
theorem dX7_line_100 : decode cX7_line 100 = .ok (.getfield 50, 3) := by decide +kernel
theorem dX7_line_103 : decode cX7_line 103 = .ok (.iload_n 1, 1) := by decide +kernel
theorem dX7_line_104 : decode cX7_line 104 = .ok (.iaload, 1) := by decide +kernel
theorem dX7_line_105 : decode cX7_line 105 = .ok (.aload_n 0, 1) := by decide +kernel
theorem dX7_line_106 : decode cX7_line 106 = .ok (.aload_n 0, 1) := by decide +kernel
theorem dX7_line_107 : decode cX7_line 107 = .ok (.getfield 47, 3) := by decide +kernel
theorem dX7_line_110 : decode cX7_line 110 = .ok (.iload_n 1, 1) := by decide +kernel
theorem dX7_line_111 : decode cX7_line 111 = .ok (.iaload, 1) := by decide +kernel
theorem dX7_line_112 : decode cX7_line 112 = .ok (.invokevirtual 201, 3) := by decide +kernel
theorem dX7_line_115 : decode cX7_line 115 = .ok (.isub, 1) := by decide +kernel
theorem dX7_line_116 : decode cX7_line 116 = .ok (.ireturn, 1) := by decide +kernel
theorem dX7_line_117 : decode cX7_line 117 = .ok (.aload_n 0, 1) := by decide +kernel
theorem dX7_line_118 : decode cX7_line 118 = .ok (.getfield 53, 3) := by decide +kernel
theorem dX7_line_121 : decode cX7_line 121 = .ok (.iload_n 1, 1) := by decide +kernel
theorem dX7_line_122 : decode cX7_line 122 = .ok (.iaload, 1) := by decide +kernel
theorem dX7_line_123 : decode cX7_line 123 = .ok (.ireturn, 1) := by decide +kernel
theorem dX7_line_124 : decode cX7_line 124 = .ok (.aload_n 0, 1) := by decide +kernel
theorem dX7_line_125 : decode cX7_line 125 = .ok (.getfield 56, 3) := by decide +kernel
theorem dX7_line_128 : decode cX7_line 128 = .ok (.iload_n 1, 1) := by decide +kernel
theorem dX7_line_129 : decode cX7_line 129 = .ok (.iaload, 1) := by decide +kernel
theorem dX7_line_130 : decode cX7_line 130 = .ok (.ireturn, 1) := by decide +kernel
theorem dX7_line_131 : decode cX7_line 131 = .ok (.aload_n 0, 1) := by decide +kernel
theorem dX7_line_132 : decode cX7_line 132 = .ok (.aload_n 0, 1) := by decide +kernel
theorem dX7_line_133 : decode cX7_line 133 = .ok (.getfield 47, 3) := by decide +kernel
theorem dX7_line_136 : decode cX7_line 136 = .ok (.iload_n 1, 1) := by decide +kernel
theorem dX7_line_137 : decode cX7_line 137 = .ok (.iaload, 1) := by decide +kernel
theorem dX7_line_138 : decode cX7_line 138 = .ok (.iload_n 1, 1) := by decide +kernel
theorem dX7_line_139 : decode cX7_line 139 = .ok (.invokevirtual 204, 3) := by decide +kernel
theorem dX7_line_142 : decode cX7_line 142 = .ok (.ireturn, 1) := by decide +kernel
theorem dX7_line_143 : decode cX7_line 143 = .ok (.aload_n 0, 1) := by decide +kernel
theorem dX7_line_144 : decode cX7_line 144 = .ok (.aload_n 0, 1) := by decide +kernel
theorem dX7_line_145 : decode cX7_line 145 = .ok (.getfield 50, 3) := by decide +kernel
theorem dX7_line_148 : decode cX7_line 148 = .ok (.iload_n 1, 1) := by decide +kernel
theorem dX7_line_149 : decode cX7_line 149 = .ok (.iaload, 1) := by decide +kernel
theorem dX7_line_150 : decode cX7_line 150 = .ok (.aload_n 0, 1) := by decide +kernel
theorem dX7_line_151 : decode cX7_line 151 = .ok (.getfield 53, 3) := by decide +kernel
theorem dX7_line_154 : decode cX7_line 154 = .ok (.iload_n 1, 1) := by decide +kernel
theorem dX7_line_155 : decode cX7_line 155 = .ok (.iaload, 1) := by decide +kernel
theorem dX7_line_156 : decode cX7_line 156 = .ok (.invokevirtual 207, 3) := by decide +kernel
theorem dX7_line_159 : decode cX7_line 159 = .ok (.ireturn, 1) := by decide +kernel
theorem dX7_line_160 : decode cX7_line 160 = .ok (.aload_n 0, 1) := by decide +kernel
theorem dX7_line_161 : decode cX7_line 161 = .ok (.iload_n 1, 1) := by decide +kernel
theorem dX7_line_162 : decode cX7_line 162 = .ok (.invokevirtual 230, 3) := by decide +kernel
theorem dX7_line_165 : decode cX7_line 165 = .ok (.ifCond .eq 7, 3) := by decide +kernel
theorem dX7_line_168 : decode cX7_line 168 = .ok (.iconst 1, 1) := by decide +kernel
theorem dX7_line_169 : decode cX7_line 169 = .ok (.goto 4, 3) := by decide +kernel
theorem dX7_line_172 : decode cX7_line 172 = .ok (.iconst 0, 1) := by decide +kernel
theorem dX7_line_173 : decode cX7_line 173 = .ok (.ireturn, 1) := by decide +kernel
theorem dX7_line_174 : decode cX7_line 174 = .ok (.aload_n 0, 1) := by decide +kernel
theorem dX7_line_175 : decode cX7_line 175 = .ok (.iload_n 1, 1) := by decide +kernel
theorem dX7_line_176 : decode cX7_line 176 = .ok (.invokevirtual 227, 3) := by decide +kernel
theorem dX7_line_179 : decode cX7_line 179 = .ok (.ifCond .eq 7, 3) := by decide +kernel
theorem dX7_line_182 : decode cX7_line 182 = .ok (.iconst 1, 1) := by decide +kernel
theorem dX7_line_183 : decode cX7_line 183 = .ok (.goto 4, 3) := by decide +kernel
theorem dX7_line_186 : decode cX7_line 186 = .ok (.iconst 0, 1) := by decide +kernel
theorem dX7_line_187 : decode cX7_line 187 = .ok (.ireturn, 1) := by decide +kernel
theorem dX7_sign_0 : decode cX7_sign 0 = .ok (.aload_n 0, 1) := by decide +kernel
theorem dX7_sign_1 : decode cX7_sign 1 = .ok (.invokevirtual 252, 3) := by decide +kernel
theorem dX7_sign_4 : decode cX7_sign 4 = .ok (.iload_n 1, 1) := by decide +kernel
theorem dX7_sign_5 : decode cX7_sign 5 = .ok (.i2l, 1) := by decide +kernel
theorem dX7_sign_6 : decode cX7_sign 6 = .ok (.lconst 0, 1) := by decide +kernel
theorem dX7_sign_7 : decode cX7_sign 7 = .ok (.aload_n 0, 1) := by decide +kernel
theorem dX7_sign_8 : decode cX7_sign 8 = .ok (.getfield 214, 3) := by decide +kernel
theorem dX7_sign_11 : decode cX7_sign 11 = .ok (.iconst 1, 1) := by decide +kernel
theorem dX7_sign_12 : decode cX7_sign 12 = .ok (.isub, 1) := by decide +kernel
theorem dX7_sign_13 : decode cX7_sign 13 = .ok (.i2l, 1) := by decide +kernel
theorem dX7_sign_14 : decode cX7_sign 14 = .ok (.invokestatic 73, 3) := by decide +kernel
theorem dX7_sign_17 : decode cX7_sign 17 = .ok (.ifCond .eq 7, 3) := by decide +kernel
theorem dX7_sign_20 : decode cX7_sign 20 = .ok (.iload_n 2, 1) := by decide +kernel
theorem dX7_sign_21 : decode cX7_sign 21 = .ok (.ifCond .ge 5, 3) := by decide +kernel
theorem dX7_sign_24 : decode cX7_sign 24 = .ok (.iconst (-1), 1) := by decide +kernel
theorem dX7_sign_25 : decode cX7_sign 25 = .ok (.ireturn, 1) := by decide +kernel
theorem dX7_sign_26 : decode cX7_sign 26 = .ok (.iload_n 2, 1) := by decide +kernel
theorem dX7_sign_27 : decode cX7_sign 27 = .ok (.istore_n 3, 1) := by decide +kernel
theorem dX7_sign_28 : decode cX7_sign 28 = .ok (.iconst 0, 1) := by decide +kernel
theorem dX7_sign_29 : decode cX7_sign 29 = .ok (.istore 4, 2) := by decide +kernel
theorem dX7_sign_31 : decode cX7_sign 31 = .ok (.aload_n 0, 1) := by decide +kernel
theorem dX7_sign_32 : decode cX7_sign 32 = .ok (.getfield 47, 3) := by decide +kernel
theorem dX7_sign_35 : decode cX7_sign 35 = .ok (.iload_n 1, 1) := by decide +kernel
theorem dX7_sign_36 : decode cX7_sign 36 = .ok (.iaload, 1) := by decide +kernel
theorem dX7_sign_37 : decode cX7_sign 37 = .ok (.bipush (-4), 2) := by decide +kernel
theorem dX7_sign_39 : decode cX7_sign 39 = .ok (.if_icmp .eq 92, 3) := by decide +kernel
theorem dX7_sign_42 : decode cX7_sign 42 = .ok (.iload 4, 2) := by decide +kernel
theorem dX7_sign_44 : decode cX7_sign 44 = .ok (.aload_n 0, 1) := by decide +kernel
theorem dX7_sign_45 : decode cX7_sign 45 = .ok (.getfield 53, 3) := by decide +kernel
theorem dX7_sign_48 : decode cX7_sign 48 = .ok (.iload_n 1, 1) := by decide +kernel
theorem dX7_sign_49 : decode cX7_sign 49 = .ok (.iaload, 1) := by decide +kernel
theorem dX7_sign_50 : decode cX7_sign 50 = .ok (.if_icmp .ge 81, 3) := by decide +kernel
theorem dX7_sign_53 : decode cX7_sign 53 = .ok (.bipush 25, 2) := by decide +kernel
theorem dX7_sign_55 : decode cX7_sign 55 = .ok (.bipush 7, 2) := by decide +kernel
theorem dX7_sign_57 : decode cX7_sign 57 = .ok (.aload_n 0, 1) := by decide +kernel
theorem dX7_sign_58 : decode cX7_sign 58 = .ok (.getfield 50, 3) := by decide +kernel
theorem dX7_sign_61 : decode cX7_sign 61 = .ok (.iload_n 1, 1) := by decide +kernel
theorem dX7_sign_62 : decode cX7_sign 62 = .ok (.iaload, 1) := by decide +kernel
theorem dX7_sign_63 : decode cX7_sign 63 = .ok (.iload 4, 2) := by decide +kernel
theorem dX7_sign_65 : decode cX7_sign 65 = .ok (.iadd, 1) := by decide +kernel
theorem dX7_sign_66 : decode cX7_sign 66 = .ok (.imul, 1) := by decide +kernel
theorem dX7_sign_67 : decode cX7_sign 67 = .ok (.iadd, 1) := by decide +kernel
theorem dX7_sign_68 : decode cX7_sign 68 = .ok (.istore 5, 2) := by decide +kernel
theorem dX7_sign_70 : decode cX7_sign 70 = .ok (.iload_n 3, 1) := by decide +kernel
theorem dX7_sign_71 : decode cX7_sign 71 = .ok (.aload_n 0, 1) := by decide +kernel
theorem dX7_sign_72 : decode cX7_sign 72 = .ok (.getfield 7, 3) := by decide +kernel
theorem dX7_sign_75 : decode cX7_sign 75 = .ok (.iload 5, 2) := by decide +kernel
theorem dX7_sign_77 : decode cX7_sign 77 = .ok (.iaload, 1) := by decide +kernel
theorem dX7_sign_78 : decode cX7_sign 78 = .ok (.if_icmp .ge 15, 3) := by decide +kernel
theorem dX7_sign_81 : decode cX7_sign 81 = .ok (.aload_n 0, 1) := by decide +kernel
theorem dX7_sign_82 : decode cX7_sign 82 = .ok (.getfield 7, 3) := by decide +kernel
theorem dX7_sign_85 : decode cX7_sign 85 = .ok (.iload 5, 2) := by decide +kernel
theorem dX7_sign_87 : decode cX7_sign 87 = .ok (.iconst 1, 1) := by decide +kernel
theorem dX7_sign_88 : decode cX7_sign 88 = .ok (.iadd, 1) := by decide +kernel
theorem dX7_sign_89 : decode cX7_sign 89 = .ok (.iload_n 3, 1) := by decide +kernel
theorem dX7_sign_90 : decode cX7_sign 90 = .ok (.iadd, 1) := by decide +kernel
theorem dX7_sign_91 : decode cX7_sign 91 = .ok (.iaload, 1) := by decide +kernel
theorem dX7_sign_92 : decode cX7_sign 92 = .ok (.ireturn, 1) := by decide +kernel
theorem dX7_sign_93 : decode cX7_sign 93 = .ok (.iload_n 3, 1) := by decide +kernel
theorem dX7_sign_94 : decode cX7_sign 94 = .ok (.aload_n 0, 1) := by decide +kernel
theorem dX7_sign_95 : decode cX7_sign 95 = .ok (.getfield 7, 3) := by decide +kernel
theorem dX7_sign_98 : decode cX7_sign 98 = .ok (.iload 5, 2) := by decide +kernel
theorem dX7_sign_100 : decode cX7_sign 100 = .ok (.iaload, 1) := by decide +kernel
theorem dX7_sign_101 : decode cX7_sign 101 = .ok (.isub, 1) := by decide +kernel
theorem dX7_sign_102 : decode cX7_sign 102 = .ok (.istore_n 3, 1) := by decide +kernel
theorem dX7_sign_103 : decode cX7_sign 103 = .ok (.iload_n 3, 1) := by decide +kernel
theorem dX7_sign_104 : decode cX7_sign 104 = .ok (.ifCond .ne 18, 3) := by decide +kernel
theorem dX7_sign_107 : decode cX7_sign 107 = .ok (.iload 4, 2) := by decide +kernel
theorem dX7_sign_109 : decode cX7_sign 109 = .ok (.aload_n 0, 1) := by decide +kernel
theorem dX7_sign_110 : decode cX7_sign 110 = .ok (.getfield 53, 3) := by decide +kernel
theorem dX7_sign_113 : decode cX7_sign 113 = .ok (.iload_n 1, 1) := by decide +kernel
theorem dX7_sign_114 : decode cX7_sign 114 = .ok (.iaload, 1) := by decide +kernel
theorem dX7_sign_115 : decode cX7_sign 115 = .ok (.iconst 1, 1) := by decide +kernel
theorem dX7_sign_116 : decode cX7_sign 116 = .ok (.isub, 1) := by decide +kernel
theorem dX7_sign_117 : decode cX7_sign 117 = .ok (.if_icmp .ge 5, 3) := by decide +kernel
theorem dX7_sign_120 : decode cX7_sign 120 = .ok (.iconst 0, 1) := by decide +kernel
theorem dX7_sign_121 : decode cX7_sign 121 = .ok (.ireturn, 1) := by decide +kernel
theorem dX7_sign_122 : decode cX7_sign 122 = .ok (.iinc 3 (-1), 3) := by decide +kernel
theorem dX7_sign_125 : decode cX7_sign 125 = .ok (.iinc 4 1, 3) := by decide +kernel
theorem dX7_sign_128 : decode cX7_sign 128 = .ok (.goto (-97), 3) := by decide +kernel
theorem dX7_sign_131 : decode cX7_sign 131 = .ok (.bipush (-4), 2) := by decide +kernel
theorem dX7_sign_133 : decode cX7_sign 133 = .ok (.ireturn, 1) := by decide +kernel
theorem dX7_triedAt_0 : decode cX7_triedAt 0 = .ok (.aload_n 0, 1) := by decide +kernel
theorem dX7_triedAt_1 : decode cX7_triedAt 1 = .ok (.getfield 7, 3) := by decide +kernel
theorem dX7_triedAt_4 : decode cX7_triedAt 4 = .ok (.iconst 1, 1) := by decide +kernel
theorem dX7_triedAt_5 : decode cX7_triedAt 5 = .ok (.iconst 3, 1) := by decide +kernel
theorem dX7_triedAt_6 : decode cX7_triedAt 6 = .ok (.iload_n 1, 1) := by decide +kernel
theorem dX7_triedAt_7 : decode cX7_triedAt 7 = .ok (.imul, 1) := by decide +kernel
theorem dX7_triedAt_8 : decode cX7_triedAt 8 = .ok (.iadd, 1) := by decide +kernel
theorem dX7_triedAt_9 : decode cX7_triedAt 9 = .ok (.iconst 1, 1) := by decide +kernel
theorem dX7_triedAt_10 : decode cX7_triedAt 10 = .ok (.iadd, 1) := by decide +kernel
theorem dX7_triedAt_11 : decode cX7_triedAt 11 = .ok (.iaload, 1) := by decide +kernel
theorem dX7_triedAt_12 : decode cX7_triedAt 12 = .ok (.istore 4, 2) := by decide +kernel
theorem dX7_triedAt_14 : decode cX7_triedAt 14 = .ok (.aload_n 0, 1) := by decide +kernel
theorem dX7_triedAt_15 : decode cX7_triedAt 15 = .ok (.getfield 7, 3) := by decide +kernel
theorem dX7_triedAt_18 : decode cX7_triedAt 18 = .ok (.iconst 1, 1) := by decide +kernel
theorem dX7_triedAt_19 : decode cX7_triedAt 19 = .ok (.iconst 3, 1) := by decide +kernel
theorem dX7_triedAt_20 : decode cX7_triedAt 20 = .ok (.iload_n 1, 1) := by decide +kernel
theorem dX7_triedAt_21 : decode cX7_triedAt 21 = .ok (.imul, 1) := by decide +kernel
theorem dX7_triedAt_22 : decode cX7_triedAt 22 = .ok (.iadd, 1) := by decide +kernel
theorem dX7_triedAt_23 : decode cX7_triedAt 23 = .ok (.iconst 1, 1) := by decide +kernel
theorem dX7_triedAt_24 : decode cX7_triedAt 24 = .ok (.iadd, 1) := by decide +kernel
theorem dX7_triedAt_25 : decode cX7_triedAt 25 = .ok (.iload_n 2, 1) := by decide +kernel
theorem dX7_triedAt_26 : decode cX7_triedAt 26 = .ok (.iastore, 1) := by decide +kernel
theorem dX7_triedAt_27 : decode cX7_triedAt 27 = .ok (.aload_n 0, 1) := by decide +kernel
theorem dX7_triedAt_28 : decode cX7_triedAt 28 = .ok (.invokevirtual 252, 3) := by decide +kernel
theorem dX7_triedAt_31 : decode cX7_triedAt 31 = .ok (.aload_n 0, 1) := by decide +kernel
theorem dX7_triedAt_32 : decode cX7_triedAt 32 = .ok (.iload_n 3, 1) := by decide +kernel
theorem dX7_triedAt_33 : decode cX7_triedAt 33 = .ok (.invokevirtual 255, 3) := by decide +kernel
theorem dX7_triedAt_36 : decode cX7_triedAt 36 = .ok (.istore 5, 2) := by decide +kernel
theorem dX7_triedAt_38 : decode cX7_triedAt 38 = .ok (.aload_n 0, 1) := by decide +kernel
theorem dX7_triedAt_39 : decode cX7_triedAt 39 = .ok (.getfield 7, 3) := by decide +kernel
theorem dX7_triedAt_42 : decode cX7_triedAt 42 = .ok (.iconst 1, 1) := by decide +kernel
theorem dX7_triedAt_43 : decode cX7_triedAt 43 = .ok (.iconst 3, 1) := by decide +kernel
theorem dX7_triedAt_44 : decode cX7_triedAt 44 = .ok (.iload_n 1, 1) := by decide +kernel
theorem dX7_triedAt_45 : decode cX7_triedAt 45 = .ok (.imul, 1) := by decide +kernel
theorem dX7_triedAt_46 : decode cX7_triedAt 46 = .ok (.iadd, 1) := by decide +kernel
theorem dX7_triedAt_47 : decode cX7_triedAt 47 = .ok (.iconst 1, 1) := by decide +kernel
theorem dX7_triedAt_48 : decode cX7_triedAt 48 = .ok (.iadd, 1) := by decide +kernel
theorem dX7_triedAt_49 : decode cX7_triedAt 49 = .ok (.iload 4, 2) := by decide +kernel
theorem dX7_triedAt_51 : decode cX7_triedAt 51 = .ok (.iastore, 1) := by decide +kernel
theorem dX7_triedAt_52 : decode cX7_triedAt 52 = .ok (.iload 5, 2) := by decide +kernel
theorem dX7_triedAt_54 : decode cX7_triedAt 54 = .ok (.ireturn, 1) := by decide +kernel
theorem dX7_bestOf_0 : decode cX7_bestOf 0 = .ok (.iconst 2, 1) := by decide +kernel
theorem dX7_bestOf_1 : decode cX7_bestOf 1 = .ok (.istore_n 2, 1) := by decide +kernel
theorem dX7_bestOf_2 : decode cX7_bestOf 2 = .ok (.iconst 3, 1) := by decide +kernel
theorem dX7_bestOf_3 : decode cX7_bestOf 3 = .ok (.istore_n 3, 1) := by decide +kernel
theorem dX7_bestOf_4 : decode cX7_bestOf 4 = .ok (.iload_n 3, 1) := by decide +kernel
theorem dX7_bestOf_5 : decode cX7_bestOf 5 = .ok (.iconst 5, 1) := by decide +kernel
theorem dX7_bestOf_6 : decode cX7_bestOf 6 = .ok (.if_icmp .gt 86, 3) := by decide +kernel
theorem dX7_bestOf_9 : decode cX7_bestOf 9 = .ok (.iconst 0, 1) := by decide +kernel
theorem dX7_bestOf_10 : decode cX7_bestOf 10 = .ok (.istore 4, 2) := by decide +kernel
theorem dX7_bestOf_12 : decode cX7_bestOf 12 = .ok (.iconst 0, 1) := by decide +kernel
theorem dX7_bestOf_13 : decode cX7_bestOf 13 = .ok (.istore 5, 2) := by decide +kernel
theorem dX7_bestOf_15 : decode cX7_bestOf 15 = .ok (.iload 5, 2) := by decide +kernel
theorem dX7_bestOf_17 : decode cX7_bestOf 17 = .ok (.iconst 3, 1) := by decide +kernel
theorem dX7_bestOf_18 : decode cX7_bestOf 18 = .ok (.if_icmp .ge 57, 3) := by decide +kernel
theorem dX7_bestOf_21 : decode cX7_bestOf 21 = .ok (.iload 4, 2) := by decide +kernel
theorem dX7_bestOf_23 : decode cX7_bestOf 23 = .ok (.ifCond .ne 52, 3) := by decide +kernel
theorem dX7_bestOf_26 : decode cX7_bestOf 26 = .ok (.iload 5, 2) := by decide +kernel
theorem dX7_bestOf_28 : decode cX7_bestOf 28 = .ok (.ifCond .ne 7, 3) := by decide +kernel
theorem dX7_bestOf_31 : decode cX7_bestOf 31 = .ok (.iconst 4, 1) := by decide +kernel
theorem dX7_bestOf_32 : decode cX7_bestOf 32 = .ok (.goto 16, 3) := by decide +kernel
theorem dX7_bestOf_35 : decode cX7_bestOf 35 = .ok (.iload 5, 2) := by decide +kernel
theorem dX7_bestOf_37 : decode cX7_bestOf 37 = .ok (.iconst 1, 1) := by decide +kernel
theorem dX7_bestOf_38 : decode cX7_bestOf 38 = .ok (.if_icmp .ne 8, 3) := by decide +kernel
theorem dX7_bestOf_41 : decode cX7_bestOf 41 = .ok (.bipush 6, 2) := by decide +kernel
theorem dX7_bestOf_43 : decode cX7_bestOf 43 = .ok (.goto 5, 3) := by decide +kernel
theorem dX7_bestOf_46 : decode cX7_bestOf 46 = .ok (.bipush 7, 2) := by decide +kernel
theorem dX7_bestOf_48 : decode cX7_bestOf 48 = .ok (.istore 6, 2) := by decide +kernel
theorem dX7_bestOf_50 : decode cX7_bestOf 50 = .ok (.aload_n 0, 1) := by decide +kernel
theorem dX7_bestOf_51 : decode cX7_bestOf 51 = .ok (.iload_n 1, 1) := by decide +kernel
theorem dX7_bestOf_52 : decode cX7_bestOf 52 = .ok (.iload_n 3, 1) := by decide +kernel
theorem dX7_bestOf_53 : decode cX7_bestOf 53 = .ok (.iload 6, 2) := by decide +kernel
theorem dX7_bestOf_55 : decode cX7_bestOf 55 = .ok (.invokevirtual 286, 3) := by decide +kernel
theorem dX7_bestOf_58 : decode cX7_bestOf 58 = .ok (.aload_n 0, 1) := by decide +kernel
theorem dX7_bestOf_59 : decode cX7_bestOf 59 = .ok (.iload_n 1, 1) := by decide +kernel
theorem dX7_bestOf_60 : decode cX7_bestOf 60 = .ok (.iload_n 2, 1) := by decide +kernel
theorem dX7_bestOf_61 : decode cX7_bestOf 61 = .ok (.iload 6, 2) := by decide +kernel
theorem dX7_bestOf_63 : decode cX7_bestOf 63 = .ok (.invokevirtual 286, 3) := by decide +kernel
theorem dX7_bestOf_66 : decode cX7_bestOf 66 = .ok (.isub, 1) := by decide +kernel
theorem dX7_bestOf_67 : decode cX7_bestOf 67 = .ok (.istore 4, 2) := by decide +kernel
theorem dX7_bestOf_69 : decode cX7_bestOf 69 = .ok (.iinc 5 1, 3) := by decide +kernel
theorem dX7_bestOf_72 : decode cX7_bestOf 72 = .ok (.goto (-57), 3) := by decide +kernel
theorem dX7_bestOf_75 : decode cX7_bestOf 75 = .ok (.iload 4, 2) := by decide +kernel
theorem dX7_bestOf_77 : decode cX7_bestOf 77 = .ok (.ifCond .gt 7, 3) := by decide +kernel
theorem dX7_bestOf_80 : decode cX7_bestOf 80 = .ok (.iload_n 3, 1) := by decide +kernel
theorem dX7_bestOf_81 : decode cX7_bestOf 81 = .ok (.goto 4, 3) := by decide +kernel
theorem dX7_bestOf_84 : decode cX7_bestOf 84 = .ok (.iload_n 2, 1) := by decide +kernel
theorem dX7_bestOf_85 : decode cX7_bestOf 85 = .ok (.istore_n 2, 1) := by decide +kernel
theorem dX7_bestOf_86 : decode cX7_bestOf 86 = .ok (.iinc 3 1, 3) := by decide +kernel
theorem dX7_bestOf_89 : decode cX7_bestOf 89 = .ok (.goto (-85), 3) := by decide +kernel
theorem dX7_bestOf_92 : decode cX7_bestOf 92 = .ok (.iload_n 2, 1) := by decide +kernel
theorem dX7_bestOf_93 : decode cX7_bestOf 93 = .ok (.ireturn, 1) := by decide +kernel
theorem dX7_best_0 : decode cX7_best 0 = .ok (.aload_n 0, 1) := by decide +kernel
theorem dX7_best_1 : decode cX7_best 1 = .ok (.iload_n 1, 1) := by decide +kernel
theorem dX7_best_2 : decode cX7_best 2 = .ok (.invokevirtual 263, 3) := by decide +kernel
theorem dX7_best_5 : decode cX7_best 5 = .ok (.ifCond .ne 5, 3) := by decide +kernel
theorem dX7_best_8 : decode cX7_best 8 = .ok (.iconst (-1), 1) := by decide +kernel
theorem dX7_best_9 : decode cX7_best 9 = .ok (.ireturn, 1) := by decide +kernel
theorem dX7_best_10 : decode cX7_best 10 = .ok (.aload_n 0, 1) := by decide +kernel
theorem dX7_best_11 : decode cX7_best 11 = .ok (.iload_n 1, 1) := by decide +kernel
theorem dX7_best_12 : decode cX7_best 12 = .ok (.invokevirtual 174, 3) := by decide +kernel
theorem dX7_best_15 : decode cX7_best 15 = .ok (.bipush (-4), 2) := by decide +kernel
theorem dX7_best_17 : decode cX7_best 17 = .ok (.if_icmp .ne 8, 3) := by decide +kernel
theorem dX7_best_20 : decode cX7_best 20 = .ok (.bipush (-4), 2) := by decide +kernel
theorem dX7_best_22 : decode cX7_best 22 = .ok (.goto 8, 3) := by decide +kernel
theorem dX7_best_25 : decode cX7_best 25 = .ok (.aload_n 0, 1) := by decide +kernel
theorem dX7_best_26 : decode cX7_best 26 = .ok (.iload_n 1, 1) := by decide +kernel
theorem dX7_best_27 : decode cX7_best 27 = .ok (.invokevirtual 290, 3) := by decide +kernel
theorem dX7_best_30 : decode cX7_best 30 = .ok (.ireturn, 1) := by decide +kernel
theorem dX7_tried_0 : decode cX7_tried 0 = .ok (.aload_n 0, 1) := by decide +kernel
theorem dX7_tried_1 : decode cX7_tried 1 = .ok (.iload_n 1, 1) := by decide +kernel
theorem dX7_tried_2 : decode cX7_tried 2 = .ok (.invokevirtual 263, 3) := by decide +kernel
theorem dX7_tried_5 : decode cX7_tried 5 = .ok (.ifCond .eq 17, 3) := by decide +kernel
theorem dX7_tried_8 : decode cX7_tried 8 = .ok (.iload_n 2, 1) := by decide +kernel
theorem dX7_tried_9 : decode cX7_tried 9 = .ok (.i2l, 1) := by decide +kernel
theorem dX7_tried_10 : decode cX7_tried 10 = .ok (.ldc2_w 282, 3) := by decide +kernel
theorem dX7_tried_13 : decode cX7_tried 13 = .ok (.ldc2_w 293, 3) := by decide +kernel
theorem dX7_tried_16 : decode cX7_tried 16 = .ok (.invokestatic 73, 3) := by decide +kernel
theorem dX7_tried_19 : decode cX7_tried 19 = .ok (.ifCond .ne 5, 3) := by decide +kernel
theorem dX7_tried_22 : decode cX7_tried 22 = .ok (.iconst (-1), 1) := by decide +kernel
theorem dX7_tried_23 : decode cX7_tried 23 = .ok (.ireturn, 1) := by decide +kernel
theorem dX7_tried_24 : decode cX7_tried 24 = .ok (.aload_n 0, 1) := by decide +kernel
theorem dX7_tried_25 : decode cX7_tried 25 = .ok (.iload_n 1, 1) := by decide +kernel
theorem dX7_tried_26 : decode cX7_tried 26 = .ok (.invokevirtual 174, 3) := by decide +kernel
theorem dX7_tried_29 : decode cX7_tried 29 = .ok (.bipush (-4), 2) := by decide +kernel
theorem dX7_tried_31 : decode cX7_tried 31 = .ok (.if_icmp .ne 8, 3) := by decide +kernel
theorem dX7_tried_34 : decode cX7_tried 34 = .ok (.bipush (-4), 2) := by decide +kernel
theorem dX7_tried_36 : decode cX7_tried 36 = .ok (.goto 10, 3) := by decide +kernel
theorem dX7_tried_39 : decode cX7_tried 39 = .ok (.aload_n 0, 1) := by decide +kernel
theorem dX7_tried_40 : decode cX7_tried 40 = .ok (.iload_n 1, 1) := by decide +kernel
theorem dX7_tried_41 : decode cX7_tried 41 = .ok (.iload_n 2, 1) := by decide +kernel
theorem dX7_tried_42 : decode cX7_tried 42 = .ok (.iconst 4, 1) := by decide +kernel
theorem dX7_tried_43 : decode cX7_tried 43 = .ok (.invokevirtual 286, 3) := by decide +kernel
theorem dX7_tried_46 : decode cX7_tried 46 = .ok (.ireturn, 1) := by decide +kernel
theorem dX7_set_0 : decode cX7_set 0 = .ok (.iload_n 1, 1) := by decide +kernel
theorem dX7_set_1 : decode cX7_set 1 = .ok (.i2l, 1) := by decide +kernel
theorem dX7_set_2 : decode cX7_set 2 = .ok (.ldc2_w 245, 3) := by decide +kernel
theorem dX7_set_5 : decode cX7_set 5 = .ok (.ldc2_w 247, 3) := by decide +kernel
theorem dX7_set_8 : decode cX7_set 8 = .ok (.invokestatic 73, 3) := by decide +kernel
theorem dX7_set_11 : decode cX7_set 11 = .ok (.ifCond .eq 27, 3) := by decide +kernel
theorem dX7_set_14 : decode cX7_set 14 = .ok (.iload_n 2, 1) := by decide +kernel
theorem dX7_set_15 : decode cX7_set 15 = .ok (.i2l, 1) := by decide +kernel
theorem dX7_set_16 : decode cX7_set 16 = .ok (.iload_n 1, 1) := by decide +kernel
theorem dX7_set_17 : decode cX7_set 17 = .ok (.bipush 8, 2) := by decide +kernel
theorem dX7_set_19 : decode cX7_set 19 = .ok (.isub, 1) := by decide +kernel
theorem dX7_set_20 : decode cX7_set 20 = .ok (.invokestatic 122, 3) := by decide +kernel
theorem dX7_set_23 : decode cX7_set 23 = .ok (.i2l, 1) := by decide +kernel
theorem dX7_set_24 : decode cX7_set 24 = .ok (.iload_n 1, 1) := by decide +kernel
theorem dX7_set_25 : decode cX7_set 25 = .ok (.bipush 8, 2) := by decide +kernel
theorem dX7_set_27 : decode cX7_set 27 = .ok (.isub, 1) := by decide +kernel
theorem dX7_set_28 : decode cX7_set 28 = .ok (.invokestatic 125, 3) := by decide +kernel
theorem dX7_set_31 : decode cX7_set 31 = .ok (.i2l, 1) := by decide +kernel
theorem dX7_set_32 : decode cX7_set 32 = .ok (.invokestatic 73, 3) := by decide +kernel
theorem dX7_set_35 : decode cX7_set 35 = .ok (.ifCond .ne 5, 3) := by decide +kernel
theorem dX7_set_38 : decode cX7_set 38 = .ok (.iconst (-1), 1) := by decide +kernel
theorem dX7_set_39 : decode cX7_set 39 = .ok (.ireturn, 1) := by decide +kernel
theorem dX7_set_40 : decode cX7_set 40 = .ok (.aload_n 0, 1) := by decide +kernel
theorem dX7_set_41 : decode cX7_set 41 = .ok (.getfield 7, 3) := by decide +kernel
theorem dX7_set_44 : decode cX7_set 44 = .ok (.sipush 585, 3) := by decide +kernel
theorem dX7_set_47 : decode cX7_set 47 = .ok (.iload_n 1, 1) := by decide +kernel
theorem dX7_set_48 : decode cX7_set 48 = .ok (.iadd, 1) := by decide +kernel
theorem dX7_set_49 : decode cX7_set 49 = .ok (.bipush 8, 2) := by decide +kernel
theorem dX7_set_51 : decode cX7_set 51 = .ok (.isub, 1) := by decide +kernel
theorem dX7_set_52 : decode cX7_set 52 = .ok (.iaload, 1) := by decide +kernel
theorem dX7_set_53 : decode cX7_set 53 = .ok (.istore_n 3, 1) := by decide +kernel
theorem dX7_set_54 : decode cX7_set 54 = .ok (.aload_n 0, 1) := by decide +kernel
theorem dX7_set_55 : decode cX7_set 55 = .ok (.getfield 7, 3) := by decide +kernel
theorem dX7_set_58 : decode cX7_set 58 = .ok (.sipush 585, 3) := by decide +kernel
theorem dX7_set_61 : decode cX7_set 61 = .ok (.iload_n 1, 1) := by decide +kernel
theorem dX7_set_62 : decode cX7_set 62 = .ok (.iadd, 1) := by decide +kernel
theorem dX7_set_63 : decode cX7_set 63 = .ok (.bipush 8, 2) := by decide +kernel
theorem dX7_set_65 : decode cX7_set 65 = .ok (.isub, 1) := by decide +kernel
theorem dX7_set_66 : decode cX7_set 66 = .ok (.iload_n 2, 1) := by decide +kernel
theorem dX7_set_67 : decode cX7_set 67 = .ok (.iastore, 1) := by decide +kernel
theorem dX7_set_68 : decode cX7_set 68 = .ok (.iload_n 3, 1) := by decide +kernel
theorem dX7_set_69 : decode cX7_set 69 = .ok (.ireturn, 1) := by decide +kernel
theorem dX7_drop_0 : decode cX7_drop 0 = .ok (.aload_n 0, 1) := by decide +kernel
theorem dX7_drop_1 : decode cX7_drop 1 = .ok (.iload_n 1, 1) := by decide +kernel
theorem dX7_drop_2 : decode cX7_drop 2 = .ok (.invokevirtual 263, 3) := by decide +kernel
theorem dX7_drop_5 : decode cX7_drop 5 = .ok (.ifCond .eq 38, 3) := by decide +kernel
theorem dX7_drop_8 : decode cX7_drop 8 = .ok (.iload_n 2, 1) := by decide +kernel
theorem dX7_drop_9 : decode cX7_drop 9 = .ok (.bipush (-4), 2) := by decide +kernel
theorem dX7_drop_11 : decode cX7_drop 11 = .ok (.if_icmp .ne 10, 3) := by decide +kernel
theorem dX7_drop_14 : decode cX7_drop 14 = .ok (.iload_n 3, 1) := by decide +kernel
theorem dX7_drop_15 : decode cX7_drop 15 = .ok (.ifCond .eq 30, 3) := by decide +kernel
theorem dX7_drop_18 : decode cX7_drop 18 = .ok (.goto 25, 3) := by decide +kernel
theorem dX7_drop_21 : decode cX7_drop 21 = .ok (.aload_n 0, 1) := by decide +kernel
theorem dX7_drop_22 : decode cX7_drop 22 = .ok (.iload_n 2, 1) := by decide +kernel
theorem dX7_drop_23 : decode cX7_drop 23 = .ok (.invokevirtual 258, 3) := by decide +kernel
theorem dX7_drop_26 : decode cX7_drop 26 = .ok (.ifCond .eq 17, 3) := by decide +kernel
theorem dX7_drop_29 : decode cX7_drop 29 = .ok (.iload_n 3, 1) := by decide +kernel
theorem dX7_drop_30 : decode cX7_drop 30 = .ok (.i2l, 1) := by decide +kernel
theorem dX7_drop_31 : decode cX7_drop 31 = .ok (.ldc2_w 282, 3) := by decide +kernel
theorem dX7_drop_34 : decode cX7_drop 34 = .ok (.ldc2_w 293, 3) := by decide +kernel
theorem dX7_drop_37 : decode cX7_drop 37 = .ok (.invokestatic 73, 3) := by decide +kernel
theorem dX7_drop_40 : decode cX7_drop 40 = .ok (.ifCond .ne 5, 3) := by decide +kernel
theorem dX7_drop_43 : decode cX7_drop 43 = .ok (.iconst (-1), 1) := by decide +kernel
theorem dX7_drop_44 : decode cX7_drop 44 = .ok (.ireturn, 1) := by decide +kernel
theorem dX7_drop_45 : decode cX7_drop 45 = .ok (.aload_n 0, 1) := by decide +kernel
theorem dX7_drop_46 : decode cX7_drop 46 = .ok (.iload_n 1, 1) := by decide +kernel
theorem dX7_drop_47 : decode cX7_drop 47 = .ok (.invokevirtual 177, 3) := by decide +kernel
theorem dX7_drop_50 : decode cX7_drop 50 = .ok (.istore 4, 2) := by decide +kernel
theorem dX7_drop_52 : decode cX7_drop 52 = .ok (.aload_n 0, 1) := by decide +kernel
theorem dX7_drop_53 : decode cX7_drop 53 = .ok (.getfield 7, 3) := by decide +kernel
theorem dX7_drop_56 : decode cX7_drop 56 = .ok (.iconst 1, 1) := by decide +kernel
theorem dX7_drop_57 : decode cX7_drop 57 = .ok (.iconst 3, 1) := by decide +kernel
theorem dX7_drop_58 : decode cX7_drop 58 = .ok (.iload_n 1, 1) := by decide +kernel
theorem dX7_drop_59 : decode cX7_drop 59 = .ok (.imul, 1) := by decide +kernel
theorem dX7_drop_60 : decode cX7_drop 60 = .ok (.iadd, 1) := by decide +kernel
theorem dX7_drop_61 : decode cX7_drop 61 = .ok (.iload_n 2, 1) := by decide +kernel
theorem dX7_drop_62 : decode cX7_drop 62 = .ok (.iastore, 1) := by decide +kernel
theorem dX7_drop_63 : decode cX7_drop 63 = .ok (.aload_n 0, 1) := by decide +kernel
theorem dX7_drop_64 : decode cX7_drop 64 = .ok (.getfield 7, 3) := by decide +kernel
theorem dX7_drop_67 : decode cX7_drop 67 = .ok (.iconst 1, 1) := by decide +kernel
theorem dX7_drop_68 : decode cX7_drop 68 = .ok (.iconst 3, 1) := by decide +kernel
theorem dX7_drop_69 : decode cX7_drop 69 = .ok (.iload_n 1, 1) := by decide +kernel
theorem dX7_drop_70 : decode cX7_drop 70 = .ok (.imul, 1) := by decide +kernel
theorem dX7_drop_71 : decode cX7_drop 71 = .ok (.iadd, 1) := by decide +kernel
theorem dX7_drop_72 : decode cX7_drop 72 = .ok (.iconst 1, 1) := by decide +kernel
theorem dX7_drop_73 : decode cX7_drop 73 = .ok (.iadd, 1) := by decide +kernel
theorem dX7_drop_74 : decode cX7_drop 74 = .ok (.iload_n 3, 1) := by decide +kernel
theorem dX7_drop_75 : decode cX7_drop 75 = .ok (.iastore, 1) := by decide +kernel
theorem dX7_drop_76 : decode cX7_drop 76 = .ok (.iload 4, 2) := by decide +kernel
theorem dX7_drop_78 : decode cX7_drop 78 = .ok (.ireturn, 1) := by decide +kernel
theorem dX7_fit_0 : decode cX7_fit 0 = .ok (.iconst 0, 1) := by decide +kernel
theorem dX7_fit_1 : decode cX7_fit 1 = .ok (.istore_n 1, 1) := by decide +kernel
theorem dX7_fit_2 : decode cX7_fit 2 = .ok (.iconst 0, 1) := by decide +kernel
theorem dX7_fit_3 : decode cX7_fit 3 = .ok (.istore_n 2, 1) := by decide +kernel
theorem dX7_fit_4 : decode cX7_fit 4 = .ok (.iload_n 2, 1) := by decide +kernel
theorem dX7_fit_5 : decode cX7_fit 5 = .ok (.aload_n 0, 1) := by decide +kernel
theorem dX7_fit_6 : decode cX7_fit 6 = .ok (.getfield 7, 3) := by decide +kernel
theorem dX7_fit_9 : decode cX7_fit 9 = .ok (.iconst 0, 1) := by decide +kernel
theorem dX7_fit_10 : decode cX7_fit 10 = .ok (.iaload, 1) := by decide +kernel
theorem dX7_fit_11 : decode cX7_fit 11 = .ok (.if_icmp .ge 55, 3) := by decide +kernel
theorem dX7_fit_14 : decode cX7_fit 14 = .ok (.aload_n 0, 1) := by decide +kernel
theorem dX7_fit_15 : decode cX7_fit 15 = .ok (.iload_n 2, 1) := by decide +kernel
theorem dX7_fit_16 : decode cX7_fit 16 = .ok (.invokevirtual 174, 3) := by decide +kernel
theorem dX7_fit_19 : decode cX7_fit 19 = .ok (.bipush (-4), 2) := by decide +kernel
theorem dX7_fit_21 : decode cX7_fit 21 = .ok (.if_icmp .eq 39, 3) := by decide +kernel
theorem dX7_fit_24 : decode cX7_fit 24 = .ok (.aload_n 0, 1) := by decide +kernel
theorem dX7_fit_25 : decode cX7_fit 25 = .ok (.iload_n 2, 1) := by decide +kernel
theorem dX7_fit_26 : decode cX7_fit 26 = .ok (.invokevirtual 290, 3) := by decide +kernel
theorem dX7_fit_29 : decode cX7_fit 29 = .ok (.istore_n 3, 1) := by decide +kernel
theorem dX7_fit_30 : decode cX7_fit 30 = .ok (.iload_n 1, 1) := by decide +kernel
theorem dX7_fit_31 : decode cX7_fit 31 = .ok (.iload_n 3, 1) := by decide +kernel
theorem dX7_fit_32 : decode cX7_fit 32 = .ok (.aload_n 0, 1) := by decide +kernel
theorem dX7_fit_33 : decode cX7_fit 33 = .ok (.iload_n 2, 1) := by decide +kernel
theorem dX7_fit_34 : decode cX7_fit 34 = .ok (.invokevirtual 177, 3) := by decide +kernel
theorem dX7_fit_37 : decode cX7_fit 37 = .ok (.if_icmp .eq 7, 3) := by decide +kernel
theorem dX7_fit_40 : decode cX7_fit 40 = .ok (.iconst 1, 1) := by decide +kernel
theorem dX7_fit_41 : decode cX7_fit 41 = .ok (.goto 4, 3) := by decide +kernel
theorem dX7_fit_44 : decode cX7_fit 44 = .ok (.iconst 0, 1) := by decide +kernel
theorem dX7_fit_45 : decode cX7_fit 45 = .ok (.iadd, 1) := by decide +kernel
theorem dX7_fit_46 : decode cX7_fit 46 = .ok (.istore_n 1, 1) := by decide +kernel
theorem dX7_fit_47 : decode cX7_fit 47 = .ok (.aload_n 0, 1) := by decide +kernel
theorem dX7_fit_48 : decode cX7_fit 48 = .ok (.getfield 7, 3) := by decide +kernel
theorem dX7_fit_51 : decode cX7_fit 51 = .ok (.iconst 1, 1) := by decide +kernel
theorem dX7_fit_52 : decode cX7_fit 52 = .ok (.iconst 3, 1) := by decide +kernel
theorem dX7_fit_53 : decode cX7_fit 53 = .ok (.iload_n 2, 1) := by decide +kernel
theorem dX7_fit_54 : decode cX7_fit 54 = .ok (.imul, 1) := by decide +kernel
theorem dX7_fit_55 : decode cX7_fit 55 = .ok (.iadd, 1) := by decide +kernel
theorem dX7_fit_56 : decode cX7_fit 56 = .ok (.iconst 1, 1) := by decide +kernel
theorem dX7_fit_57 : decode cX7_fit 57 = .ok (.iadd, 1) := by decide +kernel
theorem dX7_fit_58 : decode cX7_fit 58 = .ok (.iload_n 3, 1) := by decide +kernel
theorem dX7_fit_59 : decode cX7_fit 59 = .ok (.iastore, 1) := by decide +kernel
theorem dX7_fit_60 : decode cX7_fit 60 = .ok (.iinc 2 1, 3) := by decide +kernel
theorem dX7_fit_63 : decode cX7_fit 63 = .ok (.goto (-59), 3) := by decide +kernel
theorem dX7_fit_66 : decode cX7_fit 66 = .ok (.iload_n 1, 1) := by decide +kernel
theorem dX7_fit_67 : decode cX7_fit 67 = .ok (.ireturn, 1) := by decide +kernel
theorem dX7_cut_0 : decode cX7_cut 0 = .ok (.aload_n 0, 1) := by decide +kernel
theorem dX7_cut_1 : decode cX7_cut 1 = .ok (.iload_n 1, 1) := by decide +kernel
theorem dX7_cut_2 : decode cX7_cut 2 = .ok (.invokevirtual 263, 3) := by decide +kernel
theorem dX7_cut_5 : decode cX7_cut 5 = .ok (.ifCond .eq 20, 3) := by decide +kernel
theorem dX7_cut_8 : decode cX7_cut 8 = .ok (.iload_n 2, 1) := by decide +kernel
theorem dX7_cut_9 : decode cX7_cut 9 = .ok (.i2l, 1) := by decide +kernel
theorem dX7_cut_10 : decode cX7_cut 10 = .ok (.lconst 1, 1) := by decide +kernel
theorem dX7_cut_11 : decode cX7_cut 11 = .ok (.aload_n 0, 1) := by decide +kernel
theorem dX7_cut_12 : decode cX7_cut 12 = .ok (.iload_n 1, 1) := by decide +kernel
theorem dX7_cut_13 : decode cX7_cut 13 = .ok (.invokevirtual 171, 3) := by decide +kernel
theorem dX7_cut_16 : decode cX7_cut 16 = .ok (.iconst 1, 1) := by decide +kernel
theorem dX7_cut_17 : decode cX7_cut 17 = .ok (.isub, 1) := by decide +kernel
theorem dX7_cut_18 : decode cX7_cut 18 = .ok (.i2l, 1) := by decide +kernel
theorem dX7_cut_19 : decode cX7_cut 19 = .ok (.invokestatic 73, 3) := by decide +kernel
theorem dX7_cut_22 : decode cX7_cut 22 = .ok (.ifCond .ne 5, 3) := by decide +kernel
theorem dX7_cut_25 : decode cX7_cut 25 = .ok (.iconst (-1), 1) := by decide +kernel
theorem dX7_cut_26 : decode cX7_cut 26 = .ok (.ireturn, 1) := by decide +kernel
theorem dX7_cut_27 : decode cX7_cut 27 = .ok (.aload_n 0, 1) := by decide +kernel
theorem dX7_cut_28 : decode cX7_cut 28 = .ok (.getfield 7, 3) := by decide +kernel
theorem dX7_cut_31 : decode cX7_cut 31 = .ok (.iconst 0, 1) := by decide +kernel
theorem dX7_cut_32 : decode cX7_cut 32 = .ok (.iaload, 1) := by decide +kernel
theorem dX7_cut_33 : decode cX7_cut 33 = .ok (.bipush 8, 2) := by decide +kernel
theorem dX7_cut_35 : decode cX7_cut 35 = .ok (.if_icmp .ne 6, 3) := by decide +kernel
theorem dX7_cut_38 : decode cX7_cut 38 = .ok (.bipush (-3), 2) := by decide +kernel
theorem dX7_cut_40 : decode cX7_cut 40 = .ok (.ireturn, 1) := by decide +kernel
theorem dX7_cut_41 : decode cX7_cut 41 = .ok (.iconst 1, 1) := by decide +kernel
theorem dX7_cut_42 : decode cX7_cut 42 = .ok (.iconst 3, 1) := by decide +kernel
theorem dX7_cut_43 : decode cX7_cut 43 = .ok (.aload_n 0, 1) := by decide +kernel
theorem dX7_cut_44 : decode cX7_cut 44 = .ok (.getfield 7, 3) := by decide +kernel
theorem dX7_cut_47 : decode cX7_cut 47 = .ok (.iconst 0, 1) := by decide +kernel
theorem dX7_cut_48 : decode cX7_cut 48 = .ok (.iaload, 1) := by decide +kernel
theorem dX7_cut_49 : decode cX7_cut 49 = .ok (.imul, 1) := by decide +kernel
theorem dX7_cut_50 : decode cX7_cut 50 = .ok (.iadd, 1) := by decide +kernel
theorem dX7_cut_51 : decode cX7_cut 51 = .ok (.iconst 1, 1) := by decide +kernel
theorem dX7_cut_52 : decode cX7_cut 52 = .ok (.isub, 1) := by decide +kernel
theorem dX7_cut_53 : decode cX7_cut 53 = .ok (.istore_n 3, 1) := by decide +kernel
theorem dX7_cut_54 : decode cX7_cut 54 = .ok (.iload_n 3, 1) := by decide +kernel
theorem dX7_cut_55 : decode cX7_cut 55 = .ok (.iconst 1, 1) := by decide +kernel
theorem dX7_cut_56 : decode cX7_cut 56 = .ok (.iconst 3, 1) := by decide +kernel
theorem dX7_cut_57 : decode cX7_cut 57 = .ok (.iload_n 1, 1) := by decide +kernel
theorem dX7_cut_58 : decode cX7_cut 58 = .ok (.imul, 1) := by decide +kernel
theorem dX7_cut_59 : decode cX7_cut 59 = .ok (.iadd, 1) := by decide +kernel
theorem dX7_cut_60 : decode cX7_cut 60 = .ok (.iconst 3, 1) := by decide +kernel
theorem dX7_cut_61 : decode cX7_cut 61 = .ok (.iadd, 1) := by decide +kernel
theorem dX7_cut_62 : decode cX7_cut 62 = .ok (.if_icmp .lt 23, 3) := by decide +kernel
theorem dX7_cut_65 : decode cX7_cut 65 = .ok (.aload_n 0, 1) := by decide +kernel
theorem dX7_cut_66 : decode cX7_cut 66 = .ok (.getfield 7, 3) := by decide +kernel
theorem dX7_cut_69 : decode cX7_cut 69 = .ok (.iload_n 3, 1) := by decide +kernel
theorem dX7_cut_70 : decode cX7_cut 70 = .ok (.iconst 3, 1) := by decide +kernel
theorem dX7_cut_71 : decode cX7_cut 71 = .ok (.iadd, 1) := by decide +kernel
theorem dX7_cut_72 : decode cX7_cut 72 = .ok (.aload_n 0, 1) := by decide +kernel
theorem dX7_cut_73 : decode cX7_cut 73 = .ok (.getfield 7, 3) := by decide +kernel
theorem dX7_cut_76 : decode cX7_cut 76 = .ok (.iload_n 3, 1) := by decide +kernel
theorem dX7_cut_77 : decode cX7_cut 77 = .ok (.iaload, 1) := by decide +kernel
theorem dX7_cut_78 : decode cX7_cut 78 = .ok (.iastore, 1) := by decide +kernel
theorem dX7_cut_79 : decode cX7_cut 79 = .ok (.iinc 3 (-1), 3) := by decide +kernel
theorem dX7_cut_82 : decode cX7_cut 82 = .ok (.goto (-28), 3) := by decide +kernel
theorem dX7_cut_85 : decode cX7_cut 85 = .ok (.aload_n 0, 1) := by decide +kernel
theorem dX7_cut_86 : decode cX7_cut 86 = .ok (.getfield 7, 3) := by decide +kernel
theorem dX7_cut_89 : decode cX7_cut 89 = .ok (.iconst 1, 1) := by decide +kernel
theorem dX7_cut_90 : decode cX7_cut 90 = .ok (.iconst 3, 1) := by decide +kernel
theorem dX7_cut_91 : decode cX7_cut 91 = .ok (.iload_n 1, 1) := by decide +kernel
theorem dX7_cut_92 : decode cX7_cut 92 = .ok (.imul, 1) := by decide +kernel
theorem dX7_cut_93 : decode cX7_cut 93 = .ok (.iadd, 1) := by decide +kernel
theorem dX7_cut_94 : decode cX7_cut 94 = .ok (.iconst 3, 1) := by decide +kernel
theorem dX7_cut_95 : decode cX7_cut 95 = .ok (.iadd, 1) := by decide +kernel
theorem dX7_cut_96 : decode cX7_cut 96 = .ok (.bipush (-4), 2) := by decide +kernel
theorem dX7_cut_98 : decode cX7_cut 98 = .ok (.iastore, 1) := by decide +kernel
theorem dX7_cut_99 : decode cX7_cut 99 = .ok (.aload_n 0, 1) := by decide +kernel
theorem dX7_cut_100 : decode cX7_cut 100 = .ok (.getfield 7, 3) := by decide +kernel
theorem dX7_cut_103 : decode cX7_cut 103 = .ok (.iconst 1, 1) := by decide +kernel
theorem dX7_cut_104 : decode cX7_cut 104 = .ok (.iconst 3, 1) := by decide +kernel
theorem dX7_cut_105 : decode cX7_cut 105 = .ok (.iload_n 1, 1) := by decide +kernel
theorem dX7_cut_106 : decode cX7_cut 106 = .ok (.imul, 1) := by decide +kernel
theorem dX7_cut_107 : decode cX7_cut 107 = .ok (.iadd, 1) := by decide +kernel
theorem dX7_cut_108 : decode cX7_cut 108 = .ok (.iconst 4, 1) := by decide +kernel
theorem dX7_cut_109 : decode cX7_cut 109 = .ok (.iadd, 1) := by decide +kernel
theorem dX7_cut_110 : decode cX7_cut 110 = .ok (.iconst 0, 1) := by decide +kernel
theorem dX7_cut_111 : decode cX7_cut 111 = .ok (.iastore, 1) := by decide +kernel
theorem dX7_cut_112 : decode cX7_cut 112 = .ok (.aload_n 0, 1) := by decide +kernel
theorem dX7_cut_113 : decode cX7_cut 113 = .ok (.getfield 7, 3) := by decide +kernel
theorem dX7_cut_116 : decode cX7_cut 116 = .ok (.iconst 1, 1) := by decide +kernel
theorem dX7_cut_117 : decode cX7_cut 117 = .ok (.iconst 3, 1) := by decide +kernel
theorem dX7_cut_118 : decode cX7_cut 118 = .ok (.iload_n 1, 1) := by decide +kernel
theorem dX7_cut_119 : decode cX7_cut 119 = .ok (.imul, 1) := by decide +kernel
theorem dX7_cut_120 : decode cX7_cut 120 = .ok (.iadd, 1) := by decide +kernel
theorem dX7_cut_121 : decode cX7_cut 121 = .ok (.iconst 5, 1) := by decide +kernel
theorem dX7_cut_122 : decode cX7_cut 122 = .ok (.iadd, 1) := by decide +kernel
theorem dX7_cut_123 : decode cX7_cut 123 = .ok (.aload_n 0, 1) := by decide +kernel
theorem dX7_cut_124 : decode cX7_cut 124 = .ok (.iload_n 1, 1) := by decide +kernel
theorem dX7_cut_125 : decode cX7_cut 125 = .ok (.invokevirtual 171, 3) := by decide +kernel
theorem dX7_cut_128 : decode cX7_cut 128 = .ok (.iload_n 2, 1) := by decide +kernel
theorem dX7_cut_129 : decode cX7_cut 129 = .ok (.isub, 1) := by decide +kernel
theorem dX7_cut_130 : decode cX7_cut 130 = .ok (.iastore, 1) := by decide +kernel
theorem dX7_cut_131 : decode cX7_cut 131 = .ok (.aload_n 0, 1) := by decide +kernel
theorem dX7_cut_132 : decode cX7_cut 132 = .ok (.getfield 7, 3) := by decide +kernel
theorem dX7_cut_135 : decode cX7_cut 135 = .ok (.iconst 1, 1) := by decide +kernel
theorem dX7_cut_136 : decode cX7_cut 136 = .ok (.iconst 3, 1) := by decide +kernel
theorem dX7_cut_137 : decode cX7_cut 137 = .ok (.iload_n 1, 1) := by decide +kernel
theorem dX7_cut_138 : decode cX7_cut 138 = .ok (.imul, 1) := by decide +kernel
theorem dX7_cut_139 : decode cX7_cut 139 = .ok (.iadd, 1) := by decide +kernel
theorem dX7_cut_140 : decode cX7_cut 140 = .ok (.iconst 2, 1) := by decide +kernel
theorem dX7_cut_141 : decode cX7_cut 141 = .ok (.iadd, 1) := by decide +kernel
theorem dX7_cut_142 : decode cX7_cut 142 = .ok (.iload_n 2, 1) := by decide +kernel
theorem dX7_cut_143 : decode cX7_cut 143 = .ok (.iastore, 1) := by decide +kernel
theorem dX7_cut_144 : decode cX7_cut 144 = .ok (.aload_n 0, 1) := by decide +kernel
theorem dX7_cut_145 : decode cX7_cut 145 = .ok (.getfield 7, 3) := by decide +kernel
theorem dX7_cut_148 : decode cX7_cut 148 = .ok (.iconst 0, 1) := by decide +kernel
theorem dX7_cut_149 : decode cX7_cut 149 = .ok (.dup2, 1) := by decide +kernel
theorem dX7_cut_150 : decode cX7_cut 150 = .ok (.iaload, 1) := by decide +kernel
theorem dX7_cut_151 : decode cX7_cut 151 = .ok (.iconst 1, 1) := by decide +kernel
theorem dX7_cut_152 : decode cX7_cut 152 = .ok (.iadd, 1) := by decide +kernel
theorem dX7_cut_153 : decode cX7_cut 153 = .ok (.iastore, 1) := by decide +kernel
theorem dX7_cut_154 : decode cX7_cut 154 = .ok (.aload_n 0, 1) := by decide +kernel
theorem dX7_cut_155 : decode cX7_cut 155 = .ok (.getfield 7, 3) := by decide +kernel
theorem dX7_cut_158 : decode cX7_cut 158 = .ok (.iconst 0, 1) := by decide +kernel
theorem dX7_cut_159 : decode cX7_cut 159 = .ok (.iaload, 1) := by decide +kernel
theorem dX7_cut_160 : decode cX7_cut 160 = .ok (.ireturn, 1) := by decide +kernel
theorem dX7_join_0 : decode cX7_join 0 = .ok (.aload_n 0, 1) := by decide +kernel
theorem dX7_join_1 : decode cX7_join 1 = .ok (.iload_n 1, 1) := by decide +kernel
theorem dX7_join_2 : decode cX7_join 2 = .ok (.invokevirtual 263, 3) := by decide +kernel
theorem dX7_join_5 : decode cX7_join 5 = .ok (.ifCond .ne 5, 3) := by decide +kernel
theorem dX7_join_8 : decode cX7_join 8 = .ok (.iconst (-1), 1) := by decide +kernel
theorem dX7_join_9 : decode cX7_join 9 = .ok (.ireturn, 1) := by decide +kernel
theorem dX7_join_10 : decode cX7_join 10 = .ok (.iload_n 1, 1) := by decide +kernel
theorem dX7_join_11 : decode cX7_join 11 = .ok (.aload_n 0, 1) := by decide +kernel
theorem dX7_join_12 : decode cX7_join 12 = .ok (.getfield 7, 3) := by decide +kernel
theorem dX7_join_15 : decode cX7_join 15 = .ok (.iconst 0, 1) := by decide +kernel
theorem dX7_join_16 : decode cX7_join 16 = .ok (.iaload, 1) := by decide +kernel
theorem dX7_join_17 : decode cX7_join 17 = .ok (.iconst 1, 1) := by decide +kernel
theorem dX7_join_18 : decode cX7_join 18 = .ok (.isub, 1) := by decide +kernel
theorem dX7_join_19 : decode cX7_join 19 = .ok (.if_icmp .ne 6, 3) := by decide +kernel
theorem dX7_join_22 : decode cX7_join 22 = .ok (.bipush (-4), 2) := by decide +kernel
theorem dX7_join_24 : decode cX7_join 24 = .ok (.ireturn, 1) := by decide +kernel
theorem dX7_join_25 : decode cX7_join 25 = .ok (.aload_n 0, 1) := by decide +kernel
theorem dX7_join_26 : decode cX7_join 26 = .ok (.getfield 7, 3) := by decide +kernel
theorem dX7_join_29 : decode cX7_join 29 = .ok (.iconst 1, 1) := by decide +kernel
theorem dX7_join_30 : decode cX7_join 30 = .ok (.iconst 3, 1) := by decide +kernel
theorem dX7_join_31 : decode cX7_join 31 = .ok (.iload_n 1, 1) := by decide +kernel
theorem dX7_join_32 : decode cX7_join 32 = .ok (.imul, 1) := by decide +kernel
theorem dX7_join_33 : decode cX7_join 33 = .ok (.iadd, 1) := by decide +kernel
theorem dX7_join_34 : decode cX7_join 34 = .ok (.iconst 2, 1) := by decide +kernel
theorem dX7_join_35 : decode cX7_join 35 = .ok (.iadd, 1) := by decide +kernel
theorem dX7_join_36 : decode cX7_join 36 = .ok (.dup2, 1) := by decide +kernel
theorem dX7_join_37 : decode cX7_join 37 = .ok (.iaload, 1) := by decide +kernel
theorem dX7_join_38 : decode cX7_join 38 = .ok (.aload_n 0, 1) := by decide +kernel
theorem dX7_join_39 : decode cX7_join 39 = .ok (.iload_n 1, 1) := by decide +kernel
theorem dX7_join_40 : decode cX7_join 40 = .ok (.iconst 1, 1) := by decide +kernel
theorem dX7_join_41 : decode cX7_join 41 = .ok (.iadd, 1) := by decide +kernel
theorem dX7_join_42 : decode cX7_join 42 = .ok (.invokevirtual 171, 3) := by decide +kernel
theorem dX7_join_45 : decode cX7_join 45 = .ok (.iadd, 1) := by decide +kernel
theorem dX7_join_46 : decode cX7_join 46 = .ok (.iastore, 1) := by decide +kernel
theorem dX7_join_47 : decode cX7_join 47 = .ok (.iconst 1, 1) := by decide +kernel
theorem dX7_join_48 : decode cX7_join 48 = .ok (.iconst 3, 1) := by decide +kernel
theorem dX7_join_49 : decode cX7_join 49 = .ok (.iload_n 1, 1) := by decide +kernel
theorem dX7_join_50 : decode cX7_join 50 = .ok (.imul, 1) := by decide +kernel
theorem dX7_join_51 : decode cX7_join 51 = .ok (.iadd, 1) := by decide +kernel
theorem dX7_join_52 : decode cX7_join 52 = .ok (.iconst 3, 1) := by decide +kernel
theorem dX7_join_53 : decode cX7_join 53 = .ok (.iadd, 1) := by decide +kernel
theorem dX7_join_54 : decode cX7_join 54 = .ok (.istore_n 2, 1) := by decide +kernel
theorem dX7_join_55 : decode cX7_join 55 = .ok (.iload_n 2, 1) := by decide +kernel
theorem dX7_join_56 : decode cX7_join 56 = .ok (.iconst 1, 1) := by decide +kernel
theorem dX7_join_57 : decode cX7_join 57 = .ok (.iconst 3, 1) := by decide +kernel
theorem dX7_join_58 : decode cX7_join 58 = .ok (.aload_n 0, 1) := by decide +kernel
theorem dX7_join_59 : decode cX7_join 59 = .ok (.getfield 7, 3) := by decide +kernel
theorem dX7_join_62 : decode cX7_join 62 = .ok (.iconst 0, 1) := by decide +kernel
theorem dX7_join_63 : decode cX7_join 63 = .ok (.iaload, 1) := by decide +kernel
theorem dX7_join_64 : decode cX7_join 64 = .ok (.imul, 1) := by decide +kernel
theorem dX7_join_65 : decode cX7_join 65 = .ok (.iadd, 1) := by decide +kernel
theorem dX7_join_66 : decode cX7_join 66 = .ok (.iconst 3, 1) := by decide +kernel
theorem dX7_join_67 : decode cX7_join 67 = .ok (.isub, 1) := by decide +kernel
theorem dX7_join_68 : decode cX7_join 68 = .ok (.if_icmp .ge 23, 3) := by decide +kernel
theorem dX7_join_71 : decode cX7_join 71 = .ok (.aload_n 0, 1) := by decide +kernel
theorem dX7_join_72 : decode cX7_join 72 = .ok (.getfield 7, 3) := by decide +kernel
theorem dX7_join_75 : decode cX7_join 75 = .ok (.iload_n 2, 1) := by decide +kernel
theorem dX7_join_76 : decode cX7_join 76 = .ok (.aload_n 0, 1) := by decide +kernel
theorem dX7_join_77 : decode cX7_join 77 = .ok (.getfield 7, 3) := by decide +kernel
theorem dX7_join_80 : decode cX7_join 80 = .ok (.iload_n 2, 1) := by decide +kernel
theorem dX7_join_81 : decode cX7_join 81 = .ok (.iconst 3, 1) := by decide +kernel
theorem dX7_join_82 : decode cX7_join 82 = .ok (.iadd, 1) := by decide +kernel
theorem dX7_join_83 : decode cX7_join 83 = .ok (.iaload, 1) := by decide +kernel
theorem dX7_join_84 : decode cX7_join 84 = .ok (.iastore, 1) := by decide +kernel
theorem dX7_join_85 : decode cX7_join 85 = .ok (.iinc 2 1, 3) := by decide +kernel
theorem dX7_join_88 : decode cX7_join 88 = .ok (.goto (-33), 3) := by decide +kernel
theorem dX7_join_91 : decode cX7_join 91 = .ok (.aload_n 0, 1) := by decide +kernel
theorem dX7_join_92 : decode cX7_join 92 = .ok (.getfield 7, 3) := by decide +kernel
theorem dX7_join_95 : decode cX7_join 95 = .ok (.iconst 0, 1) := by decide +kernel
theorem dX7_join_96 : decode cX7_join 96 = .ok (.dup2, 1) := by decide +kernel
theorem dX7_join_97 : decode cX7_join 97 = .ok (.iaload, 1) := by decide +kernel
theorem dX7_join_98 : decode cX7_join 98 = .ok (.iconst 1, 1) := by decide +kernel
theorem dX7_join_99 : decode cX7_join 99 = .ok (.isub, 1) := by decide +kernel
theorem dX7_join_100 : decode cX7_join 100 = .ok (.iastore, 1) := by decide +kernel
theorem dX7_join_101 : decode cX7_join 101 = .ok (.aload_n 0, 1) := by decide +kernel
theorem dX7_join_102 : decode cX7_join 102 = .ok (.iload_n 1, 1) := by decide +kernel
theorem dX7_join_103 : decode cX7_join 103 = .ok (.invokevirtual 171, 3) := by decide +kernel
theorem dX7_join_106 : decode cX7_join 106 = .ok (.ireturn, 1) := by decide +kernel
theorem dX7_moves_0 : decode cX7_moves 0 = .ok (.iconst 0, 1) := by decide +kernel
theorem dX7_moves_1 : decode cX7_moves 1 = .ok (.istore_n 3, 1) := by decide +kernel
theorem dX7_moves_2 : decode cX7_moves 2 = .ok (.iload_n 3, 1) := by decide +kernel
theorem dX7_moves_3 : decode cX7_moves 3 = .ok (.bipush 7, 2) := by decide +kernel
theorem dX7_moves_5 : decode cX7_moves 5 = .ok (.if_icmp .ge 29, 3) := by decide +kernel
theorem dX7_moves_8 : decode cX7_moves 8 = .ok (.aload_n 0, 1) := by decide +kernel
theorem dX7_moves_9 : decode cX7_moves 9 = .ok (.getfield 68, 3) := by decide +kernel
theorem dX7_moves_12 : decode cX7_moves 12 = .ok (.iload_n 3, 1) := by decide +kernel
theorem dX7_moves_13 : decode cX7_moves 13 = .ok (.aload_n 0, 1) := by decide +kernel
theorem dX7_moves_14 : decode cX7_moves 14 = .ok (.getfield 7, 3) := by decide +kernel
theorem dX7_moves_17 : decode cX7_moves 17 = .ok (.bipush 25, 2) := by decide +kernel
theorem dX7_moves_19 : decode cX7_moves 19 = .ok (.bipush 7, 2) := by decide +kernel
theorem dX7_moves_21 : decode cX7_moves 21 = .ok (.iload_n 1, 1) := by decide +kernel
theorem dX7_moves_22 : decode cX7_moves 22 = .ok (.imul, 1) := by decide +kernel
theorem dX7_moves_23 : decode cX7_moves 23 = .ok (.iadd, 1) := by decide +kernel
theorem dX7_moves_24 : decode cX7_moves 24 = .ok (.iload_n 3, 1) := by decide +kernel
theorem dX7_moves_25 : decode cX7_moves 25 = .ok (.iadd, 1) := by decide +kernel
theorem dX7_moves_26 : decode cX7_moves 26 = .ok (.iaload, 1) := by decide +kernel
theorem dX7_moves_27 : decode cX7_moves 27 = .ok (.iastore, 1) := by decide +kernel
theorem dX7_moves_28 : decode cX7_moves 28 = .ok (.iinc 3 1, 3) := by decide +kernel
theorem dX7_moves_31 : decode cX7_moves 31 = .ok (.goto (-29), 3) := by decide +kernel
theorem dX7_moves_34 : decode cX7_moves 34 = .ok (.iload_n 2, 1) := by decide +kernel
theorem dX7_moves_35 : decode cX7_moves 35 = .ok (.iload_n 1, 1) := by decide +kernel
theorem dX7_moves_36 : decode cX7_moves 36 = .ok (.if_icmp .le 7, 3) := by decide +kernel
theorem dX7_moves_39 : decode cX7_moves 39 = .ok (.iconst 1, 1) := by decide +kernel
theorem dX7_moves_40 : decode cX7_moves 40 = .ok (.goto 4, 3) := by decide +kernel
theorem dX7_moves_43 : decode cX7_moves 43 = .ok (.iconst (-1), 1) := by decide +kernel
theorem dX7_moves_44 : decode cX7_moves 44 = .ok (.istore_n 3, 1) := by decide +kernel
theorem dX7_moves_45 : decode cX7_moves 45 = .ok (.iload_n 1, 1) := by decide +kernel
theorem dX7_moves_46 : decode cX7_moves 46 = .ok (.istore 4, 2) := by decide +kernel
theorem dX7_moves_48 : decode cX7_moves 48 = .ok (.iload 4, 2) := by decide +kernel
theorem dX7_moves_50 : decode cX7_moves 50 = .ok (.iload_n 2, 1) := by decide +kernel
theorem dX7_moves_51 : decode cX7_moves 51 = .ok (.if_icmp .eq 62, 3) := by decide +kernel
theorem dX7_moves_54 : decode cX7_moves 54 = .ok (.iconst 0, 1) := by decide +kernel
theorem dX7_moves_55 : decode cX7_moves 55 = .ok (.istore 5, 2) := by decide +kernel
theorem dX7_moves_57 : decode cX7_moves 57 = .ok (.iload 5, 2) := by decide +kernel
theorem dX7_moves_59 : decode cX7_moves 59 = .ok (.bipush 7, 2) := by decide +kernel
theorem dX7_moves_61 : decode cX7_moves 61 = .ok (.if_icmp .ge 43, 3) := by decide +kernel
theorem dX7_moves_64 : decode cX7_moves 64 = .ok (.aload_n 0, 1) := by decide +kernel
theorem dX7_moves_65 : decode cX7_moves 65 = .ok (.getfield 7, 3) := by decide +kernel
theorem dX7_moves_68 : decode cX7_moves 68 = .ok (.bipush 25, 2) := by decide +kernel
theorem dX7_moves_70 : decode cX7_moves 70 = .ok (.bipush 7, 2) := by decide +kernel
theorem dX7_moves_72 : decode cX7_moves 72 = .ok (.iload 4, 2) := by decide +kernel
theorem dX7_moves_74 : decode cX7_moves 74 = .ok (.imul, 1) := by decide +kernel
theorem dX7_moves_75 : decode cX7_moves 75 = .ok (.iadd, 1) := by decide +kernel
theorem dX7_moves_76 : decode cX7_moves 76 = .ok (.iload 5, 2) := by decide +kernel
theorem dX7_moves_78 : decode cX7_moves 78 = .ok (.iadd, 1) := by decide +kernel
theorem dX7_moves_79 : decode cX7_moves 79 = .ok (.aload_n 0, 1) := by decide +kernel
theorem dX7_moves_80 : decode cX7_moves 80 = .ok (.getfield 7, 3) := by decide +kernel
theorem dX7_moves_83 : decode cX7_moves 83 = .ok (.bipush 25, 2) := by decide +kernel
theorem dX7_moves_85 : decode cX7_moves 85 = .ok (.bipush 7, 2) := by decide +kernel
theorem dX7_moves_87 : decode cX7_moves 87 = .ok (.iload 4, 2) := by decide +kernel
theorem dX7_moves_89 : decode cX7_moves 89 = .ok (.iload_n 3, 1) := by decide +kernel
theorem dX7_moves_90 : decode cX7_moves 90 = .ok (.iadd, 1) := by decide +kernel
theorem dX7_moves_91 : decode cX7_moves 91 = .ok (.imul, 1) := by decide +kernel
theorem dX7_moves_92 : decode cX7_moves 92 = .ok (.iadd, 1) := by decide +kernel
theorem dX7_moves_93 : decode cX7_moves 93 = .ok (.iload 5, 2) := by decide +kernel
theorem dX7_moves_95 : decode cX7_moves 95 = .ok (.iadd, 1) := by decide +kernel
theorem dX7_moves_96 : decode cX7_moves 96 = .ok (.iaload, 1) := by decide +kernel
theorem dX7_moves_97 : decode cX7_moves 97 = .ok (.iastore, 1) := by decide +kernel
theorem dX7_moves_98 : decode cX7_moves 98 = .ok (.iinc 5 1, 3) := by decide +kernel
theorem dX7_moves_101 : decode cX7_moves 101 = .ok (.goto (-44), 3) := by decide +kernel
theorem dX7_moves_104 : decode cX7_moves 104 = .ok (.iload 4, 2) := by decide +kernel
theorem dX7_moves_106 : decode cX7_moves 106 = .ok (.iload_n 3, 1) := by decide +kernel
theorem dX7_moves_107 : decode cX7_moves 107 = .ok (.iadd, 1) := by decide +kernel
theorem dX7_moves_108 : decode cX7_moves 108 = .ok (.istore 4, 2) := by decide +kernel
theorem dX7_moves_110 : decode cX7_moves 110 = .ok (.goto (-62), 3) := by decide +kernel
theorem dX7_moves_113 : decode cX7_moves 113 = .ok (.iconst 0, 1) := by decide +kernel
theorem dX7_moves_114 : decode cX7_moves 114 = .ok (.istore 4, 2) := by decide +kernel
theorem dX7_moves_116 : decode cX7_moves 116 = .ok (.iload 4, 2) := by decide +kernel
theorem dX7_moves_118 : decode cX7_moves 118 = .ok (.bipush 7, 2) := by decide +kernel
theorem dX7_moves_120 : decode cX7_moves 120 = .ok (.if_icmp .ge 31, 3) := by decide +kernel
theorem dX7_moves_123 : decode cX7_moves 123 = .ok (.aload_n 0, 1) := by decide +kernel
theorem dX7_moves_124 : decode cX7_moves 124 = .ok (.getfield 7, 3) := by decide +kernel
theorem dX7_moves_127 : decode cX7_moves 127 = .ok (.bipush 25, 2) := by decide +kernel
theorem dX7_moves_129 : decode cX7_moves 129 = .ok (.bipush 7, 2) := by decide +kernel
theorem dX7_moves_131 : decode cX7_moves 131 = .ok (.iload_n 2, 1) := by decide +kernel
theorem dX7_moves_132 : decode cX7_moves 132 = .ok (.imul, 1) := by decide +kernel
theorem dX7_moves_133 : decode cX7_moves 133 = .ok (.iadd, 1) := by decide +kernel
theorem dX7_moves_134 : decode cX7_moves 134 = .ok (.iload 4, 2) := by decide +kernel
theorem dX7_moves_136 : decode cX7_moves 136 = .ok (.iadd, 1) := by decide +kernel
theorem dX7_moves_137 : decode cX7_moves 137 = .ok (.aload_n 0, 1) := by decide +kernel
theorem dX7_moves_138 : decode cX7_moves 138 = .ok (.getfield 68, 3) := by decide +kernel
theorem dX7_moves_141 : decode cX7_moves 141 = .ok (.iload 4, 2) := by decide +kernel
theorem dX7_moves_143 : decode cX7_moves 143 = .ok (.iaload, 1) := by decide +kernel
theorem dX7_moves_144 : decode cX7_moves 144 = .ok (.iastore, 1) := by decide +kernel
theorem dX7_moves_145 : decode cX7_moves 145 = .ok (.iinc 4 1, 3) := by decide +kernel
theorem dX7_moves_148 : decode cX7_moves 148 = .ok (.goto (-32), 3) := by decide +kernel
theorem dX7_moves_151 : decode cX7_moves 151 = .ok (.return_, 1) := by decide +kernel
theorem dX7_move_0 : decode cX7_move 0 = .ok (.aload_n 0, 1) := by decide +kernel
theorem dX7_move_1 : decode cX7_move 1 = .ok (.iload_n 1, 1) := by decide +kernel
theorem dX7_move_2 : decode cX7_move 2 = .ok (.invokevirtual 263, 3) := by decide +kernel
theorem dX7_move_5 : decode cX7_move 5 = .ok (.ifCond .eq 53, 3) := by decide +kernel
theorem dX7_move_8 : decode cX7_move 8 = .ok (.aload_n 0, 1) := by decide +kernel
theorem dX7_move_9 : decode cX7_move 9 = .ok (.iload_n 3, 1) := by decide +kernel
theorem dX7_move_10 : decode cX7_move 10 = .ok (.invokevirtual 263, 3) := by decide +kernel
theorem dX7_move_13 : decode cX7_move 13 = .ok (.ifCond .eq 45, 3) := by decide +kernel
theorem dX7_move_16 : decode cX7_move 16 = .ok (.iload_n 2, 1) := by decide +kernel
theorem dX7_move_17 : decode cX7_move 17 = .ok (.i2l, 1) := by decide +kernel
theorem dX7_move_18 : decode cX7_move 18 = .ok (.lconst 0, 1) := by decide +kernel
theorem dX7_move_19 : decode cX7_move 19 = .ok (.aload_n 0, 1) := by decide +kernel
theorem dX7_move_20 : decode cX7_move 20 = .ok (.iload_n 1, 1) := by decide +kernel
theorem dX7_move_21 : decode cX7_move 21 = .ok (.invokevirtual 171, 3) := by decide +kernel
theorem dX7_move_24 : decode cX7_move 24 = .ok (.iconst 1, 1) := by decide +kernel
theorem dX7_move_25 : decode cX7_move 25 = .ok (.isub, 1) := by decide +kernel
theorem dX7_move_26 : decode cX7_move 26 = .ok (.i2l, 1) := by decide +kernel
theorem dX7_move_27 : decode cX7_move 27 = .ok (.invokestatic 73, 3) := by decide +kernel
theorem dX7_move_30 : decode cX7_move 30 = .ok (.ifCond .eq 28, 3) := by decide +kernel
theorem dX7_move_33 : decode cX7_move 33 = .ok (.iload 4, 2) := by decide +kernel
theorem dX7_move_35 : decode cX7_move 35 = .ok (.bipush (-4), 2) := by decide +kernel
theorem dX7_move_37 : decode cX7_move 37 = .ok (.if_icmp .eq 23, 3) := by decide +kernel
theorem dX7_move_40 : decode cX7_move 40 = .ok (.iload 4, 2) := by decide +kernel
theorem dX7_move_42 : decode cX7_move 42 = .ok (.i2l, 1) := by decide +kernel
theorem dX7_move_43 : decode cX7_move 43 = .ok (.lconst 0, 1) := by decide +kernel
theorem dX7_move_44 : decode cX7_move 44 = .ok (.aload_n 0, 1) := by decide +kernel
theorem dX7_move_45 : decode cX7_move 45 = .ok (.iload_n 3, 1) := by decide +kernel
theorem dX7_move_46 : decode cX7_move 46 = .ok (.invokevirtual 171, 3) := by decide +kernel
theorem dX7_move_49 : decode cX7_move 49 = .ok (.iconst 1, 1) := by decide +kernel
theorem dX7_move_50 : decode cX7_move 50 = .ok (.isub, 1) := by decide +kernel
theorem dX7_move_51 : decode cX7_move 51 = .ok (.i2l, 1) := by decide +kernel
theorem dX7_move_52 : decode cX7_move 52 = .ok (.invokestatic 73, 3) := by decide +kernel
theorem dX7_move_55 : decode cX7_move 55 = .ok (.ifCond .ne 5, 3) := by decide +kernel
theorem dX7_move_58 : decode cX7_move 58 = .ok (.iconst (-1), 1) := by decide +kernel
theorem dX7_move_59 : decode cX7_move 59 = .ok (.ireturn, 1) := by decide +kernel
theorem dX7_move_60 : decode cX7_move 60 = .ok (.aload_n 0, 1) := by decide +kernel
theorem dX7_move_61 : decode cX7_move 61 = .ok (.iload_n 1, 1) := by decide +kernel
theorem dX7_move_62 : decode cX7_move 62 = .ok (.invokevirtual 171, 3) := by decide +kernel
theorem dX7_move_65 : decode cX7_move 65 = .ok (.iconst 1, 1) := by decide +kernel
theorem dX7_move_66 : decode cX7_move 66 = .ok (.if_icmp .eq 14, 3) := by decide +kernel
theorem dX7_move_69 : decode cX7_move 69 = .ok (.iload_n 1, 1) := by decide +kernel
theorem dX7_move_70 : decode cX7_move 70 = .ok (.iload_n 3, 1) := by decide +kernel
theorem dX7_move_71 : decode cX7_move 71 = .ok (.if_icmp .ne 12, 3) := by decide +kernel
theorem dX7_move_74 : decode cX7_move 74 = .ok (.iload 4, 2) := by decide +kernel
theorem dX7_move_76 : decode cX7_move 76 = .ok (.iload_n 2, 1) := by decide +kernel
theorem dX7_move_77 : decode cX7_move 77 = .ok (.if_icmp .ne 6, 3) := by decide +kernel
theorem dX7_move_80 : decode cX7_move 80 = .ok (.bipush (-2), 2) := by decide +kernel
theorem dX7_move_82 : decode cX7_move 82 = .ok (.ireturn, 1) := by decide +kernel
theorem dX7_move_83 : decode cX7_move 83 = .ok (.aload_n 0, 1) := by decide +kernel
theorem dX7_move_84 : decode cX7_move 84 = .ok (.iload_n 1, 1) := by decide +kernel
theorem dX7_move_85 : decode cX7_move 85 = .ok (.invokevirtual 201, 3) := by decide +kernel
theorem dX7_move_88 : decode cX7_move 88 = .ok (.iload_n 2, 1) := by decide +kernel
theorem dX7_move_89 : decode cX7_move 89 = .ok (.iadd, 1) := by decide +kernel
theorem dX7_move_90 : decode cX7_move 90 = .ok (.istore 5, 2) := by decide +kernel
theorem dX7_move_92 : decode cX7_move 92 = .ok (.aload_n 0, 1) := by decide +kernel
theorem dX7_move_93 : decode cX7_move 93 = .ok (.iload_n 3, 1) := by decide +kernel
theorem dX7_move_94 : decode cX7_move 94 = .ok (.invokevirtual 201, 3) := by decide +kernel
theorem dX7_move_97 : decode cX7_move 97 = .ok (.iload 4, 2) := by decide +kernel
theorem dX7_move_99 : decode cX7_move 99 = .ok (.bipush (-4), 2) := by decide +kernel
theorem dX7_move_101 : decode cX7_move 101 = .ok (.if_icmp .ne 7, 3) := by decide +kernel
theorem dX7_move_104 : decode cX7_move 104 = .ok (.iconst 0, 1) := by decide +kernel
theorem dX7_move_105 : decode cX7_move 105 = .ok (.goto 7, 3) := by decide +kernel
theorem dX7_move_108 : decode cX7_move 108 = .ok (.iload 4, 2) := by decide +kernel
theorem dX7_move_110 : decode cX7_move 110 = .ok (.iconst 1, 1) := by decide +kernel
theorem dX7_move_111 : decode cX7_move 111 = .ok (.iadd, 1) := by decide +kernel
theorem dX7_move_112 : decode cX7_move 112 = .ok (.iadd, 1) := by decide +kernel
theorem dX7_move_113 : decode cX7_move 113 = .ok (.istore 6, 2) := by decide +kernel
theorem dX7_move_115 : decode cX7_move 115 = .ok (.aload_n 0, 1) := by decide +kernel
theorem dX7_move_116 : decode cX7_move 116 = .ok (.iload 5, 2) := by decide +kernel
theorem dX7_move_118 : decode cX7_move 118 = .ok (.iload 6, 2) := by decide +kernel
theorem dX7_move_120 : decode cX7_move 120 = .ok (.iload 5, 2) := by decide +kernel
theorem dX7_move_122 : decode cX7_move 122 = .ok (.if_icmp .le 10, 3) := by decide +kernel
theorem dX7_move_125 : decode cX7_move 125 = .ok (.iload 6, 2) := by decide +kernel
theorem dX7_move_127 : decode cX7_move 127 = .ok (.iconst 1, 1) := by decide +kernel
theorem dX7_move_128 : decode cX7_move 128 = .ok (.isub, 1) := by decide +kernel
theorem dX7_move_129 : decode cX7_move 129 = .ok (.goto 5, 3) := by decide +kernel
theorem dX7_move_132 : decode cX7_move 132 = .ok (.iload 6, 2) := by decide +kernel
theorem dX7_move_134 : decode cX7_move 134 = .ok (.invokevirtual 295, 3) := by decide +kernel
theorem dX7_move_137 : decode cX7_move 137 = .ok (.aload_n 0, 1) := by decide +kernel
theorem dX7_move_138 : decode cX7_move 138 = .ok (.getfield 7, 3) := by decide +kernel
theorem dX7_move_141 : decode cX7_move 141 = .ok (.iconst 1, 1) := by decide +kernel
theorem dX7_move_142 : decode cX7_move 142 = .ok (.iconst 3, 1) := by decide +kernel
theorem dX7_move_143 : decode cX7_move 143 = .ok (.iload_n 1, 1) := by decide +kernel
theorem dX7_move_144 : decode cX7_move 144 = .ok (.imul, 1) := by decide +kernel
theorem dX7_move_145 : decode cX7_move 145 = .ok (.iadd, 1) := by decide +kernel
theorem dX7_move_146 : decode cX7_move 146 = .ok (.iconst 2, 1) := by decide +kernel
theorem dX7_move_147 : decode cX7_move 147 = .ok (.iadd, 1) := by decide +kernel
theorem dX7_move_148 : decode cX7_move 148 = .ok (.dup2, 1) := by decide +kernel
theorem dX7_move_149 : decode cX7_move 149 = .ok (.iaload, 1) := by decide +kernel
theorem dX7_move_150 : decode cX7_move 150 = .ok (.iconst 1, 1) := by decide +kernel
theorem dX7_move_151 : decode cX7_move 151 = .ok (.isub, 1) := by decide +kernel
theorem dX7_move_152 : decode cX7_move 152 = .ok (.iastore, 1) := by decide +kernel
theorem dX7_move_153 : decode cX7_move 153 = .ok (.aload_n 0, 1) := by decide +kernel
theorem dX7_move_154 : decode cX7_move 154 = .ok (.getfield 7, 3) := by decide +kernel
theorem dX7_move_157 : decode cX7_move 157 = .ok (.iconst 1, 1) := by decide +kernel
theorem dX7_move_158 : decode cX7_move 158 = .ok (.iconst 3, 1) := by decide +kernel
theorem dX7_move_159 : decode cX7_move 159 = .ok (.iload_n 3, 1) := by decide +kernel
theorem dX7_move_160 : decode cX7_move 160 = .ok (.imul, 1) := by decide +kernel
theorem dX7_move_161 : decode cX7_move 161 = .ok (.iadd, 1) := by decide +kernel
theorem dX7_move_162 : decode cX7_move 162 = .ok (.iconst 2, 1) := by decide +kernel
theorem dX7_move_163 : decode cX7_move 163 = .ok (.iadd, 1) := by decide +kernel
theorem dX7_move_164 : decode cX7_move 164 = .ok (.dup2, 1) := by decide +kernel
theorem dX7_move_165 : decode cX7_move 165 = .ok (.iaload, 1) := by decide +kernel
theorem dX7_move_166 : decode cX7_move 166 = .ok (.iconst 1, 1) := by decide +kernel
theorem dX7_move_167 : decode cX7_move 167 = .ok (.iadd, 1) := by decide +kernel
theorem dX7_move_168 : decode cX7_move 168 = .ok (.iastore, 1) := by decide +kernel
theorem dX7_move_169 : decode cX7_move 169 = .ok (.aload_n 0, 1) := by decide +kernel
theorem dX7_move_170 : decode cX7_move 170 = .ok (.iload_n 3, 1) := by decide +kernel
theorem dX7_move_171 : decode cX7_move 171 = .ok (.invokevirtual 171, 3) := by decide +kernel
theorem dX7_move_174 : decode cX7_move 174 = .ok (.ireturn, 1) := by decide +kernel
theorem dX7_keep_0 : decode cX7_keep 0 = .ok (.iload_n 1, 1) := by decide +kernel
theorem dX7_keep_1 : decode cX7_keep 1 = .ok (.i2l, 1) := by decide +kernel
theorem dX7_keep_2 : decode cX7_keep 2 = .ok (.lconst 0, 1) := by decide +kernel
theorem dX7_keep_3 : decode cX7_keep 3 = .ok (.lconst 1, 1) := by decide +kernel
theorem dX7_keep_4 : decode cX7_keep 4 = .ok (.invokestatic 73, 3) := by decide +kernel
theorem dX7_keep_7 : decode cX7_keep 7 = .ok (.ifCond .ne 5, 3) := by decide +kernel
theorem dX7_keep_10 : decode cX7_keep 10 = .ok (.iconst (-1), 1) := by decide +kernel
theorem dX7_keep_11 : decode cX7_keep 11 = .ok (.ireturn, 1) := by decide +kernel
theorem dX7_keep_12 : decode cX7_keep 12 = .ok (.aload_n 0, 1) := by decide +kernel
theorem dX7_keep_13 : decode cX7_keep 13 = .ok (.getfield 25, 3) := by decide +kernel
theorem dX7_keep_16 : decode cX7_keep 16 = .ok (.iload_n 1, 1) := by decide +kernel
theorem dX7_keep_17 : decode cX7_keep 17 = .ok (.baload, 1) := by decide +kernel
theorem dX7_keep_18 : decode cX7_keep 18 = .ok (.ifCond .eq 7, 3) := by decide +kernel
theorem dX7_keep_21 : decode cX7_keep 21 = .ok (.iconst 1, 1) := by decide +kernel
theorem dX7_keep_22 : decode cX7_keep 22 = .ok (.goto 4, 3) := by decide +kernel
theorem dX7_keep_25 : decode cX7_keep 25 = .ok (.iconst 0, 1) := by decide +kernel
theorem dX7_keep_26 : decode cX7_keep 26 = .ok (.istore_n 2, 1) := by decide +kernel
theorem dX7_keep_27 : decode cX7_keep 27 = .ok (.iconst 0, 1) := by decide +kernel
theorem dX7_keep_28 : decode cX7_keep 28 = .ok (.istore_n 3, 1) := by decide +kernel
theorem dX7_keep_29 : decode cX7_keep 29 = .ok (.iload_n 3, 1) := by decide +kernel
theorem dX7_keep_30 : decode cX7_keep 30 = .ok (.sipush 591, 3) := by decide +kernel
theorem dX7_keep_33 : decode cX7_keep 33 = .ok (.if_icmp .ge 27, 3) := by decide +kernel
theorem dX7_keep_36 : decode cX7_keep 36 = .ok (.aload_n 0, 1) := by decide +kernel
theorem dX7_keep_37 : decode cX7_keep 37 = .ok (.getfield 22, 3) := by decide +kernel
theorem dX7_keep_40 : decode cX7_keep 40 = .ok (.sipush 591, 3) := by decide +kernel
theorem dX7_keep_43 : decode cX7_keep 43 = .ok (.iload_n 1, 1) := by decide +kernel
theorem dX7_keep_44 : decode cX7_keep 44 = .ok (.imul, 1) := by decide +kernel
theorem dX7_keep_45 : decode cX7_keep 45 = .ok (.iload_n 3, 1) := by decide +kernel
theorem dX7_keep_46 : decode cX7_keep 46 = .ok (.iadd, 1) := by decide +kernel
theorem dX7_keep_47 : decode cX7_keep 47 = .ok (.aload_n 0, 1) := by decide +kernel
theorem dX7_keep_48 : decode cX7_keep 48 = .ok (.getfield 7, 3) := by decide +kernel
theorem dX7_keep_51 : decode cX7_keep 51 = .ok (.iload_n 3, 1) := by decide +kernel
theorem dX7_keep_52 : decode cX7_keep 52 = .ok (.iaload, 1) := by decide +kernel
theorem dX7_keep_53 : decode cX7_keep 53 = .ok (.iastore, 1) := by decide +kernel
theorem dX7_keep_54 : decode cX7_keep 54 = .ok (.iinc 3 1, 3) := by decide +kernel
theorem dX7_keep_57 : decode cX7_keep 57 = .ok (.goto (-28), 3) := by decide +kernel
theorem dX7_keep_60 : decode cX7_keep 60 = .ok (.aload_n 0, 1) := by decide +kernel
theorem dX7_keep_61 : decode cX7_keep 61 = .ok (.getfield 25, 3) := by decide +kernel
theorem dX7_keep_64 : decode cX7_keep 64 = .ok (.iload_n 1, 1) := by decide +kernel
theorem dX7_keep_65 : decode cX7_keep 65 = .ok (.iconst 1, 1) := by decide +kernel
theorem dX7_keep_66 : decode cX7_keep 66 = .ok (.bastore, 1) := by decide +kernel
theorem dX7_keep_67 : decode cX7_keep 67 = .ok (.iload_n 2, 1) := by decide +kernel
theorem dX7_keep_68 : decode cX7_keep 68 = .ok (.ireturn, 1) := by decide +kernel
theorem dX7_back_0 : decode cX7_back 0 = .ok (.iload_n 1, 1) := by decide +kernel
theorem dX7_back_1 : decode cX7_back 1 = .ok (.i2l, 1) := by decide +kernel
theorem dX7_back_2 : decode cX7_back 2 = .ok (.lconst 0, 1) := by decide +kernel
theorem dX7_back_3 : decode cX7_back 3 = .ok (.lconst 1, 1) := by decide +kernel
theorem dX7_back_4 : decode cX7_back 4 = .ok (.invokestatic 73, 3) := by decide +kernel
theorem dX7_back_7 : decode cX7_back 7 = .ok (.ifCond .ne 5, 3) := by decide +kernel
theorem dX7_back_10 : decode cX7_back 10 = .ok (.iconst (-1), 1) := by decide +kernel
theorem dX7_back_11 : decode cX7_back 11 = .ok (.ireturn, 1) := by decide +kernel
theorem dX7_back_12 : decode cX7_back 12 = .ok (.aload_n 0, 1) := by decide +kernel
theorem dX7_back_13 : decode cX7_back 13 = .ok (.getfield 25, 3) := by decide +kernel
theorem dX7_back_16 : decode cX7_back 16 = .ok (.iload_n 1, 1) := by decide +kernel
theorem dX7_back_17 : decode cX7_back 17 = .ok (.baload, 1) := by decide +kernel
theorem dX7_back_18 : decode cX7_back 18 = .ok (.ifCond .ne 6, 3) := by decide +kernel
theorem dX7_back_21 : decode cX7_back 21 = .ok (.bipush (-2), 2) := by decide +kernel
theorem dX7_back_23 : decode cX7_back 23 = .ok (.ireturn, 1) := by decide +kernel
theorem dX7_back_24 : decode cX7_back 24 = .ok (.iconst 0, 1) := by decide +kernel
theorem dX7_back_25 : decode cX7_back 25 = .ok (.istore_n 2, 1) := by decide +kernel
theorem dX7_back_26 : decode cX7_back 26 = .ok (.iload_n 2, 1) := by decide +kernel
theorem dX7_back_27 : decode cX7_back 27 = .ok (.sipush 591, 3) := by decide +kernel
theorem dX7_back_30 : decode cX7_back 30 = .ok (.if_icmp .ge 27, 3) := by decide +kernel
theorem dX7_back_33 : decode cX7_back 33 = .ok (.aload_n 0, 1) := by decide +kernel
theorem dX7_back_34 : decode cX7_back 34 = .ok (.getfield 7, 3) := by decide +kernel
theorem dX7_back_37 : decode cX7_back 37 = .ok (.iload_n 2, 1) := by decide +kernel
theorem dX7_back_38 : decode cX7_back 38 = .ok (.aload_n 0, 1) := by decide +kernel
theorem dX7_back_39 : decode cX7_back 39 = .ok (.getfield 22, 3) := by decide +kernel
theorem dX7_back_42 : decode cX7_back 42 = .ok (.sipush 591, 3) := by decide +kernel
theorem dX7_back_45 : decode cX7_back 45 = .ok (.iload_n 1, 1) := by decide +kernel
theorem dX7_back_46 : decode cX7_back 46 = .ok (.imul, 1) := by decide +kernel
theorem dX7_back_47 : decode cX7_back 47 = .ok (.iload_n 2, 1) := by decide +kernel
theorem dX7_back_48 : decode cX7_back 48 = .ok (.iadd, 1) := by decide +kernel
theorem dX7_back_49 : decode cX7_back 49 = .ok (.iaload, 1) := by decide +kernel
theorem dX7_back_50 : decode cX7_back 50 = .ok (.iastore, 1) := by decide +kernel
theorem dX7_back_51 : decode cX7_back 51 = .ok (.iinc 2 1, 3) := by decide +kernel
theorem dX7_back_54 : decode cX7_back 54 = .ok (.goto (-28), 3) := by decide +kernel
theorem dX7_back_57 : decode cX7_back 57 = .ok (.aload_n 0, 1) := by decide +kernel
theorem dX7_back_58 : decode cX7_back 58 = .ok (.getfield 7, 3) := by decide +kernel
theorem dX7_back_61 : decode cX7_back 61 = .ok (.iconst 0, 1) := by decide +kernel
theorem dX7_back_62 : decode cX7_back 62 = .ok (.iaload, 1) := by decide +kernel
theorem dX7_back_63 : decode cX7_back 63 = .ok (.ireturn, 1) := by decide +kernel
