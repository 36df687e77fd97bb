/-! decode rows, by program (wip/whole/gen03.py) -/
theorem d_L_law_0 : decode m_L_law.2.1 0 = .ok (.new 8, 3) := by decide +kernel
theorem d_L_law_3 : decode m_L_law.2.1 3 = .ok (.dup, 1) := by decide +kernel
theorem d_L_law_4 : decode m_L_law.2.1 4 = .ok (.invokespecial 53, 3) := by decide +kernel
theorem d_L_law_7 : decode m_L_law.2.1 7 = .ok (.astore_n 1, 1) := by decide +kernel
theorem d_L_law_8 : decode m_L_law.2.1 8 = .ok (.new 54, 3) := by decide +kernel
theorem d_L_law_11 : decode m_L_law.2.1 11 = .ok (.dup, 1) := by decide +kernel
theorem d_L_law_12 : decode m_L_law.2.1 12 = .ok (.invokespecial 56, 3) := by decide +kernel
theorem d_L_law_15 : decode m_L_law.2.1 15 = .ok (.astore_n 2, 1) := by decide +kernel
theorem d_L_law_16 : decode m_L_law.2.1 16 = .ok (.iconst 1, 1) := by decide +kernel
theorem d_L_law_17 : decode m_L_law.2.1 17 = .ok (.newarray .long, 2) := by decide +kernel
theorem d_L_law_19 : decode m_L_law.2.1 19 = .ok (.astore_n 3, 1) := by decide +kernel
theorem d_L_law_20 : decode m_L_law.2.1 20 = .ok (.iconst 0, 1) := by decide +kernel
theorem d_L_law_21 : decode m_L_law.2.1 21 = .ok (.istore 4, 2) := by decide +kernel
theorem d_L_law_23 : decode m_L_law.2.1 23 = .ok (.iload 4, 2) := by decide +kernel
theorem d_L_law_25 : decode m_L_law.2.1 25 = .ok (.aload_n 0, 1) := by decide +kernel
theorem d_L_law_26 : decode m_L_law.2.1 26 = .ok (.arraylength, 1) := by decide +kernel
theorem d_L_law_27 : decode m_L_law.2.1 27 = .ok (.bipush 6, 2) := by decide +kernel
theorem d_L_law_29 : decode m_L_law.2.1 29 = .ok (.isub, 1) := by decide +kernel
theorem d_L_law_30 : decode m_L_law.2.1 30 = .ok (.if_icmp .gt 1052, 3) := by decide +kernel
theorem d_L_law_33 : decode m_L_law.2.1 33 = .ok (.aload_n 0, 1) := by decide +kernel
theorem d_L_law_34 : decode m_L_law.2.1 34 = .ok (.iload 4, 2) := by decide +kernel
theorem d_L_law_36 : decode m_L_law.2.1 36 = .ok (.iaload, 1) := by decide +kernel
theorem d_L_law_37 : decode m_L_law.2.1 37 = .ok (.bipush 31, 2) := by decide +kernel
theorem d_L_law_39 : decode m_L_law.2.1 39 = .ok (.iand, 1) := by decide +kernel
theorem d_L_law_40 : decode m_L_law.2.1 40 = .ok (.tableswitch 1036 0 16 #[84, 140, 196, 264, 356, 424, 492, 584, 652, 756, 793, 849, 906, 917, 942, 986, 1011], 84) := by decide +kernel
theorem d_L_law_124 : decode m_L_law.2.1 124 = .ok (.aload_n 1, 1) := by decide +kernel
theorem d_L_law_125 : decode m_L_law.2.1 125 = .ok (.aload_n 0, 1) := by decide +kernel
theorem d_L_law_126 : decode m_L_law.2.1 126 = .ok (.iload 4, 2) := by decide +kernel
theorem d_L_law_128 : decode m_L_law.2.1 128 = .ok (.iconst 1, 1) := by decide +kernel
theorem d_L_law_129 : decode m_L_law.2.1 129 = .ok (.iadd, 1) := by decide +kernel
theorem d_L_law_130 : decode m_L_law.2.1 130 = .ok (.iaload, 1) := by decide +kernel
theorem d_L_law_131 : decode m_L_law.2.1 131 = .ok (.aload_n 3, 1) := by decide +kernel
theorem d_L_law_132 : decode m_L_law.2.1 132 = .ok (.invokestatic 57, 3) := by decide +kernel
theorem d_L_law_135 : decode m_L_law.2.1 135 = .ok (.istore 5, 2) := by decide +kernel
theorem d_L_law_137 : decode m_L_law.2.1 137 = .ok (.aload_n 2, 1) := by decide +kernel
theorem d_L_law_138 : decode m_L_law.2.1 138 = .ok (.aload_n 0, 1) := by decide +kernel
theorem d_L_law_139 : decode m_L_law.2.1 139 = .ok (.iload 4, 2) := by decide +kernel
theorem d_L_law_141 : decode m_L_law.2.1 141 = .ok (.iconst 1, 1) := by decide +kernel
theorem d_L_law_142 : decode m_L_law.2.1 142 = .ok (.iadd, 1) := by decide +kernel
theorem d_L_law_143 : decode m_L_law.2.1 143 = .ok (.iaload, 1) := by decide +kernel
theorem d_L_law_144 : decode m_L_law.2.1 144 = .ok (.invokevirtual 62, 3) := by decide +kernel
theorem d_L_law_147 : decode m_L_law.2.1 147 = .ok (.istore 6, 2) := by decide +kernel
theorem d_L_law_149 : decode m_L_law.2.1 149 = .ok (.aload_n 2, 1) := by decide +kernel
theorem d_L_law_150 : decode m_L_law.2.1 150 = .ok (.invokevirtual 63, 3) := by decide +kernel
theorem d_L_law_153 : decode m_L_law.2.1 153 = .ok (.iload 5, 2) := by decide +kernel
theorem d_L_law_155 : decode m_L_law.2.1 155 = .ok (.if_icmp .eq 5, 3) := by decide +kernel
theorem d_L_law_158 : decode m_L_law.2.1 158 = .ok (.iconst 0, 1) := by decide +kernel
theorem d_L_law_159 : decode m_L_law.2.1 159 = .ok (.ireturn, 1) := by decide +kernel
theorem d_L_law_160 : decode m_L_law.2.1 160 = .ok (.iload 5, 2) := by decide +kernel
theorem d_L_law_162 : decode m_L_law.2.1 162 = .ok (.ifCond .ne 15, 3) := by decide +kernel
theorem d_L_law_165 : decode m_L_law.2.1 165 = .ok (.aload_n 3, 1) := by decide +kernel
theorem d_L_law_166 : decode m_L_law.2.1 166 = .ok (.iconst 0, 1) := by decide +kernel
theorem d_L_law_167 : decode m_L_law.2.1 167 = .ok (.laload, 1) := by decide +kernel
theorem d_L_law_168 : decode m_L_law.2.1 168 = .ok (.iload 6, 2) := by decide +kernel
theorem d_L_law_170 : decode m_L_law.2.1 170 = .ok (.i2l, 1) := by decide +kernel
theorem d_L_law_171 : decode m_L_law.2.1 171 = .ok (.lcmp, 1) := by decide +kernel
theorem d_L_law_172 : decode m_L_law.2.1 172 = .ok (.ifCond .eq 5, 3) := by decide +kernel
theorem d_L_law_175 : decode m_L_law.2.1 175 = .ok (.iconst 0, 1) := by decide +kernel
theorem d_L_law_176 : decode m_L_law.2.1 176 = .ok (.ireturn, 1) := by decide +kernel
theorem d_L_law_177 : decode m_L_law.2.1 177 = .ok (.goto 899, 3) := by decide +kernel
theorem d_L_law_180 : decode m_L_law.2.1 180 = .ok (.aload_n 1, 1) := by decide +kernel
theorem d_L_law_181 : decode m_L_law.2.1 181 = .ok (.aload_n 0, 1) := by decide +kernel
theorem d_L_law_182 : decode m_L_law.2.1 182 = .ok (.iload 4, 2) := by decide +kernel
theorem d_L_law_184 : decode m_L_law.2.1 184 = .ok (.iconst 1, 1) := by decide +kernel
theorem d_L_law_185 : decode m_L_law.2.1 185 = .ok (.iadd, 1) := by decide +kernel
theorem d_L_law_186 : decode m_L_law.2.1 186 = .ok (.iaload, 1) := by decide +kernel
theorem d_L_law_187 : decode m_L_law.2.1 187 = .ok (.aload_n 3, 1) := by decide +kernel
theorem d_L_law_188 : decode m_L_law.2.1 188 = .ok (.invokestatic 66, 3) := by decide +kernel
theorem d_L_law_191 : decode m_L_law.2.1 191 = .ok (.istore 5, 2) := by decide +kernel
theorem d_L_law_193 : decode m_L_law.2.1 193 = .ok (.aload_n 2, 1) := by decide +kernel
theorem d_L_law_194 : decode m_L_law.2.1 194 = .ok (.aload_n 0, 1) := by decide +kernel
theorem d_L_law_195 : decode m_L_law.2.1 195 = .ok (.iload 4, 2) := by decide +kernel
theorem d_L_law_197 : decode m_L_law.2.1 197 = .ok (.iconst 1, 1) := by decide +kernel
theorem d_L_law_198 : decode m_L_law.2.1 198 = .ok (.iadd, 1) := by decide +kernel
theorem d_L_law_199 : decode m_L_law.2.1 199 = .ok (.iaload, 1) := by decide +kernel
theorem d_L_law_200 : decode m_L_law.2.1 200 = .ok (.invokevirtual 68, 3) := by decide +kernel
theorem d_L_law_203 : decode m_L_law.2.1 203 = .ok (.istore 6, 2) := by decide +kernel
theorem d_L_law_205 : decode m_L_law.2.1 205 = .ok (.aload_n 2, 1) := by decide +kernel
theorem d_L_law_206 : decode m_L_law.2.1 206 = .ok (.invokevirtual 63, 3) := by decide +kernel
theorem d_L_law_209 : decode m_L_law.2.1 209 = .ok (.iload 5, 2) := by decide +kernel
theorem d_L_law_211 : decode m_L_law.2.1 211 = .ok (.if_icmp .eq 5, 3) := by decide +kernel
theorem d_L_law_214 : decode m_L_law.2.1 214 = .ok (.iconst 0, 1) := by decide +kernel
theorem d_L_law_215 : decode m_L_law.2.1 215 = .ok (.ireturn, 1) := by decide +kernel
theorem d_L_law_216 : decode m_L_law.2.1 216 = .ok (.iload 5, 2) := by decide +kernel
theorem d_L_law_218 : decode m_L_law.2.1 218 = .ok (.ifCond .ne 15, 3) := by decide +kernel
theorem d_L_law_221 : decode m_L_law.2.1 221 = .ok (.aload_n 3, 1) := by decide +kernel
theorem d_L_law_222 : decode m_L_law.2.1 222 = .ok (.iconst 0, 1) := by decide +kernel
theorem d_L_law_223 : decode m_L_law.2.1 223 = .ok (.laload, 1) := by decide +kernel
theorem d_L_law_224 : decode m_L_law.2.1 224 = .ok (.iload 6, 2) := by decide +kernel
theorem d_L_law_226 : decode m_L_law.2.1 226 = .ok (.i2l, 1) := by decide +kernel
theorem d_L_law_227 : decode m_L_law.2.1 227 = .ok (.lcmp, 1) := by decide +kernel
theorem d_L_law_228 : decode m_L_law.2.1 228 = .ok (.ifCond .eq 5, 3) := by decide +kernel
theorem d_L_law_231 : decode m_L_law.2.1 231 = .ok (.iconst 0, 1) := by decide +kernel
theorem d_L_law_232 : decode m_L_law.2.1 232 = .ok (.ireturn, 1) := by decide +kernel
theorem d_L_law_233 : decode m_L_law.2.1 233 = .ok (.goto 843, 3) := by decide +kernel
theorem d_L_law_236 : decode m_L_law.2.1 236 = .ok (.aload_n 1, 1) := by decide +kernel
theorem d_L_law_237 : decode m_L_law.2.1 237 = .ok (.aload_n 0, 1) := by decide +kernel
theorem d_L_law_238 : decode m_L_law.2.1 238 = .ok (.iload 4, 2) := by decide +kernel
theorem d_L_law_240 : decode m_L_law.2.1 240 = .ok (.iconst 1, 1) := by decide +kernel
theorem d_L_law_241 : decode m_L_law.2.1 241 = .ok (.iadd, 1) := by decide +kernel
theorem d_L_law_242 : decode m_L_law.2.1 242 = .ok (.iaload, 1) := by decide +kernel
theorem d_L_law_243 : decode m_L_law.2.1 243 = .ok (.aload_n 0, 1) := by decide +kernel
theorem d_L_law_244 : decode m_L_law.2.1 244 = .ok (.iload 4, 2) := by decide +kernel
theorem d_L_law_246 : decode m_L_law.2.1 246 = .ok (.iconst 2, 1) := by decide +kernel
theorem d_L_law_247 : decode m_L_law.2.1 247 = .ok (.iadd, 1) := by decide +kernel
theorem d_L_law_248 : decode m_L_law.2.1 248 = .ok (.iaload, 1) := by decide +kernel
theorem d_L_law_249 : decode m_L_law.2.1 249 = .ok (.aload_n 3, 1) := by decide +kernel
theorem d_L_law_250 : decode m_L_law.2.1 250 = .ok (.invokestatic 69, 3) := by decide +kernel
theorem d_L_law_253 : decode m_L_law.2.1 253 = .ok (.istore 5, 2) := by decide +kernel
theorem d_L_law_255 : decode m_L_law.2.1 255 = .ok (.aload_n 2, 1) := by decide +kernel
theorem d_L_law_256 : decode m_L_law.2.1 256 = .ok (.aload_n 0, 1) := by decide +kernel
theorem d_L_law_257 : decode m_L_law.2.1 257 = .ok (.iload 4, 2) := by decide +kernel
theorem d_L_law_259 : decode m_L_law.2.1 259 = .ok (.iconst 1, 1) := by decide +kernel
theorem d_L_law_260 : decode m_L_law.2.1 260 = .ok (.iadd, 1) := by decide +kernel
theorem d_L_law_261 : decode m_L_law.2.1 261 = .ok (.iaload, 1) := by decide +kernel
theorem d_L_law_262 : decode m_L_law.2.1 262 = .ok (.aload_n 0, 1) := by decide +kernel
theorem d_L_law_263 : decode m_L_law.2.1 263 = .ok (.iload 4, 2) := by decide +kernel
theorem d_L_law_265 : decode m_L_law.2.1 265 = .ok (.iconst 2, 1) := by decide +kernel
theorem d_L_law_266 : decode m_L_law.2.1 266 = .ok (.iadd, 1) := by decide +kernel
theorem d_L_law_267 : decode m_L_law.2.1 267 = .ok (.iaload, 1) := by decide +kernel
theorem d_L_law_268 : decode m_L_law.2.1 268 = .ok (.invokevirtual 72, 3) := by decide +kernel
theorem d_L_law_271 : decode m_L_law.2.1 271 = .ok (.istore 6, 2) := by decide +kernel
theorem d_L_law_273 : decode m_L_law.2.1 273 = .ok (.aload_n 2, 1) := by decide +kernel
theorem d_L_law_274 : decode m_L_law.2.1 274 = .ok (.invokevirtual 63, 3) := by decide +kernel
theorem d_L_law_277 : decode m_L_law.2.1 277 = .ok (.iload 5, 2) := by decide +kernel
theorem d_L_law_279 : decode m_L_law.2.1 279 = .ok (.if_icmp .eq 5, 3) := by decide +kernel
theorem d_L_law_282 : decode m_L_law.2.1 282 = .ok (.iconst 0, 1) := by decide +kernel
theorem d_L_law_283 : decode m_L_law.2.1 283 = .ok (.ireturn, 1) := by decide +kernel
theorem d_L_law_284 : decode m_L_law.2.1 284 = .ok (.iload 5, 2) := by decide +kernel
theorem d_L_law_286 : decode m_L_law.2.1 286 = .ok (.ifCond .ne 15, 3) := by decide +kernel
theorem d_L_law_289 : decode m_L_law.2.1 289 = .ok (.aload_n 3, 1) := by decide +kernel
theorem d_L_law_290 : decode m_L_law.2.1 290 = .ok (.iconst 0, 1) := by decide +kernel
theorem d_L_law_291 : decode m_L_law.2.1 291 = .ok (.laload, 1) := by decide +kernel
theorem d_L_law_292 : decode m_L_law.2.1 292 = .ok (.iload 6, 2) := by decide +kernel
theorem d_L_law_294 : decode m_L_law.2.1 294 = .ok (.i2l, 1) := by decide +kernel
theorem d_L_law_295 : decode m_L_law.2.1 295 = .ok (.lcmp, 1) := by decide +kernel
theorem d_L_law_296 : decode m_L_law.2.1 296 = .ok (.ifCond .eq 5, 3) := by decide +kernel
theorem d_L_law_299 : decode m_L_law.2.1 299 = .ok (.iconst 0, 1) := by decide +kernel
theorem d_L_law_300 : decode m_L_law.2.1 300 = .ok (.ireturn, 1) := by decide +kernel
theorem d_L_law_301 : decode m_L_law.2.1 301 = .ok (.goto 775, 3) := by decide +kernel
theorem d_L_law_304 : decode m_L_law.2.1 304 = .ok (.aload_n 1, 1) := by decide +kernel
theorem d_L_law_305 : decode m_L_law.2.1 305 = .ok (.aload_n 0, 1) := by decide +kernel
theorem d_L_law_306 : decode m_L_law.2.1 306 = .ok (.iload 4, 2) := by decide +kernel
theorem d_L_law_308 : decode m_L_law.2.1 308 = .ok (.iconst 1, 1) := by decide +kernel
theorem d_L_law_309 : decode m_L_law.2.1 309 = .ok (.iadd, 1) := by decide +kernel
theorem d_L_law_310 : decode m_L_law.2.1 310 = .ok (.iaload, 1) := by decide +kernel
theorem d_L_law_311 : decode m_L_law.2.1 311 = .ok (.aload_n 0, 1) := by decide +kernel
theorem d_L_law_312 : decode m_L_law.2.1 312 = .ok (.iload 4, 2) := by decide +kernel
theorem d_L_law_314 : decode m_L_law.2.1 314 = .ok (.iconst 2, 1) := by decide +kernel
theorem d_L_law_315 : decode m_L_law.2.1 315 = .ok (.iadd, 1) := by decide +kernel
theorem d_L_law_316 : decode m_L_law.2.1 316 = .ok (.iaload, 1) := by decide +kernel
theorem d_L_law_317 : decode m_L_law.2.1 317 = .ok (.aload_n 0, 1) := by decide +kernel
theorem d_L_law_318 : decode m_L_law.2.1 318 = .ok (.iload 4, 2) := by decide +kernel
theorem d_L_law_320 : decode m_L_law.2.1 320 = .ok (.iconst 3, 1) := by decide +kernel
theorem d_L_law_321 : decode m_L_law.2.1 321 = .ok (.iadd, 1) := by decide +kernel
theorem d_L_law_322 : decode m_L_law.2.1 322 = .ok (.iaload, 1) := by decide +kernel
theorem d_L_law_323 : decode m_L_law.2.1 323 = .ok (.aload_n 0, 1) := by decide +kernel
theorem d_L_law_324 : decode m_L_law.2.1 324 = .ok (.iload 4, 2) := by decide +kernel
theorem d_L_law_326 : decode m_L_law.2.1 326 = .ok (.iconst 4, 1) := by decide +kernel
theorem d_L_law_327 : decode m_L_law.2.1 327 = .ok (.iadd, 1) := by decide +kernel
theorem d_L_law_328 : decode m_L_law.2.1 328 = .ok (.iaload, 1) := by decide +kernel
theorem d_L_law_329 : decode m_L_law.2.1 329 = .ok (.aload_n 3, 1) := by decide +kernel
theorem d_L_law_330 : decode m_L_law.2.1 330 = .ok (.invokestatic 73, 3) := by decide +kernel
theorem d_L_law_333 : decode m_L_law.2.1 333 = .ok (.istore 5, 2) := by decide +kernel
theorem d_L_law_335 : decode m_L_law.2.1 335 = .ok (.aload_n 2, 1) := by decide +kernel
theorem d_L_law_336 : decode m_L_law.2.1 336 = .ok (.aload_n 0, 1) := by decide +kernel
theorem d_L_law_337 : decode m_L_law.2.1 337 = .ok (.iload 4, 2) := by decide +kernel
theorem d_L_law_339 : decode m_L_law.2.1 339 = .ok (.iconst 1, 1) := by decide +kernel
theorem d_L_law_340 : decode m_L_law.2.1 340 = .ok (.iadd, 1) := by decide +kernel
theorem d_L_law_341 : decode m_L_law.2.1 341 = .ok (.iaload, 1) := by decide +kernel
theorem d_L_law_342 : decode m_L_law.2.1 342 = .ok (.aload_n 0, 1) := by decide +kernel
theorem d_L_law_343 : decode m_L_law.2.1 343 = .ok (.iload 4, 2) := by decide +kernel
theorem d_L_law_345 : decode m_L_law.2.1 345 = .ok (.iconst 2, 1) := by decide +kernel
theorem d_L_law_346 : decode m_L_law.2.1 346 = .ok (.iadd, 1) := by decide +kernel
theorem d_L_law_347 : decode m_L_law.2.1 347 = .ok (.iaload, 1) := by decide +kernel
theorem d_L_law_348 : decode m_L_law.2.1 348 = .ok (.aload_n 0, 1) := by decide +kernel
theorem d_L_law_349 : decode m_L_law.2.1 349 = .ok (.iload 4, 2) := by decide +kernel
theorem d_L_law_351 : decode m_L_law.2.1 351 = .ok (.iconst 3, 1) := by decide +kernel
theorem d_L_law_352 : decode m_L_law.2.1 352 = .ok (.iadd, 1) := by decide +kernel
theorem d_L_law_353 : decode m_L_law.2.1 353 = .ok (.iaload, 1) := by decide +kernel
theorem d_L_law_354 : decode m_L_law.2.1 354 = .ok (.aload_n 0, 1) := by decide +kernel
theorem d_L_law_355 : decode m_L_law.2.1 355 = .ok (.iload 4, 2) := by decide +kernel
theorem d_L_law_357 : decode m_L_law.2.1 357 = .ok (.iconst 4, 1) := by decide +kernel
theorem d_L_law_358 : decode m_L_law.2.1 358 = .ok (.iadd, 1) := by decide +kernel
theorem d_L_law_359 : decode m_L_law.2.1 359 = .ok (.iaload, 1) := by decide +kernel
theorem d_L_law_360 : decode m_L_law.2.1 360 = .ok (.invokevirtual 76, 3) := by decide +kernel
theorem d_L_law_363 : decode m_L_law.2.1 363 = .ok (.istore 6, 2) := by decide +kernel
theorem d_L_law_365 : decode m_L_law.2.1 365 = .ok (.aload_n 2, 1) := by decide +kernel
theorem d_L_law_366 : decode m_L_law.2.1 366 = .ok (.invokevirtual 63, 3) := by decide +kernel
theorem d_L_law_369 : decode m_L_law.2.1 369 = .ok (.iload 5, 2) := by decide +kernel
theorem d_L_law_371 : decode m_L_law.2.1 371 = .ok (.if_icmp .eq 5, 3) := by decide +kernel
theorem d_L_law_374 : decode m_L_law.2.1 374 = .ok (.iconst 0, 1) := by decide +kernel
theorem d_L_law_375 : decode m_L_law.2.1 375 = .ok (.ireturn, 1) := by decide +kernel
theorem d_L_law_376 : decode m_L_law.2.1 376 = .ok (.iload 5, 2) := by decide +kernel
theorem d_L_law_378 : decode m_L_law.2.1 378 = .ok (.ifCond .ne 15, 3) := by decide +kernel
theorem d_L_law_381 : decode m_L_law.2.1 381 = .ok (.aload_n 3, 1) := by decide +kernel
theorem d_L_law_382 : decode m_L_law.2.1 382 = .ok (.iconst 0, 1) := by decide +kernel
theorem d_L_law_383 : decode m_L_law.2.1 383 = .ok (.laload, 1) := by decide +kernel
theorem d_L_law_384 : decode m_L_law.2.1 384 = .ok (.iload 6, 2) := by decide +kernel
theorem d_L_law_386 : decode m_L_law.2.1 386 = .ok (.i2l, 1) := by decide +kernel
theorem d_L_law_387 : decode m_L_law.2.1 387 = .ok (.lcmp, 1) := by decide +kernel
theorem d_L_law_388 : decode m_L_law.2.1 388 = .ok (.ifCond .eq 5, 3) := by decide +kernel
theorem d_L_law_391 : decode m_L_law.2.1 391 = .ok (.iconst 0, 1) := by decide +kernel
theorem d_L_law_392 : decode m_L_law.2.1 392 = .ok (.ireturn, 1) := by decide +kernel
theorem d_L_law_393 : decode m_L_law.2.1 393 = .ok (.goto 683, 3) := by decide +kernel
theorem d_L_law_396 : decode m_L_law.2.1 396 = .ok (.aload_n 1, 1) := by decide +kernel
theorem d_L_law_397 : decode m_L_law.2.1 397 = .ok (.aload_n 0, 1) := by decide +kernel
theorem d_L_law_398 : decode m_L_law.2.1 398 = .ok (.iload 4, 2) := by decide +kernel
theorem d_L_law_400 : decode m_L_law.2.1 400 = .ok (.iconst 1, 1) := by decide +kernel
theorem d_L_law_401 : decode m_L_law.2.1 401 = .ok (.iadd, 1) := by decide +kernel
theorem d_L_law_402 : decode m_L_law.2.1 402 = .ok (.iaload, 1) := by decide +kernel
theorem d_L_law_403 : decode m_L_law.2.1 403 = .ok (.aload_n 0, 1) := by decide +kernel
theorem d_L_law_404 : decode m_L_law.2.1 404 = .ok (.iload 4, 2) := by decide +kernel
theorem d_L_law_406 : decode m_L_law.2.1 406 = .ok (.iconst 2, 1) := by decide +kernel
theorem d_L_law_407 : decode m_L_law.2.1 407 = .ok (.iadd, 1) := by decide +kernel
theorem d_L_law_408 : decode m_L_law.2.1 408 = .ok (.iaload, 1) := by decide +kernel
theorem d_L_law_409 : decode m_L_law.2.1 409 = .ok (.aload_n 3, 1) := by decide +kernel
theorem d_L_law_410 : decode m_L_law.2.1 410 = .ok (.invokestatic 77, 3) := by decide +kernel
theorem d_L_law_413 : decode m_L_law.2.1 413 = .ok (.istore 5, 2) := by decide +kernel
theorem d_L_law_415 : decode m_L_law.2.1 415 = .ok (.aload_n 2, 1) := by decide +kernel
theorem d_L_law_416 : decode m_L_law.2.1 416 = .ok (.aload_n 0, 1) := by decide +kernel
theorem d_L_law_417 : decode m_L_law.2.1 417 = .ok (.iload 4, 2) := by decide +kernel
theorem d_L_law_419 : decode m_L_law.2.1 419 = .ok (.iconst 1, 1) := by decide +kernel
theorem d_L_law_420 : decode m_L_law.2.1 420 = .ok (.iadd, 1) := by decide +kernel
theorem d_L_law_421 : decode m_L_law.2.1 421 = .ok (.iaload, 1) := by decide +kernel
theorem d_L_law_422 : decode m_L_law.2.1 422 = .ok (.aload_n 0, 1) := by decide +kernel
theorem d_L_law_423 : decode m_L_law.2.1 423 = .ok (.iload 4, 2) := by decide +kernel
theorem d_L_law_425 : decode m_L_law.2.1 425 = .ok (.iconst 2, 1) := by decide +kernel
theorem d_L_law_426 : decode m_L_law.2.1 426 = .ok (.iadd, 1) := by decide +kernel
theorem d_L_law_427 : decode m_L_law.2.1 427 = .ok (.iaload, 1) := by decide +kernel
theorem d_L_law_428 : decode m_L_law.2.1 428 = .ok (.invokevirtual 79, 3) := by decide +kernel
theorem d_L_law_431 : decode m_L_law.2.1 431 = .ok (.istore 6, 2) := by decide +kernel
theorem d_L_law_433 : decode m_L_law.2.1 433 = .ok (.aload_n 2, 1) := by decide +kernel
theorem d_L_law_434 : decode m_L_law.2.1 434 = .ok (.invokevirtual 63, 3) := by decide +kernel
theorem d_L_law_437 : decode m_L_law.2.1 437 = .ok (.iload 5, 2) := by decide +kernel
theorem d_L_law_439 : decode m_L_law.2.1 439 = .ok (.if_icmp .eq 5, 3) := by decide +kernel
theorem d_L_law_442 : decode m_L_law.2.1 442 = .ok (.iconst 0, 1) := by decide +kernel
theorem d_L_law_443 : decode m_L_law.2.1 443 = .ok (.ireturn, 1) := by decide +kernel
theorem d_L_law_444 : decode m_L_law.2.1 444 = .ok (.iload 5, 2) := by decide +kernel
theorem d_L_law_446 : decode m_L_law.2.1 446 = .ok (.ifCond .ne 15, 3) := by decide +kernel
theorem d_L_law_449 : decode m_L_law.2.1 449 = .ok (.aload_n 3, 1) := by decide +kernel
theorem d_L_law_450 : decode m_L_law.2.1 450 = .ok (.iconst 0, 1) := by decide +kernel
theorem d_L_law_451 : decode m_L_law.2.1 451 = .ok (.laload, 1) := by decide +kernel
theorem d_L_law_452 : decode m_L_law.2.1 452 = .ok (.iload 6, 2) := by decide +kernel
theorem d_L_law_454 : decode m_L_law.2.1 454 = .ok (.i2l, 1) := by decide +kernel
theorem d_L_law_455 : decode m_L_law.2.1 455 = .ok (.lcmp, 1) := by decide +kernel
theorem d_L_law_456 : decode m_L_law.2.1 456 = .ok (.ifCond .eq 5, 3) := by decide +kernel
theorem d_L_law_459 : decode m_L_law.2.1 459 = .ok (.iconst 0, 1) := by decide +kernel
theorem d_L_law_460 : decode m_L_law.2.1 460 = .ok (.ireturn, 1) := by decide +kernel
theorem d_L_law_461 : decode m_L_law.2.1 461 = .ok (.goto 615, 3) := by decide +kernel
theorem d_L_law_464 : decode m_L_law.2.1 464 = .ok (.aload_n 1, 1) := by decide +kernel
theorem d_L_law_465 : decode m_L_law.2.1 465 = .ok (.aload_n 0, 1) := by decide +kernel
theorem d_L_law_466 : decode m_L_law.2.1 466 = .ok (.iload 4, 2) := by decide +kernel
theorem d_L_law_468 : decode m_L_law.2.1 468 = .ok (.iconst 1, 1) := by decide +kernel
theorem d_L_law_469 : decode m_L_law.2.1 469 = .ok (.iadd, 1) := by decide +kernel
theorem d_L_law_470 : decode m_L_law.2.1 470 = .ok (.iaload, 1) := by decide +kernel
theorem d_L_law_471 : decode m_L_law.2.1 471 = .ok (.aload_n 0, 1) := by decide +kernel
theorem d_L_law_472 : decode m_L_law.2.1 472 = .ok (.iload 4, 2) := by decide +kernel
theorem d_L_law_474 : decode m_L_law.2.1 474 = .ok (.iconst 2, 1) := by decide +kernel
theorem d_L_law_475 : decode m_L_law.2.1 475 = .ok (.iadd, 1) := by decide +kernel
theorem d_L_law_476 : decode m_L_law.2.1 476 = .ok (.iaload, 1) := by decide +kernel
theorem d_L_law_477 : decode m_L_law.2.1 477 = .ok (.aload_n 3, 1) := by decide +kernel
theorem d_L_law_478 : decode m_L_law.2.1 478 = .ok (.invokestatic 80, 3) := by decide +kernel
theorem d_L_law_481 : decode m_L_law.2.1 481 = .ok (.istore 5, 2) := by decide +kernel
theorem d_L_law_483 : decode m_L_law.2.1 483 = .ok (.aload_n 2, 1) := by decide +kernel
theorem d_L_law_484 : decode m_L_law.2.1 484 = .ok (.aload_n 0, 1) := by decide +kernel
theorem d_L_law_485 : decode m_L_law.2.1 485 = .ok (.iload 4, 2) := by decide +kernel
theorem d_L_law_487 : decode m_L_law.2.1 487 = .ok (.iconst 1, 1) := by decide +kernel
theorem d_L_law_488 : decode m_L_law.2.1 488 = .ok (.iadd, 1) := by decide +kernel
theorem d_L_law_489 : decode m_L_law.2.1 489 = .ok (.iaload, 1) := by decide +kernel
theorem d_L_law_490 : decode m_L_law.2.1 490 = .ok (.aload_n 0, 1) := by decide +kernel
theorem d_L_law_491 : decode m_L_law.2.1 491 = .ok (.iload 4, 2) := by decide +kernel
theorem d_L_law_493 : decode m_L_law.2.1 493 = .ok (.iconst 2, 1) := by decide +kernel
theorem d_L_law_494 : decode m_L_law.2.1 494 = .ok (.iadd, 1) := by decide +kernel
theorem d_L_law_495 : decode m_L_law.2.1 495 = .ok (.iaload, 1) := by decide +kernel
theorem d_L_law_496 : decode m_L_law.2.1 496 = .ok (.invokevirtual 82, 3) := by decide +kernel
theorem d_L_law_499 : decode m_L_law.2.1 499 = .ok (.istore 6, 2) := by decide +kernel
theorem d_L_law_501 : decode m_L_law.2.1 501 = .ok (.aload_n 2, 1) := by decide +kernel
theorem d_L_law_502 : decode m_L_law.2.1 502 = .ok (.invokevirtual 63, 3) := by decide +kernel
theorem d_L_law_505 : decode m_L_law.2.1 505 = .ok (.iload 5, 2) := by decide +kernel
theorem d_L_law_507 : decode m_L_law.2.1 507 = .ok (.if_icmp .eq 5, 3) := by decide +kernel
theorem d_L_law_510 : decode m_L_law.2.1 510 = .ok (.iconst 0, 1) := by decide +kernel
theorem d_L_law_511 : decode m_L_law.2.1 511 = .ok (.ireturn, 1) := by decide +kernel
theorem d_L_law_512 : decode m_L_law.2.1 512 = .ok (.iload 5, 2) := by decide +kernel
theorem d_L_law_514 : decode m_L_law.2.1 514 = .ok (.ifCond .ne 15, 3) := by decide +kernel
theorem d_L_law_517 : decode m_L_law.2.1 517 = .ok (.aload_n 3, 1) := by decide +kernel
theorem d_L_law_518 : decode m_L_law.2.1 518 = .ok (.iconst 0, 1) := by decide +kernel
theorem d_L_law_519 : decode m_L_law.2.1 519 = .ok (.laload, 1) := by decide +kernel
theorem d_L_law_520 : decode m_L_law.2.1 520 = .ok (.iload 6, 2) := by decide +kernel
theorem d_L_law_522 : decode m_L_law.2.1 522 = .ok (.i2l, 1) := by decide +kernel
theorem d_L_law_523 : decode m_L_law.2.1 523 = .ok (.lcmp, 1) := by decide +kernel
theorem d_L_law_524 : decode m_L_law.2.1 524 = .ok (.ifCond .eq 5, 3) := by decide +kernel
theorem d_L_law_527 : decode m_L_law.2.1 527 = .ok (.iconst 0, 1) := by decide +kernel
theorem d_L_law_528 : decode m_L_law.2.1 528 = .ok (.ireturn, 1) := by decide +kernel
theorem d_L_law_529 : decode m_L_law.2.1 529 = .ok (.goto 547, 3) := by decide +kernel
theorem d_L_law_532 : decode m_L_law.2.1 532 = .ok (.aload_n 1, 1) := by decide +kernel
theorem d_L_law_533 : decode m_L_law.2.1 533 = .ok (.aload_n 0, 1) := by decide +kernel
theorem d_L_law_534 : decode m_L_law.2.1 534 = .ok (.iload 4, 2) := by decide +kernel
theorem d_L_law_536 : decode m_L_law.2.1 536 = .ok (.iconst 1, 1) := by decide +kernel
theorem d_L_law_537 : decode m_L_law.2.1 537 = .ok (.iadd, 1) := by decide +kernel
theorem d_L_law_538 : decode m_L_law.2.1 538 = .ok (.iaload, 1) := by decide +kernel
theorem d_L_law_539 : decode m_L_law.2.1 539 = .ok (.aload_n 0, 1) := by decide +kernel
theorem d_L_law_540 : decode m_L_law.2.1 540 = .ok (.iload 4, 2) := by decide +kernel
theorem d_L_law_542 : decode m_L_law.2.1 542 = .ok (.iconst 2, 1) := by decide +kernel
theorem d_L_law_543 : decode m_L_law.2.1 543 = .ok (.iadd, 1) := by decide +kernel
theorem d_L_law_544 : decode m_L_law.2.1 544 = .ok (.iaload, 1) := by decide +kernel
theorem d_L_law_545 : decode m_L_law.2.1 545 = .ok (.aload_n 0, 1) := by decide +kernel
theorem d_L_law_546 : decode m_L_law.2.1 546 = .ok (.iload 4, 2) := by decide +kernel
theorem d_L_law_548 : decode m_L_law.2.1 548 = .ok (.iconst 3, 1) := by decide +kernel
theorem d_L_law_549 : decode m_L_law.2.1 549 = .ok (.iadd, 1) := by decide +kernel
theorem d_L_law_550 : decode m_L_law.2.1 550 = .ok (.iaload, 1) := by decide +kernel
theorem d_L_law_551 : decode m_L_law.2.1 551 = .ok (.aload_n 0, 1) := by decide +kernel
theorem d_L_law_552 : decode m_L_law.2.1 552 = .ok (.iload 4, 2) := by decide +kernel
theorem d_L_law_554 : decode m_L_law.2.1 554 = .ok (.iconst 4, 1) := by decide +kernel
theorem d_L_law_555 : decode m_L_law.2.1 555 = .ok (.iadd, 1) := by decide +kernel
theorem d_L_law_556 : decode m_L_law.2.1 556 = .ok (.iaload, 1) := by decide +kernel
theorem d_L_law_557 : decode m_L_law.2.1 557 = .ok (.aload_n 3, 1) := by decide +kernel
theorem d_L_law_558 : decode m_L_law.2.1 558 = .ok (.invokestatic 83, 3) := by decide +kernel
theorem d_L_law_561 : decode m_L_law.2.1 561 = .ok (.istore 5, 2) := by decide +kernel
theorem d_L_law_563 : decode m_L_law.2.1 563 = .ok (.aload_n 2, 1) := by decide +kernel
theorem d_L_law_564 : decode m_L_law.2.1 564 = .ok (.aload_n 0, 1) := by decide +kernel
theorem d_L_law_565 : decode m_L_law.2.1 565 = .ok (.iload 4, 2) := by decide +kernel
theorem d_L_law_567 : decode m_L_law.2.1 567 = .ok (.iconst 1, 1) := by decide +kernel
theorem d_L_law_568 : decode m_L_law.2.1 568 = .ok (.iadd, 1) := by decide +kernel
theorem d_L_law_569 : decode m_L_law.2.1 569 = .ok (.iaload, 1) := by decide +kernel
theorem d_L_law_570 : decode m_L_law.2.1 570 = .ok (.aload_n 0, 1) := by decide +kernel
theorem d_L_law_571 : decode m_L_law.2.1 571 = .ok (.iload 4, 2) := by decide +kernel
theorem d_L_law_573 : decode m_L_law.2.1 573 = .ok (.iconst 2, 1) := by decide +kernel
theorem d_L_law_574 : decode m_L_law.2.1 574 = .ok (.iadd, 1) := by decide +kernel
theorem d_L_law_575 : decode m_L_law.2.1 575 = .ok (.iaload, 1) := by decide +kernel
theorem d_L_law_576 : decode m_L_law.2.1 576 = .ok (.aload_n 0, 1) := by decide +kernel
theorem d_L_law_577 : decode m_L_law.2.1 577 = .ok (.iload 4, 2) := by decide +kernel
theorem d_L_law_579 : decode m_L_law.2.1 579 = .ok (.iconst 3, 1) := by decide +kernel
theorem d_L_law_580 : decode m_L_law.2.1 580 = .ok (.iadd, 1) := by decide +kernel
theorem d_L_law_581 : decode m_L_law.2.1 581 = .ok (.iaload, 1) := by decide +kernel
theorem d_L_law_582 : decode m_L_law.2.1 582 = .ok (.aload_n 0, 1) := by decide +kernel
theorem d_L_law_583 : decode m_L_law.2.1 583 = .ok (.iload 4, 2) := by decide +kernel
theorem d_L_law_585 : decode m_L_law.2.1 585 = .ok (.iconst 4, 1) := by decide +kernel
theorem d_L_law_586 : decode m_L_law.2.1 586 = .ok (.iadd, 1) := by decide +kernel
theorem d_L_law_587 : decode m_L_law.2.1 587 = .ok (.iaload, 1) := by decide +kernel
theorem d_L_law_588 : decode m_L_law.2.1 588 = .ok (.invokevirtual 85, 3) := by decide +kernel
theorem d_L_law_591 : decode m_L_law.2.1 591 = .ok (.istore 6, 2) := by decide +kernel
theorem d_L_law_593 : decode m_L_law.2.1 593 = .ok (.aload_n 2, 1) := by decide +kernel
theorem d_L_law_594 : decode m_L_law.2.1 594 = .ok (.invokevirtual 63, 3) := by decide +kernel
theorem d_L_law_597 : decode m_L_law.2.1 597 = .ok (.iload 5, 2) := by decide +kernel
theorem d_L_law_599 : decode m_L_law.2.1 599 = .ok (.if_icmp .eq 5, 3) := by decide +kernel
theorem d_L_law_602 : decode m_L_law.2.1 602 = .ok (.iconst 0, 1) := by decide +kernel
theorem d_L_law_603 : decode m_L_law.2.1 603 = .ok (.ireturn, 1) := by decide +kernel
theorem d_L_law_604 : decode m_L_law.2.1 604 = .ok (.iload 5, 2) := by decide +kernel
theorem d_L_law_606 : decode m_L_law.2.1 606 = .ok (.ifCond .ne 15, 3) := by decide +kernel
theorem d_L_law_609 : decode m_L_law.2.1 609 = .ok (.aload_n 3, 1) := by decide +kernel
theorem d_L_law_610 : decode m_L_law.2.1 610 = .ok (.iconst 0, 1) := by decide +kernel
theorem d_L_law_611 : decode m_L_law.2.1 611 = .ok (.laload, 1) := by decide +kernel
theorem d_L_law_612 : decode m_L_law.2.1 612 = .ok (.iload 6, 2) := by decide +kernel
theorem d_L_law_614 : decode m_L_law.2.1 614 = .ok (.i2l, 1) := by decide +kernel
theorem d_L_law_615 : decode m_L_law.2.1 615 = .ok (.lcmp, 1) := by decide +kernel
theorem d_L_law_616 : decode m_L_law.2.1 616 = .ok (.ifCond .eq 5, 3) := by decide +kernel
theorem d_L_law_619 : decode m_L_law.2.1 619 = .ok (.iconst 0, 1) := by decide +kernel
theorem d_L_law_620 : decode m_L_law.2.1 620 = .ok (.ireturn, 1) := by decide +kernel
theorem d_L_law_621 : decode m_L_law.2.1 621 = .ok (.goto 455, 3) := by decide +kernel
theorem d_L_law_624 : decode m_L_law.2.1 624 = .ok (.aload_n 1, 1) := by decide +kernel
theorem d_L_law_625 : decode m_L_law.2.1 625 = .ok (.aload_n 0, 1) := by decide +kernel
theorem d_L_law_626 : decode m_L_law.2.1 626 = .ok (.iload 4, 2) := by decide +kernel
theorem d_L_law_628 : decode m_L_law.2.1 628 = .ok (.iconst 1, 1) := by decide +kernel
theorem d_L_law_629 : decode m_L_law.2.1 629 = .ok (.iadd, 1) := by decide +kernel
theorem d_L_law_630 : decode m_L_law.2.1 630 = .ok (.iaload, 1) := by decide +kernel
theorem d_L_law_631 : decode m_L_law.2.1 631 = .ok (.aload_n 0, 1) := by decide +kernel
theorem d_L_law_632 : decode m_L_law.2.1 632 = .ok (.iload 4, 2) := by decide +kernel
theorem d_L_law_634 : decode m_L_law.2.1 634 = .ok (.iconst 2, 1) := by decide +kernel
theorem d_L_law_635 : decode m_L_law.2.1 635 = .ok (.iadd, 1) := by decide +kernel
theorem d_L_law_636 : decode m_L_law.2.1 636 = .ok (.iaload, 1) := by decide +kernel
theorem d_L_law_637 : decode m_L_law.2.1 637 = .ok (.aload_n 3, 1) := by decide +kernel
theorem d_L_law_638 : decode m_L_law.2.1 638 = .ok (.invokestatic 86, 3) := by decide +kernel
theorem d_L_law_641 : decode m_L_law.2.1 641 = .ok (.istore 5, 2) := by decide +kernel
theorem d_L_law_643 : decode m_L_law.2.1 643 = .ok (.aload_n 2, 1) := by decide +kernel
theorem d_L_law_644 : decode m_L_law.2.1 644 = .ok (.aload_n 0, 1) := by decide +kernel
theorem d_L_law_645 : decode m_L_law.2.1 645 = .ok (.iload 4, 2) := by decide +kernel
theorem d_L_law_647 : decode m_L_law.2.1 647 = .ok (.iconst 1, 1) := by decide +kernel
theorem d_L_law_648 : decode m_L_law.2.1 648 = .ok (.iadd, 1) := by decide +kernel
theorem d_L_law_649 : decode m_L_law.2.1 649 = .ok (.iaload, 1) := by decide +kernel
theorem d_L_law_650 : decode m_L_law.2.1 650 = .ok (.aload_n 0, 1) := by decide +kernel
theorem d_L_law_651 : decode m_L_law.2.1 651 = .ok (.iload 4, 2) := by decide +kernel
theorem d_L_law_653 : decode m_L_law.2.1 653 = .ok (.iconst 2, 1) := by decide +kernel
theorem d_L_law_654 : decode m_L_law.2.1 654 = .ok (.iadd, 1) := by decide +kernel
theorem d_L_law_655 : decode m_L_law.2.1 655 = .ok (.iaload, 1) := by decide +kernel
theorem d_L_law_656 : decode m_L_law.2.1 656 = .ok (.invokevirtual 88, 3) := by decide +kernel
theorem d_L_law_659 : decode m_L_law.2.1 659 = .ok (.istore 6, 2) := by decide +kernel
theorem d_L_law_661 : decode m_L_law.2.1 661 = .ok (.aload_n 2, 1) := by decide +kernel
theorem d_L_law_662 : decode m_L_law.2.1 662 = .ok (.invokevirtual 63, 3) := by decide +kernel
theorem d_L_law_665 : decode m_L_law.2.1 665 = .ok (.iload 5, 2) := by decide +kernel
theorem d_L_law_667 : decode m_L_law.2.1 667 = .ok (.if_icmp .eq 5, 3) := by decide +kernel
theorem d_L_law_670 : decode m_L_law.2.1 670 = .ok (.iconst 0, 1) := by decide +kernel
theorem d_L_law_671 : decode m_L_law.2.1 671 = .ok (.ireturn, 1) := by decide +kernel
theorem d_L_law_672 : decode m_L_law.2.1 672 = .ok (.iload 5, 2) := by decide +kernel
theorem d_L_law_674 : decode m_L_law.2.1 674 = .ok (.ifCond .ne 15, 3) := by decide +kernel
theorem d_L_law_677 : decode m_L_law.2.1 677 = .ok (.aload_n 3, 1) := by decide +kernel
theorem d_L_law_678 : decode m_L_law.2.1 678 = .ok (.iconst 0, 1) := by decide +kernel
theorem d_L_law_679 : decode m_L_law.2.1 679 = .ok (.laload, 1) := by decide +kernel
theorem d_L_law_680 : decode m_L_law.2.1 680 = .ok (.iload 6, 2) := by decide +kernel
theorem d_L_law_682 : decode m_L_law.2.1 682 = .ok (.i2l, 1) := by decide +kernel
theorem d_L_law_683 : decode m_L_law.2.1 683 = .ok (.lcmp, 1) := by decide +kernel
theorem d_L_law_684 : decode m_L_law.2.1 684 = .ok (.ifCond .eq 5, 3) := by decide +kernel
theorem d_L_law_687 : decode m_L_law.2.1 687 = .ok (.iconst 0, 1) := by decide +kernel
theorem d_L_law_688 : decode m_L_law.2.1 688 = .ok (.ireturn, 1) := by decide +kernel
theorem d_L_law_689 : decode m_L_law.2.1 689 = .ok (.goto 387, 3) := by decide +kernel
theorem d_L_law_692 : decode m_L_law.2.1 692 = .ok (.aload_n 1, 1) := by decide +kernel
theorem d_L_law_693 : decode m_L_law.2.1 693 = .ok (.aload_n 0, 1) := by decide +kernel
theorem d_L_law_694 : decode m_L_law.2.1 694 = .ok (.iload 4, 2) := by decide +kernel
theorem d_L_law_696 : decode m_L_law.2.1 696 = .ok (.iconst 1, 1) := by decide +kernel
theorem d_L_law_697 : decode m_L_law.2.1 697 = .ok (.iadd, 1) := by decide +kernel
theorem d_L_law_698 : decode m_L_law.2.1 698 = .ok (.iaload, 1) := by decide +kernel
theorem d_L_law_699 : decode m_L_law.2.1 699 = .ok (.aload_n 0, 1) := by decide +kernel
theorem d_L_law_700 : decode m_L_law.2.1 700 = .ok (.iload 4, 2) := by decide +kernel
theorem d_L_law_702 : decode m_L_law.2.1 702 = .ok (.iconst 2, 1) := by decide +kernel
theorem d_L_law_703 : decode m_L_law.2.1 703 = .ok (.iadd, 1) := by decide +kernel
theorem d_L_law_704 : decode m_L_law.2.1 704 = .ok (.iaload, 1) := by decide +kernel
theorem d_L_law_705 : decode m_L_law.2.1 705 = .ok (.aload_n 0, 1) := by decide +kernel
theorem d_L_law_706 : decode m_L_law.2.1 706 = .ok (.iload 4, 2) := by decide +kernel
theorem d_L_law_708 : decode m_L_law.2.1 708 = .ok (.iconst 3, 1) := by decide +kernel
theorem d_L_law_709 : decode m_L_law.2.1 709 = .ok (.iadd, 1) := by decide +kernel
theorem d_L_law_710 : decode m_L_law.2.1 710 = .ok (.iaload, 1) := by decide +kernel
theorem d_L_law_711 : decode m_L_law.2.1 711 = .ok (.aload_n 0, 1) := by decide +kernel
theorem d_L_law_712 : decode m_L_law.2.1 712 = .ok (.iload 4, 2) := by decide +kernel
theorem d_L_law_714 : decode m_L_law.2.1 714 = .ok (.iconst 4, 1) := by decide +kernel
theorem d_L_law_715 : decode m_L_law.2.1 715 = .ok (.iadd, 1) := by decide +kernel
theorem d_L_law_716 : decode m_L_law.2.1 716 = .ok (.iaload, 1) := by decide +kernel
theorem d_L_law_717 : decode m_L_law.2.1 717 = .ok (.aload_n 0, 1) := by decide +kernel
theorem d_L_law_718 : decode m_L_law.2.1 718 = .ok (.iload 4, 2) := by decide +kernel
theorem d_L_law_720 : decode m_L_law.2.1 720 = .ok (.iconst 5, 1) := by decide +kernel
theorem d_L_law_721 : decode m_L_law.2.1 721 = .ok (.iadd, 1) := by decide +kernel
theorem d_L_law_722 : decode m_L_law.2.1 722 = .ok (.iaload, 1) := by decide +kernel
theorem d_L_law_723 : decode m_L_law.2.1 723 = .ok (.aload_n 3, 1) := by decide +kernel
theorem d_L_law_724 : decode m_L_law.2.1 724 = .ok (.invokestatic 89, 3) := by decide +kernel
theorem d_L_law_727 : decode m_L_law.2.1 727 = .ok (.istore 5, 2) := by decide +kernel
theorem d_L_law_729 : decode m_L_law.2.1 729 = .ok (.aload_n 2, 1) := by decide +kernel
theorem d_L_law_730 : decode m_L_law.2.1 730 = .ok (.aload_n 0, 1) := by decide +kernel
theorem d_L_law_731 : decode m_L_law.2.1 731 = .ok (.iload 4, 2) := by decide +kernel
theorem d_L_law_733 : decode m_L_law.2.1 733 = .ok (.iconst 1, 1) := by decide +kernel
theorem d_L_law_734 : decode m_L_law.2.1 734 = .ok (.iadd, 1) := by decide +kernel
theorem d_L_law_735 : decode m_L_law.2.1 735 = .ok (.iaload, 1) := by decide +kernel
theorem d_L_law_736 : decode m_L_law.2.1 736 = .ok (.aload_n 0, 1) := by decide +kernel
theorem d_L_law_737 : decode m_L_law.2.1 737 = .ok (.iload 4, 2) := by decide +kernel
theorem d_L_law_739 : decode m_L_law.2.1 739 = .ok (.iconst 2, 1) := by decide +kernel
theorem d_L_law_740 : decode m_L_law.2.1 740 = .ok (.iadd, 1) := by decide +kernel
theorem d_L_law_741 : decode m_L_law.2.1 741 = .ok (.iaload, 1) := by decide +kernel
theorem d_L_law_742 : decode m_L_law.2.1 742 = .ok (.aload_n 0, 1) := by decide +kernel
theorem d_L_law_743 : decode m_L_law.2.1 743 = .ok (.iload 4, 2) := by decide +kernel
theorem d_L_law_745 : decode m_L_law.2.1 745 = .ok (.iconst 3, 1) := by decide +kernel
theorem d_L_law_746 : decode m_L_law.2.1 746 = .ok (.iadd, 1) := by decide +kernel
theorem d_L_law_747 : decode m_L_law.2.1 747 = .ok (.iaload, 1) := by decide +kernel
theorem d_L_law_748 : decode m_L_law.2.1 748 = .ok (.aload_n 0, 1) := by decide +kernel
theorem d_L_law_749 : decode m_L_law.2.1 749 = .ok (.iload 4, 2) := by decide +kernel
theorem d_L_law_751 : decode m_L_law.2.1 751 = .ok (.iconst 4, 1) := by decide +kernel
theorem d_L_law_752 : decode m_L_law.2.1 752 = .ok (.iadd, 1) := by decide +kernel
theorem d_L_law_753 : decode m_L_law.2.1 753 = .ok (.iaload, 1) := by decide +kernel
theorem d_L_law_754 : decode m_L_law.2.1 754 = .ok (.aload_n 0, 1) := by decide +kernel
theorem d_L_law_755 : decode m_L_law.2.1 755 = .ok (.iload 4, 2) := by decide +kernel
theorem d_L_law_757 : decode m_L_law.2.1 757 = .ok (.iconst 5, 1) := by decide +kernel
theorem d_L_law_758 : decode m_L_law.2.1 758 = .ok (.iadd, 1) := by decide +kernel
theorem d_L_law_759 : decode m_L_law.2.1 759 = .ok (.iaload, 1) := by decide +kernel
theorem d_L_law_760 : decode m_L_law.2.1 760 = .ok (.invokevirtual 92, 3) := by decide +kernel
theorem d_L_law_763 : decode m_L_law.2.1 763 = .ok (.istore 6, 2) := by decide +kernel
theorem d_L_law_765 : decode m_L_law.2.1 765 = .ok (.aload_n 2, 1) := by decide +kernel
theorem d_L_law_766 : decode m_L_law.2.1 766 = .ok (.invokevirtual 63, 3) := by decide +kernel
theorem d_L_law_769 : decode m_L_law.2.1 769 = .ok (.iload 5, 2) := by decide +kernel
theorem d_L_law_771 : decode m_L_law.2.1 771 = .ok (.if_icmp .eq 5, 3) := by decide +kernel
theorem d_L_law_774 : decode m_L_law.2.1 774 = .ok (.iconst 0, 1) := by decide +kernel
theorem d_L_law_775 : decode m_L_law.2.1 775 = .ok (.ireturn, 1) := by decide +kernel
theorem d_L_law_776 : decode m_L_law.2.1 776 = .ok (.iload 5, 2) := by decide +kernel
theorem d_L_law_778 : decode m_L_law.2.1 778 = .ok (.ifCond .ne 15, 3) := by decide +kernel
theorem d_L_law_781 : decode m_L_law.2.1 781 = .ok (.aload_n 3, 1) := by decide +kernel
theorem d_L_law_782 : decode m_L_law.2.1 782 = .ok (.iconst 0, 1) := by decide +kernel
theorem d_L_law_783 : decode m_L_law.2.1 783 = .ok (.laload, 1) := by decide +kernel
theorem d_L_law_784 : decode m_L_law.2.1 784 = .ok (.iload 6, 2) := by decide +kernel
theorem d_L_law_786 : decode m_L_law.2.1 786 = .ok (.i2l, 1) := by decide +kernel
theorem d_L_law_787 : decode m_L_law.2.1 787 = .ok (.lcmp, 1) := by decide +kernel
theorem d_L_law_788 : decode m_L_law.2.1 788 = .ok (.ifCond .eq 5, 3) := by decide +kernel
theorem d_L_law_791 : decode m_L_law.2.1 791 = .ok (.iconst 0, 1) := by decide +kernel
theorem d_L_law_792 : decode m_L_law.2.1 792 = .ok (.ireturn, 1) := by decide +kernel
theorem d_L_law_793 : decode m_L_law.2.1 793 = .ok (.goto 283, 3) := by decide +kernel
theorem d_L_law_796 : decode m_L_law.2.1 796 = .ok (.aload_n 1, 1) := by decide +kernel
theorem d_L_law_797 : decode m_L_law.2.1 797 = .ok (.aload_n 0, 1) := by decide +kernel
theorem d_L_law_798 : decode m_L_law.2.1 798 = .ok (.iload 4, 2) := by decide +kernel
theorem d_L_law_800 : decode m_L_law.2.1 800 = .ok (.iconst 1, 1) := by decide +kernel
theorem d_L_law_801 : decode m_L_law.2.1 801 = .ok (.iadd, 1) := by decide +kernel
theorem d_L_law_802 : decode m_L_law.2.1 802 = .ok (.iaload, 1) := by decide +kernel
theorem d_L_law_803 : decode m_L_law.2.1 803 = .ok (.aload_n 0, 1) := by decide +kernel
theorem d_L_law_804 : decode m_L_law.2.1 804 = .ok (.iload 4, 2) := by decide +kernel
theorem d_L_law_806 : decode m_L_law.2.1 806 = .ok (.iconst 2, 1) := by decide +kernel
theorem d_L_law_807 : decode m_L_law.2.1 807 = .ok (.iadd, 1) := by decide +kernel
theorem d_L_law_808 : decode m_L_law.2.1 808 = .ok (.iaload, 1) := by decide +kernel
theorem d_L_law_809 : decode m_L_law.2.1 809 = .ok (.invokevirtual 93, 3) := by decide +kernel
theorem d_L_law_812 : decode m_L_law.2.1 812 = .ok (.aload_n 2, 1) := by decide +kernel
theorem d_L_law_813 : decode m_L_law.2.1 813 = .ok (.aload_n 0, 1) := by decide +kernel
theorem d_L_law_814 : decode m_L_law.2.1 814 = .ok (.iload 4, 2) := by decide +kernel
theorem d_L_law_816 : decode m_L_law.2.1 816 = .ok (.iconst 1, 1) := by decide +kernel
theorem d_L_law_817 : decode m_L_law.2.1 817 = .ok (.iadd, 1) := by decide +kernel
theorem d_L_law_818 : decode m_L_law.2.1 818 = .ok (.iaload, 1) := by decide +kernel
theorem d_L_law_819 : decode m_L_law.2.1 819 = .ok (.aload_n 0, 1) := by decide +kernel
theorem d_L_law_820 : decode m_L_law.2.1 820 = .ok (.iload 4, 2) := by decide +kernel
theorem d_L_law_822 : decode m_L_law.2.1 822 = .ok (.iconst 2, 1) := by decide +kernel
theorem d_L_law_823 : decode m_L_law.2.1 823 = .ok (.iadd, 1) := by decide +kernel
theorem d_L_law_824 : decode m_L_law.2.1 824 = .ok (.iaload, 1) := by decide +kernel
theorem d_L_law_825 : decode m_L_law.2.1 825 = .ok (.invokevirtual 96, 3) := by decide +kernel
theorem d_L_law_828 : decode m_L_law.2.1 828 = .ok (.if_icmp .eq 248, 3) := by decide +kernel
theorem d_L_law_831 : decode m_L_law.2.1 831 = .ok (.iconst 0, 1) := by decide +kernel
theorem d_L_law_832 : decode m_L_law.2.1 832 = .ok (.ireturn, 1) := by decide +kernel
theorem d_L_law_833 : decode m_L_law.2.1 833 = .ok (.aload_n 1, 1) := by decide +kernel
theorem d_L_law_834 : decode m_L_law.2.1 834 = .ok (.aload_n 0, 1) := by decide +kernel
theorem d_L_law_835 : decode m_L_law.2.1 835 = .ok (.iload 4, 2) := by decide +kernel
theorem d_L_law_837 : decode m_L_law.2.1 837 = .ok (.iconst 1, 1) := by decide +kernel
theorem d_L_law_838 : decode m_L_law.2.1 838 = .ok (.iadd, 1) := by decide +kernel
theorem d_L_law_839 : decode m_L_law.2.1 839 = .ok (.iaload, 1) := by decide +kernel
theorem d_L_law_840 : decode m_L_law.2.1 840 = .ok (.aload_n 3, 1) := by decide +kernel
theorem d_L_law_841 : decode m_L_law.2.1 841 = .ok (.invokestatic 97, 3) := by decide +kernel
theorem d_L_law_844 : decode m_L_law.2.1 844 = .ok (.istore 5, 2) := by decide +kernel
theorem d_L_law_846 : decode m_L_law.2.1 846 = .ok (.aload_n 2, 1) := by decide +kernel
theorem d_L_law_847 : decode m_L_law.2.1 847 = .ok (.aload_n 0, 1) := by decide +kernel
theorem d_L_law_848 : decode m_L_law.2.1 848 = .ok (.iload 4, 2) := by decide +kernel
theorem d_L_law_850 : decode m_L_law.2.1 850 = .ok (.iconst 1, 1) := by decide +kernel
theorem d_L_law_851 : decode m_L_law.2.1 851 = .ok (.iadd, 1) := by decide +kernel
theorem d_L_law_852 : decode m_L_law.2.1 852 = .ok (.iaload, 1) := by decide +kernel
theorem d_L_law_853 : decode m_L_law.2.1 853 = .ok (.invokevirtual 99, 3) := by decide +kernel
theorem d_L_law_856 : decode m_L_law.2.1 856 = .ok (.istore 6, 2) := by decide +kernel
theorem d_L_law_858 : decode m_L_law.2.1 858 = .ok (.aload_n 2, 1) := by decide +kernel
theorem d_L_law_859 : decode m_L_law.2.1 859 = .ok (.invokevirtual 63, 3) := by decide +kernel
theorem d_L_law_862 : decode m_L_law.2.1 862 = .ok (.iload 5, 2) := by decide +kernel
theorem d_L_law_864 : decode m_L_law.2.1 864 = .ok (.if_icmp .eq 5, 3) := by decide +kernel
theorem d_L_law_867 : decode m_L_law.2.1 867 = .ok (.iconst 0, 1) := by decide +kernel
theorem d_L_law_868 : decode m_L_law.2.1 868 = .ok (.ireturn, 1) := by decide +kernel
theorem d_L_law_869 : decode m_L_law.2.1 869 = .ok (.iload 5, 2) := by decide +kernel
theorem d_L_law_871 : decode m_L_law.2.1 871 = .ok (.ifCond .ne 15, 3) := by decide +kernel
theorem d_L_law_874 : decode m_L_law.2.1 874 = .ok (.aload_n 3, 1) := by decide +kernel
theorem d_L_law_875 : decode m_L_law.2.1 875 = .ok (.iconst 0, 1) := by decide +kernel
theorem d_L_law_876 : decode m_L_law.2.1 876 = .ok (.laload, 1) := by decide +kernel
theorem d_L_law_877 : decode m_L_law.2.1 877 = .ok (.iload 6, 2) := by decide +kernel
theorem d_L_law_879 : decode m_L_law.2.1 879 = .ok (.i2l, 1) := by decide +kernel
theorem d_L_law_880 : decode m_L_law.2.1 880 = .ok (.lcmp, 1) := by decide +kernel
theorem d_L_law_881 : decode m_L_law.2.1 881 = .ok (.ifCond .eq 5, 3) := by decide +kernel
theorem d_L_law_884 : decode m_L_law.2.1 884 = .ok (.iconst 0, 1) := by decide +kernel
theorem d_L_law_885 : decode m_L_law.2.1 885 = .ok (.ireturn, 1) := by decide +kernel
theorem d_L_law_886 : decode m_L_law.2.1 886 = .ok (.goto 190, 3) := by decide +kernel
theorem d_L_law_889 : decode m_L_law.2.1 889 = .ok (.aload_n 1, 1) := by decide +kernel
theorem d_L_law_890 : decode m_L_law.2.1 890 = .ok (.aload_n 0, 1) := by decide +kernel
theorem d_L_law_891 : decode m_L_law.2.1 891 = .ok (.iload 4, 2) := by decide +kernel
theorem d_L_law_893 : decode m_L_law.2.1 893 = .ok (.iconst 1, 1) := by decide +kernel
theorem d_L_law_894 : decode m_L_law.2.1 894 = .ok (.iadd, 1) := by decide +kernel
theorem d_L_law_895 : decode m_L_law.2.1 895 = .ok (.iaload, 1) := by decide +kernel
theorem d_L_law_896 : decode m_L_law.2.1 896 = .ok (.i2l, 1) := by decide +kernel
theorem d_L_law_897 : decode m_L_law.2.1 897 = .ok (.bipush 32, 2) := by decide +kernel
theorem d_L_law_899 : decode m_L_law.2.1 899 = .ok (.lshl, 1) := by decide +kernel
theorem d_L_law_900 : decode m_L_law.2.1 900 = .ok (.aload_n 0, 1) := by decide +kernel
theorem d_L_law_901 : decode m_L_law.2.1 901 = .ok (.iload 4, 2) := by decide +kernel
theorem d_L_law_903 : decode m_L_law.2.1 903 = .ok (.iconst 2, 1) := by decide +kernel
theorem d_L_law_904 : decode m_L_law.2.1 904 = .ok (.iadd, 1) := by decide +kernel
theorem d_L_law_905 : decode m_L_law.2.1 905 = .ok (.iaload, 1) := by decide +kernel
theorem d_L_law_906 : decode m_L_law.2.1 906 = .ok (.i2l, 1) := by decide +kernel
theorem d_L_law_907 : decode m_L_law.2.1 907 = .ok (.ldc2_w 100, 3) := by decide +kernel
theorem d_L_law_910 : decode m_L_law.2.1 910 = .ok (.land, 1) := by decide +kernel
theorem d_L_law_911 : decode m_L_law.2.1 911 = .ok (.lor, 1) := by decide +kernel
theorem d_L_law_912 : decode m_L_law.2.1 912 = .ok (.invokevirtual 102, 3) := by decide +kernel
theorem d_L_law_915 : decode m_L_law.2.1 915 = .ok (.aload_n 2, 1) := by decide +kernel
theorem d_L_law_916 : decode m_L_law.2.1 916 = .ok (.aload_n 0, 1) := by decide +kernel
theorem d_L_law_917 : decode m_L_law.2.1 917 = .ok (.iload 4, 2) := by decide +kernel
theorem d_L_law_919 : decode m_L_law.2.1 919 = .ok (.iconst 1, 1) := by decide +kernel
theorem d_L_law_920 : decode m_L_law.2.1 920 = .ok (.iadd, 1) := by decide +kernel
theorem d_L_law_921 : decode m_L_law.2.1 921 = .ok (.iaload, 1) := by decide +kernel
theorem d_L_law_922 : decode m_L_law.2.1 922 = .ok (.i2l, 1) := by decide +kernel
theorem d_L_law_923 : decode m_L_law.2.1 923 = .ok (.bipush 32, 2) := by decide +kernel
theorem d_L_law_925 : decode m_L_law.2.1 925 = .ok (.lshl, 1) := by decide +kernel
theorem d_L_law_926 : decode m_L_law.2.1 926 = .ok (.aload_n 0, 1) := by decide +kernel
theorem d_L_law_927 : decode m_L_law.2.1 927 = .ok (.iload 4, 2) := by decide +kernel
theorem d_L_law_929 : decode m_L_law.2.1 929 = .ok (.iconst 2, 1) := by decide +kernel
theorem d_L_law_930 : decode m_L_law.2.1 930 = .ok (.iadd, 1) := by decide +kernel
theorem d_L_law_931 : decode m_L_law.2.1 931 = .ok (.iaload, 1) := by decide +kernel
theorem d_L_law_932 : decode m_L_law.2.1 932 = .ok (.i2l, 1) := by decide +kernel
theorem d_L_law_933 : decode m_L_law.2.1 933 = .ok (.ldc2_w 100, 3) := by decide +kernel
theorem d_L_law_936 : decode m_L_law.2.1 936 = .ok (.land, 1) := by decide +kernel
theorem d_L_law_937 : decode m_L_law.2.1 937 = .ok (.lor, 1) := by decide +kernel
theorem d_L_law_938 : decode m_L_law.2.1 938 = .ok (.invokevirtual 106, 3) := by decide +kernel
theorem d_L_law_941 : decode m_L_law.2.1 941 = .ok (.if_icmp .eq 135, 3) := by decide +kernel
theorem d_L_law_944 : decode m_L_law.2.1 944 = .ok (.iconst 0, 1) := by decide +kernel
theorem d_L_law_945 : decode m_L_law.2.1 945 = .ok (.ireturn, 1) := by decide +kernel
theorem d_L_law_946 : decode m_L_law.2.1 946 = .ok (.aload_n 1, 1) := by decide +kernel
theorem d_L_law_947 : decode m_L_law.2.1 947 = .ok (.invokevirtual 107, 3) := by decide +kernel
theorem d_L_law_950 : decode m_L_law.2.1 950 = .ok (.aload_n 2, 1) := by decide +kernel
theorem d_L_law_951 : decode m_L_law.2.1 951 = .ok (.invokevirtual 110, 3) := by decide +kernel
theorem d_L_law_954 : decode m_L_law.2.1 954 = .ok (.goto 122, 3) := by decide +kernel
theorem d_L_law_957 : decode m_L_law.2.1 957 = .ok (.aload_n 1, 1) := by decide +kernel
theorem d_L_law_958 : decode m_L_law.2.1 958 = .ok (.aload_n 0, 1) := by decide +kernel
theorem d_L_law_959 : decode m_L_law.2.1 959 = .ok (.iload 4, 2) := by decide +kernel
theorem d_L_law_961 : decode m_L_law.2.1 961 = .ok (.iconst 1, 1) := by decide +kernel
theorem d_L_law_962 : decode m_L_law.2.1 962 = .ok (.iadd, 1) := by decide +kernel
theorem d_L_law_963 : decode m_L_law.2.1 963 = .ok (.iaload, 1) := by decide +kernel
theorem d_L_law_964 : decode m_L_law.2.1 964 = .ok (.invokevirtual 111, 3) := by decide +kernel
theorem d_L_law_967 : decode m_L_law.2.1 967 = .ok (.aload_n 2, 1) := by decide +kernel
theorem d_L_law_968 : decode m_L_law.2.1 968 = .ok (.aload_n 0, 1) := by decide +kernel
theorem d_L_law_969 : decode m_L_law.2.1 969 = .ok (.iload 4, 2) := by decide +kernel
theorem d_L_law_971 : decode m_L_law.2.1 971 = .ok (.iconst 1, 1) := by decide +kernel
theorem d_L_law_972 : decode m_L_law.2.1 972 = .ok (.iadd, 1) := by decide +kernel
theorem d_L_law_973 : decode m_L_law.2.1 973 = .ok (.iaload, 1) := by decide +kernel
theorem d_L_law_974 : decode m_L_law.2.1 974 = .ok (.invokevirtual 114, 3) := by decide +kernel
theorem d_L_law_977 : decode m_L_law.2.1 977 = .ok (.if_icmp .eq 99, 3) := by decide +kernel
theorem d_L_law_980 : decode m_L_law.2.1 980 = .ok (.iconst 0, 1) := by decide +kernel
theorem d_L_law_981 : decode m_L_law.2.1 981 = .ok (.ireturn, 1) := by decide +kernel
theorem d_L_law_982 : decode m_L_law.2.1 982 = .ok (.aload_n 1, 1) := by decide +kernel
theorem d_L_law_983 : decode m_L_law.2.1 983 = .ok (.aload_n 3, 1) := by decide +kernel
theorem d_L_law_984 : decode m_L_law.2.1 984 = .ok (.invokestatic 115, 3) := by decide +kernel
theorem d_L_law_987 : decode m_L_law.2.1 987 = .ok (.istore 5, 2) := by decide +kernel
theorem d_L_law_989 : decode m_L_law.2.1 989 = .ok (.aload_n 2, 1) := by decide +kernel
theorem d_L_law_990 : decode m_L_law.2.1 990 = .ok (.invokevirtual 118, 3) := by decide +kernel
theorem d_L_law_993 : decode m_L_law.2.1 993 = .ok (.istore 6, 2) := by decide +kernel
theorem d_L_law_995 : decode m_L_law.2.1 995 = .ok (.aload_n 2, 1) := by decide +kernel
theorem d_L_law_996 : decode m_L_law.2.1 996 = .ok (.invokevirtual 63, 3) := by decide +kernel
theorem d_L_law_999 : decode m_L_law.2.1 999 = .ok (.iload 5, 2) := by decide +kernel
theorem d_L_law_1001 : decode m_L_law.2.1 1001 = .ok (.if_icmp .eq 5, 3) := by decide +kernel
theorem d_L_law_1004 : decode m_L_law.2.1 1004 = .ok (.iconst 0, 1) := by decide +kernel
theorem d_L_law_1005 : decode m_L_law.2.1 1005 = .ok (.ireturn, 1) := by decide +kernel
theorem d_L_law_1006 : decode m_L_law.2.1 1006 = .ok (.iload 5, 2) := by decide +kernel
theorem d_L_law_1008 : decode m_L_law.2.1 1008 = .ok (.ifCond .ne 15, 3) := by decide +kernel
theorem d_L_law_1011 : decode m_L_law.2.1 1011 = .ok (.aload_n 3, 1) := by decide +kernel
theorem d_L_law_1012 : decode m_L_law.2.1 1012 = .ok (.iconst 0, 1) := by decide +kernel
theorem d_L_law_1013 : decode m_L_law.2.1 1013 = .ok (.laload, 1) := by decide +kernel
theorem d_L_law_1014 : decode m_L_law.2.1 1014 = .ok (.iload 6, 2) := by decide +kernel
theorem d_L_law_1016 : decode m_L_law.2.1 1016 = .ok (.i2l, 1) := by decide +kernel
theorem d_L_law_1017 : decode m_L_law.2.1 1017 = .ok (.lcmp, 1) := by decide +kernel
theorem d_L_law_1018 : decode m_L_law.2.1 1018 = .ok (.ifCond .eq 5, 3) := by decide +kernel
theorem d_L_law_1021 : decode m_L_law.2.1 1021 = .ok (.iconst 0, 1) := by decide +kernel
theorem d_L_law_1022 : decode m_L_law.2.1 1022 = .ok (.ireturn, 1) := by decide +kernel
theorem d_L_law_1023 : decode m_L_law.2.1 1023 = .ok (.goto 53, 3) := by decide +kernel
theorem d_L_law_1026 : decode m_L_law.2.1 1026 = .ok (.aload_n 1, 1) := by decide +kernel
theorem d_L_law_1027 : decode m_L_law.2.1 1027 = .ok (.aload_n 0, 1) := by decide +kernel
theorem d_L_law_1028 : decode m_L_law.2.1 1028 = .ok (.iload 4, 2) := by decide +kernel
theorem d_L_law_1030 : decode m_L_law.2.1 1030 = .ok (.iconst 1, 1) := by decide +kernel
theorem d_L_law_1031 : decode m_L_law.2.1 1031 = .ok (.iadd, 1) := by decide +kernel
theorem d_L_law_1032 : decode m_L_law.2.1 1032 = .ok (.iaload, 1) := by decide +kernel
theorem d_L_law_1033 : decode m_L_law.2.1 1033 = .ok (.invokevirtual 119, 3) := by decide +kernel
theorem d_L_law_1036 : decode m_L_law.2.1 1036 = .ok (.aload_n 2, 1) := by decide +kernel
theorem d_L_law_1037 : decode m_L_law.2.1 1037 = .ok (.aload_n 0, 1) := by decide +kernel
theorem d_L_law_1038 : decode m_L_law.2.1 1038 = .ok (.iload 4, 2) := by decide +kernel
theorem d_L_law_1040 : decode m_L_law.2.1 1040 = .ok (.iconst 1, 1) := by decide +kernel
theorem d_L_law_1041 : decode m_L_law.2.1 1041 = .ok (.iadd, 1) := by decide +kernel
theorem d_L_law_1042 : decode m_L_law.2.1 1042 = .ok (.iaload, 1) := by decide +kernel
theorem d_L_law_1043 : decode m_L_law.2.1 1043 = .ok (.invokevirtual 122, 3) := by decide +kernel
theorem d_L_law_1046 : decode m_L_law.2.1 1046 = .ok (.if_icmp .eq 30, 3) := by decide +kernel
theorem d_L_law_1049 : decode m_L_law.2.1 1049 = .ok (.iconst 0, 1) := by decide +kernel
theorem d_L_law_1050 : decode m_L_law.2.1 1050 = .ok (.ireturn, 1) := by decide +kernel
theorem d_L_law_1051 : decode m_L_law.2.1 1051 = .ok (.aload_n 1, 1) := by decide +kernel
theorem d_L_law_1052 : decode m_L_law.2.1 1052 = .ok (.aload_n 0, 1) := by decide +kernel
theorem d_L_law_1053 : decode m_L_law.2.1 1053 = .ok (.iload 4, 2) := by decide +kernel
theorem d_L_law_1055 : decode m_L_law.2.1 1055 = .ok (.iconst 1, 1) := by decide +kernel
theorem d_L_law_1056 : decode m_L_law.2.1 1056 = .ok (.iadd, 1) := by decide +kernel
theorem d_L_law_1057 : decode m_L_law.2.1 1057 = .ok (.iaload, 1) := by decide +kernel
theorem d_L_law_1058 : decode m_L_law.2.1 1058 = .ok (.invokevirtual 123, 3) := by decide +kernel
theorem d_L_law_1061 : decode m_L_law.2.1 1061 = .ok (.aload_n 2, 1) := by decide +kernel
theorem d_L_law_1062 : decode m_L_law.2.1 1062 = .ok (.aload_n 0, 1) := by decide +kernel
theorem d_L_law_1063 : decode m_L_law.2.1 1063 = .ok (.iload 4, 2) := by decide +kernel
theorem d_L_law_1065 : decode m_L_law.2.1 1065 = .ok (.iconst 1, 1) := by decide +kernel
theorem d_L_law_1066 : decode m_L_law.2.1 1066 = .ok (.iadd, 1) := by decide +kernel
theorem d_L_law_1067 : decode m_L_law.2.1 1067 = .ok (.iaload, 1) := by decide +kernel
theorem d_L_law_1068 : decode m_L_law.2.1 1068 = .ok (.invokevirtual 126, 3) := by decide +kernel
theorem d_L_law_1071 : decode m_L_law.2.1 1071 = .ok (.if_icmp .eq 5, 3) := by decide +kernel
theorem d_L_law_1074 : decode m_L_law.2.1 1074 = .ok (.iconst 0, 1) := by decide +kernel
theorem d_L_law_1075 : decode m_L_law.2.1 1075 = .ok (.ireturn, 1) := by decide +kernel
theorem d_L_law_1076 : decode m_L_law.2.1 1076 = .ok (.iinc 4 6, 3) := by decide +kernel
theorem d_L_law_1079 : decode m_L_law.2.1 1079 = .ok (.goto (-1056), 3) := by decide +kernel
theorem d_L_law_1082 : decode m_L_law.2.1 1082 = .ok (.iconst 1, 1) := by decide +kernel
theorem d_L_law_1083 : decode m_L_law.2.1 1083 = .ok (.ireturn, 1) := by decide +kernel
