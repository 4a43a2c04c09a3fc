def c_L_law : ByteArray := code
def m_L_law : MI := (x, c_L_law, 8, ret, room_1, none)
theorem d_L_law_0 : decode c_L_law 0 = .ok (.new 8, 3) := by decide +kernel
theorem d_L_law_3 : decode c_L_law 3 = .ok (.dup, 1) := by decide +kernel
theorem d_L_law_4 : decode c_L_law 4 = .ok (.invokespecial 59, 3) := by decide +kernel
theorem d_L_law_7 : decode c_L_law 7 = .ok (.astore_n 1, 1) := by decide +kernel
theorem d_L_law_8 : decode c_L_law 8 = .ok (.new 60, 3) := by decide +kernel
theorem d_L_law_11 : decode c_L_law 11 = .ok (.dup, 1) := by decide +kernel
theorem d_L_law_12 : decode c_L_law 12 = .ok (.invokespecial 62, 3) := by decide +kernel
theorem d_L_law_15 : decode c_L_law 15 = .ok (.astore_n 2, 1) := by decide +kernel
theorem d_L_law_16 : decode c_L_law 16 = .ok (.iconst 1, 1) := by decide +kernel
theorem d_L_law_17 : decode c_L_law 17 = .ok (.newarray .long, 2) := by decide +kernel
theorem d_L_law_19 : decode c_L_law 19 = .ok (.astore_n 3, 1) := by decide +kernel
theorem d_L_law_20 : decode c_L_law 20 = .ok (.iconst 0, 1) := by decide +kernel
theorem d_L_law_21 : decode c_L_law 21 = .ok (.istore 4, 2) := by decide +kernel
theorem d_L_law_23 : decode c_L_law 23 = .ok (.iload 4, 2) := by decide +kernel
theorem d_L_law_25 : decode c_L_law 25 = .ok (.aload_n 0, 1) := by decide +kernel
theorem d_L_law_26 : decode c_L_law 26 = .ok (.arraylength, 1) := by decide +kernel
theorem d_L_law_27 : decode c_L_law 27 = .ok (.bipush 7, 2) := by decide +kernel
theorem d_L_law_29 : decode c_L_law 29 = .ok (.isub, 1) := by decide +kernel
theorem d_L_law_30 : decode c_L_law 30 = .ok (.if_icmp .gt 1063, 3) := by decide +kernel
theorem d_L_law_33 : decode c_L_law 33 = .ok (.aload_n 0, 1) := by decide +kernel
theorem d_L_law_34 : decode c_L_law 34 = .ok (.iload 4, 2) := by decide +kernel
theorem d_L_law_36 : decode c_L_law 36 = .ok (.iaload, 1) := by decide +kernel
theorem d_L_law_37 : decode c_L_law 37 = .ok (.bipush 15, 2) := by decide +kernel
theorem d_L_law_39 : decode c_L_law 39 = .ok (.iand, 1) := by decide +kernel
theorem d_L_law_112 : decode c_L_law 112 = .ok (.aload_n 1, 1) := by decide +kernel
theorem d_L_law_113 : decode c_L_law 113 = .ok (.aload_n 0, 1) := by decide +kernel
theorem d_L_law_114 : decode c_L_law 114 = .ok (.iload 4, 2) := by decide +kernel
theorem d_L_law_116 : decode c_L_law 116 = .ok (.iconst 1, 1) := by decide +kernel
theorem d_L_law_117 : decode c_L_law 117 = .ok (.iadd, 1) := by decide +kernel
theorem d_L_law_118 : decode c_L_law 118 = .ok (.iaload, 1) := by decide +kernel
theorem d_L_law_119 : decode c_L_law 119 = .ok (.aload_n 0, 1) := by decide +kernel
theorem d_L_law_120 : decode c_L_law 120 = .ok (.iload 4, 2) := by decide +kernel
theorem d_L_law_122 : decode c_L_law 122 = .ok (.iconst 2, 1) := by decide +kernel
theorem d_L_law_123 : decode c_L_law 123 = .ok (.iadd, 1) := by decide +kernel
theorem d_L_law_124 : decode c_L_law 124 = .ok (.iaload, 1) := by decide +kernel
theorem d_L_law_125 : decode c_L_law 125 = .ok (.aload_n 0, 1) := by decide +kernel
theorem d_L_law_126 : decode c_L_law 126 = .ok (.iload 4, 2) := by decide +kernel
theorem d_L_law_128 : decode c_L_law 128 = .ok (.iconst 3, 1) := by decide +kernel
theorem d_L_law_129 : decode c_L_law 129 = .ok (.iadd, 1) := by decide +kernel
theorem d_L_law_130 : decode c_L_law 130 = .ok (.iaload, 1) := by decide +kernel
theorem d_L_law_131 : decode c_L_law 131 = .ok (.aload_n 0, 1) := by decide +kernel
theorem d_L_law_132 : decode c_L_law 132 = .ok (.iload 4, 2) := by decide +kernel
theorem d_L_law_134 : decode c_L_law 134 = .ok (.iconst 4, 1) := by decide +kernel
theorem d_L_law_135 : decode c_L_law 135 = .ok (.iadd, 1) := by decide +kernel
theorem d_L_law_136 : decode c_L_law 136 = .ok (.iaload, 1) := by decide +kernel
theorem d_L_law_137 : decode c_L_law 137 = .ok (.aload_n 0, 1) := by decide +kernel
theorem d_L_law_138 : decode c_L_law 138 = .ok (.iload 4, 2) := by decide +kernel
theorem d_L_law_140 : decode c_L_law 140 = .ok (.iconst 5, 1) := by decide +kernel
theorem d_L_law_141 : decode c_L_law 141 = .ok (.iadd, 1) := by decide +kernel
theorem d_L_law_142 : decode c_L_law 142 = .ok (.iaload, 1) := by decide +kernel
theorem d_L_law_143 : decode c_L_law 143 = .ok (.i2l, 1) := by decide +kernel
theorem d_L_law_144 : decode c_L_law 144 = .ok (.bipush 32, 2) := by decide +kernel
theorem d_L_law_146 : decode c_L_law 146 = .ok (.lshl, 1) := by decide +kernel
theorem d_L_law_147 : decode c_L_law 147 = .ok (.aload_n 0, 1) := by decide +kernel
theorem d_L_law_148 : decode c_L_law 148 = .ok (.iload 4, 2) := by decide +kernel
theorem d_L_law_150 : decode c_L_law 150 = .ok (.bipush 6, 2) := by decide +kernel
theorem d_L_law_152 : decode c_L_law 152 = .ok (.iadd, 1) := by decide +kernel
theorem d_L_law_153 : decode c_L_law 153 = .ok (.iaload, 1) := by decide +kernel
theorem d_L_law_154 : decode c_L_law 154 = .ok (.i2l, 1) := by decide +kernel
theorem d_L_law_155 : decode c_L_law 155 = .ok (.ldc2_w 63, 3) := by decide +kernel
theorem d_L_law_158 : decode c_L_law 158 = .ok (.land, 1) := by decide +kernel
theorem d_L_law_159 : decode c_L_law 159 = .ok (.lor, 1) := by decide +kernel
theorem d_L_law_160 : decode c_L_law 160 = .ok (.aload_n 3, 1) := by decide +kernel
theorem d_L_law_161 : decode c_L_law 161 = .ok (.invokestatic 65, 3) := by decide +kernel
theorem d_L_law_164 : decode c_L_law 164 = .ok (.istore 5, 2) := by decide +kernel
theorem d_L_law_166 : decode c_L_law 166 = .ok (.aload_n 2, 1) := by decide +kernel
theorem d_L_law_167 : decode c_L_law 167 = .ok (.aload_n 0, 1) := by decide +kernel
theorem d_L_law_168 : decode c_L_law 168 = .ok (.iload 4, 2) := by decide +kernel
theorem d_L_law_170 : decode c_L_law 170 = .ok (.iconst 1, 1) := by decide +kernel
theorem d_L_law_171 : decode c_L_law 171 = .ok (.iadd, 1) := by decide +kernel
theorem d_L_law_172 : decode c_L_law 172 = .ok (.iaload, 1) := by decide +kernel
theorem d_L_law_173 : decode c_L_law 173 = .ok (.aload_n 0, 1) := by decide +kernel
theorem d_L_law_174 : decode c_L_law 174 = .ok (.iload 4, 2) := by decide +kernel
theorem d_L_law_176 : decode c_L_law 176 = .ok (.iconst 2, 1) := by decide +kernel
theorem d_L_law_177 : decode c_L_law 177 = .ok (.iadd, 1) := by decide +kernel
theorem d_L_law_178 : decode c_L_law 178 = .ok (.iaload, 1) := by decide +kernel
theorem d_L_law_179 : decode c_L_law 179 = .ok (.aload_n 0, 1) := by decide +kernel
theorem d_L_law_180 : decode c_L_law 180 = .ok (.iload 4, 2) := by decide +kernel
theorem d_L_law_182 : decode c_L_law 182 = .ok (.iconst 3, 1) := by decide +kernel
theorem d_L_law_183 : decode c_L_law 183 = .ok (.iadd, 1) := by decide +kernel
theorem d_L_law_184 : decode c_L_law 184 = .ok (.iaload, 1) := by decide +kernel
theorem d_L_law_185 : decode c_L_law 185 = .ok (.aload_n 0, 1) := by decide +kernel
theorem d_L_law_186 : decode c_L_law 186 = .ok (.iload 4, 2) := by decide +kernel
theorem d_L_law_188 : decode c_L_law 188 = .ok (.iconst 4, 1) := by decide +kernel
theorem d_L_law_189 : decode c_L_law 189 = .ok (.iadd, 1) := by decide +kernel
theorem d_L_law_190 : decode c_L_law 190 = .ok (.iaload, 1) := by decide +kernel
theorem d_L_law_191 : decode c_L_law 191 = .ok (.aload_n 0, 1) := by decide +kernel
theorem d_L_law_192 : decode c_L_law 192 = .ok (.iload 4, 2) := by decide +kernel
theorem d_L_law_194 : decode c_L_law 194 = .ok (.iconst 5, 1) := by decide +kernel
theorem d_L_law_195 : decode c_L_law 195 = .ok (.iadd, 1) := by decide +kernel
theorem d_L_law_196 : decode c_L_law 196 = .ok (.iaload, 1) := by decide +kernel
theorem d_L_law_197 : decode c_L_law 197 = .ok (.i2l, 1) := by decide +kernel
theorem d_L_law_198 : decode c_L_law 198 = .ok (.bipush 32, 2) := by decide +kernel
theorem d_L_law_200 : decode c_L_law 200 = .ok (.lshl, 1) := by decide +kernel
theorem d_L_law_201 : decode c_L_law 201 = .ok (.aload_n 0, 1) := by decide +kernel
theorem d_L_law_202 : decode c_L_law 202 = .ok (.iload 4, 2) := by decide +kernel
theorem d_L_law_204 : decode c_L_law 204 = .ok (.bipush 6, 2) := by decide +kernel
theorem d_L_law_206 : decode c_L_law 206 = .ok (.iadd, 1) := by decide +kernel
theorem d_L_law_207 : decode c_L_law 207 = .ok (.iaload, 1) := by decide +kernel
theorem d_L_law_208 : decode c_L_law 208 = .ok (.i2l, 1) := by decide +kernel
theorem d_L_law_209 : decode c_L_law 209 = .ok (.ldc2_w 63, 3) := by decide +kernel
theorem d_L_law_212 : decode c_L_law 212 = .ok (.land, 1) := by decide +kernel
theorem d_L_law_213 : decode c_L_law 213 = .ok (.lor, 1) := by decide +kernel
theorem d_L_law_214 : decode c_L_law 214 = .ok (.invokevirtual 70, 3) := by decide +kernel
theorem d_L_law_217 : decode c_L_law 217 = .ok (.istore 6, 2) := by decide +kernel
theorem d_L_law_219 : decode c_L_law 219 = .ok (.aload_n 2, 1) := by decide +kernel
theorem d_L_law_220 : decode c_L_law 220 = .ok (.invokevirtual 71, 3) := by decide +kernel
theorem d_L_law_223 : decode c_L_law 223 = .ok (.iload 5, 2) := by decide +kernel
theorem d_L_law_225 : decode c_L_law 225 = .ok (.if_icmp .eq 5, 3) := by decide +kernel
theorem d_L_law_228 : decode c_L_law 228 = .ok (.iconst 0, 1) := by decide +kernel
theorem d_L_law_229 : decode c_L_law 229 = .ok (.ireturn, 1) := by decide +kernel
theorem d_L_law_230 : decode c_L_law 230 = .ok (.iload 5, 2) := by decide +kernel
theorem d_L_law_232 : decode c_L_law 232 = .ok (.ifCond .ne 15, 3) := by decide +kernel
theorem d_L_law_235 : decode c_L_law 235 = .ok (.aload_n 3, 1) := by decide +kernel
theorem d_L_law_236 : decode c_L_law 236 = .ok (.iconst 0, 1) := by decide +kernel
theorem d_L_law_237 : decode c_L_law 237 = .ok (.laload, 1) := by decide +kernel
theorem d_L_law_238 : decode c_L_law 238 = .ok (.iload 6, 2) := by decide +kernel
theorem d_L_law_240 : decode c_L_law 240 = .ok (.i2l, 1) := by decide +kernel
theorem d_L_law_241 : decode c_L_law 241 = .ok (.lcmp, 1) := by decide +kernel
theorem d_L_law_242 : decode c_L_law 242 = .ok (.ifCond .eq 5, 3) := by decide +kernel
theorem d_L_law_245 : decode c_L_law 245 = .ok (.iconst 0, 1) := by decide +kernel
theorem d_L_law_246 : decode c_L_law 246 = .ok (.ireturn, 1) := by decide +kernel
theorem d_L_law_247 : decode c_L_law 247 = .ok (.goto 840, 3) := by decide +kernel
theorem d_L_law_250 : decode c_L_law 250 = .ok (.aload_n 1, 1) := by decide +kernel
theorem d_L_law_251 : decode c_L_law 251 = .ok (.aload_n 0, 1) := by decide +kernel
theorem d_L_law_252 : decode c_L_law 252 = .ok (.iload 4, 2) := by decide +kernel
theorem d_L_law_254 : decode c_L_law 254 = .ok (.iconst 1, 1) := by decide +kernel
theorem d_L_law_255 : decode c_L_law 255 = .ok (.iadd, 1) := by decide +kernel
theorem d_L_law_256 : decode c_L_law 256 = .ok (.iaload, 1) := by decide +kernel
theorem d_L_law_257 : decode c_L_law 257 = .ok (.aload_n 0, 1) := by decide +kernel
theorem d_L_law_258 : decode c_L_law 258 = .ok (.iload 4, 2) := by decide +kernel
theorem d_L_law_260 : decode c_L_law 260 = .ok (.iconst 2, 1) := by decide +kernel
theorem d_L_law_261 : decode c_L_law 261 = .ok (.iadd, 1) := by decide +kernel
theorem d_L_law_262 : decode c_L_law 262 = .ok (.iaload, 1) := by decide +kernel
theorem d_L_law_263 : decode c_L_law 263 = .ok (.aload_n 0, 1) := by decide +kernel
theorem d_L_law_264 : decode c_L_law 264 = .ok (.iload 4, 2) := by decide +kernel
theorem d_L_law_266 : decode c_L_law 266 = .ok (.iconst 3, 1) := by decide +kernel
theorem d_L_law_267 : decode c_L_law 267 = .ok (.iadd, 1) := by decide +kernel
theorem d_L_law_268 : decode c_L_law 268 = .ok (.iaload, 1) := by decide +kernel
theorem d_L_law_269 : decode c_L_law 269 = .ok (.aload_n 0, 1) := by decide +kernel
theorem d_L_law_270 : decode c_L_law 270 = .ok (.iload 4, 2) := by decide +kernel
theorem d_L_law_272 : decode c_L_law 272 = .ok (.iconst 4, 1) := by decide +kernel
theorem d_L_law_273 : decode c_L_law 273 = .ok (.iadd, 1) := by decide +kernel
theorem d_L_law_274 : decode c_L_law 274 = .ok (.iaload, 1) := by decide +kernel
theorem d_L_law_275 : decode c_L_law 275 = .ok (.aload_n 0, 1) := by decide +kernel
theorem d_L_law_276 : decode c_L_law 276 = .ok (.iload 4, 2) := by decide +kernel
theorem d_L_law_278 : decode c_L_law 278 = .ok (.iconst 5, 1) := by decide +kernel
theorem d_L_law_279 : decode c_L_law 279 = .ok (.iadd, 1) := by decide +kernel
theorem d_L_law_280 : decode c_L_law 280 = .ok (.iaload, 1) := by decide +kernel
theorem d_L_law_281 : decode c_L_law 281 = .ok (.aload_n 0, 1) := by decide +kernel
theorem d_L_law_282 : decode c_L_law 282 = .ok (.iload 4, 2) := by decide +kernel
theorem d_L_law_284 : decode c_L_law 284 = .ok (.bipush 6, 2) := by decide +kernel
theorem d_L_law_286 : decode c_L_law 286 = .ok (.iadd, 1) := by decide +kernel
theorem d_L_law_287 : decode c_L_law 287 = .ok (.iaload, 1) := by decide +kernel
theorem d_L_law_288 : decode c_L_law 288 = .ok (.aload_n 3, 1) := by decide +kernel
theorem d_L_law_289 : decode c_L_law 289 = .ok (.invokestatic 75, 3) := by decide +kernel
theorem d_L_law_292 : decode c_L_law 292 = .ok (.istore 5, 2) := by decide +kernel
theorem d_L_law_294 : decode c_L_law 294 = .ok (.aload_n 2, 1) := by decide +kernel
theorem d_L_law_295 : decode c_L_law 295 = .ok (.aload_n 0, 1) := by decide +kernel
theorem d_L_law_296 : decode c_L_law 296 = .ok (.iload 4, 2) := by decide +kernel
theorem d_L_law_298 : decode c_L_law 298 = .ok (.iconst 1, 1) := by decide +kernel
theorem d_L_law_299 : decode c_L_law 299 = .ok (.iadd, 1) := by decide +kernel
theorem d_L_law_300 : decode c_L_law 300 = .ok (.iaload, 1) := by decide +kernel
theorem d_L_law_301 : decode c_L_law 301 = .ok (.aload_n 0, 1) := by decide +kernel
theorem d_L_law_302 : decode c_L_law 302 = .ok (.iload 4, 2) := by decide +kernel
theorem d_L_law_304 : decode c_L_law 304 = .ok (.iconst 2, 1) := by decide +kernel
theorem d_L_law_305 : decode c_L_law 305 = .ok (.iadd, 1) := by decide +kernel
theorem d_L_law_306 : decode c_L_law 306 = .ok (.iaload, 1) := by decide +kernel
theorem d_L_law_307 : decode c_L_law 307 = .ok (.aload_n 0, 1) := by decide +kernel
theorem d_L_law_308 : decode c_L_law 308 = .ok (.iload 4, 2) := by decide +kernel
theorem d_L_law_310 : decode c_L_law 310 = .ok (.iconst 3, 1) := by decide +kernel
theorem d_L_law_311 : decode c_L_law 311 = .ok (.iadd, 1) := by decide +kernel
theorem d_L_law_312 : decode c_L_law 312 = .ok (.iaload, 1) := by decide +kernel
theorem d_L_law_313 : decode c_L_law 313 = .ok (.aload_n 0, 1) := by decide +kernel
theorem d_L_law_314 : decode c_L_law 314 = .ok (.iload 4, 2) := by decide +kernel
theorem d_L_law_316 : decode c_L_law 316 = .ok (.iconst 4, 1) := by decide +kernel
theorem d_L_law_317 : decode c_L_law 317 = .ok (.iadd, 1) := by decide +kernel
theorem d_L_law_318 : decode c_L_law 318 = .ok (.iaload, 1) := by decide +kernel
theorem d_L_law_319 : decode c_L_law 319 = .ok (.aload_n 0, 1) := by decide +kernel
theorem d_L_law_320 : decode c_L_law 320 = .ok (.iload 4, 2) := by decide +kernel
theorem d_L_law_322 : decode c_L_law 322 = .ok (.iconst 5, 1) := by decide +kernel
theorem d_L_law_323 : decode c_L_law 323 = .ok (.iadd, 1) := by decide +kernel
theorem d_L_law_324 : decode c_L_law 324 = .ok (.iaload, 1) := by decide +kernel
theorem d_L_law_325 : decode c_L_law 325 = .ok (.aload_n 0, 1) := by decide +kernel
theorem d_L_law_326 : decode c_L_law 326 = .ok (.iload 4, 2) := by decide +kernel
theorem d_L_law_328 : decode c_L_law 328 = .ok (.bipush 6, 2) := by decide +kernel
theorem d_L_law_330 : decode c_L_law 330 = .ok (.iadd, 1) := by decide +kernel
theorem d_L_law_331 : decode c_L_law 331 = .ok (.iaload, 1) := by decide +kernel
theorem d_L_law_332 : decode c_L_law 332 = .ok (.invokevirtual 78, 3) := by decide +kernel
theorem d_L_law_335 : decode c_L_law 335 = .ok (.istore 6, 2) := by decide +kernel
theorem d_L_law_337 : decode c_L_law 337 = .ok (.aload_n 2, 1) := by decide +kernel
theorem d_L_law_338 : decode c_L_law 338 = .ok (.invokevirtual 71, 3) := by decide +kernel
theorem d_L_law_341 : decode c_L_law 341 = .ok (.iload 5, 2) := by decide +kernel
theorem d_L_law_343 : decode c_L_law 343 = .ok (.if_icmp .eq 5, 3) := by decide +kernel
theorem d_L_law_346 : decode c_L_law 346 = .ok (.iconst 0, 1) := by decide +kernel
theorem d_L_law_347 : decode c_L_law 347 = .ok (.ireturn, 1) := by decide +kernel
theorem d_L_law_348 : decode c_L_law 348 = .ok (.iload 5, 2) := by decide +kernel
theorem d_L_law_350 : decode c_L_law 350 = .ok (.ifCond .ne 15, 3) := by decide +kernel
theorem d_L_law_353 : decode c_L_law 353 = .ok (.aload_n 3, 1) := by decide +kernel
theorem d_L_law_354 : decode c_L_law 354 = .ok (.iconst 0, 1) := by decide +kernel
theorem d_L_law_355 : decode c_L_law 355 = .ok (.laload, 1) := by decide +kernel
theorem d_L_law_356 : decode c_L_law 356 = .ok (.iload 6, 2) := by decide +kernel
theorem d_L_law_358 : decode c_L_law 358 = .ok (.i2l, 1) := by decide +kernel
theorem d_L_law_359 : decode c_L_law 359 = .ok (.lcmp, 1) := by decide +kernel
theorem d_L_law_360 : decode c_L_law 360 = .ok (.ifCond .eq 5, 3) := by decide +kernel
theorem d_L_law_363 : decode c_L_law 363 = .ok (.iconst 0, 1) := by decide +kernel
theorem d_L_law_364 : decode c_L_law 364 = .ok (.ireturn, 1) := by decide +kernel
theorem d_L_law_365 : decode c_L_law 365 = .ok (.goto 722, 3) := by decide +kernel
theorem d_L_law_368 : decode c_L_law 368 = .ok (.aload_n 1, 1) := by decide +kernel
theorem d_L_law_369 : decode c_L_law 369 = .ok (.aload_n 0, 1) := by decide +kernel
theorem d_L_law_370 : decode c_L_law 370 = .ok (.iload 4, 2) := by decide +kernel
theorem d_L_law_372 : decode c_L_law 372 = .ok (.iconst 1, 1) := by decide +kernel
theorem d_L_law_373 : decode c_L_law 373 = .ok (.iadd, 1) := by decide +kernel
theorem d_L_law_374 : decode c_L_law 374 = .ok (.iaload, 1) := by decide +kernel
theorem d_L_law_375 : decode c_L_law 375 = .ok (.aload_n 0, 1) := by decide +kernel
theorem d_L_law_376 : decode c_L_law 376 = .ok (.iload 4, 2) := by decide +kernel
theorem d_L_law_378 : decode c_L_law 378 = .ok (.iconst 2, 1) := by decide +kernel
theorem d_L_law_379 : decode c_L_law 379 = .ok (.iadd, 1) := by decide +kernel
theorem d_L_law_380 : decode c_L_law 380 = .ok (.iaload, 1) := by decide +kernel
theorem d_L_law_381 : decode c_L_law 381 = .ok (.ifCond .eq 7, 3) := by decide +kernel
theorem d_L_law_384 : decode c_L_law 384 = .ok (.iconst 1, 1) := by decide +kernel
theorem d_L_law_385 : decode c_L_law 385 = .ok (.goto 4, 3) := by decide +kernel
theorem d_L_law_388 : decode c_L_law 388 = .ok (.iconst 0, 1) := by decide +kernel
theorem d_L_law_389 : decode c_L_law 389 = .ok (.invokestatic 79, 3) := by decide +kernel
theorem d_L_law_392 : decode c_L_law 392 = .ok (.istore 5, 2) := by decide +kernel
theorem d_L_law_394 : decode c_L_law 394 = .ok (.aload_n 2, 1) := by decide +kernel
theorem d_L_law_395 : decode c_L_law 395 = .ok (.aload_n 0, 1) := by decide +kernel
theorem d_L_law_396 : decode c_L_law 396 = .ok (.iload 4, 2) := by decide +kernel
theorem d_L_law_398 : decode c_L_law 398 = .ok (.iconst 1, 1) := by decide +kernel
theorem d_L_law_399 : decode c_L_law 399 = .ok (.iadd, 1) := by decide +kernel
theorem d_L_law_400 : decode c_L_law 400 = .ok (.iaload, 1) := by decide +kernel
theorem d_L_law_401 : decode c_L_law 401 = .ok (.aload_n 0, 1) := by decide +kernel
theorem d_L_law_402 : decode c_L_law 402 = .ok (.iload 4, 2) := by decide +kernel
theorem d_L_law_404 : decode c_L_law 404 = .ok (.iconst 2, 1) := by decide +kernel
theorem d_L_law_405 : decode c_L_law 405 = .ok (.iadd, 1) := by decide +kernel
theorem d_L_law_406 : decode c_L_law 406 = .ok (.iaload, 1) := by decide +kernel
theorem d_L_law_407 : decode c_L_law 407 = .ok (.ifCond .eq 7, 3) := by decide +kernel
theorem d_L_law_410 : decode c_L_law 410 = .ok (.iconst 1, 1) := by decide +kernel
theorem d_L_law_411 : decode c_L_law 411 = .ok (.goto 4, 3) := by decide +kernel
theorem d_L_law_414 : decode c_L_law 414 = .ok (.iconst 0, 1) := by decide +kernel
theorem d_L_law_415 : decode c_L_law 415 = .ok (.invokevirtual 82, 3) := by decide +kernel
theorem d_L_law_418 : decode c_L_law 418 = .ok (.aload_n 2, 1) := by decide +kernel
theorem d_L_law_419 : decode c_L_law 419 = .ok (.invokevirtual 71, 3) := by decide +kernel
theorem d_L_law_422 : decode c_L_law 422 = .ok (.iload 5, 2) := by decide +kernel
theorem d_L_law_424 : decode c_L_law 424 = .ok (.if_icmp .eq 5, 3) := by decide +kernel
theorem d_L_law_427 : decode c_L_law 427 = .ok (.iconst 0, 1) := by decide +kernel
theorem d_L_law_428 : decode c_L_law 428 = .ok (.ireturn, 1) := by decide +kernel
theorem d_L_law_429 : decode c_L_law 429 = .ok (.goto 658, 3) := by decide +kernel
theorem d_L_law_432 : decode c_L_law 432 = .ok (.aload_n 1, 1) := by decide +kernel
theorem d_L_law_433 : decode c_L_law 433 = .ok (.aload_n 0, 1) := by decide +kernel
theorem d_L_law_434 : decode c_L_law 434 = .ok (.iload 4, 2) := by decide +kernel
theorem d_L_law_436 : decode c_L_law 436 = .ok (.iconst 1, 1) := by decide +kernel
theorem d_L_law_437 : decode c_L_law 437 = .ok (.iadd, 1) := by decide +kernel
theorem d_L_law_438 : decode c_L_law 438 = .ok (.iaload, 1) := by decide +kernel
theorem d_L_law_439 : decode c_L_law 439 = .ok (.aload_n 0, 1) := by decide +kernel
theorem d_L_law_440 : decode c_L_law 440 = .ok (.iload 4, 2) := by decide +kernel
theorem d_L_law_442 : decode c_L_law 442 = .ok (.iconst 2, 1) := by decide +kernel
theorem d_L_law_443 : decode c_L_law 443 = .ok (.iadd, 1) := by decide +kernel
theorem d_L_law_444 : decode c_L_law 444 = .ok (.iaload, 1) := by decide +kernel
theorem d_L_law_445 : decode c_L_law 445 = .ok (.invokestatic 83, 3) := by decide +kernel
theorem d_L_law_448 : decode c_L_law 448 = .ok (.istore 5, 2) := by decide +kernel
theorem d_L_law_450 : decode c_L_law 450 = .ok (.aload_n 2, 1) := by decide +kernel
theorem d_L_law_451 : decode c_L_law 451 = .ok (.aload_n 0, 1) := by decide +kernel
theorem d_L_law_452 : decode c_L_law 452 = .ok (.iload 4, 2) := by decide +kernel
theorem d_L_law_454 : decode c_L_law 454 = .ok (.iconst 1, 1) := by decide +kernel
theorem d_L_law_455 : decode c_L_law 455 = .ok (.iadd, 1) := by decide +kernel
theorem d_L_law_456 : decode c_L_law 456 = .ok (.iaload, 1) := by decide +kernel
theorem d_L_law_457 : decode c_L_law 457 = .ok (.aload_n 0, 1) := by decide +kernel
theorem d_L_law_458 : decode c_L_law 458 = .ok (.iload 4, 2) := by decide +kernel
theorem d_L_law_460 : decode c_L_law 460 = .ok (.iconst 2, 1) := by decide +kernel
theorem d_L_law_461 : decode c_L_law 461 = .ok (.iadd, 1) := by decide +kernel
theorem d_L_law_462 : decode c_L_law 462 = .ok (.iaload, 1) := by decide +kernel
theorem d_L_law_463 : decode c_L_law 463 = .ok (.invokevirtual 86, 3) := by decide +kernel
theorem d_L_law_466 : decode c_L_law 466 = .ok (.aload_n 2, 1) := by decide +kernel
theorem d_L_law_467 : decode c_L_law 467 = .ok (.invokevirtual 71, 3) := by decide +kernel
theorem d_L_law_470 : decode c_L_law 470 = .ok (.iload 5, 2) := by decide +kernel
theorem d_L_law_472 : decode c_L_law 472 = .ok (.if_icmp .eq 5, 3) := by decide +kernel
theorem d_L_law_475 : decode c_L_law 475 = .ok (.iconst 0, 1) := by decide +kernel
theorem d_L_law_476 : decode c_L_law 476 = .ok (.ireturn, 1) := by decide +kernel
theorem d_L_law_477 : decode c_L_law 477 = .ok (.goto 610, 3) := by decide +kernel
theorem d_L_law_480 : decode c_L_law 480 = .ok (.aload_n 1, 1) := by decide +kernel
theorem d_L_law_481 : decode c_L_law 481 = .ok (.aload_n 0, 1) := by decide +kernel
theorem d_L_law_482 : decode c_L_law 482 = .ok (.iload 4, 2) := by decide +kernel
theorem d_L_law_484 : decode c_L_law 484 = .ok (.iconst 1, 1) := by decide +kernel
theorem d_L_law_485 : decode c_L_law 485 = .ok (.iadd, 1) := by decide +kernel
theorem d_L_law_486 : decode c_L_law 486 = .ok (.iaload, 1) := by decide +kernel
theorem d_L_law_487 : decode c_L_law 487 = .ok (.aload_n 3, 1) := by decide +kernel
theorem d_L_law_488 : decode c_L_law 488 = .ok (.invokestatic 87, 3) := by decide +kernel
theorem d_L_law_491 : decode c_L_law 491 = .ok (.istore 5, 2) := by decide +kernel
theorem d_L_law_493 : decode c_L_law 493 = .ok (.aload_n 2, 1) := by decide +kernel
theorem d_L_law_494 : decode c_L_law 494 = .ok (.aload_n 0, 1) := by decide +kernel
theorem d_L_law_495 : decode c_L_law 495 = .ok (.iload 4, 2) := by decide +kernel
theorem d_L_law_497 : decode c_L_law 497 = .ok (.iconst 1, 1) := by decide +kernel
theorem d_L_law_498 : decode c_L_law 498 = .ok (.iadd, 1) := by decide +kernel
theorem d_L_law_499 : decode c_L_law 499 = .ok (.iaload, 1) := by decide +kernel
theorem d_L_law_500 : decode c_L_law 500 = .ok (.invokevirtual 90, 3) := by decide +kernel
theorem d_L_law_503 : decode c_L_law 503 = .ok (.istore 6, 2) := by decide +kernel
theorem d_L_law_505 : decode c_L_law 505 = .ok (.aload_n 2, 1) := by decide +kernel
theorem d_L_law_506 : decode c_L_law 506 = .ok (.invokevirtual 71, 3) := by decide +kernel
theorem d_L_law_509 : decode c_L_law 509 = .ok (.iload 5, 2) := by decide +kernel
theorem d_L_law_511 : decode c_L_law 511 = .ok (.if_icmp .eq 5, 3) := by decide +kernel
theorem d_L_law_514 : decode c_L_law 514 = .ok (.iconst 0, 1) := by decide +kernel
theorem d_L_law_515 : decode c_L_law 515 = .ok (.ireturn, 1) := by decide +kernel
theorem d_L_law_516 : decode c_L_law 516 = .ok (.iload 5, 2) := by decide +kernel
theorem d_L_law_518 : decode c_L_law 518 = .ok (.ifCond .ne 15, 3) := by decide +kernel
theorem d_L_law_521 : decode c_L_law 521 = .ok (.aload_n 3, 1) := by decide +kernel
theorem d_L_law_522 : decode c_L_law 522 = .ok (.iconst 0, 1) := by decide +kernel
theorem d_L_law_523 : decode c_L_law 523 = .ok (.laload, 1) := by decide +kernel
theorem d_L_law_524 : decode c_L_law 524 = .ok (.iload 6, 2) := by decide +kernel
theorem d_L_law_526 : decode c_L_law 526 = .ok (.i2l, 1) := by decide +kernel
theorem d_L_law_527 : decode c_L_law 527 = .ok (.lcmp, 1) := by decide +kernel
theorem d_L_law_528 : decode c_L_law 528 = .ok (.ifCond .eq 5, 3) := by decide +kernel
theorem d_L_law_531 : decode c_L_law 531 = .ok (.iconst 0, 1) := by decide +kernel
theorem d_L_law_532 : decode c_L_law 532 = .ok (.ireturn, 1) := by decide +kernel
theorem d_L_law_533 : decode c_L_law 533 = .ok (.goto 554, 3) := by decide +kernel
theorem d_L_law_536 : decode c_L_law 536 = .ok (.aload_n 1, 1) := by decide +kernel
theorem d_L_law_537 : decode c_L_law 537 = .ok (.invokevirtual 91, 3) := by decide +kernel
theorem d_L_law_540 : decode c_L_law 540 = .ok (.aload_n 2, 1) := by decide +kernel
theorem d_L_law_541 : decode c_L_law 541 = .ok (.invokevirtual 94, 3) := by decide +kernel
theorem d_L_law_544 : decode c_L_law 544 = .ok (.if_icmp .eq 543, 3) := by decide +kernel
theorem d_L_law_547 : decode c_L_law 547 = .ok (.iconst 0, 1) := by decide +kernel
theorem d_L_law_548 : decode c_L_law 548 = .ok (.ireturn, 1) := by decide +kernel
theorem d_L_law_549 : decode c_L_law 549 = .ok (.aload_n 1, 1) := by decide +kernel
theorem d_L_law_550 : decode c_L_law 550 = .ok (.aload_n 0, 1) := by decide +kernel
theorem d_L_law_551 : decode c_L_law 551 = .ok (.iload 4, 2) := by decide +kernel
theorem d_L_law_553 : decode c_L_law 553 = .ok (.iconst 1, 1) := by decide +kernel
theorem d_L_law_554 : decode c_L_law 554 = .ok (.iadd, 1) := by decide +kernel
theorem d_L_law_555 : decode c_L_law 555 = .ok (.iaload, 1) := by decide +kernel
theorem d_L_law_556 : decode c_L_law 556 = .ok (.aload_n 0, 1) := by decide +kernel
theorem d_L_law_557 : decode c_L_law 557 = .ok (.iload 4, 2) := by decide +kernel
theorem d_L_law_559 : decode c_L_law 559 = .ok (.iconst 2, 1) := by decide +kernel
theorem d_L_law_560 : decode c_L_law 560 = .ok (.iadd, 1) := by decide +kernel
theorem d_L_law_561 : decode c_L_law 561 = .ok (.iaload, 1) := by decide +kernel
theorem d_L_law_562 : decode c_L_law 562 = .ok (.aload_n 3, 1) := by decide +kernel
theorem d_L_law_563 : decode c_L_law 563 = .ok (.invokestatic 95, 3) := by decide +kernel
theorem d_L_law_566 : decode c_L_law 566 = .ok (.istore 5, 2) := by decide +kernel
theorem d_L_law_568 : decode c_L_law 568 = .ok (.aload_n 2, 1) := by decide +kernel
theorem d_L_law_569 : decode c_L_law 569 = .ok (.aload_n 0, 1) := by decide +kernel
theorem d_L_law_570 : decode c_L_law 570 = .ok (.iload 4, 2) := by decide +kernel
theorem d_L_law_572 : decode c_L_law 572 = .ok (.iconst 1, 1) := by decide +kernel
theorem d_L_law_573 : decode c_L_law 573 = .ok (.iadd, 1) := by decide +kernel
theorem d_L_law_574 : decode c_L_law 574 = .ok (.iaload, 1) := by decide +kernel
theorem d_L_law_575 : decode c_L_law 575 = .ok (.aload_n 0, 1) := by decide +kernel
theorem d_L_law_576 : decode c_L_law 576 = .ok (.iload 4, 2) := by decide +kernel
theorem d_L_law_578 : decode c_L_law 578 = .ok (.iconst 2, 1) := by decide +kernel
theorem d_L_law_579 : decode c_L_law 579 = .ok (.iadd, 1) := by decide +kernel
theorem d_L_law_580 : decode c_L_law 580 = .ok (.iaload, 1) := by decide +kernel
theorem d_L_law_581 : decode c_L_law 581 = .ok (.invokevirtual 98, 3) := by decide +kernel
theorem d_L_law_584 : decode c_L_law 584 = .ok (.istore 6, 2) := by decide +kernel
theorem d_L_law_586 : decode c_L_law 586 = .ok (.aload_n 2, 1) := by decide +kernel
theorem d_L_law_587 : decode c_L_law 587 = .ok (.invokevirtual 71, 3) := by decide +kernel
theorem d_L_law_590 : decode c_L_law 590 = .ok (.iload 5, 2) := by decide +kernel
theorem d_L_law_592 : decode c_L_law 592 = .ok (.if_icmp .eq 5, 3) := by decide +kernel
theorem d_L_law_595 : decode c_L_law 595 = .ok (.iconst 0, 1) := by decide +kernel
theorem d_L_law_596 : decode c_L_law 596 = .ok (.ireturn, 1) := by decide +kernel
theorem d_L_law_597 : decode c_L_law 597 = .ok (.iload 5, 2) := by decide +kernel
theorem d_L_law_599 : decode c_L_law 599 = .ok (.ifCond .ne 15, 3) := by decide +kernel
theorem d_L_law_602 : decode c_L_law 602 = .ok (.aload_n 3, 1) := by decide +kernel
theorem d_L_law_603 : decode c_L_law 603 = .ok (.iconst 0, 1) := by decide +kernel
theorem d_L_law_604 : decode c_L_law 604 = .ok (.laload, 1) := by decide +kernel
theorem d_L_law_605 : decode c_L_law 605 = .ok (.iload 6, 2) := by decide +kernel
theorem d_L_law_607 : decode c_L_law 607 = .ok (.i2l, 1) := by decide +kernel
theorem d_L_law_608 : decode c_L_law 608 = .ok (.lcmp, 1) := by decide +kernel
theorem d_L_law_609 : decode c_L_law 609 = .ok (.ifCond .eq 5, 3) := by decide +kernel
theorem d_L_law_612 : decode c_L_law 612 = .ok (.iconst 0, 1) := by decide +kernel
theorem d_L_law_613 : decode c_L_law 613 = .ok (.ireturn, 1) := by decide +kernel
theorem d_L_law_614 : decode c_L_law 614 = .ok (.goto 473, 3) := by decide +kernel
theorem d_L_law_617 : decode c_L_law 617 = .ok (.aload_n 1, 1) := by decide +kernel
theorem d_L_law_618 : decode c_L_law 618 = .ok (.aload_n 0, 1) := by decide +kernel
theorem d_L_law_619 : decode c_L_law 619 = .ok (.iload 4, 2) := by decide +kernel
theorem d_L_law_621 : decode c_L_law 621 = .ok (.iconst 1, 1) := by decide +kernel
theorem d_L_law_622 : decode c_L_law 622 = .ok (.iadd, 1) := by decide +kernel
theorem d_L_law_623 : decode c_L_law 623 = .ok (.iaload, 1) := by decide +kernel
theorem d_L_law_624 : decode c_L_law 624 = .ok (.aload_n 3, 1) := by decide +kernel
theorem d_L_law_625 : decode c_L_law 625 = .ok (.invokestatic 99, 3) := by decide +kernel
theorem d_L_law_628 : decode c_L_law 628 = .ok (.istore 5, 2) := by decide +kernel
theorem d_L_law_630 : decode c_L_law 630 = .ok (.aload_n 2, 1) := by decide +kernel
theorem d_L_law_631 : decode c_L_law 631 = .ok (.aload_n 0, 1) := by decide +kernel
theorem d_L_law_632 : decode c_L_law 632 = .ok (.iload 4, 2) := by decide +kernel
theorem d_L_law_634 : decode c_L_law 634 = .ok (.iconst 1, 1) := by decide +kernel
theorem d_L_law_635 : decode c_L_law 635 = .ok (.iadd, 1) := by decide +kernel
theorem d_L_law_636 : decode c_L_law 636 = .ok (.iaload, 1) := by decide +kernel
theorem d_L_law_637 : decode c_L_law 637 = .ok (.invokevirtual 101, 3) := by decide +kernel
theorem d_L_law_640 : decode c_L_law 640 = .ok (.istore 6, 2) := by decide +kernel
theorem d_L_law_642 : decode c_L_law 642 = .ok (.aload_n 2, 1) := by decide +kernel
theorem d_L_law_643 : decode c_L_law 643 = .ok (.invokevirtual 71, 3) := by decide +kernel
theorem d_L_law_646 : decode c_L_law 646 = .ok (.iload 5, 2) := by decide +kernel
theorem d_L_law_648 : decode c_L_law 648 = .ok (.if_icmp .eq 5, 3) := by decide +kernel
theorem d_L_law_651 : decode c_L_law 651 = .ok (.iconst 0, 1) := by decide +kernel
theorem d_L_law_652 : decode c_L_law 652 = .ok (.ireturn, 1) := by decide +kernel
theorem d_L_law_653 : decode c_L_law 653 = .ok (.iload 5, 2) := by decide +kernel
theorem d_L_law_655 : decode c_L_law 655 = .ok (.ifCond .ne 15, 3) := by decide +kernel
theorem d_L_law_658 : decode c_L_law 658 = .ok (.aload_n 3, 1) := by decide +kernel
theorem d_L_law_659 : decode c_L_law 659 = .ok (.iconst 0, 1) := by decide +kernel
theorem d_L_law_660 : decode c_L_law 660 = .ok (.laload, 1) := by decide +kernel
theorem d_L_law_661 : decode c_L_law 661 = .ok (.iload 6, 2) := by decide +kernel
theorem d_L_law_663 : decode c_L_law 663 = .ok (.i2l, 1) := by decide +kernel
theorem d_L_law_664 : decode c_L_law 664 = .ok (.lcmp, 1) := by decide +kernel
theorem d_L_law_665 : decode c_L_law 665 = .ok (.ifCond .eq 5, 3) := by decide +kernel
theorem d_L_law_668 : decode c_L_law 668 = .ok (.iconst 0, 1) := by decide +kernel
theorem d_L_law_669 : decode c_L_law 669 = .ok (.ireturn, 1) := by decide +kernel
theorem d_L_law_670 : decode c_L_law 670 = .ok (.goto 417, 3) := by decide +kernel
theorem d_L_law_673 : decode c_L_law 673 = .ok (.aload_n 1, 1) := by decide +kernel
theorem d_L_law_674 : decode c_L_law 674 = .ok (.aload_n 0, 1) := by decide +kernel
theorem d_L_law_675 : decode c_L_law 675 = .ok (.iload 4, 2) := by decide +kernel
theorem d_L_law_677 : decode c_L_law 677 = .ok (.iconst 1, 1) := by decide +kernel
theorem d_L_law_678 : decode c_L_law 678 = .ok (.iadd, 1) := by decide +kernel
theorem d_L_law_679 : decode c_L_law 679 = .ok (.iaload, 1) := by decide +kernel
theorem d_L_law_680 : decode c_L_law 680 = .ok (.aload_n 3, 1) := by decide +kernel
theorem d_L_law_681 : decode c_L_law 681 = .ok (.invokestatic 102, 3) := by decide +kernel
theorem d_L_law_684 : decode c_L_law 684 = .ok (.istore 5, 2) := by decide +kernel
theorem d_L_law_686 : decode c_L_law 686 = .ok (.aload_n 2, 1) := by decide +kernel
theorem d_L_law_687 : decode c_L_law 687 = .ok (.aload_n 0, 1) := by decide +kernel
theorem d_L_law_688 : decode c_L_law 688 = .ok (.iload 4, 2) := by decide +kernel
theorem d_L_law_690 : decode c_L_law 690 = .ok (.iconst 1, 1) := by decide +kernel
theorem d_L_law_691 : decode c_L_law 691 = .ok (.iadd, 1) := by decide +kernel
theorem d_L_law_692 : decode c_L_law 692 = .ok (.iaload, 1) := by decide +kernel
theorem d_L_law_693 : decode c_L_law 693 = .ok (.invokevirtual 104, 3) := by decide +kernel
theorem d_L_law_696 : decode c_L_law 696 = .ok (.istore 6, 2) := by decide +kernel
theorem d_L_law_698 : decode c_L_law 698 = .ok (.aload_n 2, 1) := by decide +kernel
theorem d_L_law_699 : decode c_L_law 699 = .ok (.invokevirtual 71, 3) := by decide +kernel
theorem d_L_law_702 : decode c_L_law 702 = .ok (.iload 5, 2) := by decide +kernel
theorem d_L_law_704 : decode c_L_law 704 = .ok (.if_icmp .eq 5, 3) := by decide +kernel
theorem d_L_law_707 : decode c_L_law 707 = .ok (.iconst 0, 1) := by decide +kernel
theorem d_L_law_708 : decode c_L_law 708 = .ok (.ireturn, 1) := by decide +kernel
theorem d_L_law_709 : decode c_L_law 709 = .ok (.iload 5, 2) := by decide +kernel
theorem d_L_law_711 : decode c_L_law 711 = .ok (.ifCond .ne 15, 3) := by decide +kernel
theorem d_L_law_714 : decode c_L_law 714 = .ok (.aload_n 3, 1) := by decide +kernel
theorem d_L_law_715 : decode c_L_law 715 = .ok (.iconst 0, 1) := by decide +kernel
theorem d_L_law_716 : decode c_L_law 716 = .ok (.laload, 1) := by decide +kernel
theorem d_L_law_717 : decode c_L_law 717 = .ok (.iload 6, 2) := by decide +kernel
theorem d_L_law_719 : decode c_L_law 719 = .ok (.i2l, 1) := by decide +kernel
theorem d_L_law_720 : decode c_L_law 720 = .ok (.lcmp, 1) := by decide +kernel
theorem d_L_law_721 : decode c_L_law 721 = .ok (.ifCond .eq 5, 3) := by decide +kernel
theorem d_L_law_724 : decode c_L_law 724 = .ok (.iconst 0, 1) := by decide +kernel
theorem d_L_law_725 : decode c_L_law 725 = .ok (.ireturn, 1) := by decide +kernel
theorem d_L_law_726 : decode c_L_law 726 = .ok (.goto 361, 3) := by decide +kernel
theorem d_L_law_729 : decode c_L_law 729 = .ok (.aload_n 1, 1) := by decide +kernel
theorem d_L_law_730 : decode c_L_law 730 = .ok (.aload_n 0, 1) := by decide +kernel
theorem d_L_law_731 : decode c_L_law 731 = .ok (.iload 4, 2) := by decide +kernel
theorem d_L_law_733 : decode c_L_law 733 = .ok (.iconst 1, 1) := by decide +kernel
theorem d_L_law_734 : decode c_L_law 734 = .ok (.iadd, 1) := by decide +kernel
theorem d_L_law_735 : decode c_L_law 735 = .ok (.iaload, 1) := by decide +kernel
theorem d_L_law_736 : decode c_L_law 736 = .ok (.aload_n 0, 1) := by decide +kernel
theorem d_L_law_737 : decode c_L_law 737 = .ok (.iload 4, 2) := by decide +kernel
theorem d_L_law_739 : decode c_L_law 739 = .ok (.iconst 2, 1) := by decide +kernel
theorem d_L_law_740 : decode c_L_law 740 = .ok (.iadd, 1) := by decide +kernel
theorem d_L_law_741 : decode c_L_law 741 = .ok (.iaload, 1) := by decide +kernel
theorem d_L_law_742 : decode c_L_law 742 = .ok (.aload_n 3, 1) := by decide +kernel
theorem d_L_law_743 : decode c_L_law 743 = .ok (.invokestatic 105, 3) := by decide +kernel
theorem d_L_law_746 : decode c_L_law 746 = .ok (.istore 5, 2) := by decide +kernel
theorem d_L_law_748 : decode c_L_law 748 = .ok (.aload_n 2, 1) := by decide +kernel
theorem d_L_law_749 : decode c_L_law 749 = .ok (.aload_n 0, 1) := by decide +kernel
theorem d_L_law_750 : decode c_L_law 750 = .ok (.iload 4, 2) := by decide +kernel
theorem d_L_law_752 : decode c_L_law 752 = .ok (.iconst 1, 1) := by decide +kernel
theorem d_L_law_753 : decode c_L_law 753 = .ok (.iadd, 1) := by decide +kernel
theorem d_L_law_754 : decode c_L_law 754 = .ok (.iaload, 1) := by decide +kernel
theorem d_L_law_755 : decode c_L_law 755 = .ok (.aload_n 0, 1) := by decide +kernel
theorem d_L_law_756 : decode c_L_law 756 = .ok (.iload 4, 2) := by decide +kernel
theorem d_L_law_758 : decode c_L_law 758 = .ok (.iconst 2, 1) := by decide +kernel
theorem d_L_law_759 : decode c_L_law 759 = .ok (.iadd, 1) := by decide +kernel
theorem d_L_law_760 : decode c_L_law 760 = .ok (.iaload, 1) := by decide +kernel
theorem d_L_law_761 : decode c_L_law 761 = .ok (.invokevirtual 107, 3) := by decide +kernel
theorem d_L_law_764 : decode c_L_law 764 = .ok (.istore 6, 2) := by decide +kernel
theorem d_L_law_766 : decode c_L_law 766 = .ok (.aload_n 2, 1) := by decide +kernel
theorem d_L_law_767 : decode c_L_law 767 = .ok (.invokevirtual 71, 3) := by decide +kernel
theorem d_L_law_770 : decode c_L_law 770 = .ok (.iload 5, 2) := by decide +kernel
theorem d_L_law_772 : decode c_L_law 772 = .ok (.if_icmp .eq 5, 3) := by decide +kernel
theorem d_L_law_775 : decode c_L_law 775 = .ok (.iconst 0, 1) := by decide +kernel
theorem d_L_law_776 : decode c_L_law 776 = .ok (.ireturn, 1) := by decide +kernel
theorem d_L_law_777 : decode c_L_law 777 = .ok (.iload 5, 2) := by decide +kernel
theorem d_L_law_779 : decode c_L_law 779 = .ok (.ifCond .ne 15, 3) := by decide +kernel
theorem d_L_law_782 : decode c_L_law 782 = .ok (.aload_n 3, 1) := by decide +kernel
theorem d_L_law_783 : decode c_L_law 783 = .ok (.iconst 0, 1) := by decide +kernel
theorem d_L_law_784 : decode c_L_law 784 = .ok (.laload, 1) := by decide +kernel
theorem d_L_law_785 : decode c_L_law 785 = .ok (.iload 6, 2) := by decide +kernel
theorem d_L_law_787 : decode c_L_law 787 = .ok (.i2l, 1) := by decide +kernel
theorem d_L_law_788 : decode c_L_law 788 = .ok (.lcmp, 1) := by decide +kernel
theorem d_L_law_789 : decode c_L_law 789 = .ok (.ifCond .eq 5, 3) := by decide +kernel
theorem d_L_law_792 : decode c_L_law 792 = .ok (.iconst 0, 1) := by decide +kernel
theorem d_L_law_793 : decode c_L_law 793 = .ok (.ireturn, 1) := by decide +kernel
theorem d_L_law_794 : decode c_L_law 794 = .ok (.goto 293, 3) := by decide +kernel
theorem d_L_law_797 : decode c_L_law 797 = .ok (.aload_n 1, 1) := by decide +kernel
theorem d_L_law_798 : decode c_L_law 798 = .ok (.aload_n 0, 1) := by decide +kernel
theorem d_L_law_799 : decode c_L_law 799 = .ok (.iload 4, 2) := by decide +kernel
theorem d_L_law_801 : decode c_L_law 801 = .ok (.iconst 1, 1) := by decide +kernel
theorem d_L_law_802 : decode c_L_law 802 = .ok (.iadd, 1) := by decide +kernel
theorem d_L_law_803 : decode c_L_law 803 = .ok (.iaload, 1) := by decide +kernel
theorem d_L_law_804 : decode c_L_law 804 = .ok (.aload_n 0, 1) := by decide +kernel
theorem d_L_law_805 : decode c_L_law 805 = .ok (.iload 4, 2) := by decide +kernel
theorem d_L_law_807 : decode c_L_law 807 = .ok (.iconst 2, 1) := by decide +kernel
theorem d_L_law_808 : decode c_L_law 808 = .ok (.iadd, 1) := by decide +kernel
theorem d_L_law_809 : decode c_L_law 809 = .ok (.iaload, 1) := by decide +kernel
theorem d_L_law_810 : decode c_L_law 810 = .ok (.i2l, 1) := by decide +kernel
theorem d_L_law_811 : decode c_L_law 811 = .ok (.bipush 32, 2) := by decide +kernel
theorem d_L_law_813 : decode c_L_law 813 = .ok (.lshl, 1) := by decide +kernel
theorem d_L_law_814 : decode c_L_law 814 = .ok (.aload_n 0, 1) := by decide +kernel
theorem d_L_law_815 : decode c_L_law 815 = .ok (.iload 4, 2) := by decide +kernel
theorem d_L_law_817 : decode c_L_law 817 = .ok (.iconst 3, 1) := by decide +kernel
theorem d_L_law_818 : decode c_L_law 818 = .ok (.iadd, 1) := by decide +kernel
theorem d_L_law_819 : decode c_L_law 819 = .ok (.iaload, 1) := by decide +kernel
theorem d_L_law_820 : decode c_L_law 820 = .ok (.i2l, 1) := by decide +kernel
theorem d_L_law_821 : decode c_L_law 821 = .ok (.ldc2_w 63, 3) := by decide +kernel
theorem d_L_law_824 : decode c_L_law 824 = .ok (.land, 1) := by decide +kernel
theorem d_L_law_825 : decode c_L_law 825 = .ok (.lor, 1) := by decide +kernel
theorem d_L_law_826 : decode c_L_law 826 = .ok (.aload_n 0, 1) := by decide +kernel
theorem d_L_law_827 : decode c_L_law 827 = .ok (.iload 4, 2) := by decide +kernel
theorem d_L_law_829 : decode c_L_law 829 = .ok (.iconst 4, 1) := by decide +kernel
theorem d_L_law_830 : decode c_L_law 830 = .ok (.iadd, 1) := by decide +kernel
theorem d_L_law_831 : decode c_L_law 831 = .ok (.iaload, 1) := by decide +kernel
theorem d_L_law_832 : decode c_L_law 832 = .ok (.aload_n 0, 1) := by decide +kernel
theorem d_L_law_833 : decode c_L_law 833 = .ok (.iload 4, 2) := by decide +kernel
theorem d_L_law_835 : decode c_L_law 835 = .ok (.iconst 5, 1) := by decide +kernel
theorem d_L_law_836 : decode c_L_law 836 = .ok (.iadd, 1) := by decide +kernel
theorem d_L_law_837 : decode c_L_law 837 = .ok (.iaload, 1) := by decide +kernel
theorem d_L_law_838 : decode c_L_law 838 = .ok (.aload_n 3, 1) := by decide +kernel
theorem d_L_law_839 : decode c_L_law 839 = .ok (.invokestatic 108, 3) := by decide +kernel
theorem d_L_law_842 : decode c_L_law 842 = .ok (.istore 5, 2) := by decide +kernel
theorem d_L_law_844 : decode c_L_law 844 = .ok (.aload_n 2, 1) := by decide +kernel
theorem d_L_law_845 : decode c_L_law 845 = .ok (.aload_n 0, 1) := by decide +kernel
theorem d_L_law_846 : decode c_L_law 846 = .ok (.iload 4, 2) := by decide +kernel
theorem d_L_law_848 : decode c_L_law 848 = .ok (.iconst 1, 1) := by decide +kernel
theorem d_L_law_849 : decode c_L_law 849 = .ok (.iadd, 1) := by decide +kernel
theorem d_L_law_850 : decode c_L_law 850 = .ok (.iaload, 1) := by decide +kernel
theorem d_L_law_851 : decode c_L_law 851 = .ok (.aload_n 0, 1) := by decide +kernel
theorem d_L_law_852 : decode c_L_law 852 = .ok (.iload 4, 2) := by decide +kernel
theorem d_L_law_854 : decode c_L_law 854 = .ok (.iconst 2, 1) := by decide +kernel
theorem d_L_law_855 : decode c_L_law 855 = .ok (.iadd, 1) := by decide +kernel
theorem d_L_law_856 : decode c_L_law 856 = .ok (.iaload, 1) := by decide +kernel
theorem d_L_law_857 : decode c_L_law 857 = .ok (.i2l, 1) := by decide +kernel
theorem d_L_law_858 : decode c_L_law 858 = .ok (.bipush 32, 2) := by decide +kernel
theorem d_L_law_860 : decode c_L_law 860 = .ok (.lshl, 1) := by decide +kernel
theorem d_L_law_861 : decode c_L_law 861 = .ok (.aload_n 0, 1) := by decide +kernel
theorem d_L_law_862 : decode c_L_law 862 = .ok (.iload 4, 2) := by decide +kernel
theorem d_L_law_864 : decode c_L_law 864 = .ok (.iconst 3, 1) := by decide +kernel
theorem d_L_law_865 : decode c_L_law 865 = .ok (.iadd, 1) := by decide +kernel
theorem d_L_law_866 : decode c_L_law 866 = .ok (.iaload, 1) := by decide +kernel
theorem d_L_law_867 : decode c_L_law 867 = .ok (.i2l, 1) := by decide +kernel
theorem d_L_law_868 : decode c_L_law 868 = .ok (.ldc2_w 63, 3) := by decide +kernel
theorem d_L_law_871 : decode c_L_law 871 = .ok (.land, 1) := by decide +kernel
theorem d_L_law_872 : decode c_L_law 872 = .ok (.lor, 1) := by decide +kernel
theorem d_L_law_873 : decode c_L_law 873 = .ok (.aload_n 0, 1) := by decide +kernel
theorem d_L_law_874 : decode c_L_law 874 = .ok (.iload 4, 2) := by decide +kernel
theorem d_L_law_876 : decode c_L_law 876 = .ok (.iconst 4, 1) := by decide +kernel
theorem d_L_law_877 : decode c_L_law 877 = .ok (.iadd, 1) := by decide +kernel
theorem d_L_law_878 : decode c_L_law 878 = .ok (.iaload, 1) := by decide +kernel
theorem d_L_law_879 : decode c_L_law 879 = .ok (.aload_n 0, 1) := by decide +kernel
theorem d_L_law_880 : decode c_L_law 880 = .ok (.iload 4, 2) := by decide +kernel
theorem d_L_law_882 : decode c_L_law 882 = .ok (.iconst 5, 1) := by decide +kernel
theorem d_L_law_883 : decode c_L_law 883 = .ok (.iadd, 1) := by decide +kernel
theorem d_L_law_884 : decode c_L_law 884 = .ok (.iaload, 1) := by decide +kernel
theorem d_L_law_885 : decode c_L_law 885 = .ok (.invokevirtual 111, 3) := by decide +kernel
theorem d_L_law_888 : decode c_L_law 888 = .ok (.lstore 6, 2) := by decide +kernel
theorem d_L_law_890 : decode c_L_law 890 = .ok (.aload_n 2, 1) := by decide +kernel
theorem d_L_law_891 : decode c_L_law 891 = .ok (.invokevirtual 71, 3) := by decide +kernel
theorem d_L_law_894 : decode c_L_law 894 = .ok (.iload 5, 2) := by decide +kernel
theorem d_L_law_896 : decode c_L_law 896 = .ok (.if_icmp .eq 5, 3) := by decide +kernel
theorem d_L_law_899 : decode c_L_law 899 = .ok (.iconst 0, 1) := by decide +kernel
theorem d_L_law_900 : decode c_L_law 900 = .ok (.ireturn, 1) := by decide +kernel
theorem d_L_law_901 : decode c_L_law 901 = .ok (.iload 5, 2) := by decide +kernel
theorem d_L_law_903 : decode c_L_law 903 = .ok (.ifCond .ne 14, 3) := by decide +kernel
theorem d_L_law_906 : decode c_L_law 906 = .ok (.aload_n 3, 1) := by decide +kernel
theorem d_L_law_907 : decode c_L_law 907 = .ok (.iconst 0, 1) := by decide +kernel
theorem d_L_law_908 : decode c_L_law 908 = .ok (.laload, 1) := by decide +kernel
theorem d_L_law_909 : decode c_L_law 909 = .ok (.lload 6, 2) := by decide +kernel
theorem d_L_law_911 : decode c_L_law 911 = .ok (.lcmp, 1) := by decide +kernel
theorem d_L_law_912 : decode c_L_law 912 = .ok (.ifCond .eq 5, 3) := by decide +kernel
theorem d_L_law_915 : decode c_L_law 915 = .ok (.iconst 0, 1) := by decide +kernel
theorem d_L_law_916 : decode c_L_law 916 = .ok (.ireturn, 1) := by decide +kernel
theorem d_L_law_917 : decode c_L_law 917 = .ok (.goto 170, 3) := by decide +kernel
theorem d_L_law_920 : decode c_L_law 920 = .ok (.aload_n 1, 1) := by decide +kernel
theorem d_L_law_921 : decode c_L_law 921 = .ok (.aload_n 0, 1) := by decide +kernel
theorem d_L_law_922 : decode c_L_law 922 = .ok (.iload 4, 2) := by decide +kernel
theorem d_L_law_924 : decode c_L_law 924 = .ok (.iconst 1, 1) := by decide +kernel
theorem d_L_law_925 : decode c_L_law 925 = .ok (.iadd, 1) := by decide +kernel
theorem d_L_law_926 : decode c_L_law 926 = .ok (.iaload, 1) := by decide +kernel
theorem d_L_law_927 : decode c_L_law 927 = .ok (.aload_n 3, 1) := by decide +kernel
theorem d_L_law_928 : decode c_L_law 928 = .ok (.invokestatic 112, 3) := by decide +kernel
theorem d_L_law_931 : decode c_L_law 931 = .ok (.istore 5, 2) := by decide +kernel
theorem d_L_law_933 : decode c_L_law 933 = .ok (.aload_n 2, 1) := by decide +kernel
theorem d_L_law_934 : decode c_L_law 934 = .ok (.aload_n 0, 1) := by decide +kernel
theorem d_L_law_935 : decode c_L_law 935 = .ok (.iload 4, 2) := by decide +kernel
theorem d_L_law_937 : decode c_L_law 937 = .ok (.iconst 1, 1) := by decide +kernel
theorem d_L_law_938 : decode c_L_law 938 = .ok (.iadd, 1) := by decide +kernel
theorem d_L_law_939 : decode c_L_law 939 = .ok (.iaload, 1) := by decide +kernel
theorem d_L_law_940 : decode c_L_law 940 = .ok (.invokevirtual 114, 3) := by decide +kernel
theorem d_L_law_943 : decode c_L_law 943 = .ok (.lstore 6, 2) := by decide +kernel
theorem d_L_law_945 : decode c_L_law 945 = .ok (.aload_n 2, 1) := by decide +kernel
theorem d_L_law_946 : decode c_L_law 946 = .ok (.invokevirtual 71, 3) := by decide +kernel
theorem d_L_law_949 : decode c_L_law 949 = .ok (.iload 5, 2) := by decide +kernel
theorem d_L_law_951 : decode c_L_law 951 = .ok (.if_icmp .eq 5, 3) := by decide +kernel
theorem d_L_law_954 : decode c_L_law 954 = .ok (.iconst 0, 1) := by decide +kernel
theorem d_L_law_955 : decode c_L_law 955 = .ok (.ireturn, 1) := by decide +kernel
theorem d_L_law_956 : decode c_L_law 956 = .ok (.iload 5, 2) := by decide +kernel
theorem d_L_law_958 : decode c_L_law 958 = .ok (.ifCond .ne 14, 3) := by decide +kernel
theorem d_L_law_961 : decode c_L_law 961 = .ok (.aload_n 3, 1) := by decide +kernel
theorem d_L_law_962 : decode c_L_law 962 = .ok (.iconst 0, 1) := by decide +kernel
theorem d_L_law_963 : decode c_L_law 963 = .ok (.laload, 1) := by decide +kernel
theorem d_L_law_964 : decode c_L_law 964 = .ok (.lload 6, 2) := by decide +kernel
theorem d_L_law_966 : decode c_L_law 966 = .ok (.lcmp, 1) := by decide +kernel
theorem d_L_law_967 : decode c_L_law 967 = .ok (.ifCond .eq 5, 3) := by decide +kernel
theorem d_L_law_970 : decode c_L_law 970 = .ok (.iconst 0, 1) := by decide +kernel
theorem d_L_law_971 : decode c_L_law 971 = .ok (.ireturn, 1) := by decide +kernel
theorem d_L_law_972 : decode c_L_law 972 = .ok (.goto 115, 3) := by decide +kernel
theorem d_L_law_975 : decode c_L_law 975 = .ok (.aload_n 1, 1) := by decide +kernel
theorem d_L_law_976 : decode c_L_law 976 = .ok (.aload_n 0, 1) := by decide +kernel
theorem d_L_law_977 : decode c_L_law 977 = .ok (.iload 4, 2) := by decide +kernel
theorem d_L_law_979 : decode c_L_law 979 = .ok (.iconst 1, 1) := by decide +kernel
theorem d_L_law_980 : decode c_L_law 980 = .ok (.iadd, 1) := by decide +kernel
theorem d_L_law_981 : decode c_L_law 981 = .ok (.iaload, 1) := by decide +kernel
theorem d_L_law_982 : decode c_L_law 982 = .ok (.aload_n 3, 1) := by decide +kernel
theorem d_L_law_983 : decode c_L_law 983 = .ok (.invokestatic 115, 3) := by decide +kernel
theorem d_L_law_986 : decode c_L_law 986 = .ok (.istore 5, 2) := by decide +kernel
theorem d_L_law_988 : decode c_L_law 988 = .ok (.aload_n 2, 1) := by decide +kernel
theorem d_L_law_989 : decode c_L_law 989 = .ok (.aload_n 0, 1) := by decide +kernel
theorem d_L_law_990 : decode c_L_law 990 = .ok (.iload 4, 2) := by decide +kernel
theorem d_L_law_992 : decode c_L_law 992 = .ok (.iconst 1, 1) := by decide +kernel
theorem d_L_law_993 : decode c_L_law 993 = .ok (.iadd, 1) := by decide +kernel
theorem d_L_law_994 : decode c_L_law 994 = .ok (.iaload, 1) := by decide +kernel
theorem d_L_law_995 : decode c_L_law 995 = .ok (.invokevirtual 117, 3) := by decide +kernel
theorem d_L_law_998 : decode c_L_law 998 = .ok (.lstore 6, 2) := by decide +kernel
theorem d_L_law_1000 : decode c_L_law 1000 = .ok (.aload_n 2, 1) := by decide +kernel
theorem d_L_law_1001 : decode c_L_law 1001 = .ok (.invokevirtual 71, 3) := by decide +kernel
theorem d_L_law_1004 : decode c_L_law 1004 = .ok (.iload 5, 2) := by decide +kernel
theorem d_L_law_1006 : decode c_L_law 1006 = .ok (.if_icmp .eq 5, 3) := by decide +kernel
theorem d_L_law_1009 : decode c_L_law 1009 = .ok (.iconst 0, 1) := by decide +kernel
theorem d_L_law_1010 : decode c_L_law 1010 = .ok (.ireturn, 1) := by decide +kernel
theorem d_L_law_1011 : decode c_L_law 1011 = .ok (.iload 5, 2) := by decide +kernel
theorem d_L_law_1013 : decode c_L_law 1013 = .ok (.ifCond .ne 14, 3) := by decide +kernel
theorem d_L_law_1016 : decode c_L_law 1016 = .ok (.aload_n 3, 1) := by decide +kernel
theorem d_L_law_1017 : decode c_L_law 1017 = .ok (.iconst 0, 1) := by decide +kernel
theorem d_L_law_1018 : decode c_L_law 1018 = .ok (.laload, 1) := by decide +kernel
theorem d_L_law_1019 : decode c_L_law 1019 = .ok (.lload 6, 2) := by decide +kernel
theorem d_L_law_1021 : decode c_L_law 1021 = .ok (.lcmp, 1) := by decide +kernel
theorem d_L_law_1022 : decode c_L_law 1022 = .ok (.ifCond .eq 5, 3) := by decide +kernel
theorem d_L_law_1025 : decode c_L_law 1025 = .ok (.iconst 0, 1) := by decide +kernel
theorem d_L_law_1026 : decode c_L_law 1026 = .ok (.ireturn, 1) := by decide +kernel
theorem d_L_law_1027 : decode c_L_law 1027 = .ok (.goto 60, 3) := by decide +kernel
theorem d_L_law_1030 : decode c_L_law 1030 = .ok (.aload_n 1, 1) := by decide +kernel
theorem d_L_law_1031 : decode c_L_law 1031 = .ok (.aload_n 0, 1) := by decide +kernel
theorem d_L_law_1032 : decode c_L_law 1032 = .ok (.iload 4, 2) := by decide +kernel
theorem d_L_law_1034 : decode c_L_law 1034 = .ok (.iconst 1, 1) := by decide +kernel
theorem d_L_law_1035 : decode c_L_law 1035 = .ok (.iadd, 1) := by decide +kernel
theorem d_L_law_1036 : decode c_L_law 1036 = .ok (.iaload, 1) := by decide +kernel
theorem d_L_law_1037 : decode c_L_law 1037 = .ok (.i2l, 1) := by decide +kernel
theorem d_L_law_1038 : decode c_L_law 1038 = .ok (.bipush 32, 2) := by decide +kernel
theorem d_L_law_1040 : decode c_L_law 1040 = .ok (.lshl, 1) := by decide +kernel
theorem d_L_law_1041 : decode c_L_law 1041 = .ok (.aload_n 0, 1) := by decide +kernel
theorem d_L_law_1042 : decode c_L_law 1042 = .ok (.iload 4, 2) := by decide +kernel
theorem d_L_law_1044 : decode c_L_law 1044 = .ok (.iconst 2, 1) := by decide +kernel
theorem d_L_law_1045 : decode c_L_law 1045 = .ok (.iadd, 1) := by decide +kernel
theorem d_L_law_1046 : decode c_L_law 1046 = .ok (.iaload, 1) := by decide +kernel
theorem d_L_law_1047 : decode c_L_law 1047 = .ok (.i2l, 1) := by decide +kernel
theorem d_L_law_1048 : decode c_L_law 1048 = .ok (.ldc2_w 63, 3) := by decide +kernel
theorem d_L_law_1051 : decode c_L_law 1051 = .ok (.land, 1) := by decide +kernel
theorem d_L_law_1052 : decode c_L_law 1052 = .ok (.lor, 1) := by decide +kernel
theorem d_L_law_1053 : decode c_L_law 1053 = .ok (.invokevirtual 118, 3) := by decide +kernel
theorem d_L_law_1056 : decode c_L_law 1056 = .ok (.aload_n 2, 1) := by decide +kernel
theorem d_L_law_1057 : decode c_L_law 1057 = .ok (.aload_n 0, 1) := by decide +kernel
theorem d_L_law_1058 : decode c_L_law 1058 = .ok (.iload 4, 2) := by decide +kernel
theorem d_L_law_1060 : decode c_L_law 1060 = .ok (.iconst 1, 1) := by decide +kernel
theorem d_L_law_1061 : decode c_L_law 1061 = .ok (.iadd, 1) := by decide +kernel
theorem d_L_law_1062 : decode c_L_law 1062 = .ok (.iaload, 1) := by decide +kernel
theorem d_L_law_1063 : decode c_L_law 1063 = .ok (.i2l, 1) := by decide +kernel
theorem d_L_law_1064 : decode c_L_law 1064 = .ok (.bipush 32, 2) := by decide +kernel
theorem d_L_law_1066 : decode c_L_law 1066 = .ok (.lshl, 1) := by decide +kernel
theorem d_L_law_1067 : decode c_L_law 1067 = .ok (.aload_n 0, 1) := by decide +kernel
theorem d_L_law_1068 : decode c_L_law 1068 = .ok (.iload 4, 2) := by decide +kernel
theorem d_L_law_1070 : decode c_L_law 1070 = .ok (.iconst 2, 1) := by decide +kernel
theorem d_L_law_1071 : decode c_L_law 1071 = .ok (.iadd, 1) := by decide +kernel
theorem d_L_law_1072 : decode c_L_law 1072 = .ok (.iaload, 1) := by decide +kernel
theorem d_L_law_1073 : decode c_L_law 1073 = .ok (.i2l, 1) := by decide +kernel
theorem d_L_law_1074 : decode c_L_law 1074 = .ok (.ldc2_w 63, 3) := by decide +kernel
theorem d_L_law_1077 : decode c_L_law 1077 = .ok (.land, 1) := by decide +kernel
theorem d_L_law_1078 : decode c_L_law 1078 = .ok (.lor, 1) := by decide +kernel
theorem d_L_law_1079 : decode c_L_law 1079 = .ok (.invokevirtual 122, 3) := by decide +kernel
theorem d_L_law_1082 : decode c_L_law 1082 = .ok (.if_icmp .eq 5, 3) := by decide +kernel
theorem d_L_law_1085 : decode c_L_law 1085 = .ok (.iconst 0, 1) := by decide +kernel
theorem d_L_law_1086 : decode c_L_law 1086 = .ok (.ireturn, 1) := by decide +kernel
theorem d_L_law_1087 : decode c_L_law 1087 = .ok (.iinc 4 7, 3) := by decide +kernel
theorem d_L_law_1090 : decode c_L_law 1090 = .ok (.goto (-1067), 3) := by decide +kernel
theorem d_L_law_1093 : decode c_L_law 1093 = .ok (.iconst 1, 1) := by decide +kernel
theorem d_L_law_1094 : decode c_L_law 1094 = .ok (.ireturn, 1) := by decide +kernel
theorem d_L_law_40 : decode c_L_law 40 = .ok (.tableswitch 1047 0 13 #[72, 210, 328, 392, 440, 496, 509, 577, 633, 689, 757, 880, 935, 990], 72) := by decide +kernel
theorem ml_L_59 : Cond.methodLink R_L 59 m_T_init.1 ∈ gt := by decide +kernel
theorem ii_T_init : Cond.instanceMethod m_T_init.1 ∈ gt ∧ m_T_init.1.name = "<init>" ∧ m_T_init.2.2.2.1 = none := ⟨by decide +kernel, rfl, rfl⟩
theorem cb_L_law_59 : CB m_L_law m_T_init 59 0 := ⟨ml_L_59, k_T_init.1, k_T_init.2, by decide⟩
theorem ml_L_62 : Cond.methodLink R_L 62 m_M_init.1 ∈ gt := by decide +kernel
theorem ii_M_init : Cond.instanceMethod m_M_init.1 ∈ gt ∧ m_M_init.1.name = "<init>" ∧ m_M_init.2.2.2.1 = none := ⟨by decide +kernel, rfl, rfl⟩
theorem cb_L_law_62 : CB m_L_law m_M_init 62 0 := ⟨ml_L_62, k_M_init.1, k_M_init.2, by decide⟩
theorem ml_L_65 : Cond.methodLink R_L 65 m_L_node.1 ∈ gt := by decide +kernel
theorem ch_L_law_65 : CBH m_L_law m_L_node 65 7 [(0, 16, 19, 13), (0, 16, 23, 15)] := ⟨ml_L_65, ⟨rfl, by decide +kernel, by decide +kernel, by decide +kernel⟩, by decide +kernel, by decide⟩
theorem ml_L_70 : Cond.methodLink R_L 70 m_M_node.1 ∈ gt := by decide +kernel
theorem iv_M_node : Cond.instanceMethod m_M_node.1 ∈ gt ∧ Cond.selects m_M_node.1.cls m_M_node.1 m_M_node.1 ∈ gt := by decide +kernel
theorem cb_L_law_70 : CB m_L_law m_M_node 70 5 := ⟨ml_L_70, k_M_node.1, k_M_node.2, by decide⟩
theorem ml_L_71 : Cond.methodLink R_L 71 m_M_thrown.1 ∈ gt := by decide +kernel
theorem iv_M_thrown : Cond.instanceMethod m_M_thrown.1 ∈ gt ∧ Cond.selects m_M_thrown.1.cls m_M_thrown.1 m_M_thrown.1 ∈ gt := by decide +kernel
theorem cb_L_law_71 : CB m_L_law m_M_thrown 71 0 := ⟨ml_L_71, k_M_thrown.1, k_M_thrown.2, by decide⟩
theorem ml_L_75 : Cond.methodLink R_L 75 m_L_link.1 ∈ gt := by decide +kernel
theorem ch_L_law_75 : CBH m_L_law m_L_link 75 8 [(0, 18, 21, 13), (0, 18, 25, 15)] := ⟨ml_L_75, ⟨rfl, by decide +kernel, by decide +kernel, by decide +kernel⟩, by decide +kernel, by decide⟩
theorem ml_L_78 : Cond.methodLink R_L 78 m_M_link.1 ∈ gt := by decide +kernel
theorem iv_M_link : Cond.instanceMethod m_M_link.1 ∈ gt ∧ Cond.selects m_M_link.1.cls m_M_link.1 m_M_link.1 ∈ gt := by decide +kernel
theorem cb_L_law_78 : CB m_L_law m_M_link 78 6 := ⟨ml_L_78, k_M_link.1, k_M_link.2, by decide⟩
theorem ml_L_79 : Cond.methodLink R_L 79 m_L_up.1 ∈ gt := by decide +kernel
theorem ch_L_law_79 : CBH m_L_law m_L_up 79 3 [(0, 6, 9, 13)] := ⟨ml_L_79, ⟨rfl, by decide +kernel, by decide +kernel, by decide +kernel⟩, by decide +kernel, by decide⟩
theorem ml_L_82 : Cond.methodLink R_L 82 m_M_up.1 ∈ gt := by decide +kernel
theorem iv_M_up : Cond.instanceMethod m_M_up.1 ∈ gt ∧ Cond.selects m_M_up.1.cls m_M_up.1 m_M_up.1 ∈ gt := by decide +kernel
theorem cb_L_law_82 : CB m_L_law m_M_up 82 2 := ⟨ml_L_82, k_M_up.1, k_M_up.2, by decide⟩
theorem ml_L_83 : Cond.methodLink R_L 83 m_L_priority.1 ∈ gt := by decide +kernel
theorem ch_L_law_83 : CBH m_L_law m_L_priority 83 3 [(0, 6, 9, 13)] := ⟨ml_L_83, ⟨rfl, by decide +kernel, by decide +kernel, by decide +kernel⟩, by decide +kernel, by decide⟩
theorem ml_L_86 : Cond.methodLink R_L 86 m_M_priority.1 ∈ gt := by decide +kernel
theorem iv_M_priority : Cond.instanceMethod m_M_priority.1 ∈ gt ∧ Cond.selects m_M_priority.1.cls m_M_priority.1 m_M_priority.1 ∈ gt := by decide +kernel
theorem cb_L_law_86 : CB m_L_law m_M_priority 86 2 := ⟨ml_L_86, k_M_priority.1, k_M_priority.2, by decide⟩
theorem ml_L_87 : Cond.methodLink R_L 87 m_L_round.1 ∈ gt := by decide +kernel
theorem ch_L_law_87 : CBH m_L_law m_L_round 87 3 [(0, 9, 12, 13)] := ⟨ml_L_87, ⟨rfl, by decide +kernel, by decide +kernel, by decide +kernel⟩, by decide +kernel, by decide⟩
theorem ml_L_90 : Cond.methodLink R_L 90 m_M_round.1 ∈ gt := by decide +kernel
theorem iv_M_round : Cond.instanceMethod m_M_round.1 ∈ gt ∧ Cond.selects m_M_round.1.cls m_M_round.1 m_M_round.1 ∈ gt := by decide +kernel
theorem cb_L_law_90 : CB m_L_law m_M_round 90 1 := ⟨ml_L_90, k_M_round.1, k_M_round.2, by decide⟩
theorem ml_L_91 : Cond.methodLink R_L 91 m_T_settle.1 ∈ gt := by decide +kernel
theorem iv_T_settle : Cond.instanceMethod m_T_settle.1 ∈ gt ∧ Cond.selects m_T_settle.1.cls m_T_settle.1 m_T_settle.1 ∈ gt := by decide +kernel
theorem cb_L_law_91 : CB m_L_law m_T_settle 91 0 := ⟨ml_L_91, k_T_settle.1, k_T_settle.2, by decide⟩
theorem ml_L_94 : Cond.methodLink R_L 94 m_M_settle.1 ∈ gt := by decide +kernel
theorem iv_M_settle : Cond.instanceMethod m_M_settle.1 ∈ gt ∧ Cond.selects m_M_settle.1.cls m_M_settle.1 m_M_settle.1 ∈ gt := by decide +kernel
theorem cb_L_law_94 : CB m_L_law m_M_settle 94 0 := ⟨ml_L_94, k_M_settle.1, k_M_settle.2, by decide⟩
theorem ml_L_95 : Cond.methodLink R_L 95 m_L_state.1 ∈ gt := by decide +kernel
theorem ch_L_law_95 : CBH m_L_law m_L_state 95 4 [(0, 10, 13, 13)] := ⟨ml_L_95, ⟨rfl, by decide +kernel, by decide +kernel, by decide +kernel⟩, by decide +kernel, by decide⟩
theorem ml_L_98 : Cond.methodLink R_L 98 m_M_state.1 ∈ gt := by decide +kernel
theorem iv_M_state : Cond.instanceMethod m_M_state.1 ∈ gt ∧ Cond.selects m_M_state.1.cls m_M_state.1 m_M_state.1 ∈ gt := by decide +kernel
theorem cb_L_law_98 : CB m_L_law m_M_state 98 2 := ⟨ml_L_98, k_M_state.1, k_M_state.2, by decide⟩
theorem ml_L_99 : Cond.methodLink R_L 99 m_L_root.1 ∈ gt := by decide +kernel
theorem ch_L_law_99 : CBH m_L_law m_L_root 99 3 [(0, 9, 12, 13)] := ⟨ml_L_99, ⟨rfl, by decide +kernel, by decide +kernel, by decide +kernel⟩, by decide +kernel, by decide⟩
theorem ml_L_101 : Cond.methodLink R_L 101 m_M_root.1 ∈ gt := by decide +kernel
theorem iv_M_root : Cond.instanceMethod m_M_root.1 ∈ gt ∧ Cond.selects m_M_root.1.cls m_M_root.1 m_M_root.1 ∈ gt := by decide +kernel
theorem cb_L_law_101 : CB m_L_law m_M_root 101 1 := ⟨ml_L_101, k_M_root.1, k_M_root.2, by decide⟩
theorem ml_L_102 : Cond.methodLink R_L 102 m_L_steps.1 ∈ gt := by decide +kernel
theorem ch_L_law_102 : CBH m_L_law m_L_steps 102 3 [(0, 9, 12, 13)] := ⟨ml_L_102, ⟨rfl, by decide +kernel, by decide +kernel, by decide +kernel⟩, by decide +kernel, by decide⟩
theorem ml_L_104 : Cond.methodLink R_L 104 m_M_steps.1 ∈ gt := by decide +kernel
theorem iv_M_steps : Cond.instanceMethod m_M_steps.1 ∈ gt ∧ Cond.selects m_M_steps.1.cls m_M_steps.1 m_M_steps.1 ∈ gt := by decide +kernel
theorem cb_L_law_104 : CB m_L_law m_M_steps 104 1 := ⟨ml_L_104, k_M_steps.1, k_M_steps.2, by decide⟩
theorem ml_L_105 : Cond.methodLink R_L 105 m_L_kept.1 ∈ gt := by decide +kernel
theorem ch_L_law_105 : CBH m_L_law m_L_kept 105 4 [(0, 10, 13, 13)] := ⟨ml_L_105, ⟨rfl, by decide +kernel, by decide +kernel, by decide +kernel⟩, by decide +kernel, by decide⟩
theorem ml_L_107 : Cond.methodLink R_L 107 m_M_kept.1 ∈ gt := by decide +kernel
theorem iv_M_kept : Cond.instanceMethod m_M_kept.1 ∈ gt ∧ Cond.selects m_M_kept.1.cls m_M_kept.1 m_M_kept.1 ∈ gt := by decide +kernel
theorem cb_L_law_107 : CB m_L_law m_M_kept 107 2 := ⟨ml_L_107, k_M_kept.1, k_M_kept.2, by decide⟩
theorem ml_L_108 : Cond.methodLink R_L 108 m_L_exchange.1 ∈ gt := by decide +kernel
theorem ch_L_law_108 : CBH m_L_law m_L_exchange 108 6 [(0, 14, 17, 13), (0, 14, 21, 15), (0, 14, 25, 50)] := ⟨ml_L_108, ⟨rfl, by decide +kernel, by decide +kernel, by decide +kernel⟩, by decide +kernel, by decide⟩
theorem ml_L_111 : Cond.methodLink R_L 111 m_M_exchange.1 ∈ gt := by decide +kernel
theorem iv_M_exchange : Cond.instanceMethod m_M_exchange.1 ∈ gt ∧ Cond.selects m_M_exchange.1.cls m_M_exchange.1 m_M_exchange.1 ∈ gt := by decide +kernel
theorem cb_L_law_111 : CB m_L_law m_M_exchange 111 4 := ⟨ml_L_111, k_M_exchange.1, k_M_exchange.2, by decide⟩
theorem ml_L_112 : Cond.methodLink R_L 112 m_L_delay.1 ∈ gt := by decide +kernel
theorem ch_L_law_112 : CBH m_L_law m_L_delay 112 3 [(0, 8, 11, 13)] := ⟨ml_L_112, ⟨rfl, by decide +kernel, by decide +kernel, by decide +kernel⟩, by decide +kernel, by decide⟩
theorem ml_L_114 : Cond.methodLink R_L 114 m_M_delay.1 ∈ gt := by decide +kernel
theorem iv_M_delay : Cond.instanceMethod m_M_delay.1 ∈ gt ∧ Cond.selects m_M_delay.1.cls m_M_delay.1 m_M_delay.1 ∈ gt := by decide +kernel
theorem cb_L_law_114 : CB m_L_law m_M_delay 114 1 := ⟨ml_L_114, k_M_delay.1, k_M_delay.2, by decide⟩
theorem ml_L_115 : Cond.methodLink R_L 115 m_L_offset.1 ∈ gt := by decide +kernel
theorem ch_L_law_115 : CBH m_L_law m_L_offset 115 3 [(0, 8, 11, 13)] := ⟨ml_L_115, ⟨rfl, by decide +kernel, by decide +kernel, by decide +kernel⟩, by decide +kernel, by decide⟩
theorem ml_L_117 : Cond.methodLink R_L 117 m_M_offset.1 ∈ gt := by decide +kernel
theorem iv_M_offset : Cond.instanceMethod m_M_offset.1 ∈ gt ∧ Cond.selects m_M_offset.1.cls m_M_offset.1 m_M_offset.1 ∈ gt := by decide +kernel
theorem cb_L_law_117 : CB m_L_law m_M_offset 117 1 := ⟨ml_L_117, k_M_offset.1, k_M_offset.2, by decide⟩
theorem ml_L_118 : Cond.methodLink R_L 118 m_T_discipline.1 ∈ gt := by decide +kernel
theorem iv_T_discipline : Cond.instanceMethod m_T_discipline.1 ∈ gt ∧ Cond.selects m_T_discipline.1.cls m_T_discipline.1 m_T_discipline.1 ∈ gt := by decide +kernel
theorem cb_L_law_118 : CB m_L_law m_T_discipline 118 1 := ⟨ml_L_118, k_T_discipline.1, k_T_discipline.2, by decide⟩
theorem ml_L_122 : Cond.methodLink R_L 122 m_M_discipline.1 ∈ gt := by decide +kernel
theorem iv_M_discipline : Cond.instanceMethod m_M_discipline.1 ∈ gt ∧ Cond.selects m_M_discipline.1.cls m_M_discipline.1 m_M_discipline.1 ∈ gt := by decide +kernel
theorem cb_L_law_122 : CB m_L_law m_M_discipline 122 1 := ⟨ml_L_122, k_M_discipline.1, k_M_discipline.2, by decide⟩
