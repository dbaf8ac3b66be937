theorem d_W_law_0 : decode b_W_law 0 = .ok (.new 7, 3) := by decide +kernel
theorem d_W_law_3 : decode b_W_law 3 = .ok (.dup, 1) := by decide +kernel
theorem d_W_law_4 : decode b_W_law 4 = .ok (.invokespecial 9, 3) := by decide +kernel
theorem d_W_law_7 : decode b_W_law 7 = .ok (.astore_n 1, 1) := by decide +kernel
theorem d_W_law_8 : decode b_W_law 8 = .ok (.new 10, 3) := by decide +kernel
theorem d_W_law_11 : decode b_W_law 11 = .ok (.dup, 1) := by decide +kernel
theorem d_W_law_12 : decode b_W_law 12 = .ok (.invokespecial 12, 3) := by decide +kernel
theorem d_W_law_15 : decode b_W_law 15 = .ok (.astore_n 2, 1) := by decide +kernel
theorem d_W_law_16 : decode b_W_law 16 = .ok (.iconst 0, 1) := by decide +kernel
theorem d_W_law_17 : decode b_W_law 17 = .ok (.istore_n 3, 1) := by decide +kernel
theorem d_W_law_18 : decode b_W_law 18 = .ok (.iload_n 3, 1) := by decide +kernel
theorem d_W_law_19 : decode b_W_law 19 = .ok (.aload_n 0, 1) := by decide +kernel
theorem d_W_law_20 : decode b_W_law 20 = .ok (.arraylength, 1) := by decide +kernel
theorem d_W_law_21 : decode b_W_law 21 = .ok (.iconst 3, 1) := by decide +kernel
theorem d_W_law_22 : decode b_W_law 22 = .ok (.isub, 1) := by decide +kernel
theorem d_W_law_23 : decode b_W_law 23 = .ok (.if_icmp .gt 645, 3) := by decide +kernel
theorem d_W_law_26 : decode b_W_law 26 = .ok (.aload_n 0, 1) := by decide +kernel
theorem d_W_law_27 : decode b_W_law 27 = .ok (.iload_n 3, 1) := by decide +kernel
theorem d_W_law_28 : decode b_W_law 28 = .ok (.iaload, 1) := by decide +kernel
theorem d_W_law_29 : decode b_W_law 29 = .ok (.bipush 31, 2) := by decide +kernel
theorem d_W_law_31 : decode b_W_law 31 = .ok (.iand, 1) := by decide +kernel
theorem d_W_law_32 : decode b_W_law 32 = .ok (.tableswitch 630 0 21 #[104, 137, 160, 193, 226, 249, 262, 275, 298, 321, 344, 357, 380, 403, 416, 429, 452, 485, 508, 541, 574, 607], 104) := by decide +kernel
theorem d_W_law_136 : decode b_W_law 136 = .ok (.aload_n 1, 1) := by decide +kernel
theorem d_W_law_137 : decode b_W_law 137 = .ok (.aload_n 0, 1) := by decide +kernel
theorem d_W_law_138 : decode b_W_law 138 = .ok (.iload_n 3, 1) := by decide +kernel
theorem d_W_law_139 : decode b_W_law 139 = .ok (.iconst 1, 1) := by decide +kernel
theorem d_W_law_140 : decode b_W_law 140 = .ok (.iadd, 1) := by decide +kernel
theorem d_W_law_141 : decode b_W_law 141 = .ok (.iaload, 1) := by decide +kernel
theorem d_W_law_142 : decode b_W_law 142 = .ok (.aload_n 0, 1) := by decide +kernel
theorem d_W_law_143 : decode b_W_law 143 = .ok (.iload_n 3, 1) := by decide +kernel
theorem d_W_law_144 : decode b_W_law 144 = .ok (.iconst 2, 1) := by decide +kernel
theorem d_W_law_145 : decode b_W_law 145 = .ok (.iadd, 1) := by decide +kernel
theorem d_W_law_146 : decode b_W_law 146 = .ok (.iaload, 1) := by decide +kernel
theorem d_W_law_147 : decode b_W_law 147 = .ok (.invokevirtual 13, 3) := by decide +kernel
theorem d_W_law_150 : decode b_W_law 150 = .ok (.aload_n 2, 1) := by decide +kernel
theorem d_W_law_151 : decode b_W_law 151 = .ok (.aload_n 0, 1) := by decide +kernel
theorem d_W_law_152 : decode b_W_law 152 = .ok (.iload_n 3, 1) := by decide +kernel
theorem d_W_law_153 : decode b_W_law 153 = .ok (.iconst 1, 1) := by decide +kernel
theorem d_W_law_154 : decode b_W_law 154 = .ok (.iadd, 1) := by decide +kernel
theorem d_W_law_155 : decode b_W_law 155 = .ok (.iaload, 1) := by decide +kernel
theorem d_W_law_156 : decode b_W_law 156 = .ok (.aload_n 0, 1) := by decide +kernel
theorem d_W_law_157 : decode b_W_law 157 = .ok (.iload_n 3, 1) := by decide +kernel
theorem d_W_law_158 : decode b_W_law 158 = .ok (.iconst 2, 1) := by decide +kernel
theorem d_W_law_159 : decode b_W_law 159 = .ok (.iadd, 1) := by decide +kernel
theorem d_W_law_160 : decode b_W_law 160 = .ok (.iaload, 1) := by decide +kernel
theorem d_W_law_161 : decode b_W_law 161 = .ok (.invokevirtual 17, 3) := by decide +kernel
theorem d_W_law_164 : decode b_W_law 164 = .ok (.if_icmp .eq 498, 3) := by decide +kernel
theorem d_W_law_167 : decode b_W_law 167 = .ok (.iconst 0, 1) := by decide +kernel
theorem d_W_law_168 : decode b_W_law 168 = .ok (.ireturn, 1) := by decide +kernel
theorem d_W_law_169 : decode b_W_law 169 = .ok (.aload_n 1, 1) := by decide +kernel
theorem d_W_law_170 : decode b_W_law 170 = .ok (.aload_n 0, 1) := by decide +kernel
theorem d_W_law_171 : decode b_W_law 171 = .ok (.iload_n 3, 1) := by decide +kernel
theorem d_W_law_172 : decode b_W_law 172 = .ok (.iconst 1, 1) := by decide +kernel
theorem d_W_law_173 : decode b_W_law 173 = .ok (.iadd, 1) := by decide +kernel
theorem d_W_law_174 : decode b_W_law 174 = .ok (.iaload, 1) := by decide +kernel
theorem d_W_law_175 : decode b_W_law 175 = .ok (.invokevirtual 18, 3) := by decide +kernel
theorem d_W_law_178 : decode b_W_law 178 = .ok (.aload_n 2, 1) := by decide +kernel
theorem d_W_law_179 : decode b_W_law 179 = .ok (.aload_n 0, 1) := by decide +kernel
theorem d_W_law_180 : decode b_W_law 180 = .ok (.iload_n 3, 1) := by decide +kernel
theorem d_W_law_181 : decode b_W_law 181 = .ok (.iconst 1, 1) := by decide +kernel
theorem d_W_law_182 : decode b_W_law 182 = .ok (.iadd, 1) := by decide +kernel
theorem d_W_law_183 : decode b_W_law 183 = .ok (.iaload, 1) := by decide +kernel
theorem d_W_law_184 : decode b_W_law 184 = .ok (.invokevirtual 22, 3) := by decide +kernel
theorem d_W_law_187 : decode b_W_law 187 = .ok (.if_icmp .eq 475, 3) := by decide +kernel
theorem d_W_law_190 : decode b_W_law 190 = .ok (.iconst 0, 1) := by decide +kernel
theorem d_W_law_191 : decode b_W_law 191 = .ok (.ireturn, 1) := by decide +kernel
theorem d_W_law_192 : decode b_W_law 192 = .ok (.aload_n 1, 1) := by decide +kernel
theorem d_W_law_193 : decode b_W_law 193 = .ok (.aload_n 0, 1) := by decide +kernel
theorem d_W_law_194 : decode b_W_law 194 = .ok (.iload_n 3, 1) := by decide +kernel
theorem d_W_law_195 : decode b_W_law 195 = .ok (.iconst 1, 1) := by decide +kernel
theorem d_W_law_196 : decode b_W_law 196 = .ok (.iadd, 1) := by decide +kernel
theorem d_W_law_197 : decode b_W_law 197 = .ok (.iaload, 1) := by decide +kernel
theorem d_W_law_198 : decode b_W_law 198 = .ok (.aload_n 0, 1) := by decide +kernel
theorem d_W_law_199 : decode b_W_law 199 = .ok (.iload_n 3, 1) := by decide +kernel
theorem d_W_law_200 : decode b_W_law 200 = .ok (.iconst 2, 1) := by decide +kernel
theorem d_W_law_201 : decode b_W_law 201 = .ok (.iadd, 1) := by decide +kernel
theorem d_W_law_202 : decode b_W_law 202 = .ok (.iaload, 1) := by decide +kernel
theorem d_W_law_203 : decode b_W_law 203 = .ok (.invokevirtual 23, 3) := by decide +kernel
theorem d_W_law_206 : decode b_W_law 206 = .ok (.aload_n 2, 1) := by decide +kernel
theorem d_W_law_207 : decode b_W_law 207 = .ok (.aload_n 0, 1) := by decide +kernel
theorem d_W_law_208 : decode b_W_law 208 = .ok (.iload_n 3, 1) := by decide +kernel
theorem d_W_law_209 : decode b_W_law 209 = .ok (.iconst 1, 1) := by decide +kernel
theorem d_W_law_210 : decode b_W_law 210 = .ok (.iadd, 1) := by decide +kernel
theorem d_W_law_211 : decode b_W_law 211 = .ok (.iaload, 1) := by decide +kernel
theorem d_W_law_212 : decode b_W_law 212 = .ok (.aload_n 0, 1) := by decide +kernel
theorem d_W_law_213 : decode b_W_law 213 = .ok (.iload_n 3, 1) := by decide +kernel
theorem d_W_law_214 : decode b_W_law 214 = .ok (.iconst 2, 1) := by decide +kernel
theorem d_W_law_215 : decode b_W_law 215 = .ok (.iadd, 1) := by decide +kernel
theorem d_W_law_216 : decode b_W_law 216 = .ok (.iaload, 1) := by decide +kernel
theorem d_W_law_217 : decode b_W_law 217 = .ok (.invokevirtual 27, 3) := by decide +kernel
theorem d_W_law_220 : decode b_W_law 220 = .ok (.if_icmp .eq 442, 3) := by decide +kernel
theorem d_W_law_223 : decode b_W_law 223 = .ok (.iconst 0, 1) := by decide +kernel
theorem d_W_law_224 : decode b_W_law 224 = .ok (.ireturn, 1) := by decide +kernel
theorem d_W_law_225 : decode b_W_law 225 = .ok (.aload_n 1, 1) := by decide +kernel
theorem d_W_law_226 : decode b_W_law 226 = .ok (.aload_n 0, 1) := by decide +kernel
theorem d_W_law_227 : decode b_W_law 227 = .ok (.iload_n 3, 1) := by decide +kernel
theorem d_W_law_228 : decode b_W_law 228 = .ok (.iconst 1, 1) := by decide +kernel
theorem d_W_law_229 : decode b_W_law 229 = .ok (.iadd, 1) := by decide +kernel
theorem d_W_law_230 : decode b_W_law 230 = .ok (.iaload, 1) := by decide +kernel
theorem d_W_law_231 : decode b_W_law 231 = .ok (.aload_n 0, 1) := by decide +kernel
theorem d_W_law_232 : decode b_W_law 232 = .ok (.iload_n 3, 1) := by decide +kernel
theorem d_W_law_233 : decode b_W_law 233 = .ok (.iconst 2, 1) := by decide +kernel
theorem d_W_law_234 : decode b_W_law 234 = .ok (.iadd, 1) := by decide +kernel
theorem d_W_law_235 : decode b_W_law 235 = .ok (.iaload, 1) := by decide +kernel
theorem d_W_law_236 : decode b_W_law 236 = .ok (.invokevirtual 28, 3) := by decide +kernel
theorem d_W_law_239 : decode b_W_law 239 = .ok (.aload_n 2, 1) := by decide +kernel
theorem d_W_law_240 : decode b_W_law 240 = .ok (.aload_n 0, 1) := by decide +kernel
theorem d_W_law_241 : decode b_W_law 241 = .ok (.iload_n 3, 1) := by decide +kernel
theorem d_W_law_242 : decode b_W_law 242 = .ok (.iconst 1, 1) := by decide +kernel
theorem d_W_law_243 : decode b_W_law 243 = .ok (.iadd, 1) := by decide +kernel
theorem d_W_law_244 : decode b_W_law 244 = .ok (.iaload, 1) := by decide +kernel
theorem d_W_law_245 : decode b_W_law 245 = .ok (.aload_n 0, 1) := by decide +kernel
theorem d_W_law_246 : decode b_W_law 246 = .ok (.iload_n 3, 1) := by decide +kernel
theorem d_W_law_247 : decode b_W_law 247 = .ok (.iconst 2, 1) := by decide +kernel
theorem d_W_law_248 : decode b_W_law 248 = .ok (.iadd, 1) := by decide +kernel
theorem d_W_law_249 : decode b_W_law 249 = .ok (.iaload, 1) := by decide +kernel
theorem d_W_law_250 : decode b_W_law 250 = .ok (.invokevirtual 31, 3) := by decide +kernel
theorem d_W_law_253 : decode b_W_law 253 = .ok (.if_icmp .eq 409, 3) := by decide +kernel
theorem d_W_law_256 : decode b_W_law 256 = .ok (.iconst 0, 1) := by decide +kernel
theorem d_W_law_257 : decode b_W_law 257 = .ok (.ireturn, 1) := by decide +kernel
theorem d_W_law_258 : decode b_W_law 258 = .ok (.aload_n 1, 1) := by decide +kernel
theorem d_W_law_259 : decode b_W_law 259 = .ok (.aload_n 0, 1) := by decide +kernel
theorem d_W_law_260 : decode b_W_law 260 = .ok (.iload_n 3, 1) := by decide +kernel
theorem d_W_law_261 : decode b_W_law 261 = .ok (.iconst 1, 1) := by decide +kernel
theorem d_W_law_262 : decode b_W_law 262 = .ok (.iadd, 1) := by decide +kernel
theorem d_W_law_263 : decode b_W_law 263 = .ok (.iaload, 1) := by decide +kernel
theorem d_W_law_264 : decode b_W_law 264 = .ok (.invokevirtual 32, 3) := by decide +kernel
theorem d_W_law_267 : decode b_W_law 267 = .ok (.aload_n 2, 1) := by decide +kernel
theorem d_W_law_268 : decode b_W_law 268 = .ok (.aload_n 0, 1) := by decide +kernel
theorem d_W_law_269 : decode b_W_law 269 = .ok (.iload_n 3, 1) := by decide +kernel
theorem d_W_law_270 : decode b_W_law 270 = .ok (.iconst 1, 1) := by decide +kernel
theorem d_W_law_271 : decode b_W_law 271 = .ok (.iadd, 1) := by decide +kernel
theorem d_W_law_272 : decode b_W_law 272 = .ok (.iaload, 1) := by decide +kernel
theorem d_W_law_273 : decode b_W_law 273 = .ok (.invokevirtual 35, 3) := by decide +kernel
theorem d_W_law_276 : decode b_W_law 276 = .ok (.if_icmp .eq 386, 3) := by decide +kernel
theorem d_W_law_279 : decode b_W_law 279 = .ok (.iconst 0, 1) := by decide +kernel
theorem d_W_law_280 : decode b_W_law 280 = .ok (.ireturn, 1) := by decide +kernel
theorem d_W_law_281 : decode b_W_law 281 = .ok (.aload_n 1, 1) := by decide +kernel
theorem d_W_law_282 : decode b_W_law 282 = .ok (.invokevirtual 36, 3) := by decide +kernel
theorem d_W_law_285 : decode b_W_law 285 = .ok (.aload_n 2, 1) := by decide +kernel
theorem d_W_law_286 : decode b_W_law 286 = .ok (.invokevirtual 40, 3) := by decide +kernel
theorem d_W_law_289 : decode b_W_law 289 = .ok (.if_icmp .eq 373, 3) := by decide +kernel
theorem d_W_law_292 : decode b_W_law 292 = .ok (.iconst 0, 1) := by decide +kernel
theorem d_W_law_293 : decode b_W_law 293 = .ok (.ireturn, 1) := by decide +kernel
theorem d_W_law_294 : decode b_W_law 294 = .ok (.aload_n 1, 1) := by decide +kernel
theorem d_W_law_295 : decode b_W_law 295 = .ok (.invokevirtual 41, 3) := by decide +kernel
theorem d_W_law_298 : decode b_W_law 298 = .ok (.aload_n 2, 1) := by decide +kernel
theorem d_W_law_299 : decode b_W_law 299 = .ok (.invokevirtual 44, 3) := by decide +kernel
theorem d_W_law_302 : decode b_W_law 302 = .ok (.if_icmp .eq 360, 3) := by decide +kernel
theorem d_W_law_305 : decode b_W_law 305 = .ok (.iconst 0, 1) := by decide +kernel
theorem d_W_law_306 : decode b_W_law 306 = .ok (.ireturn, 1) := by decide +kernel
theorem d_W_law_307 : decode b_W_law 307 = .ok (.aload_n 1, 1) := by decide +kernel
theorem d_W_law_308 : decode b_W_law 308 = .ok (.aload_n 0, 1) := by decide +kernel
theorem d_W_law_309 : decode b_W_law 309 = .ok (.iload_n 3, 1) := by decide +kernel
theorem d_W_law_310 : decode b_W_law 310 = .ok (.iconst 1, 1) := by decide +kernel
theorem d_W_law_311 : decode b_W_law 311 = .ok (.iadd, 1) := by decide +kernel
theorem d_W_law_312 : decode b_W_law 312 = .ok (.iaload, 1) := by decide +kernel
theorem d_W_law_313 : decode b_W_law 313 = .ok (.invokevirtual 45, 3) := by decide +kernel
theorem d_W_law_316 : decode b_W_law 316 = .ok (.aload_n 2, 1) := by decide +kernel
theorem d_W_law_317 : decode b_W_law 317 = .ok (.aload_n 0, 1) := by decide +kernel
theorem d_W_law_318 : decode b_W_law 318 = .ok (.iload_n 3, 1) := by decide +kernel
theorem d_W_law_319 : decode b_W_law 319 = .ok (.iconst 1, 1) := by decide +kernel
theorem d_W_law_320 : decode b_W_law 320 = .ok (.iadd, 1) := by decide +kernel
theorem d_W_law_321 : decode b_W_law 321 = .ok (.iaload, 1) := by decide +kernel
theorem d_W_law_322 : decode b_W_law 322 = .ok (.invokevirtual 48, 3) := by decide +kernel
theorem d_W_law_325 : decode b_W_law 325 = .ok (.if_icmp .eq 337, 3) := by decide +kernel
theorem d_W_law_328 : decode b_W_law 328 = .ok (.iconst 0, 1) := by decide +kernel
theorem d_W_law_329 : decode b_W_law 329 = .ok (.ireturn, 1) := by decide +kernel
theorem d_W_law_330 : decode b_W_law 330 = .ok (.aload_n 1, 1) := by decide +kernel
theorem d_W_law_331 : decode b_W_law 331 = .ok (.aload_n 0, 1) := by decide +kernel
theorem d_W_law_332 : decode b_W_law 332 = .ok (.iload_n 3, 1) := by decide +kernel
theorem d_W_law_333 : decode b_W_law 333 = .ok (.iconst 1, 1) := by decide +kernel
theorem d_W_law_334 : decode b_W_law 334 = .ok (.iadd, 1) := by decide +kernel
theorem d_W_law_335 : decode b_W_law 335 = .ok (.iaload, 1) := by decide +kernel
theorem d_W_law_336 : decode b_W_law 336 = .ok (.invokevirtual 49, 3) := by decide +kernel
theorem d_W_law_339 : decode b_W_law 339 = .ok (.aload_n 2, 1) := by decide +kernel
theorem d_W_law_340 : decode b_W_law 340 = .ok (.aload_n 0, 1) := by decide +kernel
theorem d_W_law_341 : decode b_W_law 341 = .ok (.iload_n 3, 1) := by decide +kernel
theorem d_W_law_342 : decode b_W_law 342 = .ok (.iconst 1, 1) := by decide +kernel
theorem d_W_law_343 : decode b_W_law 343 = .ok (.iadd, 1) := by decide +kernel
theorem d_W_law_344 : decode b_W_law 344 = .ok (.iaload, 1) := by decide +kernel
theorem d_W_law_345 : decode b_W_law 345 = .ok (.invokevirtual 52, 3) := by decide +kernel
theorem d_W_law_348 : decode b_W_law 348 = .ok (.if_icmp .eq 314, 3) := by decide +kernel
theorem d_W_law_351 : decode b_W_law 351 = .ok (.iconst 0, 1) := by decide +kernel
theorem d_W_law_352 : decode b_W_law 352 = .ok (.ireturn, 1) := by decide +kernel
theorem d_W_law_353 : decode b_W_law 353 = .ok (.aload_n 1, 1) := by decide +kernel
theorem d_W_law_354 : decode b_W_law 354 = .ok (.aload_n 0, 1) := by decide +kernel
theorem d_W_law_355 : decode b_W_law 355 = .ok (.iload_n 3, 1) := by decide +kernel
theorem d_W_law_356 : decode b_W_law 356 = .ok (.iconst 1, 1) := by decide +kernel
theorem d_W_law_357 : decode b_W_law 357 = .ok (.iadd, 1) := by decide +kernel
theorem d_W_law_358 : decode b_W_law 358 = .ok (.iaload, 1) := by decide +kernel
theorem d_W_law_359 : decode b_W_law 359 = .ok (.invokevirtual 53, 3) := by decide +kernel
theorem d_W_law_362 : decode b_W_law 362 = .ok (.aload_n 2, 1) := by decide +kernel
theorem d_W_law_363 : decode b_W_law 363 = .ok (.aload_n 0, 1) := by decide +kernel
theorem d_W_law_364 : decode b_W_law 364 = .ok (.iload_n 3, 1) := by decide +kernel
theorem d_W_law_365 : decode b_W_law 365 = .ok (.iconst 1, 1) := by decide +kernel
theorem d_W_law_366 : decode b_W_law 366 = .ok (.iadd, 1) := by decide +kernel
theorem d_W_law_367 : decode b_W_law 367 = .ok (.iaload, 1) := by decide +kernel
theorem d_W_law_368 : decode b_W_law 368 = .ok (.invokevirtual 56, 3) := by decide +kernel
theorem d_W_law_371 : decode b_W_law 371 = .ok (.if_icmp .eq 291, 3) := by decide +kernel
theorem d_W_law_374 : decode b_W_law 374 = .ok (.iconst 0, 1) := by decide +kernel
theorem d_W_law_375 : decode b_W_law 375 = .ok (.ireturn, 1) := by decide +kernel
theorem d_W_law_376 : decode b_W_law 376 = .ok (.aload_n 1, 1) := by decide +kernel
theorem d_W_law_377 : decode b_W_law 377 = .ok (.invokevirtual 57, 3) := by decide +kernel
theorem d_W_law_380 : decode b_W_law 380 = .ok (.aload_n 2, 1) := by decide +kernel
theorem d_W_law_381 : decode b_W_law 381 = .ok (.invokevirtual 61, 3) := by decide +kernel
theorem d_W_law_384 : decode b_W_law 384 = .ok (.if_icmp .eq 278, 3) := by decide +kernel
theorem d_W_law_387 : decode b_W_law 387 = .ok (.iconst 0, 1) := by decide +kernel
theorem d_W_law_388 : decode b_W_law 388 = .ok (.ireturn, 1) := by decide +kernel
theorem d_W_law_389 : decode b_W_law 389 = .ok (.aload_n 1, 1) := by decide +kernel
theorem d_W_law_390 : decode b_W_law 390 = .ok (.aload_n 0, 1) := by decide +kernel
theorem d_W_law_391 : decode b_W_law 391 = .ok (.iload_n 3, 1) := by decide +kernel
theorem d_W_law_392 : decode b_W_law 392 = .ok (.iconst 1, 1) := by decide +kernel
theorem d_W_law_393 : decode b_W_law 393 = .ok (.iadd, 1) := by decide +kernel
theorem d_W_law_394 : decode b_W_law 394 = .ok (.iaload, 1) := by decide +kernel
theorem d_W_law_395 : decode b_W_law 395 = .ok (.invokevirtual 62, 3) := by decide +kernel
theorem d_W_law_398 : decode b_W_law 398 = .ok (.aload_n 2, 1) := by decide +kernel
theorem d_W_law_399 : decode b_W_law 399 = .ok (.aload_n 0, 1) := by decide +kernel
theorem d_W_law_400 : decode b_W_law 400 = .ok (.iload_n 3, 1) := by decide +kernel
theorem d_W_law_401 : decode b_W_law 401 = .ok (.iconst 1, 1) := by decide +kernel
theorem d_W_law_402 : decode b_W_law 402 = .ok (.iadd, 1) := by decide +kernel
theorem d_W_law_403 : decode b_W_law 403 = .ok (.iaload, 1) := by decide +kernel
theorem d_W_law_404 : decode b_W_law 404 = .ok (.invokevirtual 66, 3) := by decide +kernel
theorem d_W_law_407 : decode b_W_law 407 = .ok (.if_icmp .eq 255, 3) := by decide +kernel
theorem d_W_law_410 : decode b_W_law 410 = .ok (.iconst 0, 1) := by decide +kernel
theorem d_W_law_411 : decode b_W_law 411 = .ok (.ireturn, 1) := by decide +kernel
theorem d_W_law_412 : decode b_W_law 412 = .ok (.aload_n 1, 1) := by decide +kernel
theorem d_W_law_413 : decode b_W_law 413 = .ok (.aload_n 0, 1) := by decide +kernel
theorem d_W_law_414 : decode b_W_law 414 = .ok (.iload_n 3, 1) := by decide +kernel
theorem d_W_law_415 : decode b_W_law 415 = .ok (.iconst 1, 1) := by decide +kernel
theorem d_W_law_416 : decode b_W_law 416 = .ok (.iadd, 1) := by decide +kernel
theorem d_W_law_417 : decode b_W_law 417 = .ok (.iaload, 1) := by decide +kernel
theorem d_W_law_418 : decode b_W_law 418 = .ok (.invokevirtual 67, 3) := by decide +kernel
theorem d_W_law_421 : decode b_W_law 421 = .ok (.aload_n 2, 1) := by decide +kernel
theorem d_W_law_422 : decode b_W_law 422 = .ok (.aload_n 0, 1) := by decide +kernel
theorem d_W_law_423 : decode b_W_law 423 = .ok (.iload_n 3, 1) := by decide +kernel
theorem d_W_law_424 : decode b_W_law 424 = .ok (.iconst 1, 1) := by decide +kernel
theorem d_W_law_425 : decode b_W_law 425 = .ok (.iadd, 1) := by decide +kernel
theorem d_W_law_426 : decode b_W_law 426 = .ok (.iaload, 1) := by decide +kernel
theorem d_W_law_427 : decode b_W_law 427 = .ok (.invokevirtual 70, 3) := by decide +kernel
theorem d_W_law_430 : decode b_W_law 430 = .ok (.if_icmp .eq 232, 3) := by decide +kernel
theorem d_W_law_433 : decode b_W_law 433 = .ok (.iconst 0, 1) := by decide +kernel
theorem d_W_law_434 : decode b_W_law 434 = .ok (.ireturn, 1) := by decide +kernel
theorem d_W_law_435 : decode b_W_law 435 = .ok (.aload_n 1, 1) := by decide +kernel
theorem d_W_law_436 : decode b_W_law 436 = .ok (.invokevirtual 71, 3) := by decide +kernel
theorem d_W_law_439 : decode b_W_law 439 = .ok (.aload_n 2, 1) := by decide +kernel
theorem d_W_law_440 : decode b_W_law 440 = .ok (.invokevirtual 74, 3) := by decide +kernel
theorem d_W_law_443 : decode b_W_law 443 = .ok (.if_icmp .eq 219, 3) := by decide +kernel
theorem d_W_law_446 : decode b_W_law 446 = .ok (.iconst 0, 1) := by decide +kernel
theorem d_W_law_447 : decode b_W_law 447 = .ok (.ireturn, 1) := by decide +kernel
theorem d_W_law_448 : decode b_W_law 448 = .ok (.aload_n 1, 1) := by decide +kernel
theorem d_W_law_449 : decode b_W_law 449 = .ok (.invokevirtual 75, 3) := by decide +kernel
theorem d_W_law_452 : decode b_W_law 452 = .ok (.aload_n 2, 1) := by decide +kernel
theorem d_W_law_453 : decode b_W_law 453 = .ok (.invokevirtual 78, 3) := by decide +kernel
theorem d_W_law_456 : decode b_W_law 456 = .ok (.if_icmp .eq 206, 3) := by decide +kernel
theorem d_W_law_459 : decode b_W_law 459 = .ok (.iconst 0, 1) := by decide +kernel
theorem d_W_law_460 : decode b_W_law 460 = .ok (.ireturn, 1) := by decide +kernel
theorem d_W_law_461 : decode b_W_law 461 = .ok (.aload_n 1, 1) := by decide +kernel
theorem d_W_law_462 : decode b_W_law 462 = .ok (.aload_n 0, 1) := by decide +kernel
theorem d_W_law_463 : decode b_W_law 463 = .ok (.iload_n 3, 1) := by decide +kernel
theorem d_W_law_464 : decode b_W_law 464 = .ok (.iconst 1, 1) := by decide +kernel
theorem d_W_law_465 : decode b_W_law 465 = .ok (.iadd, 1) := by decide +kernel
theorem d_W_law_466 : decode b_W_law 466 = .ok (.iaload, 1) := by decide +kernel
theorem d_W_law_467 : decode b_W_law 467 = .ok (.invokevirtual 79, 3) := by decide +kernel
theorem d_W_law_470 : decode b_W_law 470 = .ok (.aload_n 2, 1) := by decide +kernel
theorem d_W_law_471 : decode b_W_law 471 = .ok (.aload_n 0, 1) := by decide +kernel
theorem d_W_law_472 : decode b_W_law 472 = .ok (.iload_n 3, 1) := by decide +kernel
theorem d_W_law_473 : decode b_W_law 473 = .ok (.iconst 1, 1) := by decide +kernel
theorem d_W_law_474 : decode b_W_law 474 = .ok (.iadd, 1) := by decide +kernel
theorem d_W_law_475 : decode b_W_law 475 = .ok (.iaload, 1) := by decide +kernel
theorem d_W_law_476 : decode b_W_law 476 = .ok (.invokevirtual 82, 3) := by decide +kernel
theorem d_W_law_479 : decode b_W_law 479 = .ok (.if_icmp .eq 183, 3) := by decide +kernel
theorem d_W_law_482 : decode b_W_law 482 = .ok (.iconst 0, 1) := by decide +kernel
theorem d_W_law_483 : decode b_W_law 483 = .ok (.ireturn, 1) := by decide +kernel
theorem d_W_law_484 : decode b_W_law 484 = .ok (.aload_n 1, 1) := by decide +kernel
theorem d_W_law_485 : decode b_W_law 485 = .ok (.aload_n 0, 1) := by decide +kernel
theorem d_W_law_486 : decode b_W_law 486 = .ok (.iload_n 3, 1) := by decide +kernel
theorem d_W_law_487 : decode b_W_law 487 = .ok (.iconst 1, 1) := by decide +kernel
theorem d_W_law_488 : decode b_W_law 488 = .ok (.iadd, 1) := by decide +kernel
theorem d_W_law_489 : decode b_W_law 489 = .ok (.iaload, 1) := by decide +kernel
theorem d_W_law_490 : decode b_W_law 490 = .ok (.aload_n 0, 1) := by decide +kernel
theorem d_W_law_491 : decode b_W_law 491 = .ok (.iload_n 3, 1) := by decide +kernel
theorem d_W_law_492 : decode b_W_law 492 = .ok (.iconst 2, 1) := by decide +kernel
theorem d_W_law_493 : decode b_W_law 493 = .ok (.iadd, 1) := by decide +kernel
theorem d_W_law_494 : decode b_W_law 494 = .ok (.iaload, 1) := by decide +kernel
theorem d_W_law_495 : decode b_W_law 495 = .ok (.invokevirtual 83, 3) := by decide +kernel
theorem d_W_law_498 : decode b_W_law 498 = .ok (.aload_n 2, 1) := by decide +kernel
theorem d_W_law_499 : decode b_W_law 499 = .ok (.aload_n 0, 1) := by decide +kernel
theorem d_W_law_500 : decode b_W_law 500 = .ok (.iload_n 3, 1) := by decide +kernel
theorem d_W_law_501 : decode b_W_law 501 = .ok (.iconst 1, 1) := by decide +kernel
theorem d_W_law_502 : decode b_W_law 502 = .ok (.iadd, 1) := by decide +kernel
theorem d_W_law_503 : decode b_W_law 503 = .ok (.iaload, 1) := by decide +kernel
theorem d_W_law_504 : decode b_W_law 504 = .ok (.aload_n 0, 1) := by decide +kernel
theorem d_W_law_505 : decode b_W_law 505 = .ok (.iload_n 3, 1) := by decide +kernel
theorem d_W_law_506 : decode b_W_law 506 = .ok (.iconst 2, 1) := by decide +kernel
theorem d_W_law_507 : decode b_W_law 507 = .ok (.iadd, 1) := by decide +kernel
theorem d_W_law_508 : decode b_W_law 508 = .ok (.iaload, 1) := by decide +kernel
theorem d_W_law_509 : decode b_W_law 509 = .ok (.invokevirtual 86, 3) := by decide +kernel
theorem d_W_law_512 : decode b_W_law 512 = .ok (.if_icmp .eq 150, 3) := by decide +kernel
theorem d_W_law_515 : decode b_W_law 515 = .ok (.iconst 0, 1) := by decide +kernel
theorem d_W_law_516 : decode b_W_law 516 = .ok (.ireturn, 1) := by decide +kernel
theorem d_W_law_517 : decode b_W_law 517 = .ok (.aload_n 1, 1) := by decide +kernel
theorem d_W_law_518 : decode b_W_law 518 = .ok (.aload_n 0, 1) := by decide +kernel
theorem d_W_law_519 : decode b_W_law 519 = .ok (.iload_n 3, 1) := by decide +kernel
theorem d_W_law_520 : decode b_W_law 520 = .ok (.iconst 1, 1) := by decide +kernel
theorem d_W_law_521 : decode b_W_law 521 = .ok (.iadd, 1) := by decide +kernel
theorem d_W_law_522 : decode b_W_law 522 = .ok (.iaload, 1) := by decide +kernel
theorem d_W_law_523 : decode b_W_law 523 = .ok (.invokevirtual 87, 3) := by decide +kernel
theorem d_W_law_526 : decode b_W_law 526 = .ok (.aload_n 2, 1) := by decide +kernel
theorem d_W_law_527 : decode b_W_law 527 = .ok (.aload_n 0, 1) := by decide +kernel
theorem d_W_law_528 : decode b_W_law 528 = .ok (.iload_n 3, 1) := by decide +kernel
theorem d_W_law_529 : decode b_W_law 529 = .ok (.iconst 1, 1) := by decide +kernel
theorem d_W_law_530 : decode b_W_law 530 = .ok (.iadd, 1) := by decide +kernel
theorem d_W_law_531 : decode b_W_law 531 = .ok (.iaload, 1) := by decide +kernel
theorem d_W_law_532 : decode b_W_law 532 = .ok (.invokevirtual 90, 3) := by decide +kernel
theorem d_W_law_535 : decode b_W_law 535 = .ok (.if_icmp .eq 127, 3) := by decide +kernel
theorem d_W_law_538 : decode b_W_law 538 = .ok (.iconst 0, 1) := by decide +kernel
theorem d_W_law_539 : decode b_W_law 539 = .ok (.ireturn, 1) := by decide +kernel
theorem d_W_law_540 : decode b_W_law 540 = .ok (.aload_n 1, 1) := by decide +kernel
theorem d_W_law_541 : decode b_W_law 541 = .ok (.aload_n 0, 1) := by decide +kernel
theorem d_W_law_542 : decode b_W_law 542 = .ok (.iload_n 3, 1) := by decide +kernel
theorem d_W_law_543 : decode b_W_law 543 = .ok (.iconst 1, 1) := by decide +kernel
theorem d_W_law_544 : decode b_W_law 544 = .ok (.iadd, 1) := by decide +kernel
theorem d_W_law_545 : decode b_W_law 545 = .ok (.iaload, 1) := by decide +kernel
theorem d_W_law_546 : decode b_W_law 546 = .ok (.aload_n 0, 1) := by decide +kernel
theorem d_W_law_547 : decode b_W_law 547 = .ok (.iload_n 3, 1) := by decide +kernel
theorem d_W_law_548 : decode b_W_law 548 = .ok (.iconst 2, 1) := by decide +kernel
theorem d_W_law_549 : decode b_W_law 549 = .ok (.iadd, 1) := by decide +kernel
theorem d_W_law_550 : decode b_W_law 550 = .ok (.iaload, 1) := by decide +kernel
theorem d_W_law_551 : decode b_W_law 551 = .ok (.invokevirtual 91, 3) := by decide +kernel
theorem d_W_law_554 : decode b_W_law 554 = .ok (.aload_n 2, 1) := by decide +kernel
theorem d_W_law_555 : decode b_W_law 555 = .ok (.aload_n 0, 1) := by decide +kernel
theorem d_W_law_556 : decode b_W_law 556 = .ok (.iload_n 3, 1) := by decide +kernel
theorem d_W_law_557 : decode b_W_law 557 = .ok (.iconst 1, 1) := by decide +kernel
theorem d_W_law_558 : decode b_W_law 558 = .ok (.iadd, 1) := by decide +kernel
theorem d_W_law_559 : decode b_W_law 559 = .ok (.iaload, 1) := by decide +kernel
theorem d_W_law_560 : decode b_W_law 560 = .ok (.aload_n 0, 1) := by decide +kernel
theorem d_W_law_561 : decode b_W_law 561 = .ok (.iload_n 3, 1) := by decide +kernel
theorem d_W_law_562 : decode b_W_law 562 = .ok (.iconst 2, 1) := by decide +kernel
theorem d_W_law_563 : decode b_W_law 563 = .ok (.iadd, 1) := by decide +kernel
theorem d_W_law_564 : decode b_W_law 564 = .ok (.iaload, 1) := by decide +kernel
theorem d_W_law_565 : decode b_W_law 565 = .ok (.invokevirtual 94, 3) := by decide +kernel
theorem d_W_law_568 : decode b_W_law 568 = .ok (.if_icmp .eq 94, 3) := by decide +kernel
theorem d_W_law_571 : decode b_W_law 571 = .ok (.iconst 0, 1) := by decide +kernel
theorem d_W_law_572 : decode b_W_law 572 = .ok (.ireturn, 1) := by decide +kernel
theorem d_W_law_573 : decode b_W_law 573 = .ok (.aload_n 1, 1) := by decide +kernel
theorem d_W_law_574 : decode b_W_law 574 = .ok (.aload_n 0, 1) := by decide +kernel
theorem d_W_law_575 : decode b_W_law 575 = .ok (.iload_n 3, 1) := by decide +kernel
theorem d_W_law_576 : decode b_W_law 576 = .ok (.iconst 1, 1) := by decide +kernel
theorem d_W_law_577 : decode b_W_law 577 = .ok (.iadd, 1) := by decide +kernel
theorem d_W_law_578 : decode b_W_law 578 = .ok (.iaload, 1) := by decide +kernel
theorem d_W_law_579 : decode b_W_law 579 = .ok (.aload_n 0, 1) := by decide +kernel
theorem d_W_law_580 : decode b_W_law 580 = .ok (.iload_n 3, 1) := by decide +kernel
theorem d_W_law_581 : decode b_W_law 581 = .ok (.iconst 2, 1) := by decide +kernel
theorem d_W_law_582 : decode b_W_law 582 = .ok (.iadd, 1) := by decide +kernel
theorem d_W_law_583 : decode b_W_law 583 = .ok (.iaload, 1) := by decide +kernel
theorem d_W_law_584 : decode b_W_law 584 = .ok (.invokevirtual 95, 3) := by decide +kernel
theorem d_W_law_587 : decode b_W_law 587 = .ok (.aload_n 2, 1) := by decide +kernel
theorem d_W_law_588 : decode b_W_law 588 = .ok (.aload_n 0, 1) := by decide +kernel
theorem d_W_law_589 : decode b_W_law 589 = .ok (.iload_n 3, 1) := by decide +kernel
theorem d_W_law_590 : decode b_W_law 590 = .ok (.iconst 1, 1) := by decide +kernel
theorem d_W_law_591 : decode b_W_law 591 = .ok (.iadd, 1) := by decide +kernel
theorem d_W_law_592 : decode b_W_law 592 = .ok (.iaload, 1) := by decide +kernel
theorem d_W_law_593 : decode b_W_law 593 = .ok (.aload_n 0, 1) := by decide +kernel
theorem d_W_law_594 : decode b_W_law 594 = .ok (.iload_n 3, 1) := by decide +kernel
theorem d_W_law_595 : decode b_W_law 595 = .ok (.iconst 2, 1) := by decide +kernel
theorem d_W_law_596 : decode b_W_law 596 = .ok (.iadd, 1) := by decide +kernel
theorem d_W_law_597 : decode b_W_law 597 = .ok (.iaload, 1) := by decide +kernel
theorem d_W_law_598 : decode b_W_law 598 = .ok (.invokevirtual 98, 3) := by decide +kernel
theorem d_W_law_601 : decode b_W_law 601 = .ok (.if_icmp .eq 61, 3) := by decide +kernel
theorem d_W_law_604 : decode b_W_law 604 = .ok (.iconst 0, 1) := by decide +kernel
theorem d_W_law_605 : decode b_W_law 605 = .ok (.ireturn, 1) := by decide +kernel
theorem d_W_law_606 : decode b_W_law 606 = .ok (.aload_n 1, 1) := by decide +kernel
theorem d_W_law_607 : decode b_W_law 607 = .ok (.aload_n 0, 1) := by decide +kernel
theorem d_W_law_608 : decode b_W_law 608 = .ok (.iload_n 3, 1) := by decide +kernel
theorem d_W_law_609 : decode b_W_law 609 = .ok (.iconst 1, 1) := by decide +kernel
theorem d_W_law_610 : decode b_W_law 610 = .ok (.iadd, 1) := by decide +kernel
theorem d_W_law_611 : decode b_W_law 611 = .ok (.iaload, 1) := by decide +kernel
theorem d_W_law_612 : decode b_W_law 612 = .ok (.aload_n 0, 1) := by decide +kernel
theorem d_W_law_613 : decode b_W_law 613 = .ok (.iload_n 3, 1) := by decide +kernel
theorem d_W_law_614 : decode b_W_law 614 = .ok (.iconst 2, 1) := by decide +kernel
theorem d_W_law_615 : decode b_W_law 615 = .ok (.iadd, 1) := by decide +kernel
theorem d_W_law_616 : decode b_W_law 616 = .ok (.iaload, 1) := by decide +kernel
theorem d_W_law_617 : decode b_W_law 617 = .ok (.invokevirtual 99, 3) := by decide +kernel
theorem d_W_law_620 : decode b_W_law 620 = .ok (.aload_n 2, 1) := by decide +kernel
theorem d_W_law_621 : decode b_W_law 621 = .ok (.aload_n 0, 1) := by decide +kernel
theorem d_W_law_622 : decode b_W_law 622 = .ok (.iload_n 3, 1) := by decide +kernel
theorem d_W_law_623 : decode b_W_law 623 = .ok (.iconst 1, 1) := by decide +kernel
theorem d_W_law_624 : decode b_W_law 624 = .ok (.iadd, 1) := by decide +kernel
theorem d_W_law_625 : decode b_W_law 625 = .ok (.iaload, 1) := by decide +kernel
theorem d_W_law_626 : decode b_W_law 626 = .ok (.aload_n 0, 1) := by decide +kernel
theorem d_W_law_627 : decode b_W_law 627 = .ok (.iload_n 3, 1) := by decide +kernel
theorem d_W_law_628 : decode b_W_law 628 = .ok (.iconst 2, 1) := by decide +kernel
theorem d_W_law_629 : decode b_W_law 629 = .ok (.iadd, 1) := by decide +kernel
theorem d_W_law_630 : decode b_W_law 630 = .ok (.iaload, 1) := by decide +kernel
theorem d_W_law_631 : decode b_W_law 631 = .ok (.invokevirtual 102, 3) := by decide +kernel
theorem d_W_law_634 : decode b_W_law 634 = .ok (.if_icmp .eq 28, 3) := by decide +kernel
theorem d_W_law_637 : decode b_W_law 637 = .ok (.iconst 0, 1) := by decide +kernel
theorem d_W_law_638 : decode b_W_law 638 = .ok (.ireturn, 1) := by decide +kernel
theorem d_W_law_639 : decode b_W_law 639 = .ok (.aload_n 1, 1) := by decide +kernel
theorem d_W_law_640 : decode b_W_law 640 = .ok (.aload_n 0, 1) := by decide +kernel
theorem d_W_law_641 : decode b_W_law 641 = .ok (.iload_n 3, 1) := by decide +kernel
theorem d_W_law_642 : decode b_W_law 642 = .ok (.iconst 1, 1) := by decide +kernel
theorem d_W_law_643 : decode b_W_law 643 = .ok (.iadd, 1) := by decide +kernel
theorem d_W_law_644 : decode b_W_law 644 = .ok (.iaload, 1) := by decide +kernel
theorem d_W_law_645 : decode b_W_law 645 = .ok (.invokevirtual 103, 3) := by decide +kernel
theorem d_W_law_648 : decode b_W_law 648 = .ok (.aload_n 2, 1) := by decide +kernel
theorem d_W_law_649 : decode b_W_law 649 = .ok (.aload_n 0, 1) := by decide +kernel
theorem d_W_law_650 : decode b_W_law 650 = .ok (.iload_n 3, 1) := by decide +kernel
theorem d_W_law_651 : decode b_W_law 651 = .ok (.iconst 1, 1) := by decide +kernel
theorem d_W_law_652 : decode b_W_law 652 = .ok (.iadd, 1) := by decide +kernel
theorem d_W_law_653 : decode b_W_law 653 = .ok (.iaload, 1) := by decide +kernel
theorem d_W_law_654 : decode b_W_law 654 = .ok (.invokevirtual 106, 3) := by decide +kernel
theorem d_W_law_657 : decode b_W_law 657 = .ok (.if_icmp .eq 5, 3) := by decide +kernel
theorem d_W_law_660 : decode b_W_law 660 = .ok (.iconst 0, 1) := by decide +kernel
theorem d_W_law_661 : decode b_W_law 661 = .ok (.ireturn, 1) := by decide +kernel
theorem d_W_law_662 : decode b_W_law 662 = .ok (.iinc 3 3, 3) := by decide +kernel
theorem d_W_law_665 : decode b_W_law 665 = .ok (.goto (-647), 3) := by decide +kernel
theorem d_W_law_668 : decode b_W_law 668 = .ok (.iconst 1, 1) := by decide +kernel
theorem d_W_law_669 : decode b_W_law 669 = .ok (.ireturn, 1) := by decide +kernel
