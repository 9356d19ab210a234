/-! the law: its instructions -/
set_option maxRecDepth 100000 in
theorem dL_0 : decode code 0 = .ok (.new 7, 3) := by decide +kernel
set_option maxRecDepth 100000 in
theorem dL_3 : decode code 3 = .ok (.dup, 1) := by decide +kernel
set_option maxRecDepth 100000 in
theorem dL_4 : decode code 4 = .ok (.invokespecial 9, 3) := by decide +kernel
set_option maxRecDepth 100000 in
theorem dL_7 : decode code 7 = .ok (.astore_n 1, 1) := by decide +kernel
set_option maxRecDepth 100000 in
theorem dL_8 : decode code 8 = .ok (.new 10, 3) := by decide +kernel
set_option maxRecDepth 100000 in
theorem dL_11 : decode code 11 = .ok (.dup, 1) := by decide +kernel
set_option maxRecDepth 100000 in
theorem dL_12 : decode code 12 = .ok (.invokespecial 12, 3) := by decide +kernel
set_option maxRecDepth 100000 in
theorem dL_15 : decode code 15 = .ok (.astore_n 2, 1) := by decide +kernel
set_option maxRecDepth 100000 in
theorem dL_16 : decode code 16 = .ok (.iconst 0, 1) := by decide +kernel
set_option maxRecDepth 100000 in
theorem dL_17 : decode code 17 = .ok (.istore_n 3, 1) := by decide +kernel
set_option maxRecDepth 100000 in
theorem dL_18 : decode code 18 = .ok (.iload_n 3, 1) := by decide +kernel
set_option maxRecDepth 100000 in
theorem dL_19 : decode code 19 = .ok (.aload_n 0, 1) := by decide +kernel
set_option maxRecDepth 100000 in
theorem dL_20 : decode code 20 = .ok (.arraylength, 1) := by decide +kernel
set_option maxRecDepth 100000 in
theorem dL_21 : decode code 21 = .ok (.iconst 4, 1) := by decide +kernel
set_option maxRecDepth 100000 in
theorem dL_22 : decode code 22 = .ok (.isub, 1) := by decide +kernel
set_option maxRecDepth 100000 in
theorem dL_23 : decode code 23 = .ok (.if_icmp .gt 968, 3) := by decide +kernel
set_option maxRecDepth 100000 in
theorem dL_26 : decode code 26 = .ok (.aload_n 0, 1) := by decide +kernel
set_option maxRecDepth 100000 in
theorem dL_27 : decode code 27 = .ok (.iload_n 3, 1) := by decide +kernel
set_option maxRecDepth 100000 in
theorem dL_28 : decode code 28 = .ok (.iaload, 1) := by decide +kernel
set_option maxRecDepth 100000 in
theorem dL_29 : decode code 29 = .ok (.bipush 31, 2) := by decide +kernel
set_option maxRecDepth 100000 in
theorem dL_31 : decode code 31 = .ok (.iand, 1) := by decide +kernel
set_option maxRecDepth 100000 in
theorem dL_32 : decode code 32 = .ok (.tableswitch 953 0 27 #[128, 151, 164, 177, 190, 233, 256, 279, 322, 355, 398, 431, 474, 487, 521, 554, 587, 620, 663, 696, 729, 762, 795, 858, 871, 884, 907, 930], 128) := by decide +kernel
set_option maxRecDepth 100000 in
theorem dL_160 : decode code 160 = .ok (.aload_n 1, 1) := by decide +kernel
set_option maxRecDepth 100000 in
theorem dL_161 : decode code 161 = .ok (.aload_n 0, 1) := by decide +kernel
set_option maxRecDepth 100000 in
theorem dL_162 : decode code 162 = .ok (.iload_n 3, 1) := by decide +kernel
set_option maxRecDepth 100000 in
theorem dL_163 : decode code 163 = .ok (.iconst 1, 1) := by decide +kernel
set_option maxRecDepth 100000 in
theorem dL_164 : decode code 164 = .ok (.iadd, 1) := by decide +kernel
set_option maxRecDepth 100000 in
theorem dL_165 : decode code 165 = .ok (.iaload, 1) := by decide +kernel
set_option maxRecDepth 100000 in
theorem dL_166 : decode code 166 = .ok (.invokevirtual 13, 3) := by decide +kernel
set_option maxRecDepth 100000 in
theorem dL_169 : decode code 169 = .ok (.aload_n 2, 1) := by decide +kernel
set_option maxRecDepth 100000 in
theorem dL_170 : decode code 170 = .ok (.aload_n 0, 1) := by decide +kernel
set_option maxRecDepth 100000 in
theorem dL_171 : decode code 171 = .ok (.iload_n 3, 1) := by decide +kernel
set_option maxRecDepth 100000 in
theorem dL_172 : decode code 172 = .ok (.iconst 1, 1) := by decide +kernel
set_option maxRecDepth 100000 in
theorem dL_173 : decode code 173 = .ok (.iadd, 1) := by decide +kernel
set_option maxRecDepth 100000 in
theorem dL_174 : decode code 174 = .ok (.iaload, 1) := by decide +kernel
set_option maxRecDepth 100000 in
theorem dL_175 : decode code 175 = .ok (.invokevirtual 17, 3) := by decide +kernel
set_option maxRecDepth 100000 in
theorem dL_178 : decode code 178 = .ok (.if_icmp .eq 807, 3) := by decide +kernel
set_option maxRecDepth 100000 in
theorem dL_181 : decode code 181 = .ok (.iconst 0, 1) := by decide +kernel
set_option maxRecDepth 100000 in
theorem dL_182 : decode code 182 = .ok (.ireturn, 1) := by decide +kernel
set_option maxRecDepth 100000 in
theorem dL_183 : decode code 183 = .ok (.aload_n 1, 1) := by decide +kernel
set_option maxRecDepth 100000 in
theorem dL_184 : decode code 184 = .ok (.invokevirtual 18, 3) := by decide +kernel
set_option maxRecDepth 100000 in
theorem dL_187 : decode code 187 = .ok (.aload_n 2, 1) := by decide +kernel
set_option maxRecDepth 100000 in
theorem dL_188 : decode code 188 = .ok (.invokevirtual 22, 3) := by decide +kernel
set_option maxRecDepth 100000 in
theorem dL_191 : decode code 191 = .ok (.if_icmp .eq 794, 3) := by decide +kernel
set_option maxRecDepth 100000 in
theorem dL_194 : decode code 194 = .ok (.iconst 0, 1) := by decide +kernel
set_option maxRecDepth 100000 in
theorem dL_195 : decode code 195 = .ok (.ireturn, 1) := by decide +kernel
set_option maxRecDepth 100000 in
theorem dL_196 : decode code 196 = .ok (.aload_n 1, 1) := by decide +kernel
set_option maxRecDepth 100000 in
theorem dL_197 : decode code 197 = .ok (.invokevirtual 23, 3) := by decide +kernel
set_option maxRecDepth 100000 in
theorem dL_200 : decode code 200 = .ok (.aload_n 2, 1) := by decide +kernel
set_option maxRecDepth 100000 in
theorem dL_201 : decode code 201 = .ok (.invokevirtual 26, 3) := by decide +kernel
set_option maxRecDepth 100000 in
theorem dL_204 : decode code 204 = .ok (.if_icmp .eq 781, 3) := by decide +kernel
set_option maxRecDepth 100000 in
theorem dL_207 : decode code 207 = .ok (.iconst 0, 1) := by decide +kernel
set_option maxRecDepth 100000 in
theorem dL_208 : decode code 208 = .ok (.ireturn, 1) := by decide +kernel
set_option maxRecDepth 100000 in
theorem dL_209 : decode code 209 = .ok (.aload_n 1, 1) := by decide +kernel
set_option maxRecDepth 100000 in
theorem dL_210 : decode code 210 = .ok (.invokevirtual 27, 3) := by decide +kernel
set_option maxRecDepth 100000 in
theorem dL_213 : decode code 213 = .ok (.aload_n 2, 1) := by decide +kernel
set_option maxRecDepth 100000 in
theorem dL_214 : decode code 214 = .ok (.invokevirtual 30, 3) := by decide +kernel
set_option maxRecDepth 100000 in
theorem dL_217 : decode code 217 = .ok (.if_icmp .eq 768, 3) := by decide +kernel
set_option maxRecDepth 100000 in
theorem dL_220 : decode code 220 = .ok (.iconst 0, 1) := by decide +kernel
set_option maxRecDepth 100000 in
theorem dL_221 : decode code 221 = .ok (.ireturn, 1) := by decide +kernel
set_option maxRecDepth 100000 in
theorem dL_222 : decode code 222 = .ok (.aload_n 1, 1) := by decide +kernel
set_option maxRecDepth 100000 in
theorem dL_223 : decode code 223 = .ok (.aload_n 0, 1) := by decide +kernel
set_option maxRecDepth 100000 in
theorem dL_224 : decode code 224 = .ok (.iload_n 3, 1) := by decide +kernel
set_option maxRecDepth 100000 in
theorem dL_225 : decode code 225 = .ok (.iconst 1, 1) := by decide +kernel
set_option maxRecDepth 100000 in
theorem dL_226 : decode code 226 = .ok (.iadd, 1) := by decide +kernel
set_option maxRecDepth 100000 in
theorem dL_227 : decode code 227 = .ok (.iaload, 1) := by decide +kernel
set_option maxRecDepth 100000 in
theorem dL_228 : decode code 228 = .ok (.aload_n 0, 1) := by decide +kernel
set_option maxRecDepth 100000 in
theorem dL_229 : decode code 229 = .ok (.iload_n 3, 1) := by decide +kernel
set_option maxRecDepth 100000 in
theorem dL_230 : decode code 230 = .ok (.iconst 2, 1) := by decide +kernel
set_option maxRecDepth 100000 in
theorem dL_231 : decode code 231 = .ok (.iadd, 1) := by decide +kernel
set_option maxRecDepth 100000 in
theorem dL_232 : decode code 232 = .ok (.iaload, 1) := by decide +kernel
set_option maxRecDepth 100000 in
theorem dL_233 : decode code 233 = .ok (.aload_n 0, 1) := by decide +kernel
set_option maxRecDepth 100000 in
theorem dL_234 : decode code 234 = .ok (.iload_n 3, 1) := by decide +kernel
set_option maxRecDepth 100000 in
theorem dL_235 : decode code 235 = .ok (.iconst 3, 1) := by decide +kernel
set_option maxRecDepth 100000 in
theorem dL_236 : decode code 236 = .ok (.iadd, 1) := by decide +kernel
set_option maxRecDepth 100000 in
theorem dL_237 : decode code 237 = .ok (.iaload, 1) := by decide +kernel
set_option maxRecDepth 100000 in
theorem dL_238 : decode code 238 = .ok (.invokevirtual 31, 3) := by decide +kernel
set_option maxRecDepth 100000 in
theorem dL_241 : decode code 241 = .ok (.aload_n 2, 1) := by decide +kernel
set_option maxRecDepth 100000 in
theorem dL_242 : decode code 242 = .ok (.aload_n 0, 1) := by decide +kernel
set_option maxRecDepth 100000 in
theorem dL_243 : decode code 243 = .ok (.iload_n 3, 1) := by decide +kernel
set_option maxRecDepth 100000 in
theorem dL_244 : decode code 244 = .ok (.iconst 1, 1) := by decide +kernel
set_option maxRecDepth 100000 in
theorem dL_245 : decode code 245 = .ok (.iadd, 1) := by decide +kernel
set_option maxRecDepth 100000 in
theorem dL_246 : decode code 246 = .ok (.iaload, 1) := by decide +kernel
set_option maxRecDepth 100000 in
theorem dL_247 : decode code 247 = .ok (.aload_n 0, 1) := by decide +kernel
set_option maxRecDepth 100000 in
theorem dL_248 : decode code 248 = .ok (.iload_n 3, 1) := by decide +kernel
set_option maxRecDepth 100000 in
theorem dL_249 : decode code 249 = .ok (.iconst 2, 1) := by decide +kernel
set_option maxRecDepth 100000 in
theorem dL_250 : decode code 250 = .ok (.iadd, 1) := by decide +kernel
set_option maxRecDepth 100000 in
theorem dL_251 : decode code 251 = .ok (.iaload, 1) := by decide +kernel
set_option maxRecDepth 100000 in
theorem dL_252 : decode code 252 = .ok (.aload_n 0, 1) := by decide +kernel
set_option maxRecDepth 100000 in
theorem dL_253 : decode code 253 = .ok (.iload_n 3, 1) := by decide +kernel
set_option maxRecDepth 100000 in
theorem dL_254 : decode code 254 = .ok (.iconst 3, 1) := by decide +kernel
set_option maxRecDepth 100000 in
theorem dL_255 : decode code 255 = .ok (.iadd, 1) := by decide +kernel
set_option maxRecDepth 100000 in
theorem dL_256 : decode code 256 = .ok (.iaload, 1) := by decide +kernel
set_option maxRecDepth 100000 in
theorem dL_257 : decode code 257 = .ok (.invokevirtual 35, 3) := by decide +kernel
set_option maxRecDepth 100000 in
theorem dL_260 : decode code 260 = .ok (.if_icmp .eq 725, 3) := by decide +kernel
set_option maxRecDepth 100000 in
theorem dL_263 : decode code 263 = .ok (.iconst 0, 1) := by decide +kernel
set_option maxRecDepth 100000 in
theorem dL_264 : decode code 264 = .ok (.ireturn, 1) := by decide +kernel
set_option maxRecDepth 100000 in
theorem dL_265 : decode code 265 = .ok (.aload_n 1, 1) := by decide +kernel
set_option maxRecDepth 100000 in
theorem dL_266 : decode code 266 = .ok (.aload_n 0, 1) := by decide +kernel
set_option maxRecDepth 100000 in
theorem dL_267 : decode code 267 = .ok (.iload_n 3, 1) := by decide +kernel
set_option maxRecDepth 100000 in
theorem dL_268 : decode code 268 = .ok (.iconst 1, 1) := by decide +kernel
set_option maxRecDepth 100000 in
theorem dL_269 : decode code 269 = .ok (.iadd, 1) := by decide +kernel
set_option maxRecDepth 100000 in
theorem dL_270 : decode code 270 = .ok (.iaload, 1) := by decide +kernel
set_option maxRecDepth 100000 in
theorem dL_271 : decode code 271 = .ok (.invokevirtual 36, 3) := by decide +kernel
set_option maxRecDepth 100000 in
theorem dL_274 : decode code 274 = .ok (.aload_n 2, 1) := by decide +kernel
set_option maxRecDepth 100000 in
theorem dL_275 : decode code 275 = .ok (.aload_n 0, 1) := by decide +kernel
set_option maxRecDepth 100000 in
theorem dL_276 : decode code 276 = .ok (.iload_n 3, 1) := by decide +kernel
set_option maxRecDepth 100000 in
theorem dL_277 : decode code 277 = .ok (.iconst 1, 1) := by decide +kernel
set_option maxRecDepth 100000 in
theorem dL_278 : decode code 278 = .ok (.iadd, 1) := by decide +kernel
set_option maxRecDepth 100000 in
theorem dL_279 : decode code 279 = .ok (.iaload, 1) := by decide +kernel
set_option maxRecDepth 100000 in
theorem dL_280 : decode code 280 = .ok (.invokevirtual 39, 3) := by decide +kernel
set_option maxRecDepth 100000 in
theorem dL_283 : decode code 283 = .ok (.if_icmp .eq 702, 3) := by decide +kernel
set_option maxRecDepth 100000 in
theorem dL_286 : decode code 286 = .ok (.iconst 0, 1) := by decide +kernel
set_option maxRecDepth 100000 in
theorem dL_287 : decode code 287 = .ok (.ireturn, 1) := by decide +kernel
set_option maxRecDepth 100000 in
theorem dL_288 : decode code 288 = .ok (.aload_n 1, 1) := by decide +kernel
set_option maxRecDepth 100000 in
theorem dL_289 : decode code 289 = .ok (.aload_n 0, 1) := by decide +kernel
set_option maxRecDepth 100000 in
theorem dL_290 : decode code 290 = .ok (.iload_n 3, 1) := by decide +kernel
set_option maxRecDepth 100000 in
theorem dL_291 : decode code 291 = .ok (.iconst 1, 1) := by decide +kernel
set_option maxRecDepth 100000 in
theorem dL_292 : decode code 292 = .ok (.iadd, 1) := by decide +kernel
set_option maxRecDepth 100000 in
theorem dL_293 : decode code 293 = .ok (.iaload, 1) := by decide +kernel
set_option maxRecDepth 100000 in
theorem dL_294 : decode code 294 = .ok (.invokevirtual 40, 3) := by decide +kernel
set_option maxRecDepth 100000 in
theorem dL_297 : decode code 297 = .ok (.aload_n 2, 1) := by decide +kernel
set_option maxRecDepth 100000 in
theorem dL_298 : decode code 298 = .ok (.aload_n 0, 1) := by decide +kernel
set_option maxRecDepth 100000 in
theorem dL_299 : decode code 299 = .ok (.iload_n 3, 1) := by decide +kernel
set_option maxRecDepth 100000 in
theorem dL_300 : decode code 300 = .ok (.iconst 1, 1) := by decide +kernel
set_option maxRecDepth 100000 in
theorem dL_301 : decode code 301 = .ok (.iadd, 1) := by decide +kernel
set_option maxRecDepth 100000 in
theorem dL_302 : decode code 302 = .ok (.iaload, 1) := by decide +kernel
set_option maxRecDepth 100000 in
theorem dL_303 : decode code 303 = .ok (.invokevirtual 43, 3) := by decide +kernel
set_option maxRecDepth 100000 in
theorem dL_306 : decode code 306 = .ok (.if_icmp .eq 679, 3) := by decide +kernel
set_option maxRecDepth 100000 in
theorem dL_309 : decode code 309 = .ok (.iconst 0, 1) := by decide +kernel
set_option maxRecDepth 100000 in
theorem dL_310 : decode code 310 = .ok (.ireturn, 1) := by decide +kernel
set_option maxRecDepth 100000 in
theorem dL_311 : decode code 311 = .ok (.aload_n 1, 1) := by decide +kernel
set_option maxRecDepth 100000 in
theorem dL_312 : decode code 312 = .ok (.aload_n 0, 1) := by decide +kernel
set_option maxRecDepth 100000 in
theorem dL_313 : decode code 313 = .ok (.iload_n 3, 1) := by decide +kernel
set_option maxRecDepth 100000 in
theorem dL_314 : decode code 314 = .ok (.iconst 1, 1) := by decide +kernel
set_option maxRecDepth 100000 in
theorem dL_315 : decode code 315 = .ok (.iadd, 1) := by decide +kernel
set_option maxRecDepth 100000 in
theorem dL_316 : decode code 316 = .ok (.iaload, 1) := by decide +kernel
set_option maxRecDepth 100000 in
theorem dL_317 : decode code 317 = .ok (.aload_n 0, 1) := by decide +kernel
set_option maxRecDepth 100000 in
theorem dL_318 : decode code 318 = .ok (.iload_n 3, 1) := by decide +kernel
set_option maxRecDepth 100000 in
theorem dL_319 : decode code 319 = .ok (.iconst 2, 1) := by decide +kernel
set_option maxRecDepth 100000 in
theorem dL_320 : decode code 320 = .ok (.iadd, 1) := by decide +kernel
set_option maxRecDepth 100000 in
theorem dL_321 : decode code 321 = .ok (.iaload, 1) := by decide +kernel
set_option maxRecDepth 100000 in
theorem dL_322 : decode code 322 = .ok (.aload_n 0, 1) := by decide +kernel
set_option maxRecDepth 100000 in
theorem dL_323 : decode code 323 = .ok (.iload_n 3, 1) := by decide +kernel
set_option maxRecDepth 100000 in
theorem dL_324 : decode code 324 = .ok (.iconst 3, 1) := by decide +kernel
set_option maxRecDepth 100000 in
theorem dL_325 : decode code 325 = .ok (.iadd, 1) := by decide +kernel
set_option maxRecDepth 100000 in
theorem dL_326 : decode code 326 = .ok (.iaload, 1) := by decide +kernel
set_option maxRecDepth 100000 in
theorem dL_327 : decode code 327 = .ok (.invokevirtual 44, 3) := by decide +kernel
set_option maxRecDepth 100000 in
theorem dL_330 : decode code 330 = .ok (.aload_n 2, 1) := by decide +kernel
set_option maxRecDepth 100000 in
theorem dL_331 : decode code 331 = .ok (.aload_n 0, 1) := by decide +kernel
set_option maxRecDepth 100000 in
theorem dL_332 : decode code 332 = .ok (.iload_n 3, 1) := by decide +kernel
set_option maxRecDepth 100000 in
theorem dL_333 : decode code 333 = .ok (.iconst 1, 1) := by decide +kernel
set_option maxRecDepth 100000 in
theorem dL_334 : decode code 334 = .ok (.iadd, 1) := by decide +kernel
set_option maxRecDepth 100000 in
theorem dL_335 : decode code 335 = .ok (.iaload, 1) := by decide +kernel
set_option maxRecDepth 100000 in
theorem dL_336 : decode code 336 = .ok (.aload_n 0, 1) := by decide +kernel
set_option maxRecDepth 100000 in
theorem dL_337 : decode code 337 = .ok (.iload_n 3, 1) := by decide +kernel
set_option maxRecDepth 100000 in
theorem dL_338 : decode code 338 = .ok (.iconst 2, 1) := by decide +kernel
set_option maxRecDepth 100000 in
theorem dL_339 : decode code 339 = .ok (.iadd, 1) := by decide +kernel
set_option maxRecDepth 100000 in
theorem dL_340 : decode code 340 = .ok (.iaload, 1) := by decide +kernel
set_option maxRecDepth 100000 in
theorem dL_341 : decode code 341 = .ok (.aload_n 0, 1) := by decide +kernel
set_option maxRecDepth 100000 in
theorem dL_342 : decode code 342 = .ok (.iload_n 3, 1) := by decide +kernel
set_option maxRecDepth 100000 in
theorem dL_343 : decode code 343 = .ok (.iconst 3, 1) := by decide +kernel
set_option maxRecDepth 100000 in
theorem dL_344 : decode code 344 = .ok (.iadd, 1) := by decide +kernel
set_option maxRecDepth 100000 in
theorem dL_345 : decode code 345 = .ok (.iaload, 1) := by decide +kernel
set_option maxRecDepth 100000 in
theorem dL_346 : decode code 346 = .ok (.invokevirtual 47, 3) := by decide +kernel
set_option maxRecDepth 100000 in
theorem dL_349 : decode code 349 = .ok (.if_icmp .eq 636, 3) := by decide +kernel
set_option maxRecDepth 100000 in
theorem dL_352 : decode code 352 = .ok (.iconst 0, 1) := by decide +kernel
set_option maxRecDepth 100000 in
theorem dL_353 : decode code 353 = .ok (.ireturn, 1) := by decide +kernel
set_option maxRecDepth 100000 in
theorem dL_354 : decode code 354 = .ok (.aload_n 1, 1) := by decide +kernel
set_option maxRecDepth 100000 in
theorem dL_355 : decode code 355 = .ok (.aload_n 0, 1) := by decide +kernel
set_option maxRecDepth 100000 in
theorem dL_356 : decode code 356 = .ok (.iload_n 3, 1) := by decide +kernel
set_option maxRecDepth 100000 in
theorem dL_357 : decode code 357 = .ok (.iconst 1, 1) := by decide +kernel
set_option maxRecDepth 100000 in
theorem dL_358 : decode code 358 = .ok (.iadd, 1) := by decide +kernel
set_option maxRecDepth 100000 in
theorem dL_359 : decode code 359 = .ok (.iaload, 1) := by decide +kernel
set_option maxRecDepth 100000 in
theorem dL_360 : decode code 360 = .ok (.aload_n 0, 1) := by decide +kernel
set_option maxRecDepth 100000 in
theorem dL_361 : decode code 361 = .ok (.iload_n 3, 1) := by decide +kernel
set_option maxRecDepth 100000 in
theorem dL_362 : decode code 362 = .ok (.iconst 2, 1) := by decide +kernel
set_option maxRecDepth 100000 in
theorem dL_363 : decode code 363 = .ok (.iadd, 1) := by decide +kernel
set_option maxRecDepth 100000 in
theorem dL_364 : decode code 364 = .ok (.iaload, 1) := by decide +kernel
set_option maxRecDepth 100000 in
theorem dL_365 : decode code 365 = .ok (.invokevirtual 48, 3) := by decide +kernel
set_option maxRecDepth 100000 in
theorem dL_368 : decode code 368 = .ok (.aload_n 2, 1) := by decide +kernel
set_option maxRecDepth 100000 in
theorem dL_369 : decode code 369 = .ok (.aload_n 0, 1) := by decide +kernel
set_option maxRecDepth 100000 in
theorem dL_370 : decode code 370 = .ok (.iload_n 3, 1) := by decide +kernel
set_option maxRecDepth 100000 in
theorem dL_371 : decode code 371 = .ok (.iconst 1, 1) := by decide +kernel
set_option maxRecDepth 100000 in
theorem dL_372 : decode code 372 = .ok (.iadd, 1) := by decide +kernel
set_option maxRecDepth 100000 in
theorem dL_373 : decode code 373 = .ok (.iaload, 1) := by decide +kernel
set_option maxRecDepth 100000 in
theorem dL_374 : decode code 374 = .ok (.aload_n 0, 1) := by decide +kernel
set_option maxRecDepth 100000 in
theorem dL_375 : decode code 375 = .ok (.iload_n 3, 1) := by decide +kernel
set_option maxRecDepth 100000 in
theorem dL_376 : decode code 376 = .ok (.iconst 2, 1) := by decide +kernel
set_option maxRecDepth 100000 in
theorem dL_377 : decode code 377 = .ok (.iadd, 1) := by decide +kernel
set_option maxRecDepth 100000 in
theorem dL_378 : decode code 378 = .ok (.iaload, 1) := by decide +kernel
set_option maxRecDepth 100000 in
theorem dL_379 : decode code 379 = .ok (.invokevirtual 52, 3) := by decide +kernel
set_option maxRecDepth 100000 in
theorem dL_382 : decode code 382 = .ok (.if_icmp .eq 603, 3) := by decide +kernel
set_option maxRecDepth 100000 in
theorem dL_385 : decode code 385 = .ok (.iconst 0, 1) := by decide +kernel
set_option maxRecDepth 100000 in
theorem dL_386 : decode code 386 = .ok (.ireturn, 1) := by decide +kernel
set_option maxRecDepth 100000 in
theorem dL_387 : decode code 387 = .ok (.aload_n 1, 1) := by decide +kernel
set_option maxRecDepth 100000 in
theorem dL_388 : decode code 388 = .ok (.aload_n 0, 1) := by decide +kernel
set_option maxRecDepth 100000 in
theorem dL_389 : decode code 389 = .ok (.iload_n 3, 1) := by decide +kernel
set_option maxRecDepth 100000 in
theorem dL_390 : decode code 390 = .ok (.iconst 1, 1) := by decide +kernel
set_option maxRecDepth 100000 in
theorem dL_391 : decode code 391 = .ok (.iadd, 1) := by decide +kernel
set_option maxRecDepth 100000 in
theorem dL_392 : decode code 392 = .ok (.iaload, 1) := by decide +kernel
set_option maxRecDepth 100000 in
theorem dL_393 : decode code 393 = .ok (.aload_n 0, 1) := by decide +kernel
set_option maxRecDepth 100000 in
theorem dL_394 : decode code 394 = .ok (.iload_n 3, 1) := by decide +kernel
set_option maxRecDepth 100000 in
theorem dL_395 : decode code 395 = .ok (.iconst 2, 1) := by decide +kernel
set_option maxRecDepth 100000 in
theorem dL_396 : decode code 396 = .ok (.iadd, 1) := by decide +kernel
set_option maxRecDepth 100000 in
theorem dL_397 : decode code 397 = .ok (.iaload, 1) := by decide +kernel
set_option maxRecDepth 100000 in
theorem dL_398 : decode code 398 = .ok (.aload_n 0, 1) := by decide +kernel
set_option maxRecDepth 100000 in
theorem dL_399 : decode code 399 = .ok (.iload_n 3, 1) := by decide +kernel
set_option maxRecDepth 100000 in
theorem dL_400 : decode code 400 = .ok (.iconst 3, 1) := by decide +kernel
set_option maxRecDepth 100000 in
theorem dL_401 : decode code 401 = .ok (.iadd, 1) := by decide +kernel
set_option maxRecDepth 100000 in
theorem dL_402 : decode code 402 = .ok (.iaload, 1) := by decide +kernel
set_option maxRecDepth 100000 in
theorem dL_403 : decode code 403 = .ok (.invokevirtual 53, 3) := by decide +kernel
set_option maxRecDepth 100000 in
theorem dL_406 : decode code 406 = .ok (.aload_n 2, 1) := by decide +kernel
set_option maxRecDepth 100000 in
theorem dL_407 : decode code 407 = .ok (.aload_n 0, 1) := by decide +kernel
set_option maxRecDepth 100000 in
theorem dL_408 : decode code 408 = .ok (.iload_n 3, 1) := by decide +kernel
set_option maxRecDepth 100000 in
theorem dL_409 : decode code 409 = .ok (.iconst 1, 1) := by decide +kernel
set_option maxRecDepth 100000 in
theorem dL_410 : decode code 410 = .ok (.iadd, 1) := by decide +kernel
set_option maxRecDepth 100000 in
theorem dL_411 : decode code 411 = .ok (.iaload, 1) := by decide +kernel
set_option maxRecDepth 100000 in
theorem dL_412 : decode code 412 = .ok (.aload_n 0, 1) := by decide +kernel
set_option maxRecDepth 100000 in
theorem dL_413 : decode code 413 = .ok (.iload_n 3, 1) := by decide +kernel
set_option maxRecDepth 100000 in
theorem dL_414 : decode code 414 = .ok (.iconst 2, 1) := by decide +kernel
set_option maxRecDepth 100000 in
theorem dL_415 : decode code 415 = .ok (.iadd, 1) := by decide +kernel
set_option maxRecDepth 100000 in
theorem dL_416 : decode code 416 = .ok (.iaload, 1) := by decide +kernel
set_option maxRecDepth 100000 in
theorem dL_417 : decode code 417 = .ok (.aload_n 0, 1) := by decide +kernel
set_option maxRecDepth 100000 in
theorem dL_418 : decode code 418 = .ok (.iload_n 3, 1) := by decide +kernel
set_option maxRecDepth 100000 in
theorem dL_419 : decode code 419 = .ok (.iconst 3, 1) := by decide +kernel
set_option maxRecDepth 100000 in
theorem dL_420 : decode code 420 = .ok (.iadd, 1) := by decide +kernel
set_option maxRecDepth 100000 in
theorem dL_421 : decode code 421 = .ok (.iaload, 1) := by decide +kernel
set_option maxRecDepth 100000 in
theorem dL_422 : decode code 422 = .ok (.invokevirtual 56, 3) := by decide +kernel
set_option maxRecDepth 100000 in
theorem dL_425 : decode code 425 = .ok (.if_icmp .eq 560, 3) := by decide +kernel
set_option maxRecDepth 100000 in
theorem dL_428 : decode code 428 = .ok (.iconst 0, 1) := by decide +kernel
set_option maxRecDepth 100000 in
theorem dL_429 : decode code 429 = .ok (.ireturn, 1) := by decide +kernel
set_option maxRecDepth 100000 in
theorem dL_430 : decode code 430 = .ok (.aload_n 1, 1) := by decide +kernel
set_option maxRecDepth 100000 in
theorem dL_431 : decode code 431 = .ok (.aload_n 0, 1) := by decide +kernel
set_option maxRecDepth 100000 in
theorem dL_432 : decode code 432 = .ok (.iload_n 3, 1) := by decide +kernel
set_option maxRecDepth 100000 in
theorem dL_433 : decode code 433 = .ok (.iconst 1, 1) := by decide +kernel
set_option maxRecDepth 100000 in
theorem dL_434 : decode code 434 = .ok (.iadd, 1) := by decide +kernel
set_option maxRecDepth 100000 in
theorem dL_435 : decode code 435 = .ok (.iaload, 1) := by decide +kernel
set_option maxRecDepth 100000 in
theorem dL_436 : decode code 436 = .ok (.aload_n 0, 1) := by decide +kernel
set_option maxRecDepth 100000 in
theorem dL_437 : decode code 437 = .ok (.iload_n 3, 1) := by decide +kernel
set_option maxRecDepth 100000 in
theorem dL_438 : decode code 438 = .ok (.iconst 2, 1) := by decide +kernel
set_option maxRecDepth 100000 in
theorem dL_439 : decode code 439 = .ok (.iadd, 1) := by decide +kernel
set_option maxRecDepth 100000 in
theorem dL_440 : decode code 440 = .ok (.iaload, 1) := by decide +kernel
set_option maxRecDepth 100000 in
theorem dL_441 : decode code 441 = .ok (.invokevirtual 57, 3) := by decide +kernel
set_option maxRecDepth 100000 in
theorem dL_444 : decode code 444 = .ok (.aload_n 2, 1) := by decide +kernel
set_option maxRecDepth 100000 in
theorem dL_445 : decode code 445 = .ok (.aload_n 0, 1) := by decide +kernel
set_option maxRecDepth 100000 in
theorem dL_446 : decode code 446 = .ok (.iload_n 3, 1) := by decide +kernel
set_option maxRecDepth 100000 in
theorem dL_447 : decode code 447 = .ok (.iconst 1, 1) := by decide +kernel
set_option maxRecDepth 100000 in
theorem dL_448 : decode code 448 = .ok (.iadd, 1) := by decide +kernel
set_option maxRecDepth 100000 in
theorem dL_449 : decode code 449 = .ok (.iaload, 1) := by decide +kernel
set_option maxRecDepth 100000 in
theorem dL_450 : decode code 450 = .ok (.aload_n 0, 1) := by decide +kernel
set_option maxRecDepth 100000 in
theorem dL_451 : decode code 451 = .ok (.iload_n 3, 1) := by decide +kernel
set_option maxRecDepth 100000 in
theorem dL_452 : decode code 452 = .ok (.iconst 2, 1) := by decide +kernel
set_option maxRecDepth 100000 in
theorem dL_453 : decode code 453 = .ok (.iadd, 1) := by decide +kernel
set_option maxRecDepth 100000 in
theorem dL_454 : decode code 454 = .ok (.iaload, 1) := by decide +kernel
set_option maxRecDepth 100000 in
theorem dL_455 : decode code 455 = .ok (.invokevirtual 60, 3) := by decide +kernel
set_option maxRecDepth 100000 in
theorem dL_458 : decode code 458 = .ok (.if_icmp .eq 527, 3) := by decide +kernel
set_option maxRecDepth 100000 in
theorem dL_461 : decode code 461 = .ok (.iconst 0, 1) := by decide +kernel
set_option maxRecDepth 100000 in
theorem dL_462 : decode code 462 = .ok (.ireturn, 1) := by decide +kernel
set_option maxRecDepth 100000 in
theorem dL_463 : decode code 463 = .ok (.aload_n 1, 1) := by decide +kernel
set_option maxRecDepth 100000 in
theorem dL_464 : decode code 464 = .ok (.aload_n 0, 1) := by decide +kernel
set_option maxRecDepth 100000 in
theorem dL_465 : decode code 465 = .ok (.iload_n 3, 1) := by decide +kernel
set_option maxRecDepth 100000 in
theorem dL_466 : decode code 466 = .ok (.iconst 1, 1) := by decide +kernel
set_option maxRecDepth 100000 in
theorem dL_467 : decode code 467 = .ok (.iadd, 1) := by decide +kernel
set_option maxRecDepth 100000 in
theorem dL_468 : decode code 468 = .ok (.iaload, 1) := by decide +kernel
set_option maxRecDepth 100000 in
theorem dL_469 : decode code 469 = .ok (.aload_n 0, 1) := by decide +kernel
set_option maxRecDepth 100000 in
theorem dL_470 : decode code 470 = .ok (.iload_n 3, 1) := by decide +kernel
set_option maxRecDepth 100000 in
theorem dL_471 : decode code 471 = .ok (.iconst 2, 1) := by decide +kernel
set_option maxRecDepth 100000 in
theorem dL_472 : decode code 472 = .ok (.iadd, 1) := by decide +kernel
set_option maxRecDepth 100000 in
theorem dL_473 : decode code 473 = .ok (.iaload, 1) := by decide +kernel
set_option maxRecDepth 100000 in
theorem dL_474 : decode code 474 = .ok (.aload_n 0, 1) := by decide +kernel
set_option maxRecDepth 100000 in
theorem dL_475 : decode code 475 = .ok (.iload_n 3, 1) := by decide +kernel
set_option maxRecDepth 100000 in
theorem dL_476 : decode code 476 = .ok (.iconst 3, 1) := by decide +kernel
set_option maxRecDepth 100000 in
theorem dL_477 : decode code 477 = .ok (.iadd, 1) := by decide +kernel
set_option maxRecDepth 100000 in
theorem dL_478 : decode code 478 = .ok (.iaload, 1) := by decide +kernel
set_option maxRecDepth 100000 in
theorem dL_479 : decode code 479 = .ok (.invokevirtual 61, 3) := by decide +kernel
set_option maxRecDepth 100000 in
theorem dL_482 : decode code 482 = .ok (.aload_n 2, 1) := by decide +kernel
set_option maxRecDepth 100000 in
theorem dL_483 : decode code 483 = .ok (.aload_n 0, 1) := by decide +kernel
set_option maxRecDepth 100000 in
theorem dL_484 : decode code 484 = .ok (.iload_n 3, 1) := by decide +kernel
set_option maxRecDepth 100000 in
theorem dL_485 : decode code 485 = .ok (.iconst 1, 1) := by decide +kernel
set_option maxRecDepth 100000 in
theorem dL_486 : decode code 486 = .ok (.iadd, 1) := by decide +kernel
set_option maxRecDepth 100000 in
theorem dL_487 : decode code 487 = .ok (.iaload, 1) := by decide +kernel
set_option maxRecDepth 100000 in
theorem dL_488 : decode code 488 = .ok (.aload_n 0, 1) := by decide +kernel
set_option maxRecDepth 100000 in
theorem dL_489 : decode code 489 = .ok (.iload_n 3, 1) := by decide +kernel
set_option maxRecDepth 100000 in
theorem dL_490 : decode code 490 = .ok (.iconst 2, 1) := by decide +kernel
set_option maxRecDepth 100000 in
theorem dL_491 : decode code 491 = .ok (.iadd, 1) := by decide +kernel
set_option maxRecDepth 100000 in
theorem dL_492 : decode code 492 = .ok (.iaload, 1) := by decide +kernel
set_option maxRecDepth 100000 in
theorem dL_493 : decode code 493 = .ok (.aload_n 0, 1) := by decide +kernel
set_option maxRecDepth 100000 in
theorem dL_494 : decode code 494 = .ok (.iload_n 3, 1) := by decide +kernel
set_option maxRecDepth 100000 in
theorem dL_495 : decode code 495 = .ok (.iconst 3, 1) := by decide +kernel
set_option maxRecDepth 100000 in
theorem dL_496 : decode code 496 = .ok (.iadd, 1) := by decide +kernel
set_option maxRecDepth 100000 in
theorem dL_497 : decode code 497 = .ok (.iaload, 1) := by decide +kernel
set_option maxRecDepth 100000 in
theorem dL_498 : decode code 498 = .ok (.invokevirtual 64, 3) := by decide +kernel
set_option maxRecDepth 100000 in
theorem dL_501 : decode code 501 = .ok (.if_icmp .eq 484, 3) := by decide +kernel
set_option maxRecDepth 100000 in
theorem dL_504 : decode code 504 = .ok (.iconst 0, 1) := by decide +kernel
set_option maxRecDepth 100000 in
theorem dL_505 : decode code 505 = .ok (.ireturn, 1) := by decide +kernel
set_option maxRecDepth 100000 in
theorem dL_506 : decode code 506 = .ok (.aload_n 1, 1) := by decide +kernel
set_option maxRecDepth 100000 in
theorem dL_507 : decode code 507 = .ok (.invokevirtual 65, 3) := by decide +kernel
set_option maxRecDepth 100000 in
theorem dL_510 : decode code 510 = .ok (.aload_n 2, 1) := by decide +kernel
set_option maxRecDepth 100000 in
theorem dL_511 : decode code 511 = .ok (.invokevirtual 68, 3) := by decide +kernel
set_option maxRecDepth 100000 in
theorem dL_514 : decode code 514 = .ok (.if_icmp .eq 471, 3) := by decide +kernel
set_option maxRecDepth 100000 in
theorem dL_517 : decode code 517 = .ok (.iconst 0, 1) := by decide +kernel
set_option maxRecDepth 100000 in
theorem dL_518 : decode code 518 = .ok (.ireturn, 1) := by decide +kernel
set_option maxRecDepth 100000 in
theorem dL_519 : decode code 519 = .ok (.aload_n 1, 1) := by decide +kernel
set_option maxRecDepth 100000 in
theorem dL_520 : decode code 520 = .ok (.aload_n 0, 1) := by decide +kernel
set_option maxRecDepth 100000 in
theorem dL_521 : decode code 521 = .ok (.iload_n 3, 1) := by decide +kernel
set_option maxRecDepth 100000 in
theorem dL_522 : decode code 522 = .ok (.iconst 1, 1) := by decide +kernel
set_option maxRecDepth 100000 in
theorem dL_523 : decode code 523 = .ok (.iadd, 1) := by decide +kernel
set_option maxRecDepth 100000 in
theorem dL_524 : decode code 524 = .ok (.iaload, 1) := by decide +kernel
set_option maxRecDepth 100000 in
theorem dL_525 : decode code 525 = .ok (.aload_n 0, 1) := by decide +kernel
set_option maxRecDepth 100000 in
theorem dL_526 : decode code 526 = .ok (.iload_n 3, 1) := by decide +kernel
set_option maxRecDepth 100000 in
theorem dL_527 : decode code 527 = .ok (.iconst 2, 1) := by decide +kernel
set_option maxRecDepth 100000 in
theorem dL_528 : decode code 528 = .ok (.iadd, 1) := by decide +kernel
set_option maxRecDepth 100000 in
theorem dL_529 : decode code 529 = .ok (.iaload, 1) := by decide +kernel
set_option maxRecDepth 100000 in
theorem dL_530 : decode code 530 = .ok (.invokevirtual 69, 3) := by decide +kernel
set_option maxRecDepth 100000 in
theorem dL_533 : decode code 533 = .ok (.aload_n 2, 1) := by decide +kernel
set_option maxRecDepth 100000 in
theorem dL_534 : decode code 534 = .ok (.aload_n 0, 1) := by decide +kernel
set_option maxRecDepth 100000 in
theorem dL_535 : decode code 535 = .ok (.iload_n 3, 1) := by decide +kernel
set_option maxRecDepth 100000 in
theorem dL_536 : decode code 536 = .ok (.iconst 1, 1) := by decide +kernel
set_option maxRecDepth 100000 in
theorem dL_537 : decode code 537 = .ok (.iadd, 1) := by decide +kernel
set_option maxRecDepth 100000 in
theorem dL_538 : decode code 538 = .ok (.iaload, 1) := by decide +kernel
set_option maxRecDepth 100000 in
theorem dL_539 : decode code 539 = .ok (.aload_n 0, 1) := by decide +kernel
set_option maxRecDepth 100000 in
theorem dL_540 : decode code 540 = .ok (.iload_n 3, 1) := by decide +kernel
set_option maxRecDepth 100000 in
theorem dL_541 : decode code 541 = .ok (.iconst 2, 1) := by decide +kernel
set_option maxRecDepth 100000 in
theorem dL_542 : decode code 542 = .ok (.iadd, 1) := by decide +kernel
set_option maxRecDepth 100000 in
theorem dL_543 : decode code 543 = .ok (.iaload, 1) := by decide +kernel
set_option maxRecDepth 100000 in
theorem dL_544 : decode code 544 = .ok (.invokevirtual 73, 3) := by decide +kernel
set_option maxRecDepth 100000 in
theorem dL_547 : decode code 547 = .ok (.lcmp, 1) := by decide +kernel
set_option maxRecDepth 100000 in
theorem dL_548 : decode code 548 = .ok (.ifCond .eq 437, 3) := by decide +kernel
set_option maxRecDepth 100000 in
theorem dL_551 : decode code 551 = .ok (.iconst 0, 1) := by decide +kernel
set_option maxRecDepth 100000 in
theorem dL_552 : decode code 552 = .ok (.ireturn, 1) := by decide +kernel
set_option maxRecDepth 100000 in
theorem dL_553 : decode code 553 = .ok (.aload_n 1, 1) := by decide +kernel
set_option maxRecDepth 100000 in
theorem dL_554 : decode code 554 = .ok (.aload_n 0, 1) := by decide +kernel
set_option maxRecDepth 100000 in
theorem dL_555 : decode code 555 = .ok (.iload_n 3, 1) := by decide +kernel
set_option maxRecDepth 100000 in
theorem dL_556 : decode code 556 = .ok (.iconst 1, 1) := by decide +kernel
set_option maxRecDepth 100000 in
theorem dL_557 : decode code 557 = .ok (.iadd, 1) := by decide +kernel
set_option maxRecDepth 100000 in
theorem dL_558 : decode code 558 = .ok (.iaload, 1) := by decide +kernel
set_option maxRecDepth 100000 in
theorem dL_559 : decode code 559 = .ok (.aload_n 0, 1) := by decide +kernel
set_option maxRecDepth 100000 in
theorem dL_560 : decode code 560 = .ok (.iload_n 3, 1) := by decide +kernel
set_option maxRecDepth 100000 in
theorem dL_561 : decode code 561 = .ok (.iconst 2, 1) := by decide +kernel
set_option maxRecDepth 100000 in
theorem dL_562 : decode code 562 = .ok (.iadd, 1) := by decide +kernel
set_option maxRecDepth 100000 in
theorem dL_563 : decode code 563 = .ok (.iaload, 1) := by decide +kernel
set_option maxRecDepth 100000 in
theorem dL_564 : decode code 564 = .ok (.invokevirtual 74, 3) := by decide +kernel
set_option maxRecDepth 100000 in
theorem dL_567 : decode code 567 = .ok (.aload_n 2, 1) := by decide +kernel
set_option maxRecDepth 100000 in
theorem dL_568 : decode code 568 = .ok (.aload_n 0, 1) := by decide +kernel
set_option maxRecDepth 100000 in
theorem dL_569 : decode code 569 = .ok (.iload_n 3, 1) := by decide +kernel
set_option maxRecDepth 100000 in
theorem dL_570 : decode code 570 = .ok (.iconst 1, 1) := by decide +kernel
set_option maxRecDepth 100000 in
theorem dL_571 : decode code 571 = .ok (.iadd, 1) := by decide +kernel
set_option maxRecDepth 100000 in
theorem dL_572 : decode code 572 = .ok (.iaload, 1) := by decide +kernel
set_option maxRecDepth 100000 in
theorem dL_573 : decode code 573 = .ok (.aload_n 0, 1) := by decide +kernel
