theorem dd_Lw_law_158 : decode (mm_Lw_law).2.1 158 = .ok (.iload_n 3, 1) := by decide +kernel
theorem dd_Lw_law_159 : decode (mm_Lw_law).2.1 159 = .ok (.iconst 1, 1) := by decide +kernel
theorem dd_Lw_law_160 : decode (mm_Lw_law).2.1 160 = .ok (.iadd, 1) := by decide +kernel
theorem dd_Lw_law_161 : decode (mm_Lw_law).2.1 161 = .ok (.iaload, 1) := by decide +kernel
theorem dd_Lw_law_162 : decode (mm_Lw_law).2.1 162 = .ok (.invokevirtual 23, 3) := by decide +kernel
theorem dd_Lw_law_165 : decode (mm_Lw_law).2.1 165 = .ok (.aload_n 2, 1) := by decide +kernel
theorem dd_Lw_law_166 : decode (mm_Lw_law).2.1 166 = .ok (.aload_n 0, 1) := by decide +kernel
theorem dd_Lw_law_167 : decode (mm_Lw_law).2.1 167 = .ok (.iload_n 3, 1) := by decide +kernel
theorem dd_Lw_law_168 : decode (mm_Lw_law).2.1 168 = .ok (.iconst 1, 1) := by decide +kernel
theorem dd_Lw_law_169 : decode (mm_Lw_law).2.1 169 = .ok (.iadd, 1) := by decide +kernel
theorem dd_Lw_law_170 : decode (mm_Lw_law).2.1 170 = .ok (.iaload, 1) := by decide +kernel
theorem dd_Lw_law_171 : decode (mm_Lw_law).2.1 171 = .ok (.invokevirtual 26, 3) := by decide +kernel
theorem dd_Lw_law_174 : decode (mm_Lw_law).2.1 174 = .ok (.if_icmp .eq 235, 3) := by decide +kernel
theorem dd_Lw_law_177 : decode (mm_Lw_law).2.1 177 = .ok (.iconst 0, 1) := by decide +kernel
theorem dd_Lw_law_178 : decode (mm_Lw_law).2.1 178 = .ok (.ireturn, 1) := by decide +kernel
theorem dd_Lw_law_179 : decode (mm_Lw_law).2.1 179 = .ok (.aload_n 1, 1) := by decide +kernel
theorem dd_Lw_law_180 : decode (mm_Lw_law).2.1 180 = .ok (.aload_n 0, 1) := by decide +kernel
theorem dd_Lw_law_181 : decode (mm_Lw_law).2.1 181 = .ok (.iload_n 3, 1) := by decide +kernel
theorem dd_Lw_law_182 : decode (mm_Lw_law).2.1 182 = .ok (.iconst 1, 1) := by decide +kernel
theorem dd_Lw_law_183 : decode (mm_Lw_law).2.1 183 = .ok (.iadd, 1) := by decide +kernel
theorem dd_Lw_law_184 : decode (mm_Lw_law).2.1 184 = .ok (.iaload, 1) := by decide +kernel
theorem dd_Lw_law_185 : decode (mm_Lw_law).2.1 185 = .ok (.invokevirtual 27, 3) := by decide +kernel
theorem dd_Lw_law_188 : decode (mm_Lw_law).2.1 188 = .ok (.aload_n 2, 1) := by decide +kernel
theorem dd_Lw_law_189 : decode (mm_Lw_law).2.1 189 = .ok (.aload_n 0, 1) := by decide +kernel
theorem dd_Lw_law_190 : decode (mm_Lw_law).2.1 190 = .ok (.iload_n 3, 1) := by decide +kernel
theorem dd_Lw_law_191 : decode (mm_Lw_law).2.1 191 = .ok (.iconst 1, 1) := by decide +kernel
theorem dd_Lw_law_192 : decode (mm_Lw_law).2.1 192 = .ok (.iadd, 1) := by decide +kernel
theorem dd_Lw_law_193 : decode (mm_Lw_law).2.1 193 = .ok (.iaload, 1) := by decide +kernel
theorem dd_Lw_law_194 : decode (mm_Lw_law).2.1 194 = .ok (.invokevirtual 30, 3) := by decide +kernel
theorem dd_Lw_law_197 : decode (mm_Lw_law).2.1 197 = .ok (.if_icmp .eq 212, 3) := by decide +kernel
theorem dd_Lw_law_200 : decode (mm_Lw_law).2.1 200 = .ok (.iconst 0, 1) := by decide +kernel
theorem dd_Lw_law_201 : decode (mm_Lw_law).2.1 201 = .ok (.ireturn, 1) := by decide +kernel
theorem dd_Lw_law_202 : decode (mm_Lw_law).2.1 202 = .ok (.aload_n 1, 1) := by decide +kernel
theorem dd_Lw_law_203 : decode (mm_Lw_law).2.1 203 = .ok (.aload_n 0, 1) := by decide +kernel
theorem dd_Lw_law_204 : decode (mm_Lw_law).2.1 204 = .ok (.iload_n 3, 1) := by decide +kernel
theorem dd_Lw_law_205 : decode (mm_Lw_law).2.1 205 = .ok (.iconst 1, 1) := by decide +kernel
theorem dd_Lw_law_206 : decode (mm_Lw_law).2.1 206 = .ok (.iadd, 1) := by decide +kernel
theorem dd_Lw_law_207 : decode (mm_Lw_law).2.1 207 = .ok (.iaload, 1) := by decide +kernel
theorem dd_Lw_law_208 : decode (mm_Lw_law).2.1 208 = .ok (.aload_n 0, 1) := by decide +kernel
theorem dd_Lw_law_209 : decode (mm_Lw_law).2.1 209 = .ok (.iload_n 3, 1) := by decide +kernel
theorem dd_Lw_law_210 : decode (mm_Lw_law).2.1 210 = .ok (.iconst 2, 1) := by decide +kernel
theorem dd_Lw_law_211 : decode (mm_Lw_law).2.1 211 = .ok (.iadd, 1) := by decide +kernel
theorem dd_Lw_law_212 : decode (mm_Lw_law).2.1 212 = .ok (.iaload, 1) := by decide +kernel
theorem dd_Lw_law_213 : decode (mm_Lw_law).2.1 213 = .ok (.invokevirtual 31, 3) := by decide +kernel
theorem dd_Lw_law_216 : decode (mm_Lw_law).2.1 216 = .ok (.aload_n 2, 1) := by decide +kernel
theorem dd_Lw_law_217 : decode (mm_Lw_law).2.1 217 = .ok (.aload_n 0, 1) := by decide +kernel
theorem dd_Lw_law_218 : decode (mm_Lw_law).2.1 218 = .ok (.iload_n 3, 1) := by decide +kernel
theorem dd_Lw_law_219 : decode (mm_Lw_law).2.1 219 = .ok (.iconst 1, 1) := by decide +kernel
theorem dd_Lw_law_220 : decode (mm_Lw_law).2.1 220 = .ok (.iadd, 1) := by decide +kernel
theorem dd_Lw_law_221 : decode (mm_Lw_law).2.1 221 = .ok (.iaload, 1) := by decide +kernel
theorem dd_Lw_law_222 : decode (mm_Lw_law).2.1 222 = .ok (.aload_n 0, 1) := by decide +kernel
theorem dd_Lw_law_223 : decode (mm_Lw_law).2.1 223 = .ok (.iload_n 3, 1) := by decide +kernel
theorem dd_Lw_law_224 : decode (mm_Lw_law).2.1 224 = .ok (.iconst 2, 1) := by decide +kernel
theorem dd_Lw_law_225 : decode (mm_Lw_law).2.1 225 = .ok (.iadd, 1) := by decide +kernel
theorem dd_Lw_law_226 : decode (mm_Lw_law).2.1 226 = .ok (.iaload, 1) := by decide +kernel
theorem dd_Lw_law_227 : decode (mm_Lw_law).2.1 227 = .ok (.invokevirtual 34, 3) := by decide +kernel
theorem dd_Lw_law_230 : decode (mm_Lw_law).2.1 230 = .ok (.if_icmp .eq 179, 3) := by decide +kernel
theorem dd_Lw_law_233 : decode (mm_Lw_law).2.1 233 = .ok (.iconst 0, 1) := by decide +kernel
theorem dd_Lw_law_234 : decode (mm_Lw_law).2.1 234 = .ok (.ireturn, 1) := by decide +kernel
theorem dd_Lw_law_235 : decode (mm_Lw_law).2.1 235 = .ok (.aload_n 1, 1) := by decide +kernel
theorem dd_Lw_law_236 : decode (mm_Lw_law).2.1 236 = .ok (.aload_n 0, 1) := by decide +kernel
theorem dd_Lw_law_237 : decode (mm_Lw_law).2.1 237 = .ok (.iload_n 3, 1) := by decide +kernel
theorem dd_Lw_law_238 : decode (mm_Lw_law).2.1 238 = .ok (.iconst 1, 1) := by decide +kernel
theorem dd_Lw_law_239 : decode (mm_Lw_law).2.1 239 = .ok (.iadd, 1) := by decide +kernel
theorem dd_Lw_law_240 : decode (mm_Lw_law).2.1 240 = .ok (.iaload, 1) := by decide +kernel
theorem dd_Lw_law_241 : decode (mm_Lw_law).2.1 241 = .ok (.invokevirtual 35, 3) := by decide +kernel
theorem dd_Lw_law_244 : decode (mm_Lw_law).2.1 244 = .ok (.aload_n 2, 1) := by decide +kernel
theorem dd_Lw_law_245 : decode (mm_Lw_law).2.1 245 = .ok (.aload_n 0, 1) := by decide +kernel
theorem dd_Lw_law_246 : decode (mm_Lw_law).2.1 246 = .ok (.iload_n 3, 1) := by decide +kernel
theorem dd_Lw_law_247 : decode (mm_Lw_law).2.1 247 = .ok (.iconst 1, 1) := by decide +kernel
theorem dd_Lw_law_248 : decode (mm_Lw_law).2.1 248 = .ok (.iadd, 1) := by decide +kernel
theorem dd_Lw_law_249 : decode (mm_Lw_law).2.1 249 = .ok (.iaload, 1) := by decide +kernel
theorem dd_Lw_law_250 : decode (mm_Lw_law).2.1 250 = .ok (.invokevirtual 38, 3) := by decide +kernel
theorem dd_Lw_law_253 : decode (mm_Lw_law).2.1 253 = .ok (.if_icmp .eq 156, 3) := by decide +kernel
theorem dd_Lw_law_256 : decode (mm_Lw_law).2.1 256 = .ok (.iconst 0, 1) := by decide +kernel
theorem dd_Lw_law_257 : decode (mm_Lw_law).2.1 257 = .ok (.ireturn, 1) := by decide +kernel
theorem dd_Lw_law_258 : decode (mm_Lw_law).2.1 258 = .ok (.aload_n 1, 1) := by decide +kernel
theorem dd_Lw_law_259 : decode (mm_Lw_law).2.1 259 = .ok (.aload_n 0, 1) := by decide +kernel
theorem dd_Lw_law_260 : decode (mm_Lw_law).2.1 260 = .ok (.iload_n 3, 1) := by decide +kernel
theorem dd_Lw_law_261 : decode (mm_Lw_law).2.1 261 = .ok (.iconst 1, 1) := by decide +kernel
theorem dd_Lw_law_262 : decode (mm_Lw_law).2.1 262 = .ok (.iadd, 1) := by decide +kernel
theorem dd_Lw_law_263 : decode (mm_Lw_law).2.1 263 = .ok (.iaload, 1) := by decide +kernel
theorem dd_Lw_law_264 : decode (mm_Lw_law).2.1 264 = .ok (.invokevirtual 39, 3) := by decide +kernel
theorem dd_Lw_law_267 : decode (mm_Lw_law).2.1 267 = .ok (.aload_n 2, 1) := by decide +kernel
theorem dd_Lw_law_268 : decode (mm_Lw_law).2.1 268 = .ok (.aload_n 0, 1) := by decide +kernel
theorem dd_Lw_law_269 : decode (mm_Lw_law).2.1 269 = .ok (.iload_n 3, 1) := by decide +kernel
theorem dd_Lw_law_270 : decode (mm_Lw_law).2.1 270 = .ok (.iconst 1, 1) := by decide +kernel
theorem dd_Lw_law_271 : decode (mm_Lw_law).2.1 271 = .ok (.iadd, 1) := by decide +kernel
theorem dd_Lw_law_272 : decode (mm_Lw_law).2.1 272 = .ok (.iaload, 1) := by decide +kernel
theorem dd_Lw_law_273 : decode (mm_Lw_law).2.1 273 = .ok (.invokevirtual 42, 3) := by decide +kernel
theorem dd_Lw_law_276 : decode (mm_Lw_law).2.1 276 = .ok (.if_icmp .eq 133, 3) := by decide +kernel
theorem dd_Lw_law_279 : decode (mm_Lw_law).2.1 279 = .ok (.iconst 0, 1) := by decide +kernel
theorem dd_Lw_law_280 : decode (mm_Lw_law).2.1 280 = .ok (.ireturn, 1) := by decide +kernel
theorem dd_Lw_law_281 : decode (mm_Lw_law).2.1 281 = .ok (.aload_n 1, 1) := by decide +kernel
theorem dd_Lw_law_282 : decode (mm_Lw_law).2.1 282 = .ok (.invokevirtual 43, 3) := by decide +kernel
theorem dd_Lw_law_285 : decode (mm_Lw_law).2.1 285 = .ok (.aload_n 2, 1) := by decide +kernel
theorem dd_Lw_law_286 : decode (mm_Lw_law).2.1 286 = .ok (.invokevirtual 47, 3) := by decide +kernel
theorem dd_Lw_law_289 : decode (mm_Lw_law).2.1 289 = .ok (.if_icmp .eq 120, 3) := by decide +kernel
theorem dd_Lw_law_292 : decode (mm_Lw_law).2.1 292 = .ok (.iconst 0, 1) := by decide +kernel
theorem dd_Lw_law_293 : decode (mm_Lw_law).2.1 293 = .ok (.ireturn, 1) := by decide +kernel
theorem dd_Lw_law_294 : decode (mm_Lw_law).2.1 294 = .ok (.aload_n 1, 1) := by decide +kernel
theorem dd_Lw_law_295 : decode (mm_Lw_law).2.1 295 = .ok (.invokevirtual 48, 3) := by decide +kernel
theorem dd_Lw_law_298 : decode (mm_Lw_law).2.1 298 = .ok (.aload_n 2, 1) := by decide +kernel
theorem dd_Lw_law_299 : decode (mm_Lw_law).2.1 299 = .ok (.invokevirtual 51, 3) := by decide +kernel
theorem dd_Lw_law_302 : decode (mm_Lw_law).2.1 302 = .ok (.if_icmp .eq 107, 3) := by decide +kernel
theorem dd_Lw_law_305 : decode (mm_Lw_law).2.1 305 = .ok (.iconst 0, 1) := by decide +kernel
theorem dd_Lw_law_306 : decode (mm_Lw_law).2.1 306 = .ok (.ireturn, 1) := by decide +kernel
theorem dd_Lw_law_307 : decode (mm_Lw_law).2.1 307 = .ok (.aload_n 1, 1) := by decide +kernel
theorem dd_Lw_law_308 : decode (mm_Lw_law).2.1 308 = .ok (.aload_n 0, 1) := by decide +kernel
theorem dd_Lw_law_309 : decode (mm_Lw_law).2.1 309 = .ok (.iload_n 3, 1) := by decide +kernel
theorem dd_Lw_law_310 : decode (mm_Lw_law).2.1 310 = .ok (.iconst 1, 1) := by decide +kernel
theorem dd_Lw_law_311 : decode (mm_Lw_law).2.1 311 = .ok (.iadd, 1) := by decide +kernel
theorem dd_Lw_law_312 : decode (mm_Lw_law).2.1 312 = .ok (.iaload, 1) := by decide +kernel
theorem dd_Lw_law_313 : decode (mm_Lw_law).2.1 313 = .ok (.invokevirtual 52, 3) := by decide +kernel
theorem dd_Lw_law_316 : decode (mm_Lw_law).2.1 316 = .ok (.aload_n 2, 1) := by decide +kernel
theorem dd_Lw_law_317 : decode (mm_Lw_law).2.1 317 = .ok (.aload_n 0, 1) := by decide +kernel
theorem dd_Lw_law_318 : decode (mm_Lw_law).2.1 318 = .ok (.iload_n 3, 1) := by decide +kernel
theorem dd_Lw_law_319 : decode (mm_Lw_law).2.1 319 = .ok (.iconst 1, 1) := by decide +kernel
theorem dd_Lw_law_320 : decode (mm_Lw_law).2.1 320 = .ok (.iadd, 1) := by decide +kernel
theorem dd_Lw_law_321 : decode (mm_Lw_law).2.1 321 = .ok (.iaload, 1) := by decide +kernel
theorem dd_Lw_law_322 : decode (mm_Lw_law).2.1 322 = .ok (.invokevirtual 55, 3) := by decide +kernel
theorem dd_Lw_law_325 : decode (mm_Lw_law).2.1 325 = .ok (.if_icmp .eq 84, 3) := by decide +kernel
theorem dd_Lw_law_328 : decode (mm_Lw_law).2.1 328 = .ok (.iconst 0, 1) := by decide +kernel
theorem dd_Lw_law_329 : decode (mm_Lw_law).2.1 329 = .ok (.ireturn, 1) := by decide +kernel
theorem dd_Lw_law_330 : decode (mm_Lw_law).2.1 330 = .ok (.aload_n 1, 1) := by decide +kernel
theorem dd_Lw_law_331 : decode (mm_Lw_law).2.1 331 = .ok (.aload_n 0, 1) := by decide +kernel
theorem dd_Lw_law_332 : decode (mm_Lw_law).2.1 332 = .ok (.iload_n 3, 1) := by decide +kernel
theorem dd_Lw_law_333 : decode (mm_Lw_law).2.1 333 = .ok (.iconst 1, 1) := by decide +kernel
theorem dd_Lw_law_334 : decode (mm_Lw_law).2.1 334 = .ok (.iadd, 1) := by decide +kernel
theorem dd_Lw_law_335 : decode (mm_Lw_law).2.1 335 = .ok (.iaload, 1) := by decide +kernel
theorem dd_Lw_law_336 : decode (mm_Lw_law).2.1 336 = .ok (.invokevirtual 56, 3) := by decide +kernel
theorem dd_Lw_law_339 : decode (mm_Lw_law).2.1 339 = .ok (.aload_n 2, 1) := by decide +kernel
theorem dd_Lw_law_340 : decode (mm_Lw_law).2.1 340 = .ok (.aload_n 0, 1) := by decide +kernel
theorem dd_Lw_law_341 : decode (mm_Lw_law).2.1 341 = .ok (.iload_n 3, 1) := by decide +kernel
theorem dd_Lw_law_342 : decode (mm_Lw_law).2.1 342 = .ok (.iconst 1, 1) := by decide +kernel
theorem dd_Lw_law_343 : decode (mm_Lw_law).2.1 343 = .ok (.iadd, 1) := by decide +kernel
theorem dd_Lw_law_344 : decode (mm_Lw_law).2.1 344 = .ok (.iaload, 1) := by decide +kernel
theorem dd_Lw_law_345 : decode (mm_Lw_law).2.1 345 = .ok (.invokevirtual 59, 3) := by decide +kernel
theorem dd_Lw_law_348 : decode (mm_Lw_law).2.1 348 = .ok (.if_icmp .eq 61, 3) := by decide +kernel
theorem dd_Lw_law_351 : decode (mm_Lw_law).2.1 351 = .ok (.iconst 0, 1) := by decide +kernel
theorem dd_Lw_law_352 : decode (mm_Lw_law).2.1 352 = .ok (.ireturn, 1) := by decide +kernel
theorem dd_Lw_law_353 : decode (mm_Lw_law).2.1 353 = .ok (.aload_n 1, 1) := by decide +kernel
theorem dd_Lw_law_354 : decode (mm_Lw_law).2.1 354 = .ok (.aload_n 0, 1) := by decide +kernel
theorem dd_Lw_law_355 : decode (mm_Lw_law).2.1 355 = .ok (.iload_n 3, 1) := by decide +kernel
theorem dd_Lw_law_356 : decode (mm_Lw_law).2.1 356 = .ok (.iconst 1, 1) := by decide +kernel
theorem dd_Lw_law_357 : decode (mm_Lw_law).2.1 357 = .ok (.iadd, 1) := by decide +kernel
theorem dd_Lw_law_358 : decode (mm_Lw_law).2.1 358 = .ok (.iaload, 1) := by decide +kernel
theorem dd_Lw_law_359 : decode (mm_Lw_law).2.1 359 = .ok (.aload_n 0, 1) := by decide +kernel
theorem dd_Lw_law_360 : decode (mm_Lw_law).2.1 360 = .ok (.iload_n 3, 1) := by decide +kernel
theorem dd_Lw_law_361 : decode (mm_Lw_law).2.1 361 = .ok (.iconst 2, 1) := by decide +kernel
theorem dd_Lw_law_362 : decode (mm_Lw_law).2.1 362 = .ok (.iadd, 1) := by decide +kernel
theorem dd_Lw_law_363 : decode (mm_Lw_law).2.1 363 = .ok (.iaload, 1) := by decide +kernel
theorem dd_Lw_law_364 : decode (mm_Lw_law).2.1 364 = .ok (.invokevirtual 60, 3) := by decide +kernel
theorem dd_Lw_law_367 : decode (mm_Lw_law).2.1 367 = .ok (.aload_n 2, 1) := by decide +kernel
theorem dd_Lw_law_368 : decode (mm_Lw_law).2.1 368 = .ok (.aload_n 0, 1) := by decide +kernel
theorem dd_Lw_law_369 : decode (mm_Lw_law).2.1 369 = .ok (.iload_n 3, 1) := by decide +kernel
theorem dd_Lw_law_370 : decode (mm_Lw_law).2.1 370 = .ok (.iconst 1, 1) := by decide +kernel
theorem dd_Lw_law_371 : decode (mm_Lw_law).2.1 371 = .ok (.iadd, 1) := by decide +kernel
theorem dd_Lw_law_372 : decode (mm_Lw_law).2.1 372 = .ok (.iaload, 1) := by decide +kernel
theorem dd_Lw_law_373 : decode (mm_Lw_law).2.1 373 = .ok (.aload_n 0, 1) := by decide +kernel
theorem dd_Lw_law_374 : decode (mm_Lw_law).2.1 374 = .ok (.iload_n 3, 1) := by decide +kernel
theorem dd_Lw_law_375 : decode (mm_Lw_law).2.1 375 = .ok (.iconst 2, 1) := by decide +kernel
theorem dd_Lw_law_376 : decode (mm_Lw_law).2.1 376 = .ok (.iadd, 1) := by decide +kernel
theorem dd_Lw_law_377 : decode (mm_Lw_law).2.1 377 = .ok (.iaload, 1) := by decide +kernel
theorem dd_Lw_law_378 : decode (mm_Lw_law).2.1 378 = .ok (.invokevirtual 63, 3) := by decide +kernel
theorem dd_Lw_law_381 : decode (mm_Lw_law).2.1 381 = .ok (.if_icmp .eq 28, 3) := by decide +kernel
theorem dd_Lw_law_384 : decode (mm_Lw_law).2.1 384 = .ok (.iconst 0, 1) := by decide +kernel
theorem dd_Lw_law_385 : decode (mm_Lw_law).2.1 385 = .ok (.ireturn, 1) := by decide +kernel
theorem dd_Lw_law_386 : decode (mm_Lw_law).2.1 386 = .ok (.aload_n 1, 1) := by decide +kernel
theorem dd_Lw_law_387 : decode (mm_Lw_law).2.1 387 = .ok (.aload_n 0, 1) := by decide +kernel
theorem dd_Lw_law_388 : decode (mm_Lw_law).2.1 388 = .ok (.iload_n 3, 1) := by decide +kernel
theorem dd_Lw_law_389 : decode (mm_Lw_law).2.1 389 = .ok (.iconst 1, 1) := by decide +kernel
theorem dd_Lw_law_390 : decode (mm_Lw_law).2.1 390 = .ok (.iadd, 1) := by decide +kernel
theorem dd_Lw_law_391 : decode (mm_Lw_law).2.1 391 = .ok (.iaload, 1) := by decide +kernel
theorem dd_Lw_law_392 : decode (mm_Lw_law).2.1 392 = .ok (.invokevirtual 64, 3) := by decide +kernel
theorem dd_Lw_law_395 : decode (mm_Lw_law).2.1 395 = .ok (.aload_n 2, 1) := by decide +kernel
theorem dd_Lw_law_396 : decode (mm_Lw_law).2.1 396 = .ok (.aload_n 0, 1) := by decide +kernel
theorem dd_Lw_law_397 : decode (mm_Lw_law).2.1 397 = .ok (.iload_n 3, 1) := by decide +kernel
theorem dd_Lw_law_398 : decode (mm_Lw_law).2.1 398 = .ok (.iconst 1, 1) := by decide +kernel
theorem dd_Lw_law_399 : decode (mm_Lw_law).2.1 399 = .ok (.iadd, 1) := by decide +kernel
theorem dd_Lw_law_400 : decode (mm_Lw_law).2.1 400 = .ok (.iaload, 1) := by decide +kernel
theorem dd_Lw_law_401 : decode (mm_Lw_law).2.1 401 = .ok (.invokevirtual 67, 3) := by decide +kernel
theorem dd_Lw_law_404 : decode (mm_Lw_law).2.1 404 = .ok (.if_icmp .eq 5, 3) := by decide +kernel
theorem dd_Lw_law_407 : decode (mm_Lw_law).2.1 407 = .ok (.iconst 0, 1) := by decide +kernel
theorem dd_Lw_law_408 : decode (mm_Lw_law).2.1 408 = .ok (.ireturn, 1) := by decide +kernel
theorem dd_Lw_law_409 : decode (mm_Lw_law).2.1 409 = .ok (.iinc 3 3, 3) := by decide +kernel
theorem dd_Lw_law_412 : decode (mm_Lw_law).2.1 412 = .ok (.goto (-394), 3) := by decide +kernel
theorem dd_Lw_law_415 : decode (mm_Lw_law).2.1 415 = .ok (.iconst 1, 1) := by decide +kernel
theorem dd_Lw_law_416 : decode (mm_Lw_law).2.1 416 = .ok (.ireturn, 1) := by decide +kernel
