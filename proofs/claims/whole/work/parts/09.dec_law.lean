theorem d_Lw_cell_0 : decode b_Lw_cell 0 = .ok (.iload_n 1, 1) := by decide +kernel
theorem d_Lw_cell_1 : decode b_Lw_cell 1 = .ok (.aload_n 0, 1) := by decide +kernel
theorem d_Lw_cell_2 : decode b_Lw_cell 2 = .ok (.arraylength, 1) := by decide +kernel
theorem d_Lw_cell_3 : decode b_Lw_cell 3 = .ok (.if_icmp .ge (9), 3) := by decide +kernel
theorem d_Lw_cell_6 : decode b_Lw_cell 6 = .ok (.aload_n 0, 1) := by decide +kernel
theorem d_Lw_cell_7 : decode b_Lw_cell 7 = .ok (.iload_n 1, 1) := by decide +kernel
theorem d_Lw_cell_8 : decode b_Lw_cell 8 = .ok (.iaload, 1) := by decide +kernel
theorem d_Lw_cell_9 : decode b_Lw_cell 9 = .ok (.goto (4), 3) := by decide +kernel
theorem d_Lw_cell_12 : decode b_Lw_cell 12 = .ok (.iconst 0, 1) := by decide +kernel
theorem d_Lw_cell_13 : decode b_Lw_cell 13 = .ok (.ireturn, 1) := by decide +kernel
theorem d_Lw_law_0 : decode code 0 = .ok (.new 7, 3) := by decide +kernel
theorem d_Lw_law_3 : decode code 3 = .ok (.dup, 1) := by decide +kernel
theorem d_Lw_law_4 : decode code 4 = .ok (.aload_n 0, 1) := by decide +kernel
theorem d_Lw_law_5 : decode code 5 = .ok (.iconst 0, 1) := by decide +kernel
theorem d_Lw_law_6 : decode code 6 = .ok (.invokestatic 9, 3) := by decide +kernel
theorem d_Lw_law_9 : decode code 9 = .ok (.aload_n 0, 1) := by decide +kernel
theorem d_Lw_law_10 : decode code 10 = .ok (.iconst 1, 1) := by decide +kernel
theorem d_Lw_law_11 : decode code 11 = .ok (.invokestatic 9, 3) := by decide +kernel
theorem d_Lw_law_14 : decode code 14 = .ok (.invokespecial 15, 3) := by decide +kernel
theorem d_Lw_law_17 : decode code 17 = .ok (.astore_n 1, 1) := by decide +kernel
theorem d_Lw_law_18 : decode code 18 = .ok (.new 18, 3) := by decide +kernel
theorem d_Lw_law_21 : decode code 21 = .ok (.dup, 1) := by decide +kernel
theorem d_Lw_law_22 : decode code 22 = .ok (.aload_n 0, 1) := by decide +kernel
theorem d_Lw_law_23 : decode code 23 = .ok (.iconst 0, 1) := by decide +kernel
theorem d_Lw_law_24 : decode code 24 = .ok (.invokestatic 9, 3) := by decide +kernel
theorem d_Lw_law_27 : decode code 27 = .ok (.aload_n 0, 1) := by decide +kernel
theorem d_Lw_law_28 : decode code 28 = .ok (.iconst 1, 1) := by decide +kernel
theorem d_Lw_law_29 : decode code 29 = .ok (.invokestatic 9, 3) := by decide +kernel
theorem d_Lw_law_32 : decode code 32 = .ok (.invokespecial 20, 3) := by decide +kernel
theorem d_Lw_law_35 : decode code 35 = .ok (.astore_n 2, 1) := by decide +kernel
theorem d_Lw_law_36 : decode code 36 = .ok (.iconst 2, 1) := by decide +kernel
theorem d_Lw_law_37 : decode code 37 = .ok (.istore_n 3, 1) := by decide +kernel
theorem d_Lw_law_38 : decode code 38 = .ok (.iload_n 3, 1) := by decide +kernel
theorem d_Lw_law_39 : decode code 39 = .ok (.aload_n 0, 1) := by decide +kernel
theorem d_Lw_law_40 : decode code 40 = .ok (.arraylength, 1) := by decide +kernel
theorem d_Lw_law_41 : decode code 41 = .ok (.iconst 4, 1) := by decide +kernel
theorem d_Lw_law_42 : decode code 42 = .ok (.isub, 1) := by decide +kernel
theorem d_Lw_law_43 : decode code 43 = .ok (.if_icmp .gt (487), 3) := by decide +kernel
theorem d_Lw_law_46 : decode code 46 = .ok (.aload_n 0, 1) := by decide +kernel
theorem d_Lw_law_47 : decode code 47 = .ok (.iload_n 3, 1) := by decide +kernel
theorem d_Lw_law_48 : decode code 48 = .ok (.iaload, 1) := by decide +kernel
theorem d_Lw_law_49 : decode code 49 = .ok (.bipush (15), 2) := by decide +kernel
theorem d_Lw_law_51 : decode code 51 = .ok (.iand, 1) := by decide +kernel
theorem d_Lw_law_52 : decode code 52 = .ok (.tableswitch (472) (0) (15) #[80, 93, 152, 165, 178, 202, 225, 238, 277, 300, 323, 336, 359, 383, 416, 449], 80) := by decide +kernel
theorem d_Lw_law_132 : decode code 132 = .ok (.aload_n 1, 1) := by decide +kernel
theorem d_Lw_law_133 : decode code 133 = .ok (.invokevirtual 21, 3) := by decide +kernel
theorem d_Lw_law_136 : decode code 136 = .ok (.aload_n 2, 1) := by decide +kernel
theorem d_Lw_law_137 : decode code 137 = .ok (.invokevirtual 25, 3) := by decide +kernel
theorem d_Lw_law_140 : decode code 140 = .ok (.if_icmp .eq (384), 3) := by decide +kernel
theorem d_Lw_law_143 : decode code 143 = .ok (.iconst 0, 1) := by decide +kernel
theorem d_Lw_law_144 : decode code 144 = .ok (.ireturn, 1) := by decide +kernel
theorem d_Lw_law_145 : decode code 145 = .ok (.aload_n 1, 1) := by decide +kernel
theorem d_Lw_law_146 : decode code 146 = .ok (.aload_n 0, 1) := by decide +kernel
theorem d_Lw_law_147 : decode code 147 = .ok (.iload_n 3, 1) := by decide +kernel
theorem d_Lw_law_148 : decode code 148 = .ok (.iconst 1, 1) := by decide +kernel
theorem d_Lw_law_149 : decode code 149 = .ok (.iadd, 1) := by decide +kernel
theorem d_Lw_law_150 : decode code 150 = .ok (.iaload, 1) := by decide +kernel
theorem d_Lw_law_151 : decode code 151 = .ok (.aload_n 0, 1) := by decide +kernel
theorem d_Lw_law_152 : decode code 152 = .ok (.iload_n 3, 1) := by decide +kernel
theorem d_Lw_law_153 : decode code 153 = .ok (.iconst 2, 1) := by decide +kernel
theorem d_Lw_law_154 : decode code 154 = .ok (.iadd, 1) := by decide +kernel
theorem d_Lw_law_155 : decode code 155 = .ok (.iaload, 1) := by decide +kernel
theorem d_Lw_law_156 : decode code 156 = .ok (.aload_n 0, 1) := by decide +kernel
theorem d_Lw_law_157 : decode code 157 = .ok (.iload_n 3, 1) := by decide +kernel
theorem d_Lw_law_158 : decode code 158 = .ok (.iconst 3, 1) := by decide +kernel
theorem d_Lw_law_159 : decode code 159 = .ok (.iadd, 1) := by decide +kernel
theorem d_Lw_law_160 : decode code 160 = .ok (.iaload, 1) := by decide +kernel
theorem d_Lw_law_161 : decode code 161 = .ok (.ifCond .eq (7), 3) := by decide +kernel
theorem d_Lw_law_164 : decode code 164 = .ok (.iconst 1, 1) := by decide +kernel
theorem d_Lw_law_165 : decode code 165 = .ok (.goto (4), 3) := by decide +kernel
theorem d_Lw_law_168 : decode code 168 = .ok (.iconst 0, 1) := by decide +kernel
theorem d_Lw_law_169 : decode code 169 = .ok (.invokevirtual 26, 3) := by decide +kernel
theorem d_Lw_law_172 : decode code 172 = .ok (.aload_n 2, 1) := by decide +kernel
theorem d_Lw_law_173 : decode code 173 = .ok (.aload_n 0, 1) := by decide +kernel
theorem d_Lw_law_174 : decode code 174 = .ok (.iload_n 3, 1) := by decide +kernel
theorem d_Lw_law_175 : decode code 175 = .ok (.iconst 1, 1) := by decide +kernel
theorem d_Lw_law_176 : decode code 176 = .ok (.iadd, 1) := by decide +kernel
theorem d_Lw_law_177 : decode code 177 = .ok (.iaload, 1) := by decide +kernel
theorem d_Lw_law_178 : decode code 178 = .ok (.aload_n 0, 1) := by decide +kernel
theorem d_Lw_law_179 : decode code 179 = .ok (.iload_n 3, 1) := by decide +kernel
theorem d_Lw_law_180 : decode code 180 = .ok (.iconst 2, 1) := by decide +kernel
theorem d_Lw_law_181 : decode code 181 = .ok (.iadd, 1) := by decide +kernel
theorem d_Lw_law_182 : decode code 182 = .ok (.iaload, 1) := by decide +kernel
theorem d_Lw_law_183 : decode code 183 = .ok (.aload_n 0, 1) := by decide +kernel
theorem d_Lw_law_184 : decode code 184 = .ok (.iload_n 3, 1) := by decide +kernel
theorem d_Lw_law_185 : decode code 185 = .ok (.iconst 3, 1) := by decide +kernel
theorem d_Lw_law_186 : decode code 186 = .ok (.iadd, 1) := by decide +kernel
theorem d_Lw_law_187 : decode code 187 = .ok (.iaload, 1) := by decide +kernel
theorem d_Lw_law_188 : decode code 188 = .ok (.ifCond .eq (7), 3) := by decide +kernel
theorem d_Lw_law_191 : decode code 191 = .ok (.iconst 1, 1) := by decide +kernel
theorem d_Lw_law_192 : decode code 192 = .ok (.goto (4), 3) := by decide +kernel
theorem d_Lw_law_195 : decode code 195 = .ok (.iconst 0, 1) := by decide +kernel
theorem d_Lw_law_196 : decode code 196 = .ok (.invokevirtual 30, 3) := by decide +kernel
theorem d_Lw_law_199 : decode code 199 = .ok (.if_icmp .eq (325), 3) := by decide +kernel
theorem d_Lw_law_202 : decode code 202 = .ok (.iconst 0, 1) := by decide +kernel
theorem d_Lw_law_203 : decode code 203 = .ok (.ireturn, 1) := by decide +kernel
theorem d_Lw_law_204 : decode code 204 = .ok (.aload_n 1, 1) := by decide +kernel
theorem d_Lw_law_205 : decode code 205 = .ok (.invokevirtual 31, 3) := by decide +kernel
theorem d_Lw_law_208 : decode code 208 = .ok (.aload_n 2, 1) := by decide +kernel
theorem d_Lw_law_209 : decode code 209 = .ok (.invokevirtual 34, 3) := by decide +kernel
theorem d_Lw_law_212 : decode code 212 = .ok (.if_icmp .eq (312), 3) := by decide +kernel
theorem d_Lw_law_215 : decode code 215 = .ok (.iconst 0, 1) := by decide +kernel
theorem d_Lw_law_216 : decode code 216 = .ok (.ireturn, 1) := by decide +kernel
theorem d_Lw_law_217 : decode code 217 = .ok (.aload_n 1, 1) := by decide +kernel
theorem d_Lw_law_218 : decode code 218 = .ok (.invokevirtual 35, 3) := by decide +kernel
theorem d_Lw_law_221 : decode code 221 = .ok (.aload_n 2, 1) := by decide +kernel
theorem d_Lw_law_222 : decode code 222 = .ok (.invokevirtual 38, 3) := by decide +kernel
theorem d_Lw_law_225 : decode code 225 = .ok (.if_icmp .eq (299), 3) := by decide +kernel
theorem d_Lw_law_228 : decode code 228 = .ok (.iconst 0, 1) := by decide +kernel
theorem d_Lw_law_229 : decode code 229 = .ok (.ireturn, 1) := by decide +kernel
theorem d_Lw_law_230 : decode code 230 = .ok (.aload_n 1, 1) := by decide +kernel
theorem d_Lw_law_231 : decode code 231 = .ok (.aload_n 0, 1) := by decide +kernel
theorem d_Lw_law_232 : decode code 232 = .ok (.iload_n 3, 1) := by decide +kernel
theorem d_Lw_law_233 : decode code 233 = .ok (.iconst 1, 1) := by decide +kernel
theorem d_Lw_law_234 : decode code 234 = .ok (.iadd, 1) := by decide +kernel
theorem d_Lw_law_235 : decode code 235 = .ok (.iaload, 1) := by decide +kernel
theorem d_Lw_law_236 : decode code 236 = .ok (.invokevirtual 39, 3) := by decide +kernel
theorem d_Lw_law_239 : decode code 239 = .ok (.aload_n 2, 1) := by decide +kernel
theorem d_Lw_law_240 : decode code 240 = .ok (.aload_n 0, 1) := by decide +kernel
theorem d_Lw_law_241 : decode code 241 = .ok (.iload_n 3, 1) := by decide +kernel
theorem d_Lw_law_242 : decode code 242 = .ok (.iconst 1, 1) := by decide +kernel
theorem d_Lw_law_243 : decode code 243 = .ok (.iadd, 1) := by decide +kernel
theorem d_Lw_law_244 : decode code 244 = .ok (.iaload, 1) := by decide +kernel
theorem d_Lw_law_245 : decode code 245 = .ok (.invokevirtual 43, 3) := by decide +kernel
theorem d_Lw_law_248 : decode code 248 = .ok (.lcmp, 1) := by decide +kernel
theorem d_Lw_law_249 : decode code 249 = .ok (.ifCond .eq (275), 3) := by decide +kernel
theorem d_Lw_law_252 : decode code 252 = .ok (.iconst 0, 1) := by decide +kernel
theorem d_Lw_law_253 : decode code 253 = .ok (.ireturn, 1) := by decide +kernel
theorem d_Lw_law_254 : decode code 254 = .ok (.aload_n 1, 1) := by decide +kernel
theorem d_Lw_law_255 : decode code 255 = .ok (.aload_n 0, 1) := by decide +kernel
theorem d_Lw_law_256 : decode code 256 = .ok (.iload_n 3, 1) := by decide +kernel
theorem d_Lw_law_257 : decode code 257 = .ok (.iconst 1, 1) := by decide +kernel
theorem d_Lw_law_258 : decode code 258 = .ok (.iadd, 1) := by decide +kernel
theorem d_Lw_law_259 : decode code 259 = .ok (.iaload, 1) := by decide +kernel
theorem d_Lw_law_260 : decode code 260 = .ok (.invokevirtual 44, 3) := by decide +kernel
theorem d_Lw_law_263 : decode code 263 = .ok (.aload_n 2, 1) := by decide +kernel
theorem d_Lw_law_264 : decode code 264 = .ok (.aload_n 0, 1) := by decide +kernel
theorem d_Lw_law_265 : decode code 265 = .ok (.iload_n 3, 1) := by decide +kernel
theorem d_Lw_law_266 : decode code 266 = .ok (.iconst 1, 1) := by decide +kernel
theorem d_Lw_law_267 : decode code 267 = .ok (.iadd, 1) := by decide +kernel
theorem d_Lw_law_268 : decode code 268 = .ok (.iaload, 1) := by decide +kernel
theorem d_Lw_law_269 : decode code 269 = .ok (.invokevirtual 48, 3) := by decide +kernel
theorem d_Lw_law_272 : decode code 272 = .ok (.if_icmp .eq (252), 3) := by decide +kernel
theorem d_Lw_law_275 : decode code 275 = .ok (.iconst 0, 1) := by decide +kernel
theorem d_Lw_law_276 : decode code 276 = .ok (.ireturn, 1) := by decide +kernel
theorem d_Lw_law_277 : decode code 277 = .ok (.aload_n 1, 1) := by decide +kernel
theorem d_Lw_law_278 : decode code 278 = .ok (.invokevirtual 49, 3) := by decide +kernel
theorem d_Lw_law_281 : decode code 281 = .ok (.aload_n 2, 1) := by decide +kernel
theorem d_Lw_law_282 : decode code 282 = .ok (.invokevirtual 52, 3) := by decide +kernel
theorem d_Lw_law_285 : decode code 285 = .ok (.if_icmp .eq (239), 3) := by decide +kernel
theorem d_Lw_law_288 : decode code 288 = .ok (.iconst 0, 1) := by decide +kernel
theorem d_Lw_law_289 : decode code 289 = .ok (.ireturn, 1) := by decide +kernel
theorem d_Lw_law_290 : decode code 290 = .ok (.aload_n 1, 1) := by decide +kernel
theorem d_Lw_law_291 : decode code 291 = .ok (.aload_n 0, 1) := by decide +kernel
theorem d_Lw_law_292 : decode code 292 = .ok (.iload_n 3, 1) := by decide +kernel
theorem d_Lw_law_293 : decode code 293 = .ok (.iconst 1, 1) := by decide +kernel
theorem d_Lw_law_294 : decode code 294 = .ok (.iadd, 1) := by decide +kernel
theorem d_Lw_law_295 : decode code 295 = .ok (.iaload, 1) := by decide +kernel
theorem d_Lw_law_296 : decode code 296 = .ok (.ifCond .eq (7), 3) := by decide +kernel
theorem d_Lw_law_299 : decode code 299 = .ok (.iconst 1, 1) := by decide +kernel
theorem d_Lw_law_300 : decode code 300 = .ok (.goto (4), 3) := by decide +kernel
theorem d_Lw_law_303 : decode code 303 = .ok (.iconst 0, 1) := by decide +kernel
theorem d_Lw_law_304 : decode code 304 = .ok (.invokevirtual 53, 3) := by decide +kernel
theorem d_Lw_law_307 : decode code 307 = .ok (.aload_n 2, 1) := by decide +kernel
theorem d_Lw_law_308 : decode code 308 = .ok (.aload_n 0, 1) := by decide +kernel
theorem d_Lw_law_309 : decode code 309 = .ok (.iload_n 3, 1) := by decide +kernel
theorem d_Lw_law_310 : decode code 310 = .ok (.iconst 1, 1) := by decide +kernel
theorem d_Lw_law_311 : decode code 311 = .ok (.iadd, 1) := by decide +kernel
theorem d_Lw_law_312 : decode code 312 = .ok (.iaload, 1) := by decide +kernel
theorem d_Lw_law_313 : decode code 313 = .ok (.ifCond .eq (7), 3) := by decide +kernel
theorem d_Lw_law_316 : decode code 316 = .ok (.iconst 1, 1) := by decide +kernel
theorem d_Lw_law_317 : decode code 317 = .ok (.goto (4), 3) := by decide +kernel
theorem d_Lw_law_320 : decode code 320 = .ok (.iconst 0, 1) := by decide +kernel
theorem d_Lw_law_321 : decode code 321 = .ok (.invokevirtual 57, 3) := by decide +kernel
theorem d_Lw_law_324 : decode code 324 = .ok (.if_icmp .eq (200), 3) := by decide +kernel
theorem d_Lw_law_327 : decode code 327 = .ok (.iconst 0, 1) := by decide +kernel
theorem d_Lw_law_328 : decode code 328 = .ok (.ireturn, 1) := by decide +kernel
theorem d_Lw_law_329 : decode code 329 = .ok (.aload_n 1, 1) := by decide +kernel
theorem d_Lw_law_330 : decode code 330 = .ok (.aload_n 0, 1) := by decide +kernel
theorem d_Lw_law_331 : decode code 331 = .ok (.iload_n 3, 1) := by decide +kernel
theorem d_Lw_law_332 : decode code 332 = .ok (.iconst 1, 1) := by decide +kernel
theorem d_Lw_law_333 : decode code 333 = .ok (.iadd, 1) := by decide +kernel
theorem d_Lw_law_334 : decode code 334 = .ok (.iaload, 1) := by decide +kernel
theorem d_Lw_law_335 : decode code 335 = .ok (.invokevirtual 58, 3) := by decide +kernel
theorem d_Lw_law_338 : decode code 338 = .ok (.aload_n 2, 1) := by decide +kernel
theorem d_Lw_law_339 : decode code 339 = .ok (.aload_n 0, 1) := by decide +kernel
theorem d_Lw_law_340 : decode code 340 = .ok (.iload_n 3, 1) := by decide +kernel
theorem d_Lw_law_341 : decode code 341 = .ok (.iconst 1, 1) := by decide +kernel
theorem d_Lw_law_342 : decode code 342 = .ok (.iadd, 1) := by decide +kernel
theorem d_Lw_law_343 : decode code 343 = .ok (.iaload, 1) := by decide +kernel
theorem d_Lw_law_344 : decode code 344 = .ok (.invokevirtual 61, 3) := by decide +kernel
theorem d_Lw_law_347 : decode code 347 = .ok (.if_icmp .eq (177), 3) := by decide +kernel
theorem d_Lw_law_350 : decode code 350 = .ok (.iconst 0, 1) := by decide +kernel
theorem d_Lw_law_351 : decode code 351 = .ok (.ireturn, 1) := by decide +kernel
theorem d_Lw_law_352 : decode code 352 = .ok (.aload_n 1, 1) := by decide +kernel
theorem d_Lw_law_353 : decode code 353 = .ok (.aload_n 0, 1) := by decide +kernel
theorem d_Lw_law_354 : decode code 354 = .ok (.iload_n 3, 1) := by decide +kernel
theorem d_Lw_law_355 : decode code 355 = .ok (.iconst 1, 1) := by decide +kernel
theorem d_Lw_law_356 : decode code 356 = .ok (.iadd, 1) := by decide +kernel
theorem d_Lw_law_357 : decode code 357 = .ok (.iaload, 1) := by decide +kernel
theorem d_Lw_law_358 : decode code 358 = .ok (.invokevirtual 62, 3) := by decide +kernel
theorem d_Lw_law_361 : decode code 361 = .ok (.aload_n 2, 1) := by decide +kernel
theorem d_Lw_law_362 : decode code 362 = .ok (.aload_n 0, 1) := by decide +kernel
theorem d_Lw_law_363 : decode code 363 = .ok (.iload_n 3, 1) := by decide +kernel
theorem d_Lw_law_364 : decode code 364 = .ok (.iconst 1, 1) := by decide +kernel
theorem d_Lw_law_365 : decode code 365 = .ok (.iadd, 1) := by decide +kernel
theorem d_Lw_law_366 : decode code 366 = .ok (.iaload, 1) := by decide +kernel
theorem d_Lw_law_367 : decode code 367 = .ok (.invokevirtual 65, 3) := by decide +kernel
theorem d_Lw_law_370 : decode code 370 = .ok (.if_icmp .eq (154), 3) := by decide +kernel
theorem d_Lw_law_373 : decode code 373 = .ok (.iconst 0, 1) := by decide +kernel
theorem d_Lw_law_374 : decode code 374 = .ok (.ireturn, 1) := by decide +kernel
theorem d_Lw_law_375 : decode code 375 = .ok (.aload_n 1, 1) := by decide +kernel
theorem d_Lw_law_376 : decode code 376 = .ok (.invokevirtual 66, 3) := by decide +kernel
theorem d_Lw_law_379 : decode code 379 = .ok (.aload_n 2, 1) := by decide +kernel
theorem d_Lw_law_380 : decode code 380 = .ok (.invokevirtual 69, 3) := by decide +kernel
theorem d_Lw_law_383 : decode code 383 = .ok (.if_icmp .eq (141), 3) := by decide +kernel
theorem d_Lw_law_386 : decode code 386 = .ok (.iconst 0, 1) := by decide +kernel
theorem d_Lw_law_387 : decode code 387 = .ok (.ireturn, 1) := by decide +kernel
theorem d_Lw_law_388 : decode code 388 = .ok (.aload_n 1, 1) := by decide +kernel
theorem d_Lw_law_389 : decode code 389 = .ok (.aload_n 0, 1) := by decide +kernel
theorem d_Lw_law_390 : decode code 390 = .ok (.iload_n 3, 1) := by decide +kernel
theorem d_Lw_law_391 : decode code 391 = .ok (.iconst 1, 1) := by decide +kernel
theorem d_Lw_law_392 : decode code 392 = .ok (.iadd, 1) := by decide +kernel
theorem d_Lw_law_393 : decode code 393 = .ok (.iaload, 1) := by decide +kernel
theorem d_Lw_law_394 : decode code 394 = .ok (.invokevirtual 70, 3) := by decide +kernel
theorem d_Lw_law_397 : decode code 397 = .ok (.aload_n 2, 1) := by decide +kernel
theorem d_Lw_law_398 : decode code 398 = .ok (.aload_n 0, 1) := by decide +kernel
theorem d_Lw_law_399 : decode code 399 = .ok (.iload_n 3, 1) := by decide +kernel
theorem d_Lw_law_400 : decode code 400 = .ok (.iconst 1, 1) := by decide +kernel
theorem d_Lw_law_401 : decode code 401 = .ok (.iadd, 1) := by decide +kernel
theorem d_Lw_law_402 : decode code 402 = .ok (.iaload, 1) := by decide +kernel
theorem d_Lw_law_403 : decode code 403 = .ok (.invokevirtual 73, 3) := by decide +kernel
theorem d_Lw_law_406 : decode code 406 = .ok (.if_icmp .eq (118), 3) := by decide +kernel
theorem d_Lw_law_409 : decode code 409 = .ok (.iconst 0, 1) := by decide +kernel
theorem d_Lw_law_410 : decode code 410 = .ok (.ireturn, 1) := by decide +kernel
theorem d_Lw_law_411 : decode code 411 = .ok (.aload_n 1, 1) := by decide +kernel
theorem d_Lw_law_412 : decode code 412 = .ok (.aload_n 0, 1) := by decide +kernel
theorem d_Lw_law_413 : decode code 413 = .ok (.iload_n 3, 1) := by decide +kernel
theorem d_Lw_law_414 : decode code 414 = .ok (.iconst 1, 1) := by decide +kernel
theorem d_Lw_law_415 : decode code 415 = .ok (.iadd, 1) := by decide +kernel
theorem d_Lw_law_416 : decode code 416 = .ok (.iaload, 1) := by decide +kernel
theorem d_Lw_law_417 : decode code 417 = .ok (.invokevirtual 74, 3) := by decide +kernel
theorem d_Lw_law_420 : decode code 420 = .ok (.aload_n 2, 1) := by decide +kernel
theorem d_Lw_law_421 : decode code 421 = .ok (.aload_n 0, 1) := by decide +kernel
theorem d_Lw_law_422 : decode code 422 = .ok (.iload_n 3, 1) := by decide +kernel
theorem d_Lw_law_423 : decode code 423 = .ok (.iconst 1, 1) := by decide +kernel
theorem d_Lw_law_424 : decode code 424 = .ok (.iadd, 1) := by decide +kernel
theorem d_Lw_law_425 : decode code 425 = .ok (.iaload, 1) := by decide +kernel
theorem d_Lw_law_426 : decode code 426 = .ok (.invokevirtual 77, 3) := by decide +kernel
theorem d_Lw_law_429 : decode code 429 = .ok (.lcmp, 1) := by decide +kernel
theorem d_Lw_law_430 : decode code 430 = .ok (.ifCond .eq (94), 3) := by decide +kernel
theorem d_Lw_law_433 : decode code 433 = .ok (.iconst 0, 1) := by decide +kernel
theorem d_Lw_law_434 : decode code 434 = .ok (.ireturn, 1) := by decide +kernel
theorem d_Lw_law_435 : decode code 435 = .ok (.aload_n 1, 1) := by decide +kernel
theorem d_Lw_law_436 : decode code 436 = .ok (.aload_n 0, 1) := by decide +kernel
theorem d_Lw_law_437 : decode code 437 = .ok (.iload_n 3, 1) := by decide +kernel
theorem d_Lw_law_438 : decode code 438 = .ok (.iconst 1, 1) := by decide +kernel
theorem d_Lw_law_439 : decode code 439 = .ok (.iadd, 1) := by decide +kernel
theorem d_Lw_law_440 : decode code 440 = .ok (.iaload, 1) := by decide +kernel
theorem d_Lw_law_441 : decode code 441 = .ok (.aload_n 0, 1) := by decide +kernel
theorem d_Lw_law_442 : decode code 442 = .ok (.iload_n 3, 1) := by decide +kernel
theorem d_Lw_law_443 : decode code 443 = .ok (.iconst 2, 1) := by decide +kernel
theorem d_Lw_law_444 : decode code 444 = .ok (.iadd, 1) := by decide +kernel
theorem d_Lw_law_445 : decode code 445 = .ok (.iaload, 1) := by decide +kernel
theorem d_Lw_law_446 : decode code 446 = .ok (.invokevirtual 78, 3) := by decide +kernel
theorem d_Lw_law_449 : decode code 449 = .ok (.aload_n 2, 1) := by decide +kernel
theorem d_Lw_law_450 : decode code 450 = .ok (.aload_n 0, 1) := by decide +kernel
theorem d_Lw_law_451 : decode code 451 = .ok (.iload_n 3, 1) := by decide +kernel
theorem d_Lw_law_452 : decode code 452 = .ok (.iconst 1, 1) := by decide +kernel
theorem d_Lw_law_453 : decode code 453 = .ok (.iadd, 1) := by decide +kernel
theorem d_Lw_law_454 : decode code 454 = .ok (.iaload, 1) := by decide +kernel
theorem d_Lw_law_455 : decode code 455 = .ok (.aload_n 0, 1) := by decide +kernel
theorem d_Lw_law_456 : decode code 456 = .ok (.iload_n 3, 1) := by decide +kernel
theorem d_Lw_law_457 : decode code 457 = .ok (.iconst 2, 1) := by decide +kernel
theorem d_Lw_law_458 : decode code 458 = .ok (.iadd, 1) := by decide +kernel
theorem d_Lw_law_459 : decode code 459 = .ok (.iaload, 1) := by decide +kernel
theorem d_Lw_law_460 : decode code 460 = .ok (.invokevirtual 82, 3) := by decide +kernel
theorem d_Lw_law_463 : decode code 463 = .ok (.if_icmp .eq (61), 3) := by decide +kernel
theorem d_Lw_law_466 : decode code 466 = .ok (.iconst 0, 1) := by decide +kernel
theorem d_Lw_law_467 : decode code 467 = .ok (.ireturn, 1) := by decide +kernel
theorem d_Lw_law_468 : decode code 468 = .ok (.aload_n 1, 1) := by decide +kernel
theorem d_Lw_law_469 : decode code 469 = .ok (.aload_n 0, 1) := by decide +kernel
theorem d_Lw_law_470 : decode code 470 = .ok (.iload_n 3, 1) := by decide +kernel
theorem d_Lw_law_471 : decode code 471 = .ok (.iconst 1, 1) := by decide +kernel
theorem d_Lw_law_472 : decode code 472 = .ok (.iadd, 1) := by decide +kernel
theorem d_Lw_law_473 : decode code 473 = .ok (.iaload, 1) := by decide +kernel
theorem d_Lw_law_474 : decode code 474 = .ok (.aload_n 0, 1) := by decide +kernel
theorem d_Lw_law_475 : decode code 475 = .ok (.iload_n 3, 1) := by decide +kernel
theorem d_Lw_law_476 : decode code 476 = .ok (.iconst 2, 1) := by decide +kernel
theorem d_Lw_law_477 : decode code 477 = .ok (.iadd, 1) := by decide +kernel
theorem d_Lw_law_478 : decode code 478 = .ok (.iaload, 1) := by decide +kernel
theorem d_Lw_law_479 : decode code 479 = .ok (.invokevirtual 83, 3) := by decide +kernel
theorem d_Lw_law_482 : decode code 482 = .ok (.aload_n 2, 1) := by decide +kernel
theorem d_Lw_law_483 : decode code 483 = .ok (.aload_n 0, 1) := by decide +kernel
theorem d_Lw_law_484 : decode code 484 = .ok (.iload_n 3, 1) := by decide +kernel
theorem d_Lw_law_485 : decode code 485 = .ok (.iconst 1, 1) := by decide +kernel
theorem d_Lw_law_486 : decode code 486 = .ok (.iadd, 1) := by decide +kernel
theorem d_Lw_law_487 : decode code 487 = .ok (.iaload, 1) := by decide +kernel
theorem d_Lw_law_488 : decode code 488 = .ok (.aload_n 0, 1) := by decide +kernel
theorem d_Lw_law_489 : decode code 489 = .ok (.iload_n 3, 1) := by decide +kernel
theorem d_Lw_law_490 : decode code 490 = .ok (.iconst 2, 1) := by decide +kernel
theorem d_Lw_law_491 : decode code 491 = .ok (.iadd, 1) := by decide +kernel
theorem d_Lw_law_492 : decode code 492 = .ok (.iaload, 1) := by decide +kernel
theorem d_Lw_law_493 : decode code 493 = .ok (.invokevirtual 86, 3) := by decide +kernel
theorem d_Lw_law_496 : decode code 496 = .ok (.if_icmp .eq (28), 3) := by decide +kernel
theorem d_Lw_law_499 : decode code 499 = .ok (.iconst 0, 1) := by decide +kernel
theorem d_Lw_law_500 : decode code 500 = .ok (.ireturn, 1) := by decide +kernel
theorem d_Lw_law_501 : decode code 501 = .ok (.aload_n 1, 1) := by decide +kernel
theorem d_Lw_law_502 : decode code 502 = .ok (.aload_n 0, 1) := by decide +kernel
theorem d_Lw_law_503 : decode code 503 = .ok (.iload_n 3, 1) := by decide +kernel
theorem d_Lw_law_504 : decode code 504 = .ok (.iconst 1, 1) := by decide +kernel
theorem d_Lw_law_505 : decode code 505 = .ok (.iadd, 1) := by decide +kernel
theorem d_Lw_law_506 : decode code 506 = .ok (.iaload, 1) := by decide +kernel
theorem d_Lw_law_507 : decode code 507 = .ok (.invokevirtual 87, 3) := by decide +kernel
theorem d_Lw_law_510 : decode code 510 = .ok (.aload_n 2, 1) := by decide +kernel
theorem d_Lw_law_511 : decode code 511 = .ok (.aload_n 0, 1) := by decide +kernel
theorem d_Lw_law_512 : decode code 512 = .ok (.iload_n 3, 1) := by decide +kernel
theorem d_Lw_law_513 : decode code 513 = .ok (.iconst 1, 1) := by decide +kernel
theorem d_Lw_law_514 : decode code 514 = .ok (.iadd, 1) := by decide +kernel
theorem d_Lw_law_515 : decode code 515 = .ok (.iaload, 1) := by decide +kernel
theorem d_Lw_law_516 : decode code 516 = .ok (.invokevirtual 90, 3) := by decide +kernel
theorem d_Lw_law_519 : decode code 519 = .ok (.if_icmp .eq (5), 3) := by decide +kernel
theorem d_Lw_law_522 : decode code 522 = .ok (.iconst 0, 1) := by decide +kernel
theorem d_Lw_law_523 : decode code 523 = .ok (.ireturn, 1) := by decide +kernel
theorem d_Lw_law_524 : decode code 524 = .ok (.iinc 3 (4), 3) := by decide +kernel
theorem d_Lw_law_527 : decode code 527 = .ok (.goto (-489), 3) := by decide +kernel
theorem d_Lw_law_530 : decode code 530 = .ok (.iconst 1, 1) := by decide +kernel
theorem d_Lw_law_531 : decode code 531 = .ok (.ireturn, 1) := by decide +kernel
