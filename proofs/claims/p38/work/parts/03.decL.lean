theorem dL_cell_0 : decode cL_cell 0 = .ok (.aload_n 0, 1) := by decide +kernel
theorem dL_cell_1 : decode cL_cell 1 = .ok (.arraylength, 1) := by decide +kernel
theorem dL_cell_2 : decode cL_cell 2 = .ok (.ifCond .ne 13, 3) := by decide +kernel
theorem dL_cell_5 : decode cL_cell 5 = .ok (.bipush 71, 2) := by decide +kernel
theorem dL_cell_7 : decode cL_cell 7 = .ok (.iload_n 1, 1) := by decide +kernel
theorem dL_cell_8 : decode cL_cell 8 = .ok (.imul, 1) := by decide +kernel
theorem dL_cell_9 : decode cL_cell 9 = .ok (.bipush 13, 2) := by decide +kernel
theorem dL_cell_11 : decode cL_cell 11 = .ok (.iadd, 1) := by decide +kernel
theorem dL_cell_12 : decode cL_cell 12 = .ok (.goto 19, 3) := by decide +kernel
theorem dL_cell_15 : decode cL_cell 15 = .ok (.aload_n 0, 1) := by decide +kernel
theorem dL_cell_16 : decode cL_cell 16 = .ok (.iload_n 1, 1) := by decide +kernel
theorem dL_cell_17 : decode cL_cell 17 = .ok (.aload_n 0, 1) := by decide +kernel
theorem dL_cell_18 : decode cL_cell 18 = .ok (.arraylength, 1) := by decide +kernel
theorem dL_cell_19 : decode cL_cell 19 = .ok (.irem, 1) := by decide +kernel
theorem dL_cell_20 : decode cL_cell 20 = .ok (.iaload, 1) := by decide +kernel
theorem dL_cell_21 : decode cL_cell 21 = .ok (.iconst 5, 1) := by decide +kernel
theorem dL_cell_22 : decode cL_cell 22 = .ok (.iload_n 1, 1) := by decide +kernel
theorem dL_cell_23 : decode cL_cell 23 = .ok (.aload_n 0, 1) := by decide +kernel
theorem dL_cell_24 : decode cL_cell 24 = .ok (.arraylength, 1) := by decide +kernel
theorem dL_cell_25 : decode cL_cell 25 = .ok (.idiv, 1) := by decide +kernel
theorem dL_cell_26 : decode cL_cell 26 = .ok (.imul, 1) := by decide +kernel
theorem dL_cell_27 : decode cL_cell 27 = .ok (.bipush 17, 2) := by decide +kernel
theorem dL_cell_29 : decode cL_cell 29 = .ok (.irem, 1) := by decide +kernel
theorem dL_cell_30 : decode cL_cell 30 = .ok (.iushr, 1) := by decide +kernel
theorem dL_cell_31 : decode cL_cell 31 = .ok (.ireturn, 1) := by decide +kernel
theorem dL_some_0 : decode cL_some 0 = .ok (.aload_n 0, 1) := by decide +kernel
theorem dL_some_1 : decode cL_some 1 = .ok (.bipush 25, 2) := by decide +kernel
theorem dL_some_3 : decode cL_some 3 = .ok (.invokevirtual 23, 3) := by decide +kernel
theorem dL_some_6 : decode cL_some 6 = .ok (.ifCond .ne 7, 3) := by decide +kernel
theorem dL_some_9 : decode cL_some 9 = .ok (.iload_n 1, 1) := by decide +kernel
theorem dL_some_10 : decode cL_some 10 = .ok (.goto 12, 3) := by decide +kernel
theorem dL_some_13 : decode cL_some 13 = .ok (.aload_n 0, 1) := by decide +kernel
theorem dL_some_14 : decode cL_some 14 = .ok (.iconst 1, 1) := by decide +kernel
theorem dL_some_15 : decode cL_some 15 = .ok (.iload_n 1, 1) := by decide +kernel
theorem dL_some_16 : decode cL_some 16 = .ok (.invokestatic 28, 3) := by decide +kernel
theorem dL_some_19 : decode cL_some 19 = .ok (.invokevirtual 23, 3) := by decide +kernel
theorem dL_some_22 : decode cL_some 22 = .ok (.ireturn, 1) := by decide +kernel
theorem dL_acts_0 : decode cL_acts 0 = .ok (.aload_n 2, 1) := by decide +kernel
theorem dL_acts_1 : decode cL_acts 1 = .ok (.aload_n 0, 1) := by decide +kernel
theorem dL_acts_2 : decode cL_acts 2 = .ok (.iconst 0, 1) := by decide +kernel
theorem dL_acts_3 : decode cL_acts 3 = .ok (.invokevirtual 34, 3) := by decide +kernel
theorem dL_acts_6 : decode cL_acts 6 = .ok (.invokestatic 37, 3) := by decide +kernel
theorem dL_acts_9 : decode cL_acts 9 = .ok (.istore_n 3, 1) := by decide +kernel
theorem dL_acts_10 : decode cL_acts 10 = .ok (.aload_n 2, 1) := by decide +kernel
theorem dL_acts_11 : decode cL_acts 11 = .ok (.aload_n 0, 1) := by decide +kernel
theorem dL_acts_12 : decode cL_acts 12 = .ok (.iconst 1, 1) := by decide +kernel
theorem dL_acts_13 : decode cL_acts 13 = .ok (.invokevirtual 34, 3) := by decide +kernel
theorem dL_acts_16 : decode cL_acts 16 = .ok (.invokestatic 37, 3) := by decide +kernel
theorem dL_acts_19 : decode cL_acts 19 = .ok (.istore 4, 2) := by decide +kernel
theorem dL_acts_21 : decode cL_acts 21 = .ok (.iload_n 1, 1) := by decide +kernel
theorem dL_acts_22 : decode cL_acts 22 = .ok (.bipush 30, 2) := by decide +kernel
theorem dL_acts_24 : decode cL_acts 24 = .ok (.irem, 1) := by decide +kernel
theorem dL_acts_25 : decode cL_acts 25 = .ok (.tableswitch 330 0 27 #[127, 154, 154, 180, 180, 180, 180, 223, 223, 223, 223, 223, 223, 223, 223, 223, 277, 277, 277, 277, 277, 277, 282, 282, 288, 288, 294, 294], 127) := by decide +kernel
theorem dL_acts_152 : decode cL_acts 152 = .ok (.aload_n 0, 1) := by decide +kernel
theorem dL_acts_153 : decode cL_acts 153 = .ok (.aload_n 2, 1) := by decide +kernel
theorem dL_acts_154 : decode cL_acts 154 = .ok (.bipush 20, 2) := by decide +kernel
theorem dL_acts_156 : decode cL_acts 156 = .ok (.invokevirtual 23, 3) := by decide +kernel
theorem dL_acts_159 : decode cL_acts 159 = .ok (.ifCond .ne 8, 3) := by decide +kernel
theorem dL_acts_162 : decode cL_acts 162 = .ok (.bipush 10, 2) := by decide +kernel
theorem dL_acts_164 : decode cL_acts 164 = .ok (.goto 11, 3) := by decide +kernel
theorem dL_acts_167 : decode cL_acts 167 = .ok (.iconst 1, 1) := by decide +kernel
theorem dL_acts_168 : decode cL_acts 168 = .ok (.aload_n 2, 1) := by decide +kernel
theorem dL_acts_169 : decode cL_acts 169 = .ok (.bipush 9, 2) := by decide +kernel
theorem dL_acts_171 : decode cL_acts 171 = .ok (.invokevirtual 23, 3) := by decide +kernel
theorem dL_acts_174 : decode cL_acts 174 = .ok (.iadd, 1) := by decide +kernel
theorem dL_acts_175 : decode cL_acts 175 = .ok (.invokevirtual 43, 3) := by decide +kernel
theorem dL_acts_178 : decode cL_acts 178 = .ok (.ireturn, 1) := by decide +kernel
theorem dL_acts_179 : decode cL_acts 179 = .ok (.aload_n 0, 1) := by decide +kernel
theorem dL_acts_180 : decode cL_acts 180 = .ok (.aload_n 2, 1) := by decide +kernel
theorem dL_acts_181 : decode cL_acts 181 = .ok (.bipush 20, 2) := by decide +kernel
theorem dL_acts_183 : decode cL_acts 183 = .ok (.invokevirtual 23, 3) := by decide +kernel
theorem dL_acts_186 : decode cL_acts 186 = .ok (.ifCond .ne 7, 3) := by decide +kernel
theorem dL_acts_189 : decode cL_acts 189 = .ok (.iconst 0, 1) := by decide +kernel
theorem dL_acts_190 : decode cL_acts 190 = .ok (.goto 11, 3) := by decide +kernel
theorem dL_acts_193 : decode cL_acts 193 = .ok (.iconst 1, 1) := by decide +kernel
theorem dL_acts_194 : decode cL_acts 194 = .ok (.aload_n 2, 1) := by decide +kernel
theorem dL_acts_195 : decode cL_acts 195 = .ok (.bipush 9, 2) := by decide +kernel
theorem dL_acts_197 : decode cL_acts 197 = .ok (.invokevirtual 23, 3) := by decide +kernel
theorem dL_acts_200 : decode cL_acts 200 = .ok (.iadd, 1) := by decide +kernel
theorem dL_acts_201 : decode cL_acts 201 = .ok (.invokevirtual 46, 3) := by decide +kernel
theorem dL_acts_204 : decode cL_acts 204 = .ok (.ireturn, 1) := by decide +kernel
theorem dL_acts_205 : decode cL_acts 205 = .ok (.aload_n 0, 1) := by decide +kernel
theorem dL_acts_206 : decode cL_acts 206 = .ok (.iload_n 3, 1) := by decide +kernel
theorem dL_acts_207 : decode cL_acts 207 = .ok (.iload 4, 2) := by decide +kernel
theorem dL_acts_209 : decode cL_acts 209 = .ok (.aload_n 2, 1) := by decide +kernel
theorem dL_acts_210 : decode cL_acts 210 = .ok (.bipush 20, 2) := by decide +kernel
theorem dL_acts_212 : decode cL_acts 212 = .ok (.invokevirtual 23, 3) := by decide +kernel
theorem dL_acts_215 : decode cL_acts 215 = .ok (.ifCond .ne 8, 3) := by decide +kernel
theorem dL_acts_218 : decode cL_acts 218 = .ok (.bipush 49, 2) := by decide +kernel
theorem dL_acts_220 : decode cL_acts 220 = .ok (.goto 24, 3) := by decide +kernel
theorem dL_acts_223 : decode cL_acts 223 = .ok (.iconst 1, 1) := by decide +kernel
theorem dL_acts_224 : decode cL_acts 224 = .ok (.aload_n 2, 1) := by decide +kernel
theorem dL_acts_225 : decode cL_acts 225 = .ok (.aload_n 2, 1) := by decide +kernel
theorem dL_acts_226 : decode cL_acts 226 = .ok (.iconst 3, 1) := by decide +kernel
theorem dL_acts_227 : decode cL_acts 227 = .ok (.invokevirtual 23, 3) := by decide +kernel
theorem dL_acts_230 : decode cL_acts 230 = .ok (.ifCond .ne 8, 3) := by decide +kernel
theorem dL_acts_233 : decode cL_acts 233 = .ok (.bipush 48, 2) := by decide +kernel
theorem dL_acts_235 : decode cL_acts 235 = .ok (.goto 5, 3) := by decide +kernel
theorem dL_acts_238 : decode cL_acts 238 = .ok (.bipush 6, 2) := by decide +kernel
theorem dL_acts_240 : decode cL_acts 240 = .ok (.invokevirtual 23, 3) := by decide +kernel
theorem dL_acts_243 : decode cL_acts 243 = .ok (.iadd, 1) := by decide +kernel
theorem dL_acts_244 : decode cL_acts 244 = .ok (.invokevirtual 49, 3) := by decide +kernel
theorem dL_acts_247 : decode cL_acts 247 = .ok (.ireturn, 1) := by decide +kernel
theorem dL_acts_248 : decode cL_acts 248 = .ok (.aload_n 0, 1) := by decide +kernel
theorem dL_acts_249 : decode cL_acts 249 = .ok (.iload_n 3, 1) := by decide +kernel
theorem dL_acts_250 : decode cL_acts 250 = .ok (.iload 4, 2) := by decide +kernel
theorem dL_acts_252 : decode cL_acts 252 = .ok (.aload_n 2, 1) := by decide +kernel
theorem dL_acts_253 : decode cL_acts 253 = .ok (.iconst 4, 1) := by decide +kernel
theorem dL_acts_254 : decode cL_acts 254 = .ok (.invokestatic 37, 3) := by decide +kernel
theorem dL_acts_257 : decode cL_acts 257 = .ok (.aload_n 2, 1) := by decide +kernel
theorem dL_acts_258 : decode cL_acts 258 = .ok (.bipush 25, 2) := by decide +kernel
theorem dL_acts_260 : decode cL_acts 260 = .ok (.invokevirtual 23, 3) := by decide +kernel
theorem dL_acts_263 : decode cL_acts 263 = .ok (.ifCond .ne 8, 3) := by decide +kernel
theorem dL_acts_266 : decode cL_acts 266 = .ok (.bipush 100, 2) := by decide +kernel
theorem dL_acts_268 : decode cL_acts 268 = .ok (.goto 30, 3) := by decide +kernel
theorem dL_acts_271 : decode cL_acts 271 = .ok (.aload_n 0, 1) := by decide +kernel
theorem dL_acts_272 : decode cL_acts 272 = .ok (.iconst 3, 1) := by decide +kernel
theorem dL_acts_273 : decode cL_acts 273 = .ok (.invokevirtual 34, 3) := by decide +kernel
theorem dL_acts_276 : decode cL_acts 276 = .ok (.aload_n 2, 1) := by decide +kernel
theorem dL_acts_277 : decode cL_acts 277 = .ok (.bipush 6, 2) := by decide +kernel
theorem dL_acts_279 : decode cL_acts 279 = .ok (.invokevirtual 23, 3) := by decide +kernel
theorem dL_acts_282 : decode cL_acts 282 = .ok (.iadd, 1) := by decide +kernel
theorem dL_acts_283 : decode cL_acts 283 = .ok (.aload_n 2, 1) := by decide +kernel
theorem dL_acts_284 : decode cL_acts 284 = .ok (.bipush 8, 2) := by decide +kernel
theorem dL_acts_286 : decode cL_acts 286 = .ok (.invokevirtual 23, 3) := by decide +kernel
theorem dL_acts_289 : decode cL_acts 289 = .ok (.ifCond .ne 7, 3) := by decide +kernel
theorem dL_acts_292 : decode cL_acts 292 = .ok (.iconst 1, 1) := by decide +kernel
theorem dL_acts_293 : decode cL_acts 293 = .ok (.goto 4, 3) := by decide +kernel
theorem dL_acts_296 : decode cL_acts 296 = .ok (.iconst 0, 1) := by decide +kernel
theorem dL_acts_297 : decode cL_acts 297 = .ok (.isub, 1) := by decide +kernel
theorem dL_acts_298 : decode cL_acts 298 = .ok (.invokevirtual 53, 3) := by decide +kernel
theorem dL_acts_301 : decode cL_acts 301 = .ok (.ireturn, 1) := by decide +kernel
theorem dL_acts_302 : decode cL_acts 302 = .ok (.aload_n 0, 1) := by decide +kernel
theorem dL_acts_303 : decode cL_acts 303 = .ok (.invokevirtual 57, 3) := by decide +kernel
theorem dL_acts_306 : decode cL_acts 306 = .ok (.ireturn, 1) := by decide +kernel
theorem dL_acts_307 : decode cL_acts 307 = .ok (.aload_n 0, 1) := by decide +kernel
theorem dL_acts_308 : decode cL_acts 308 = .ok (.iload_n 3, 1) := by decide +kernel
theorem dL_acts_309 : decode cL_acts 309 = .ok (.invokevirtual 59, 3) := by decide +kernel
theorem dL_acts_312 : decode cL_acts 312 = .ok (.ireturn, 1) := by decide +kernel
theorem dL_acts_313 : decode cL_acts 313 = .ok (.aload_n 0, 1) := by decide +kernel
theorem dL_acts_314 : decode cL_acts 314 = .ok (.iload_n 3, 1) := by decide +kernel
theorem dL_acts_315 : decode cL_acts 315 = .ok (.invokevirtual 62, 3) := by decide +kernel
theorem dL_acts_318 : decode cL_acts 318 = .ok (.ireturn, 1) := by decide +kernel
theorem dL_acts_319 : decode cL_acts 319 = .ok (.aload_n 0, 1) := by decide +kernel
theorem dL_acts_320 : decode cL_acts 320 = .ok (.aload_n 2, 1) := by decide +kernel
theorem dL_acts_321 : decode cL_acts 321 = .ok (.iconst 4, 1) := by decide +kernel
theorem dL_acts_322 : decode cL_acts 322 = .ok (.invokestatic 37, 3) := by decide +kernel
theorem dL_acts_325 : decode cL_acts 325 = .ok (.aload_n 2, 1) := by decide +kernel
theorem dL_acts_326 : decode cL_acts 326 = .ok (.bipush 20, 2) := by decide +kernel
theorem dL_acts_328 : decode cL_acts 328 = .ok (.invokevirtual 23, 3) := by decide +kernel
theorem dL_acts_331 : decode cL_acts 331 = .ok (.ifCond .ne 7, 3) := by decide +kernel
theorem dL_acts_334 : decode cL_acts 334 = .ok (.iconst 2, 1) := by decide +kernel
theorem dL_acts_335 : decode cL_acts 335 = .ok (.goto 16, 3) := by decide +kernel
theorem dL_acts_338 : decode cL_acts 338 = .ok (.aload_n 2, 1) := by decide +kernel
theorem dL_acts_339 : decode cL_acts 339 = .ok (.iconst 3, 1) := by decide +kernel
theorem dL_acts_340 : decode cL_acts 340 = .ok (.invokevirtual 23, 3) := by decide +kernel
theorem dL_acts_343 : decode cL_acts 343 = .ok (.ifCond .ne 7, 3) := by decide +kernel
theorem dL_acts_346 : decode cL_acts 346 = .ok (.iconst 1, 1) := by decide +kernel
theorem dL_acts_347 : decode cL_acts 347 = .ok (.goto 4, 3) := by decide +kernel
theorem dL_acts_350 : decode cL_acts 350 = .ok (.iconst 0, 1) := by decide +kernel
theorem dL_acts_351 : decode cL_acts 351 = .ok (.invokevirtual 65, 3) := by decide +kernel
theorem dL_acts_354 : decode cL_acts 354 = .ok (.ireturn, 1) := by decide +kernel
theorem dL_acts_355 : decode cL_acts 355 = .ok (.aload_n 0, 1) := by decide +kernel
theorem dL_acts_356 : decode cL_acts 356 = .ok (.aload_n 2, 1) := by decide +kernel
theorem dL_acts_357 : decode cL_acts 357 = .ok (.bipush 20, 2) := by decide +kernel
theorem dL_acts_359 : decode cL_acts 359 = .ok (.invokevirtual 23, 3) := by decide +kernel
theorem dL_acts_362 : decode cL_acts 362 = .ok (.ifCond .ne 8, 3) := by decide +kernel
theorem dL_acts_365 : decode cL_acts 365 = .ok (.bipush 25, 2) := by decide +kernel
theorem dL_acts_367 : decode cL_acts 367 = .ok (.goto 10, 3) := by decide +kernel
theorem dL_acts_370 : decode cL_acts 370 = .ok (.iconst 1, 1) := by decide +kernel
theorem dL_acts_371 : decode cL_acts 371 = .ok (.aload_n 2, 1) := by decide +kernel
theorem dL_acts_372 : decode cL_acts 372 = .ok (.iconst 5, 1) := by decide +kernel
theorem dL_acts_373 : decode cL_acts 373 = .ok (.invokevirtual 23, 3) := by decide +kernel
theorem dL_acts_376 : decode cL_acts 376 = .ok (.iadd, 1) := by decide +kernel
theorem dL_acts_377 : decode cL_acts 377 = .ok (.invokevirtual 68, 3) := by decide +kernel
theorem dL_acts_380 : decode cL_acts 380 = .ok (.ireturn, 1) := by decide +kernel
theorem dL_line_0 : decode cL_line 0 = .ok (.new 71, 3) := by decide +kernel
theorem dL_line_3 : decode cL_line 3 = .ok (.dup, 1) := by decide +kernel
theorem dL_line_4 : decode cL_line 4 = .ok (.invokespecial 73, 3) := by decide +kernel
theorem dL_line_7 : decode cL_line 7 = .ok (.astore_n 2, 1) := by decide +kernel
theorem dL_line_8 : decode cL_line 8 = .ok (.iconst 0, 1) := by decide +kernel
theorem dL_line_9 : decode cL_line 9 = .ok (.istore_n 3, 1) := by decide +kernel
theorem dL_line_10 : decode cL_line 10 = .ok (.iload_n 3, 1) := by decide +kernel
theorem dL_line_11 : decode cL_line 11 = .ok (.iload_n 1, 1) := by decide +kernel
theorem dL_line_12 : decode cL_line 12 = .ok (.if_icmp .ge 20, 3) := by decide +kernel
theorem dL_line_15 : decode cL_line 15 = .ok (.aload_n 2, 1) := by decide +kernel
theorem dL_line_16 : decode cL_line 16 = .ok (.aload_n 0, 1) := by decide +kernel
theorem dL_line_17 : decode cL_line 17 = .ok (.iload_n 3, 1) := by decide +kernel
theorem dL_line_18 : decode cL_line 18 = .ok (.invokevirtual 74, 3) := by decide +kernel
theorem dL_line_21 : decode cL_line 21 = .ok (.i2c, 1) := by decide +kernel
theorem dL_line_22 : decode cL_line 22 = .ok (.invokevirtual 77, 3) := by decide +kernel
theorem dL_line_25 : decode cL_line 25 = .ok (.pop, 1) := by decide +kernel
theorem dL_line_26 : decode cL_line 26 = .ok (.iinc 3 1, 3) := by decide +kernel
theorem dL_line_29 : decode cL_line 29 = .ok (.goto (-19), 3) := by decide +kernel
theorem dL_line_32 : decode cL_line 32 = .ok (.aload_n 2, 1) := by decide +kernel
theorem dL_line_33 : decode cL_line 33 = .ok (.invokevirtual 80, 3) := by decide +kernel
theorem dL_line_36 : decode cL_line 36 = .ok (.areturn, 1) := by decide +kernel
theorem dL_told_0 : decode cL_told 0 = .ok (.new 71, 3) := by decide +kernel
theorem dL_told_3 : decode cL_told 3 = .ok (.dup, 1) := by decide +kernel
theorem dL_told_4 : decode cL_told 4 = .ok (.invokespecial 73, 3) := by decide +kernel
theorem dL_told_7 : decode cL_told 7 = .ok (.astore_n 1, 1) := by decide +kernel
theorem dL_told_8 : decode cL_told 8 = .ok (.iconst 0, 1) := by decide +kernel
theorem dL_told_9 : decode cL_told 9 = .ok (.istore_n 2, 1) := by decide +kernel
theorem dL_told_10 : decode cL_told 10 = .ok (.iload_n 2, 1) := by decide +kernel
theorem dL_told_11 : decode cL_told 11 = .ok (.bipush 13, 2) := by decide +kernel
theorem dL_told_13 : decode cL_told 13 = .ok (.if_icmp .ge 24, 3) := by decide +kernel
theorem dL_told_16 : decode cL_told 16 = .ok (.aload_n 1, 1) := by decide +kernel
theorem dL_told_17 : decode cL_told 17 = .ok (.aload_n 0, 1) := by decide +kernel
theorem dL_told_18 : decode cL_told 18 = .ok (.iload_n 2, 1) := by decide +kernel
theorem dL_told_19 : decode cL_told 19 = .ok (.invokevirtual 34, 3) := by decide +kernel
theorem dL_told_22 : decode cL_told 22 = .ok (.invokevirtual 84, 3) := by decide +kernel
theorem dL_told_25 : decode cL_told 25 = .ok (.bipush 44, 2) := by decide +kernel
theorem dL_told_27 : decode cL_told 27 = .ok (.invokevirtual 77, 3) := by decide +kernel
theorem dL_told_30 : decode cL_told 30 = .ok (.pop, 1) := by decide +kernel
theorem dL_told_31 : decode cL_told 31 = .ok (.iinc 2 1, 3) := by decide +kernel
theorem dL_told_34 : decode cL_told 34 = .ok (.goto (-24), 3) := by decide +kernel
theorem dL_told_37 : decode cL_told 37 = .ok (.iconst 0, 1) := by decide +kernel
theorem dL_told_38 : decode cL_told 38 = .ok (.istore_n 2, 1) := by decide +kernel
theorem dL_told_39 : decode cL_told 39 = .ok (.iload_n 2, 1) := by decide +kernel
theorem dL_told_40 : decode cL_told 40 = .ok (.aload_n 0, 1) := by decide +kernel
theorem dL_told_41 : decode cL_told 41 = .ok (.iconst 0, 1) := by decide +kernel
theorem dL_told_42 : decode cL_told 42 = .ok (.invokevirtual 34, 3) := by decide +kernel
theorem dL_told_45 : decode cL_told 45 = .ok (.if_icmp .ge 58, 3) := by decide +kernel
theorem dL_told_48 : decode cL_told 48 = .ok (.aload_n 1, 1) := by decide +kernel
theorem dL_told_49 : decode cL_told 49 = .ok (.aload_n 0, 1) := by decide +kernel
theorem dL_told_50 : decode cL_told 50 = .ok (.aload_n 0, 1) := by decide +kernel
theorem dL_told_51 : decode cL_told 51 = .ok (.iload_n 2, 1) := by decide +kernel
theorem dL_told_52 : decode cL_told 52 = .ok (.invokevirtual 87, 3) := by decide +kernel
theorem dL_told_55 : decode cL_told 55 = .ok (.invokestatic 90, 3) := by decide +kernel
theorem dL_told_58 : decode cL_told 58 = .ok (.invokevirtual 94, 3) := by decide +kernel
theorem dL_told_61 : decode cL_told 61 = .ok (.bipush 47, 2) := by decide +kernel
theorem dL_told_63 : decode cL_told 63 = .ok (.invokevirtual 77, 3) := by decide +kernel
theorem dL_told_66 : decode cL_told 66 = .ok (.aload_n 0, 1) := by decide +kernel
theorem dL_told_67 : decode cL_told 67 = .ok (.iload_n 2, 1) := by decide +kernel
theorem dL_told_68 : decode cL_told 68 = .ok (.bipush 6, 2) := by decide +kernel
theorem dL_told_70 : decode cL_told 70 = .ok (.invokevirtual 97, 3) := by decide +kernel
theorem dL_told_73 : decode cL_told 73 = .ok (.invokevirtual 84, 3) := by decide +kernel
theorem dL_told_76 : decode cL_told 76 = .ok (.bipush 44, 2) := by decide +kernel
theorem dL_told_78 : decode cL_told 78 = .ok (.invokevirtual 77, 3) := by decide +kernel
theorem dL_told_81 : decode cL_told 81 = .ok (.aload_n 0, 1) := by decide +kernel
theorem dL_told_82 : decode cL_told 82 = .ok (.iload_n 2, 1) := by decide +kernel
theorem dL_told_83 : decode cL_told 83 = .ok (.bipush 7, 2) := by decide +kernel
theorem dL_told_85 : decode cL_told 85 = .ok (.invokevirtual 97, 3) := by decide +kernel
theorem dL_told_88 : decode cL_told 88 = .ok (.invokevirtual 84, 3) := by decide +kernel
theorem dL_told_91 : decode cL_told 91 = .ok (.bipush 59, 2) := by decide +kernel
theorem dL_told_93 : decode cL_told 93 = .ok (.invokevirtual 77, 3) := by decide +kernel
theorem dL_told_96 : decode cL_told 96 = .ok (.pop, 1) := by decide +kernel
theorem dL_told_97 : decode cL_told 97 = .ok (.iinc 2 1, 3) := by decide +kernel
theorem dL_told_100 : decode cL_told 100 = .ok (.goto (-61), 3) := by decide +kernel
theorem dL_told_103 : decode cL_told 103 = .ok (.iconst 0, 1) := by decide +kernel
theorem dL_told_104 : decode cL_told 104 = .ok (.istore_n 2, 1) := by decide +kernel
theorem dL_told_105 : decode cL_told 105 = .ok (.iload_n 2, 1) := by decide +kernel
theorem dL_told_106 : decode cL_told 106 = .ok (.aload_n 0, 1) := by decide +kernel
theorem dL_told_107 : decode cL_told 107 = .ok (.iconst 1, 1) := by decide +kernel
theorem dL_told_108 : decode cL_told 108 = .ok (.invokevirtual 34, 3) := by decide +kernel
theorem dL_told_111 : decode cL_told 111 = .ok (.if_icmp .ge 82, 3) := by decide +kernel
theorem dL_told_114 : decode cL_told 114 = .ok (.iconst 0, 1) := by decide +kernel
theorem dL_told_115 : decode cL_told 115 = .ok (.istore_n 3, 1) := by decide +kernel
theorem dL_told_116 : decode cL_told 116 = .ok (.iload_n 3, 1) := by decide +kernel
theorem dL_told_117 : decode cL_told 117 = .ok (.iconst 4, 1) := by decide +kernel
theorem dL_told_118 : decode cL_told 118 = .ok (.if_icmp .ge 25, 3) := by decide +kernel
theorem dL_told_121 : decode cL_told 121 = .ok (.aload_n 1, 1) := by decide +kernel
theorem dL_told_122 : decode cL_told 122 = .ok (.aload_n 0, 1) := by decide +kernel
theorem dL_told_123 : decode cL_told 123 = .ok (.iload_n 2, 1) := by decide +kernel
theorem dL_told_124 : decode cL_told 124 = .ok (.iload_n 3, 1) := by decide +kernel
theorem dL_told_125 : decode cL_told 125 = .ok (.invokevirtual 100, 3) := by decide +kernel
theorem dL_told_128 : decode cL_told 128 = .ok (.invokevirtual 84, 3) := by decide +kernel
theorem dL_told_131 : decode cL_told 131 = .ok (.bipush 44, 2) := by decide +kernel
theorem dL_told_133 : decode cL_told 133 = .ok (.invokevirtual 77, 3) := by decide +kernel
theorem dL_told_136 : decode cL_told 136 = .ok (.pop, 1) := by decide +kernel
theorem dL_told_137 : decode cL_told 137 = .ok (.iinc 3 1, 3) := by decide +kernel
theorem dL_told_140 : decode cL_told 140 = .ok (.goto (-24), 3) := by decide +kernel
theorem dL_told_143 : decode cL_told 143 = .ok (.aload_n 1, 1) := by decide +kernel
theorem dL_told_144 : decode cL_told 144 = .ok (.aload_n 0, 1) := by decide +kernel
theorem dL_told_145 : decode cL_told 145 = .ok (.iload_n 2, 1) := by decide +kernel
theorem dL_told_146 : decode cL_told 146 = .ok (.iconst 0, 1) := by decide +kernel
theorem dL_told_147 : decode cL_told 147 = .ok (.invokevirtual 103, 3) := by decide +kernel
theorem dL_told_150 : decode cL_told 150 = .ok (.invokevirtual 84, 3) := by decide +kernel
theorem dL_told_153 : decode cL_told 153 = .ok (.bipush 44, 2) := by decide +kernel
theorem dL_told_155 : decode cL_told 155 = .ok (.invokevirtual 77, 3) := by decide +kernel
theorem dL_told_158 : decode cL_told 158 = .ok (.aload_n 0, 1) := by decide +kernel
theorem dL_told_159 : decode cL_told 159 = .ok (.iload_n 2, 1) := by decide +kernel
theorem dL_told_160 : decode cL_told 160 = .ok (.iconst 1, 1) := by decide +kernel
theorem dL_told_161 : decode cL_told 161 = .ok (.invokevirtual 103, 3) := by decide +kernel
theorem dL_told_164 : decode cL_told 164 = .ok (.invokevirtual 84, 3) := by decide +kernel
theorem dL_told_167 : decode cL_told 167 = .ok (.bipush 44, 2) := by decide +kernel
theorem dL_told_169 : decode cL_told 169 = .ok (.invokevirtual 77, 3) := by decide +kernel
theorem dL_told_172 : decode cL_told 172 = .ok (.aload_n 0, 1) := by decide +kernel
theorem dL_told_173 : decode cL_told 173 = .ok (.iload_n 2, 1) := by decide +kernel
theorem dL_told_174 : decode cL_told 174 = .ok (.iconst 2, 1) := by decide +kernel
theorem dL_told_175 : decode cL_told 175 = .ok (.invokevirtual 103, 3) := by decide +kernel
theorem dL_told_178 : decode cL_told 178 = .ok (.invokevirtual 84, 3) := by decide +kernel
theorem dL_told_181 : decode cL_told 181 = .ok (.bipush 59, 2) := by decide +kernel
theorem dL_told_183 : decode cL_told 183 = .ok (.invokevirtual 77, 3) := by decide +kernel
theorem dL_told_186 : decode cL_told 186 = .ok (.pop, 1) := by decide +kernel
theorem dL_told_187 : decode cL_told 187 = .ok (.iinc 2 1, 3) := by decide +kernel
theorem dL_told_190 : decode cL_told 190 = .ok (.goto (-85), 3) := by decide +kernel
theorem dL_told_193 : decode cL_told 193 = .ok (.iconst 0, 1) := by decide +kernel
theorem dL_told_194 : decode cL_told 194 = .ok (.istore_n 2, 1) := by decide +kernel
theorem dL_told_195 : decode cL_told 195 = .ok (.iload_n 2, 1) := by decide +kernel
theorem dL_told_196 : decode cL_told 196 = .ok (.bipush 12, 2) := by decide +kernel
theorem dL_told_198 : decode cL_told 198 = .ok (.if_icmp .ge 29, 3) := by decide +kernel
theorem dL_told_201 : decode cL_told 201 = .ok (.aload_n 1, 1) := by decide +kernel
theorem dL_told_202 : decode cL_told 202 = .ok (.aload_n 0, 1) := by decide +kernel
theorem dL_told_203 : decode cL_told 203 = .ok (.iload_n 2, 1) := by decide +kernel
theorem dL_told_204 : decode cL_told 204 = .ok (.iconst 3, 1) := by decide +kernel
theorem dL_told_205 : decode cL_told 205 = .ok (.idiv, 1) := by decide +kernel
theorem dL_told_206 : decode cL_told 206 = .ok (.iload_n 2, 1) := by decide +kernel
theorem dL_told_207 : decode cL_told 207 = .ok (.iconst 3, 1) := by decide +kernel
theorem dL_told_208 : decode cL_told 208 = .ok (.irem, 1) := by decide +kernel
theorem dL_told_209 : decode cL_told 209 = .ok (.invokevirtual 106, 3) := by decide +kernel
theorem dL_told_212 : decode cL_told 212 = .ok (.invokevirtual 84, 3) := by decide +kernel
theorem dL_told_215 : decode cL_told 215 = .ok (.bipush 44, 2) := by decide +kernel
theorem dL_told_217 : decode cL_told 217 = .ok (.invokevirtual 77, 3) := by decide +kernel
theorem dL_told_220 : decode cL_told 220 = .ok (.pop, 1) := by decide +kernel
theorem dL_told_221 : decode cL_told 221 = .ok (.iinc 2 1, 3) := by decide +kernel
theorem dL_told_224 : decode cL_told 224 = .ok (.goto (-29), 3) := by decide +kernel
theorem dL_told_227 : decode cL_told 227 = .ok (.aload_n 1, 1) := by decide +kernel
theorem dL_told_228 : decode cL_told 228 = .ok (.aload_n 0, 1) := by decide +kernel
theorem dL_told_229 : decode cL_told 229 = .ok (.aload_n 0, 1) := by decide +kernel
theorem dL_told_230 : decode cL_told 230 = .ok (.invokevirtual 109, 3) := by decide +kernel
theorem dL_told_233 : decode cL_told 233 = .ok (.invokestatic 90, 3) := by decide +kernel
theorem dL_told_236 : decode cL_told 236 = .ok (.invokevirtual 94, 3) := by decide +kernel
theorem dL_told_239 : decode cL_told 239 = .ok (.invokevirtual 80, 3) := by decide +kernel
theorem dL_told_242 : decode cL_told 242 = .ok (.areturn, 1) := by decide +kernel
theorem dL_stock_0 : decode cL_stock 0 = .ok (.aload_n 0, 1) := by decide +kernel
theorem dL_stock_1 : decode cL_stock 1 = .ok (.bipush 7, 2) := by decide +kernel
theorem dL_stock_3 : decode cL_stock 3 = .ok (.invokevirtual 43, 3) := by decide +kernel
theorem dL_stock_6 : decode cL_stock 6 = .ok (.aload_n 0, 1) := by decide +kernel
theorem dL_stock_7 : decode cL_stock 7 = .ok (.iconst 2, 1) := by decide +kernel
theorem dL_stock_8 : decode cL_stock 8 = .ok (.invokevirtual 43, 3) := by decide +kernel
theorem dL_stock_11 : decode cL_stock 11 = .ok (.iadd, 1) := by decide +kernel
theorem dL_stock_12 : decode cL_stock 12 = .ok (.aload_n 0, 1) := by decide +kernel
theorem dL_stock_13 : decode cL_stock 13 = .ok (.bipush 9, 2) := by decide +kernel
theorem dL_stock_15 : decode cL_stock 15 = .ok (.invokevirtual 43, 3) := by decide +kernel
theorem dL_stock_18 : decode cL_stock 18 = .ok (.iadd, 1) := by decide +kernel
theorem dL_stock_19 : decode cL_stock 19 = .ok (.aload_n 0, 1) := by decide +kernel
theorem dL_stock_20 : decode cL_stock 20 = .ok (.iconst 5, 1) := by decide +kernel
theorem dL_stock_21 : decode cL_stock 21 = .ok (.invokevirtual 46, 3) := by decide +kernel
theorem dL_stock_24 : decode cL_stock 24 = .ok (.iadd, 1) := by decide +kernel
theorem dL_stock_25 : decode cL_stock 25 = .ok (.aload_n 0, 1) := by decide +kernel
theorem dL_stock_26 : decode cL_stock 26 = .ok (.bipush 9, 2) := by decide +kernel
theorem dL_stock_28 : decode cL_stock 28 = .ok (.invokevirtual 46, 3) := by decide +kernel
theorem dL_stock_31 : decode cL_stock 31 = .ok (.iadd, 1) := by decide +kernel
theorem dL_stock_32 : decode cL_stock 32 = .ok (.aload_n 0, 1) := by decide +kernel
theorem dL_stock_33 : decode cL_stock 33 = .ok (.iconst 1, 1) := by decide +kernel
theorem dL_stock_34 : decode cL_stock 34 = .ok (.invokevirtual 46, 3) := by decide +kernel
theorem dL_stock_37 : decode cL_stock 37 = .ok (.iadd, 1) := by decide +kernel
theorem dL_stock_38 : decode cL_stock 38 = .ok (.aload_n 0, 1) := by decide +kernel
theorem dL_stock_39 : decode cL_stock 39 = .ok (.iconst 0, 1) := by decide +kernel
theorem dL_stock_40 : decode cL_stock 40 = .ok (.iconst 1, 1) := by decide +kernel
theorem dL_stock_41 : decode cL_stock 41 = .ok (.iconst 3, 1) := by decide +kernel
theorem dL_stock_42 : decode cL_stock 42 = .ok (.invokevirtual 49, 3) := by decide +kernel
theorem dL_stock_45 : decode cL_stock 45 = .ok (.iadd, 1) := by decide +kernel
theorem dL_stock_46 : decode cL_stock 46 = .ok (.aload_n 0, 1) := by decide +kernel
theorem dL_stock_47 : decode cL_stock 47 = .ok (.iconst 1, 1) := by decide +kernel
theorem dL_stock_48 : decode cL_stock 48 = .ok (.invokevirtual 59, 3) := by decide +kernel
theorem dL_stock_51 : decode cL_stock 51 = .ok (.iadd, 1) := by decide +kernel
theorem dL_stock_52 : decode cL_stock 52 = .ok (.istore_n 1, 1) := by decide +kernel
theorem dL_stock_53 : decode cL_stock 53 = .ok (.iload_n 1, 1) := by decide +kernel
theorem dL_stock_54 : decode cL_stock 54 = .ok (.aload_n 0, 1) := by decide +kernel
theorem dL_stock_55 : decode cL_stock 55 = .ok (.iconst 0, 1) := by decide +kernel
theorem dL_stock_56 : decode cL_stock 56 = .ok (.iconst 1, 1) := by decide +kernel
theorem dL_stock_57 : decode cL_stock 57 = .ok (.iconst 0, 1) := by decide +kernel
theorem dL_stock_58 : decode cL_stock 58 = .ok (.iconst 1, 1) := by decide +kernel
theorem dL_stock_59 : decode cL_stock 59 = .ok (.invokevirtual 53, 3) := by decide +kernel
theorem dL_stock_62 : decode cL_stock 62 = .ok (.aload_n 0, 1) := by decide +kernel
theorem dL_stock_63 : decode cL_stock 63 = .ok (.iconst 1, 1) := by decide +kernel
theorem dL_stock_64 : decode cL_stock 64 = .ok (.iconst 2, 1) := by decide +kernel
theorem dL_stock_65 : decode cL_stock 65 = .ok (.iconst 0, 1) := by decide +kernel
theorem dL_stock_66 : decode cL_stock 66 = .ok (.iconst 1, 1) := by decide +kernel
theorem dL_stock_67 : decode cL_stock 67 = .ok (.invokevirtual 53, 3) := by decide +kernel
theorem dL_stock_70 : decode cL_stock 70 = .ok (.iadd, 1) := by decide +kernel
theorem dL_stock_71 : decode cL_stock 71 = .ok (.aload_n 0, 1) := by decide +kernel
theorem dL_stock_72 : decode cL_stock 72 = .ok (.iconst 2, 1) := by decide +kernel
theorem dL_stock_73 : decode cL_stock 73 = .ok (.iconst 0, 1) := by decide +kernel
theorem dL_stock_74 : decode cL_stock 74 = .ok (.iconst 1, 1) := by decide +kernel
theorem dL_stock_75 : decode cL_stock 75 = .ok (.iconst 2, 1) := by decide +kernel
theorem dL_stock_76 : decode cL_stock 76 = .ok (.invokevirtual 53, 3) := by decide +kernel
theorem dL_stock_79 : decode cL_stock 79 = .ok (.iadd, 1) := by decide +kernel
theorem dL_stock_80 : decode cL_stock 80 = .ok (.aload_n 0, 1) := by decide +kernel
theorem dL_stock_81 : decode cL_stock 81 = .ok (.iconst 2, 1) := by decide +kernel
theorem dL_stock_82 : decode cL_stock 82 = .ok (.iconst 0, 1) := by decide +kernel
theorem dL_stock_83 : decode cL_stock 83 = .ok (.iconst 0, 1) := by decide +kernel
theorem dL_stock_84 : decode cL_stock 84 = .ok (.iconst 5, 1) := by decide +kernel
theorem dL_stock_85 : decode cL_stock 85 = .ok (.invokevirtual 53, 3) := by decide +kernel
theorem dL_stock_88 : decode cL_stock 88 = .ok (.iadd, 1) := by decide +kernel
theorem dL_stock_89 : decode cL_stock 89 = .ok (.aload_n 0, 1) := by decide +kernel
theorem dL_stock_90 : decode cL_stock 90 = .ok (.iconst 3, 1) := by decide +kernel
theorem dL_stock_91 : decode cL_stock 91 = .ok (.iconst 1, 1) := by decide +kernel
theorem dL_stock_92 : decode cL_stock 92 = .ok (.invokevirtual 65, 3) := by decide +kernel
theorem dL_stock_95 : decode cL_stock 95 = .ok (.iadd, 1) := by decide +kernel
theorem dL_stock_96 : decode cL_stock 96 = .ok (.iadd, 1) := by decide +kernel
theorem dL_stock_97 : decode cL_stock 97 = .ok (.istore_n 1, 1) := by decide +kernel
theorem dL_stock_98 : decode cL_stock 98 = .ok (.iload_n 1, 1) := by decide +kernel
theorem dL_stock_99 : decode cL_stock 99 = .ok (.aload_n 0, 1) := by decide +kernel
theorem dL_stock_100 : decode cL_stock 100 = .ok (.invokevirtual 57, 3) := by decide +kernel
theorem dL_stock_103 : decode cL_stock 103 = .ok (.iadd, 1) := by decide +kernel
theorem dL_stock_104 : decode cL_stock 104 = .ok (.aload_n 0, 1) := by decide +kernel
theorem dL_stock_105 : decode cL_stock 105 = .ok (.invokevirtual 57, 3) := by decide +kernel
theorem dL_stock_108 : decode cL_stock 108 = .ok (.iadd, 1) := by decide +kernel
theorem dL_stock_109 : decode cL_stock 109 = .ok (.aload_n 0, 1) := by decide +kernel
theorem dL_stock_110 : decode cL_stock 110 = .ok (.iconst 1, 1) := by decide +kernel
theorem dL_stock_111 : decode cL_stock 111 = .ok (.invokevirtual 68, 3) := by decide +kernel
theorem dL_stock_114 : decode cL_stock 114 = .ok (.iadd, 1) := by decide +kernel
theorem dL_stock_115 : decode cL_stock 115 = .ok (.ireturn, 1) := by decide +kernel
theorem dL_jokes_0 : decode cL_jokes 0 = .ok (.aload_n 0, 1) := by decide +kernel
theorem dL_jokes_1 : decode cL_jokes 1 = .ok (.iconst 1, 1) := by decide +kernel
theorem dL_jokes_2 : decode cL_jokes 2 = .ok (.invokevirtual 34, 3) := by decide +kernel
theorem dL_jokes_5 : decode cL_jokes 5 = .ok (.istore_n 1, 1) := by decide +kernel
theorem dL_jokes_6 : decode cL_jokes 6 = .ok (.iconst 0, 1) := by decide +kernel
theorem dL_jokes_7 : decode cL_jokes 7 = .ok (.istore_n 2, 1) := by decide +kernel
theorem dL_jokes_8 : decode cL_jokes 8 = .ok (.sipush (-1015), 3) := by decide +kernel
theorem dL_jokes_11 : decode cL_jokes 11 = .ok (.istore_n 3, 1) := by decide +kernel
theorem dL_jokes_12 : decode cL_jokes 12 = .ok (.iconst 0, 1) := by decide +kernel
theorem dL_jokes_13 : decode cL_jokes 13 = .ok (.istore 4, 2) := by decide +kernel
theorem dL_jokes_15 : decode cL_jokes 15 = .ok (.iconst (-1), 1) := by decide +kernel
theorem dL_jokes_16 : decode cL_jokes 16 = .ok (.istore 5, 2) := by decide +kernel
theorem dL_jokes_18 : decode cL_jokes 18 = .ok (.iconst 4, 1) := by decide +kernel
theorem dL_jokes_19 : decode cL_jokes 19 = .ok (.newarray .int, 2) := by decide +kernel
theorem dL_jokes_21 : decode cL_jokes 21 = .ok (.astore 6, 2) := by decide +kernel
theorem dL_jokes_23 : decode cL_jokes 23 = .ok (.iconst 0, 1) := by decide +kernel
theorem dL_jokes_24 : decode cL_jokes 24 = .ok (.istore 7, 2) := by decide +kernel
theorem dL_jokes_26 : decode cL_jokes 26 = .ok (.iload 7, 2) := by decide +kernel
theorem dL_jokes_28 : decode cL_jokes 28 = .ok (.iload_n 1, 1) := by decide +kernel
theorem dL_jokes_29 : decode cL_jokes 29 = .ok (.if_icmp .ge 325, 3) := by decide +kernel
theorem dL_jokes_32 : decode cL_jokes 32 = .ok (.iconst 0, 1) := by decide +kernel
theorem dL_jokes_33 : decode cL_jokes 33 = .ok (.istore 8, 2) := by decide +kernel
theorem dL_jokes_35 : decode cL_jokes 35 = .ok (.iconst 0, 1) := by decide +kernel
theorem dL_jokes_36 : decode cL_jokes 36 = .ok (.istore 9, 2) := by decide +kernel
theorem dL_jokes_38 : decode cL_jokes 38 = .ok (.iconst 0, 1) := by decide +kernel
theorem dL_jokes_39 : decode cL_jokes 39 = .ok (.istore 10, 2) := by decide +kernel
theorem dL_jokes_41 : decode cL_jokes 41 = .ok (.iload 10, 2) := by decide +kernel
theorem dL_jokes_43 : decode cL_jokes 43 = .ok (.iconst 4, 1) := by decide +kernel
theorem dL_jokes_44 : decode cL_jokes 44 = .ok (.if_icmp .ge 38, 3) := by decide +kernel
theorem dL_jokes_47 : decode cL_jokes 47 = .ok (.iload 8, 2) := by decide +kernel
theorem dL_jokes_49 : decode cL_jokes 49 = .ok (.aload_n 0, 1) := by decide +kernel
theorem dL_jokes_50 : decode cL_jokes 50 = .ok (.iload 7, 2) := by decide +kernel
theorem dL_jokes_52 : decode cL_jokes 52 = .ok (.iload 10, 2) := by decide +kernel
theorem dL_jokes_54 : decode cL_jokes 54 = .ok (.invokevirtual 100, 3) := by decide +kernel
theorem dL_jokes_57 : decode cL_jokes 57 = .ok (.iadd, 1) := by decide +kernel
theorem dL_jokes_58 : decode cL_jokes 58 = .ok (.istore 8, 2) := by decide +kernel
theorem dL_jokes_60 : decode cL_jokes 60 = .ok (.aload 6, 2) := by decide +kernel
theorem dL_jokes_62 : decode cL_jokes 62 = .ok (.iload 10, 2) := by decide +kernel
theorem dL_jokes_64 : decode cL_jokes 64 = .ok (.dup2, 1) := by decide +kernel
theorem dL_jokes_65 : decode cL_jokes 65 = .ok (.iaload, 1) := by decide +kernel
theorem dL_jokes_66 : decode cL_jokes 66 = .ok (.aload_n 0, 1) := by decide +kernel
theorem dL_jokes_67 : decode cL_jokes 67 = .ok (.iload 7, 2) := by decide +kernel
theorem dL_jokes_69 : decode cL_jokes 69 = .ok (.iload 10, 2) := by decide +kernel
theorem dL_jokes_71 : decode cL_jokes 71 = .ok (.invokevirtual 100, 3) := by decide +kernel
theorem dL_jokes_74 : decode cL_jokes 74 = .ok (.iadd, 1) := by decide +kernel
theorem dL_jokes_75 : decode cL_jokes 75 = .ok (.iastore, 1) := by decide +kernel
theorem dL_jokes_76 : decode cL_jokes 76 = .ok (.iinc 10 1, 3) := by decide +kernel
theorem dL_jokes_79 : decode cL_jokes 79 = .ok (.goto (-38), 3) := by decide +kernel
theorem dL_jokes_82 : decode cL_jokes 82 = .ok (.iconst 0, 1) := by decide +kernel
theorem dL_jokes_83 : decode cL_jokes 83 = .ok (.istore 10, 2) := by decide +kernel
theorem dL_jokes_85 : decode cL_jokes 85 = .ok (.iload 10, 2) := by decide +kernel
theorem dL_jokes_87 : decode cL_jokes 87 = .ok (.aload_n 0, 1) := by decide +kernel
theorem dL_jokes_88 : decode cL_jokes 88 = .ok (.iconst 2, 1) := by decide +kernel
theorem dL_jokes_89 : decode cL_jokes 89 = .ok (.invokevirtual 34, 3) := by decide +kernel
theorem dL_jokes_92 : decode cL_jokes 92 = .ok (.if_icmp .ge 31, 3) := by decide +kernel
theorem dL_jokes_95 : decode cL_jokes 95 = .ok (.iload 9, 2) := by decide +kernel
theorem dL_jokes_97 : decode cL_jokes 97 = .ok (.aload_n 0, 1) := by decide +kernel
theorem dL_jokes_98 : decode cL_jokes 98 = .ok (.iload 10, 2) := by decide +kernel
theorem dL_jokes_100 : decode cL_jokes 100 = .ok (.iconst 1, 1) := by decide +kernel
theorem dL_jokes_101 : decode cL_jokes 101 = .ok (.invokevirtual 112, 3) := by decide +kernel
theorem dL_jokes_104 : decode cL_jokes 104 = .ok (.iload 7, 2) := by decide +kernel
theorem dL_jokes_106 : decode cL_jokes 106 = .ok (.if_icmp .ne 7, 3) := by decide +kernel
theorem dL_jokes_109 : decode cL_jokes 109 = .ok (.iconst 1, 1) := by decide +kernel
theorem dL_jokes_110 : decode cL_jokes 110 = .ok (.goto 4, 3) := by decide +kernel
theorem dL_jokes_113 : decode cL_jokes 113 = .ok (.iconst 0, 1) := by decide +kernel
theorem dL_jokes_114 : decode cL_jokes 114 = .ok (.iadd, 1) := by decide +kernel
theorem dL_jokes_115 : decode cL_jokes 115 = .ok (.istore 9, 2) := by decide +kernel
theorem dL_jokes_117 : decode cL_jokes 117 = .ok (.iinc 10 1, 3) := by decide +kernel
theorem dL_jokes_120 : decode cL_jokes 120 = .ok (.goto (-35), 3) := by decide +kernel
theorem dL_jokes_123 : decode cL_jokes 123 = .ok (.aload_n 0, 1) := by decide +kernel
theorem dL_jokes_124 : decode cL_jokes 124 = .ok (.iload 7, 2) := by decide +kernel
theorem dL_jokes_126 : decode cL_jokes 126 = .ok (.iconst 1, 1) := by decide +kernel
theorem dL_jokes_127 : decode cL_jokes 127 = .ok (.invokevirtual 103, 3) := by decide +kernel
theorem dL_jokes_130 : decode cL_jokes 130 = .ok (.ifCond .lt 7, 3) := by decide +kernel
theorem dL_jokes_133 : decode cL_jokes 133 = .ok (.iconst 1, 1) := by decide +kernel
theorem dL_jokes_134 : decode cL_jokes 134 = .ok (.goto 4, 3) := by decide +kernel
theorem dL_jokes_137 : decode cL_jokes 137 = .ok (.iconst 0, 1) := by decide +kernel
theorem dL_jokes_138 : decode cL_jokes 138 = .ok (.istore 10, 2) := by decide +kernel
theorem dL_jokes_140 : decode cL_jokes 140 = .ok (.aload_n 0, 1) := by decide +kernel
theorem dL_jokes_141 : decode cL_jokes 141 = .ok (.iconst 3, 1) := by decide +kernel
theorem dL_jokes_142 : decode cL_jokes 142 = .ok (.invokevirtual 34, 3) := by decide +kernel
theorem dL_jokes_145 : decode cL_jokes 145 = .ok (.aload_n 0, 1) := by decide +kernel
theorem dL_jokes_146 : decode cL_jokes 146 = .ok (.iload 7, 2) := by decide +kernel
theorem dL_jokes_148 : decode cL_jokes 148 = .ok (.iconst 2, 1) := by decide +kernel
theorem dL_jokes_149 : decode cL_jokes 149 = .ok (.invokevirtual 103, 3) := by decide +kernel
theorem dL_jokes_152 : decode cL_jokes 152 = .ok (.iadd, 1) := by decide +kernel
theorem dL_jokes_153 : decode cL_jokes 153 = .ok (.istore 11, 2) := by decide +kernel
theorem dL_jokes_155 : decode cL_jokes 155 = .ok (.iload_n 2, 1) := by decide +kernel
theorem dL_jokes_156 : decode cL_jokes 156 = .ok (.iload 10, 2) := by decide +kernel
theorem dL_jokes_158 : decode cL_jokes 158 = .ok (.ifCond .eq 7, 3) := by decide +kernel
theorem dL_jokes_161 : decode cL_jokes 161 = .ok (.iconst 1, 1) := by decide +kernel
theorem dL_jokes_162 : decode cL_jokes 162 = .ok (.goto 4, 3) := by decide +kernel
theorem dL_jokes_165 : decode cL_jokes 165 = .ok (.iconst 0, 1) := by decide +kernel
theorem dL_jokes_166 : decode cL_jokes 166 = .ok (.iadd, 1) := by decide +kernel
theorem dL_jokes_167 : decode cL_jokes 167 = .ok (.istore_n 2, 1) := by decide +kernel
theorem dL_jokes_168 : decode cL_jokes 168 = .ok (.iload 10, 2) := by decide +kernel
theorem dL_jokes_170 : decode cL_jokes 170 = .ok (.ifCond .eq 18, 3) := by decide +kernel
theorem dL_jokes_173 : decode cL_jokes 173 = .ok (.iload_n 3, 1) := by decide +kernel
theorem dL_jokes_174 : decode cL_jokes 174 = .ok (.ifCond .lt 9, 3) := by decide +kernel
theorem dL_jokes_177 : decode cL_jokes 177 = .ok (.iload 11, 2) := by decide +kernel
theorem dL_jokes_179 : decode cL_jokes 179 = .ok (.iload_n 3, 1) := by decide +kernel
theorem dL_jokes_180 : decode cL_jokes 180 = .ok (.if_icmp .ge 8, 3) := by decide +kernel
theorem dL_jokes_183 : decode cL_jokes 183 = .ok (.iload 11, 2) := by decide +kernel
theorem dL_jokes_185 : decode cL_jokes 185 = .ok (.goto 4, 3) := by decide +kernel
theorem dL_jokes_188 : decode cL_jokes 188 = .ok (.iload_n 3, 1) := by decide +kernel
theorem dL_jokes_189 : decode cL_jokes 189 = .ok (.istore_n 3, 1) := by decide +kernel
theorem dL_jokes_190 : decode cL_jokes 190 = .ok (.iload 4, 2) := by decide +kernel
theorem dL_jokes_192 : decode cL_jokes 192 = .ok (.aload_n 0, 1) := by decide +kernel
theorem dL_jokes_193 : decode cL_jokes 193 = .ok (.iload 7, 2) := by decide +kernel
theorem dL_jokes_195 : decode cL_jokes 195 = .ok (.iconst 0, 1) := by decide +kernel
theorem dL_jokes_196 : decode cL_jokes 196 = .ok (.invokevirtual 103, 3) := by decide +kernel
theorem dL_jokes_199 : decode cL_jokes 199 = .ok (.iadd, 1) := by decide +kernel
theorem dL_jokes_200 : decode cL_jokes 200 = .ok (.istore 4, 2) := by decide +kernel
theorem dL_jokes_202 : decode cL_jokes 202 = .ok (.aload_n 0, 1) := by decide +kernel
theorem dL_jokes_203 : decode cL_jokes 203 = .ok (.iload 7, 2) := by decide +kernel
theorem dL_jokes_205 : decode cL_jokes 205 = .ok (.invokevirtual 115, 3) := by decide +kernel
theorem dL_jokes_208 : decode cL_jokes 208 = .ok (.istore 12, 2) := by decide +kernel
theorem dL_jokes_210 : decode cL_jokes 210 = .ok (.iload 5, 2) := by decide +kernel
theorem dL_jokes_212 : decode cL_jokes 212 = .ok (.ifCond .ge 7, 3) := by decide +kernel
theorem dL_jokes_215 : decode cL_jokes 215 = .ok (.iconst 1, 1) := by decide +kernel
theorem dL_jokes_216 : decode cL_jokes 216 = .ok (.goto 18, 3) := by decide +kernel
theorem dL_jokes_219 : decode cL_jokes 219 = .ok (.aload_n 0, 1) := by decide +kernel
theorem dL_jokes_220 : decode cL_jokes 220 = .ok (.iload 5, 2) := by decide +kernel
theorem dL_jokes_222 : decode cL_jokes 222 = .ok (.iconst 3, 1) := by decide +kernel
theorem dL_jokes_223 : decode cL_jokes 223 = .ok (.invokevirtual 103, 3) := by decide +kernel
theorem dL_jokes_226 : decode cL_jokes 226 = .ok (.aload_n 0, 1) := by decide +kernel
theorem dL_jokes_227 : decode cL_jokes 227 = .ok (.iload 12, 2) := by decide +kernel
theorem dL_jokes_229 : decode cL_jokes 229 = .ok (.iconst 3, 1) := by decide +kernel
theorem dL_jokes_230 : decode cL_jokes 230 = .ok (.invokevirtual 103, 3) := by decide +kernel
theorem dL_jokes_233 : decode cL_jokes 233 = .ok (.isub, 1) := by decide +kernel
theorem dL_jokes_234 : decode cL_jokes 234 = .ok (.istore 13, 2) := by decide +kernel
theorem dL_jokes_236 : decode cL_jokes 236 = .ok (.iload 13, 2) := by decide +kernel
theorem dL_jokes_238 : decode cL_jokes 238 = .ok (.ifCond .eq 8, 3) := by decide +kernel
theorem dL_jokes_241 : decode cL_jokes 241 = .ok (.iload 13, 2) := by decide +kernel
theorem dL_jokes_243 : decode cL_jokes 243 = .ok (.goto 18, 3) := by decide +kernel
theorem dL_jokes_246 : decode cL_jokes 246 = .ok (.aload_n 0, 1) := by decide +kernel
theorem dL_jokes_247 : decode cL_jokes 247 = .ok (.iload 5, 2) := by decide +kernel
theorem dL_jokes_249 : decode cL_jokes 249 = .ok (.iconst 0, 1) := by decide +kernel
theorem dL_jokes_250 : decode cL_jokes 250 = .ok (.invokevirtual 103, 3) := by decide +kernel
theorem dL_jokes_253 : decode cL_jokes 253 = .ok (.aload_n 0, 1) := by decide +kernel
theorem dL_jokes_254 : decode cL_jokes 254 = .ok (.iload 12, 2) := by decide +kernel
theorem dL_jokes_256 : decode cL_jokes 256 = .ok (.iconst 0, 1) := by decide +kernel
theorem dL_jokes_257 : decode cL_jokes 257 = .ok (.invokevirtual 103, 3) := by decide +kernel
theorem dL_jokes_260 : decode cL_jokes 260 = .ok (.isub, 1) := by decide +kernel
theorem dL_jokes_261 : decode cL_jokes 261 = .ok (.istore 13, 2) := by decide +kernel
theorem dL_jokes_263 : decode cL_jokes 263 = .ok (.iload 13, 2) := by decide +kernel
theorem dL_jokes_265 : decode cL_jokes 265 = .ok (.ifCond .lt 77, 3) := by decide +kernel
theorem dL_jokes_268 : decode cL_jokes 268 = .ok (.iload 13, 2) := by decide +kernel
theorem dL_jokes_270 : decode cL_jokes 270 = .ok (.ifCond .ne 10, 3) := by decide +kernel
theorem dL_jokes_273 : decode cL_jokes 273 = .ok (.iload 12, 2) := by decide +kernel
theorem dL_jokes_275 : decode cL_jokes 275 = .ok (.iload 5, 2) := by decide +kernel
theorem dL_jokes_277 : decode cL_jokes 277 = .ok (.if_icmp .lt 65, 3) := by decide +kernel
theorem dL_jokes_280 : decode cL_jokes 280 = .ok (.iload 10, 2) := by decide +kernel
theorem dL_jokes_282 : decode cL_jokes 282 = .ok (.aload_n 0, 1) := by decide +kernel
theorem dL_jokes_283 : decode cL_jokes 283 = .ok (.iload 7, 2) := by decide +kernel
theorem dL_jokes_285 : decode cL_jokes 285 = .ok (.iconst 2, 1) := by decide +kernel
theorem dL_jokes_286 : decode cL_jokes 286 = .ok (.invokevirtual 103, 3) := by decide +kernel
theorem dL_jokes_289 : decode cL_jokes 289 = .ok (.ifCond .le 7, 3) := by decide +kernel
theorem dL_jokes_292 : decode cL_jokes 292 = .ok (.iconst 1, 1) := by decide +kernel
theorem dL_jokes_293 : decode cL_jokes 293 = .ok (.goto 4, 3) := by decide +kernel
theorem dL_jokes_296 : decode cL_jokes 296 = .ok (.iconst 0, 1) := by decide +kernel
theorem dL_jokes_297 : decode cL_jokes 297 = .ok (.if_icmp .ne 45, 3) := by decide +kernel
theorem dL_jokes_300 : decode cL_jokes 300 = .ok (.iload 10, 2) := by decide +kernel
theorem dL_jokes_302 : decode cL_jokes 302 = .ok (.ifCond .ne 16, 3) := by decide +kernel
theorem dL_jokes_305 : decode cL_jokes 305 = .ok (.aload_n 0, 1) := by decide +kernel
theorem dL_jokes_306 : decode cL_jokes 306 = .ok (.iload 7, 2) := by decide +kernel
theorem dL_jokes_308 : decode cL_jokes 308 = .ok (.iconst 1, 1) := by decide +kernel
theorem dL_jokes_309 : decode cL_jokes 309 = .ok (.invokevirtual 103, 3) := by decide +kernel
theorem dL_jokes_312 : decode cL_jokes 312 = .ok (.sipush (-1015), 3) := by decide +kernel
theorem dL_jokes_315 : decode cL_jokes 315 = .ok (.if_icmp .ne 27, 3) := by decide +kernel
theorem dL_jokes_318 : decode cL_jokes 318 = .ok (.aload_n 0, 1) := by decide +kernel
theorem dL_jokes_319 : decode cL_jokes 319 = .ok (.iload 7, 2) := by decide +kernel
theorem dL_jokes_321 : decode cL_jokes 321 = .ok (.iconst 3, 1) := by decide +kernel
theorem dL_jokes_322 : decode cL_jokes 322 = .ok (.invokevirtual 103, 3) := by decide +kernel
theorem dL_jokes_325 : decode cL_jokes 325 = .ok (.iload 8, 2) := by decide +kernel
theorem dL_jokes_327 : decode cL_jokes 327 = .ok (.if_icmp .ne 15, 3) := by decide +kernel
theorem dL_jokes_330 : decode cL_jokes 330 = .ok (.aload_n 0, 1) := by decide +kernel
theorem dL_jokes_331 : decode cL_jokes 331 = .ok (.iload 7, 2) := by decide +kernel
theorem dL_jokes_333 : decode cL_jokes 333 = .ok (.iconst 4, 1) := by decide +kernel
theorem dL_jokes_334 : decode cL_jokes 334 = .ok (.invokevirtual 103, 3) := by decide +kernel
theorem dL_jokes_337 : decode cL_jokes 337 = .ok (.iload 9, 2) := by decide +kernel
theorem dL_jokes_339 : decode cL_jokes 339 = .ok (.if_icmp .eq 5, 3) := by decide +kernel
theorem dL_jokes_342 : decode cL_jokes 342 = .ok (.iconst 0, 1) := by decide +kernel
theorem dL_jokes_343 : decode cL_jokes 343 = .ok (.ireturn, 1) := by decide +kernel
theorem dL_jokes_344 : decode cL_jokes 344 = .ok (.iload 12, 2) := by decide +kernel
theorem dL_jokes_346 : decode cL_jokes 346 = .ok (.istore 5, 2) := by decide +kernel
theorem dL_jokes_348 : decode cL_jokes 348 = .ok (.iinc 7 1, 3) := by decide +kernel
theorem dL_jokes_351 : decode cL_jokes 351 = .ok (.goto (-325), 3) := by decide +kernel
theorem dL_jokes_354 : decode cL_jokes 354 = .ok (.iconst 0, 1) := by decide +kernel
theorem dL_jokes_355 : decode cL_jokes 355 = .ok (.istore 7, 2) := by decide +kernel
theorem dL_jokes_357 : decode cL_jokes 357 = .ok (.iconst 0, 1) := by decide +kernel
theorem dL_jokes_358 : decode cL_jokes 358 = .ok (.istore 8, 2) := by decide +kernel
theorem dL_jokes_360 : decode cL_jokes 360 = .ok (.iload 8, 2) := by decide +kernel
theorem dL_jokes_362 : decode cL_jokes 362 = .ok (.iconst 4, 1) := by decide +kernel
theorem dL_jokes_363 : decode cL_jokes 363 = .ok (.if_icmp .ge 94, 3) := by decide +kernel
theorem dL_jokes_366 : decode cL_jokes 366 = .ok (.iconst 0, 1) := by decide +kernel
theorem dL_jokes_367 : decode cL_jokes 367 = .ok (.istore 9, 2) := by decide +kernel
theorem dL_jokes_369 : decode cL_jokes 369 = .ok (.iconst 0, 1) := by decide +kernel
theorem dL_jokes_370 : decode cL_jokes 370 = .ok (.istore 10, 2) := by decide +kernel
theorem dL_jokes_372 : decode cL_jokes 372 = .ok (.iload 10, 2) := by decide +kernel
theorem dL_jokes_374 : decode cL_jokes 374 = .ok (.aload_n 0, 1) := by decide +kernel
theorem dL_jokes_375 : decode cL_jokes 375 = .ok (.iconst 2, 1) := by decide +kernel
theorem dL_jokes_376 : decode cL_jokes 376 = .ok (.invokevirtual 34, 3) := by decide +kernel
theorem dL_jokes_379 : decode cL_jokes 379 = .ok (.if_icmp .ge 31, 3) := by decide +kernel
theorem dL_jokes_382 : decode cL_jokes 382 = .ok (.iload 9, 2) := by decide +kernel
theorem dL_jokes_384 : decode cL_jokes 384 = .ok (.aload_n 0, 1) := by decide +kernel
theorem dL_jokes_385 : decode cL_jokes 385 = .ok (.iload 10, 2) := by decide +kernel
theorem dL_jokes_387 : decode cL_jokes 387 = .ok (.iconst 2, 1) := by decide +kernel
theorem dL_jokes_388 : decode cL_jokes 388 = .ok (.invokevirtual 112, 3) := by decide +kernel
theorem dL_jokes_391 : decode cL_jokes 391 = .ok (.iload 8, 2) := by decide +kernel
theorem dL_jokes_393 : decode cL_jokes 393 = .ok (.if_icmp .ne 7, 3) := by decide +kernel
theorem dL_jokes_396 : decode cL_jokes 396 = .ok (.iconst 1, 1) := by decide +kernel
theorem dL_jokes_397 : decode cL_jokes 397 = .ok (.goto 4, 3) := by decide +kernel
theorem dL_jokes_400 : decode cL_jokes 400 = .ok (.iconst 0, 1) := by decide +kernel
theorem dL_jokes_401 : decode cL_jokes 401 = .ok (.iadd, 1) := by decide +kernel
theorem dL_jokes_402 : decode cL_jokes 402 = .ok (.istore 9, 2) := by decide +kernel
theorem dL_jokes_404 : decode cL_jokes 404 = .ok (.iinc 10 1, 3) := by decide +kernel
theorem dL_jokes_407 : decode cL_jokes 407 = .ok (.goto (-35), 3) := by decide +kernel
theorem dL_jokes_410 : decode cL_jokes 410 = .ok (.iload 7, 2) := by decide +kernel
theorem dL_jokes_412 : decode cL_jokes 412 = .ok (.aload_n 0, 1) := by decide +kernel
theorem dL_jokes_413 : decode cL_jokes 413 = .ok (.iload 8, 2) := by decide +kernel
theorem dL_jokes_415 : decode cL_jokes 415 = .ok (.iconst 2, 1) := by decide +kernel
theorem dL_jokes_416 : decode cL_jokes 416 = .ok (.invokevirtual 106, 3) := by decide +kernel
theorem dL_jokes_419 : decode cL_jokes 419 = .ok (.iadd, 1) := by decide +kernel
theorem dL_jokes_420 : decode cL_jokes 420 = .ok (.istore 7, 2) := by decide +kernel
theorem dL_jokes_422 : decode cL_jokes 422 = .ok (.aload_n 0, 1) := by decide +kernel
theorem dL_jokes_423 : decode cL_jokes 423 = .ok (.iload 8, 2) := by decide +kernel
theorem dL_jokes_425 : decode cL_jokes 425 = .ok (.iconst 1, 1) := by decide +kernel
theorem dL_jokes_426 : decode cL_jokes 426 = .ok (.invokevirtual 106, 3) := by decide +kernel
theorem dL_jokes_429 : decode cL_jokes 429 = .ok (.aload 6, 2) := by decide +kernel
theorem dL_jokes_431 : decode cL_jokes 431 = .ok (.iload 8, 2) := by decide +kernel
theorem dL_jokes_433 : decode cL_jokes 433 = .ok (.iaload, 1) := by decide +kernel
theorem dL_jokes_434 : decode cL_jokes 434 = .ok (.if_icmp .ne 15, 3) := by decide +kernel
theorem dL_jokes_437 : decode cL_jokes 437 = .ok (.aload_n 0, 1) := by decide +kernel
theorem dL_jokes_438 : decode cL_jokes 438 = .ok (.iload 8, 2) := by decide +kernel
theorem dL_jokes_440 : decode cL_jokes 440 = .ok (.iconst 3, 1) := by decide +kernel
theorem dL_jokes_441 : decode cL_jokes 441 = .ok (.invokevirtual 106, 3) := by decide +kernel
theorem dL_jokes_444 : decode cL_jokes 444 = .ok (.iload 9, 2) := by decide +kernel
theorem dL_jokes_446 : decode cL_jokes 446 = .ok (.if_icmp .eq 5, 3) := by decide +kernel
theorem dL_jokes_449 : decode cL_jokes 449 = .ok (.iconst 0, 1) := by decide +kernel
theorem dL_jokes_450 : decode cL_jokes 450 = .ok (.ireturn, 1) := by decide +kernel
theorem dL_jokes_451 : decode cL_jokes 451 = .ok (.iinc 8 1, 3) := by decide +kernel
theorem dL_jokes_454 : decode cL_jokes 454 = .ok (.goto (-94), 3) := by decide +kernel
theorem dL_jokes_457 : decode cL_jokes 457 = .ok (.iload_n 1, 1) := by decide +kernel
theorem dL_jokes_458 : decode cL_jokes 458 = .ok (.ifCond .ne 7, 3) := by decide +kernel
theorem dL_jokes_461 : decode cL_jokes 461 = .ok (.dconst 0, 1) := by decide +kernel
theorem dL_jokes_462 : decode cL_jokes 462 = .ok (.goto 9, 3) := by decide +kernel
theorem dL_jokes_465 : decode cL_jokes 465 = .ok (.iload 4, 2) := by decide +kernel
theorem dL_jokes_467 : decode cL_jokes 467 = .ok (.i2d, 1) := by decide +kernel
theorem dL_jokes_468 : decode cL_jokes 468 = .ok (.iload_n 1, 1) := by decide +kernel
theorem dL_jokes_469 : decode cL_jokes 469 = .ok (.i2d, 1) := by decide +kernel
theorem dL_jokes_470 : decode cL_jokes 470 = .ok (.ddiv, 1) := by decide +kernel
theorem dL_jokes_471 : decode cL_jokes 471 = .ok (.dstore 8, 2) := by decide +kernel
theorem dL_jokes_473 : decode cL_jokes 473 = .ok (.aload_n 0, 1) := by decide +kernel
theorem dL_jokes_474 : decode cL_jokes 474 = .ok (.bipush 12, 2) := by decide +kernel
theorem dL_jokes_476 : decode cL_jokes 476 = .ok (.invokevirtual 34, 3) := by decide +kernel
theorem dL_jokes_479 : decode cL_jokes 479 = .ok (.iload_n 2, 1) := by decide +kernel
theorem dL_jokes_480 : decode cL_jokes 480 = .ok (.if_icmp .ne 79, 3) := by decide +kernel
theorem dL_jokes_483 : decode cL_jokes 483 = .ok (.aload_n 0, 1) := by decide +kernel
theorem dL_jokes_484 : decode cL_jokes 484 = .ok (.invokevirtual 118, 3) := by decide +kernel
theorem dL_jokes_487 : decode cL_jokes 487 = .ok (.iload_n 3, 1) := by decide +kernel
theorem dL_jokes_488 : decode cL_jokes 488 = .ok (.if_icmp .ne 71, 3) := by decide +kernel
theorem dL_jokes_491 : decode cL_jokes 491 = .ok (.aload_n 0, 1) := by decide +kernel
theorem dL_jokes_492 : decode cL_jokes 492 = .ok (.invokevirtual 121, 3) := by decide +kernel
theorem dL_jokes_495 : decode cL_jokes 495 = .ok (.iload_n 3, 1) := by decide +kernel
theorem dL_jokes_496 : decode cL_jokes 496 = .ok (.if_icmp .ne 63, 3) := by decide +kernel
theorem dL_jokes_499 : decode cL_jokes 499 = .ok (.aload_n 0, 1) := by decide +kernel
theorem dL_jokes_500 : decode cL_jokes 500 = .ok (.bipush 6, 2) := by decide +kernel
theorem dL_jokes_502 : decode cL_jokes 502 = .ok (.invokevirtual 34, 3) := by decide +kernel
theorem dL_jokes_505 : decode cL_jokes 505 = .ok (.iload 7, 2) := by decide +kernel
theorem dL_jokes_507 : decode cL_jokes 507 = .ok (.if_icmp .ne 52, 3) := by decide +kernel
theorem dL_jokes_510 : decode cL_jokes 510 = .ok (.aload_n 0, 1) := by decide +kernel
theorem dL_jokes_511 : decode cL_jokes 511 = .ok (.invokevirtual 124, 3) := by decide +kernel
theorem dL_jokes_514 : decode cL_jokes 514 = .ok (.dload 8, 2) := by decide +kernel
theorem dL_jokes_516 : decode cL_jokes 516 = .ok (.dcmp .l, 1) := by decide +kernel
theorem dL_jokes_517 : decode cL_jokes 517 = .ok (.ifCond .ne 42, 3) := by decide +kernel
theorem dL_jokes_520 : decode cL_jokes 520 = .ok (.aload_n 0, 1) := by decide +kernel
theorem dL_jokes_521 : decode cL_jokes 521 = .ok (.iload_n 1, 1) := by decide +kernel
theorem dL_jokes_522 : decode cL_jokes 522 = .ok (.invokevirtual 115, 3) := by decide +kernel
theorem dL_jokes_525 : decode cL_jokes 525 = .ok (.sipush (-1011), 3) := by decide +kernel
theorem dL_jokes_528 : decode cL_jokes 528 = .ok (.if_icmp .ne 31, 3) := by decide +kernel
theorem dL_jokes_531 : decode cL_jokes 531 = .ok (.aload_n 0, 1) := by decide +kernel
theorem dL_jokes_532 : decode cL_jokes 532 = .ok (.iload_n 1, 1) := by decide +kernel
theorem dL_jokes_533 : decode cL_jokes 533 = .ok (.iconst 0, 1) := by decide +kernel
theorem dL_jokes_534 : decode cL_jokes 534 = .ok (.invokevirtual 103, 3) := by decide +kernel
theorem dL_jokes_537 : decode cL_jokes 537 = .ok (.sipush (-1011), 3) := by decide +kernel
theorem dL_jokes_540 : decode cL_jokes 540 = .ok (.if_icmp .ne 19, 3) := by decide +kernel
theorem dL_jokes_543 : decode cL_jokes 543 = .ok (.aload_n 0, 1) := by decide +kernel
theorem dL_jokes_544 : decode cL_jokes 544 = .ok (.iconst 4, 1) := by decide +kernel
theorem dL_jokes_545 : decode cL_jokes 545 = .ok (.iconst 0, 1) := by decide +kernel
theorem dL_jokes_546 : decode cL_jokes 546 = .ok (.invokevirtual 106, 3) := by decide +kernel
theorem dL_jokes_549 : decode cL_jokes 549 = .ok (.sipush (-1011), 3) := by decide +kernel
theorem dL_jokes_552 : decode cL_jokes 552 = .ok (.if_icmp .ne 7, 3) := by decide +kernel
theorem dL_jokes_555 : decode cL_jokes 555 = .ok (.iconst 1, 1) := by decide +kernel
theorem dL_jokes_556 : decode cL_jokes 556 = .ok (.goto 4, 3) := by decide +kernel
theorem dL_jokes_559 : decode cL_jokes 559 = .ok (.iconst 0, 1) := by decide +kernel
theorem dL_jokes_560 : decode cL_jokes 560 = .ok (.ireturn, 1) := by decide +kernel
theorem dL_fools_0 : decode cL_fools 0 = .ok (.aload_n 0, 1) := by decide +kernel
theorem dL_fools_1 : decode cL_fools 1 = .ok (.iconst 0, 1) := by decide +kernel
theorem dL_fools_2 : decode cL_fools 2 = .ok (.invokevirtual 34, 3) := by decide +kernel
theorem dL_fools_5 : decode cL_fools 5 = .ok (.istore_n 1, 1) := by decide +kernel
theorem dL_fools_6 : decode cL_fools 6 = .ok (.iconst 0, 1) := by decide +kernel
theorem dL_fools_7 : decode cL_fools 7 = .ok (.istore_n 2, 1) := by decide +kernel
theorem dL_fools_8 : decode cL_fools 8 = .ok (.iconst 0, 1) := by decide +kernel
theorem dL_fools_9 : decode cL_fools 9 = .ok (.istore_n 3, 1) := by decide +kernel
theorem dL_fools_10 : decode cL_fools 10 = .ok (.iconst 0, 1) := by decide +kernel
theorem dL_fools_11 : decode cL_fools 11 = .ok (.istore 4, 2) := by decide +kernel
theorem dL_fools_13 : decode cL_fools 13 = .ok (.iconst 0, 1) := by decide +kernel
theorem dL_fools_14 : decode cL_fools 14 = .ok (.istore 5, 2) := by decide +kernel
theorem dL_fools_16 : decode cL_fools 16 = .ok (.iconst 0, 1) := by decide +kernel
theorem dL_fools_17 : decode cL_fools 17 = .ok (.istore 6, 2) := by decide +kernel
theorem dL_fools_19 : decode cL_fools 19 = .ok (.iconst (-1), 1) := by decide +kernel
theorem dL_fools_20 : decode cL_fools 20 = .ok (.istore 7, 2) := by decide +kernel
theorem dL_fools_22 : decode cL_fools 22 = .ok (.iconst 0, 1) := by decide +kernel
theorem dL_fools_23 : decode cL_fools 23 = .ok (.istore 8, 2) := by decide +kernel
theorem dL_fools_25 : decode cL_fools 25 = .ok (.iload 8, 2) := by decide +kernel
theorem dL_fools_27 : decode cL_fools 27 = .ok (.iload_n 1, 1) := by decide +kernel
theorem dL_fools_28 : decode cL_fools 28 = .ok (.if_icmp .ge 462, 3) := by decide +kernel
theorem dL_fools_31 : decode cL_fools 31 = .ok (.iconst 0, 1) := by decide +kernel
theorem dL_fools_32 : decode cL_fools 32 = .ok (.istore 9, 2) := by decide +kernel
theorem dL_fools_34 : decode cL_fools 34 = .ok (.iconst 0, 1) := by decide +kernel
theorem dL_fools_35 : decode cL_fools 35 = .ok (.istore 10, 2) := by decide +kernel
theorem dL_fools_37 : decode cL_fools 37 = .ok (.iconst 0, 1) := by decide +kernel
theorem dL_fools_38 : decode cL_fools 38 = .ok (.istore 11, 2) := by decide +kernel
theorem dL_fools_40 : decode cL_fools 40 = .ok (.iload 11, 2) := by decide +kernel
theorem dL_fools_42 : decode cL_fools 42 = .ok (.aload_n 0, 1) := by decide +kernel
theorem dL_fools_43 : decode cL_fools 43 = .ok (.iconst 1, 1) := by decide +kernel
theorem dL_fools_44 : decode cL_fools 44 = .ok (.invokevirtual 34, 3) := by decide +kernel
theorem dL_fools_47 : decode cL_fools 47 = .ok (.if_icmp .ge 31, 3) := by decide +kernel
theorem dL_fools_50 : decode cL_fools 50 = .ok (.iload 9, 2) := by decide +kernel
theorem dL_fools_52 : decode cL_fools 52 = .ok (.aload_n 0, 1) := by decide +kernel
theorem dL_fools_53 : decode cL_fools 53 = .ok (.iload 11, 2) := by decide +kernel
theorem dL_fools_55 : decode cL_fools 55 = .ok (.iconst 1, 1) := by decide +kernel
theorem dL_fools_56 : decode cL_fools 56 = .ok (.invokevirtual 103, 3) := by decide +kernel
theorem dL_fools_59 : decode cL_fools 59 = .ok (.iload 8, 2) := by decide +kernel
theorem dL_fools_61 : decode cL_fools 61 = .ok (.if_icmp .ne 7, 3) := by decide +kernel
theorem dL_fools_64 : decode cL_fools 64 = .ok (.iconst 1, 1) := by decide +kernel
theorem dL_fools_65 : decode cL_fools 65 = .ok (.goto 4, 3) := by decide +kernel
theorem dL_fools_68 : decode cL_fools 68 = .ok (.iconst 0, 1) := by decide +kernel
theorem dL_fools_69 : decode cL_fools 69 = .ok (.iadd, 1) := by decide +kernel
theorem dL_fools_70 : decode cL_fools 70 = .ok (.istore 9, 2) := by decide +kernel
theorem dL_fools_72 : decode cL_fools 72 = .ok (.iinc 11 1, 3) := by decide +kernel
theorem dL_fools_75 : decode cL_fools 75 = .ok (.goto (-35), 3) := by decide +kernel
theorem dL_fools_78 : decode cL_fools 78 = .ok (.iconst 0, 1) := by decide +kernel
theorem dL_fools_79 : decode cL_fools 79 = .ok (.istore 11, 2) := by decide +kernel
theorem dL_fools_81 : decode cL_fools 81 = .ok (.iload 11, 2) := by decide +kernel
theorem dL_fools_83 : decode cL_fools 83 = .ok (.aload_n 0, 1) := by decide +kernel
theorem dL_fools_84 : decode cL_fools 84 = .ok (.iconst 2, 1) := by decide +kernel
theorem dL_fools_85 : decode cL_fools 85 = .ok (.invokevirtual 34, 3) := by decide +kernel
theorem dL_fools_88 : decode cL_fools 88 = .ok (.if_icmp .ge 31, 3) := by decide +kernel
theorem dL_fools_91 : decode cL_fools 91 = .ok (.iload 10, 2) := by decide +kernel
theorem dL_fools_93 : decode cL_fools 93 = .ok (.aload_n 0, 1) := by decide +kernel
theorem dL_fools_94 : decode cL_fools 94 = .ok (.iload 11, 2) := by decide +kernel
theorem dL_fools_96 : decode cL_fools 96 = .ok (.iconst 0, 1) := by decide +kernel
theorem dL_fools_97 : decode cL_fools 97 = .ok (.invokevirtual 112, 3) := by decide +kernel
theorem dL_fools_100 : decode cL_fools 100 = .ok (.iload 8, 2) := by decide +kernel
theorem dL_fools_102 : decode cL_fools 102 = .ok (.if_icmp .ne 7, 3) := by decide +kernel
theorem dL_fools_105 : decode cL_fools 105 = .ok (.iconst 1, 1) := by decide +kernel
theorem dL_fools_106 : decode cL_fools 106 = .ok (.goto 4, 3) := by decide +kernel
theorem dL_fools_109 : decode cL_fools 109 = .ok (.iconst 0, 1) := by decide +kernel
theorem dL_fools_110 : decode cL_fools 110 = .ok (.iadd, 1) := by decide +kernel
theorem dL_fools_111 : decode cL_fools 111 = .ok (.istore 10, 2) := by decide +kernel
theorem dL_fools_113 : decode cL_fools 113 = .ok (.iinc 11 1, 3) := by decide +kernel
theorem dL_fools_116 : decode cL_fools 116 = .ok (.goto (-35), 3) := by decide +kernel
theorem dL_fools_119 : decode cL_fools 119 = .ok (.new 71, 3) := by decide +kernel
theorem dL_fools_122 : decode cL_fools 122 = .ok (.dup, 1) := by decide +kernel
theorem dL_fools_123 : decode cL_fools 123 = .ok (.invokespecial 73, 3) := by decide +kernel
theorem dL_fools_126 : decode cL_fools 126 = .ok (.iload 8, 2) := by decide +kernel
theorem dL_fools_128 : decode cL_fools 128 = .ok (.invokevirtual 84, 3) := by decide +kernel
theorem dL_fools_131 : decode cL_fools 131 = .ok (.bipush 115, 2) := by decide +kernel
theorem dL_fools_133 : decode cL_fools 133 = .ok (.invokevirtual 77, 3) := by decide +kernel
theorem dL_fools_136 : decode cL_fools 136 = .ok (.aload_n 0, 1) := by decide +kernel
theorem dL_fools_137 : decode cL_fools 137 = .ok (.iload 8, 2) := by decide +kernel
theorem dL_fools_139 : decode cL_fools 139 = .ok (.iconst 0, 1) := by decide +kernel
theorem dL_fools_140 : decode cL_fools 140 = .ok (.invokevirtual 97, 3) := by decide +kernel
theorem dL_fools_143 : decode cL_fools 143 = .ok (.invokevirtual 84, 3) := by decide +kernel
theorem dL_fools_146 : decode cL_fools 146 = .ok (.bipush 36, 2) := by decide +kernel
theorem dL_fools_148 : decode cL_fools 148 = .ok (.invokevirtual 77, 3) := by decide +kernel
theorem dL_fools_151 : decode cL_fools 151 = .ok (.aload_n 0, 1) := by decide +kernel
theorem dL_fools_152 : decode cL_fools 152 = .ok (.iload 8, 2) := by decide +kernel
theorem dL_fools_154 : decode cL_fools 154 = .ok (.iconst 1, 1) := by decide +kernel
theorem dL_fools_155 : decode cL_fools 155 = .ok (.invokevirtual 97, 3) := by decide +kernel
theorem dL_fools_158 : decode cL_fools 158 = .ok (.invokevirtual 84, 3) := by decide +kernel
theorem dL_fools_161 : decode cL_fools 161 = .ok (.aload_n 0, 1) := by decide +kernel
theorem dL_fools_162 : decode cL_fools 162 = .ok (.iload 8, 2) := by decide +kernel
theorem dL_fools_164 : decode cL_fools 164 = .ok (.iconst 2, 1) := by decide +kernel
theorem dL_fools_165 : decode cL_fools 165 = .ok (.invokevirtual 97, 3) := by decide +kernel
theorem dL_fools_168 : decode cL_fools 168 = .ok (.ifCond .le 31, 3) := by decide +kernel
theorem dL_fools_171 : decode cL_fools 171 = .ok (.new 71, 3) := by decide +kernel
theorem dL_fools_174 : decode cL_fools 174 = .ok (.dup, 1) := by decide +kernel
theorem dL_fools_175 : decode cL_fools 175 = .ok (.invokespecial 73, 3) := by decide +kernel
theorem dL_fools_178 : decode cL_fools 178 = .ok (.ldc 128, 2) := by decide +kernel
theorem dL_fools_180 : decode cL_fools 180 = .ok (.invokevirtual 94, 3) := by decide +kernel
theorem dL_fools_183 : decode cL_fools 183 = .ok (.aload_n 0, 1) := by decide +kernel
theorem dL_fools_184 : decode cL_fools 184 = .ok (.iload 8, 2) := by decide +kernel
theorem dL_fools_186 : decode cL_fools 186 = .ok (.iconst 2, 1) := by decide +kernel
theorem dL_fools_187 : decode cL_fools 187 = .ok (.invokevirtual 97, 3) := by decide +kernel
theorem dL_fools_190 : decode cL_fools 190 = .ok (.invokevirtual 84, 3) := by decide +kernel
theorem dL_fools_193 : decode cL_fools 193 = .ok (.invokevirtual 80, 3) := by decide +kernel
theorem dL_fools_196 : decode cL_fools 196 = .ok (.goto 5, 3) := by decide +kernel
theorem dL_fools_199 : decode cL_fools 199 = .ok (.ldc 130, 2) := by decide +kernel
theorem dL_fools_201 : decode cL_fools 201 = .ok (.invokevirtual 94, 3) := by decide +kernel
theorem dL_fools_204 : decode cL_fools 204 = .ok (.astore 11, 2) := by decide +kernel
theorem dL_fools_206 : decode cL_fools 206 = .ok (.iconst 0, 1) := by decide +kernel
theorem dL_fools_207 : decode cL_fools 207 = .ok (.istore 12, 2) := by decide +kernel
theorem dL_fools_209 : decode cL_fools 209 = .ok (.iload 12, 2) := by decide +kernel
theorem dL_fools_211 : decode cL_fools 211 = .ok (.aload_n 0, 1) := by decide +kernel
theorem dL_fools_212 : decode cL_fools 212 = .ok (.iload 8, 2) := by decide +kernel
theorem dL_fools_214 : decode cL_fools 214 = .ok (.iconst 3, 1) := by decide +kernel
theorem dL_fools_215 : decode cL_fools 215 = .ok (.invokevirtual 97, 3) := by decide +kernel
theorem dL_fools_218 : decode cL_fools 218 = .ok (.if_icmp .ge 17, 3) := by decide +kernel
theorem dL_fools_221 : decode cL_fools 221 = .ok (.aload 11, 2) := by decide +kernel
theorem dL_fools_223 : decode cL_fools 223 = .ok (.bipush 43, 2) := by decide +kernel
theorem dL_fools_225 : decode cL_fools 225 = .ok (.invokevirtual 77, 3) := by decide +kernel
theorem dL_fools_228 : decode cL_fools 228 = .ok (.pop, 1) := by decide +kernel
theorem dL_fools_229 : decode cL_fools 229 = .ok (.iinc 12 1, 3) := by decide +kernel
theorem dL_fools_232 : decode cL_fools 232 = .ok (.goto (-23), 3) := by decide +kernel
theorem dL_fools_235 : decode cL_fools 235 = .ok (.iload_n 2, 1) := by decide +kernel
theorem dL_fools_236 : decode cL_fools 236 = .ok (.aload_n 0, 1) := by decide +kernel
theorem dL_fools_237 : decode cL_fools 237 = .ok (.iload 8, 2) := by decide +kernel
theorem dL_fools_239 : decode cL_fools 239 = .ok (.iconst 1, 1) := by decide +kernel
theorem dL_fools_240 : decode cL_fools 240 = .ok (.invokevirtual 97, 3) := by decide +kernel
theorem dL_fools_243 : decode cL_fools 243 = .ok (.iadd, 1) := by decide +kernel
theorem dL_fools_244 : decode cL_fools 244 = .ok (.istore_n 2, 1) := by decide +kernel
theorem dL_fools_245 : decode cL_fools 245 = .ok (.iload_n 3, 1) := by decide +kernel
theorem dL_fools_246 : decode cL_fools 246 = .ok (.aload_n 0, 1) := by decide +kernel
theorem dL_fools_247 : decode cL_fools 247 = .ok (.iload 8, 2) := by decide +kernel
theorem dL_fools_249 : decode cL_fools 249 = .ok (.iconst 2, 1) := by decide +kernel
theorem dL_fools_250 : decode cL_fools 250 = .ok (.invokevirtual 97, 3) := by decide +kernel
theorem dL_fools_253 : decode cL_fools 253 = .ok (.iadd, 1) := by decide +kernel
theorem dL_fools_254 : decode cL_fools 254 = .ok (.istore_n 3, 1) := by decide +kernel
theorem dL_fools_255 : decode cL_fools 255 = .ok (.iload 4, 2) := by decide +kernel
theorem dL_fools_257 : decode cL_fools 257 = .ok (.aload_n 0, 1) := by decide +kernel
theorem dL_fools_258 : decode cL_fools 258 = .ok (.iload 8, 2) := by decide +kernel
theorem dL_fools_260 : decode cL_fools 260 = .ok (.bipush 6, 2) := by decide +kernel
theorem dL_fools_262 : decode cL_fools 262 = .ok (.invokevirtual 97, 3) := by decide +kernel
theorem dL_fools_265 : decode cL_fools 265 = .ok (.iadd, 1) := by decide +kernel
theorem dL_fools_266 : decode cL_fools 266 = .ok (.istore 4, 2) := by decide +kernel
theorem dL_fools_268 : decode cL_fools 268 = .ok (.iload 5, 2) := by decide +kernel
theorem dL_fools_270 : decode cL_fools 270 = .ok (.aload_n 0, 1) := by decide +kernel
theorem dL_fools_271 : decode cL_fools 271 = .ok (.iload 8, 2) := by decide +kernel
theorem dL_fools_273 : decode cL_fools 273 = .ok (.bipush 7, 2) := by decide +kernel
theorem dL_fools_275 : decode cL_fools 275 = .ok (.invokevirtual 97, 3) := by decide +kernel
theorem dL_fools_278 : decode cL_fools 278 = .ok (.iadd, 1) := by decide +kernel
theorem dL_fools_279 : decode cL_fools 279 = .ok (.istore 5, 2) := by decide +kernel
theorem dL_fools_281 : decode cL_fools 281 = .ok (.aload_n 0, 1) := by decide +kernel
theorem dL_fools_282 : decode cL_fools 282 = .ok (.iload 8, 2) := by decide +kernel
theorem dL_fools_284 : decode cL_fools 284 = .ok (.invokevirtual 132, 3) := by decide +kernel
theorem dL_fools_287 : decode cL_fools 287 = .ok (.istore 12, 2) := by decide +kernel
theorem dL_fools_289 : decode cL_fools 289 = .ok (.iload 7, 2) := by decide +kernel
theorem dL_fools_291 : decode cL_fools 291 = .ok (.ifCond .ge 7, 3) := by decide +kernel
theorem dL_fools_294 : decode cL_fools 294 = .ok (.iconst 1, 1) := by decide +kernel
theorem dL_fools_295 : decode cL_fools 295 = .ok (.goto 18, 3) := by decide +kernel
theorem dL_fools_298 : decode cL_fools 298 = .ok (.aload_n 0, 1) := by decide +kernel
theorem dL_fools_299 : decode cL_fools 299 = .ok (.iload 7, 2) := by decide +kernel
theorem dL_fools_301 : decode cL_fools 301 = .ok (.iconst 2, 1) := by decide +kernel
theorem dL_fools_302 : decode cL_fools 302 = .ok (.invokevirtual 97, 3) := by decide +kernel
theorem dL_fools_305 : decode cL_fools 305 = .ok (.aload_n 0, 1) := by decide +kernel
theorem dL_fools_306 : decode cL_fools 306 = .ok (.iload 12, 2) := by decide +kernel
theorem dL_fools_308 : decode cL_fools 308 = .ok (.iconst 2, 1) := by decide +kernel
theorem dL_fools_309 : decode cL_fools 309 = .ok (.invokevirtual 97, 3) := by decide +kernel
theorem dL_fools_312 : decode cL_fools 312 = .ok (.isub, 1) := by decide +kernel
theorem dL_fools_313 : decode cL_fools 313 = .ok (.istore 13, 2) := by decide +kernel
theorem dL_fools_315 : decode cL_fools 315 = .ok (.iload 13, 2) := by decide +kernel
theorem dL_fools_317 : decode cL_fools 317 = .ok (.ifCond .eq 8, 3) := by decide +kernel
theorem dL_fools_320 : decode cL_fools 320 = .ok (.iload 13, 2) := by decide +kernel
theorem dL_fools_322 : decode cL_fools 322 = .ok (.goto 18, 3) := by decide +kernel
theorem dL_fools_325 : decode cL_fools 325 = .ok (.aload_n 0, 1) := by decide +kernel
theorem dL_fools_326 : decode cL_fools 326 = .ok (.iload 7, 2) := by decide +kernel
theorem dL_fools_328 : decode cL_fools 328 = .ok (.iconst 1, 1) := by decide +kernel
theorem dL_fools_329 : decode cL_fools 329 = .ok (.invokevirtual 97, 3) := by decide +kernel
theorem dL_fools_332 : decode cL_fools 332 = .ok (.aload_n 0, 1) := by decide +kernel
theorem dL_fools_333 : decode cL_fools 333 = .ok (.iload 12, 2) := by decide +kernel
theorem dL_fools_335 : decode cL_fools 335 = .ok (.iconst 1, 1) := by decide +kernel
theorem dL_fools_336 : decode cL_fools 336 = .ok (.invokevirtual 97, 3) := by decide +kernel
theorem dL_fools_339 : decode cL_fools 339 = .ok (.isub, 1) := by decide +kernel
theorem dL_fools_340 : decode cL_fools 340 = .ok (.istore 13, 2) := by decide +kernel
theorem dL_fools_342 : decode cL_fools 342 = .ok (.aload_n 0, 1) := by decide +kernel
theorem dL_fools_343 : decode cL_fools 343 = .ok (.iload 8, 2) := by decide +kernel
theorem dL_fools_345 : decode cL_fools 345 = .ok (.iconst 1, 1) := by decide +kernel
theorem dL_fools_346 : decode cL_fools 346 = .ok (.invokevirtual 97, 3) := by decide +kernel
theorem dL_fools_349 : decode cL_fools 349 = .ok (.ifCond .lt 59, 3) := by decide +kernel
theorem dL_fools_352 : decode cL_fools 352 = .ok (.aload_n 0, 1) := by decide +kernel
theorem dL_fools_353 : decode cL_fools 353 = .ok (.iload 8, 2) := by decide +kernel
theorem dL_fools_355 : decode cL_fools 355 = .ok (.iconst 1, 1) := by decide +kernel
theorem dL_fools_356 : decode cL_fools 356 = .ok (.invokevirtual 97, 3) := by decide +kernel
theorem dL_fools_359 : decode cL_fools 359 = .ok (.bipush 99, 2) := by decide +kernel
theorem dL_fools_361 : decode cL_fools 361 = .ok (.if_icmp .gt 47, 3) := by decide +kernel
theorem dL_fools_364 : decode cL_fools 364 = .ok (.aload_n 0, 1) := by decide +kernel
theorem dL_fools_365 : decode cL_fools 365 = .ok (.iload 8, 2) := by decide +kernel
theorem dL_fools_367 : decode cL_fools 367 = .ok (.iconst 2, 1) := by decide +kernel
theorem dL_fools_368 : decode cL_fools 368 = .ok (.invokevirtual 97, 3) := by decide +kernel
theorem dL_fools_371 : decode cL_fools 371 = .ok (.ifCond .lt 37, 3) := by decide +kernel
theorem dL_fools_374 : decode cL_fools 374 = .ok (.aload_n 0, 1) := by decide +kernel
theorem dL_fools_375 : decode cL_fools 375 = .ok (.iload 8, 2) := by decide +kernel
theorem dL_fools_377 : decode cL_fools 377 = .ok (.iconst 3, 1) := by decide +kernel
theorem dL_fools_378 : decode cL_fools 378 = .ok (.invokevirtual 97, 3) := by decide +kernel
theorem dL_fools_381 : decode cL_fools 381 = .ok (.iconst 3, 1) := by decide +kernel
theorem dL_fools_382 : decode cL_fools 382 = .ok (.if_icmp .gt 26, 3) := by decide +kernel
theorem dL_fools_385 : decode cL_fools 385 = .ok (.aload_n 0, 1) := by decide +kernel
theorem dL_fools_386 : decode cL_fools 386 = .ok (.iload 8, 2) := by decide +kernel
theorem dL_fools_388 : decode cL_fools 388 = .ok (.bipush 7, 2) := by decide +kernel
theorem dL_fools_390 : decode cL_fools 390 = .ok (.invokevirtual 97, 3) := by decide +kernel
theorem dL_fools_393 : decode cL_fools 393 = .ok (.aload_n 0, 1) := by decide +kernel
theorem dL_fools_394 : decode cL_fools 394 = .ok (.iload 8, 2) := by decide +kernel
theorem dL_fools_396 : decode cL_fools 396 = .ok (.bipush 6, 2) := by decide +kernel
theorem dL_fools_398 : decode cL_fools 398 = .ok (.invokevirtual 97, 3) := by decide +kernel
theorem dL_fools_401 : decode cL_fools 401 = .ok (.if_icmp .gt 7, 3) := by decide +kernel
theorem dL_fools_404 : decode cL_fools 404 = .ok (.iconst 1, 1) := by decide +kernel
theorem dL_fools_405 : decode cL_fools 405 = .ok (.goto 4, 3) := by decide +kernel
theorem dL_fools_408 : decode cL_fools 408 = .ok (.iconst 0, 1) := by decide +kernel
theorem dL_fools_409 : decode cL_fools 409 = .ok (.istore 14, 2) := by decide +kernel
theorem dL_fools_411 : decode cL_fools 411 = .ok (.iload 13, 2) := by decide +kernel
theorem dL_fools_413 : decode cL_fools 413 = .ok (.ifCond .lt 65, 3) := by decide +kernel
theorem dL_fools_416 : decode cL_fools 416 = .ok (.iload 13, 2) := by decide +kernel
theorem dL_fools_418 : decode cL_fools 418 = .ok (.ifCond .ne 10, 3) := by decide +kernel
theorem dL_fools_421 : decode cL_fools 421 = .ok (.iload 12, 2) := by decide +kernel
theorem dL_fools_423 : decode cL_fools 423 = .ok (.iload 7, 2) := by decide +kernel
theorem dL_fools_425 : decode cL_fools 425 = .ok (.if_icmp .lt 53, 3) := by decide +kernel
theorem dL_fools_428 : decode cL_fools 428 = .ok (.iload 14, 2) := by decide +kernel
theorem dL_fools_430 : decode cL_fools 430 = .ok (.ifCond .eq 48, 3) := by decide +kernel
theorem dL_fools_433 : decode cL_fools 433 = .ok (.aload_n 0, 1) := by decide +kernel
theorem dL_fools_434 : decode cL_fools 434 = .ok (.iload 8, 2) := by decide +kernel
theorem dL_fools_436 : decode cL_fools 436 = .ok (.iconst 4, 1) := by decide +kernel
theorem dL_fools_437 : decode cL_fools 437 = .ok (.invokevirtual 97, 3) := by decide +kernel
theorem dL_fools_440 : decode cL_fools 440 = .ok (.iload 9, 2) := by decide +kernel
theorem dL_fools_442 : decode cL_fools 442 = .ok (.if_icmp .ne 36, 3) := by decide +kernel
theorem dL_fools_445 : decode cL_fools 445 = .ok (.aload_n 0, 1) := by decide +kernel
theorem dL_fools_446 : decode cL_fools 446 = .ok (.iload 8, 2) := by decide +kernel
theorem dL_fools_448 : decode cL_fools 448 = .ok (.iconst 5, 1) := by decide +kernel
theorem dL_fools_449 : decode cL_fools 449 = .ok (.invokevirtual 97, 3) := by decide +kernel
theorem dL_fools_452 : decode cL_fools 452 = .ok (.iload 10, 2) := by decide +kernel
theorem dL_fools_454 : decode cL_fools 454 = .ok (.if_icmp .ne 24, 3) := by decide +kernel
theorem dL_fools_457 : decode cL_fools 457 = .ok (.aload_n 0, 1) := by decide +kernel
theorem dL_fools_458 : decode cL_fools 458 = .ok (.aload_n 0, 1) := by decide +kernel
theorem dL_fools_459 : decode cL_fools 459 = .ok (.iload 8, 2) := by decide +kernel
theorem dL_fools_461 : decode cL_fools 461 = .ok (.invokevirtual 87, 3) := by decide +kernel
theorem dL_fools_464 : decode cL_fools 464 = .ok (.invokestatic 90, 3) := by decide +kernel
theorem dL_fools_467 : decode cL_fools 467 = .ok (.aload 11, 2) := by decide +kernel
theorem dL_fools_469 : decode cL_fools 469 = .ok (.invokevirtual 80, 3) := by decide +kernel
theorem dL_fools_472 : decode cL_fools 472 = .ok (.invokevirtual 135, 3) := by decide +kernel
theorem dL_fools_475 : decode cL_fools 475 = .ok (.ifCond .ne 5, 3) := by decide +kernel
theorem dL_fools_478 : decode cL_fools 478 = .ok (.iconst 0, 1) := by decide +kernel
theorem dL_fools_479 : decode cL_fools 479 = .ok (.ireturn, 1) := by decide +kernel
theorem dL_fools_480 : decode cL_fools 480 = .ok (.iload 12, 2) := by decide +kernel
theorem dL_fools_482 : decode cL_fools 482 = .ok (.istore 7, 2) := by decide +kernel
theorem dL_fools_484 : decode cL_fools 484 = .ok (.iinc 8 1, 3) := by decide +kernel
theorem dL_fools_487 : decode cL_fools 487 = .ok (.goto (-462), 3) := by decide +kernel
theorem dL_fools_490 : decode cL_fools 490 = .ok (.iconst 0, 1) := by decide +kernel
theorem dL_fools_491 : decode cL_fools 491 = .ok (.istore 8, 2) := by decide +kernel
theorem dL_fools_493 : decode cL_fools 493 = .ok (.iload 8, 2) := by decide +kernel
theorem dL_fools_495 : decode cL_fools 495 = .ok (.iconst 4, 1) := by decide +kernel
theorem dL_fools_496 : decode cL_fools 496 = .ok (.if_icmp .ge 21, 3) := by decide +kernel
theorem dL_fools_499 : decode cL_fools 499 = .ok (.iload 6, 2) := by decide +kernel
theorem dL_fools_501 : decode cL_fools 501 = .ok (.aload_n 0, 1) := by decide +kernel
theorem dL_fools_502 : decode cL_fools 502 = .ok (.iload 8, 2) := by decide +kernel
theorem dL_fools_504 : decode cL_fools 504 = .ok (.iconst 1, 1) := by decide +kernel
theorem dL_fools_505 : decode cL_fools 505 = .ok (.invokevirtual 106, 3) := by decide +kernel
theorem dL_fools_508 : decode cL_fools 508 = .ok (.iadd, 1) := by decide +kernel
theorem dL_fools_509 : decode cL_fools 509 = .ok (.istore 6, 2) := by decide +kernel
theorem dL_fools_511 : decode cL_fools 511 = .ok (.iinc 8 1, 3) := by decide +kernel
theorem dL_fools_514 : decode cL_fools 514 = .ok (.goto (-21), 3) := by decide +kernel
theorem dL_fools_517 : decode cL_fools 517 = .ok (.iload 4, 2) := by decide +kernel
theorem dL_fools_519 : decode cL_fools 519 = .ok (.ifCond .ne 7, 3) := by decide +kernel
theorem dL_fools_522 : decode cL_fools 522 = .ok (.fconst 0, 1) := by decide +kernel
theorem dL_fools_523 : decode cL_fools 523 = .ok (.goto 10, 3) := by decide +kernel
theorem dL_fools_526 : decode cL_fools 526 = .ok (.iload 5, 2) := by decide +kernel
theorem dL_fools_528 : decode cL_fools 528 = .ok (.i2f, 1) := by decide +kernel
theorem dL_fools_529 : decode cL_fools 529 = .ok (.iload 4, 2) := by decide +kernel
theorem dL_fools_531 : decode cL_fools 531 = .ok (.i2f, 1) := by decide +kernel
theorem dL_fools_532 : decode cL_fools 532 = .ok (.fdiv, 1) := by decide +kernel
theorem dL_fools_533 : decode cL_fools 533 = .ok (.fstore 8, 2) := by decide +kernel
theorem dL_fools_535 : decode cL_fools 535 = .ok (.aload_n 0, 1) := by decide +kernel
theorem dL_fools_536 : decode cL_fools 536 = .ok (.iconst 4, 1) := by decide +kernel
theorem dL_fools_537 : decode cL_fools 537 = .ok (.invokevirtual 34, 3) := by decide +kernel
theorem dL_fools_540 : decode cL_fools 540 = .ok (.iload_n 2, 1) := by decide +kernel
theorem dL_fools_541 : decode cL_fools 541 = .ok (.if_icmp .ne 58, 3) := by decide +kernel
theorem dL_fools_544 : decode cL_fools 544 = .ok (.aload_n 0, 1) := by decide +kernel
theorem dL_fools_545 : decode cL_fools 545 = .ok (.iconst 5, 1) := by decide +kernel
theorem dL_fools_546 : decode cL_fools 546 = .ok (.invokevirtual 34, 3) := by decide +kernel
theorem dL_fools_549 : decode cL_fools 549 = .ok (.bipush 10, 2) := by decide +kernel
theorem dL_fools_551 : decode cL_fools 551 = .ok (.iload_n 1, 1) := by decide +kernel
theorem dL_fools_552 : decode cL_fools 552 = .ok (.imul, 1) := by decide +kernel
theorem dL_fools_553 : decode cL_fools 553 = .ok (.if_icmp .ne 46, 3) := by decide +kernel
theorem dL_fools_556 : decode cL_fools 556 = .ok (.aload_n 0, 1) := by decide +kernel
theorem dL_fools_557 : decode cL_fools 557 = .ok (.bipush 9, 2) := by decide +kernel
theorem dL_fools_559 : decode cL_fools 559 = .ok (.invokevirtual 34, 3) := by decide +kernel
theorem dL_fools_562 : decode cL_fools 562 = .ok (.iload_n 3, 1) := by decide +kernel
theorem dL_fools_563 : decode cL_fools 563 = .ok (.if_icmp .ne 36, 3) := by decide +kernel
theorem dL_fools_566 : decode cL_fools 566 = .ok (.aload_n 0, 1) := by decide +kernel
theorem dL_fools_567 : decode cL_fools 567 = .ok (.bipush 11, 2) := by decide +kernel
theorem dL_fools_569 : decode cL_fools 569 = .ok (.invokevirtual 34, 3) := by decide +kernel
theorem dL_fools_572 : decode cL_fools 572 = .ok (.iload 5, 2) := by decide +kernel
theorem dL_fools_574 : decode cL_fools 574 = .ok (.if_icmp .ne 25, 3) := by decide +kernel
theorem dL_fools_577 : decode cL_fools 577 = .ok (.iload 4, 2) := by decide +kernel
theorem dL_fools_579 : decode cL_fools 579 = .ok (.iload 6, 2) := by decide +kernel
theorem dL_fools_581 : decode cL_fools 581 = .ok (.if_icmp .ne 18, 3) := by decide +kernel
theorem dL_fools_584 : decode cL_fools 584 = .ok (.iload 4, 2) := by decide +kernel
theorem dL_fools_586 : decode cL_fools 586 = .ok (.aload_n 0, 1) := by decide +kernel
theorem dL_fools_587 : decode cL_fools 587 = .ok (.bipush 10, 2) := by decide +kernel
theorem dL_fools_589 : decode cL_fools 589 = .ok (.invokevirtual 34, 3) := by decide +kernel
theorem dL_fools_592 : decode cL_fools 592 = .ok (.if_icmp .gt 7, 3) := by decide +kernel
theorem dL_fools_595 : decode cL_fools 595 = .ok (.iconst 1, 1) := by decide +kernel
theorem dL_fools_596 : decode cL_fools 596 = .ok (.goto 4, 3) := by decide +kernel
theorem dL_fools_599 : decode cL_fools 599 = .ok (.iconst 0, 1) := by decide +kernel
theorem dL_fools_600 : decode cL_fools 600 = .ok (.istore 9, 2) := by decide +kernel
theorem dL_fools_602 : decode cL_fools 602 = .ok (.iload 9, 2) := by decide +kernel
theorem dL_fools_604 : decode cL_fools 604 = .ok (.ifCond .eq 76, 3) := by decide +kernel
theorem dL_fools_607 : decode cL_fools 607 = .ok (.bipush 10, 2) := by decide +kernel
theorem dL_fools_609 : decode cL_fools 609 = .ok (.iload_n 1, 1) := by decide +kernel
theorem dL_fools_610 : decode cL_fools 610 = .ok (.imul, 1) := by decide +kernel
theorem dL_fools_611 : decode cL_fools 611 = .ok (.aload_n 0, 1) := by decide +kernel
theorem dL_fools_612 : decode cL_fools 612 = .ok (.bipush 6, 2) := by decide +kernel
theorem dL_fools_614 : decode cL_fools 614 = .ok (.invokevirtual 34, 3) := by decide +kernel
theorem dL_fools_617 : decode cL_fools 617 = .ok (.iadd, 1) := by decide +kernel
theorem dL_fools_618 : decode cL_fools 618 = .ok (.iload_n 2, 1) := by decide +kernel
theorem dL_fools_619 : decode cL_fools 619 = .ok (.aload_n 0, 1) := by decide +kernel
theorem dL_fools_620 : decode cL_fools 620 = .ok (.bipush 7, 2) := by decide +kernel
theorem dL_fools_622 : decode cL_fools 622 = .ok (.invokevirtual 34, 3) := by decide +kernel
theorem dL_fools_625 : decode cL_fools 625 = .ok (.iadd, 1) := by decide +kernel
theorem dL_fools_626 : decode cL_fools 626 = .ok (.aload_n 0, 1) := by decide +kernel
theorem dL_fools_627 : decode cL_fools 627 = .ok (.bipush 8, 2) := by decide +kernel
theorem dL_fools_629 : decode cL_fools 629 = .ok (.invokevirtual 34, 3) := by decide +kernel
theorem dL_fools_632 : decode cL_fools 632 = .ok (.iadd, 1) := by decide +kernel
theorem dL_fools_633 : decode cL_fools 633 = .ok (.if_icmp .ne 47, 3) := by decide +kernel
theorem dL_fools_636 : decode cL_fools 636 = .ok (.aload_n 0, 1) := by decide +kernel
theorem dL_fools_637 : decode cL_fools 637 = .ok (.invokevirtual 139, 3) := by decide +kernel
theorem dL_fools_640 : decode cL_fools 640 = .ok (.fload 8, 2) := by decide +kernel
theorem dL_fools_642 : decode cL_fools 642 = .ok (.fcmp .l, 1) := by decide +kernel
theorem dL_fools_643 : decode cL_fools 643 = .ok (.ifCond .ne 37, 3) := by decide +kernel
theorem dL_fools_646 : decode cL_fools 646 = .ok (.aload_n 0, 1) := by decide +kernel
theorem dL_fools_647 : decode cL_fools 647 = .ok (.invokevirtual 143, 3) := by decide +kernel
theorem dL_fools_650 : decode cL_fools 650 = .ok (.iconst 1, 1) := by decide +kernel
theorem dL_fools_651 : decode cL_fools 651 = .ok (.if_icmp .ne 29, 3) := by decide +kernel
theorem dL_fools_654 : decode cL_fools 654 = .ok (.aload_n 0, 1) := by decide +kernel
theorem dL_fools_655 : decode cL_fools 655 = .ok (.iload_n 1, 1) := by decide +kernel
theorem dL_fools_656 : decode cL_fools 656 = .ok (.invokevirtual 132, 3) := by decide +kernel
theorem dL_fools_659 : decode cL_fools 659 = .ok (.sipush (-1011), 3) := by decide +kernel
theorem dL_fools_662 : decode cL_fools 662 = .ok (.if_icmp .ne 18, 3) := by decide +kernel
theorem dL_fools_665 : decode cL_fools 665 = .ok (.aload_n 0, 1) := by decide +kernel
theorem dL_fools_666 : decode cL_fools 666 = .ok (.iload_n 1, 1) := by decide +kernel
theorem dL_fools_667 : decode cL_fools 667 = .ok (.invokevirtual 87, 3) := by decide +kernel
theorem dL_fools_670 : decode cL_fools 670 = .ok (.sipush (-1011), 3) := by decide +kernel
theorem dL_fools_673 : decode cL_fools 673 = .ok (.if_icmp .ne 7, 3) := by decide +kernel
theorem dL_fools_676 : decode cL_fools 676 = .ok (.iconst 1, 1) := by decide +kernel
theorem dL_fools_677 : decode cL_fools 677 = .ok (.goto 4, 3) := by decide +kernel
theorem dL_fools_680 : decode cL_fools 680 = .ok (.iconst 0, 1) := by decide +kernel
theorem dL_fools_681 : decode cL_fools 681 = .ok (.ireturn, 1) := by decide +kernel
theorem dL_bookings_0 : decode cL_bookings 0 = .ok (.new 71, 3) := by decide +kernel
theorem dL_bookings_3 : decode cL_bookings 3 = .ok (.dup, 1) := by decide +kernel
theorem dL_bookings_4 : decode cL_bookings 4 = .ok (.invokespecial 73, 3) := by decide +kernel
theorem dL_bookings_7 : decode cL_bookings 7 = .ok (.astore_n 1, 1) := by decide +kernel
theorem dL_bookings_8 : decode cL_bookings 8 = .ok (.aload_n 0, 1) := by decide +kernel
theorem dL_bookings_9 : decode cL_bookings 9 = .ok (.iconst 2, 1) := by decide +kernel
theorem dL_bookings_10 : decode cL_bookings 10 = .ok (.invokevirtual 34, 3) := by decide +kernel
theorem dL_bookings_13 : decode cL_bookings 13 = .ok (.istore_n 2, 1) := by decide +kernel
theorem dL_bookings_14 : decode cL_bookings 14 = .ok (.iconst 0, 1) := by decide +kernel
theorem dL_bookings_15 : decode cL_bookings 15 = .ok (.istore_n 3, 1) := by decide +kernel
theorem dL_bookings_16 : decode cL_bookings 16 = .ok (.iload_n 3, 1) := by decide +kernel
theorem dL_bookings_17 : decode cL_bookings 17 = .ok (.iload_n 2, 1) := by decide +kernel
theorem dL_bookings_18 : decode cL_bookings 18 = .ok (.if_icmp .ge 235, 3) := by decide +kernel
theorem dL_bookings_21 : decode cL_bookings 21 = .ok (.iload_n 3, 1) := by decide +kernel
theorem dL_bookings_22 : decode cL_bookings 22 = .ok (.ifCond .ne 7, 3) := by decide +kernel
theorem dL_bookings_25 : decode cL_bookings 25 = .ok (.iconst 1, 1) := by decide +kernel
theorem dL_bookings_26 : decode cL_bookings 26 = .ok (.goto 18, 3) := by decide +kernel
theorem dL_bookings_29 : decode cL_bookings 29 = .ok (.aload_n 0, 1) := by decide +kernel
theorem dL_bookings_30 : decode cL_bookings 30 = .ok (.iload_n 3, 1) := by decide +kernel
theorem dL_bookings_31 : decode cL_bookings 31 = .ok (.iconst 3, 1) := by decide +kernel
theorem dL_bookings_32 : decode cL_bookings 32 = .ok (.invokevirtual 112, 3) := by decide +kernel
theorem dL_bookings_35 : decode cL_bookings 35 = .ok (.aload_n 0, 1) := by decide +kernel
theorem dL_bookings_36 : decode cL_bookings 36 = .ok (.iload_n 3, 1) := by decide +kernel
theorem dL_bookings_37 : decode cL_bookings 37 = .ok (.iconst 1, 1) := by decide +kernel
theorem dL_bookings_38 : decode cL_bookings 38 = .ok (.isub, 1) := by decide +kernel
theorem dL_bookings_39 : decode cL_bookings 39 = .ok (.iconst 3, 1) := by decide +kernel
theorem dL_bookings_40 : decode cL_bookings 40 = .ok (.invokevirtual 112, 3) := by decide +kernel
theorem dL_bookings_43 : decode cL_bookings 43 = .ok (.isub, 1) := by decide +kernel
theorem dL_bookings_44 : decode cL_bookings 44 = .ok (.istore 4, 2) := by decide +kernel
theorem dL_bookings_46 : decode cL_bookings 46 = .ok (.iload 4, 2) := by decide +kernel
theorem dL_bookings_48 : decode cL_bookings 48 = .ok (.ifCond .eq 8, 3) := by decide +kernel
theorem dL_bookings_51 : decode cL_bookings 51 = .ok (.iload 4, 2) := by decide +kernel
theorem dL_bookings_53 : decode cL_bookings 53 = .ok (.goto 28, 3) := by decide +kernel
theorem dL_bookings_56 : decode cL_bookings 56 = .ok (.aload_n 0, 1) := by decide +kernel
theorem dL_bookings_57 : decode cL_bookings 57 = .ok (.aload_n 0, 1) := by decide +kernel
theorem dL_bookings_58 : decode cL_bookings 58 = .ok (.iload_n 3, 1) := by decide +kernel
theorem dL_bookings_59 : decode cL_bookings 59 = .ok (.iconst 1, 1) := by decide +kernel
theorem dL_bookings_60 : decode cL_bookings 60 = .ok (.isub, 1) := by decide +kernel
theorem dL_bookings_61 : decode cL_bookings 61 = .ok (.iconst 1, 1) := by decide +kernel
theorem dL_bookings_62 : decode cL_bookings 62 = .ok (.invokevirtual 112, 3) := by decide +kernel
theorem dL_bookings_65 : decode cL_bookings 65 = .ok (.iconst 0, 1) := by decide +kernel
theorem dL_bookings_66 : decode cL_bookings 66 = .ok (.invokevirtual 103, 3) := by decide +kernel
theorem dL_bookings_69 : decode cL_bookings 69 = .ok (.aload_n 0, 1) := by decide +kernel
theorem dL_bookings_70 : decode cL_bookings 70 = .ok (.aload_n 0, 1) := by decide +kernel
theorem dL_bookings_71 : decode cL_bookings 71 = .ok (.iload_n 3, 1) := by decide +kernel
theorem dL_bookings_72 : decode cL_bookings 72 = .ok (.iconst 1, 1) := by decide +kernel
theorem dL_bookings_73 : decode cL_bookings 73 = .ok (.invokevirtual 112, 3) := by decide +kernel
theorem dL_bookings_76 : decode cL_bookings 76 = .ok (.iconst 0, 1) := by decide +kernel
theorem dL_bookings_77 : decode cL_bookings 77 = .ok (.invokevirtual 103, 3) := by decide +kernel
theorem dL_bookings_80 : decode cL_bookings 80 = .ok (.isub, 1) := by decide +kernel
theorem dL_bookings_81 : decode cL_bookings 81 = .ok (.istore 4, 2) := by decide +kernel
theorem dL_bookings_83 : decode cL_bookings 83 = .ok (.iload 4, 2) := by decide +kernel
theorem dL_bookings_85 : decode cL_bookings 85 = .ok (.ifCond .eq 8, 3) := by decide +kernel
theorem dL_bookings_88 : decode cL_bookings 88 = .ok (.iload 4, 2) := by decide +kernel
theorem dL_bookings_90 : decode cL_bookings 90 = .ok (.goto 18, 3) := by decide +kernel
theorem dL_bookings_93 : decode cL_bookings 93 = .ok (.aload_n 0, 1) := by decide +kernel
theorem dL_bookings_94 : decode cL_bookings 94 = .ok (.iload_n 3, 1) := by decide +kernel
theorem dL_bookings_95 : decode cL_bookings 95 = .ok (.iconst 0, 1) := by decide +kernel
theorem dL_bookings_96 : decode cL_bookings 96 = .ok (.invokevirtual 112, 3) := by decide +kernel
theorem dL_bookings_99 : decode cL_bookings 99 = .ok (.aload_n 0, 1) := by decide +kernel
theorem dL_bookings_100 : decode cL_bookings 100 = .ok (.iload_n 3, 1) := by decide +kernel
theorem dL_bookings_101 : decode cL_bookings 101 = .ok (.iconst 1, 1) := by decide +kernel
theorem dL_bookings_102 : decode cL_bookings 102 = .ok (.isub, 1) := by decide +kernel
theorem dL_bookings_103 : decode cL_bookings 103 = .ok (.iconst 0, 1) := by decide +kernel
theorem dL_bookings_104 : decode cL_bookings 104 = .ok (.invokevirtual 112, 3) := by decide +kernel
theorem dL_bookings_107 : decode cL_bookings 107 = .ok (.isub, 1) := by decide +kernel
theorem dL_bookings_108 : decode cL_bookings 108 = .ok (.istore 4, 2) := by decide +kernel
theorem dL_bookings_110 : decode cL_bookings 110 = .ok (.aload_n 1, 1) := by decide +kernel
theorem dL_bookings_111 : decode cL_bookings 111 = .ok (.iload_n 3, 1) := by decide +kernel
theorem dL_bookings_112 : decode cL_bookings 112 = .ok (.ifCond .ne 8, 3) := by decide +kernel
theorem dL_bookings_115 : decode cL_bookings 115 = .ok (.ldc 130, 2) := by decide +kernel
theorem dL_bookings_117 : decode cL_bookings 117 = .ok (.goto 5, 3) := by decide +kernel
theorem dL_bookings_120 : decode cL_bookings 120 = .ok (.ldc 146, 2) := by decide +kernel
theorem dL_bookings_122 : decode cL_bookings 122 = .ok (.invokevirtual 94, 3) := by decide +kernel
theorem dL_bookings_125 : decode cL_bookings 125 = .ok (.aload_n 0, 1) := by decide +kernel
theorem dL_bookings_126 : decode cL_bookings 126 = .ok (.iload_n 3, 1) := by decide +kernel
theorem dL_bookings_127 : decode cL_bookings 127 = .ok (.iconst 0, 1) := by decide +kernel
theorem dL_bookings_128 : decode cL_bookings 128 = .ok (.invokevirtual 112, 3) := by decide +kernel
theorem dL_bookings_131 : decode cL_bookings 131 = .ok (.invokevirtual 84, 3) := by decide +kernel
theorem dL_bookings_134 : decode cL_bookings 134 = .ok (.bipush 58, 2) := by decide +kernel
theorem dL_bookings_136 : decode cL_bookings 136 = .ok (.invokevirtual 77, 3) := by decide +kernel
theorem dL_bookings_139 : decode cL_bookings 139 = .ok (.aload_n 0, 1) := by decide +kernel
theorem dL_bookings_140 : decode cL_bookings 140 = .ok (.iload_n 3, 1) := by decide +kernel
theorem dL_bookings_141 : decode cL_bookings 141 = .ok (.iconst 1, 1) := by decide +kernel
theorem dL_bookings_142 : decode cL_bookings 142 = .ok (.invokevirtual 112, 3) := by decide +kernel
theorem dL_bookings_145 : decode cL_bookings 145 = .ok (.invokevirtual 84, 3) := by decide +kernel
theorem dL_bookings_148 : decode cL_bookings 148 = .ok (.bipush 64, 2) := by decide +kernel
theorem dL_bookings_150 : decode cL_bookings 150 = .ok (.invokevirtual 77, 3) := by decide +kernel
theorem dL_bookings_153 : decode cL_bookings 153 = .ok (.aload_n 0, 1) := by decide +kernel
theorem dL_bookings_154 : decode cL_bookings 154 = .ok (.iload_n 3, 1) := by decide +kernel
theorem dL_bookings_155 : decode cL_bookings 155 = .ok (.iconst 2, 1) := by decide +kernel
theorem dL_bookings_156 : decode cL_bookings 156 = .ok (.invokevirtual 112, 3) := by decide +kernel
theorem dL_bookings_159 : decode cL_bookings 159 = .ok (.invokevirtual 84, 3) := by decide +kernel
theorem dL_bookings_162 : decode cL_bookings 162 = .ok (.bipush 61, 2) := by decide +kernel
theorem dL_bookings_164 : decode cL_bookings 164 = .ok (.invokevirtual 77, 3) := by decide +kernel
theorem dL_bookings_167 : decode cL_bookings 167 = .ok (.aload_n 0, 1) := by decide +kernel
theorem dL_bookings_168 : decode cL_bookings 168 = .ok (.iload_n 3, 1) := by decide +kernel
theorem dL_bookings_169 : decode cL_bookings 169 = .ok (.iconst 3, 1) := by decide +kernel
theorem dL_bookings_170 : decode cL_bookings 170 = .ok (.invokevirtual 112, 3) := by decide +kernel
theorem dL_bookings_173 : decode cL_bookings 173 = .ok (.invokevirtual 84, 3) := by decide +kernel
theorem dL_bookings_176 : decode cL_bookings 176 = .ok (.pop, 1) := by decide +kernel
theorem dL_bookings_177 : decode cL_bookings 177 = .ok (.iload 4, 2) := by decide +kernel
theorem dL_bookings_179 : decode cL_bookings 179 = .ok (.ifCond .le 17, 3) := by decide +kernel
theorem dL_bookings_182 : decode cL_bookings 182 = .ok (.aload_n 0, 1) := by decide +kernel
theorem dL_bookings_183 : decode cL_bookings 183 = .ok (.iload_n 3, 1) := by decide +kernel
theorem dL_bookings_184 : decode cL_bookings 184 = .ok (.iconst 3, 1) := by decide +kernel
theorem dL_bookings_185 : decode cL_bookings 185 = .ok (.invokevirtual 112, 3) := by decide +kernel
theorem dL_bookings_188 : decode cL_bookings 188 = .ok (.aload_n 0, 1) := by decide +kernel
theorem dL_bookings_189 : decode cL_bookings 189 = .ok (.iconst 3, 1) := by decide +kernel
theorem dL_bookings_190 : decode cL_bookings 190 = .ok (.invokevirtual 34, 3) := by decide +kernel
theorem dL_bookings_193 : decode cL_bookings 193 = .ok (.if_icmp .ge 5, 3) := by decide +kernel
theorem dL_bookings_196 : decode cL_bookings 196 = .ok (.iconst 0, 1) := by decide +kernel
theorem dL_bookings_197 : decode cL_bookings 197 = .ok (.ireturn, 1) := by decide +kernel
theorem dL_bookings_198 : decode cL_bookings 198 = .ok (.iconst 0, 1) := by decide +kernel
theorem dL_bookings_199 : decode cL_bookings 199 = .ok (.istore 5, 2) := by decide +kernel
theorem dL_bookings_201 : decode cL_bookings 201 = .ok (.iload 5, 2) := by decide +kernel
theorem dL_bookings_203 : decode cL_bookings 203 = .ok (.iload_n 3, 1) := by decide +kernel
theorem dL_bookings_204 : decode cL_bookings 204 = .ok (.if_icmp .ge 43, 3) := by decide +kernel
theorem dL_bookings_207 : decode cL_bookings 207 = .ok (.aload_n 0, 1) := by decide +kernel
theorem dL_bookings_208 : decode cL_bookings 208 = .ok (.iload 5, 2) := by decide +kernel
theorem dL_bookings_210 : decode cL_bookings 210 = .ok (.iconst 0, 1) := by decide +kernel
theorem dL_bookings_211 : decode cL_bookings 211 = .ok (.invokevirtual 112, 3) := by decide +kernel
theorem dL_bookings_214 : decode cL_bookings 214 = .ok (.aload_n 0, 1) := by decide +kernel
theorem dL_bookings_215 : decode cL_bookings 215 = .ok (.iload_n 3, 1) := by decide +kernel
theorem dL_bookings_216 : decode cL_bookings 216 = .ok (.iconst 0, 1) := by decide +kernel
theorem dL_bookings_217 : decode cL_bookings 217 = .ok (.invokevirtual 112, 3) := by decide +kernel
theorem dL_bookings_220 : decode cL_bookings 220 = .ok (.if_icmp .ne 21, 3) := by decide +kernel
theorem dL_bookings_223 : decode cL_bookings 223 = .ok (.aload_n 0, 1) := by decide +kernel
theorem dL_bookings_224 : decode cL_bookings 224 = .ok (.iload 5, 2) := by decide +kernel
theorem dL_bookings_226 : decode cL_bookings 226 = .ok (.iconst 3, 1) := by decide +kernel
theorem dL_bookings_227 : decode cL_bookings 227 = .ok (.invokevirtual 112, 3) := by decide +kernel
theorem dL_bookings_230 : decode cL_bookings 230 = .ok (.aload_n 0, 1) := by decide +kernel
theorem dL_bookings_231 : decode cL_bookings 231 = .ok (.iload_n 3, 1) := by decide +kernel
theorem dL_bookings_232 : decode cL_bookings 232 = .ok (.iconst 3, 1) := by decide +kernel
theorem dL_bookings_233 : decode cL_bookings 233 = .ok (.invokevirtual 112, 3) := by decide +kernel
theorem dL_bookings_236 : decode cL_bookings 236 = .ok (.if_icmp .ne 5, 3) := by decide +kernel
theorem dL_bookings_239 : decode cL_bookings 239 = .ok (.iconst 0, 1) := by decide +kernel
theorem dL_bookings_240 : decode cL_bookings 240 = .ok (.ireturn, 1) := by decide +kernel
theorem dL_bookings_241 : decode cL_bookings 241 = .ok (.iinc 5 1, 3) := by decide +kernel
theorem dL_bookings_244 : decode cL_bookings 244 = .ok (.goto (-43), 3) := by decide +kernel
theorem dL_bookings_247 : decode cL_bookings 247 = .ok (.iinc 3 1, 3) := by decide +kernel
theorem dL_bookings_250 : decode cL_bookings 250 = .ok (.goto (-234), 3) := by decide +kernel
theorem dL_bookings_253 : decode cL_bookings 253 = .ok (.aload_n 0, 1) := by decide +kernel
theorem dL_bookings_254 : decode cL_bookings 254 = .ok (.aload_n 0, 1) := by decide +kernel
theorem dL_bookings_255 : decode cL_bookings 255 = .ok (.invokevirtual 109, 3) := by decide +kernel
theorem dL_bookings_258 : decode cL_bookings 258 = .ok (.invokestatic 90, 3) := by decide +kernel
theorem dL_bookings_261 : decode cL_bookings 261 = .ok (.aload_n 1, 1) := by decide +kernel
theorem dL_bookings_262 : decode cL_bookings 262 = .ok (.invokevirtual 80, 3) := by decide +kernel
theorem dL_bookings_265 : decode cL_bookings 265 = .ok (.invokevirtual 135, 3) := by decide +kernel
theorem dL_bookings_268 : decode cL_bookings 268 = .ok (.ifCond .eq 25, 3) := by decide +kernel
theorem dL_bookings_271 : decode cL_bookings 271 = .ok (.aload_n 0, 1) := by decide +kernel
theorem dL_bookings_272 : decode cL_bookings 272 = .ok (.iload_n 2, 1) := by decide +kernel
theorem dL_bookings_273 : decode cL_bookings 273 = .ok (.iconst 0, 1) := by decide +kernel
theorem dL_bookings_274 : decode cL_bookings 274 = .ok (.invokevirtual 112, 3) := by decide +kernel
theorem dL_bookings_277 : decode cL_bookings 277 = .ok (.sipush (-1011), 3) := by decide +kernel
theorem dL_bookings_280 : decode cL_bookings 280 = .ok (.if_icmp .ne 13, 3) := by decide +kernel
theorem dL_bookings_283 : decode cL_bookings 283 = .ok (.iload_n 2, 1) := by decide +kernel
theorem dL_bookings_284 : decode cL_bookings 284 = .ok (.bipush 10, 2) := by decide +kernel
theorem dL_bookings_286 : decode cL_bookings 286 = .ok (.if_icmp .gt 7, 3) := by decide +kernel
theorem dL_bookings_289 : decode cL_bookings 289 = .ok (.iconst 1, 1) := by decide +kernel
theorem dL_bookings_290 : decode cL_bookings 290 = .ok (.goto 4, 3) := by decide +kernel
theorem dL_bookings_293 : decode cL_bookings 293 = .ok (.iconst 0, 1) := by decide +kernel
theorem dL_bookings_294 : decode cL_bookings 294 = .ok (.ireturn, 1) := by decide +kernel
theorem dL_laughs_0 : decode cL_laughs 0 = .ok (.iconst 0, 1) := by decide +kernel
theorem dL_laughs_1 : decode cL_laughs 1 = .ok (.istore_n 1, 1) := by decide +kernel
theorem dL_laughs_2 : decode cL_laughs 2 = .ok (.iload_n 1, 1) := by decide +kernel
theorem dL_laughs_3 : decode cL_laughs 3 = .ok (.aload_n 0, 1) := by decide +kernel
theorem dL_laughs_4 : decode cL_laughs 4 = .ok (.iconst 0, 1) := by decide +kernel
theorem dL_laughs_5 : decode cL_laughs 5 = .ok (.invokevirtual 34, 3) := by decide +kernel
theorem dL_laughs_8 : decode cL_laughs 8 = .ok (.if_icmp .ge 176, 3) := by decide +kernel
theorem dL_laughs_11 : decode cL_laughs 11 = .ok (.iconst 0, 1) := by decide +kernel
theorem dL_laughs_12 : decode cL_laughs 12 = .ok (.istore_n 2, 1) := by decide +kernel
theorem dL_laughs_13 : decode cL_laughs 13 = .ok (.iload_n 2, 1) := by decide +kernel
theorem dL_laughs_14 : decode cL_laughs 14 = .ok (.iconst 4, 1) := by decide +kernel
theorem dL_laughs_15 : decode cL_laughs 15 = .ok (.if_icmp .ge 163, 3) := by decide +kernel
theorem dL_laughs_18 : decode cL_laughs 18 = .ok (.sipush (-1015), 3) := by decide +kernel
theorem dL_laughs_21 : decode cL_laughs 21 = .ok (.istore_n 3, 1) := by decide +kernel
theorem dL_laughs_22 : decode cL_laughs 22 = .ok (.iconst 0, 1) := by decide +kernel
theorem dL_laughs_23 : decode cL_laughs 23 = .ok (.istore 4, 2) := by decide +kernel
theorem dL_laughs_25 : decode cL_laughs 25 = .ok (.iconst 0, 1) := by decide +kernel
theorem dL_laughs_26 : decode cL_laughs 26 = .ok (.istore 5, 2) := by decide +kernel
theorem dL_laughs_28 : decode cL_laughs 28 = .ok (.iload 5, 2) := by decide +kernel
theorem dL_laughs_30 : decode cL_laughs 30 = .ok (.aload_n 0, 1) := by decide +kernel
theorem dL_laughs_31 : decode cL_laughs 31 = .ok (.iconst 1, 1) := by decide +kernel
theorem dL_laughs_32 : decode cL_laughs 32 = .ok (.invokevirtual 34, 3) := by decide +kernel
theorem dL_laughs_35 : decode cL_laughs 35 = .ok (.if_icmp .ge 115, 3) := by decide +kernel
theorem dL_laughs_38 : decode cL_laughs 38 = .ok (.aload_n 0, 1) := by decide +kernel
theorem dL_laughs_39 : decode cL_laughs 39 = .ok (.iload 5, 2) := by decide +kernel
theorem dL_laughs_41 : decode cL_laughs 41 = .ok (.iconst 1, 1) := by decide +kernel
theorem dL_laughs_42 : decode cL_laughs 42 = .ok (.invokevirtual 103, 3) := by decide +kernel
theorem dL_laughs_45 : decode cL_laughs 45 = .ok (.istore 6, 2) := by decide +kernel
theorem dL_laughs_47 : decode cL_laughs 47 = .ok (.iconst 0, 1) := by decide +kernel
theorem dL_laughs_48 : decode cL_laughs 48 = .ok (.aload_n 0, 1) := by decide +kernel
theorem dL_laughs_49 : decode cL_laughs 49 = .ok (.iload 5, 2) := by decide +kernel
theorem dL_laughs_51 : decode cL_laughs 51 = .ok (.iconst 0, 1) := by decide +kernel
theorem dL_laughs_52 : decode cL_laughs 52 = .ok (.invokevirtual 103, 3) := by decide +kernel
theorem dL_laughs_55 : decode cL_laughs 55 = .ok (.aload_n 0, 1) := by decide +kernel
theorem dL_laughs_56 : decode cL_laughs 56 = .ok (.iload_n 1, 1) := by decide +kernel
theorem dL_laughs_57 : decode cL_laughs 57 = .ok (.iconst 0, 1) := by decide +kernel
theorem dL_laughs_58 : decode cL_laughs 58 = .ok (.invokevirtual 97, 3) := by decide +kernel
theorem dL_laughs_61 : decode cL_laughs 61 = .ok (.iadd, 1) := by decide +kernel
theorem dL_laughs_62 : decode cL_laughs 62 = .ok (.iconst 2, 1) := by decide +kernel
theorem dL_laughs_63 : decode cL_laughs 63 = .ok (.aload_n 0, 1) := by decide +kernel
theorem dL_laughs_64 : decode cL_laughs 64 = .ok (.iload 5, 2) := by decide +kernel
theorem dL_laughs_66 : decode cL_laughs 66 = .ok (.iload_n 2, 1) := by decide +kernel
theorem dL_laughs_67 : decode cL_laughs 67 = .ok (.invokevirtual 100, 3) := by decide +kernel
theorem dL_laughs_70 : decode cL_laughs 70 = .ok (.imul, 1) := by decide +kernel
theorem dL_laughs_71 : decode cL_laughs 71 = .ok (.isub, 1) := by decide +kernel
theorem dL_laughs_72 : decode cL_laughs 72 = .ok (.invokestatic 28, 3) := by decide +kernel
theorem dL_laughs_75 : decode cL_laughs 75 = .ok (.istore 7, 2) := by decide +kernel
theorem dL_laughs_77 : decode cL_laughs 77 = .ok (.aload_n 0, 1) := by decide +kernel
theorem dL_laughs_78 : decode cL_laughs 78 = .ok (.iload_n 2, 1) := by decide +kernel
theorem dL_laughs_79 : decode cL_laughs 79 = .ok (.iconst 0, 1) := by decide +kernel
theorem dL_laughs_80 : decode cL_laughs 80 = .ok (.invokevirtual 106, 3) := by decide +kernel
theorem dL_laughs_83 : decode cL_laughs 83 = .ok (.iconst 1, 1) := by decide +kernel
theorem dL_laughs_84 : decode cL_laughs 84 = .ok (.if_icmp .eq 14, 3) := by decide +kernel
theorem dL_laughs_87 : decode cL_laughs 87 = .ok (.iload 6, 2) := by decide +kernel
theorem dL_laughs_89 : decode cL_laughs 89 = .ok (.ifCond .lt 13, 3) := by decide +kernel
theorem dL_laughs_92 : decode cL_laughs 92 = .ok (.iload 6, 2) := by decide +kernel
theorem dL_laughs_94 : decode cL_laughs 94 = .ok (.iload_n 1, 1) := by decide +kernel
theorem dL_laughs_95 : decode cL_laughs 95 = .ok (.if_icmp .eq 7, 3) := by decide +kernel
theorem dL_laughs_98 : decode cL_laughs 98 = .ok (.iconst 0, 1) := by decide +kernel
theorem dL_laughs_99 : decode cL_laughs 99 = .ok (.goto 5, 3) := by decide +kernel
theorem dL_laughs_102 : decode cL_laughs 102 = .ok (.iload 7, 2) := by decide +kernel
theorem dL_laughs_104 : decode cL_laughs 104 = .ok (.istore 7, 2) := by decide +kernel
theorem dL_laughs_106 : decode cL_laughs 106 = .ok (.iload 7, 2) := by decide +kernel
theorem dL_laughs_108 : decode cL_laughs 108 = .ok (.iload 4, 2) := by decide +kernel
theorem dL_laughs_110 : decode cL_laughs 110 = .ok (.if_icmp .le 8, 3) := by decide +kernel
theorem dL_laughs_113 : decode cL_laughs 113 = .ok (.iload 5, 2) := by decide +kernel
theorem dL_laughs_115 : decode cL_laughs 115 = .ok (.goto 4, 3) := by decide +kernel
theorem dL_laughs_118 : decode cL_laughs 118 = .ok (.iload_n 3, 1) := by decide +kernel
theorem dL_laughs_119 : decode cL_laughs 119 = .ok (.istore_n 3, 1) := by decide +kernel
theorem dL_laughs_120 : decode cL_laughs 120 = .ok (.iload 4, 2) := by decide +kernel
theorem dL_laughs_122 : decode cL_laughs 122 = .ok (.iload 7, 2) := by decide +kernel
theorem dL_laughs_124 : decode cL_laughs 124 = .ok (.invokestatic 28, 3) := by decide +kernel
theorem dL_laughs_127 : decode cL_laughs 127 = .ok (.istore 4, 2) := by decide +kernel
theorem dL_laughs_129 : decode cL_laughs 129 = .ok (.aload_n 0, 1) := by decide +kernel
theorem dL_laughs_130 : decode cL_laughs 130 = .ok (.iload_n 1, 1) := by decide +kernel
theorem dL_laughs_131 : decode cL_laughs 131 = .ok (.iload 5, 2) := by decide +kernel
theorem dL_laughs_133 : decode cL_laughs 133 = .ok (.iload_n 2, 1) := by decide +kernel
theorem dL_laughs_134 : decode cL_laughs 134 = .ok (.invokevirtual 148, 3) := by decide +kernel
theorem dL_laughs_137 : decode cL_laughs 137 = .ok (.iload 7, 2) := by decide +kernel
theorem dL_laughs_139 : decode cL_laughs 139 = .ok (.if_icmp .eq 5, 3) := by decide +kernel
theorem dL_laughs_142 : decode cL_laughs 142 = .ok (.iconst 0, 1) := by decide +kernel
theorem dL_laughs_143 : decode cL_laughs 143 = .ok (.ireturn, 1) := by decide +kernel
theorem dL_laughs_144 : decode cL_laughs 144 = .ok (.iinc 5 1, 3) := by decide +kernel
theorem dL_laughs_147 : decode cL_laughs 147 = .ok (.goto (-119), 3) := by decide +kernel
theorem dL_laughs_150 : decode cL_laughs 150 = .ok (.aload_n 0, 1) := by decide +kernel
theorem dL_laughs_151 : decode cL_laughs 151 = .ok (.iload_n 1, 1) := by decide +kernel
theorem dL_laughs_152 : decode cL_laughs 152 = .ok (.iload_n 2, 1) := by decide +kernel
theorem dL_laughs_153 : decode cL_laughs 153 = .ok (.invokevirtual 151, 3) := by decide +kernel
theorem dL_laughs_156 : decode cL_laughs 156 = .ok (.iload_n 3, 1) := by decide +kernel
theorem dL_laughs_157 : decode cL_laughs 157 = .ok (.if_icmp .ne 13, 3) := by decide +kernel
theorem dL_laughs_160 : decode cL_laughs 160 = .ok (.aload_n 0, 1) := by decide +kernel
theorem dL_laughs_161 : decode cL_laughs 161 = .ok (.iload_n 1, 1) := by decide +kernel
theorem dL_laughs_162 : decode cL_laughs 162 = .ok (.iload_n 2, 1) := by decide +kernel
theorem dL_laughs_163 : decode cL_laughs 163 = .ok (.invokevirtual 154, 3) := by decide +kernel
theorem dL_laughs_166 : decode cL_laughs 166 = .ok (.iload_n 3, 1) := by decide +kernel
theorem dL_laughs_167 : decode cL_laughs 167 = .ok (.if_icmp .eq 5, 3) := by decide +kernel
theorem dL_laughs_170 : decode cL_laughs 170 = .ok (.iconst 0, 1) := by decide +kernel
theorem dL_laughs_171 : decode cL_laughs 171 = .ok (.ireturn, 1) := by decide +kernel
theorem dL_laughs_172 : decode cL_laughs 172 = .ok (.iinc 2 1, 3) := by decide +kernel
theorem dL_laughs_175 : decode cL_laughs 175 = .ok (.goto (-162), 3) := by decide +kernel
theorem dL_laughs_178 : decode cL_laughs 178 = .ok (.iinc 1 1, 3) := by decide +kernel
theorem dL_laughs_181 : decode cL_laughs 181 = .ok (.goto (-179), 3) := by decide +kernel
theorem dL_laughs_184 : decode cL_laughs 184 = .ok (.aload_n 0, 1) := by decide +kernel
theorem dL_laughs_185 : decode cL_laughs 185 = .ok (.aload_n 0, 1) := by decide +kernel
theorem dL_laughs_186 : decode cL_laughs 186 = .ok (.iconst 0, 1) := by decide +kernel
theorem dL_laughs_187 : decode cL_laughs 187 = .ok (.invokevirtual 34, 3) := by decide +kernel
theorem dL_laughs_190 : decode cL_laughs 190 = .ok (.iconst 0, 1) := by decide +kernel
theorem dL_laughs_191 : decode cL_laughs 191 = .ok (.invokevirtual 151, 3) := by decide +kernel
theorem dL_laughs_194 : decode cL_laughs 194 = .ok (.sipush (-1011), 3) := by decide +kernel
theorem dL_laughs_197 : decode cL_laughs 197 = .ok (.if_icmp .ne 24, 3) := by decide +kernel
theorem dL_laughs_200 : decode cL_laughs 200 = .ok (.aload_n 0, 1) := by decide +kernel
theorem dL_laughs_201 : decode cL_laughs 201 = .ok (.iconst 0, 1) := by decide +kernel
theorem dL_laughs_202 : decode cL_laughs 202 = .ok (.aload_n 0, 1) := by decide +kernel
theorem dL_laughs_203 : decode cL_laughs 203 = .ok (.iconst 1, 1) := by decide +kernel
theorem dL_laughs_204 : decode cL_laughs 204 = .ok (.invokevirtual 34, 3) := by decide +kernel
theorem dL_laughs_207 : decode cL_laughs 207 = .ok (.iconst 0, 1) := by decide +kernel
theorem dL_laughs_208 : decode cL_laughs 208 = .ok (.invokevirtual 148, 3) := by decide +kernel
theorem dL_laughs_211 : decode cL_laughs 211 = .ok (.sipush (-1011), 3) := by decide +kernel
theorem dL_laughs_214 : decode cL_laughs 214 = .ok (.if_icmp .ne 7, 3) := by decide +kernel
theorem dL_laughs_217 : decode cL_laughs 217 = .ok (.iconst 1, 1) := by decide +kernel
theorem dL_laughs_218 : decode cL_laughs 218 = .ok (.goto 4, 3) := by decide +kernel
theorem dL_laughs_221 : decode cL_laughs 221 = .ok (.iconst 0, 1) := by decide +kernel
theorem dL_laughs_222 : decode cL_laughs 222 = .ok (.ireturn, 1) := by decide +kernel
theorem dL_foretold_0 : decode cL_foretold 0 = .ok (.aload_n 0, 1) := by decide +kernel
theorem dL_foretold_1 : decode cL_foretold 1 = .ok (.invokevirtual 157, 3) := by decide +kernel
theorem dL_foretold_4 : decode cL_foretold 4 = .ok (.istore_n 1, 1) := by decide +kernel
theorem dL_foretold_5 : decode cL_foretold 5 = .ok (.aload_n 0, 1) := by decide +kernel
theorem dL_foretold_6 : decode cL_foretold 6 = .ok (.iconst 2, 1) := by decide +kernel
theorem dL_foretold_7 : decode cL_foretold 7 = .ok (.invokevirtual 34, 3) := by decide +kernel
theorem dL_foretold_10 : decode cL_foretold 10 = .ok (.istore_n 2, 1) := by decide +kernel
theorem dL_foretold_11 : decode cL_foretold 11 = .ok (.aload_n 0, 1) := by decide +kernel
theorem dL_foretold_12 : decode cL_foretold 12 = .ok (.iconst 4, 1) := by decide +kernel
theorem dL_foretold_13 : decode cL_foretold 13 = .ok (.invokevirtual 34, 3) := by decide +kernel
theorem dL_foretold_16 : decode cL_foretold 16 = .ok (.istore_n 3, 1) := by decide +kernel
theorem dL_foretold_17 : decode cL_foretold 17 = .ok (.aload_n 0, 1) := by decide +kernel
theorem dL_foretold_18 : decode cL_foretold 18 = .ok (.invokevirtual 160, 3) := by decide +kernel
theorem dL_foretold_21 : decode cL_foretold 21 = .ok (.istore 4, 2) := by decide +kernel
theorem dL_foretold_23 : decode cL_foretold 23 = .ok (.aload_n 0, 1) := by decide +kernel
theorem dL_foretold_24 : decode cL_foretold 24 = .ok (.bipush 10, 2) := by decide +kernel
theorem dL_foretold_26 : decode cL_foretold 26 = .ok (.invokevirtual 34, 3) := by decide +kernel
theorem dL_foretold_29 : decode cL_foretold 29 = .ok (.istore 5, 2) := by decide +kernel
theorem dL_foretold_31 : decode cL_foretold 31 = .ok (.iconst 1, 1) := by decide +kernel
theorem dL_foretold_32 : decode cL_foretold 32 = .ok (.istore 6, 2) := by decide +kernel
theorem dL_foretold_34 : decode cL_foretold 34 = .ok (.iload_n 2, 1) := by decide +kernel
theorem dL_foretold_35 : decode cL_foretold 35 = .ok (.ifCond .ne 51, 3) := by decide +kernel
theorem dL_foretold_38 : decode cL_foretold 38 = .ok (.iload 6, 2) := by decide +kernel
theorem dL_foretold_40 : decode cL_foretold 40 = .ok (.iload 4, 2) := by decide +kernel
theorem dL_foretold_42 : decode cL_foretold 42 = .ok (.ifCond .ne 37, 3) := by decide +kernel
theorem dL_foretold_45 : decode cL_foretold 45 = .ok (.aload_n 0, 1) := by decide +kernel
theorem dL_foretold_46 : decode cL_foretold 46 = .ok (.invokevirtual 57, 3) := by decide +kernel
theorem dL_foretold_49 : decode cL_foretold 49 = .ok (.sipush (-1014), 3) := by decide +kernel
theorem dL_foretold_52 : decode cL_foretold 52 = .ok (.if_icmp .ne 27, 3) := by decide +kernel
theorem dL_foretold_55 : decode cL_foretold 55 = .ok (.aload_n 0, 1) := by decide +kernel
theorem dL_foretold_56 : decode cL_foretold 56 = .ok (.iconst 0, 1) := by decide +kernel
theorem dL_foretold_57 : decode cL_foretold 57 = .ok (.invokevirtual 163, 3) := by decide +kernel
theorem dL_foretold_60 : decode cL_foretold 60 = .ok (.bipush 11, 2) := by decide +kernel
theorem dL_foretold_62 : decode cL_foretold 62 = .ok (.if_icmp .ne 17, 3) := by decide +kernel
theorem dL_foretold_65 : decode cL_foretold 65 = .ok (.aload_n 0, 1) := by decide +kernel
theorem dL_foretold_66 : decode cL_foretold 66 = .ok (.iconst 1, 1) := by decide +kernel
theorem dL_foretold_67 : decode cL_foretold 67 = .ok (.invokevirtual 163, 3) := by decide +kernel
theorem dL_foretold_70 : decode cL_foretold 70 = .ok (.iload 5, 2) := by decide +kernel
theorem dL_foretold_72 : decode cL_foretold 72 = .ok (.if_icmp .ne 7, 3) := by decide +kernel
theorem dL_foretold_75 : decode cL_foretold 75 = .ok (.iconst 1, 1) := by decide +kernel
theorem dL_foretold_76 : decode cL_foretold 76 = .ok (.goto 4, 3) := by decide +kernel
theorem dL_foretold_79 : decode cL_foretold 79 = .ok (.iconst 0, 1) := by decide +kernel
theorem dL_foretold_80 : decode cL_foretold 80 = .ok (.iand, 1) := by decide +kernel
theorem dL_foretold_81 : decode cL_foretold 81 = .ok (.istore 6, 2) := by decide +kernel
theorem dL_foretold_83 : decode cL_foretold 83 = .ok (.goto 313, 3) := by decide +kernel
theorem dL_foretold_86 : decode cL_foretold 86 = .ok (.aload_n 0, 1) := by decide +kernel
theorem dL_foretold_87 : decode cL_foretold 87 = .ok (.iconst 0, 1) := by decide +kernel
theorem dL_foretold_88 : decode cL_foretold 88 = .ok (.iconst 0, 1) := by decide +kernel
theorem dL_foretold_89 : decode cL_foretold 89 = .ok (.invokevirtual 112, 3) := by decide +kernel
theorem dL_foretold_92 : decode cL_foretold 92 = .ok (.istore 7, 2) := by decide +kernel
theorem dL_foretold_94 : decode cL_foretold 94 = .ok (.aload_n 0, 1) := by decide +kernel
theorem dL_foretold_95 : decode cL_foretold 95 = .ok (.iconst 0, 1) := by decide +kernel
theorem dL_foretold_96 : decode cL_foretold 96 = .ok (.iconst 1, 1) := by decide +kernel
theorem dL_foretold_97 : decode cL_foretold 97 = .ok (.invokevirtual 112, 3) := by decide +kernel
theorem dL_foretold_100 : decode cL_foretold 100 = .ok (.istore 8, 2) := by decide +kernel
theorem dL_foretold_102 : decode cL_foretold 102 = .ok (.aload_n 0, 1) := by decide +kernel
theorem dL_foretold_103 : decode cL_foretold 103 = .ok (.iconst 0, 1) := by decide +kernel
theorem dL_foretold_104 : decode cL_foretold 104 = .ok (.iconst 2, 1) := by decide +kernel
theorem dL_foretold_105 : decode cL_foretold 105 = .ok (.invokevirtual 112, 3) := by decide +kernel
theorem dL_foretold_108 : decode cL_foretold 108 = .ok (.istore 9, 2) := by decide +kernel
theorem dL_foretold_110 : decode cL_foretold 110 = .ok (.aload_n 0, 1) := by decide +kernel
theorem dL_foretold_111 : decode cL_foretold 111 = .ok (.iconst 0, 1) := by decide +kernel
theorem dL_foretold_112 : decode cL_foretold 112 = .ok (.iconst 3, 1) := by decide +kernel
theorem dL_foretold_113 : decode cL_foretold 113 = .ok (.invokevirtual 112, 3) := by decide +kernel
theorem dL_foretold_116 : decode cL_foretold 116 = .ok (.istore 10, 2) := by decide +kernel
theorem dL_foretold_118 : decode cL_foretold 118 = .ok (.aload_n 0, 1) := by decide +kernel
theorem dL_foretold_119 : decode cL_foretold 119 = .ok (.iload 8, 2) := by decide +kernel
theorem dL_foretold_121 : decode cL_foretold 121 = .ok (.iload 9, 2) := by decide +kernel
theorem dL_foretold_123 : decode cL_foretold 123 = .ok (.invokevirtual 100, 3) := by decide +kernel
theorem dL_foretold_126 : decode cL_foretold 126 = .ok (.istore 11, 2) := by decide +kernel
theorem dL_foretold_128 : decode cL_foretold 128 = .ok (.aload_n 0, 1) := by decide +kernel
theorem dL_foretold_129 : decode cL_foretold 129 = .ok (.iload 9, 2) := by decide +kernel
theorem dL_foretold_131 : decode cL_foretold 131 = .ok (.iconst 0, 1) := by decide +kernel
theorem dL_foretold_132 : decode cL_foretold 132 = .ok (.invokevirtual 106, 3) := by decide +kernel
theorem dL_foretold_135 : decode cL_foretold 135 = .ok (.iconst 1, 1) := by decide +kernel
theorem dL_foretold_136 : decode cL_foretold 136 = .ok (.if_icmp .ne 7, 3) := by decide +kernel
theorem dL_foretold_139 : decode cL_foretold 139 = .ok (.iconst 1, 1) := by decide +kernel
theorem dL_foretold_140 : decode cL_foretold 140 = .ok (.goto 4, 3) := by decide +kernel
theorem dL_foretold_143 : decode cL_foretold 143 = .ok (.iconst 0, 1) := by decide +kernel
theorem dL_foretold_144 : decode cL_foretold 144 = .ok (.istore 12, 2) := by decide +kernel
theorem dL_foretold_146 : decode cL_foretold 146 = .ok (.aload_n 0, 1) := by decide +kernel
theorem dL_foretold_147 : decode cL_foretold 147 = .ok (.iload 8, 2) := by decide +kernel
theorem dL_foretold_149 : decode cL_foretold 149 = .ok (.iconst 1, 1) := by decide +kernel
theorem dL_foretold_150 : decode cL_foretold 150 = .ok (.invokevirtual 103, 3) := by decide +kernel
theorem dL_foretold_153 : decode cL_foretold 153 = .ok (.ifCond .lt 37, 3) := by decide +kernel
theorem dL_foretold_156 : decode cL_foretold 156 = .ok (.aload_n 0, 1) := by decide +kernel
theorem dL_foretold_157 : decode cL_foretold 157 = .ok (.iload 8, 2) := by decide +kernel
theorem dL_foretold_159 : decode cL_foretold 159 = .ok (.iconst 1, 1) := by decide +kernel
theorem dL_foretold_160 : decode cL_foretold 160 = .ok (.invokevirtual 103, 3) := by decide +kernel
theorem dL_foretold_163 : decode cL_foretold 163 = .ok (.iload 7, 2) := by decide +kernel
theorem dL_foretold_165 : decode cL_foretold 165 = .ok (.if_icmp .eq 25, 3) := by decide +kernel
theorem dL_foretold_168 : decode cL_foretold 168 = .ok (.aload_n 0, 1) := by decide +kernel
theorem dL_foretold_169 : decode cL_foretold 169 = .ok (.iconst 3, 1) := by decide +kernel
theorem dL_foretold_170 : decode cL_foretold 170 = .ok (.invokevirtual 34, 3) := by decide +kernel
theorem dL_foretold_173 : decode cL_foretold 173 = .ok (.aload_n 0, 1) := by decide +kernel
theorem dL_foretold_174 : decode cL_foretold 174 = .ok (.iload 8, 2) := by decide +kernel
theorem dL_foretold_176 : decode cL_foretold 176 = .ok (.iconst 2, 1) := by decide +kernel
theorem dL_foretold_177 : decode cL_foretold 177 = .ok (.invokevirtual 103, 3) := by decide +kernel
theorem dL_foretold_180 : decode cL_foretold 180 = .ok (.iadd, 1) := by decide +kernel
theorem dL_foretold_181 : decode cL_foretold 181 = .ok (.iload 10, 2) := by decide +kernel
theorem dL_foretold_183 : decode cL_foretold 183 = .ok (.if_icmp .le 7, 3) := by decide +kernel
theorem dL_foretold_186 : decode cL_foretold 186 = .ok (.iconst 1, 1) := by decide +kernel
theorem dL_foretold_187 : decode cL_foretold 187 = .ok (.goto 4, 3) := by decide +kernel
theorem dL_foretold_190 : decode cL_foretold 190 = .ok (.iconst 0, 1) := by decide +kernel
theorem dL_foretold_191 : decode cL_foretold 191 = .ok (.istore 13, 2) := by decide +kernel
theorem dL_foretold_193 : decode cL_foretold 193 = .ok (.iload 12, 2) := by decide +kernel
theorem dL_foretold_195 : decode cL_foretold 195 = .ok (.ifCond .ne 8, 3) := by decide +kernel
theorem dL_foretold_198 : decode cL_foretold 198 = .ok (.iload 13, 2) := by decide +kernel
theorem dL_foretold_200 : decode cL_foretold 200 = .ok (.ifCond .eq 7, 3) := by decide +kernel
theorem dL_foretold_203 : decode cL_foretold 203 = .ok (.iconst 0, 1) := by decide +kernel
theorem dL_foretold_204 : decode cL_foretold 204 = .ok (.goto 27, 3) := by decide +kernel
theorem dL_foretold_207 : decode cL_foretold 207 = .ok (.iconst 0, 1) := by decide +kernel
theorem dL_foretold_208 : decode cL_foretold 208 = .ok (.aload_n 0, 1) := by decide +kernel
theorem dL_foretold_209 : decode cL_foretold 209 = .ok (.iload 8, 2) := by decide +kernel
theorem dL_foretold_211 : decode cL_foretold 211 = .ok (.iconst 0, 1) := by decide +kernel
theorem dL_foretold_212 : decode cL_foretold 212 = .ok (.invokevirtual 103, 3) := by decide +kernel
theorem dL_foretold_215 : decode cL_foretold 215 = .ok (.aload_n 0, 1) := by decide +kernel
theorem dL_foretold_216 : decode cL_foretold 216 = .ok (.iload 7, 2) := by decide +kernel
theorem dL_foretold_218 : decode cL_foretold 218 = .ok (.iconst 0, 1) := by decide +kernel
theorem dL_foretold_219 : decode cL_foretold 219 = .ok (.invokevirtual 97, 3) := by decide +kernel
theorem dL_foretold_222 : decode cL_foretold 222 = .ok (.iadd, 1) := by decide +kernel
theorem dL_foretold_223 : decode cL_foretold 223 = .ok (.iconst 2, 1) := by decide +kernel
theorem dL_foretold_224 : decode cL_foretold 224 = .ok (.iload 11, 2) := by decide +kernel
theorem dL_foretold_226 : decode cL_foretold 226 = .ok (.imul, 1) := by decide +kernel
theorem dL_foretold_227 : decode cL_foretold 227 = .ok (.isub, 1) := by decide +kernel
theorem dL_foretold_228 : decode cL_foretold 228 = .ok (.invokestatic 28, 3) := by decide +kernel
theorem dL_foretold_231 : decode cL_foretold 231 = .ok (.istore 14, 2) := by decide +kernel
theorem dL_foretold_233 : decode cL_foretold 233 = .ok (.aload_n 0, 1) := by decide +kernel
theorem dL_foretold_234 : decode cL_foretold 234 = .ok (.bipush 11, 2) := by decide +kernel
theorem dL_foretold_236 : decode cL_foretold 236 = .ok (.invokevirtual 34, 3) := by decide +kernel
theorem dL_foretold_239 : decode cL_foretold 239 = .ok (.istore 15, 2) := by decide +kernel
theorem dL_foretold_241 : decode cL_foretold 241 = .ok (.iload 6, 2) := by decide +kernel
theorem dL_foretold_243 : decode cL_foretold 243 = .ok (.aload_n 0, 1) := by decide +kernel
theorem dL_foretold_244 : decode cL_foretold 244 = .ok (.invokevirtual 57, 3) := by decide +kernel
theorem dL_foretold_247 : decode cL_foretold 247 = .ok (.iload 14, 2) := by decide +kernel
theorem dL_foretold_249 : decode cL_foretold 249 = .ok (.if_icmp .ne 79, 3) := by decide +kernel
theorem dL_foretold_252 : decode cL_foretold 252 = .ok (.aload_n 0, 1) := by decide +kernel
theorem dL_foretold_253 : decode cL_foretold 253 = .ok (.iconst 3, 1) := by decide +kernel
theorem dL_foretold_254 : decode cL_foretold 254 = .ok (.invokevirtual 34, 3) := by decide +kernel
theorem dL_foretold_257 : decode cL_foretold 257 = .ok (.iload 10, 2) := by decide +kernel
theorem dL_foretold_259 : decode cL_foretold 259 = .ok (.if_icmp .ne 69, 3) := by decide +kernel
theorem dL_foretold_262 : decode cL_foretold 262 = .ok (.aload_n 0, 1) := by decide +kernel
theorem dL_foretold_263 : decode cL_foretold 263 = .ok (.iload 8, 2) := by decide +kernel
theorem dL_foretold_265 : decode cL_foretold 265 = .ok (.iload 9, 2) := by decide +kernel
theorem dL_foretold_267 : decode cL_foretold 267 = .ok (.invokevirtual 100, 3) := by decide +kernel
theorem dL_foretold_270 : decode cL_foretold 270 = .ok (.iload 11, 2) := by decide +kernel
theorem dL_foretold_272 : decode cL_foretold 272 = .ok (.iload 12, 2) := by decide +kernel
theorem dL_foretold_274 : decode cL_foretold 274 = .ok (.ifCond .ne 8, 3) := by decide +kernel
theorem dL_foretold_277 : decode cL_foretold 277 = .ok (.iload 13, 2) := by decide +kernel
theorem dL_foretold_279 : decode cL_foretold 279 = .ok (.ifCond .eq 7, 3) := by decide +kernel
theorem dL_foretold_282 : decode cL_foretold 282 = .ok (.iconst 0, 1) := by decide +kernel
theorem dL_foretold_283 : decode cL_foretold 283 = .ok (.goto 4, 3) := by decide +kernel
theorem dL_foretold_286 : decode cL_foretold 286 = .ok (.iconst 1, 1) := by decide +kernel
theorem dL_foretold_287 : decode cL_foretold 287 = .ok (.iadd, 1) := by decide +kernel
theorem dL_foretold_288 : decode cL_foretold 288 = .ok (.if_icmp .ne 40, 3) := by decide +kernel
theorem dL_foretold_291 : decode cL_foretold 291 = .ok (.aload_n 0, 1) := by decide +kernel
theorem dL_foretold_292 : decode cL_foretold 292 = .ok (.bipush 11, 2) := by decide +kernel
theorem dL_foretold_294 : decode cL_foretold 294 = .ok (.invokevirtual 34, 3) := by decide +kernel
theorem dL_foretold_297 : decode cL_foretold 297 = .ok (.iload 15, 2) := by decide +kernel
theorem dL_foretold_299 : decode cL_foretold 299 = .ok (.iload 12, 2) := by decide +kernel
theorem dL_foretold_301 : decode cL_foretold 301 = .ok (.ifCond .ne 18, 3) := by decide +kernel
theorem dL_foretold_304 : decode cL_foretold 304 = .ok (.iload 13, 2) := by decide +kernel
theorem dL_foretold_306 : decode cL_foretold 306 = .ok (.ifCond .ne 13, 3) := by decide +kernel
theorem dL_foretold_309 : decode cL_foretold 309 = .ok (.iload 14, 2) := by decide +kernel
theorem dL_foretold_311 : decode cL_foretold 311 = .ok (.iconst 5, 1) := by decide +kernel
theorem dL_foretold_312 : decode cL_foretold 312 = .ok (.if_icmp .ge 7, 3) := by decide +kernel
theorem dL_foretold_315 : decode cL_foretold 315 = .ok (.iconst 1, 1) := by decide +kernel
theorem dL_foretold_316 : decode cL_foretold 316 = .ok (.goto 4, 3) := by decide +kernel
theorem dL_foretold_319 : decode cL_foretold 319 = .ok (.iconst 0, 1) := by decide +kernel
theorem dL_foretold_320 : decode cL_foretold 320 = .ok (.iadd, 1) := by decide +kernel
theorem dL_foretold_321 : decode cL_foretold 321 = .ok (.if_icmp .ne 7, 3) := by decide +kernel
theorem dL_foretold_324 : decode cL_foretold 324 = .ok (.iconst 1, 1) := by decide +kernel
theorem dL_foretold_325 : decode cL_foretold 325 = .ok (.goto 4, 3) := by decide +kernel
theorem dL_foretold_328 : decode cL_foretold 328 = .ok (.iconst 0, 1) := by decide +kernel
theorem dL_foretold_329 : decode cL_foretold 329 = .ok (.iand, 1) := by decide +kernel
theorem dL_foretold_330 : decode cL_foretold 330 = .ok (.istore 6, 2) := by decide +kernel
theorem dL_foretold_332 : decode cL_foretold 332 = .ok (.iconst 1, 1) := by decide +kernel
theorem dL_foretold_333 : decode cL_foretold 333 = .ok (.istore 16, 2) := by decide +kernel
theorem dL_foretold_335 : decode cL_foretold 335 = .ok (.iload 16, 2) := by decide +kernel
theorem dL_foretold_337 : decode cL_foretold 337 = .ok (.iload_n 2, 1) := by decide +kernel
theorem dL_foretold_338 : decode cL_foretold 338 = .ok (.if_icmp .ge 15, 3) := by decide +kernel
theorem dL_foretold_341 : decode cL_foretold 341 = .ok (.aload_n 0, 1) := by decide +kernel
theorem dL_foretold_342 : decode cL_foretold 342 = .ok (.invokevirtual 57, 3) := by decide +kernel
theorem dL_foretold_345 : decode cL_foretold 345 = .ok (.istore 17, 2) := by decide +kernel
theorem dL_foretold_347 : decode cL_foretold 347 = .ok (.iinc 16 1, 3) := by decide +kernel
theorem dL_foretold_350 : decode cL_foretold 350 = .ok (.goto (-15), 3) := by decide +kernel
theorem dL_foretold_353 : decode cL_foretold 353 = .ok (.iload 6, 2) := by decide +kernel
theorem dL_foretold_355 : decode cL_foretold 355 = .ok (.aload_n 0, 1) := by decide +kernel
theorem dL_foretold_356 : decode cL_foretold 356 = .ok (.iconst 2, 1) := by decide +kernel
theorem dL_foretold_357 : decode cL_foretold 357 = .ok (.invokevirtual 34, 3) := by decide +kernel
theorem dL_foretold_360 : decode cL_foretold 360 = .ok (.ifCond .ne 32, 3) := by decide +kernel
theorem dL_foretold_363 : decode cL_foretold 363 = .ok (.aload_n 0, 1) := by decide +kernel
theorem dL_foretold_364 : decode cL_foretold 364 = .ok (.iconst 4, 1) := by decide +kernel
theorem dL_foretold_365 : decode cL_foretold 365 = .ok (.invokevirtual 34, 3) := by decide +kernel
theorem dL_foretold_368 : decode cL_foretold 368 = .ok (.iload_n 3, 1) := by decide +kernel
theorem dL_foretold_369 : decode cL_foretold 369 = .ok (.iload 4, 2) := by decide +kernel
theorem dL_foretold_371 : decode cL_foretold 371 = .ok (.iadd, 1) := by decide +kernel
theorem dL_foretold_372 : decode cL_foretold 372 = .ok (.if_icmp .ne 20, 3) := by decide +kernel
theorem dL_foretold_375 : decode cL_foretold 375 = .ok (.aload_n 0, 1) := by decide +kernel
theorem dL_foretold_376 : decode cL_foretold 376 = .ok (.bipush 10, 2) := by decide +kernel
theorem dL_foretold_378 : decode cL_foretold 378 = .ok (.invokevirtual 34, 3) := by decide +kernel
theorem dL_foretold_381 : decode cL_foretold 381 = .ok (.iload 5, 2) := by decide +kernel
theorem dL_foretold_383 : decode cL_foretold 383 = .ok (.iload_n 2, 1) := by decide +kernel
theorem dL_foretold_384 : decode cL_foretold 384 = .ok (.iadd, 1) := by decide +kernel
theorem dL_foretold_385 : decode cL_foretold 385 = .ok (.if_icmp .ne 7, 3) := by decide +kernel
theorem dL_foretold_388 : decode cL_foretold 388 = .ok (.iconst 1, 1) := by decide +kernel
theorem dL_foretold_389 : decode cL_foretold 389 = .ok (.goto 4, 3) := by decide +kernel
theorem dL_foretold_392 : decode cL_foretold 392 = .ok (.iconst 0, 1) := by decide +kernel
theorem dL_foretold_393 : decode cL_foretold 393 = .ok (.iand, 1) := by decide +kernel
theorem dL_foretold_394 : decode cL_foretold 394 = .ok (.istore 6, 2) := by decide +kernel
theorem dL_foretold_396 : decode cL_foretold 396 = .ok (.aload_n 0, 1) := by decide +kernel
theorem dL_foretold_397 : decode cL_foretold 397 = .ok (.invokevirtual 167, 3) := by decide +kernel
theorem dL_foretold_400 : decode cL_foretold 400 = .ok (.iload_n 1, 1) := by decide +kernel
theorem dL_foretold_401 : decode cL_foretold 401 = .ok (.if_icmp .ne 12, 3) := by decide +kernel
theorem dL_foretold_404 : decode cL_foretold 404 = .ok (.iload 6, 2) := by decide +kernel
theorem dL_foretold_406 : decode cL_foretold 406 = .ok (.ifCond .eq 7, 3) := by decide +kernel
theorem dL_foretold_409 : decode cL_foretold 409 = .ok (.iconst 1, 1) := by decide +kernel
theorem dL_foretold_410 : decode cL_foretold 410 = .ok (.goto 4, 3) := by decide +kernel
theorem dL_foretold_413 : decode cL_foretold 413 = .ok (.iconst 0, 1) := by decide +kernel
theorem dL_foretold_414 : decode cL_foretold 414 = .ok (.ireturn, 1) := by decide +kernel
theorem dL_law_0 : decode cL_law 0 = .ok (.new 18, 3) := by decide +kernel
theorem dL_law_3 : decode cL_law 3 = .ok (.dup, 1) := by decide +kernel
theorem dL_law_4 : decode cL_law 4 = .ok (.invokespecial 170, 3) := by decide +kernel
theorem dL_law_7 : decode cL_law 7 = .ok (.astore_n 1, 1) := by decide +kernel
theorem dL_law_8 : decode cL_law 8 = .ok (.iconst 0, 1) := by decide +kernel
theorem dL_law_9 : decode cL_law 9 = .ok (.istore_n 2, 1) := by decide +kernel
theorem dL_law_10 : decode cL_law 10 = .ok (.aload_n 1, 1) := by decide +kernel
theorem dL_law_11 : decode cL_law 11 = .ok (.invokevirtual 171, 3) := by decide +kernel
theorem dL_law_14 : decode cL_law 14 = .ok (.sipush (-1015), 3) := by decide +kernel
theorem dL_law_17 : decode cL_law 17 = .ok (.if_icmp .ne 232, 3) := by decide +kernel
theorem dL_law_20 : decode cL_law 20 = .ok (.aload_n 1, 1) := by decide +kernel
theorem dL_law_21 : decode cL_law 21 = .ok (.invokevirtual 167, 3) := by decide +kernel
theorem dL_law_24 : decode cL_law 24 = .ok (.sipush (-1015), 3) := by decide +kernel
theorem dL_law_27 : decode cL_law 27 = .ok (.if_icmp .ne 222, 3) := by decide +kernel
theorem dL_law_30 : decode cL_law 30 = .ok (.aload_n 1, 1) := by decide +kernel
theorem dL_law_31 : decode cL_law 31 = .ok (.iconst 0, 1) := by decide +kernel
theorem dL_law_32 : decode cL_law 32 = .ok (.invokevirtual 163, 3) := by decide +kernel
theorem dL_law_35 : decode cL_law 35 = .ok (.sipush (-1015), 3) := by decide +kernel
theorem dL_law_38 : decode cL_law 38 = .ok (.if_icmp .ne 211, 3) := by decide +kernel
theorem dL_law_41 : decode cL_law 41 = .ok (.aload_n 1, 1) := by decide +kernel
theorem dL_law_42 : decode cL_law 42 = .ok (.invokevirtual 174, 3) := by decide +kernel
theorem dL_law_45 : decode cL_law 45 = .ok (.sipush (-2000), 3) := by decide +kernel
theorem dL_law_48 : decode cL_law 48 = .ok (.if_icmp .ne 201, 3) := by decide +kernel
theorem dL_law_51 : decode cL_law 51 = .ok (.aload_n 1, 1) := by decide +kernel
theorem dL_law_52 : decode cL_law 52 = .ok (.iconst 0, 1) := by decide +kernel
theorem dL_law_53 : decode cL_law 53 = .ok (.invokevirtual 74, 3) := by decide +kernel
theorem dL_law_56 : decode cL_law 56 = .ok (.sipush (-1011), 3) := by decide +kernel
theorem dL_law_59 : decode cL_law 59 = .ok (.if_icmp .ne 190, 3) := by decide +kernel
theorem dL_law_62 : decode cL_law 62 = .ok (.aload_n 1, 1) := by decide +kernel
theorem dL_law_63 : decode cL_law 63 = .ok (.bipush 10, 2) := by decide +kernel
theorem dL_law_65 : decode cL_law 65 = .ok (.invokevirtual 43, 3) := by decide +kernel
theorem dL_law_68 : decode cL_law 68 = .ok (.sipush (-1012), 3) := by decide +kernel
theorem dL_law_71 : decode cL_law 71 = .ok (.if_icmp .ne 178, 3) := by decide +kernel
theorem dL_law_74 : decode cL_law 74 = .ok (.aload_n 1, 1) := by decide +kernel
theorem dL_law_75 : decode cL_law 75 = .ok (.iconst 0, 1) := by decide +kernel
theorem dL_law_76 : decode cL_law 76 = .ok (.invokevirtual 46, 3) := by decide +kernel
theorem dL_law_79 : decode cL_law 79 = .ok (.sipush (-1012), 3) := by decide +kernel
theorem dL_law_82 : decode cL_law 82 = .ok (.if_icmp .ne 167, 3) := by decide +kernel
theorem dL_law_85 : decode cL_law 85 = .ok (.aload_n 1, 1) := by decide +kernel
theorem dL_law_86 : decode cL_law 86 = .ok (.iconst 0, 1) := by decide +kernel
theorem dL_law_87 : decode cL_law 87 = .ok (.iconst 0, 1) := by decide +kernel
theorem dL_law_88 : decode cL_law 88 = .ok (.iconst 1, 1) := by decide +kernel
theorem dL_law_89 : decode cL_law 89 = .ok (.invokevirtual 49, 3) := by decide +kernel
theorem dL_law_92 : decode cL_law 92 = .ok (.sipush (-1011), 3) := by decide +kernel
theorem dL_law_95 : decode cL_law 95 = .ok (.if_icmp .ne 154, 3) := by decide +kernel
theorem dL_law_98 : decode cL_law 98 = .ok (.aload_n 1, 1) := by decide +kernel
theorem dL_law_99 : decode cL_law 99 = .ok (.iconst 0, 1) := by decide +kernel
theorem dL_law_100 : decode cL_law 100 = .ok (.iconst 0, 1) := by decide +kernel
theorem dL_law_101 : decode cL_law 101 = .ok (.iconst 0, 1) := by decide +kernel
theorem dL_law_102 : decode cL_law 102 = .ok (.iconst 0, 1) := by decide +kernel
theorem dL_law_103 : decode cL_law 103 = .ok (.invokevirtual 53, 3) := by decide +kernel
theorem dL_law_106 : decode cL_law 106 = .ok (.sipush (-1011), 3) := by decide +kernel
theorem dL_law_109 : decode cL_law 109 = .ok (.if_icmp .ne 140, 3) := by decide +kernel
theorem dL_law_112 : decode cL_law 112 = .ok (.aload_n 1, 1) := by decide +kernel
theorem dL_law_113 : decode cL_law 113 = .ok (.invokevirtual 57, 3) := by decide +kernel
theorem dL_law_116 : decode cL_law 116 = .ok (.sipush (-1014), 3) := by decide +kernel
theorem dL_law_119 : decode cL_law 119 = .ok (.if_icmp .ne 130, 3) := by decide +kernel
theorem dL_law_122 : decode cL_law 122 = .ok (.aload_n 1, 1) := by decide +kernel
theorem dL_law_123 : decode cL_law 123 = .ok (.iconst 0, 1) := by decide +kernel
theorem dL_law_124 : decode cL_law 124 = .ok (.invokevirtual 163, 3) := by decide +kernel
theorem dL_law_127 : decode cL_law 127 = .ok (.bipush 11, 2) := by decide +kernel
theorem dL_law_129 : decode cL_law 129 = .ok (.if_icmp .ne 120, 3) := by decide +kernel
theorem dL_law_132 : decode cL_law 132 = .ok (.aload_n 1, 1) := by decide +kernel
theorem dL_law_133 : decode cL_law 133 = .ok (.iconst 1, 1) := by decide +kernel
theorem dL_law_134 : decode cL_law 134 = .ok (.invokevirtual 163, 3) := by decide +kernel
theorem dL_law_137 : decode cL_law 137 = .ok (.ifCond .ne 112, 3) := by decide +kernel
theorem dL_law_140 : decode cL_law 140 = .ok (.aload_n 1, 1) := by decide +kernel
theorem dL_law_141 : decode cL_law 141 = .ok (.iconst 0, 1) := by decide +kernel
theorem dL_law_142 : decode cL_law 142 = .ok (.iconst 0, 1) := by decide +kernel
theorem dL_law_143 : decode cL_law 143 = .ok (.invokevirtual 65, 3) := by decide +kernel
theorem dL_law_146 : decode cL_law 146 = .ok (.sipush (-1014), 3) := by decide +kernel
theorem dL_law_149 : decode cL_law 149 = .ok (.if_icmp .ne 100, 3) := by decide +kernel
theorem dL_law_152 : decode cL_law 152 = .ok (.aload_n 1, 1) := by decide +kernel
theorem dL_law_153 : decode cL_law 153 = .ok (.iconst 1, 1) := by decide +kernel
theorem dL_law_154 : decode cL_law 154 = .ok (.invokevirtual 163, 3) := by decide +kernel
theorem dL_law_157 : decode cL_law 157 = .ok (.ifCond .ne 92, 3) := by decide +kernel
theorem dL_law_160 : decode cL_law 160 = .ok (.aload_n 1, 1) := by decide +kernel
theorem dL_law_161 : decode cL_law 161 = .ok (.iconst 4, 1) := by decide +kernel
theorem dL_law_162 : decode cL_law 162 = .ok (.iconst 0, 1) := by decide +kernel
theorem dL_law_163 : decode cL_law 163 = .ok (.invokevirtual 65, 3) := by decide +kernel
theorem dL_law_166 : decode cL_law 166 = .ok (.sipush (-1011), 3) := by decide +kernel
theorem dL_law_169 : decode cL_law 169 = .ok (.if_icmp .ne 80, 3) := by decide +kernel
theorem dL_law_172 : decode cL_law 172 = .ok (.aload_n 1, 1) := by decide +kernel
theorem dL_law_173 : decode cL_law 173 = .ok (.iconst 0, 1) := by decide +kernel
theorem dL_law_174 : decode cL_law 174 = .ok (.invokevirtual 68, 3) := by decide +kernel
theorem dL_law_177 : decode cL_law 177 = .ok (.sipush (-1012), 3) := by decide +kernel
theorem dL_law_180 : decode cL_law 180 = .ok (.if_icmp .ne 69, 3) := by decide +kernel
theorem dL_law_183 : decode cL_law 183 = .ok (.aload_n 1, 1) := by decide +kernel
theorem dL_law_184 : decode cL_law 184 = .ok (.iconst 0, 1) := by decide +kernel
theorem dL_law_185 : decode cL_law 185 = .ok (.invokevirtual 62, 3) := by decide +kernel
theorem dL_law_188 : decode cL_law 188 = .ok (.sipush (-1011), 3) := by decide +kernel
theorem dL_law_191 : decode cL_law 191 = .ok (.if_icmp .ne 58, 3) := by decide +kernel
theorem dL_law_194 : decode cL_law 194 = .ok (.aload_n 1, 1) := by decide +kernel
theorem dL_law_195 : decode cL_law 195 = .ok (.invokevirtual 118, 3) := by decide +kernel
theorem dL_law_198 : decode cL_law 198 = .ok (.sipush (-1015), 3) := by decide +kernel
theorem dL_law_201 : decode cL_law 201 = .ok (.if_icmp .ne 48, 3) := by decide +kernel
theorem dL_law_204 : decode cL_law 204 = .ok (.aload_n 1, 1) := by decide +kernel
theorem dL_law_205 : decode cL_law 205 = .ok (.invokevirtual 160, 3) := by decide +kernel
theorem dL_law_208 : decode cL_law 208 = .ok (.ifCond .ne 41, 3) := by decide +kernel
theorem dL_law_211 : decode cL_law 211 = .ok (.aload_n 1, 1) := by decide +kernel
theorem dL_law_212 : decode cL_law 212 = .ok (.invokevirtual 124, 3) := by decide +kernel
theorem dL_law_215 : decode cL_law 215 = .ok (.dconst 0, 1) := by decide +kernel
theorem dL_law_216 : decode cL_law 216 = .ok (.dcmp .l, 1) := by decide +kernel
theorem dL_law_217 : decode cL_law 217 = .ok (.ifCond .ne 32, 3) := by decide +kernel
theorem dL_law_220 : decode cL_law 220 = .ok (.aload_n 1, 1) := by decide +kernel
theorem dL_law_221 : decode cL_law 221 = .ok (.invokevirtual 139, 3) := by decide +kernel
theorem dL_law_224 : decode cL_law 224 = .ok (.fconst 0, 1) := by decide +kernel
theorem dL_law_225 : decode cL_law 225 = .ok (.fcmp .l, 1) := by decide +kernel
theorem dL_law_226 : decode cL_law 226 = .ok (.ifCond .ne 23, 3) := by decide +kernel
theorem dL_law_229 : decode cL_law 229 = .ok (.aload_n 1, 1) := by decide +kernel
theorem dL_law_230 : decode cL_law 230 = .ok (.bipush 15, 2) := by decide +kernel
theorem dL_law_232 : decode cL_law 232 = .ok (.invokevirtual 34, 3) := by decide +kernel
theorem dL_law_235 : decode cL_law 235 = .ok (.sipush (-1012), 3) := by decide +kernel
theorem dL_law_238 : decode cL_law 238 = .ok (.if_icmp .ne 11, 3) := by decide +kernel
theorem dL_law_241 : decode cL_law 241 = .ok (.aload_n 1, 1) := by decide +kernel
theorem dL_law_242 : decode cL_law 242 = .ok (.invokevirtual 143, 3) := by decide +kernel
theorem dL_law_245 : decode cL_law 245 = .ok (.iconst 1, 1) := by decide +kernel
theorem dL_law_246 : decode cL_law 246 = .ok (.if_icmp .eq 5, 3) := by decide +kernel
theorem dL_law_249 : decode cL_law 249 = .ok (.iconst 0, 1) := by decide +kernel
theorem dL_law_250 : decode cL_law 250 = .ok (.ireturn, 1) := by decide +kernel
theorem dL_law_251 : decode cL_law 251 = .ok (.aload_n 1, 1) := by decide +kernel
theorem dL_law_252 : decode cL_law 252 = .ok (.invokestatic 177, 3) := by decide +kernel
theorem dL_law_255 : decode cL_law 255 = .ok (.istore_n 3, 1) := by decide +kernel
theorem dL_law_256 : decode cL_law 256 = .ok (.iconst 0, 1) := by decide +kernel
theorem dL_law_257 : decode cL_law 257 = .ok (.istore 4, 2) := by decide +kernel
theorem dL_law_259 : decode cL_law 259 = .ok (.iload 4, 2) := by decide +kernel
theorem dL_law_261 : decode cL_law 261 = .ok (.bipush 16, 2) := by decide +kernel
theorem dL_law_263 : decode cL_law 263 = .ok (.if_icmp .ge 246, 3) := by decide +kernel
theorem dL_law_266 : decode cL_law 266 = .ok (.aload_n 0, 1) := by decide +kernel
theorem dL_law_267 : decode cL_law 267 = .ok (.iload_n 2, 1) := by decide +kernel
theorem dL_law_268 : decode cL_law 268 = .ok (.invokestatic 181, 3) := by decide +kernel
theorem dL_law_271 : decode cL_law 271 = .ok (.sipush 255, 3) := by decide +kernel
theorem dL_law_274 : decode cL_law 274 = .ok (.iand, 1) := by decide +kernel
theorem dL_law_275 : decode cL_law 275 = .ok (.istore 5, 2) := by decide +kernel
theorem dL_law_277 : decode cL_law 277 = .ok (.new 24, 3) := by decide +kernel
theorem dL_law_280 : decode cL_law 280 = .ok (.dup, 1) := by decide +kernel
theorem dL_law_281 : decode cL_law 281 = .ok (.aload_n 0, 1) := by decide +kernel
theorem dL_law_282 : decode cL_law 282 = .ok (.iload_n 2, 1) := by decide +kernel
theorem dL_law_283 : decode cL_law 283 = .ok (.iconst 1, 1) := by decide +kernel
theorem dL_law_284 : decode cL_law 284 = .ok (.iadd, 1) := by decide +kernel
theorem dL_law_285 : decode cL_law 285 = .ok (.invokestatic 181, 3) := by decide +kernel
theorem dL_law_288 : decode cL_law 288 = .ok (.invokespecial 185, 3) := by decide +kernel
theorem dL_law_291 : decode cL_law 291 = .ok (.astore 6, 2) := by decide +kernel
theorem dL_law_293 : decode cL_law 293 = .ok (.iinc 2 2, 3) := by decide +kernel
theorem dL_law_296 : decode cL_law 296 = .ok (.aload_n 1, 1) := by decide +kernel
theorem dL_law_297 : decode cL_law 297 = .ok (.bipush 14, 2) := by decide +kernel
theorem dL_law_299 : decode cL_law 299 = .ok (.invokevirtual 34, 3) := by decide +kernel
theorem dL_law_302 : decode cL_law 302 = .ok (.istore 7, 2) := by decide +kernel
theorem dL_law_304 : decode cL_law 304 = .ok (.aload_n 1, 1) := by decide +kernel
theorem dL_law_305 : decode cL_law 305 = .ok (.invokestatic 188, 3) := by decide +kernel
theorem dL_law_308 : decode cL_law 308 = .ok (.astore 8, 2) := by decide +kernel
theorem dL_law_310 : decode cL_law 310 = .ok (.aload_n 1, 1) := by decide +kernel
theorem dL_law_311 : decode cL_law 311 = .ok (.iload 5, 2) := by decide +kernel
theorem dL_law_313 : decode cL_law 313 = .ok (.aload 6, 2) := by decide +kernel
theorem dL_law_315 : decode cL_law 315 = .ok (.invokestatic 191, 3) := by decide +kernel
theorem dL_law_318 : decode cL_law 318 = .ok (.istore 9, 2) := by decide +kernel
theorem dL_law_320 : decode cL_law 320 = .ok (.iload 9, 2) := by decide +kernel
theorem dL_law_322 : decode cL_law 322 = .ok (.sipush (-1011), 3) := by decide +kernel
theorem dL_law_325 : decode cL_law 325 = .ok (.if_icmp .gt 17, 3) := by decide +kernel
theorem dL_law_328 : decode cL_law 328 = .ok (.aload 8, 2) := by decide +kernel
theorem dL_law_330 : decode cL_law 330 = .ok (.aload_n 1, 1) := by decide +kernel
theorem dL_law_331 : decode cL_law 331 = .ok (.invokestatic 188, 3) := by decide +kernel
theorem dL_law_334 : decode cL_law 334 = .ok (.invokevirtual 135, 3) := by decide +kernel
theorem dL_law_337 : decode cL_law 337 = .ok (.ifCond .ne 5, 3) := by decide +kernel
theorem dL_law_340 : decode cL_law 340 = .ok (.iconst 0, 1) := by decide +kernel
theorem dL_law_341 : decode cL_law 341 = .ok (.ireturn, 1) := by decide +kernel
theorem dL_law_342 : decode cL_law 342 = .ok (.iload 9, 2) := by decide +kernel
theorem dL_law_344 : decode cL_law 344 = .ok (.sipush (-1011), 3) := by decide +kernel
theorem dL_law_347 : decode cL_law 347 = .ok (.if_icmp .gt 8, 3) := by decide +kernel
theorem dL_law_350 : decode cL_law 350 = .ok (.iload 7, 2) := by decide +kernel
theorem dL_law_352 : decode cL_law 352 = .ok (.goto 12, 3) := by decide +kernel
theorem dL_law_355 : decode cL_law 355 = .ok (.bipush 8, 2) := by decide +kernel
theorem dL_law_357 : decode cL_law 357 = .ok (.iload 7, 2) := by decide +kernel
theorem dL_law_359 : decode cL_law 359 = .ok (.iconst 1, 1) := by decide +kernel
theorem dL_law_360 : decode cL_law 360 = .ok (.iadd, 1) := by decide +kernel
theorem dL_law_361 : decode cL_law 361 = .ok (.invokestatic 195, 3) := by decide +kernel
theorem dL_law_364 : decode cL_law 364 = .ok (.istore 7, 2) := by decide +kernel
theorem dL_law_366 : decode cL_law 366 = .ok (.iload 9, 2) := by decide +kernel
theorem dL_law_368 : decode cL_law 368 = .ok (.sipush (-1011), 3) := by decide +kernel
theorem dL_law_371 : decode cL_law 371 = .ok (.if_icmp .le 38, 3) := by decide +kernel
theorem dL_law_374 : decode cL_law 374 = .ok (.aload 6, 2) := by decide +kernel
theorem dL_law_376 : decode cL_law 376 = .ok (.iconst 4, 1) := by decide +kernel
theorem dL_law_377 : decode cL_law 377 = .ok (.invokevirtual 23, 3) := by decide +kernel
theorem dL_law_380 : decode cL_law 380 = .ok (.ifCond .ne 29, 3) := by decide +kernel
theorem dL_law_383 : decode cL_law 383 = .ok (.iinc 7 (-1), 3) := by decide +kernel
theorem dL_law_386 : decode cL_law 386 = .ok (.aload_n 1, 1) := by decide +kernel
theorem dL_law_387 : decode cL_law 387 = .ok (.invokevirtual 171, 3) := by decide +kernel
theorem dL_law_390 : decode cL_law 390 = .ok (.iload 7, 2) := by decide +kernel
theorem dL_law_392 : decode cL_law 392 = .ok (.if_icmp .ne 15, 3) := by decide +kernel
theorem dL_law_395 : decode cL_law 395 = .ok (.aload 8, 2) := by decide +kernel
theorem dL_law_397 : decode cL_law 397 = .ok (.aload_n 1, 1) := by decide +kernel
theorem dL_law_398 : decode cL_law 398 = .ok (.invokestatic 188, 3) := by decide +kernel
theorem dL_law_401 : decode cL_law 401 = .ok (.invokevirtual 135, 3) := by decide +kernel
theorem dL_law_404 : decode cL_law 404 = .ok (.ifCond .ne 5, 3) := by decide +kernel
theorem dL_law_407 : decode cL_law 407 = .ok (.iconst 0, 1) := by decide +kernel
theorem dL_law_408 : decode cL_law 408 = .ok (.ireturn, 1) := by decide +kernel
theorem dL_law_409 : decode cL_law 409 = .ok (.aload_n 1, 1) := by decide +kernel
theorem dL_law_410 : decode cL_law 410 = .ok (.bipush 14, 2) := by decide +kernel
theorem dL_law_412 : decode cL_law 412 = .ok (.invokevirtual 34, 3) := by decide +kernel
theorem dL_law_415 : decode cL_law 415 = .ok (.iload 7, 2) := by decide +kernel
theorem dL_law_417 : decode cL_law 417 = .ok (.if_icmp .ne 40, 3) := by decide +kernel
theorem dL_law_420 : decode cL_law 420 = .ok (.aload_n 1, 1) := by decide +kernel
theorem dL_law_421 : decode cL_law 421 = .ok (.bipush 13, 2) := by decide +kernel
theorem dL_law_423 : decode cL_law 423 = .ok (.invokevirtual 34, 3) := by decide +kernel
theorem dL_law_426 : decode cL_law 426 = .ok (.ifCond .ne 31, 3) := by decide +kernel
theorem dL_law_429 : decode cL_law 429 = .ok (.aload_n 1, 1) := by decide +kernel
theorem dL_law_430 : decode cL_law 430 = .ok (.invokestatic 198, 3) := by decide +kernel
theorem dL_law_433 : decode cL_law 433 = .ok (.ifCond .eq 24, 3) := by decide +kernel
theorem dL_law_436 : decode cL_law 436 = .ok (.aload_n 1, 1) := by decide +kernel
theorem dL_law_437 : decode cL_law 437 = .ok (.invokestatic 202, 3) := by decide +kernel
theorem dL_law_440 : decode cL_law 440 = .ok (.ifCond .eq 17, 3) := by decide +kernel
theorem dL_law_443 : decode cL_law 443 = .ok (.aload_n 1, 1) := by decide +kernel
theorem dL_law_444 : decode cL_law 444 = .ok (.invokestatic 205, 3) := by decide +kernel
theorem dL_law_447 : decode cL_law 447 = .ok (.ifCond .eq 10, 3) := by decide +kernel
theorem dL_law_450 : decode cL_law 450 = .ok (.aload_n 1, 1) := by decide +kernel
theorem dL_law_451 : decode cL_law 451 = .ok (.invokestatic 208, 3) := by decide +kernel
theorem dL_law_454 : decode cL_law 454 = .ok (.ifCond .ne 5, 3) := by decide +kernel
theorem dL_law_457 : decode cL_law 457 = .ok (.iconst 0, 1) := by decide +kernel
theorem dL_law_458 : decode cL_law 458 = .ok (.ireturn, 1) := by decide +kernel
theorem dL_law_459 : decode cL_law 459 = .ok (.iload 4, 2) := by decide +kernel
theorem dL_law_461 : decode cL_law 461 = .ok (.iconst 3, 1) := by decide +kernel
theorem dL_law_462 : decode cL_law 462 = .ok (.irem, 1) := by decide +kernel
theorem dL_law_463 : decode cL_law 463 = .ok (.iconst 2, 1) := by decide +kernel
theorem dL_law_464 : decode cL_law 464 = .ok (.if_icmp .ne 39, 3) := by decide +kernel
theorem dL_law_467 : decode cL_law 467 = .ok (.aload_n 1, 1) := by decide +kernel
theorem dL_law_468 : decode cL_law 468 = .ok (.invokestatic 188, 3) := by decide +kernel
theorem dL_law_471 : decode cL_law 471 = .ok (.astore 8, 2) := by decide +kernel
theorem dL_law_473 : decode cL_law 473 = .ok (.aload_n 1, 1) := by decide +kernel
theorem dL_law_474 : decode cL_law 474 = .ok (.invokestatic 211, 3) := by decide +kernel
theorem dL_law_477 : decode cL_law 477 = .ok (.ifCond .eq 24, 3) := by decide +kernel
theorem dL_law_480 : decode cL_law 480 = .ok (.aload 8, 2) := by decide +kernel
theorem dL_law_482 : decode cL_law 482 = .ok (.aload_n 1, 1) := by decide +kernel
theorem dL_law_483 : decode cL_law 483 = .ok (.invokestatic 188, 3) := by decide +kernel
theorem dL_law_486 : decode cL_law 486 = .ok (.invokevirtual 135, 3) := by decide +kernel
theorem dL_law_489 : decode cL_law 489 = .ok (.ifCond .eq 12, 3) := by decide +kernel
theorem dL_law_492 : decode cL_law 492 = .ok (.aload_n 1, 1) := by decide +kernel
theorem dL_law_493 : decode cL_law 493 = .ok (.bipush 14, 2) := by decide +kernel
theorem dL_law_495 : decode cL_law 495 = .ok (.invokevirtual 34, 3) := by decide +kernel
theorem dL_law_498 : decode cL_law 498 = .ok (.ifCond .eq 5, 3) := by decide +kernel
theorem dL_law_501 : decode cL_law 501 = .ok (.iconst 0, 1) := by decide +kernel
theorem dL_law_502 : decode cL_law 502 = .ok (.ireturn, 1) := by decide +kernel
theorem dL_law_503 : decode cL_law 503 = .ok (.iinc 4 1, 3) := by decide +kernel
theorem dL_law_506 : decode cL_law 506 = .ok (.goto (-247), 3) := by decide +kernel
theorem dL_law_509 : decode cL_law 509 = .ok (.iload_n 3, 1) := by decide +kernel
theorem dL_law_510 : decode cL_law 510 = .ok (.ifCond .le 7, 3) := by decide +kernel
theorem dL_law_513 : decode cL_law 513 = .ok (.iconst 1, 1) := by decide +kernel
theorem dL_law_514 : decode cL_law 514 = .ok (.goto 4, 3) := by decide +kernel
theorem dL_law_517 : decode cL_law 517 = .ok (.iconst 0, 1) := by decide +kernel
theorem dL_law_518 : decode cL_law 518 = .ok (.ireturn, 1) := by decide +kernel
