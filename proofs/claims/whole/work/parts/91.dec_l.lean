set_option maxRecDepth 100000 in
theorem d_L_law_0 : Dc m_L_law 0 (.new 7) 3 3 := ⟨by decide +kernel, rfl⟩
set_option maxRecDepth 100000 in
theorem d_L_law_3 : Dc m_L_law 3 .dup 1 4 := ⟨by decide +kernel, rfl⟩
set_option maxRecDepth 100000 in
theorem d_L_law_4 : Dc m_L_law 4 (.invokespecial 9) 3 7 := ⟨by decide +kernel, rfl⟩
set_option maxRecDepth 100000 in
theorem d_L_law_7 : Dc m_L_law 7 (.astore_n 1) 1 8 := ⟨by decide +kernel, rfl⟩
set_option maxRecDepth 100000 in
theorem d_L_law_8 : Dc m_L_law 8 (.new 10) 3 11 := ⟨by decide +kernel, rfl⟩
set_option maxRecDepth 100000 in
theorem d_L_law_11 : Dc m_L_law 11 .dup 1 12 := ⟨by decide +kernel, rfl⟩
set_option maxRecDepth 100000 in
theorem d_L_law_12 : Dc m_L_law 12 (.invokespecial 12) 3 15 := ⟨by decide +kernel, rfl⟩
set_option maxRecDepth 100000 in
theorem d_L_law_15 : Dc m_L_law 15 (.astore_n 2) 1 16 := ⟨by decide +kernel, rfl⟩
set_option maxRecDepth 100000 in
theorem d_L_law_16 : Dc m_L_law 16 (.iconst 0) 1 17 := ⟨by decide +kernel, rfl⟩
set_option maxRecDepth 100000 in
theorem d_L_law_17 : Dc m_L_law 17 (.istore_n 3) 1 18 := ⟨by decide +kernel, rfl⟩
set_option maxRecDepth 100000 in
theorem d_L_law_18 : Dc m_L_law 18 (.iload_n 3) 1 19 := ⟨by decide +kernel, rfl⟩
set_option maxRecDepth 100000 in
theorem d_L_law_19 : Dc m_L_law 19 (.aload_n 0) 1 20 := ⟨by decide +kernel, rfl⟩
set_option maxRecDepth 100000 in
theorem d_L_law_20 : Dc m_L_law 20 .arraylength 1 21 := ⟨by decide +kernel, rfl⟩
set_option maxRecDepth 100000 in
theorem d_L_law_21 : Dc m_L_law 21 (.bipush (6)) 2 23 := ⟨by decide +kernel, rfl⟩
set_option maxRecDepth 100000 in
theorem d_L_law_23 : Dc m_L_law 23 .isub 1 24 := ⟨by decide +kernel, rfl⟩
set_option maxRecDepth 100000 in
theorem d_L_law_24 : Dj m_L_law 24 (.if_icmp .gt) 27 1745 := ⟨1721, by decide +kernel, rfl, by decide⟩
set_option maxRecDepth 100000 in
theorem d_L_law_27 : Dc m_L_law 27 (.aload_n 0) 1 28 := ⟨by decide +kernel, rfl⟩
set_option maxRecDepth 100000 in
theorem d_L_law_28 : Dc m_L_law 28 (.iload_n 3) 1 29 := ⟨by decide +kernel, rfl⟩
set_option maxRecDepth 100000 in
theorem d_L_law_29 : Dc m_L_law 29 .iaload 1 30 := ⟨by decide +kernel, rfl⟩
set_option maxRecDepth 100000 in
theorem d_L_law_30 : Dc m_L_law 30 (.bipush (63)) 2 32 := ⟨by decide +kernel, rfl⟩
set_option maxRecDepth 100000 in
theorem d_L_law_32 : Dc m_L_law 32 .iand 1 33 := ⟨by decide +kernel, rfl⟩
set_option maxRecDepth 100000 in
theorem d_L_law_33 : Ts m_L_law 33 [(0, 224), (1, 287), (2, 300), (3, 333), (4, 366), (5, 399), (6, 432), (7, 456), (8, 499), (9, 542), (10, 585), (11, 618), (12, 631), (13, 674), (14, 727), (15, 770), (16, 803), (17, 826), (18, 849), (19, 883), (20, 927), (21, 960), (22, 1013), (23, 1056), (24, 1079), (25, 1122), (26, 1145), (27, 1178), (28, 1201), (29, 1234), (30, 1257), (31, 1290), (32, 1333), (33, 1356), (34, 1419), (35, 1462), (36, 1505), (37, 1548), (38, 1591), (39, 1624), (40, 1667), (41, 1690), (42, 1713), (43, 1726)] 1739 := ⟨1706, 0, 43, [191, 254, 267, 300, 333, 366, 399, 423, 466, 509, 552, 585, 598, 641, 694, 737, 770, 793, 816, 850, 894, 927, 980, 1023, 1046, 1089, 1112, 1145, 1168, 1201, 1224, 1257, 1300, 1323, 1386, 1429, 1472, 1515, 1558, 1591, 1634, 1657, 1680, 1693], 191, by decide +kernel, by decide, by decide +kernel⟩
set_option maxRecDepth 100000 in
theorem d_L_law_224 : Dc m_L_law 224 (.aload_n 1) 1 225 := ⟨by decide +kernel, rfl⟩
set_option maxRecDepth 100000 in
theorem d_L_law_225 : Dc m_L_law 225 (.aload_n 0) 1 226 := ⟨by decide +kernel, rfl⟩
set_option maxRecDepth 100000 in
theorem d_L_law_226 : Dc m_L_law 226 (.iload_n 3) 1 227 := ⟨by decide +kernel, rfl⟩
set_option maxRecDepth 100000 in
theorem d_L_law_227 : Dc m_L_law 227 (.iconst 1) 1 228 := ⟨by decide +kernel, rfl⟩
set_option maxRecDepth 100000 in
theorem d_L_law_228 : Dc m_L_law 228 .iadd 1 229 := ⟨by decide +kernel, rfl⟩
set_option maxRecDepth 100000 in
theorem d_L_law_229 : Dc m_L_law 229 .iaload 1 230 := ⟨by decide +kernel, rfl⟩
set_option maxRecDepth 100000 in
theorem d_L_law_230 : Dc m_L_law 230 .i2l 1 231 := ⟨by decide +kernel, rfl⟩
set_option maxRecDepth 100000 in
theorem d_L_law_231 : Dc m_L_law 231 (.bipush (32)) 2 233 := ⟨by decide +kernel, rfl⟩
set_option maxRecDepth 100000 in
theorem d_L_law_233 : Dc m_L_law 233 .lshl 1 234 := ⟨by decide +kernel, rfl⟩
set_option maxRecDepth 100000 in
theorem d_L_law_234 : Dc m_L_law 234 (.aload_n 0) 1 235 := ⟨by decide +kernel, rfl⟩
set_option maxRecDepth 100000 in
theorem d_L_law_235 : Dc m_L_law 235 (.iload_n 3) 1 236 := ⟨by decide +kernel, rfl⟩
set_option maxRecDepth 100000 in
theorem d_L_law_236 : Dc m_L_law 236 (.iconst 2) 1 237 := ⟨by decide +kernel, rfl⟩
set_option maxRecDepth 100000 in
theorem d_L_law_237 : Dc m_L_law 237 .iadd 1 238 := ⟨by decide +kernel, rfl⟩
set_option maxRecDepth 100000 in
theorem d_L_law_238 : Dc m_L_law 238 .iaload 1 239 := ⟨by decide +kernel, rfl⟩
set_option maxRecDepth 100000 in
theorem d_L_law_239 : Dc m_L_law 239 .i2l 1 240 := ⟨by decide +kernel, rfl⟩
set_option maxRecDepth 100000 in
theorem d_L_law_240 : Dc m_L_law 240 (.ldc2_w 13) 3 243 := ⟨by decide +kernel, rfl⟩
set_option maxRecDepth 100000 in
theorem d_L_law_243 : Dc m_L_law 243 .land 1 244 := ⟨by decide +kernel, rfl⟩
set_option maxRecDepth 100000 in
theorem d_L_law_244 : Dc m_L_law 244 .lor 1 245 := ⟨by decide +kernel, rfl⟩
set_option maxRecDepth 100000 in
theorem d_L_law_245 : Dc m_L_law 245 (.aload_n 0) 1 246 := ⟨by decide +kernel, rfl⟩
set_option maxRecDepth 100000 in
theorem d_L_law_246 : Dc m_L_law 246 (.iload_n 3) 1 247 := ⟨by decide +kernel, rfl⟩
set_option maxRecDepth 100000 in
theorem d_L_law_247 : Dc m_L_law 247 (.iconst 3) 1 248 := ⟨by decide +kernel, rfl⟩
set_option maxRecDepth 100000 in
theorem d_L_law_248 : Dc m_L_law 248 .iadd 1 249 := ⟨by decide +kernel, rfl⟩
set_option maxRecDepth 100000 in
theorem d_L_law_249 : Dc m_L_law 249 .iaload 1 250 := ⟨by decide +kernel, rfl⟩
set_option maxRecDepth 100000 in
theorem d_L_law_250 : Dc m_L_law 250 (.invokevirtual 15) 3 253 := ⟨by decide +kernel, rfl⟩
set_option maxRecDepth 100000 in
theorem d_L_law_253 : Dc m_L_law 253 (.aload_n 2) 1 254 := ⟨by decide +kernel, rfl⟩
set_option maxRecDepth 100000 in
theorem d_L_law_254 : Dc m_L_law 254 (.aload_n 0) 1 255 := ⟨by decide +kernel, rfl⟩
set_option maxRecDepth 100000 in
theorem d_L_law_255 : Dc m_L_law 255 (.iload_n 3) 1 256 := ⟨by decide +kernel, rfl⟩
set_option maxRecDepth 100000 in
theorem d_L_law_256 : Dc m_L_law 256 (.iconst 1) 1 257 := ⟨by decide +kernel, rfl⟩
set_option maxRecDepth 100000 in
theorem d_L_law_257 : Dc m_L_law 257 .iadd 1 258 := ⟨by decide +kernel, rfl⟩
set_option maxRecDepth 100000 in
theorem d_L_law_258 : Dc m_L_law 258 .iaload 1 259 := ⟨by decide +kernel, rfl⟩
set_option maxRecDepth 100000 in
theorem d_L_law_259 : Dc m_L_law 259 .i2l 1 260 := ⟨by decide +kernel, rfl⟩
set_option maxRecDepth 100000 in
theorem d_L_law_260 : Dc m_L_law 260 (.bipush (32)) 2 262 := ⟨by decide +kernel, rfl⟩
set_option maxRecDepth 100000 in
theorem d_L_law_262 : Dc m_L_law 262 .lshl 1 263 := ⟨by decide +kernel, rfl⟩
set_option maxRecDepth 100000 in
theorem d_L_law_263 : Dc m_L_law 263 (.aload_n 0) 1 264 := ⟨by decide +kernel, rfl⟩
set_option maxRecDepth 100000 in
theorem d_L_law_264 : Dc m_L_law 264 (.iload_n 3) 1 265 := ⟨by decide +kernel, rfl⟩
set_option maxRecDepth 100000 in
theorem d_L_law_265 : Dc m_L_law 265 (.iconst 2) 1 266 := ⟨by decide +kernel, rfl⟩
set_option maxRecDepth 100000 in
theorem d_L_law_266 : Dc m_L_law 266 .iadd 1 267 := ⟨by decide +kernel, rfl⟩
set_option maxRecDepth 100000 in
theorem d_L_law_267 : Dc m_L_law 267 .iaload 1 268 := ⟨by decide +kernel, rfl⟩
set_option maxRecDepth 100000 in
theorem d_L_law_268 : Dc m_L_law 268 .i2l 1 269 := ⟨by decide +kernel, rfl⟩
set_option maxRecDepth 100000 in
theorem d_L_law_269 : Dc m_L_law 269 (.ldc2_w 13) 3 272 := ⟨by decide +kernel, rfl⟩
set_option maxRecDepth 100000 in
theorem d_L_law_272 : Dc m_L_law 272 .land 1 273 := ⟨by decide +kernel, rfl⟩
set_option maxRecDepth 100000 in
theorem d_L_law_273 : Dc m_L_law 273 .lor 1 274 := ⟨by decide +kernel, rfl⟩
set_option maxRecDepth 100000 in
theorem d_L_law_274 : Dc m_L_law 274 (.aload_n 0) 1 275 := ⟨by decide +kernel, rfl⟩
set_option maxRecDepth 100000 in
theorem d_L_law_275 : Dc m_L_law 275 (.iload_n 3) 1 276 := ⟨by decide +kernel, rfl⟩
set_option maxRecDepth 100000 in
theorem d_L_law_276 : Dc m_L_law 276 (.iconst 3) 1 277 := ⟨by decide +kernel, rfl⟩
set_option maxRecDepth 100000 in
theorem d_L_law_277 : Dc m_L_law 277 .iadd 1 278 := ⟨by decide +kernel, rfl⟩
set_option maxRecDepth 100000 in
theorem d_L_law_278 : Dc m_L_law 278 .iaload 1 279 := ⟨by decide +kernel, rfl⟩
set_option maxRecDepth 100000 in
theorem d_L_law_279 : Dc m_L_law 279 (.invokevirtual 19) 3 282 := ⟨by decide +kernel, rfl⟩
set_option maxRecDepth 100000 in
theorem d_L_law_282 : Dj m_L_law 282 (.if_icmp .eq) 285 1739 := ⟨1457, by decide +kernel, rfl, by decide⟩
set_option maxRecDepth 100000 in
theorem d_L_law_285 : Dc m_L_law 285 (.iconst 0) 1 286 := ⟨by decide +kernel, rfl⟩
set_option maxRecDepth 100000 in
theorem d_L_law_286 : Dc m_L_law 286 .ireturn 1 287 := ⟨by decide +kernel, rfl⟩
set_option maxRecDepth 100000 in
theorem d_L_law_287 : Dc m_L_law 287 (.aload_n 1) 1 288 := ⟨by decide +kernel, rfl⟩
set_option maxRecDepth 100000 in
theorem d_L_law_288 : Dc m_L_law 288 (.invokevirtual 20) 3 291 := ⟨by decide +kernel, rfl⟩
set_option maxRecDepth 100000 in
theorem d_L_law_291 : Dc m_L_law 291 (.aload_n 2) 1 292 := ⟨by decide +kernel, rfl⟩
set_option maxRecDepth 100000 in
theorem d_L_law_292 : Dc m_L_law 292 (.invokevirtual 24) 3 295 := ⟨by decide +kernel, rfl⟩
set_option maxRecDepth 100000 in
theorem d_L_law_295 : Dj m_L_law 295 (.if_icmp .eq) 298 1739 := ⟨1444, by decide +kernel, rfl, by decide⟩
set_option maxRecDepth 100000 in
theorem d_L_law_298 : Dc m_L_law 298 (.iconst 0) 1 299 := ⟨by decide +kernel, rfl⟩
set_option maxRecDepth 100000 in
theorem d_L_law_299 : Dc m_L_law 299 .ireturn 1 300 := ⟨by decide +kernel, rfl⟩
set_option maxRecDepth 100000 in
theorem d_L_law_300 : Dc m_L_law 300 (.aload_n 1) 1 301 := ⟨by decide +kernel, rfl⟩
set_option maxRecDepth 100000 in
theorem d_L_law_301 : Dc m_L_law 301 (.aload_n 0) 1 302 := ⟨by decide +kernel, rfl⟩
set_option maxRecDepth 100000 in
theorem d_L_law_302 : Dc m_L_law 302 (.iload_n 3) 1 303 := ⟨by decide +kernel, rfl⟩
set_option maxRecDepth 100000 in
theorem d_L_law_303 : Dc m_L_law 303 (.iconst 1) 1 304 := ⟨by decide +kernel, rfl⟩
set_option maxRecDepth 100000 in
theorem d_L_law_304 : Dc m_L_law 304 .iadd 1 305 := ⟨by decide +kernel, rfl⟩
set_option maxRecDepth 100000 in
theorem d_L_law_305 : Dc m_L_law 305 .iaload 1 306 := ⟨by decide +kernel, rfl⟩
set_option maxRecDepth 100000 in
theorem d_L_law_306 : Dc m_L_law 306 (.aload_n 0) 1 307 := ⟨by decide +kernel, rfl⟩
set_option maxRecDepth 100000 in
theorem d_L_law_307 : Dc m_L_law 307 (.iload_n 3) 1 308 := ⟨by decide +kernel, rfl⟩
set_option maxRecDepth 100000 in
theorem d_L_law_308 : Dc m_L_law 308 (.iconst 2) 1 309 := ⟨by decide +kernel, rfl⟩
set_option maxRecDepth 100000 in
theorem d_L_law_309 : Dc m_L_law 309 .iadd 1 310 := ⟨by decide +kernel, rfl⟩
set_option maxRecDepth 100000 in
theorem d_L_law_310 : Dc m_L_law 310 .iaload 1 311 := ⟨by decide +kernel, rfl⟩
set_option maxRecDepth 100000 in
theorem d_L_law_311 : Dc m_L_law 311 (.invokevirtual 25) 3 314 := ⟨by decide +kernel, rfl⟩
set_option maxRecDepth 100000 in
theorem d_L_law_314 : Dc m_L_law 314 (.aload_n 2) 1 315 := ⟨by decide +kernel, rfl⟩
set_option maxRecDepth 100000 in
theorem d_L_law_315 : Dc m_L_law 315 (.aload_n 0) 1 316 := ⟨by decide +kernel, rfl⟩
set_option maxRecDepth 100000 in
theorem d_L_law_316 : Dc m_L_law 316 (.iload_n 3) 1 317 := ⟨by decide +kernel, rfl⟩
set_option maxRecDepth 100000 in
theorem d_L_law_317 : Dc m_L_law 317 (.iconst 1) 1 318 := ⟨by decide +kernel, rfl⟩
set_option maxRecDepth 100000 in
theorem d_L_law_318 : Dc m_L_law 318 .iadd 1 319 := ⟨by decide +kernel, rfl⟩
set_option maxRecDepth 100000 in
theorem d_L_law_319 : Dc m_L_law 319 .iaload 1 320 := ⟨by decide +kernel, rfl⟩
set_option maxRecDepth 100000 in
theorem d_L_law_320 : Dc m_L_law 320 (.aload_n 0) 1 321 := ⟨by decide +kernel, rfl⟩
set_option maxRecDepth 100000 in
theorem d_L_law_321 : Dc m_L_law 321 (.iload_n 3) 1 322 := ⟨by decide +kernel, rfl⟩
set_option maxRecDepth 100000 in
theorem d_L_law_322 : Dc m_L_law 322 (.iconst 2) 1 323 := ⟨by decide +kernel, rfl⟩
set_option maxRecDepth 100000 in
theorem d_L_law_323 : Dc m_L_law 323 .iadd 1 324 := ⟨by decide +kernel, rfl⟩
set_option maxRecDepth 100000 in
theorem d_L_law_324 : Dc m_L_law 324 .iaload 1 325 := ⟨by decide +kernel, rfl⟩
set_option maxRecDepth 100000 in
theorem d_L_law_325 : Dc m_L_law 325 (.invokevirtual 29) 3 328 := ⟨by decide +kernel, rfl⟩
set_option maxRecDepth 100000 in
theorem d_L_law_328 : Dj m_L_law 328 (.if_icmp .eq) 331 1739 := ⟨1411, by decide +kernel, rfl, by decide⟩
set_option maxRecDepth 100000 in
theorem d_L_law_331 : Dc m_L_law 331 (.iconst 0) 1 332 := ⟨by decide +kernel, rfl⟩
set_option maxRecDepth 100000 in
theorem d_L_law_332 : Dc m_L_law 332 .ireturn 1 333 := ⟨by decide +kernel, rfl⟩
set_option maxRecDepth 100000 in
theorem d_L_law_333 : Dc m_L_law 333 (.aload_n 1) 1 334 := ⟨by decide +kernel, rfl⟩
set_option maxRecDepth 100000 in
theorem d_L_law_334 : Dc m_L_law 334 (.aload_n 0) 1 335 := ⟨by decide +kernel, rfl⟩
set_option maxRecDepth 100000 in
theorem d_L_law_335 : Dc m_L_law 335 (.iload_n 3) 1 336 := ⟨by decide +kernel, rfl⟩
set_option maxRecDepth 100000 in
theorem d_L_law_336 : Dc m_L_law 336 (.iconst 1) 1 337 := ⟨by decide +kernel, rfl⟩
set_option maxRecDepth 100000 in
theorem d_L_law_337 : Dc m_L_law 337 .iadd 1 338 := ⟨by decide +kernel, rfl⟩
set_option maxRecDepth 100000 in
theorem d_L_law_338 : Dc m_L_law 338 .iaload 1 339 := ⟨by decide +kernel, rfl⟩
set_option maxRecDepth 100000 in
theorem d_L_law_339 : Dc m_L_law 339 (.aload_n 0) 1 340 := ⟨by decide +kernel, rfl⟩
set_option maxRecDepth 100000 in
theorem d_L_law_340 : Dc m_L_law 340 (.iload_n 3) 1 341 := ⟨by decide +kernel, rfl⟩
set_option maxRecDepth 100000 in
theorem d_L_law_341 : Dc m_L_law 341 (.iconst 2) 1 342 := ⟨by decide +kernel, rfl⟩
set_option maxRecDepth 100000 in
theorem d_L_law_342 : Dc m_L_law 342 .iadd 1 343 := ⟨by decide +kernel, rfl⟩
set_option maxRecDepth 100000 in
theorem d_L_law_343 : Dc m_L_law 343 .iaload 1 344 := ⟨by decide +kernel, rfl⟩
set_option maxRecDepth 100000 in
theorem d_L_law_344 : Dc m_L_law 344 (.invokevirtual 30) 3 347 := ⟨by decide +kernel, rfl⟩
set_option maxRecDepth 100000 in
theorem d_L_law_347 : Dc m_L_law 347 (.aload_n 2) 1 348 := ⟨by decide +kernel, rfl⟩
set_option maxRecDepth 100000 in
theorem d_L_law_348 : Dc m_L_law 348 (.aload_n 0) 1 349 := ⟨by decide +kernel, rfl⟩
set_option maxRecDepth 100000 in
theorem d_L_law_349 : Dc m_L_law 349 (.iload_n 3) 1 350 := ⟨by decide +kernel, rfl⟩
set_option maxRecDepth 100000 in
theorem d_L_law_350 : Dc m_L_law 350 (.iconst 1) 1 351 := ⟨by decide +kernel, rfl⟩
set_option maxRecDepth 100000 in
theorem d_L_law_351 : Dc m_L_law 351 .iadd 1 352 := ⟨by decide +kernel, rfl⟩
set_option maxRecDepth 100000 in
theorem d_L_law_352 : Dc m_L_law 352 .iaload 1 353 := ⟨by decide +kernel, rfl⟩
set_option maxRecDepth 100000 in
theorem d_L_law_353 : Dc m_L_law 353 (.aload_n 0) 1 354 := ⟨by decide +kernel, rfl⟩
set_option maxRecDepth 100000 in
theorem d_L_law_354 : Dc m_L_law 354 (.iload_n 3) 1 355 := ⟨by decide +kernel, rfl⟩
set_option maxRecDepth 100000 in
theorem d_L_law_355 : Dc m_L_law 355 (.iconst 2) 1 356 := ⟨by decide +kernel, rfl⟩
set_option maxRecDepth 100000 in
theorem d_L_law_356 : Dc m_L_law 356 .iadd 1 357 := ⟨by decide +kernel, rfl⟩
set_option maxRecDepth 100000 in
theorem d_L_law_357 : Dc m_L_law 357 .iaload 1 358 := ⟨by decide +kernel, rfl⟩
set_option maxRecDepth 100000 in
theorem d_L_law_358 : Dc m_L_law 358 (.invokevirtual 33) 3 361 := ⟨by decide +kernel, rfl⟩
set_option maxRecDepth 100000 in
theorem d_L_law_361 : Dj m_L_law 361 (.if_icmp .eq) 364 1739 := ⟨1378, by decide +kernel, rfl, by decide⟩
set_option maxRecDepth 100000 in
theorem d_L_law_364 : Dc m_L_law 364 (.iconst 0) 1 365 := ⟨by decide +kernel, rfl⟩
set_option maxRecDepth 100000 in
theorem d_L_law_365 : Dc m_L_law 365 .ireturn 1 366 := ⟨by decide +kernel, rfl⟩
set_option maxRecDepth 100000 in
theorem d_L_law_366 : Dc m_L_law 366 (.aload_n 1) 1 367 := ⟨by decide +kernel, rfl⟩
set_option maxRecDepth 100000 in
theorem d_L_law_367 : Dc m_L_law 367 (.aload_n 0) 1 368 := ⟨by decide +kernel, rfl⟩
set_option maxRecDepth 100000 in
theorem d_L_law_368 : Dc m_L_law 368 (.iload_n 3) 1 369 := ⟨by decide +kernel, rfl⟩
set_option maxRecDepth 100000 in
theorem d_L_law_369 : Dc m_L_law 369 (.iconst 1) 1 370 := ⟨by decide +kernel, rfl⟩
set_option maxRecDepth 100000 in
theorem d_L_law_370 : Dc m_L_law 370 .iadd 1 371 := ⟨by decide +kernel, rfl⟩
set_option maxRecDepth 100000 in
theorem d_L_law_371 : Dc m_L_law 371 .iaload 1 372 := ⟨by decide +kernel, rfl⟩
set_option maxRecDepth 100000 in
theorem d_L_law_372 : Dc m_L_law 372 (.aload_n 0) 1 373 := ⟨by decide +kernel, rfl⟩
set_option maxRecDepth 100000 in
theorem d_L_law_373 : Dc m_L_law 373 (.iload_n 3) 1 374 := ⟨by decide +kernel, rfl⟩
set_option maxRecDepth 100000 in
theorem d_L_law_374 : Dc m_L_law 374 (.iconst 2) 1 375 := ⟨by decide +kernel, rfl⟩
set_option maxRecDepth 100000 in
theorem d_L_law_375 : Dc m_L_law 375 .iadd 1 376 := ⟨by decide +kernel, rfl⟩
set_option maxRecDepth 100000 in
theorem d_L_law_376 : Dc m_L_law 376 .iaload 1 377 := ⟨by decide +kernel, rfl⟩
set_option maxRecDepth 100000 in
theorem d_L_law_377 : Dc m_L_law 377 (.invokevirtual 34) 3 380 := ⟨by decide +kernel, rfl⟩
set_option maxRecDepth 100000 in
theorem d_L_law_380 : Dc m_L_law 380 (.aload_n 2) 1 381 := ⟨by decide +kernel, rfl⟩
set_option maxRecDepth 100000 in
theorem d_L_law_381 : Dc m_L_law 381 (.aload_n 0) 1 382 := ⟨by decide +kernel, rfl⟩
set_option maxRecDepth 100000 in
theorem d_L_law_382 : Dc m_L_law 382 (.iload_n 3) 1 383 := ⟨by decide +kernel, rfl⟩
set_option maxRecDepth 100000 in
theorem d_L_law_383 : Dc m_L_law 383 (.iconst 1) 1 384 := ⟨by decide +kernel, rfl⟩
set_option maxRecDepth 100000 in
theorem d_L_law_384 : Dc m_L_law 384 .iadd 1 385 := ⟨by decide +kernel, rfl⟩
set_option maxRecDepth 100000 in
theorem d_L_law_385 : Dc m_L_law 385 .iaload 1 386 := ⟨by decide +kernel, rfl⟩
set_option maxRecDepth 100000 in
theorem d_L_law_386 : Dc m_L_law 386 (.aload_n 0) 1 387 := ⟨by decide +kernel, rfl⟩
set_option maxRecDepth 100000 in
theorem d_L_law_387 : Dc m_L_law 387 (.iload_n 3) 1 388 := ⟨by decide +kernel, rfl⟩
set_option maxRecDepth 100000 in
theorem d_L_law_388 : Dc m_L_law 388 (.iconst 2) 1 389 := ⟨by decide +kernel, rfl⟩
set_option maxRecDepth 100000 in
theorem d_L_law_389 : Dc m_L_law 389 .iadd 1 390 := ⟨by decide +kernel, rfl⟩
set_option maxRecDepth 100000 in
theorem d_L_law_390 : Dc m_L_law 390 .iaload 1 391 := ⟨by decide +kernel, rfl⟩
set_option maxRecDepth 100000 in
theorem d_L_law_391 : Dc m_L_law 391 (.invokevirtual 37) 3 394 := ⟨by decide +kernel, rfl⟩
set_option maxRecDepth 100000 in
theorem d_L_law_394 : Dj m_L_law 394 (.if_icmp .eq) 397 1739 := ⟨1345, by decide +kernel, rfl, by decide⟩
set_option maxRecDepth 100000 in
theorem d_L_law_397 : Dc m_L_law 397 (.iconst 0) 1 398 := ⟨by decide +kernel, rfl⟩
set_option maxRecDepth 100000 in
theorem d_L_law_398 : Dc m_L_law 398 .ireturn 1 399 := ⟨by decide +kernel, rfl⟩
set_option maxRecDepth 100000 in
theorem d_L_law_399 : Dc m_L_law 399 (.aload_n 1) 1 400 := ⟨by decide +kernel, rfl⟩
set_option maxRecDepth 100000 in
theorem d_L_law_400 : Dc m_L_law 400 (.aload_n 0) 1 401 := ⟨by decide +kernel, rfl⟩
set_option maxRecDepth 100000 in
theorem d_L_law_401 : Dc m_L_law 401 (.iload_n 3) 1 402 := ⟨by decide +kernel, rfl⟩
set_option maxRecDepth 100000 in
theorem d_L_law_402 : Dc m_L_law 402 (.iconst 1) 1 403 := ⟨by decide +kernel, rfl⟩
set_option maxRecDepth 100000 in
theorem d_L_law_403 : Dc m_L_law 403 .iadd 1 404 := ⟨by decide +kernel, rfl⟩
set_option maxRecDepth 100000 in
theorem d_L_law_404 : Dc m_L_law 404 .iaload 1 405 := ⟨by decide +kernel, rfl⟩
set_option maxRecDepth 100000 in
theorem d_L_law_405 : Dc m_L_law 405 (.aload_n 0) 1 406 := ⟨by decide +kernel, rfl⟩
set_option maxRecDepth 100000 in
theorem d_L_law_406 : Dc m_L_law 406 (.iload_n 3) 1 407 := ⟨by decide +kernel, rfl⟩
set_option maxRecDepth 100000 in
theorem d_L_law_407 : Dc m_L_law 407 (.iconst 2) 1 408 := ⟨by decide +kernel, rfl⟩
set_option maxRecDepth 100000 in
theorem d_L_law_408 : Dc m_L_law 408 .iadd 1 409 := ⟨by decide +kernel, rfl⟩
set_option maxRecDepth 100000 in
theorem d_L_law_409 : Dc m_L_law 409 .iaload 1 410 := ⟨by decide +kernel, rfl⟩
set_option maxRecDepth 100000 in
theorem d_L_law_410 : Dc m_L_law 410 (.invokevirtual 38) 3 413 := ⟨by decide +kernel, rfl⟩
set_option maxRecDepth 100000 in
theorem d_L_law_413 : Dc m_L_law 413 (.aload_n 2) 1 414 := ⟨by decide +kernel, rfl⟩
set_option maxRecDepth 100000 in
theorem d_L_law_414 : Dc m_L_law 414 (.aload_n 0) 1 415 := ⟨by decide +kernel, rfl⟩
set_option maxRecDepth 100000 in
theorem d_L_law_415 : Dc m_L_law 415 (.iload_n 3) 1 416 := ⟨by decide +kernel, rfl⟩
set_option maxRecDepth 100000 in
theorem d_L_law_416 : Dc m_L_law 416 (.iconst 1) 1 417 := ⟨by decide +kernel, rfl⟩
set_option maxRecDepth 100000 in
theorem d_L_law_417 : Dc m_L_law 417 .iadd 1 418 := ⟨by decide +kernel, rfl⟩
set_option maxRecDepth 100000 in
theorem d_L_law_418 : Dc m_L_law 418 .iaload 1 419 := ⟨by decide +kernel, rfl⟩
set_option maxRecDepth 100000 in
theorem d_L_law_419 : Dc m_L_law 419 (.aload_n 0) 1 420 := ⟨by decide +kernel, rfl⟩
set_option maxRecDepth 100000 in
theorem d_L_law_420 : Dc m_L_law 420 (.iload_n 3) 1 421 := ⟨by decide +kernel, rfl⟩
set_option maxRecDepth 100000 in
theorem d_L_law_421 : Dc m_L_law 421 (.iconst 2) 1 422 := ⟨by decide +kernel, rfl⟩
set_option maxRecDepth 100000 in
theorem d_L_law_422 : Dc m_L_law 422 .iadd 1 423 := ⟨by decide +kernel, rfl⟩
set_option maxRecDepth 100000 in
theorem d_L_law_423 : Dc m_L_law 423 .iaload 1 424 := ⟨by decide +kernel, rfl⟩
set_option maxRecDepth 100000 in
theorem d_L_law_424 : Dc m_L_law 424 (.invokevirtual 41) 3 427 := ⟨by decide +kernel, rfl⟩
set_option maxRecDepth 100000 in
theorem d_L_law_427 : Dj m_L_law 427 (.if_icmp .eq) 430 1739 := ⟨1312, by decide +kernel, rfl, by decide⟩
set_option maxRecDepth 100000 in
theorem d_L_law_430 : Dc m_L_law 430 (.iconst 0) 1 431 := ⟨by decide +kernel, rfl⟩
set_option maxRecDepth 100000 in
theorem d_L_law_431 : Dc m_L_law 431 .ireturn 1 432 := ⟨by decide +kernel, rfl⟩
set_option maxRecDepth 100000 in
theorem d_L_law_432 : Dc m_L_law 432 (.aload_n 1) 1 433 := ⟨by decide +kernel, rfl⟩
set_option maxRecDepth 100000 in
theorem d_L_law_433 : Dc m_L_law 433 (.aload_n 0) 1 434 := ⟨by decide +kernel, rfl⟩
set_option maxRecDepth 100000 in
theorem d_L_law_434 : Dc m_L_law 434 (.iload_n 3) 1 435 := ⟨by decide +kernel, rfl⟩
set_option maxRecDepth 100000 in
theorem d_L_law_435 : Dc m_L_law 435 (.iconst 1) 1 436 := ⟨by decide +kernel, rfl⟩
set_option maxRecDepth 100000 in
theorem d_L_law_436 : Dc m_L_law 436 .iadd 1 437 := ⟨by decide +kernel, rfl⟩
set_option maxRecDepth 100000 in
theorem d_L_law_437 : Dc m_L_law 437 .iaload 1 438 := ⟨by decide +kernel, rfl⟩
set_option maxRecDepth 100000 in
theorem d_L_law_438 : Dc m_L_law 438 (.invokevirtual 42) 3 441 := ⟨by decide +kernel, rfl⟩
set_option maxRecDepth 100000 in
theorem d_L_law_441 : Dc m_L_law 441 (.aload_n 2) 1 442 := ⟨by decide +kernel, rfl⟩
set_option maxRecDepth 100000 in
theorem d_L_law_442 : Dc m_L_law 442 (.aload_n 0) 1 443 := ⟨by decide +kernel, rfl⟩
set_option maxRecDepth 100000 in
theorem d_L_law_443 : Dc m_L_law 443 (.iload_n 3) 1 444 := ⟨by decide +kernel, rfl⟩
set_option maxRecDepth 100000 in
theorem d_L_law_444 : Dc m_L_law 444 (.iconst 1) 1 445 := ⟨by decide +kernel, rfl⟩
set_option maxRecDepth 100000 in
theorem d_L_law_445 : Dc m_L_law 445 .iadd 1 446 := ⟨by decide +kernel, rfl⟩
set_option maxRecDepth 100000 in
theorem d_L_law_446 : Dc m_L_law 446 .iaload 1 447 := ⟨by decide +kernel, rfl⟩
set_option maxRecDepth 100000 in
theorem d_L_law_447 : Dc m_L_law 447 (.invokevirtual 46) 3 450 := ⟨by decide +kernel, rfl⟩
set_option maxRecDepth 100000 in
theorem d_L_law_450 : Dc m_L_law 450 .lcmp 1 451 := ⟨by decide +kernel, rfl⟩
set_option maxRecDepth 100000 in
theorem d_L_law_451 : Dj m_L_law 451 (.ifCond .eq) 454 1739 := ⟨1288, by decide +kernel, rfl, by decide⟩
set_option maxRecDepth 100000 in
theorem d_L_law_454 : Dc m_L_law 454 (.iconst 0) 1 455 := ⟨by decide +kernel, rfl⟩
set_option maxRecDepth 100000 in
theorem d_L_law_455 : Dc m_L_law 455 .ireturn 1 456 := ⟨by decide +kernel, rfl⟩
set_option maxRecDepth 100000 in
theorem d_L_law_456 : Dc m_L_law 456 (.aload_n 1) 1 457 := ⟨by decide +kernel, rfl⟩
set_option maxRecDepth 100000 in
theorem d_L_law_457 : Dc m_L_law 457 (.aload_n 0) 1 458 := ⟨by decide +kernel, rfl⟩
set_option maxRecDepth 100000 in
theorem d_L_law_458 : Dc m_L_law 458 (.iload_n 3) 1 459 := ⟨by decide +kernel, rfl⟩
set_option maxRecDepth 100000 in
theorem d_L_law_459 : Dc m_L_law 459 (.iconst 1) 1 460 := ⟨by decide +kernel, rfl⟩
set_option maxRecDepth 100000 in
theorem d_L_law_460 : Dc m_L_law 460 .iadd 1 461 := ⟨by decide +kernel, rfl⟩
set_option maxRecDepth 100000 in
theorem d_L_law_461 : Dc m_L_law 461 .iaload 1 462 := ⟨by decide +kernel, rfl⟩
set_option maxRecDepth 100000 in
theorem d_L_law_462 : Dc m_L_law 462 (.aload_n 0) 1 463 := ⟨by decide +kernel, rfl⟩
set_option maxRecDepth 100000 in
theorem d_L_law_463 : Dc m_L_law 463 (.iload_n 3) 1 464 := ⟨by decide +kernel, rfl⟩
set_option maxRecDepth 100000 in
theorem d_L_law_464 : Dc m_L_law 464 (.iconst 2) 1 465 := ⟨by decide +kernel, rfl⟩
set_option maxRecDepth 100000 in
theorem d_L_law_465 : Dc m_L_law 465 .iadd 1 466 := ⟨by decide +kernel, rfl⟩
set_option maxRecDepth 100000 in
theorem d_L_law_466 : Dc m_L_law 466 .iaload 1 467 := ⟨by decide +kernel, rfl⟩
set_option maxRecDepth 100000 in
theorem d_L_law_467 : Dc m_L_law 467 (.aload_n 0) 1 468 := ⟨by decide +kernel, rfl⟩
set_option maxRecDepth 100000 in
theorem d_L_law_468 : Dc m_L_law 468 (.iload_n 3) 1 469 := ⟨by decide +kernel, rfl⟩
set_option maxRecDepth 100000 in
theorem d_L_law_469 : Dc m_L_law 469 (.iconst 3) 1 470 := ⟨by decide +kernel, rfl⟩
set_option maxRecDepth 100000 in
theorem d_L_law_470 : Dc m_L_law 470 .iadd 1 471 := ⟨by decide +kernel, rfl⟩
set_option maxRecDepth 100000 in
theorem d_L_law_471 : Dc m_L_law 471 .iaload 1 472 := ⟨by decide +kernel, rfl⟩
set_option maxRecDepth 100000 in
theorem d_L_law_472 : Dc m_L_law 472 (.invokevirtual 47) 3 475 := ⟨by decide +kernel, rfl⟩
set_option maxRecDepth 100000 in
theorem d_L_law_475 : Dc m_L_law 475 (.aload_n 2) 1 476 := ⟨by decide +kernel, rfl⟩
set_option maxRecDepth 100000 in
theorem d_L_law_476 : Dc m_L_law 476 (.aload_n 0) 1 477 := ⟨by decide +kernel, rfl⟩
set_option maxRecDepth 100000 in
theorem d_L_law_477 : Dc m_L_law 477 (.iload_n 3) 1 478 := ⟨by decide +kernel, rfl⟩
set_option maxRecDepth 100000 in
theorem d_L_law_478 : Dc m_L_law 478 (.iconst 1) 1 479 := ⟨by decide +kernel, rfl⟩
set_option maxRecDepth 100000 in
theorem d_L_law_479 : Dc m_L_law 479 .iadd 1 480 := ⟨by decide +kernel, rfl⟩
set_option maxRecDepth 100000 in
theorem d_L_law_480 : Dc m_L_law 480 .iaload 1 481 := ⟨by decide +kernel, rfl⟩
set_option maxRecDepth 100000 in
theorem d_L_law_481 : Dc m_L_law 481 (.aload_n 0) 1 482 := ⟨by decide +kernel, rfl⟩
set_option maxRecDepth 100000 in
theorem d_L_law_482 : Dc m_L_law 482 (.iload_n 3) 1 483 := ⟨by decide +kernel, rfl⟩
set_option maxRecDepth 100000 in
theorem d_L_law_483 : Dc m_L_law 483 (.iconst 2) 1 484 := ⟨by decide +kernel, rfl⟩
set_option maxRecDepth 100000 in
theorem d_L_law_484 : Dc m_L_law 484 .iadd 1 485 := ⟨by decide +kernel, rfl⟩
set_option maxRecDepth 100000 in
theorem d_L_law_485 : Dc m_L_law 485 .iaload 1 486 := ⟨by decide +kernel, rfl⟩
set_option maxRecDepth 100000 in
theorem d_L_law_486 : Dc m_L_law 486 (.aload_n 0) 1 487 := ⟨by decide +kernel, rfl⟩
set_option maxRecDepth 100000 in
theorem d_L_law_487 : Dc m_L_law 487 (.iload_n 3) 1 488 := ⟨by decide +kernel, rfl⟩
set_option maxRecDepth 100000 in
theorem d_L_law_488 : Dc m_L_law 488 (.iconst 3) 1 489 := ⟨by decide +kernel, rfl⟩
set_option maxRecDepth 100000 in
theorem d_L_law_489 : Dc m_L_law 489 .iadd 1 490 := ⟨by decide +kernel, rfl⟩
set_option maxRecDepth 100000 in
theorem d_L_law_490 : Dc m_L_law 490 .iaload 1 491 := ⟨by decide +kernel, rfl⟩
set_option maxRecDepth 100000 in
theorem d_L_law_491 : Dc m_L_law 491 (.invokevirtual 51) 3 494 := ⟨by decide +kernel, rfl⟩
set_option maxRecDepth 100000 in
theorem d_L_law_494 : Dj m_L_law 494 (.if_icmp .eq) 497 1739 := ⟨1245, by decide +kernel, rfl, by decide⟩
set_option maxRecDepth 100000 in
theorem d_L_law_497 : Dc m_L_law 497 (.iconst 0) 1 498 := ⟨by decide +kernel, rfl⟩
set_option maxRecDepth 100000 in
theorem d_L_law_498 : Dc m_L_law 498 .ireturn 1 499 := ⟨by decide +kernel, rfl⟩
set_option maxRecDepth 100000 in
theorem d_L_law_499 : Dc m_L_law 499 (.aload_n 1) 1 500 := ⟨by decide +kernel, rfl⟩
set_option maxRecDepth 100000 in
theorem d_L_law_500 : Dc m_L_law 500 (.aload_n 0) 1 501 := ⟨by decide +kernel, rfl⟩
set_option maxRecDepth 100000 in
theorem d_L_law_501 : Dc m_L_law 501 (.iload_n 3) 1 502 := ⟨by decide +kernel, rfl⟩
set_option maxRecDepth 100000 in
theorem d_L_law_502 : Dc m_L_law 502 (.iconst 1) 1 503 := ⟨by decide +kernel, rfl⟩
set_option maxRecDepth 100000 in
theorem d_L_law_503 : Dc m_L_law 503 .iadd 1 504 := ⟨by decide +kernel, rfl⟩
set_option maxRecDepth 100000 in
theorem d_L_law_504 : Dc m_L_law 504 .iaload 1 505 := ⟨by decide +kernel, rfl⟩
set_option maxRecDepth 100000 in
theorem d_L_law_505 : Dc m_L_law 505 (.aload_n 0) 1 506 := ⟨by decide +kernel, rfl⟩
set_option maxRecDepth 100000 in
theorem d_L_law_506 : Dc m_L_law 506 (.iload_n 3) 1 507 := ⟨by decide +kernel, rfl⟩
set_option maxRecDepth 100000 in
theorem d_L_law_507 : Dc m_L_law 507 (.iconst 2) 1 508 := ⟨by decide +kernel, rfl⟩
set_option maxRecDepth 100000 in
theorem d_L_law_508 : Dc m_L_law 508 .iadd 1 509 := ⟨by decide +kernel, rfl⟩
set_option maxRecDepth 100000 in
theorem d_L_law_509 : Dc m_L_law 509 .iaload 1 510 := ⟨by decide +kernel, rfl⟩
set_option maxRecDepth 100000 in
theorem d_L_law_510 : Dc m_L_law 510 (.aload_n 0) 1 511 := ⟨by decide +kernel, rfl⟩
set_option maxRecDepth 100000 in
theorem d_L_law_511 : Dc m_L_law 511 (.iload_n 3) 1 512 := ⟨by decide +kernel, rfl⟩
set_option maxRecDepth 100000 in
theorem d_L_law_512 : Dc m_L_law 512 (.iconst 3) 1 513 := ⟨by decide +kernel, rfl⟩
set_option maxRecDepth 100000 in
theorem d_L_law_513 : Dc m_L_law 513 .iadd 1 514 := ⟨by decide +kernel, rfl⟩
set_option maxRecDepth 100000 in
theorem d_L_law_514 : Dc m_L_law 514 .iaload 1 515 := ⟨by decide +kernel, rfl⟩
set_option maxRecDepth 100000 in
theorem d_L_law_515 : Dc m_L_law 515 (.invokevirtual 52) 3 518 := ⟨by decide +kernel, rfl⟩
set_option maxRecDepth 100000 in
theorem d_L_law_518 : Dc m_L_law 518 (.aload_n 2) 1 519 := ⟨by decide +kernel, rfl⟩
set_option maxRecDepth 100000 in
theorem d_L_law_519 : Dc m_L_law 519 (.aload_n 0) 1 520 := ⟨by decide +kernel, rfl⟩
set_option maxRecDepth 100000 in
theorem d_L_law_520 : Dc m_L_law 520 (.iload_n 3) 1 521 := ⟨by decide +kernel, rfl⟩
set_option maxRecDepth 100000 in
theorem d_L_law_521 : Dc m_L_law 521 (.iconst 1) 1 522 := ⟨by decide +kernel, rfl⟩
set_option maxRecDepth 100000 in
theorem d_L_law_522 : Dc m_L_law 522 .iadd 1 523 := ⟨by decide +kernel, rfl⟩
set_option maxRecDepth 100000 in
theorem d_L_law_523 : Dc m_L_law 523 .iaload 1 524 := ⟨by decide +kernel, rfl⟩
set_option maxRecDepth 100000 in
theorem d_L_law_524 : Dc m_L_law 524 (.aload_n 0) 1 525 := ⟨by decide +kernel, rfl⟩
set_option maxRecDepth 100000 in
theorem d_L_law_525 : Dc m_L_law 525 (.iload_n 3) 1 526 := ⟨by decide +kernel, rfl⟩
set_option maxRecDepth 100000 in
theorem d_L_law_526 : Dc m_L_law 526 (.iconst 2) 1 527 := ⟨by decide +kernel, rfl⟩
set_option maxRecDepth 100000 in
theorem d_L_law_527 : Dc m_L_law 527 .iadd 1 528 := ⟨by decide +kernel, rfl⟩
set_option maxRecDepth 100000 in
theorem d_L_law_528 : Dc m_L_law 528 .iaload 1 529 := ⟨by decide +kernel, rfl⟩
set_option maxRecDepth 100000 in
theorem d_L_law_529 : Dc m_L_law 529 (.aload_n 0) 1 530 := ⟨by decide +kernel, rfl⟩
set_option maxRecDepth 100000 in
theorem d_L_law_530 : Dc m_L_law 530 (.iload_n 3) 1 531 := ⟨by decide +kernel, rfl⟩
set_option maxRecDepth 100000 in
theorem d_L_law_531 : Dc m_L_law 531 (.iconst 3) 1 532 := ⟨by decide +kernel, rfl⟩
set_option maxRecDepth 100000 in
theorem d_L_law_532 : Dc m_L_law 532 .iadd 1 533 := ⟨by decide +kernel, rfl⟩
set_option maxRecDepth 100000 in
theorem d_L_law_533 : Dc m_L_law 533 .iaload 1 534 := ⟨by decide +kernel, rfl⟩
set_option maxRecDepth 100000 in
theorem d_L_law_534 : Dc m_L_law 534 (.invokevirtual 55) 3 537 := ⟨by decide +kernel, rfl⟩
set_option maxRecDepth 100000 in
theorem d_L_law_537 : Dj m_L_law 537 (.if_icmp .eq) 540 1739 := ⟨1202, by decide +kernel, rfl, by decide⟩
set_option maxRecDepth 100000 in
theorem d_L_law_540 : Dc m_L_law 540 (.iconst 0) 1 541 := ⟨by decide +kernel, rfl⟩
set_option maxRecDepth 100000 in
theorem d_L_law_541 : Dc m_L_law 541 .ireturn 1 542 := ⟨by decide +kernel, rfl⟩
set_option maxRecDepth 100000 in
theorem d_L_law_542 : Dc m_L_law 542 (.aload_n 1) 1 543 := ⟨by decide +kernel, rfl⟩
set_option maxRecDepth 100000 in
theorem d_L_law_543 : Dc m_L_law 543 (.aload_n 0) 1 544 := ⟨by decide +kernel, rfl⟩
set_option maxRecDepth 100000 in
theorem d_L_law_544 : Dc m_L_law 544 (.iload_n 3) 1 545 := ⟨by decide +kernel, rfl⟩
set_option maxRecDepth 100000 in
theorem d_L_law_545 : Dc m_L_law 545 (.iconst 1) 1 546 := ⟨by decide +kernel, rfl⟩
set_option maxRecDepth 100000 in
theorem d_L_law_546 : Dc m_L_law 546 .iadd 1 547 := ⟨by decide +kernel, rfl⟩
set_option maxRecDepth 100000 in
theorem d_L_law_547 : Dc m_L_law 547 .iaload 1 548 := ⟨by decide +kernel, rfl⟩
set_option maxRecDepth 100000 in
theorem d_L_law_548 : Dc m_L_law 548 (.aload_n 0) 1 549 := ⟨by decide +kernel, rfl⟩
set_option maxRecDepth 100000 in
theorem d_L_law_549 : Dc m_L_law 549 (.iload_n 3) 1 550 := ⟨by decide +kernel, rfl⟩
set_option maxRecDepth 100000 in
theorem d_L_law_550 : Dc m_L_law 550 (.iconst 2) 1 551 := ⟨by decide +kernel, rfl⟩
set_option maxRecDepth 100000 in
theorem d_L_law_551 : Dc m_L_law 551 .iadd 1 552 := ⟨by decide +kernel, rfl⟩
set_option maxRecDepth 100000 in
theorem d_L_law_552 : Dc m_L_law 552 .iaload 1 553 := ⟨by decide +kernel, rfl⟩
set_option maxRecDepth 100000 in
theorem d_L_law_553 : Dc m_L_law 553 (.aload_n 0) 1 554 := ⟨by decide +kernel, rfl⟩
set_option maxRecDepth 100000 in
theorem d_L_law_554 : Dc m_L_law 554 (.iload_n 3) 1 555 := ⟨by decide +kernel, rfl⟩
set_option maxRecDepth 100000 in
theorem d_L_law_555 : Dc m_L_law 555 (.iconst 3) 1 556 := ⟨by decide +kernel, rfl⟩
set_option maxRecDepth 100000 in
theorem d_L_law_556 : Dc m_L_law 556 .iadd 1 557 := ⟨by decide +kernel, rfl⟩
set_option maxRecDepth 100000 in
theorem d_L_law_557 : Dc m_L_law 557 .iaload 1 558 := ⟨by decide +kernel, rfl⟩
set_option maxRecDepth 100000 in
theorem d_L_law_558 : Dc m_L_law 558 (.invokevirtual 56) 3 561 := ⟨by decide +kernel, rfl⟩
set_option maxRecDepth 100000 in
theorem d_L_law_561 : Dc m_L_law 561 (.aload_n 2) 1 562 := ⟨by decide +kernel, rfl⟩
set_option maxRecDepth 100000 in
theorem d_L_law_562 : Dc m_L_law 562 (.aload_n 0) 1 563 := ⟨by decide +kernel, rfl⟩
set_option maxRecDepth 100000 in
theorem d_L_law_563 : Dc m_L_law 563 (.iload_n 3) 1 564 := ⟨by decide +kernel, rfl⟩
set_option maxRecDepth 100000 in
theorem d_L_law_564 : Dc m_L_law 564 (.iconst 1) 1 565 := ⟨by decide +kernel, rfl⟩
set_option maxRecDepth 100000 in
theorem d_L_law_565 : Dc m_L_law 565 .iadd 1 566 := ⟨by decide +kernel, rfl⟩
set_option maxRecDepth 100000 in
theorem d_L_law_566 : Dc m_L_law 566 .iaload 1 567 := ⟨by decide +kernel, rfl⟩
set_option maxRecDepth 100000 in
theorem d_L_law_567 : Dc m_L_law 567 (.aload_n 0) 1 568 := ⟨by decide +kernel, rfl⟩
set_option maxRecDepth 100000 in
theorem d_L_law_568 : Dc m_L_law 568 (.iload_n 3) 1 569 := ⟨by decide +kernel, rfl⟩
set_option maxRecDepth 100000 in
theorem d_L_law_569 : Dc m_L_law 569 (.iconst 2) 1 570 := ⟨by decide +kernel, rfl⟩
set_option maxRecDepth 100000 in
theorem d_L_law_570 : Dc m_L_law 570 .iadd 1 571 := ⟨by decide +kernel, rfl⟩
set_option maxRecDepth 100000 in
theorem d_L_law_571 : Dc m_L_law 571 .iaload 1 572 := ⟨by decide +kernel, rfl⟩
set_option maxRecDepth 100000 in
theorem d_L_law_572 : Dc m_L_law 572 (.aload_n 0) 1 573 := ⟨by decide +kernel, rfl⟩
set_option maxRecDepth 100000 in
theorem d_L_law_573 : Dc m_L_law 573 (.iload_n 3) 1 574 := ⟨by decide +kernel, rfl⟩
set_option maxRecDepth 100000 in
theorem d_L_law_574 : Dc m_L_law 574 (.iconst 3) 1 575 := ⟨by decide +kernel, rfl⟩
set_option maxRecDepth 100000 in
theorem d_L_law_575 : Dc m_L_law 575 .iadd 1 576 := ⟨by decide +kernel, rfl⟩
set_option maxRecDepth 100000 in
theorem d_L_law_576 : Dc m_L_law 576 .iaload 1 577 := ⟨by decide +kernel, rfl⟩
set_option maxRecDepth 100000 in
theorem d_L_law_577 : Dc m_L_law 577 (.invokevirtual 59) 3 580 := ⟨by decide +kernel, rfl⟩
set_option maxRecDepth 100000 in
theorem d_L_law_580 : Dj m_L_law 580 (.if_icmp .eq) 583 1739 := ⟨1159, by decide +kernel, rfl, by decide⟩
set_option maxRecDepth 100000 in
theorem d_L_law_583 : Dc m_L_law 583 (.iconst 0) 1 584 := ⟨by decide +kernel, rfl⟩
set_option maxRecDepth 100000 in
theorem d_L_law_584 : Dc m_L_law 584 .ireturn 1 585 := ⟨by decide +kernel, rfl⟩
set_option maxRecDepth 100000 in
theorem d_L_law_585 : Dc m_L_law 585 (.aload_n 1) 1 586 := ⟨by decide +kernel, rfl⟩
set_option maxRecDepth 100000 in
theorem d_L_law_586 : Dc m_L_law 586 (.aload_n 0) 1 587 := ⟨by decide +kernel, rfl⟩
set_option maxRecDepth 100000 in
theorem d_L_law_587 : Dc m_L_law 587 (.iload_n 3) 1 588 := ⟨by decide +kernel, rfl⟩
set_option maxRecDepth 100000 in
theorem d_L_law_588 : Dc m_L_law 588 (.iconst 1) 1 589 := ⟨by decide +kernel, rfl⟩
set_option maxRecDepth 100000 in
theorem d_L_law_589 : Dc m_L_law 589 .iadd 1 590 := ⟨by decide +kernel, rfl⟩
set_option maxRecDepth 100000 in
theorem d_L_law_590 : Dc m_L_law 590 .iaload 1 591 := ⟨by decide +kernel, rfl⟩
set_option maxRecDepth 100000 in
theorem d_L_law_591 : Dc m_L_law 591 (.aload_n 0) 1 592 := ⟨by decide +kernel, rfl⟩
set_option maxRecDepth 100000 in
theorem d_L_law_592 : Dc m_L_law 592 (.iload_n 3) 1 593 := ⟨by decide +kernel, rfl⟩
set_option maxRecDepth 100000 in
theorem d_L_law_593 : Dc m_L_law 593 (.iconst 2) 1 594 := ⟨by decide +kernel, rfl⟩
set_option maxRecDepth 100000 in
theorem d_L_law_594 : Dc m_L_law 594 .iadd 1 595 := ⟨by decide +kernel, rfl⟩
set_option maxRecDepth 100000 in
theorem d_L_law_595 : Dc m_L_law 595 .iaload 1 596 := ⟨by decide +kernel, rfl⟩
set_option maxRecDepth 100000 in
theorem d_L_law_596 : Dc m_L_law 596 (.invokevirtual 60) 3 599 := ⟨by decide +kernel, rfl⟩
set_option maxRecDepth 100000 in
theorem d_L_law_599 : Dc m_L_law 599 (.aload_n 2) 1 600 := ⟨by decide +kernel, rfl⟩
set_option maxRecDepth 100000 in
theorem d_L_law_600 : Dc m_L_law 600 (.aload_n 0) 1 601 := ⟨by decide +kernel, rfl⟩
set_option maxRecDepth 100000 in
theorem d_L_law_601 : Dc m_L_law 601 (.iload_n 3) 1 602 := ⟨by decide +kernel, rfl⟩
set_option maxRecDepth 100000 in
theorem d_L_law_602 : Dc m_L_law 602 (.iconst 1) 1 603 := ⟨by decide +kernel, rfl⟩
set_option maxRecDepth 100000 in
theorem d_L_law_603 : Dc m_L_law 603 .iadd 1 604 := ⟨by decide +kernel, rfl⟩
set_option maxRecDepth 100000 in
theorem d_L_law_604 : Dc m_L_law 604 .iaload 1 605 := ⟨by decide +kernel, rfl⟩
set_option maxRecDepth 100000 in
theorem d_L_law_605 : Dc m_L_law 605 (.aload_n 0) 1 606 := ⟨by decide +kernel, rfl⟩
set_option maxRecDepth 100000 in
theorem d_L_law_606 : Dc m_L_law 606 (.iload_n 3) 1 607 := ⟨by decide +kernel, rfl⟩
set_option maxRecDepth 100000 in
theorem d_L_law_607 : Dc m_L_law 607 (.iconst 2) 1 608 := ⟨by decide +kernel, rfl⟩
set_option maxRecDepth 100000 in
theorem d_L_law_608 : Dc m_L_law 608 .iadd 1 609 := ⟨by decide +kernel, rfl⟩
set_option maxRecDepth 100000 in
theorem d_L_law_609 : Dc m_L_law 609 .iaload 1 610 := ⟨by decide +kernel, rfl⟩
set_option maxRecDepth 100000 in
theorem d_L_law_610 : Dc m_L_law 610 (.invokevirtual 63) 3 613 := ⟨by decide +kernel, rfl⟩
set_option maxRecDepth 100000 in
theorem d_L_law_613 : Dj m_L_law 613 (.if_icmp .eq) 616 1739 := ⟨1126, by decide +kernel, rfl, by decide⟩
set_option maxRecDepth 100000 in
theorem d_L_law_616 : Dc m_L_law 616 (.iconst 0) 1 617 := ⟨by decide +kernel, rfl⟩
set_option maxRecDepth 100000 in
theorem d_L_law_617 : Dc m_L_law 617 .ireturn 1 618 := ⟨by decide +kernel, rfl⟩
set_option maxRecDepth 100000 in
theorem d_L_law_618 : Dc m_L_law 618 (.aload_n 1) 1 619 := ⟨by decide +kernel, rfl⟩
set_option maxRecDepth 100000 in
theorem d_L_law_619 : Dc m_L_law 619 (.invokevirtual 64) 3 622 := ⟨by decide +kernel, rfl⟩
set_option maxRecDepth 100000 in
theorem d_L_law_622 : Dc m_L_law 622 (.aload_n 2) 1 623 := ⟨by decide +kernel, rfl⟩
set_option maxRecDepth 100000 in
theorem d_L_law_623 : Dc m_L_law 623 (.invokevirtual 67) 3 626 := ⟨by decide +kernel, rfl⟩
set_option maxRecDepth 100000 in
theorem d_L_law_626 : Dj m_L_law 626 (.if_icmp .eq) 629 1739 := ⟨1113, by decide +kernel, rfl, by decide⟩
set_option maxRecDepth 100000 in
theorem d_L_law_629 : Dc m_L_law 629 (.iconst 0) 1 630 := ⟨by decide +kernel, rfl⟩
set_option maxRecDepth 100000 in
theorem d_L_law_630 : Dc m_L_law 630 .ireturn 1 631 := ⟨by decide +kernel, rfl⟩
set_option maxRecDepth 100000 in
theorem d_L_law_631 : Dc m_L_law 631 (.aload_n 1) 1 632 := ⟨by decide +kernel, rfl⟩
set_option maxRecDepth 100000 in
theorem d_L_law_632 : Dc m_L_law 632 (.aload_n 0) 1 633 := ⟨by decide +kernel, rfl⟩
set_option maxRecDepth 100000 in
theorem d_L_law_633 : Dc m_L_law 633 (.iload_n 3) 1 634 := ⟨by decide +kernel, rfl⟩
set_option maxRecDepth 100000 in
theorem d_L_law_634 : Dc m_L_law 634 (.iconst 1) 1 635 := ⟨by decide +kernel, rfl⟩
set_option maxRecDepth 100000 in
theorem d_L_law_635 : Dc m_L_law 635 .iadd 1 636 := ⟨by decide +kernel, rfl⟩
set_option maxRecDepth 100000 in
theorem d_L_law_636 : Dc m_L_law 636 .iaload 1 637 := ⟨by decide +kernel, rfl⟩
set_option maxRecDepth 100000 in
theorem d_L_law_637 : Dc m_L_law 637 (.aload_n 0) 1 638 := ⟨by decide +kernel, rfl⟩
set_option maxRecDepth 100000 in
theorem d_L_law_638 : Dc m_L_law 638 (.iload_n 3) 1 639 := ⟨by decide +kernel, rfl⟩
set_option maxRecDepth 100000 in
theorem d_L_law_639 : Dc m_L_law 639 (.iconst 2) 1 640 := ⟨by decide +kernel, rfl⟩
set_option maxRecDepth 100000 in
theorem d_L_law_640 : Dc m_L_law 640 .iadd 1 641 := ⟨by decide +kernel, rfl⟩
set_option maxRecDepth 100000 in
theorem d_L_law_641 : Dc m_L_law 641 .iaload 1 642 := ⟨by decide +kernel, rfl⟩
set_option maxRecDepth 100000 in
theorem d_L_law_642 : Dc m_L_law 642 (.aload_n 0) 1 643 := ⟨by decide +kernel, rfl⟩
set_option maxRecDepth 100000 in
theorem d_L_law_643 : Dc m_L_law 643 (.iload_n 3) 1 644 := ⟨by decide +kernel, rfl⟩
set_option maxRecDepth 100000 in
theorem d_L_law_644 : Dc m_L_law 644 (.iconst 3) 1 645 := ⟨by decide +kernel, rfl⟩
set_option maxRecDepth 100000 in
theorem d_L_law_645 : Dc m_L_law 645 .iadd 1 646 := ⟨by decide +kernel, rfl⟩
set_option maxRecDepth 100000 in
theorem d_L_law_646 : Dc m_L_law 646 .iaload 1 647 := ⟨by decide +kernel, rfl⟩
set_option maxRecDepth 100000 in
theorem d_L_law_647 : Dc m_L_law 647 (.invokevirtual 68) 3 650 := ⟨by decide +kernel, rfl⟩
set_option maxRecDepth 100000 in
theorem d_L_law_650 : Dc m_L_law 650 (.aload_n 2) 1 651 := ⟨by decide +kernel, rfl⟩
set_option maxRecDepth 100000 in
theorem d_L_law_651 : Dc m_L_law 651 (.aload_n 0) 1 652 := ⟨by decide +kernel, rfl⟩
set_option maxRecDepth 100000 in
theorem d_L_law_652 : Dc m_L_law 652 (.iload_n 3) 1 653 := ⟨by decide +kernel, rfl⟩
set_option maxRecDepth 100000 in
theorem d_L_law_653 : Dc m_L_law 653 (.iconst 1) 1 654 := ⟨by decide +kernel, rfl⟩
set_option maxRecDepth 100000 in
theorem d_L_law_654 : Dc m_L_law 654 .iadd 1 655 := ⟨by decide +kernel, rfl⟩
set_option maxRecDepth 100000 in
theorem d_L_law_655 : Dc m_L_law 655 .iaload 1 656 := ⟨by decide +kernel, rfl⟩
set_option maxRecDepth 100000 in
theorem d_L_law_656 : Dc m_L_law 656 (.aload_n 0) 1 657 := ⟨by decide +kernel, rfl⟩
set_option maxRecDepth 100000 in
theorem d_L_law_657 : Dc m_L_law 657 (.iload_n 3) 1 658 := ⟨by decide +kernel, rfl⟩
set_option maxRecDepth 100000 in
theorem d_L_law_658 : Dc m_L_law 658 (.iconst 2) 1 659 := ⟨by decide +kernel, rfl⟩
set_option maxRecDepth 100000 in
theorem d_L_law_659 : Dc m_L_law 659 .iadd 1 660 := ⟨by decide +kernel, rfl⟩
set_option maxRecDepth 100000 in
theorem d_L_law_660 : Dc m_L_law 660 .iaload 1 661 := ⟨by decide +kernel, rfl⟩
set_option maxRecDepth 100000 in
theorem d_L_law_661 : Dc m_L_law 661 (.aload_n 0) 1 662 := ⟨by decide +kernel, rfl⟩
set_option maxRecDepth 100000 in
theorem d_L_law_662 : Dc m_L_law 662 (.iload_n 3) 1 663 := ⟨by decide +kernel, rfl⟩
set_option maxRecDepth 100000 in
theorem d_L_law_663 : Dc m_L_law 663 (.iconst 3) 1 664 := ⟨by decide +kernel, rfl⟩
set_option maxRecDepth 100000 in
theorem d_L_law_664 : Dc m_L_law 664 .iadd 1 665 := ⟨by decide +kernel, rfl⟩
set_option maxRecDepth 100000 in
theorem d_L_law_665 : Dc m_L_law 665 .iaload 1 666 := ⟨by decide +kernel, rfl⟩
set_option maxRecDepth 100000 in
theorem d_L_law_666 : Dc m_L_law 666 (.invokevirtual 71) 3 669 := ⟨by decide +kernel, rfl⟩
set_option maxRecDepth 100000 in
theorem d_L_law_669 : Dj m_L_law 669 (.if_icmp .eq) 672 1739 := ⟨1070, by decide +kernel, rfl, by decide⟩
set_option maxRecDepth 100000 in
theorem d_L_law_672 : Dc m_L_law 672 (.iconst 0) 1 673 := ⟨by decide +kernel, rfl⟩
set_option maxRecDepth 100000 in
theorem d_L_law_673 : Dc m_L_law 673 .ireturn 1 674 := ⟨by decide +kernel, rfl⟩
set_option maxRecDepth 100000 in
theorem d_L_law_674 : Dc m_L_law 674 (.aload_n 1) 1 675 := ⟨by decide +kernel, rfl⟩
set_option maxRecDepth 100000 in
theorem d_L_law_675 : Dc m_L_law 675 (.aload_n 0) 1 676 := ⟨by decide +kernel, rfl⟩
set_option maxRecDepth 100000 in
theorem d_L_law_676 : Dc m_L_law 676 (.iload_n 3) 1 677 := ⟨by decide +kernel, rfl⟩
set_option maxRecDepth 100000 in
theorem d_L_law_677 : Dc m_L_law 677 (.iconst 1) 1 678 := ⟨by decide +kernel, rfl⟩
set_option maxRecDepth 100000 in
theorem d_L_law_678 : Dc m_L_law 678 .iadd 1 679 := ⟨by decide +kernel, rfl⟩
set_option maxRecDepth 100000 in
theorem d_L_law_679 : Dc m_L_law 679 .iaload 1 680 := ⟨by decide +kernel, rfl⟩
set_option maxRecDepth 100000 in
theorem d_L_law_680 : Dc m_L_law 680 (.aload_n 0) 1 681 := ⟨by decide +kernel, rfl⟩
set_option maxRecDepth 100000 in
theorem d_L_law_681 : Dc m_L_law 681 (.iload_n 3) 1 682 := ⟨by decide +kernel, rfl⟩
set_option maxRecDepth 100000 in
theorem d_L_law_682 : Dc m_L_law 682 (.iconst 2) 1 683 := ⟨by decide +kernel, rfl⟩
set_option maxRecDepth 100000 in
theorem d_L_law_683 : Dc m_L_law 683 .iadd 1 684 := ⟨by decide +kernel, rfl⟩
set_option maxRecDepth 100000 in
theorem d_L_law_684 : Dc m_L_law 684 .iaload 1 685 := ⟨by decide +kernel, rfl⟩
set_option maxRecDepth 100000 in
theorem d_L_law_685 : Dc m_L_law 685 (.aload_n 0) 1 686 := ⟨by decide +kernel, rfl⟩
set_option maxRecDepth 100000 in
theorem d_L_law_686 : Dc m_L_law 686 (.iload_n 3) 1 687 := ⟨by decide +kernel, rfl⟩
set_option maxRecDepth 100000 in
theorem d_L_law_687 : Dc m_L_law 687 (.iconst 3) 1 688 := ⟨by decide +kernel, rfl⟩
set_option maxRecDepth 100000 in
theorem d_L_law_688 : Dc m_L_law 688 .iadd 1 689 := ⟨by decide +kernel, rfl⟩
set_option maxRecDepth 100000 in
theorem d_L_law_689 : Dc m_L_law 689 .iaload 1 690 := ⟨by decide +kernel, rfl⟩
set_option maxRecDepth 100000 in
theorem d_L_law_690 : Dc m_L_law 690 (.aload_n 0) 1 691 := ⟨by decide +kernel, rfl⟩
set_option maxRecDepth 100000 in
theorem d_L_law_691 : Dc m_L_law 691 (.iload_n 3) 1 692 := ⟨by decide +kernel, rfl⟩
set_option maxRecDepth 100000 in
theorem d_L_law_692 : Dc m_L_law 692 (.iconst 4) 1 693 := ⟨by decide +kernel, rfl⟩
set_option maxRecDepth 100000 in
theorem d_L_law_693 : Dc m_L_law 693 .iadd 1 694 := ⟨by decide +kernel, rfl⟩
set_option maxRecDepth 100000 in
theorem d_L_law_694 : Dc m_L_law 694 .iaload 1 695 := ⟨by decide +kernel, rfl⟩
set_option maxRecDepth 100000 in
theorem d_L_law_695 : Dc m_L_law 695 (.invokevirtual 72) 3 698 := ⟨by decide +kernel, rfl⟩
set_option maxRecDepth 100000 in
theorem d_L_law_698 : Dc m_L_law 698 (.aload_n 2) 1 699 := ⟨by decide +kernel, rfl⟩
set_option maxRecDepth 100000 in
theorem d_L_law_699 : Dc m_L_law 699 (.aload_n 0) 1 700 := ⟨by decide +kernel, rfl⟩
set_option maxRecDepth 100000 in
theorem d_L_law_700 : Dc m_L_law 700 (.iload_n 3) 1 701 := ⟨by decide +kernel, rfl⟩
set_option maxRecDepth 100000 in
theorem d_L_law_701 : Dc m_L_law 701 (.iconst 1) 1 702 := ⟨by decide +kernel, rfl⟩
set_option maxRecDepth 100000 in
theorem d_L_law_702 : Dc m_L_law 702 .iadd 1 703 := ⟨by decide +kernel, rfl⟩
set_option maxRecDepth 100000 in
theorem d_L_law_703 : Dc m_L_law 703 .iaload 1 704 := ⟨by decide +kernel, rfl⟩
set_option maxRecDepth 100000 in
theorem d_L_law_704 : Dc m_L_law 704 (.aload_n 0) 1 705 := ⟨by decide +kernel, rfl⟩
set_option maxRecDepth 100000 in
theorem d_L_law_705 : Dc m_L_law 705 (.iload_n 3) 1 706 := ⟨by decide +kernel, rfl⟩
set_option maxRecDepth 100000 in
theorem d_L_law_706 : Dc m_L_law 706 (.iconst 2) 1 707 := ⟨by decide +kernel, rfl⟩
set_option maxRecDepth 100000 in
theorem d_L_law_707 : Dc m_L_law 707 .iadd 1 708 := ⟨by decide +kernel, rfl⟩
set_option maxRecDepth 100000 in
theorem d_L_law_708 : Dc m_L_law 708 .iaload 1 709 := ⟨by decide +kernel, rfl⟩
set_option maxRecDepth 100000 in
theorem d_L_law_709 : Dc m_L_law 709 (.aload_n 0) 1 710 := ⟨by decide +kernel, rfl⟩
set_option maxRecDepth 100000 in
theorem d_L_law_710 : Dc m_L_law 710 (.iload_n 3) 1 711 := ⟨by decide +kernel, rfl⟩
set_option maxRecDepth 100000 in
theorem d_L_law_711 : Dc m_L_law 711 (.iconst 3) 1 712 := ⟨by decide +kernel, rfl⟩
set_option maxRecDepth 100000 in
theorem d_L_law_712 : Dc m_L_law 712 .iadd 1 713 := ⟨by decide +kernel, rfl⟩
set_option maxRecDepth 100000 in
theorem d_L_law_713 : Dc m_L_law 713 .iaload 1 714 := ⟨by decide +kernel, rfl⟩
set_option maxRecDepth 100000 in
theorem d_L_law_714 : Dc m_L_law 714 (.aload_n 0) 1 715 := ⟨by decide +kernel, rfl⟩
set_option maxRecDepth 100000 in
theorem d_L_law_715 : Dc m_L_law 715 (.iload_n 3) 1 716 := ⟨by decide +kernel, rfl⟩
set_option maxRecDepth 100000 in
theorem d_L_law_716 : Dc m_L_law 716 (.iconst 4) 1 717 := ⟨by decide +kernel, rfl⟩
set_option maxRecDepth 100000 in
theorem d_L_law_717 : Dc m_L_law 717 .iadd 1 718 := ⟨by decide +kernel, rfl⟩
set_option maxRecDepth 100000 in
theorem d_L_law_718 : Dc m_L_law 718 .iaload 1 719 := ⟨by decide +kernel, rfl⟩
set_option maxRecDepth 100000 in
theorem d_L_law_719 : Dc m_L_law 719 (.invokevirtual 76) 3 722 := ⟨by decide +kernel, rfl⟩
set_option maxRecDepth 100000 in
theorem d_L_law_722 : Dj m_L_law 722 (.if_icmp .eq) 725 1739 := ⟨1017, by decide +kernel, rfl, by decide⟩
set_option maxRecDepth 100000 in
theorem d_L_law_725 : Dc m_L_law 725 (.iconst 0) 1 726 := ⟨by decide +kernel, rfl⟩
set_option maxRecDepth 100000 in
theorem d_L_law_726 : Dc m_L_law 726 .ireturn 1 727 := ⟨by decide +kernel, rfl⟩
set_option maxRecDepth 100000 in
theorem d_L_law_727 : Dc m_L_law 727 (.aload_n 1) 1 728 := ⟨by decide +kernel, rfl⟩
set_option maxRecDepth 100000 in
theorem d_L_law_728 : Dc m_L_law 728 (.aload_n 0) 1 729 := ⟨by decide +kernel, rfl⟩
set_option maxRecDepth 100000 in
theorem d_L_law_729 : Dc m_L_law 729 (.iload_n 3) 1 730 := ⟨by decide +kernel, rfl⟩
set_option maxRecDepth 100000 in
theorem d_L_law_730 : Dc m_L_law 730 (.iconst 1) 1 731 := ⟨by decide +kernel, rfl⟩
set_option maxRecDepth 100000 in
theorem d_L_law_731 : Dc m_L_law 731 .iadd 1 732 := ⟨by decide +kernel, rfl⟩
set_option maxRecDepth 100000 in
theorem d_L_law_732 : Dc m_L_law 732 .iaload 1 733 := ⟨by decide +kernel, rfl⟩
set_option maxRecDepth 100000 in
theorem d_L_law_733 : Dc m_L_law 733 (.aload_n 0) 1 734 := ⟨by decide +kernel, rfl⟩
set_option maxRecDepth 100000 in
theorem d_L_law_734 : Dc m_L_law 734 (.iload_n 3) 1 735 := ⟨by decide +kernel, rfl⟩
set_option maxRecDepth 100000 in
theorem d_L_law_735 : Dc m_L_law 735 (.iconst 2) 1 736 := ⟨by decide +kernel, rfl⟩
set_option maxRecDepth 100000 in
theorem d_L_law_736 : Dc m_L_law 736 .iadd 1 737 := ⟨by decide +kernel, rfl⟩
set_option maxRecDepth 100000 in
theorem d_L_law_737 : Dc m_L_law 737 .iaload 1 738 := ⟨by decide +kernel, rfl⟩
set_option maxRecDepth 100000 in
theorem d_L_law_738 : Dc m_L_law 738 (.aload_n 0) 1 739 := ⟨by decide +kernel, rfl⟩
set_option maxRecDepth 100000 in
theorem d_L_law_739 : Dc m_L_law 739 (.iload_n 3) 1 740 := ⟨by decide +kernel, rfl⟩
set_option maxRecDepth 100000 in
theorem d_L_law_740 : Dc m_L_law 740 (.iconst 3) 1 741 := ⟨by decide +kernel, rfl⟩
set_option maxRecDepth 100000 in
theorem d_L_law_741 : Dc m_L_law 741 .iadd 1 742 := ⟨by decide +kernel, rfl⟩
set_option maxRecDepth 100000 in
theorem d_L_law_742 : Dc m_L_law 742 .iaload 1 743 := ⟨by decide +kernel, rfl⟩
set_option maxRecDepth 100000 in
theorem d_L_law_743 : Dc m_L_law 743 (.invokevirtual 77) 3 746 := ⟨by decide +kernel, rfl⟩
set_option maxRecDepth 100000 in
theorem d_L_law_746 : Dc m_L_law 746 (.aload_n 2) 1 747 := ⟨by decide +kernel, rfl⟩
set_option maxRecDepth 100000 in
theorem d_L_law_747 : Dc m_L_law 747 (.aload_n 0) 1 748 := ⟨by decide +kernel, rfl⟩
set_option maxRecDepth 100000 in
theorem d_L_law_748 : Dc m_L_law 748 (.iload_n 3) 1 749 := ⟨by decide +kernel, rfl⟩
set_option maxRecDepth 100000 in
theorem d_L_law_749 : Dc m_L_law 749 (.iconst 1) 1 750 := ⟨by decide +kernel, rfl⟩
set_option maxRecDepth 100000 in
theorem d_L_law_750 : Dc m_L_law 750 .iadd 1 751 := ⟨by decide +kernel, rfl⟩
set_option maxRecDepth 100000 in
theorem d_L_law_751 : Dc m_L_law 751 .iaload 1 752 := ⟨by decide +kernel, rfl⟩
set_option maxRecDepth 100000 in
theorem d_L_law_752 : Dc m_L_law 752 (.aload_n 0) 1 753 := ⟨by decide +kernel, rfl⟩
set_option maxRecDepth 100000 in
theorem d_L_law_753 : Dc m_L_law 753 (.iload_n 3) 1 754 := ⟨by decide +kernel, rfl⟩
set_option maxRecDepth 100000 in
theorem d_L_law_754 : Dc m_L_law 754 (.iconst 2) 1 755 := ⟨by decide +kernel, rfl⟩
set_option maxRecDepth 100000 in
theorem d_L_law_755 : Dc m_L_law 755 .iadd 1 756 := ⟨by decide +kernel, rfl⟩
set_option maxRecDepth 100000 in
theorem d_L_law_756 : Dc m_L_law 756 .iaload 1 757 := ⟨by decide +kernel, rfl⟩
set_option maxRecDepth 100000 in
theorem d_L_law_757 : Dc m_L_law 757 (.aload_n 0) 1 758 := ⟨by decide +kernel, rfl⟩
set_option maxRecDepth 100000 in
theorem d_L_law_758 : Dc m_L_law 758 (.iload_n 3) 1 759 := ⟨by decide +kernel, rfl⟩
set_option maxRecDepth 100000 in
theorem d_L_law_759 : Dc m_L_law 759 (.iconst 3) 1 760 := ⟨by decide +kernel, rfl⟩
set_option maxRecDepth 100000 in
theorem d_L_law_760 : Dc m_L_law 760 .iadd 1 761 := ⟨by decide +kernel, rfl⟩
set_option maxRecDepth 100000 in
theorem d_L_law_761 : Dc m_L_law 761 .iaload 1 762 := ⟨by decide +kernel, rfl⟩
set_option maxRecDepth 100000 in
theorem d_L_law_762 : Dc m_L_law 762 (.invokevirtual 80) 3 765 := ⟨by decide +kernel, rfl⟩
set_option maxRecDepth 100000 in
theorem d_L_law_765 : Dj m_L_law 765 (.if_icmp .eq) 768 1739 := ⟨974, by decide +kernel, rfl, by decide⟩
set_option maxRecDepth 100000 in
theorem d_L_law_768 : Dc m_L_law 768 (.iconst 0) 1 769 := ⟨by decide +kernel, rfl⟩
set_option maxRecDepth 100000 in
theorem d_L_law_769 : Dc m_L_law 769 .ireturn 1 770 := ⟨by decide +kernel, rfl⟩
set_option maxRecDepth 100000 in
theorem d_L_law_770 : Dc m_L_law 770 (.aload_n 1) 1 771 := ⟨by decide +kernel, rfl⟩
set_option maxRecDepth 100000 in
theorem d_L_law_771 : Dc m_L_law 771 (.aload_n 0) 1 772 := ⟨by decide +kernel, rfl⟩
set_option maxRecDepth 100000 in
theorem d_L_law_772 : Dc m_L_law 772 (.iload_n 3) 1 773 := ⟨by decide +kernel, rfl⟩
set_option maxRecDepth 100000 in
theorem d_L_law_773 : Dc m_L_law 773 (.iconst 1) 1 774 := ⟨by decide +kernel, rfl⟩
set_option maxRecDepth 100000 in
theorem d_L_law_774 : Dc m_L_law 774 .iadd 1 775 := ⟨by decide +kernel, rfl⟩
set_option maxRecDepth 100000 in
theorem d_L_law_775 : Dc m_L_law 775 .iaload 1 776 := ⟨by decide +kernel, rfl⟩
set_option maxRecDepth 100000 in
theorem d_L_law_776 : Dc m_L_law 776 (.aload_n 0) 1 777 := ⟨by decide +kernel, rfl⟩
set_option maxRecDepth 100000 in
theorem d_L_law_777 : Dc m_L_law 777 (.iload_n 3) 1 778 := ⟨by decide +kernel, rfl⟩
set_option maxRecDepth 100000 in
theorem d_L_law_778 : Dc m_L_law 778 (.iconst 2) 1 779 := ⟨by decide +kernel, rfl⟩
set_option maxRecDepth 100000 in
theorem d_L_law_779 : Dc m_L_law 779 .iadd 1 780 := ⟨by decide +kernel, rfl⟩
set_option maxRecDepth 100000 in
theorem d_L_law_780 : Dc m_L_law 780 .iaload 1 781 := ⟨by decide +kernel, rfl⟩
set_option maxRecDepth 100000 in
theorem d_L_law_781 : Dc m_L_law 781 (.invokevirtual 81) 3 784 := ⟨by decide +kernel, rfl⟩
set_option maxRecDepth 100000 in
theorem d_L_law_784 : Dc m_L_law 784 (.aload_n 2) 1 785 := ⟨by decide +kernel, rfl⟩
set_option maxRecDepth 100000 in
theorem d_L_law_785 : Dc m_L_law 785 (.aload_n 0) 1 786 := ⟨by decide +kernel, rfl⟩
set_option maxRecDepth 100000 in
theorem d_L_law_786 : Dc m_L_law 786 (.iload_n 3) 1 787 := ⟨by decide +kernel, rfl⟩
set_option maxRecDepth 100000 in
theorem d_L_law_787 : Dc m_L_law 787 (.iconst 1) 1 788 := ⟨by decide +kernel, rfl⟩
set_option maxRecDepth 100000 in
theorem d_L_law_788 : Dc m_L_law 788 .iadd 1 789 := ⟨by decide +kernel, rfl⟩
set_option maxRecDepth 100000 in
theorem d_L_law_789 : Dc m_L_law 789 .iaload 1 790 := ⟨by decide +kernel, rfl⟩
set_option maxRecDepth 100000 in
theorem d_L_law_790 : Dc m_L_law 790 (.aload_n 0) 1 791 := ⟨by decide +kernel, rfl⟩
set_option maxRecDepth 100000 in
theorem d_L_law_791 : Dc m_L_law 791 (.iload_n 3) 1 792 := ⟨by decide +kernel, rfl⟩
set_option maxRecDepth 100000 in
theorem d_L_law_792 : Dc m_L_law 792 (.iconst 2) 1 793 := ⟨by decide +kernel, rfl⟩
set_option maxRecDepth 100000 in
theorem d_L_law_793 : Dc m_L_law 793 .iadd 1 794 := ⟨by decide +kernel, rfl⟩
set_option maxRecDepth 100000 in
theorem d_L_law_794 : Dc m_L_law 794 .iaload 1 795 := ⟨by decide +kernel, rfl⟩
set_option maxRecDepth 100000 in
theorem d_L_law_795 : Dc m_L_law 795 (.invokevirtual 84) 3 798 := ⟨by decide +kernel, rfl⟩
set_option maxRecDepth 100000 in
theorem d_L_law_798 : Dj m_L_law 798 (.if_icmp .eq) 801 1739 := ⟨941, by decide +kernel, rfl, by decide⟩
set_option maxRecDepth 100000 in
theorem d_L_law_801 : Dc m_L_law 801 (.iconst 0) 1 802 := ⟨by decide +kernel, rfl⟩
set_option maxRecDepth 100000 in
theorem d_L_law_802 : Dc m_L_law 802 .ireturn 1 803 := ⟨by decide +kernel, rfl⟩
set_option maxRecDepth 100000 in
theorem d_L_law_803 : Dc m_L_law 803 (.aload_n 1) 1 804 := ⟨by decide +kernel, rfl⟩
set_option maxRecDepth 100000 in
theorem d_L_law_804 : Dc m_L_law 804 (.aload_n 0) 1 805 := ⟨by decide +kernel, rfl⟩
set_option maxRecDepth 100000 in
theorem d_L_law_805 : Dc m_L_law 805 (.iload_n 3) 1 806 := ⟨by decide +kernel, rfl⟩
set_option maxRecDepth 100000 in
theorem d_L_law_806 : Dc m_L_law 806 (.iconst 1) 1 807 := ⟨by decide +kernel, rfl⟩
set_option maxRecDepth 100000 in
theorem d_L_law_807 : Dc m_L_law 807 .iadd 1 808 := ⟨by decide +kernel, rfl⟩
set_option maxRecDepth 100000 in
theorem d_L_law_808 : Dc m_L_law 808 .iaload 1 809 := ⟨by decide +kernel, rfl⟩
set_option maxRecDepth 100000 in
theorem d_L_law_809 : Dc m_L_law 809 (.invokevirtual 85) 3 812 := ⟨by decide +kernel, rfl⟩
set_option maxRecDepth 100000 in
theorem d_L_law_812 : Dc m_L_law 812 (.aload_n 2) 1 813 := ⟨by decide +kernel, rfl⟩
set_option maxRecDepth 100000 in
theorem d_L_law_813 : Dc m_L_law 813 (.aload_n 0) 1 814 := ⟨by decide +kernel, rfl⟩
set_option maxRecDepth 100000 in
theorem d_L_law_814 : Dc m_L_law 814 (.iload_n 3) 1 815 := ⟨by decide +kernel, rfl⟩
set_option maxRecDepth 100000 in
theorem d_L_law_815 : Dc m_L_law 815 (.iconst 1) 1 816 := ⟨by decide +kernel, rfl⟩
set_option maxRecDepth 100000 in
theorem d_L_law_816 : Dc m_L_law 816 .iadd 1 817 := ⟨by decide +kernel, rfl⟩
set_option maxRecDepth 100000 in
theorem d_L_law_817 : Dc m_L_law 817 .iaload 1 818 := ⟨by decide +kernel, rfl⟩
set_option maxRecDepth 100000 in
theorem d_L_law_818 : Dc m_L_law 818 (.invokevirtual 89) 3 821 := ⟨by decide +kernel, rfl⟩
set_option maxRecDepth 100000 in
theorem d_L_law_821 : Dj m_L_law 821 (.if_icmp .eq) 824 1739 := ⟨918, by decide +kernel, rfl, by decide⟩
set_option maxRecDepth 100000 in
theorem d_L_law_824 : Dc m_L_law 824 (.iconst 0) 1 825 := ⟨by decide +kernel, rfl⟩
set_option maxRecDepth 100000 in
theorem d_L_law_825 : Dc m_L_law 825 .ireturn 1 826 := ⟨by decide +kernel, rfl⟩
set_option maxRecDepth 100000 in
theorem d_L_law_826 : Dc m_L_law 826 (.aload_n 1) 1 827 := ⟨by decide +kernel, rfl⟩
set_option maxRecDepth 100000 in
theorem d_L_law_827 : Dc m_L_law 827 (.aload_n 0) 1 828 := ⟨by decide +kernel, rfl⟩
set_option maxRecDepth 100000 in
theorem d_L_law_828 : Dc m_L_law 828 (.iload_n 3) 1 829 := ⟨by decide +kernel, rfl⟩
set_option maxRecDepth 100000 in
theorem d_L_law_829 : Dc m_L_law 829 (.iconst 1) 1 830 := ⟨by decide +kernel, rfl⟩
set_option maxRecDepth 100000 in
theorem d_L_law_830 : Dc m_L_law 830 .iadd 1 831 := ⟨by decide +kernel, rfl⟩
set_option maxRecDepth 100000 in
theorem d_L_law_831 : Dc m_L_law 831 .iaload 1 832 := ⟨by decide +kernel, rfl⟩
set_option maxRecDepth 100000 in
theorem d_L_law_832 : Dc m_L_law 832 (.invokevirtual 90) 3 835 := ⟨by decide +kernel, rfl⟩
set_option maxRecDepth 100000 in
theorem d_L_law_835 : Dc m_L_law 835 (.aload_n 2) 1 836 := ⟨by decide +kernel, rfl⟩
set_option maxRecDepth 100000 in
theorem d_L_law_836 : Dc m_L_law 836 (.aload_n 0) 1 837 := ⟨by decide +kernel, rfl⟩
set_option maxRecDepth 100000 in
theorem d_L_law_837 : Dc m_L_law 837 (.iload_n 3) 1 838 := ⟨by decide +kernel, rfl⟩
set_option maxRecDepth 100000 in
theorem d_L_law_838 : Dc m_L_law 838 (.iconst 1) 1 839 := ⟨by decide +kernel, rfl⟩
set_option maxRecDepth 100000 in
theorem d_L_law_839 : Dc m_L_law 839 .iadd 1 840 := ⟨by decide +kernel, rfl⟩
set_option maxRecDepth 100000 in
theorem d_L_law_840 : Dc m_L_law 840 .iaload 1 841 := ⟨by decide +kernel, rfl⟩
set_option maxRecDepth 100000 in
theorem d_L_law_841 : Dc m_L_law 841 (.invokevirtual 93) 3 844 := ⟨by decide +kernel, rfl⟩
set_option maxRecDepth 100000 in
theorem d_L_law_844 : Dj m_L_law 844 (.if_icmp .eq) 847 1739 := ⟨895, by decide +kernel, rfl, by decide⟩
set_option maxRecDepth 100000 in
theorem d_L_law_847 : Dc m_L_law 847 (.iconst 0) 1 848 := ⟨by decide +kernel, rfl⟩
set_option maxRecDepth 100000 in
theorem d_L_law_848 : Dc m_L_law 848 .ireturn 1 849 := ⟨by decide +kernel, rfl⟩
set_option maxRecDepth 100000 in
theorem d_L_law_849 : Dc m_L_law 849 (.aload_n 1) 1 850 := ⟨by decide +kernel, rfl⟩
set_option maxRecDepth 100000 in
theorem d_L_law_850 : Dc m_L_law 850 (.aload_n 0) 1 851 := ⟨by decide +kernel, rfl⟩
set_option maxRecDepth 100000 in
theorem d_L_law_851 : Dc m_L_law 851 (.iload_n 3) 1 852 := ⟨by decide +kernel, rfl⟩
set_option maxRecDepth 100000 in
theorem d_L_law_852 : Dc m_L_law 852 (.iconst 1) 1 853 := ⟨by decide +kernel, rfl⟩
set_option maxRecDepth 100000 in
theorem d_L_law_853 : Dc m_L_law 853 .iadd 1 854 := ⟨by decide +kernel, rfl⟩
set_option maxRecDepth 100000 in
theorem d_L_law_854 : Dc m_L_law 854 .iaload 1 855 := ⟨by decide +kernel, rfl⟩
set_option maxRecDepth 100000 in
theorem d_L_law_855 : Dc m_L_law 855 (.aload_n 0) 1 856 := ⟨by decide +kernel, rfl⟩
set_option maxRecDepth 100000 in
theorem d_L_law_856 : Dc m_L_law 856 (.iload_n 3) 1 857 := ⟨by decide +kernel, rfl⟩
set_option maxRecDepth 100000 in
theorem d_L_law_857 : Dc m_L_law 857 (.iconst 2) 1 858 := ⟨by decide +kernel, rfl⟩
set_option maxRecDepth 100000 in
theorem d_L_law_858 : Dc m_L_law 858 .iadd 1 859 := ⟨by decide +kernel, rfl⟩
set_option maxRecDepth 100000 in
theorem d_L_law_859 : Dc m_L_law 859 .iaload 1 860 := ⟨by decide +kernel, rfl⟩
set_option maxRecDepth 100000 in
theorem d_L_law_860 : Dc m_L_law 860 (.invokevirtual 94) 3 863 := ⟨by decide +kernel, rfl⟩
set_option maxRecDepth 100000 in
theorem d_L_law_863 : Dc m_L_law 863 (.aload_n 2) 1 864 := ⟨by decide +kernel, rfl⟩
set_option maxRecDepth 100000 in
theorem d_L_law_864 : Dc m_L_law 864 (.aload_n 0) 1 865 := ⟨by decide +kernel, rfl⟩
set_option maxRecDepth 100000 in
theorem d_L_law_865 : Dc m_L_law 865 (.iload_n 3) 1 866 := ⟨by decide +kernel, rfl⟩
set_option maxRecDepth 100000 in
theorem d_L_law_866 : Dc m_L_law 866 (.iconst 1) 1 867 := ⟨by decide +kernel, rfl⟩
set_option maxRecDepth 100000 in
theorem d_L_law_867 : Dc m_L_law 867 .iadd 1 868 := ⟨by decide +kernel, rfl⟩
set_option maxRecDepth 100000 in
theorem d_L_law_868 : Dc m_L_law 868 .iaload 1 869 := ⟨by decide +kernel, rfl⟩
set_option maxRecDepth 100000 in
theorem d_L_law_869 : Dc m_L_law 869 (.aload_n 0) 1 870 := ⟨by decide +kernel, rfl⟩
set_option maxRecDepth 100000 in
theorem d_L_law_870 : Dc m_L_law 870 (.iload_n 3) 1 871 := ⟨by decide +kernel, rfl⟩
set_option maxRecDepth 100000 in
theorem d_L_law_871 : Dc m_L_law 871 (.iconst 2) 1 872 := ⟨by decide +kernel, rfl⟩
set_option maxRecDepth 100000 in
theorem d_L_law_872 : Dc m_L_law 872 .iadd 1 873 := ⟨by decide +kernel, rfl⟩
set_option maxRecDepth 100000 in
theorem d_L_law_873 : Dc m_L_law 873 .iaload 1 874 := ⟨by decide +kernel, rfl⟩
set_option maxRecDepth 100000 in
theorem d_L_law_874 : Dc m_L_law 874 (.invokevirtual 98) 3 877 := ⟨by decide +kernel, rfl⟩
set_option maxRecDepth 100000 in
theorem d_L_law_877 : Dc m_L_law 877 .lcmp 1 878 := ⟨by decide +kernel, rfl⟩
set_option maxRecDepth 100000 in
theorem d_L_law_878 : Dj m_L_law 878 (.ifCond .eq) 881 1739 := ⟨861, by decide +kernel, rfl, by decide⟩
set_option maxRecDepth 100000 in
theorem d_L_law_881 : Dc m_L_law 881 (.iconst 0) 1 882 := ⟨by decide +kernel, rfl⟩
set_option maxRecDepth 100000 in
theorem d_L_law_882 : Dc m_L_law 882 .ireturn 1 883 := ⟨by decide +kernel, rfl⟩
set_option maxRecDepth 100000 in
theorem d_L_law_883 : Dc m_L_law 883 (.aload_n 1) 1 884 := ⟨by decide +kernel, rfl⟩
set_option maxRecDepth 100000 in
theorem d_L_law_884 : Dc m_L_law 884 (.aload_n 0) 1 885 := ⟨by decide +kernel, rfl⟩
set_option maxRecDepth 100000 in
theorem d_L_law_885 : Dc m_L_law 885 (.iload_n 3) 1 886 := ⟨by decide +kernel, rfl⟩
set_option maxRecDepth 100000 in
theorem d_L_law_886 : Dc m_L_law 886 (.iconst 1) 1 887 := ⟨by decide +kernel, rfl⟩
set_option maxRecDepth 100000 in
theorem d_L_law_887 : Dc m_L_law 887 .iadd 1 888 := ⟨by decide +kernel, rfl⟩
set_option maxRecDepth 100000 in
theorem d_L_law_888 : Dc m_L_law 888 .iaload 1 889 := ⟨by decide +kernel, rfl⟩
set_option maxRecDepth 100000 in
theorem d_L_law_889 : Dc m_L_law 889 (.aload_n 0) 1 890 := ⟨by decide +kernel, rfl⟩
set_option maxRecDepth 100000 in
theorem d_L_law_890 : Dc m_L_law 890 (.iload_n 3) 1 891 := ⟨by decide +kernel, rfl⟩
set_option maxRecDepth 100000 in
theorem d_L_law_891 : Dc m_L_law 891 (.iconst 2) 1 892 := ⟨by decide +kernel, rfl⟩
set_option maxRecDepth 100000 in
theorem d_L_law_892 : Dc m_L_law 892 .iadd 1 893 := ⟨by decide +kernel, rfl⟩
set_option maxRecDepth 100000 in
theorem d_L_law_893 : Dc m_L_law 893 .iaload 1 894 := ⟨by decide +kernel, rfl⟩
set_option maxRecDepth 100000 in
theorem d_L_law_894 : Dc m_L_law 894 (.aload_n 0) 1 895 := ⟨by decide +kernel, rfl⟩
set_option maxRecDepth 100000 in
theorem d_L_law_895 : Dc m_L_law 895 (.iload_n 3) 1 896 := ⟨by decide +kernel, rfl⟩
set_option maxRecDepth 100000 in
theorem d_L_law_896 : Dc m_L_law 896 (.iconst 3) 1 897 := ⟨by decide +kernel, rfl⟩
set_option maxRecDepth 100000 in
theorem d_L_law_897 : Dc m_L_law 897 .iadd 1 898 := ⟨by decide +kernel, rfl⟩
set_option maxRecDepth 100000 in
theorem d_L_law_898 : Dc m_L_law 898 .iaload 1 899 := ⟨by decide +kernel, rfl⟩
set_option maxRecDepth 100000 in
theorem d_L_law_899 : Dc m_L_law 899 (.invokevirtual 99) 3 902 := ⟨by decide +kernel, rfl⟩
set_option maxRecDepth 100000 in
theorem d_L_law_902 : Dc m_L_law 902 (.aload_n 2) 1 903 := ⟨by decide +kernel, rfl⟩
set_option maxRecDepth 100000 in
theorem d_L_law_903 : Dc m_L_law 903 (.aload_n 0) 1 904 := ⟨by decide +kernel, rfl⟩
set_option maxRecDepth 100000 in
theorem d_L_law_904 : Dc m_L_law 904 (.iload_n 3) 1 905 := ⟨by decide +kernel, rfl⟩
set_option maxRecDepth 100000 in
theorem d_L_law_905 : Dc m_L_law 905 (.iconst 1) 1 906 := ⟨by decide +kernel, rfl⟩
set_option maxRecDepth 100000 in
theorem d_L_law_906 : Dc m_L_law 906 .iadd 1 907 := ⟨by decide +kernel, rfl⟩
set_option maxRecDepth 100000 in
theorem d_L_law_907 : Dc m_L_law 907 .iaload 1 908 := ⟨by decide +kernel, rfl⟩
set_option maxRecDepth 100000 in
theorem d_L_law_908 : Dc m_L_law 908 (.aload_n 0) 1 909 := ⟨by decide +kernel, rfl⟩
set_option maxRecDepth 100000 in
theorem d_L_law_909 : Dc m_L_law 909 (.iload_n 3) 1 910 := ⟨by decide +kernel, rfl⟩
set_option maxRecDepth 100000 in
theorem d_L_law_910 : Dc m_L_law 910 (.iconst 2) 1 911 := ⟨by decide +kernel, rfl⟩
set_option maxRecDepth 100000 in
theorem d_L_law_911 : Dc m_L_law 911 .iadd 1 912 := ⟨by decide +kernel, rfl⟩
set_option maxRecDepth 100000 in
theorem d_L_law_912 : Dc m_L_law 912 .iaload 1 913 := ⟨by decide +kernel, rfl⟩
set_option maxRecDepth 100000 in
theorem d_L_law_913 : Dc m_L_law 913 (.aload_n 0) 1 914 := ⟨by decide +kernel, rfl⟩
set_option maxRecDepth 100000 in
theorem d_L_law_914 : Dc m_L_law 914 (.iload_n 3) 1 915 := ⟨by decide +kernel, rfl⟩
set_option maxRecDepth 100000 in
theorem d_L_law_915 : Dc m_L_law 915 (.iconst 3) 1 916 := ⟨by decide +kernel, rfl⟩
set_option maxRecDepth 100000 in
theorem d_L_law_916 : Dc m_L_law 916 .iadd 1 917 := ⟨by decide +kernel, rfl⟩
set_option maxRecDepth 100000 in
theorem d_L_law_917 : Dc m_L_law 917 .iaload 1 918 := ⟨by decide +kernel, rfl⟩
set_option maxRecDepth 100000 in
theorem d_L_law_918 : Dc m_L_law 918 (.invokevirtual 103) 3 921 := ⟨by decide +kernel, rfl⟩
set_option maxRecDepth 100000 in
theorem d_L_law_921 : Dc m_L_law 921 .lcmp 1 922 := ⟨by decide +kernel, rfl⟩
set_option maxRecDepth 100000 in
theorem d_L_law_922 : Dj m_L_law 922 (.ifCond .eq) 925 1739 := ⟨817, by decide +kernel, rfl, by decide⟩
set_option maxRecDepth 100000 in
theorem d_L_law_925 : Dc m_L_law 925 (.iconst 0) 1 926 := ⟨by decide +kernel, rfl⟩
set_option maxRecDepth 100000 in
theorem d_L_law_926 : Dc m_L_law 926 .ireturn 1 927 := ⟨by decide +kernel, rfl⟩
set_option maxRecDepth 100000 in
theorem d_L_law_927 : Dc m_L_law 927 (.aload_n 1) 1 928 := ⟨by decide +kernel, rfl⟩
set_option maxRecDepth 100000 in
theorem d_L_law_928 : Dc m_L_law 928 (.aload_n 0) 1 929 := ⟨by decide +kernel, rfl⟩
set_option maxRecDepth 100000 in
theorem d_L_law_929 : Dc m_L_law 929 (.iload_n 3) 1 930 := ⟨by decide +kernel, rfl⟩
set_option maxRecDepth 100000 in
theorem d_L_law_930 : Dc m_L_law 930 (.iconst 1) 1 931 := ⟨by decide +kernel, rfl⟩
set_option maxRecDepth 100000 in
theorem d_L_law_931 : Dc m_L_law 931 .iadd 1 932 := ⟨by decide +kernel, rfl⟩
set_option maxRecDepth 100000 in
theorem d_L_law_932 : Dc m_L_law 932 .iaload 1 933 := ⟨by decide +kernel, rfl⟩
set_option maxRecDepth 100000 in
theorem d_L_law_933 : Dc m_L_law 933 (.aload_n 0) 1 934 := ⟨by decide +kernel, rfl⟩
set_option maxRecDepth 100000 in
theorem d_L_law_934 : Dc m_L_law 934 (.iload_n 3) 1 935 := ⟨by decide +kernel, rfl⟩
set_option maxRecDepth 100000 in
theorem d_L_law_935 : Dc m_L_law 935 (.iconst 2) 1 936 := ⟨by decide +kernel, rfl⟩
set_option maxRecDepth 100000 in
theorem d_L_law_936 : Dc m_L_law 936 .iadd 1 937 := ⟨by decide +kernel, rfl⟩
set_option maxRecDepth 100000 in
theorem d_L_law_937 : Dc m_L_law 937 .iaload 1 938 := ⟨by decide +kernel, rfl⟩
set_option maxRecDepth 100000 in
theorem d_L_law_938 : Dc m_L_law 938 (.invokevirtual 104) 3 941 := ⟨by decide +kernel, rfl⟩
set_option maxRecDepth 100000 in
theorem d_L_law_941 : Dc m_L_law 941 (.aload_n 2) 1 942 := ⟨by decide +kernel, rfl⟩
set_option maxRecDepth 100000 in
theorem d_L_law_942 : Dc m_L_law 942 (.aload_n 0) 1 943 := ⟨by decide +kernel, rfl⟩
set_option maxRecDepth 100000 in
theorem d_L_law_943 : Dc m_L_law 943 (.iload_n 3) 1 944 := ⟨by decide +kernel, rfl⟩
set_option maxRecDepth 100000 in
theorem d_L_law_944 : Dc m_L_law 944 (.iconst 1) 1 945 := ⟨by decide +kernel, rfl⟩
set_option maxRecDepth 100000 in
theorem d_L_law_945 : Dc m_L_law 945 .iadd 1 946 := ⟨by decide +kernel, rfl⟩
set_option maxRecDepth 100000 in
theorem d_L_law_946 : Dc m_L_law 946 .iaload 1 947 := ⟨by decide +kernel, rfl⟩
set_option maxRecDepth 100000 in
theorem d_L_law_947 : Dc m_L_law 947 (.aload_n 0) 1 948 := ⟨by decide +kernel, rfl⟩
set_option maxRecDepth 100000 in
theorem d_L_law_948 : Dc m_L_law 948 (.iload_n 3) 1 949 := ⟨by decide +kernel, rfl⟩
set_option maxRecDepth 100000 in
theorem d_L_law_949 : Dc m_L_law 949 (.iconst 2) 1 950 := ⟨by decide +kernel, rfl⟩
set_option maxRecDepth 100000 in
theorem d_L_law_950 : Dc m_L_law 950 .iadd 1 951 := ⟨by decide +kernel, rfl⟩
set_option maxRecDepth 100000 in
theorem d_L_law_951 : Dc m_L_law 951 .iaload 1 952 := ⟨by decide +kernel, rfl⟩
set_option maxRecDepth 100000 in
theorem d_L_law_952 : Dc m_L_law 952 (.invokevirtual 107) 3 955 := ⟨by decide +kernel, rfl⟩
set_option maxRecDepth 100000 in
theorem d_L_law_955 : Dj m_L_law 955 (.if_icmp .eq) 958 1739 := ⟨784, by decide +kernel, rfl, by decide⟩
set_option maxRecDepth 100000 in
theorem d_L_law_958 : Dc m_L_law 958 (.iconst 0) 1 959 := ⟨by decide +kernel, rfl⟩
set_option maxRecDepth 100000 in
theorem d_L_law_959 : Dc m_L_law 959 .ireturn 1 960 := ⟨by decide +kernel, rfl⟩
set_option maxRecDepth 100000 in
theorem d_L_law_960 : Dc m_L_law 960 (.aload_n 1) 1 961 := ⟨by decide +kernel, rfl⟩
set_option maxRecDepth 100000 in
theorem d_L_law_961 : Dc m_L_law 961 (.aload_n 0) 1 962 := ⟨by decide +kernel, rfl⟩
set_option maxRecDepth 100000 in
theorem d_L_law_962 : Dc m_L_law 962 (.iload_n 3) 1 963 := ⟨by decide +kernel, rfl⟩
set_option maxRecDepth 100000 in
theorem d_L_law_963 : Dc m_L_law 963 (.iconst 1) 1 964 := ⟨by decide +kernel, rfl⟩
set_option maxRecDepth 100000 in
theorem d_L_law_964 : Dc m_L_law 964 .iadd 1 965 := ⟨by decide +kernel, rfl⟩
set_option maxRecDepth 100000 in
theorem d_L_law_965 : Dc m_L_law 965 .iaload 1 966 := ⟨by decide +kernel, rfl⟩
set_option maxRecDepth 100000 in
theorem d_L_law_966 : Dc m_L_law 966 (.aload_n 0) 1 967 := ⟨by decide +kernel, rfl⟩
set_option maxRecDepth 100000 in
theorem d_L_law_967 : Dc m_L_law 967 (.iload_n 3) 1 968 := ⟨by decide +kernel, rfl⟩
set_option maxRecDepth 100000 in
theorem d_L_law_968 : Dc m_L_law 968 (.iconst 2) 1 969 := ⟨by decide +kernel, rfl⟩
set_option maxRecDepth 100000 in
theorem d_L_law_969 : Dc m_L_law 969 .iadd 1 970 := ⟨by decide +kernel, rfl⟩
set_option maxRecDepth 100000 in
theorem d_L_law_970 : Dc m_L_law 970 .iaload 1 971 := ⟨by decide +kernel, rfl⟩
set_option maxRecDepth 100000 in
theorem d_L_law_971 : Dc m_L_law 971 (.aload_n 0) 1 972 := ⟨by decide +kernel, rfl⟩
set_option maxRecDepth 100000 in
theorem d_L_law_972 : Dc m_L_law 972 (.iload_n 3) 1 973 := ⟨by decide +kernel, rfl⟩
set_option maxRecDepth 100000 in
theorem d_L_law_973 : Dc m_L_law 973 (.iconst 3) 1 974 := ⟨by decide +kernel, rfl⟩
set_option maxRecDepth 100000 in
theorem d_L_law_974 : Dc m_L_law 974 .iadd 1 975 := ⟨by decide +kernel, rfl⟩
set_option maxRecDepth 100000 in
theorem d_L_law_975 : Dc m_L_law 975 .iaload 1 976 := ⟨by decide +kernel, rfl⟩
set_option maxRecDepth 100000 in
theorem d_L_law_976 : Dc m_L_law 976 (.aload_n 0) 1 977 := ⟨by decide +kernel, rfl⟩
set_option maxRecDepth 100000 in
theorem d_L_law_977 : Dc m_L_law 977 (.iload_n 3) 1 978 := ⟨by decide +kernel, rfl⟩
set_option maxRecDepth 100000 in
theorem d_L_law_978 : Dc m_L_law 978 (.iconst 4) 1 979 := ⟨by decide +kernel, rfl⟩
set_option maxRecDepth 100000 in
theorem d_L_law_979 : Dc m_L_law 979 .iadd 1 980 := ⟨by decide +kernel, rfl⟩
set_option maxRecDepth 100000 in
theorem d_L_law_980 : Dc m_L_law 980 .iaload 1 981 := ⟨by decide +kernel, rfl⟩
set_option maxRecDepth 100000 in
theorem d_L_law_981 : Dc m_L_law 981 (.invokevirtual 108) 3 984 := ⟨by decide +kernel, rfl⟩
set_option maxRecDepth 100000 in
theorem d_L_law_984 : Dc m_L_law 984 (.aload_n 2) 1 985 := ⟨by decide +kernel, rfl⟩
set_option maxRecDepth 100000 in
theorem d_L_law_985 : Dc m_L_law 985 (.aload_n 0) 1 986 := ⟨by decide +kernel, rfl⟩
set_option maxRecDepth 100000 in
theorem d_L_law_986 : Dc m_L_law 986 (.iload_n 3) 1 987 := ⟨by decide +kernel, rfl⟩
set_option maxRecDepth 100000 in
theorem d_L_law_987 : Dc m_L_law 987 (.iconst 1) 1 988 := ⟨by decide +kernel, rfl⟩
set_option maxRecDepth 100000 in
theorem d_L_law_988 : Dc m_L_law 988 .iadd 1 989 := ⟨by decide +kernel, rfl⟩
set_option maxRecDepth 100000 in
theorem d_L_law_989 : Dc m_L_law 989 .iaload 1 990 := ⟨by decide +kernel, rfl⟩
set_option maxRecDepth 100000 in
theorem d_L_law_990 : Dc m_L_law 990 (.aload_n 0) 1 991 := ⟨by decide +kernel, rfl⟩
set_option maxRecDepth 100000 in
theorem d_L_law_991 : Dc m_L_law 991 (.iload_n 3) 1 992 := ⟨by decide +kernel, rfl⟩
set_option maxRecDepth 100000 in
theorem d_L_law_992 : Dc m_L_law 992 (.iconst 2) 1 993 := ⟨by decide +kernel, rfl⟩
set_option maxRecDepth 100000 in
theorem d_L_law_993 : Dc m_L_law 993 .iadd 1 994 := ⟨by decide +kernel, rfl⟩
set_option maxRecDepth 100000 in
theorem d_L_law_994 : Dc m_L_law 994 .iaload 1 995 := ⟨by decide +kernel, rfl⟩
set_option maxRecDepth 100000 in
theorem d_L_law_995 : Dc m_L_law 995 (.aload_n 0) 1 996 := ⟨by decide +kernel, rfl⟩
set_option maxRecDepth 100000 in
theorem d_L_law_996 : Dc m_L_law 996 (.iload_n 3) 1 997 := ⟨by decide +kernel, rfl⟩
set_option maxRecDepth 100000 in
theorem d_L_law_997 : Dc m_L_law 997 (.iconst 3) 1 998 := ⟨by decide +kernel, rfl⟩
set_option maxRecDepth 100000 in
theorem d_L_law_998 : Dc m_L_law 998 .iadd 1 999 := ⟨by decide +kernel, rfl⟩
set_option maxRecDepth 100000 in
theorem d_L_law_999 : Dc m_L_law 999 .iaload 1 1000 := ⟨by decide +kernel, rfl⟩
set_option maxRecDepth 100000 in
theorem d_L_law_1000 : Dc m_L_law 1000 (.aload_n 0) 1 1001 := ⟨by decide +kernel, rfl⟩
set_option maxRecDepth 100000 in
theorem d_L_law_1001 : Dc m_L_law 1001 (.iload_n 3) 1 1002 := ⟨by decide +kernel, rfl⟩
set_option maxRecDepth 100000 in
theorem d_L_law_1002 : Dc m_L_law 1002 (.iconst 4) 1 1003 := ⟨by decide +kernel, rfl⟩
set_option maxRecDepth 100000 in
theorem d_L_law_1003 : Dc m_L_law 1003 .iadd 1 1004 := ⟨by decide +kernel, rfl⟩
set_option maxRecDepth 100000 in
theorem d_L_law_1004 : Dc m_L_law 1004 .iaload 1 1005 := ⟨by decide +kernel, rfl⟩
set_option maxRecDepth 100000 in
theorem d_L_law_1005 : Dc m_L_law 1005 (.invokevirtual 111) 3 1008 := ⟨by decide +kernel, rfl⟩
set_option maxRecDepth 100000 in
theorem d_L_law_1008 : Dj m_L_law 1008 (.if_icmp .eq) 1011 1739 := ⟨731, by decide +kernel, rfl, by decide⟩
set_option maxRecDepth 100000 in
theorem d_L_law_1011 : Dc m_L_law 1011 (.iconst 0) 1 1012 := ⟨by decide +kernel, rfl⟩
set_option maxRecDepth 100000 in
theorem d_L_law_1012 : Dc m_L_law 1012 .ireturn 1 1013 := ⟨by decide +kernel, rfl⟩
set_option maxRecDepth 100000 in
theorem d_L_law_1013 : Dc m_L_law 1013 (.aload_n 1) 1 1014 := ⟨by decide +kernel, rfl⟩
set_option maxRecDepth 100000 in
theorem d_L_law_1014 : Dc m_L_law 1014 (.aload_n 0) 1 1015 := ⟨by decide +kernel, rfl⟩
set_option maxRecDepth 100000 in
theorem d_L_law_1015 : Dc m_L_law 1015 (.iload_n 3) 1 1016 := ⟨by decide +kernel, rfl⟩
set_option maxRecDepth 100000 in
theorem d_L_law_1016 : Dc m_L_law 1016 (.iconst 1) 1 1017 := ⟨by decide +kernel, rfl⟩
set_option maxRecDepth 100000 in
theorem d_L_law_1017 : Dc m_L_law 1017 .iadd 1 1018 := ⟨by decide +kernel, rfl⟩
set_option maxRecDepth 100000 in
theorem d_L_law_1018 : Dc m_L_law 1018 .iaload 1 1019 := ⟨by decide +kernel, rfl⟩
set_option maxRecDepth 100000 in
theorem d_L_law_1019 : Dc m_L_law 1019 (.aload_n 0) 1 1020 := ⟨by decide +kernel, rfl⟩
set_option maxRecDepth 100000 in
theorem d_L_law_1020 : Dc m_L_law 1020 (.iload_n 3) 1 1021 := ⟨by decide +kernel, rfl⟩
set_option maxRecDepth 100000 in
theorem d_L_law_1021 : Dc m_L_law 1021 (.iconst 2) 1 1022 := ⟨by decide +kernel, rfl⟩
set_option maxRecDepth 100000 in
theorem d_L_law_1022 : Dc m_L_law 1022 .iadd 1 1023 := ⟨by decide +kernel, rfl⟩
set_option maxRecDepth 100000 in
theorem d_L_law_1023 : Dc m_L_law 1023 .iaload 1 1024 := ⟨by decide +kernel, rfl⟩
set_option maxRecDepth 100000 in
theorem d_L_law_1024 : Dc m_L_law 1024 (.aload_n 0) 1 1025 := ⟨by decide +kernel, rfl⟩
set_option maxRecDepth 100000 in
theorem d_L_law_1025 : Dc m_L_law 1025 (.iload_n 3) 1 1026 := ⟨by decide +kernel, rfl⟩
set_option maxRecDepth 100000 in
theorem d_L_law_1026 : Dc m_L_law 1026 (.iconst 3) 1 1027 := ⟨by decide +kernel, rfl⟩
set_option maxRecDepth 100000 in
theorem d_L_law_1027 : Dc m_L_law 1027 .iadd 1 1028 := ⟨by decide +kernel, rfl⟩
set_option maxRecDepth 100000 in
theorem d_L_law_1028 : Dc m_L_law 1028 .iaload 1 1029 := ⟨by decide +kernel, rfl⟩
set_option maxRecDepth 100000 in
theorem d_L_law_1029 : Dc m_L_law 1029 (.invokevirtual 112) 3 1032 := ⟨by decide +kernel, rfl⟩
set_option maxRecDepth 100000 in
theorem d_L_law_1032 : Dc m_L_law 1032 (.aload_n 2) 1 1033 := ⟨by decide +kernel, rfl⟩
set_option maxRecDepth 100000 in
theorem d_L_law_1033 : Dc m_L_law 1033 (.aload_n 0) 1 1034 := ⟨by decide +kernel, rfl⟩
set_option maxRecDepth 100000 in
theorem d_L_law_1034 : Dc m_L_law 1034 (.iload_n 3) 1 1035 := ⟨by decide +kernel, rfl⟩
set_option maxRecDepth 100000 in
theorem d_L_law_1035 : Dc m_L_law 1035 (.iconst 1) 1 1036 := ⟨by decide +kernel, rfl⟩
set_option maxRecDepth 100000 in
theorem d_L_law_1036 : Dc m_L_law 1036 .iadd 1 1037 := ⟨by decide +kernel, rfl⟩
set_option maxRecDepth 100000 in
theorem d_L_law_1037 : Dc m_L_law 1037 .iaload 1 1038 := ⟨by decide +kernel, rfl⟩
set_option maxRecDepth 100000 in
theorem d_L_law_1038 : Dc m_L_law 1038 (.aload_n 0) 1 1039 := ⟨by decide +kernel, rfl⟩
set_option maxRecDepth 100000 in
theorem d_L_law_1039 : Dc m_L_law 1039 (.iload_n 3) 1 1040 := ⟨by decide +kernel, rfl⟩
set_option maxRecDepth 100000 in
theorem d_L_law_1040 : Dc m_L_law 1040 (.iconst 2) 1 1041 := ⟨by decide +kernel, rfl⟩
set_option maxRecDepth 100000 in
theorem d_L_law_1041 : Dc m_L_law 1041 .iadd 1 1042 := ⟨by decide +kernel, rfl⟩
set_option maxRecDepth 100000 in
theorem d_L_law_1042 : Dc m_L_law 1042 .iaload 1 1043 := ⟨by decide +kernel, rfl⟩
set_option maxRecDepth 100000 in
theorem d_L_law_1043 : Dc m_L_law 1043 (.aload_n 0) 1 1044 := ⟨by decide +kernel, rfl⟩
set_option maxRecDepth 100000 in
theorem d_L_law_1044 : Dc m_L_law 1044 (.iload_n 3) 1 1045 := ⟨by decide +kernel, rfl⟩
set_option maxRecDepth 100000 in
theorem d_L_law_1045 : Dc m_L_law 1045 (.iconst 3) 1 1046 := ⟨by decide +kernel, rfl⟩
set_option maxRecDepth 100000 in
theorem d_L_law_1046 : Dc m_L_law 1046 .iadd 1 1047 := ⟨by decide +kernel, rfl⟩
set_option maxRecDepth 100000 in
theorem d_L_law_1047 : Dc m_L_law 1047 .iaload 1 1048 := ⟨by decide +kernel, rfl⟩
set_option maxRecDepth 100000 in
theorem d_L_law_1048 : Dc m_L_law 1048 (.invokevirtual 115) 3 1051 := ⟨by decide +kernel, rfl⟩
set_option maxRecDepth 100000 in
theorem d_L_law_1051 : Dj m_L_law 1051 (.if_icmp .eq) 1054 1739 := ⟨688, by decide +kernel, rfl, by decide⟩
set_option maxRecDepth 100000 in
theorem d_L_law_1054 : Dc m_L_law 1054 (.iconst 0) 1 1055 := ⟨by decide +kernel, rfl⟩
set_option maxRecDepth 100000 in
theorem d_L_law_1055 : Dc m_L_law 1055 .ireturn 1 1056 := ⟨by decide +kernel, rfl⟩
set_option maxRecDepth 100000 in
theorem d_L_law_1056 : Dc m_L_law 1056 (.aload_n 1) 1 1057 := ⟨by decide +kernel, rfl⟩
set_option maxRecDepth 100000 in
theorem d_L_law_1057 : Dc m_L_law 1057 (.aload_n 0) 1 1058 := ⟨by decide +kernel, rfl⟩
set_option maxRecDepth 100000 in
theorem d_L_law_1058 : Dc m_L_law 1058 (.iload_n 3) 1 1059 := ⟨by decide +kernel, rfl⟩
set_option maxRecDepth 100000 in
theorem d_L_law_1059 : Dc m_L_law 1059 (.iconst 1) 1 1060 := ⟨by decide +kernel, rfl⟩
set_option maxRecDepth 100000 in
theorem d_L_law_1060 : Dc m_L_law 1060 .iadd 1 1061 := ⟨by decide +kernel, rfl⟩
set_option maxRecDepth 100000 in
theorem d_L_law_1061 : Dc m_L_law 1061 .iaload 1 1062 := ⟨by decide +kernel, rfl⟩
set_option maxRecDepth 100000 in
theorem d_L_law_1062 : Dc m_L_law 1062 (.invokevirtual 116) 3 1065 := ⟨by decide +kernel, rfl⟩
set_option maxRecDepth 100000 in
theorem d_L_law_1065 : Dc m_L_law 1065 (.aload_n 2) 1 1066 := ⟨by decide +kernel, rfl⟩
set_option maxRecDepth 100000 in
theorem d_L_law_1066 : Dc m_L_law 1066 (.aload_n 0) 1 1067 := ⟨by decide +kernel, rfl⟩
set_option maxRecDepth 100000 in
theorem d_L_law_1067 : Dc m_L_law 1067 (.iload_n 3) 1 1068 := ⟨by decide +kernel, rfl⟩
set_option maxRecDepth 100000 in
theorem d_L_law_1068 : Dc m_L_law 1068 (.iconst 1) 1 1069 := ⟨by decide +kernel, rfl⟩
set_option maxRecDepth 100000 in
theorem d_L_law_1069 : Dc m_L_law 1069 .iadd 1 1070 := ⟨by decide +kernel, rfl⟩
set_option maxRecDepth 100000 in
theorem d_L_law_1070 : Dc m_L_law 1070 .iaload 1 1071 := ⟨by decide +kernel, rfl⟩
set_option maxRecDepth 100000 in
theorem d_L_law_1071 : Dc m_L_law 1071 (.invokevirtual 119) 3 1074 := ⟨by decide +kernel, rfl⟩
set_option maxRecDepth 100000 in
theorem d_L_law_1074 : Dj m_L_law 1074 (.if_icmp .eq) 1077 1739 := ⟨665, by decide +kernel, rfl, by decide⟩
set_option maxRecDepth 100000 in
theorem d_L_law_1077 : Dc m_L_law 1077 (.iconst 0) 1 1078 := ⟨by decide +kernel, rfl⟩
set_option maxRecDepth 100000 in
theorem d_L_law_1078 : Dc m_L_law 1078 .ireturn 1 1079 := ⟨by decide +kernel, rfl⟩
set_option maxRecDepth 100000 in
theorem d_L_law_1079 : Dc m_L_law 1079 (.aload_n 1) 1 1080 := ⟨by decide +kernel, rfl⟩
set_option maxRecDepth 100000 in
theorem d_L_law_1080 : Dc m_L_law 1080 (.aload_n 0) 1 1081 := ⟨by decide +kernel, rfl⟩
set_option maxRecDepth 100000 in
theorem d_L_law_1081 : Dc m_L_law 1081 (.iload_n 3) 1 1082 := ⟨by decide +kernel, rfl⟩
set_option maxRecDepth 100000 in
theorem d_L_law_1082 : Dc m_L_law 1082 (.iconst 1) 1 1083 := ⟨by decide +kernel, rfl⟩
set_option maxRecDepth 100000 in
theorem d_L_law_1083 : Dc m_L_law 1083 .iadd 1 1084 := ⟨by decide +kernel, rfl⟩
set_option maxRecDepth 100000 in
theorem d_L_law_1084 : Dc m_L_law 1084 .iaload 1 1085 := ⟨by decide +kernel, rfl⟩
set_option maxRecDepth 100000 in
theorem d_L_law_1085 : Dc m_L_law 1085 (.aload_n 0) 1 1086 := ⟨by decide +kernel, rfl⟩
set_option maxRecDepth 100000 in
theorem d_L_law_1086 : Dc m_L_law 1086 (.iload_n 3) 1 1087 := ⟨by decide +kernel, rfl⟩
set_option maxRecDepth 100000 in
theorem d_L_law_1087 : Dc m_L_law 1087 (.iconst 2) 1 1088 := ⟨by decide +kernel, rfl⟩
set_option maxRecDepth 100000 in
theorem d_L_law_1088 : Dc m_L_law 1088 .iadd 1 1089 := ⟨by decide +kernel, rfl⟩
set_option maxRecDepth 100000 in
theorem d_L_law_1089 : Dc m_L_law 1089 .iaload 1 1090 := ⟨by decide +kernel, rfl⟩
set_option maxRecDepth 100000 in
theorem d_L_law_1090 : Dc m_L_law 1090 (.aload_n 0) 1 1091 := ⟨by decide +kernel, rfl⟩
set_option maxRecDepth 100000 in
theorem d_L_law_1091 : Dc m_L_law 1091 (.iload_n 3) 1 1092 := ⟨by decide +kernel, rfl⟩
set_option maxRecDepth 100000 in
theorem d_L_law_1092 : Dc m_L_law 1092 (.iconst 3) 1 1093 := ⟨by decide +kernel, rfl⟩
set_option maxRecDepth 100000 in
theorem d_L_law_1093 : Dc m_L_law 1093 .iadd 1 1094 := ⟨by decide +kernel, rfl⟩
set_option maxRecDepth 100000 in
theorem d_L_law_1094 : Dc m_L_law 1094 .iaload 1 1095 := ⟨by decide +kernel, rfl⟩
set_option maxRecDepth 100000 in
theorem d_L_law_1095 : Dc m_L_law 1095 (.invokevirtual 120) 3 1098 := ⟨by decide +kernel, rfl⟩
set_option maxRecDepth 100000 in
theorem d_L_law_1098 : Dc m_L_law 1098 (.aload_n 2) 1 1099 := ⟨by decide +kernel, rfl⟩
set_option maxRecDepth 100000 in
theorem d_L_law_1099 : Dc m_L_law 1099 (.aload_n 0) 1 1100 := ⟨by decide +kernel, rfl⟩
set_option maxRecDepth 100000 in
theorem d_L_law_1100 : Dc m_L_law 1100 (.iload_n 3) 1 1101 := ⟨by decide +kernel, rfl⟩
set_option maxRecDepth 100000 in
theorem d_L_law_1101 : Dc m_L_law 1101 (.iconst 1) 1 1102 := ⟨by decide +kernel, rfl⟩
set_option maxRecDepth 100000 in
theorem d_L_law_1102 : Dc m_L_law 1102 .iadd 1 1103 := ⟨by decide +kernel, rfl⟩
set_option maxRecDepth 100000 in
theorem d_L_law_1103 : Dc m_L_law 1103 .iaload 1 1104 := ⟨by decide +kernel, rfl⟩
set_option maxRecDepth 100000 in
theorem d_L_law_1104 : Dc m_L_law 1104 (.aload_n 0) 1 1105 := ⟨by decide +kernel, rfl⟩
set_option maxRecDepth 100000 in
theorem d_L_law_1105 : Dc m_L_law 1105 (.iload_n 3) 1 1106 := ⟨by decide +kernel, rfl⟩
set_option maxRecDepth 100000 in
theorem d_L_law_1106 : Dc m_L_law 1106 (.iconst 2) 1 1107 := ⟨by decide +kernel, rfl⟩
set_option maxRecDepth 100000 in
theorem d_L_law_1107 : Dc m_L_law 1107 .iadd 1 1108 := ⟨by decide +kernel, rfl⟩
set_option maxRecDepth 100000 in
theorem d_L_law_1108 : Dc m_L_law 1108 .iaload 1 1109 := ⟨by decide +kernel, rfl⟩
set_option maxRecDepth 100000 in
theorem d_L_law_1109 : Dc m_L_law 1109 (.aload_n 0) 1 1110 := ⟨by decide +kernel, rfl⟩
set_option maxRecDepth 100000 in
theorem d_L_law_1110 : Dc m_L_law 1110 (.iload_n 3) 1 1111 := ⟨by decide +kernel, rfl⟩
set_option maxRecDepth 100000 in
theorem d_L_law_1111 : Dc m_L_law 1111 (.iconst 3) 1 1112 := ⟨by decide +kernel, rfl⟩
set_option maxRecDepth 100000 in
theorem d_L_law_1112 : Dc m_L_law 1112 .iadd 1 1113 := ⟨by decide +kernel, rfl⟩
set_option maxRecDepth 100000 in
theorem d_L_law_1113 : Dc m_L_law 1113 .iaload 1 1114 := ⟨by decide +kernel, rfl⟩
set_option maxRecDepth 100000 in
theorem d_L_law_1114 : Dc m_L_law 1114 (.invokevirtual 123) 3 1117 := ⟨by decide +kernel, rfl⟩
set_option maxRecDepth 100000 in
theorem d_L_law_1117 : Dj m_L_law 1117 (.if_icmp .eq) 1120 1739 := ⟨622, by decide +kernel, rfl, by decide⟩
set_option maxRecDepth 100000 in
theorem d_L_law_1120 : Dc m_L_law 1120 (.iconst 0) 1 1121 := ⟨by decide +kernel, rfl⟩
set_option maxRecDepth 100000 in
theorem d_L_law_1121 : Dc m_L_law 1121 .ireturn 1 1122 := ⟨by decide +kernel, rfl⟩
set_option maxRecDepth 100000 in
theorem d_L_law_1122 : Dc m_L_law 1122 (.aload_n 1) 1 1123 := ⟨by decide +kernel, rfl⟩
set_option maxRecDepth 100000 in
theorem d_L_law_1123 : Dc m_L_law 1123 (.aload_n 0) 1 1124 := ⟨by decide +kernel, rfl⟩
set_option maxRecDepth 100000 in
theorem d_L_law_1124 : Dc m_L_law 1124 (.iload_n 3) 1 1125 := ⟨by decide +kernel, rfl⟩
set_option maxRecDepth 100000 in
theorem d_L_law_1125 : Dc m_L_law 1125 (.iconst 1) 1 1126 := ⟨by decide +kernel, rfl⟩
set_option maxRecDepth 100000 in
theorem d_L_law_1126 : Dc m_L_law 1126 .iadd 1 1127 := ⟨by decide +kernel, rfl⟩
set_option maxRecDepth 100000 in
theorem d_L_law_1127 : Dc m_L_law 1127 .iaload 1 1128 := ⟨by decide +kernel, rfl⟩
set_option maxRecDepth 100000 in
theorem d_L_law_1128 : Dc m_L_law 1128 (.invokevirtual 124) 3 1131 := ⟨by decide +kernel, rfl⟩
set_option maxRecDepth 100000 in
theorem d_L_law_1131 : Dc m_L_law 1131 (.aload_n 2) 1 1132 := ⟨by decide +kernel, rfl⟩
set_option maxRecDepth 100000 in
theorem d_L_law_1132 : Dc m_L_law 1132 (.aload_n 0) 1 1133 := ⟨by decide +kernel, rfl⟩
set_option maxRecDepth 100000 in
theorem d_L_law_1133 : Dc m_L_law 1133 (.iload_n 3) 1 1134 := ⟨by decide +kernel, rfl⟩
set_option maxRecDepth 100000 in
theorem d_L_law_1134 : Dc m_L_law 1134 (.iconst 1) 1 1135 := ⟨by decide +kernel, rfl⟩
set_option maxRecDepth 100000 in
theorem d_L_law_1135 : Dc m_L_law 1135 .iadd 1 1136 := ⟨by decide +kernel, rfl⟩
set_option maxRecDepth 100000 in
theorem d_L_law_1136 : Dc m_L_law 1136 .iaload 1 1137 := ⟨by decide +kernel, rfl⟩
set_option maxRecDepth 100000 in
theorem d_L_law_1137 : Dc m_L_law 1137 (.invokevirtual 127) 3 1140 := ⟨by decide +kernel, rfl⟩
set_option maxRecDepth 100000 in
theorem d_L_law_1140 : Dj m_L_law 1140 (.if_icmp .eq) 1143 1739 := ⟨599, by decide +kernel, rfl, by decide⟩
set_option maxRecDepth 100000 in
theorem d_L_law_1143 : Dc m_L_law 1143 (.iconst 0) 1 1144 := ⟨by decide +kernel, rfl⟩
set_option maxRecDepth 100000 in
theorem d_L_law_1144 : Dc m_L_law 1144 .ireturn 1 1145 := ⟨by decide +kernel, rfl⟩
set_option maxRecDepth 100000 in
theorem d_L_law_1145 : Dc m_L_law 1145 (.aload_n 1) 1 1146 := ⟨by decide +kernel, rfl⟩
set_option maxRecDepth 100000 in
theorem d_L_law_1146 : Dc m_L_law 1146 (.aload_n 0) 1 1147 := ⟨by decide +kernel, rfl⟩
set_option maxRecDepth 100000 in
theorem d_L_law_1147 : Dc m_L_law 1147 (.iload_n 3) 1 1148 := ⟨by decide +kernel, rfl⟩
set_option maxRecDepth 100000 in
theorem d_L_law_1148 : Dc m_L_law 1148 (.iconst 1) 1 1149 := ⟨by decide +kernel, rfl⟩
set_option maxRecDepth 100000 in
theorem d_L_law_1149 : Dc m_L_law 1149 .iadd 1 1150 := ⟨by decide +kernel, rfl⟩
set_option maxRecDepth 100000 in
theorem d_L_law_1150 : Dc m_L_law 1150 .iaload 1 1151 := ⟨by decide +kernel, rfl⟩
set_option maxRecDepth 100000 in
theorem d_L_law_1151 : Dc m_L_law 1151 (.aload_n 0) 1 1152 := ⟨by decide +kernel, rfl⟩
set_option maxRecDepth 100000 in
theorem d_L_law_1152 : Dc m_L_law 1152 (.iload_n 3) 1 1153 := ⟨by decide +kernel, rfl⟩
set_option maxRecDepth 100000 in
theorem d_L_law_1153 : Dc m_L_law 1153 (.iconst 2) 1 1154 := ⟨by decide +kernel, rfl⟩
set_option maxRecDepth 100000 in
theorem d_L_law_1154 : Dc m_L_law 1154 .iadd 1 1155 := ⟨by decide +kernel, rfl⟩
set_option maxRecDepth 100000 in
theorem d_L_law_1155 : Dc m_L_law 1155 .iaload 1 1156 := ⟨by decide +kernel, rfl⟩
set_option maxRecDepth 100000 in
theorem d_L_law_1156 : Dc m_L_law 1156 (.invokevirtual 128) 3 1159 := ⟨by decide +kernel, rfl⟩
set_option maxRecDepth 100000 in
theorem d_L_law_1159 : Dc m_L_law 1159 (.aload_n 2) 1 1160 := ⟨by decide +kernel, rfl⟩
set_option maxRecDepth 100000 in
theorem d_L_law_1160 : Dc m_L_law 1160 (.aload_n 0) 1 1161 := ⟨by decide +kernel, rfl⟩
set_option maxRecDepth 100000 in
theorem d_L_law_1161 : Dc m_L_law 1161 (.iload_n 3) 1 1162 := ⟨by decide +kernel, rfl⟩
set_option maxRecDepth 100000 in
theorem d_L_law_1162 : Dc m_L_law 1162 (.iconst 1) 1 1163 := ⟨by decide +kernel, rfl⟩
set_option maxRecDepth 100000 in
theorem d_L_law_1163 : Dc m_L_law 1163 .iadd 1 1164 := ⟨by decide +kernel, rfl⟩
set_option maxRecDepth 100000 in
theorem d_L_law_1164 : Dc m_L_law 1164 .iaload 1 1165 := ⟨by decide +kernel, rfl⟩
set_option maxRecDepth 100000 in
theorem d_L_law_1165 : Dc m_L_law 1165 (.aload_n 0) 1 1166 := ⟨by decide +kernel, rfl⟩
set_option maxRecDepth 100000 in
theorem d_L_law_1166 : Dc m_L_law 1166 (.iload_n 3) 1 1167 := ⟨by decide +kernel, rfl⟩
set_option maxRecDepth 100000 in
theorem d_L_law_1167 : Dc m_L_law 1167 (.iconst 2) 1 1168 := ⟨by decide +kernel, rfl⟩
set_option maxRecDepth 100000 in
theorem d_L_law_1168 : Dc m_L_law 1168 .iadd 1 1169 := ⟨by decide +kernel, rfl⟩
set_option maxRecDepth 100000 in
theorem d_L_law_1169 : Dc m_L_law 1169 .iaload 1 1170 := ⟨by decide +kernel, rfl⟩
set_option maxRecDepth 100000 in
theorem d_L_law_1170 : Dc m_L_law 1170 (.invokevirtual 131) 3 1173 := ⟨by decide +kernel, rfl⟩
set_option maxRecDepth 100000 in
theorem d_L_law_1173 : Dj m_L_law 1173 (.if_icmp .eq) 1176 1739 := ⟨566, by decide +kernel, rfl, by decide⟩
set_option maxRecDepth 100000 in
theorem d_L_law_1176 : Dc m_L_law 1176 (.iconst 0) 1 1177 := ⟨by decide +kernel, rfl⟩
set_option maxRecDepth 100000 in
theorem d_L_law_1177 : Dc m_L_law 1177 .ireturn 1 1178 := ⟨by decide +kernel, rfl⟩
set_option maxRecDepth 100000 in
theorem d_L_law_1178 : Dc m_L_law 1178 (.aload_n 1) 1 1179 := ⟨by decide +kernel, rfl⟩
set_option maxRecDepth 100000 in
theorem d_L_law_1179 : Dc m_L_law 1179 (.aload_n 0) 1 1180 := ⟨by decide +kernel, rfl⟩
set_option maxRecDepth 100000 in
theorem d_L_law_1180 : Dc m_L_law 1180 (.iload_n 3) 1 1181 := ⟨by decide +kernel, rfl⟩
set_option maxRecDepth 100000 in
theorem d_L_law_1181 : Dc m_L_law 1181 (.iconst 1) 1 1182 := ⟨by decide +kernel, rfl⟩
set_option maxRecDepth 100000 in
theorem d_L_law_1182 : Dc m_L_law 1182 .iadd 1 1183 := ⟨by decide +kernel, rfl⟩
set_option maxRecDepth 100000 in
theorem d_L_law_1183 : Dc m_L_law 1183 .iaload 1 1184 := ⟨by decide +kernel, rfl⟩
set_option maxRecDepth 100000 in
theorem d_L_law_1184 : Dc m_L_law 1184 (.invokevirtual 132) 3 1187 := ⟨by decide +kernel, rfl⟩
set_option maxRecDepth 100000 in
theorem d_L_law_1187 : Dc m_L_law 1187 (.aload_n 2) 1 1188 := ⟨by decide +kernel, rfl⟩
set_option maxRecDepth 100000 in
theorem d_L_law_1188 : Dc m_L_law 1188 (.aload_n 0) 1 1189 := ⟨by decide +kernel, rfl⟩
set_option maxRecDepth 100000 in
theorem d_L_law_1189 : Dc m_L_law 1189 (.iload_n 3) 1 1190 := ⟨by decide +kernel, rfl⟩
set_option maxRecDepth 100000 in
theorem d_L_law_1190 : Dc m_L_law 1190 (.iconst 1) 1 1191 := ⟨by decide +kernel, rfl⟩
set_option maxRecDepth 100000 in
theorem d_L_law_1191 : Dc m_L_law 1191 .iadd 1 1192 := ⟨by decide +kernel, rfl⟩
set_option maxRecDepth 100000 in
theorem d_L_law_1192 : Dc m_L_law 1192 .iaload 1 1193 := ⟨by decide +kernel, rfl⟩
set_option maxRecDepth 100000 in
theorem d_L_law_1193 : Dc m_L_law 1193 (.invokevirtual 135) 3 1196 := ⟨by decide +kernel, rfl⟩
set_option maxRecDepth 100000 in
theorem d_L_law_1196 : Dj m_L_law 1196 (.if_icmp .eq) 1199 1739 := ⟨543, by decide +kernel, rfl, by decide⟩
set_option maxRecDepth 100000 in
theorem d_L_law_1199 : Dc m_L_law 1199 (.iconst 0) 1 1200 := ⟨by decide +kernel, rfl⟩
set_option maxRecDepth 100000 in
theorem d_L_law_1200 : Dc m_L_law 1200 .ireturn 1 1201 := ⟨by decide +kernel, rfl⟩
set_option maxRecDepth 100000 in
theorem d_L_law_1201 : Dc m_L_law 1201 (.aload_n 1) 1 1202 := ⟨by decide +kernel, rfl⟩
set_option maxRecDepth 100000 in
theorem d_L_law_1202 : Dc m_L_law 1202 (.aload_n 0) 1 1203 := ⟨by decide +kernel, rfl⟩
set_option maxRecDepth 100000 in
theorem d_L_law_1203 : Dc m_L_law 1203 (.iload_n 3) 1 1204 := ⟨by decide +kernel, rfl⟩
set_option maxRecDepth 100000 in
theorem d_L_law_1204 : Dc m_L_law 1204 (.iconst 1) 1 1205 := ⟨by decide +kernel, rfl⟩
set_option maxRecDepth 100000 in
theorem d_L_law_1205 : Dc m_L_law 1205 .iadd 1 1206 := ⟨by decide +kernel, rfl⟩
set_option maxRecDepth 100000 in
theorem d_L_law_1206 : Dc m_L_law 1206 .iaload 1 1207 := ⟨by decide +kernel, rfl⟩
set_option maxRecDepth 100000 in
theorem d_L_law_1207 : Dc m_L_law 1207 (.aload_n 0) 1 1208 := ⟨by decide +kernel, rfl⟩
set_option maxRecDepth 100000 in
theorem d_L_law_1208 : Dc m_L_law 1208 (.iload_n 3) 1 1209 := ⟨by decide +kernel, rfl⟩
set_option maxRecDepth 100000 in
theorem d_L_law_1209 : Dc m_L_law 1209 (.iconst 2) 1 1210 := ⟨by decide +kernel, rfl⟩
set_option maxRecDepth 100000 in
theorem d_L_law_1210 : Dc m_L_law 1210 .iadd 1 1211 := ⟨by decide +kernel, rfl⟩
set_option maxRecDepth 100000 in
theorem d_L_law_1211 : Dc m_L_law 1211 .iaload 1 1212 := ⟨by decide +kernel, rfl⟩
set_option maxRecDepth 100000 in
theorem d_L_law_1212 : Dc m_L_law 1212 (.invokevirtual 136) 3 1215 := ⟨by decide +kernel, rfl⟩
set_option maxRecDepth 100000 in
theorem d_L_law_1215 : Dc m_L_law 1215 (.aload_n 2) 1 1216 := ⟨by decide +kernel, rfl⟩
set_option maxRecDepth 100000 in
theorem d_L_law_1216 : Dc m_L_law 1216 (.aload_n 0) 1 1217 := ⟨by decide +kernel, rfl⟩
set_option maxRecDepth 100000 in
theorem d_L_law_1217 : Dc m_L_law 1217 (.iload_n 3) 1 1218 := ⟨by decide +kernel, rfl⟩
set_option maxRecDepth 100000 in
theorem d_L_law_1218 : Dc m_L_law 1218 (.iconst 1) 1 1219 := ⟨by decide +kernel, rfl⟩
set_option maxRecDepth 100000 in
theorem d_L_law_1219 : Dc m_L_law 1219 .iadd 1 1220 := ⟨by decide +kernel, rfl⟩
set_option maxRecDepth 100000 in
theorem d_L_law_1220 : Dc m_L_law 1220 .iaload 1 1221 := ⟨by decide +kernel, rfl⟩
set_option maxRecDepth 100000 in
theorem d_L_law_1221 : Dc m_L_law 1221 (.aload_n 0) 1 1222 := ⟨by decide +kernel, rfl⟩
set_option maxRecDepth 100000 in
theorem d_L_law_1222 : Dc m_L_law 1222 (.iload_n 3) 1 1223 := ⟨by decide +kernel, rfl⟩
set_option maxRecDepth 100000 in
theorem d_L_law_1223 : Dc m_L_law 1223 (.iconst 2) 1 1224 := ⟨by decide +kernel, rfl⟩
set_option maxRecDepth 100000 in
theorem d_L_law_1224 : Dc m_L_law 1224 .iadd 1 1225 := ⟨by decide +kernel, rfl⟩
set_option maxRecDepth 100000 in
theorem d_L_law_1225 : Dc m_L_law 1225 .iaload 1 1226 := ⟨by decide +kernel, rfl⟩
set_option maxRecDepth 100000 in
theorem d_L_law_1226 : Dc m_L_law 1226 (.invokevirtual 139) 3 1229 := ⟨by decide +kernel, rfl⟩
set_option maxRecDepth 100000 in
theorem d_L_law_1229 : Dj m_L_law 1229 (.if_icmp .eq) 1232 1739 := ⟨510, by decide +kernel, rfl, by decide⟩
set_option maxRecDepth 100000 in
theorem d_L_law_1232 : Dc m_L_law 1232 (.iconst 0) 1 1233 := ⟨by decide +kernel, rfl⟩
set_option maxRecDepth 100000 in
theorem d_L_law_1233 : Dc m_L_law 1233 .ireturn 1 1234 := ⟨by decide +kernel, rfl⟩
set_option maxRecDepth 100000 in
theorem d_L_law_1234 : Dc m_L_law 1234 (.aload_n 1) 1 1235 := ⟨by decide +kernel, rfl⟩
set_option maxRecDepth 100000 in
theorem d_L_law_1235 : Dc m_L_law 1235 (.aload_n 0) 1 1236 := ⟨by decide +kernel, rfl⟩
set_option maxRecDepth 100000 in
theorem d_L_law_1236 : Dc m_L_law 1236 (.iload_n 3) 1 1237 := ⟨by decide +kernel, rfl⟩
set_option maxRecDepth 100000 in
theorem d_L_law_1237 : Dc m_L_law 1237 (.iconst 1) 1 1238 := ⟨by decide +kernel, rfl⟩
set_option maxRecDepth 100000 in
theorem d_L_law_1238 : Dc m_L_law 1238 .iadd 1 1239 := ⟨by decide +kernel, rfl⟩
set_option maxRecDepth 100000 in
theorem d_L_law_1239 : Dc m_L_law 1239 .iaload 1 1240 := ⟨by decide +kernel, rfl⟩
set_option maxRecDepth 100000 in
theorem d_L_law_1240 : Dc m_L_law 1240 (.invokevirtual 140) 3 1243 := ⟨by decide +kernel, rfl⟩
set_option maxRecDepth 100000 in
theorem d_L_law_1243 : Dc m_L_law 1243 (.aload_n 2) 1 1244 := ⟨by decide +kernel, rfl⟩
set_option maxRecDepth 100000 in
theorem d_L_law_1244 : Dc m_L_law 1244 (.aload_n 0) 1 1245 := ⟨by decide +kernel, rfl⟩
set_option maxRecDepth 100000 in
theorem d_L_law_1245 : Dc m_L_law 1245 (.iload_n 3) 1 1246 := ⟨by decide +kernel, rfl⟩
set_option maxRecDepth 100000 in
theorem d_L_law_1246 : Dc m_L_law 1246 (.iconst 1) 1 1247 := ⟨by decide +kernel, rfl⟩
set_option maxRecDepth 100000 in
theorem d_L_law_1247 : Dc m_L_law 1247 .iadd 1 1248 := ⟨by decide +kernel, rfl⟩
set_option maxRecDepth 100000 in
theorem d_L_law_1248 : Dc m_L_law 1248 .iaload 1 1249 := ⟨by decide +kernel, rfl⟩
set_option maxRecDepth 100000 in
theorem d_L_law_1249 : Dc m_L_law 1249 (.invokevirtual 143) 3 1252 := ⟨by decide +kernel, rfl⟩
set_option maxRecDepth 100000 in
theorem d_L_law_1252 : Dj m_L_law 1252 (.if_icmp .eq) 1255 1739 := ⟨487, by decide +kernel, rfl, by decide⟩
set_option maxRecDepth 100000 in
theorem d_L_law_1255 : Dc m_L_law 1255 (.iconst 0) 1 1256 := ⟨by decide +kernel, rfl⟩
set_option maxRecDepth 100000 in
theorem d_L_law_1256 : Dc m_L_law 1256 .ireturn 1 1257 := ⟨by decide +kernel, rfl⟩
set_option maxRecDepth 100000 in
theorem d_L_law_1257 : Dc m_L_law 1257 (.aload_n 1) 1 1258 := ⟨by decide +kernel, rfl⟩
set_option maxRecDepth 100000 in
theorem d_L_law_1258 : Dc m_L_law 1258 (.aload_n 0) 1 1259 := ⟨by decide +kernel, rfl⟩
set_option maxRecDepth 100000 in
theorem d_L_law_1259 : Dc m_L_law 1259 (.iload_n 3) 1 1260 := ⟨by decide +kernel, rfl⟩
set_option maxRecDepth 100000 in
theorem d_L_law_1260 : Dc m_L_law 1260 (.iconst 1) 1 1261 := ⟨by decide +kernel, rfl⟩
set_option maxRecDepth 100000 in
theorem d_L_law_1261 : Dc m_L_law 1261 .iadd 1 1262 := ⟨by decide +kernel, rfl⟩
set_option maxRecDepth 100000 in
theorem d_L_law_1262 : Dc m_L_law 1262 .iaload 1 1263 := ⟨by decide +kernel, rfl⟩
set_option maxRecDepth 100000 in
theorem d_L_law_1263 : Dc m_L_law 1263 (.aload_n 0) 1 1264 := ⟨by decide +kernel, rfl⟩
set_option maxRecDepth 100000 in
theorem d_L_law_1264 : Dc m_L_law 1264 (.iload_n 3) 1 1265 := ⟨by decide +kernel, rfl⟩
set_option maxRecDepth 100000 in
theorem d_L_law_1265 : Dc m_L_law 1265 (.iconst 2) 1 1266 := ⟨by decide +kernel, rfl⟩
set_option maxRecDepth 100000 in
theorem d_L_law_1266 : Dc m_L_law 1266 .iadd 1 1267 := ⟨by decide +kernel, rfl⟩
set_option maxRecDepth 100000 in
theorem d_L_law_1267 : Dc m_L_law 1267 .iaload 1 1268 := ⟨by decide +kernel, rfl⟩
set_option maxRecDepth 100000 in
theorem d_L_law_1268 : Dc m_L_law 1268 (.invokevirtual 144) 3 1271 := ⟨by decide +kernel, rfl⟩
set_option maxRecDepth 100000 in
theorem d_L_law_1271 : Dc m_L_law 1271 (.aload_n 2) 1 1272 := ⟨by decide +kernel, rfl⟩
set_option maxRecDepth 100000 in
theorem d_L_law_1272 : Dc m_L_law 1272 (.aload_n 0) 1 1273 := ⟨by decide +kernel, rfl⟩
set_option maxRecDepth 100000 in
theorem d_L_law_1273 : Dc m_L_law 1273 (.iload_n 3) 1 1274 := ⟨by decide +kernel, rfl⟩
set_option maxRecDepth 100000 in
theorem d_L_law_1274 : Dc m_L_law 1274 (.iconst 1) 1 1275 := ⟨by decide +kernel, rfl⟩
set_option maxRecDepth 100000 in
theorem d_L_law_1275 : Dc m_L_law 1275 .iadd 1 1276 := ⟨by decide +kernel, rfl⟩
set_option maxRecDepth 100000 in
theorem d_L_law_1276 : Dc m_L_law 1276 .iaload 1 1277 := ⟨by decide +kernel, rfl⟩
set_option maxRecDepth 100000 in
theorem d_L_law_1277 : Dc m_L_law 1277 (.aload_n 0) 1 1278 := ⟨by decide +kernel, rfl⟩
set_option maxRecDepth 100000 in
theorem d_L_law_1278 : Dc m_L_law 1278 (.iload_n 3) 1 1279 := ⟨by decide +kernel, rfl⟩
set_option maxRecDepth 100000 in
theorem d_L_law_1279 : Dc m_L_law 1279 (.iconst 2) 1 1280 := ⟨by decide +kernel, rfl⟩
set_option maxRecDepth 100000 in
theorem d_L_law_1280 : Dc m_L_law 1280 .iadd 1 1281 := ⟨by decide +kernel, rfl⟩
set_option maxRecDepth 100000 in
theorem d_L_law_1281 : Dc m_L_law 1281 .iaload 1 1282 := ⟨by decide +kernel, rfl⟩
set_option maxRecDepth 100000 in
theorem d_L_law_1282 : Dc m_L_law 1282 (.invokevirtual 147) 3 1285 := ⟨by decide +kernel, rfl⟩
set_option maxRecDepth 100000 in
theorem d_L_law_1285 : Dj m_L_law 1285 (.if_icmp .eq) 1288 1739 := ⟨454, by decide +kernel, rfl, by decide⟩
set_option maxRecDepth 100000 in
theorem d_L_law_1288 : Dc m_L_law 1288 (.iconst 0) 1 1289 := ⟨by decide +kernel, rfl⟩
set_option maxRecDepth 100000 in
theorem d_L_law_1289 : Dc m_L_law 1289 .ireturn 1 1290 := ⟨by decide +kernel, rfl⟩
set_option maxRecDepth 100000 in
theorem d_L_law_1290 : Dc m_L_law 1290 (.aload_n 1) 1 1291 := ⟨by decide +kernel, rfl⟩
set_option maxRecDepth 100000 in
theorem d_L_law_1291 : Dc m_L_law 1291 (.aload_n 0) 1 1292 := ⟨by decide +kernel, rfl⟩
set_option maxRecDepth 100000 in
theorem d_L_law_1292 : Dc m_L_law 1292 (.iload_n 3) 1 1293 := ⟨by decide +kernel, rfl⟩
set_option maxRecDepth 100000 in
theorem d_L_law_1293 : Dc m_L_law 1293 (.iconst 1) 1 1294 := ⟨by decide +kernel, rfl⟩
set_option maxRecDepth 100000 in
theorem d_L_law_1294 : Dc m_L_law 1294 .iadd 1 1295 := ⟨by decide +kernel, rfl⟩
set_option maxRecDepth 100000 in
theorem d_L_law_1295 : Dc m_L_law 1295 .iaload 1 1296 := ⟨by decide +kernel, rfl⟩
set_option maxRecDepth 100000 in
theorem d_L_law_1296 : Dc m_L_law 1296 (.aload_n 0) 1 1297 := ⟨by decide +kernel, rfl⟩
set_option maxRecDepth 100000 in
theorem d_L_law_1297 : Dc m_L_law 1297 (.iload_n 3) 1 1298 := ⟨by decide +kernel, rfl⟩
set_option maxRecDepth 100000 in
theorem d_L_law_1298 : Dc m_L_law 1298 (.iconst 2) 1 1299 := ⟨by decide +kernel, rfl⟩
set_option maxRecDepth 100000 in
theorem d_L_law_1299 : Dc m_L_law 1299 .iadd 1 1300 := ⟨by decide +kernel, rfl⟩
set_option maxRecDepth 100000 in
theorem d_L_law_1300 : Dc m_L_law 1300 .iaload 1 1301 := ⟨by decide +kernel, rfl⟩
set_option maxRecDepth 100000 in
theorem d_L_law_1301 : Dc m_L_law 1301 (.aload_n 0) 1 1302 := ⟨by decide +kernel, rfl⟩
set_option maxRecDepth 100000 in
theorem d_L_law_1302 : Dc m_L_law 1302 (.iload_n 3) 1 1303 := ⟨by decide +kernel, rfl⟩
set_option maxRecDepth 100000 in
theorem d_L_law_1303 : Dc m_L_law 1303 (.iconst 3) 1 1304 := ⟨by decide +kernel, rfl⟩
set_option maxRecDepth 100000 in
theorem d_L_law_1304 : Dc m_L_law 1304 .iadd 1 1305 := ⟨by decide +kernel, rfl⟩
set_option maxRecDepth 100000 in
theorem d_L_law_1305 : Dc m_L_law 1305 .iaload 1 1306 := ⟨by decide +kernel, rfl⟩
set_option maxRecDepth 100000 in
theorem d_L_law_1306 : Dc m_L_law 1306 (.invokevirtual 148) 3 1309 := ⟨by decide +kernel, rfl⟩
set_option maxRecDepth 100000 in
theorem d_L_law_1309 : Dc m_L_law 1309 (.aload_n 2) 1 1310 := ⟨by decide +kernel, rfl⟩
set_option maxRecDepth 100000 in
theorem d_L_law_1310 : Dc m_L_law 1310 (.aload_n 0) 1 1311 := ⟨by decide +kernel, rfl⟩
set_option maxRecDepth 100000 in
theorem d_L_law_1311 : Dc m_L_law 1311 (.iload_n 3) 1 1312 := ⟨by decide +kernel, rfl⟩
set_option maxRecDepth 100000 in
theorem d_L_law_1312 : Dc m_L_law 1312 (.iconst 1) 1 1313 := ⟨by decide +kernel, rfl⟩
set_option maxRecDepth 100000 in
theorem d_L_law_1313 : Dc m_L_law 1313 .iadd 1 1314 := ⟨by decide +kernel, rfl⟩
set_option maxRecDepth 100000 in
theorem d_L_law_1314 : Dc m_L_law 1314 .iaload 1 1315 := ⟨by decide +kernel, rfl⟩
set_option maxRecDepth 100000 in
theorem d_L_law_1315 : Dc m_L_law 1315 (.aload_n 0) 1 1316 := ⟨by decide +kernel, rfl⟩
set_option maxRecDepth 100000 in
theorem d_L_law_1316 : Dc m_L_law 1316 (.iload_n 3) 1 1317 := ⟨by decide +kernel, rfl⟩
set_option maxRecDepth 100000 in
theorem d_L_law_1317 : Dc m_L_law 1317 (.iconst 2) 1 1318 := ⟨by decide +kernel, rfl⟩
set_option maxRecDepth 100000 in
theorem d_L_law_1318 : Dc m_L_law 1318 .iadd 1 1319 := ⟨by decide +kernel, rfl⟩
set_option maxRecDepth 100000 in
theorem d_L_law_1319 : Dc m_L_law 1319 .iaload 1 1320 := ⟨by decide +kernel, rfl⟩
set_option maxRecDepth 100000 in
theorem d_L_law_1320 : Dc m_L_law 1320 (.aload_n 0) 1 1321 := ⟨by decide +kernel, rfl⟩
set_option maxRecDepth 100000 in
theorem d_L_law_1321 : Dc m_L_law 1321 (.iload_n 3) 1 1322 := ⟨by decide +kernel, rfl⟩
set_option maxRecDepth 100000 in
theorem d_L_law_1322 : Dc m_L_law 1322 (.iconst 3) 1 1323 := ⟨by decide +kernel, rfl⟩
set_option maxRecDepth 100000 in
theorem d_L_law_1323 : Dc m_L_law 1323 .iadd 1 1324 := ⟨by decide +kernel, rfl⟩
set_option maxRecDepth 100000 in
theorem d_L_law_1324 : Dc m_L_law 1324 .iaload 1 1325 := ⟨by decide +kernel, rfl⟩
set_option maxRecDepth 100000 in
theorem d_L_law_1325 : Dc m_L_law 1325 (.invokevirtual 151) 3 1328 := ⟨by decide +kernel, rfl⟩
set_option maxRecDepth 100000 in
theorem d_L_law_1328 : Dj m_L_law 1328 (.if_icmp .eq) 1331 1739 := ⟨411, by decide +kernel, rfl, by decide⟩
set_option maxRecDepth 100000 in
theorem d_L_law_1331 : Dc m_L_law 1331 (.iconst 0) 1 1332 := ⟨by decide +kernel, rfl⟩
set_option maxRecDepth 100000 in
theorem d_L_law_1332 : Dc m_L_law 1332 .ireturn 1 1333 := ⟨by decide +kernel, rfl⟩
set_option maxRecDepth 100000 in
theorem d_L_law_1333 : Dc m_L_law 1333 (.aload_n 1) 1 1334 := ⟨by decide +kernel, rfl⟩
set_option maxRecDepth 100000 in
theorem d_L_law_1334 : Dc m_L_law 1334 (.aload_n 0) 1 1335 := ⟨by decide +kernel, rfl⟩
set_option maxRecDepth 100000 in
theorem d_L_law_1335 : Dc m_L_law 1335 (.iload_n 3) 1 1336 := ⟨by decide +kernel, rfl⟩
set_option maxRecDepth 100000 in
theorem d_L_law_1336 : Dc m_L_law 1336 (.iconst 1) 1 1337 := ⟨by decide +kernel, rfl⟩
set_option maxRecDepth 100000 in
theorem d_L_law_1337 : Dc m_L_law 1337 .iadd 1 1338 := ⟨by decide +kernel, rfl⟩
set_option maxRecDepth 100000 in
theorem d_L_law_1338 : Dc m_L_law 1338 .iaload 1 1339 := ⟨by decide +kernel, rfl⟩
set_option maxRecDepth 100000 in
theorem d_L_law_1339 : Dc m_L_law 1339 (.invokevirtual 152) 3 1342 := ⟨by decide +kernel, rfl⟩
set_option maxRecDepth 100000 in
theorem d_L_law_1342 : Dc m_L_law 1342 (.aload_n 2) 1 1343 := ⟨by decide +kernel, rfl⟩
set_option maxRecDepth 100000 in
theorem d_L_law_1343 : Dc m_L_law 1343 (.aload_n 0) 1 1344 := ⟨by decide +kernel, rfl⟩
set_option maxRecDepth 100000 in
theorem d_L_law_1344 : Dc m_L_law 1344 (.iload_n 3) 1 1345 := ⟨by decide +kernel, rfl⟩
set_option maxRecDepth 100000 in
theorem d_L_law_1345 : Dc m_L_law 1345 (.iconst 1) 1 1346 := ⟨by decide +kernel, rfl⟩
set_option maxRecDepth 100000 in
theorem d_L_law_1346 : Dc m_L_law 1346 .iadd 1 1347 := ⟨by decide +kernel, rfl⟩
set_option maxRecDepth 100000 in
theorem d_L_law_1347 : Dc m_L_law 1347 .iaload 1 1348 := ⟨by decide +kernel, rfl⟩
set_option maxRecDepth 100000 in
theorem d_L_law_1348 : Dc m_L_law 1348 (.invokevirtual 155) 3 1351 := ⟨by decide +kernel, rfl⟩
set_option maxRecDepth 100000 in
theorem d_L_law_1351 : Dj m_L_law 1351 (.if_icmp .eq) 1354 1739 := ⟨388, by decide +kernel, rfl, by decide⟩
set_option maxRecDepth 100000 in
theorem d_L_law_1354 : Dc m_L_law 1354 (.iconst 0) 1 1355 := ⟨by decide +kernel, rfl⟩
set_option maxRecDepth 100000 in
theorem d_L_law_1355 : Dc m_L_law 1355 .ireturn 1 1356 := ⟨by decide +kernel, rfl⟩
set_option maxRecDepth 100000 in
theorem d_L_law_1356 : Dc m_L_law 1356 (.aload_n 1) 1 1357 := ⟨by decide +kernel, rfl⟩
set_option maxRecDepth 100000 in
theorem d_L_law_1357 : Dc m_L_law 1357 (.aload_n 0) 1 1358 := ⟨by decide +kernel, rfl⟩
set_option maxRecDepth 100000 in
theorem d_L_law_1358 : Dc m_L_law 1358 (.iload_n 3) 1 1359 := ⟨by decide +kernel, rfl⟩
set_option maxRecDepth 100000 in
theorem d_L_law_1359 : Dc m_L_law 1359 (.iconst 1) 1 1360 := ⟨by decide +kernel, rfl⟩
set_option maxRecDepth 100000 in
theorem d_L_law_1360 : Dc m_L_law 1360 .iadd 1 1361 := ⟨by decide +kernel, rfl⟩
set_option maxRecDepth 100000 in
theorem d_L_law_1361 : Dc m_L_law 1361 .iaload 1 1362 := ⟨by decide +kernel, rfl⟩
set_option maxRecDepth 100000 in
theorem d_L_law_1362 : Dc m_L_law 1362 (.aload_n 0) 1 1363 := ⟨by decide +kernel, rfl⟩
set_option maxRecDepth 100000 in
theorem d_L_law_1363 : Dc m_L_law 1363 (.iload_n 3) 1 1364 := ⟨by decide +kernel, rfl⟩
set_option maxRecDepth 100000 in
theorem d_L_law_1364 : Dc m_L_law 1364 (.iconst 2) 1 1365 := ⟨by decide +kernel, rfl⟩
set_option maxRecDepth 100000 in
theorem d_L_law_1365 : Dc m_L_law 1365 .iadd 1 1366 := ⟨by decide +kernel, rfl⟩
set_option maxRecDepth 100000 in
theorem d_L_law_1366 : Dc m_L_law 1366 .iaload 1 1367 := ⟨by decide +kernel, rfl⟩
set_option maxRecDepth 100000 in
theorem d_L_law_1367 : Dc m_L_law 1367 (.aload_n 0) 1 1368 := ⟨by decide +kernel, rfl⟩
set_option maxRecDepth 100000 in
theorem d_L_law_1368 : Dc m_L_law 1368 (.iload_n 3) 1 1369 := ⟨by decide +kernel, rfl⟩
set_option maxRecDepth 100000 in
theorem d_L_law_1369 : Dc m_L_law 1369 (.iconst 3) 1 1370 := ⟨by decide +kernel, rfl⟩
set_option maxRecDepth 100000 in
theorem d_L_law_1370 : Dc m_L_law 1370 .iadd 1 1371 := ⟨by decide +kernel, rfl⟩
set_option maxRecDepth 100000 in
theorem d_L_law_1371 : Dc m_L_law 1371 .iaload 1 1372 := ⟨by decide +kernel, rfl⟩
set_option maxRecDepth 100000 in
theorem d_L_law_1372 : Dc m_L_law 1372 (.aload_n 0) 1 1373 := ⟨by decide +kernel, rfl⟩
set_option maxRecDepth 100000 in
theorem d_L_law_1373 : Dc m_L_law 1373 (.iload_n 3) 1 1374 := ⟨by decide +kernel, rfl⟩
set_option maxRecDepth 100000 in
theorem d_L_law_1374 : Dc m_L_law 1374 (.iconst 4) 1 1375 := ⟨by decide +kernel, rfl⟩
set_option maxRecDepth 100000 in
theorem d_L_law_1375 : Dc m_L_law 1375 .iadd 1 1376 := ⟨by decide +kernel, rfl⟩
set_option maxRecDepth 100000 in
theorem d_L_law_1376 : Dc m_L_law 1376 .iaload 1 1377 := ⟨by decide +kernel, rfl⟩
set_option maxRecDepth 100000 in
theorem d_L_law_1377 : Dc m_L_law 1377 (.aload_n 0) 1 1378 := ⟨by decide +kernel, rfl⟩
set_option maxRecDepth 100000 in
theorem d_L_law_1378 : Dc m_L_law 1378 (.iload_n 3) 1 1379 := ⟨by decide +kernel, rfl⟩
set_option maxRecDepth 100000 in
theorem d_L_law_1379 : Dc m_L_law 1379 (.iconst 5) 1 1380 := ⟨by decide +kernel, rfl⟩
set_option maxRecDepth 100000 in
theorem d_L_law_1380 : Dc m_L_law 1380 .iadd 1 1381 := ⟨by decide +kernel, rfl⟩
set_option maxRecDepth 100000 in
theorem d_L_law_1381 : Dc m_L_law 1381 .iaload 1 1382 := ⟨by decide +kernel, rfl⟩
set_option maxRecDepth 100000 in
theorem d_L_law_1382 : Dc m_L_law 1382 (.invokevirtual 156) 3 1385 := ⟨by decide +kernel, rfl⟩
set_option maxRecDepth 100000 in
theorem d_L_law_1385 : Dc m_L_law 1385 (.aload_n 2) 1 1386 := ⟨by decide +kernel, rfl⟩
set_option maxRecDepth 100000 in
theorem d_L_law_1386 : Dc m_L_law 1386 (.aload_n 0) 1 1387 := ⟨by decide +kernel, rfl⟩
set_option maxRecDepth 100000 in
theorem d_L_law_1387 : Dc m_L_law 1387 (.iload_n 3) 1 1388 := ⟨by decide +kernel, rfl⟩
set_option maxRecDepth 100000 in
theorem d_L_law_1388 : Dc m_L_law 1388 (.iconst 1) 1 1389 := ⟨by decide +kernel, rfl⟩
set_option maxRecDepth 100000 in
theorem d_L_law_1389 : Dc m_L_law 1389 .iadd 1 1390 := ⟨by decide +kernel, rfl⟩
set_option maxRecDepth 100000 in
theorem d_L_law_1390 : Dc m_L_law 1390 .iaload 1 1391 := ⟨by decide +kernel, rfl⟩
set_option maxRecDepth 100000 in
theorem d_L_law_1391 : Dc m_L_law 1391 (.aload_n 0) 1 1392 := ⟨by decide +kernel, rfl⟩
set_option maxRecDepth 100000 in
theorem d_L_law_1392 : Dc m_L_law 1392 (.iload_n 3) 1 1393 := ⟨by decide +kernel, rfl⟩
set_option maxRecDepth 100000 in
theorem d_L_law_1393 : Dc m_L_law 1393 (.iconst 2) 1 1394 := ⟨by decide +kernel, rfl⟩
set_option maxRecDepth 100000 in
theorem d_L_law_1394 : Dc m_L_law 1394 .iadd 1 1395 := ⟨by decide +kernel, rfl⟩
set_option maxRecDepth 100000 in
theorem d_L_law_1395 : Dc m_L_law 1395 .iaload 1 1396 := ⟨by decide +kernel, rfl⟩
set_option maxRecDepth 100000 in
theorem d_L_law_1396 : Dc m_L_law 1396 (.aload_n 0) 1 1397 := ⟨by decide +kernel, rfl⟩
set_option maxRecDepth 100000 in
theorem d_L_law_1397 : Dc m_L_law 1397 (.iload_n 3) 1 1398 := ⟨by decide +kernel, rfl⟩
set_option maxRecDepth 100000 in
theorem d_L_law_1398 : Dc m_L_law 1398 (.iconst 3) 1 1399 := ⟨by decide +kernel, rfl⟩
set_option maxRecDepth 100000 in
theorem d_L_law_1399 : Dc m_L_law 1399 .iadd 1 1400 := ⟨by decide +kernel, rfl⟩
set_option maxRecDepth 100000 in
theorem d_L_law_1400 : Dc m_L_law 1400 .iaload 1 1401 := ⟨by decide +kernel, rfl⟩
set_option maxRecDepth 100000 in
theorem d_L_law_1401 : Dc m_L_law 1401 (.aload_n 0) 1 1402 := ⟨by decide +kernel, rfl⟩
set_option maxRecDepth 100000 in
theorem d_L_law_1402 : Dc m_L_law 1402 (.iload_n 3) 1 1403 := ⟨by decide +kernel, rfl⟩
set_option maxRecDepth 100000 in
theorem d_L_law_1403 : Dc m_L_law 1403 (.iconst 4) 1 1404 := ⟨by decide +kernel, rfl⟩
set_option maxRecDepth 100000 in
theorem d_L_law_1404 : Dc m_L_law 1404 .iadd 1 1405 := ⟨by decide +kernel, rfl⟩
set_option maxRecDepth 100000 in
theorem d_L_law_1405 : Dc m_L_law 1405 .iaload 1 1406 := ⟨by decide +kernel, rfl⟩
set_option maxRecDepth 100000 in
theorem d_L_law_1406 : Dc m_L_law 1406 (.aload_n 0) 1 1407 := ⟨by decide +kernel, rfl⟩
set_option maxRecDepth 100000 in
theorem d_L_law_1407 : Dc m_L_law 1407 (.iload_n 3) 1 1408 := ⟨by decide +kernel, rfl⟩
set_option maxRecDepth 100000 in
theorem d_L_law_1408 : Dc m_L_law 1408 (.iconst 5) 1 1409 := ⟨by decide +kernel, rfl⟩
set_option maxRecDepth 100000 in
theorem d_L_law_1409 : Dc m_L_law 1409 .iadd 1 1410 := ⟨by decide +kernel, rfl⟩
set_option maxRecDepth 100000 in
theorem d_L_law_1410 : Dc m_L_law 1410 .iaload 1 1411 := ⟨by decide +kernel, rfl⟩
set_option maxRecDepth 100000 in
theorem d_L_law_1411 : Dc m_L_law 1411 (.invokevirtual 160) 3 1414 := ⟨by decide +kernel, rfl⟩
set_option maxRecDepth 100000 in
theorem d_L_law_1414 : Dj m_L_law 1414 (.if_icmp .eq) 1417 1739 := ⟨325, by decide +kernel, rfl, by decide⟩
set_option maxRecDepth 100000 in
theorem d_L_law_1417 : Dc m_L_law 1417 (.iconst 0) 1 1418 := ⟨by decide +kernel, rfl⟩
set_option maxRecDepth 100000 in
theorem d_L_law_1418 : Dc m_L_law 1418 .ireturn 1 1419 := ⟨by decide +kernel, rfl⟩
set_option maxRecDepth 100000 in
theorem d_L_law_1419 : Dc m_L_law 1419 (.aload_n 1) 1 1420 := ⟨by decide +kernel, rfl⟩
set_option maxRecDepth 100000 in
theorem d_L_law_1420 : Dc m_L_law 1420 (.aload_n 0) 1 1421 := ⟨by decide +kernel, rfl⟩
set_option maxRecDepth 100000 in
theorem d_L_law_1421 : Dc m_L_law 1421 (.iload_n 3) 1 1422 := ⟨by decide +kernel, rfl⟩
set_option maxRecDepth 100000 in
theorem d_L_law_1422 : Dc m_L_law 1422 (.iconst 1) 1 1423 := ⟨by decide +kernel, rfl⟩
set_option maxRecDepth 100000 in
theorem d_L_law_1423 : Dc m_L_law 1423 .iadd 1 1424 := ⟨by decide +kernel, rfl⟩
set_option maxRecDepth 100000 in
theorem d_L_law_1424 : Dc m_L_law 1424 .iaload 1 1425 := ⟨by decide +kernel, rfl⟩
set_option maxRecDepth 100000 in
theorem d_L_law_1425 : Dc m_L_law 1425 (.aload_n 0) 1 1426 := ⟨by decide +kernel, rfl⟩
set_option maxRecDepth 100000 in
theorem d_L_law_1426 : Dc m_L_law 1426 (.iload_n 3) 1 1427 := ⟨by decide +kernel, rfl⟩
set_option maxRecDepth 100000 in
theorem d_L_law_1427 : Dc m_L_law 1427 (.iconst 2) 1 1428 := ⟨by decide +kernel, rfl⟩
set_option maxRecDepth 100000 in
theorem d_L_law_1428 : Dc m_L_law 1428 .iadd 1 1429 := ⟨by decide +kernel, rfl⟩
set_option maxRecDepth 100000 in
theorem d_L_law_1429 : Dc m_L_law 1429 .iaload 1 1430 := ⟨by decide +kernel, rfl⟩
set_option maxRecDepth 100000 in
theorem d_L_law_1430 : Dc m_L_law 1430 (.aload_n 0) 1 1431 := ⟨by decide +kernel, rfl⟩
set_option maxRecDepth 100000 in
theorem d_L_law_1431 : Dc m_L_law 1431 (.iload_n 3) 1 1432 := ⟨by decide +kernel, rfl⟩
set_option maxRecDepth 100000 in
theorem d_L_law_1432 : Dc m_L_law 1432 (.iconst 3) 1 1433 := ⟨by decide +kernel, rfl⟩
set_option maxRecDepth 100000 in
theorem d_L_law_1433 : Dc m_L_law 1433 .iadd 1 1434 := ⟨by decide +kernel, rfl⟩
set_option maxRecDepth 100000 in
theorem d_L_law_1434 : Dc m_L_law 1434 .iaload 1 1435 := ⟨by decide +kernel, rfl⟩
set_option maxRecDepth 100000 in
theorem d_L_law_1435 : Dc m_L_law 1435 (.invokevirtual 161) 3 1438 := ⟨by decide +kernel, rfl⟩
set_option maxRecDepth 100000 in
theorem d_L_law_1438 : Dc m_L_law 1438 (.aload_n 2) 1 1439 := ⟨by decide +kernel, rfl⟩
set_option maxRecDepth 100000 in
theorem d_L_law_1439 : Dc m_L_law 1439 (.aload_n 0) 1 1440 := ⟨by decide +kernel, rfl⟩
set_option maxRecDepth 100000 in
theorem d_L_law_1440 : Dc m_L_law 1440 (.iload_n 3) 1 1441 := ⟨by decide +kernel, rfl⟩
set_option maxRecDepth 100000 in
theorem d_L_law_1441 : Dc m_L_law 1441 (.iconst 1) 1 1442 := ⟨by decide +kernel, rfl⟩
set_option maxRecDepth 100000 in
theorem d_L_law_1442 : Dc m_L_law 1442 .iadd 1 1443 := ⟨by decide +kernel, rfl⟩
set_option maxRecDepth 100000 in
theorem d_L_law_1443 : Dc m_L_law 1443 .iaload 1 1444 := ⟨by decide +kernel, rfl⟩
set_option maxRecDepth 100000 in
theorem d_L_law_1444 : Dc m_L_law 1444 (.aload_n 0) 1 1445 := ⟨by decide +kernel, rfl⟩
set_option maxRecDepth 100000 in
theorem d_L_law_1445 : Dc m_L_law 1445 (.iload_n 3) 1 1446 := ⟨by decide +kernel, rfl⟩
set_option maxRecDepth 100000 in
theorem d_L_law_1446 : Dc m_L_law 1446 (.iconst 2) 1 1447 := ⟨by decide +kernel, rfl⟩
set_option maxRecDepth 100000 in
theorem d_L_law_1447 : Dc m_L_law 1447 .iadd 1 1448 := ⟨by decide +kernel, rfl⟩
set_option maxRecDepth 100000 in
theorem d_L_law_1448 : Dc m_L_law 1448 .iaload 1 1449 := ⟨by decide +kernel, rfl⟩
set_option maxRecDepth 100000 in
theorem d_L_law_1449 : Dc m_L_law 1449 (.aload_n 0) 1 1450 := ⟨by decide +kernel, rfl⟩
set_option maxRecDepth 100000 in
theorem d_L_law_1450 : Dc m_L_law 1450 (.iload_n 3) 1 1451 := ⟨by decide +kernel, rfl⟩
set_option maxRecDepth 100000 in
theorem d_L_law_1451 : Dc m_L_law 1451 (.iconst 3) 1 1452 := ⟨by decide +kernel, rfl⟩
set_option maxRecDepth 100000 in
theorem d_L_law_1452 : Dc m_L_law 1452 .iadd 1 1453 := ⟨by decide +kernel, rfl⟩
set_option maxRecDepth 100000 in
theorem d_L_law_1453 : Dc m_L_law 1453 .iaload 1 1454 := ⟨by decide +kernel, rfl⟩
set_option maxRecDepth 100000 in
theorem d_L_law_1454 : Dc m_L_law 1454 (.invokevirtual 164) 3 1457 := ⟨by decide +kernel, rfl⟩
set_option maxRecDepth 100000 in
theorem d_L_law_1457 : Dj m_L_law 1457 (.if_icmp .eq) 1460 1739 := ⟨282, by decide +kernel, rfl, by decide⟩
set_option maxRecDepth 100000 in
theorem d_L_law_1460 : Dc m_L_law 1460 (.iconst 0) 1 1461 := ⟨by decide +kernel, rfl⟩
set_option maxRecDepth 100000 in
theorem d_L_law_1461 : Dc m_L_law 1461 .ireturn 1 1462 := ⟨by decide +kernel, rfl⟩
set_option maxRecDepth 100000 in
theorem d_L_law_1462 : Dc m_L_law 1462 (.aload_n 1) 1 1463 := ⟨by decide +kernel, rfl⟩
set_option maxRecDepth 100000 in
theorem d_L_law_1463 : Dc m_L_law 1463 (.aload_n 0) 1 1464 := ⟨by decide +kernel, rfl⟩
set_option maxRecDepth 100000 in
theorem d_L_law_1464 : Dc m_L_law 1464 (.iload_n 3) 1 1465 := ⟨by decide +kernel, rfl⟩
set_option maxRecDepth 100000 in
theorem d_L_law_1465 : Dc m_L_law 1465 (.iconst 1) 1 1466 := ⟨by decide +kernel, rfl⟩
set_option maxRecDepth 100000 in
theorem d_L_law_1466 : Dc m_L_law 1466 .iadd 1 1467 := ⟨by decide +kernel, rfl⟩
set_option maxRecDepth 100000 in
theorem d_L_law_1467 : Dc m_L_law 1467 .iaload 1 1468 := ⟨by decide +kernel, rfl⟩
set_option maxRecDepth 100000 in
theorem d_L_law_1468 : Dc m_L_law 1468 (.aload_n 0) 1 1469 := ⟨by decide +kernel, rfl⟩
set_option maxRecDepth 100000 in
theorem d_L_law_1469 : Dc m_L_law 1469 (.iload_n 3) 1 1470 := ⟨by decide +kernel, rfl⟩
set_option maxRecDepth 100000 in
theorem d_L_law_1470 : Dc m_L_law 1470 (.iconst 2) 1 1471 := ⟨by decide +kernel, rfl⟩
set_option maxRecDepth 100000 in
theorem d_L_law_1471 : Dc m_L_law 1471 .iadd 1 1472 := ⟨by decide +kernel, rfl⟩
set_option maxRecDepth 100000 in
theorem d_L_law_1472 : Dc m_L_law 1472 .iaload 1 1473 := ⟨by decide +kernel, rfl⟩
set_option maxRecDepth 100000 in
theorem d_L_law_1473 : Dc m_L_law 1473 (.aload_n 0) 1 1474 := ⟨by decide +kernel, rfl⟩
set_option maxRecDepth 100000 in
theorem d_L_law_1474 : Dc m_L_law 1474 (.iload_n 3) 1 1475 := ⟨by decide +kernel, rfl⟩
set_option maxRecDepth 100000 in
theorem d_L_law_1475 : Dc m_L_law 1475 (.iconst 3) 1 1476 := ⟨by decide +kernel, rfl⟩
set_option maxRecDepth 100000 in
theorem d_L_law_1476 : Dc m_L_law 1476 .iadd 1 1477 := ⟨by decide +kernel, rfl⟩
set_option maxRecDepth 100000 in
theorem d_L_law_1477 : Dc m_L_law 1477 .iaload 1 1478 := ⟨by decide +kernel, rfl⟩
set_option maxRecDepth 100000 in
theorem d_L_law_1478 : Dc m_L_law 1478 (.invokevirtual 165) 3 1481 := ⟨by decide +kernel, rfl⟩
set_option maxRecDepth 100000 in
theorem d_L_law_1481 : Dc m_L_law 1481 (.aload_n 2) 1 1482 := ⟨by decide +kernel, rfl⟩
set_option maxRecDepth 100000 in
theorem d_L_law_1482 : Dc m_L_law 1482 (.aload_n 0) 1 1483 := ⟨by decide +kernel, rfl⟩
set_option maxRecDepth 100000 in
theorem d_L_law_1483 : Dc m_L_law 1483 (.iload_n 3) 1 1484 := ⟨by decide +kernel, rfl⟩
set_option maxRecDepth 100000 in
theorem d_L_law_1484 : Dc m_L_law 1484 (.iconst 1) 1 1485 := ⟨by decide +kernel, rfl⟩
set_option maxRecDepth 100000 in
theorem d_L_law_1485 : Dc m_L_law 1485 .iadd 1 1486 := ⟨by decide +kernel, rfl⟩
set_option maxRecDepth 100000 in
theorem d_L_law_1486 : Dc m_L_law 1486 .iaload 1 1487 := ⟨by decide +kernel, rfl⟩
set_option maxRecDepth 100000 in
theorem d_L_law_1487 : Dc m_L_law 1487 (.aload_n 0) 1 1488 := ⟨by decide +kernel, rfl⟩
set_option maxRecDepth 100000 in
theorem d_L_law_1488 : Dc m_L_law 1488 (.iload_n 3) 1 1489 := ⟨by decide +kernel, rfl⟩
set_option maxRecDepth 100000 in
theorem d_L_law_1489 : Dc m_L_law 1489 (.iconst 2) 1 1490 := ⟨by decide +kernel, rfl⟩
set_option maxRecDepth 100000 in
theorem d_L_law_1490 : Dc m_L_law 1490 .iadd 1 1491 := ⟨by decide +kernel, rfl⟩
set_option maxRecDepth 100000 in
theorem d_L_law_1491 : Dc m_L_law 1491 .iaload 1 1492 := ⟨by decide +kernel, rfl⟩
set_option maxRecDepth 100000 in
theorem d_L_law_1492 : Dc m_L_law 1492 (.aload_n 0) 1 1493 := ⟨by decide +kernel, rfl⟩
set_option maxRecDepth 100000 in
theorem d_L_law_1493 : Dc m_L_law 1493 (.iload_n 3) 1 1494 := ⟨by decide +kernel, rfl⟩
set_option maxRecDepth 100000 in
theorem d_L_law_1494 : Dc m_L_law 1494 (.iconst 3) 1 1495 := ⟨by decide +kernel, rfl⟩
set_option maxRecDepth 100000 in
theorem d_L_law_1495 : Dc m_L_law 1495 .iadd 1 1496 := ⟨by decide +kernel, rfl⟩
set_option maxRecDepth 100000 in
theorem d_L_law_1496 : Dc m_L_law 1496 .iaload 1 1497 := ⟨by decide +kernel, rfl⟩
set_option maxRecDepth 100000 in
theorem d_L_law_1497 : Dc m_L_law 1497 (.invokevirtual 168) 3 1500 := ⟨by decide +kernel, rfl⟩
set_option maxRecDepth 100000 in
theorem d_L_law_1500 : Dj m_L_law 1500 (.if_icmp .eq) 1503 1739 := ⟨239, by decide +kernel, rfl, by decide⟩
set_option maxRecDepth 100000 in
theorem d_L_law_1503 : Dc m_L_law 1503 (.iconst 0) 1 1504 := ⟨by decide +kernel, rfl⟩
set_option maxRecDepth 100000 in
theorem d_L_law_1504 : Dc m_L_law 1504 .ireturn 1 1505 := ⟨by decide +kernel, rfl⟩
set_option maxRecDepth 100000 in
theorem d_L_law_1505 : Dc m_L_law 1505 (.aload_n 1) 1 1506 := ⟨by decide +kernel, rfl⟩
set_option maxRecDepth 100000 in
theorem d_L_law_1506 : Dc m_L_law 1506 (.aload_n 0) 1 1507 := ⟨by decide +kernel, rfl⟩
set_option maxRecDepth 100000 in
theorem d_L_law_1507 : Dc m_L_law 1507 (.iload_n 3) 1 1508 := ⟨by decide +kernel, rfl⟩
set_option maxRecDepth 100000 in
theorem d_L_law_1508 : Dc m_L_law 1508 (.iconst 1) 1 1509 := ⟨by decide +kernel, rfl⟩
set_option maxRecDepth 100000 in
theorem d_L_law_1509 : Dc m_L_law 1509 .iadd 1 1510 := ⟨by decide +kernel, rfl⟩
set_option maxRecDepth 100000 in
theorem d_L_law_1510 : Dc m_L_law 1510 .iaload 1 1511 := ⟨by decide +kernel, rfl⟩
set_option maxRecDepth 100000 in
theorem d_L_law_1511 : Dc m_L_law 1511 (.aload_n 0) 1 1512 := ⟨by decide +kernel, rfl⟩
set_option maxRecDepth 100000 in
theorem d_L_law_1512 : Dc m_L_law 1512 (.iload_n 3) 1 1513 := ⟨by decide +kernel, rfl⟩
set_option maxRecDepth 100000 in
theorem d_L_law_1513 : Dc m_L_law 1513 (.iconst 2) 1 1514 := ⟨by decide +kernel, rfl⟩
set_option maxRecDepth 100000 in
theorem d_L_law_1514 : Dc m_L_law 1514 .iadd 1 1515 := ⟨by decide +kernel, rfl⟩
set_option maxRecDepth 100000 in
theorem d_L_law_1515 : Dc m_L_law 1515 .iaload 1 1516 := ⟨by decide +kernel, rfl⟩
set_option maxRecDepth 100000 in
theorem d_L_law_1516 : Dc m_L_law 1516 (.aload_n 0) 1 1517 := ⟨by decide +kernel, rfl⟩
set_option maxRecDepth 100000 in
theorem d_L_law_1517 : Dc m_L_law 1517 (.iload_n 3) 1 1518 := ⟨by decide +kernel, rfl⟩
set_option maxRecDepth 100000 in
theorem d_L_law_1518 : Dc m_L_law 1518 (.iconst 3) 1 1519 := ⟨by decide +kernel, rfl⟩
set_option maxRecDepth 100000 in
theorem d_L_law_1519 : Dc m_L_law 1519 .iadd 1 1520 := ⟨by decide +kernel, rfl⟩
set_option maxRecDepth 100000 in
theorem d_L_law_1520 : Dc m_L_law 1520 .iaload 1 1521 := ⟨by decide +kernel, rfl⟩
set_option maxRecDepth 100000 in
theorem d_L_law_1521 : Dc m_L_law 1521 (.invokevirtual 169) 3 1524 := ⟨by decide +kernel, rfl⟩
set_option maxRecDepth 100000 in
theorem d_L_law_1524 : Dc m_L_law 1524 (.aload_n 2) 1 1525 := ⟨by decide +kernel, rfl⟩
set_option maxRecDepth 100000 in
theorem d_L_law_1525 : Dc m_L_law 1525 (.aload_n 0) 1 1526 := ⟨by decide +kernel, rfl⟩
set_option maxRecDepth 100000 in
theorem d_L_law_1526 : Dc m_L_law 1526 (.iload_n 3) 1 1527 := ⟨by decide +kernel, rfl⟩
set_option maxRecDepth 100000 in
theorem d_L_law_1527 : Dc m_L_law 1527 (.iconst 1) 1 1528 := ⟨by decide +kernel, rfl⟩
set_option maxRecDepth 100000 in
theorem d_L_law_1528 : Dc m_L_law 1528 .iadd 1 1529 := ⟨by decide +kernel, rfl⟩
set_option maxRecDepth 100000 in
theorem d_L_law_1529 : Dc m_L_law 1529 .iaload 1 1530 := ⟨by decide +kernel, rfl⟩
set_option maxRecDepth 100000 in
theorem d_L_law_1530 : Dc m_L_law 1530 (.aload_n 0) 1 1531 := ⟨by decide +kernel, rfl⟩
set_option maxRecDepth 100000 in
theorem d_L_law_1531 : Dc m_L_law 1531 (.iload_n 3) 1 1532 := ⟨by decide +kernel, rfl⟩
set_option maxRecDepth 100000 in
theorem d_L_law_1532 : Dc m_L_law 1532 (.iconst 2) 1 1533 := ⟨by decide +kernel, rfl⟩
set_option maxRecDepth 100000 in
theorem d_L_law_1533 : Dc m_L_law 1533 .iadd 1 1534 := ⟨by decide +kernel, rfl⟩
set_option maxRecDepth 100000 in
theorem d_L_law_1534 : Dc m_L_law 1534 .iaload 1 1535 := ⟨by decide +kernel, rfl⟩
set_option maxRecDepth 100000 in
theorem d_L_law_1535 : Dc m_L_law 1535 (.aload_n 0) 1 1536 := ⟨by decide +kernel, rfl⟩
set_option maxRecDepth 100000 in
theorem d_L_law_1536 : Dc m_L_law 1536 (.iload_n 3) 1 1537 := ⟨by decide +kernel, rfl⟩
set_option maxRecDepth 100000 in
theorem d_L_law_1537 : Dc m_L_law 1537 (.iconst 3) 1 1538 := ⟨by decide +kernel, rfl⟩
set_option maxRecDepth 100000 in
theorem d_L_law_1538 : Dc m_L_law 1538 .iadd 1 1539 := ⟨by decide +kernel, rfl⟩
set_option maxRecDepth 100000 in
theorem d_L_law_1539 : Dc m_L_law 1539 .iaload 1 1540 := ⟨by decide +kernel, rfl⟩
set_option maxRecDepth 100000 in
theorem d_L_law_1540 : Dc m_L_law 1540 (.invokevirtual 172) 3 1543 := ⟨by decide +kernel, rfl⟩
set_option maxRecDepth 100000 in
theorem d_L_law_1543 : Dj m_L_law 1543 (.if_icmp .eq) 1546 1739 := ⟨196, by decide +kernel, rfl, by decide⟩
set_option maxRecDepth 100000 in
theorem d_L_law_1546 : Dc m_L_law 1546 (.iconst 0) 1 1547 := ⟨by decide +kernel, rfl⟩
set_option maxRecDepth 100000 in
theorem d_L_law_1547 : Dc m_L_law 1547 .ireturn 1 1548 := ⟨by decide +kernel, rfl⟩
set_option maxRecDepth 100000 in
theorem d_L_law_1548 : Dc m_L_law 1548 (.aload_n 1) 1 1549 := ⟨by decide +kernel, rfl⟩
set_option maxRecDepth 100000 in
theorem d_L_law_1549 : Dc m_L_law 1549 (.aload_n 0) 1 1550 := ⟨by decide +kernel, rfl⟩
set_option maxRecDepth 100000 in
theorem d_L_law_1550 : Dc m_L_law 1550 (.iload_n 3) 1 1551 := ⟨by decide +kernel, rfl⟩
set_option maxRecDepth 100000 in
theorem d_L_law_1551 : Dc m_L_law 1551 (.iconst 1) 1 1552 := ⟨by decide +kernel, rfl⟩
set_option maxRecDepth 100000 in
theorem d_L_law_1552 : Dc m_L_law 1552 .iadd 1 1553 := ⟨by decide +kernel, rfl⟩
set_option maxRecDepth 100000 in
theorem d_L_law_1553 : Dc m_L_law 1553 .iaload 1 1554 := ⟨by decide +kernel, rfl⟩
set_option maxRecDepth 100000 in
theorem d_L_law_1554 : Dc m_L_law 1554 (.aload_n 0) 1 1555 := ⟨by decide +kernel, rfl⟩
set_option maxRecDepth 100000 in
theorem d_L_law_1555 : Dc m_L_law 1555 (.iload_n 3) 1 1556 := ⟨by decide +kernel, rfl⟩
set_option maxRecDepth 100000 in
theorem d_L_law_1556 : Dc m_L_law 1556 (.iconst 2) 1 1557 := ⟨by decide +kernel, rfl⟩
set_option maxRecDepth 100000 in
theorem d_L_law_1557 : Dc m_L_law 1557 .iadd 1 1558 := ⟨by decide +kernel, rfl⟩
set_option maxRecDepth 100000 in
theorem d_L_law_1558 : Dc m_L_law 1558 .iaload 1 1559 := ⟨by decide +kernel, rfl⟩
set_option maxRecDepth 100000 in
theorem d_L_law_1559 : Dc m_L_law 1559 (.aload_n 0) 1 1560 := ⟨by decide +kernel, rfl⟩
set_option maxRecDepth 100000 in
theorem d_L_law_1560 : Dc m_L_law 1560 (.iload_n 3) 1 1561 := ⟨by decide +kernel, rfl⟩
set_option maxRecDepth 100000 in
theorem d_L_law_1561 : Dc m_L_law 1561 (.iconst 3) 1 1562 := ⟨by decide +kernel, rfl⟩
set_option maxRecDepth 100000 in
theorem d_L_law_1562 : Dc m_L_law 1562 .iadd 1 1563 := ⟨by decide +kernel, rfl⟩
set_option maxRecDepth 100000 in
theorem d_L_law_1563 : Dc m_L_law 1563 .iaload 1 1564 := ⟨by decide +kernel, rfl⟩
set_option maxRecDepth 100000 in
theorem d_L_law_1564 : Dc m_L_law 1564 (.invokevirtual 173) 3 1567 := ⟨by decide +kernel, rfl⟩
set_option maxRecDepth 100000 in
theorem d_L_law_1567 : Dc m_L_law 1567 (.aload_n 2) 1 1568 := ⟨by decide +kernel, rfl⟩
set_option maxRecDepth 100000 in
theorem d_L_law_1568 : Dc m_L_law 1568 (.aload_n 0) 1 1569 := ⟨by decide +kernel, rfl⟩
set_option maxRecDepth 100000 in
theorem d_L_law_1569 : Dc m_L_law 1569 (.iload_n 3) 1 1570 := ⟨by decide +kernel, rfl⟩
set_option maxRecDepth 100000 in
theorem d_L_law_1570 : Dc m_L_law 1570 (.iconst 1) 1 1571 := ⟨by decide +kernel, rfl⟩
set_option maxRecDepth 100000 in
theorem d_L_law_1571 : Dc m_L_law 1571 .iadd 1 1572 := ⟨by decide +kernel, rfl⟩
set_option maxRecDepth 100000 in
theorem d_L_law_1572 : Dc m_L_law 1572 .iaload 1 1573 := ⟨by decide +kernel, rfl⟩
set_option maxRecDepth 100000 in
theorem d_L_law_1573 : Dc m_L_law 1573 (.aload_n 0) 1 1574 := ⟨by decide +kernel, rfl⟩
set_option maxRecDepth 100000 in
theorem d_L_law_1574 : Dc m_L_law 1574 (.iload_n 3) 1 1575 := ⟨by decide +kernel, rfl⟩
set_option maxRecDepth 100000 in
theorem d_L_law_1575 : Dc m_L_law 1575 (.iconst 2) 1 1576 := ⟨by decide +kernel, rfl⟩
set_option maxRecDepth 100000 in
theorem d_L_law_1576 : Dc m_L_law 1576 .iadd 1 1577 := ⟨by decide +kernel, rfl⟩
set_option maxRecDepth 100000 in
theorem d_L_law_1577 : Dc m_L_law 1577 .iaload 1 1578 := ⟨by decide +kernel, rfl⟩
set_option maxRecDepth 100000 in
theorem d_L_law_1578 : Dc m_L_law 1578 (.aload_n 0) 1 1579 := ⟨by decide +kernel, rfl⟩
set_option maxRecDepth 100000 in
theorem d_L_law_1579 : Dc m_L_law 1579 (.iload_n 3) 1 1580 := ⟨by decide +kernel, rfl⟩
set_option maxRecDepth 100000 in
theorem d_L_law_1580 : Dc m_L_law 1580 (.iconst 3) 1 1581 := ⟨by decide +kernel, rfl⟩
set_option maxRecDepth 100000 in
theorem d_L_law_1581 : Dc m_L_law 1581 .iadd 1 1582 := ⟨by decide +kernel, rfl⟩
set_option maxRecDepth 100000 in
theorem d_L_law_1582 : Dc m_L_law 1582 .iaload 1 1583 := ⟨by decide +kernel, rfl⟩
set_option maxRecDepth 100000 in
theorem d_L_law_1583 : Dc m_L_law 1583 (.invokevirtual 176) 3 1586 := ⟨by decide +kernel, rfl⟩
set_option maxRecDepth 100000 in
theorem d_L_law_1586 : Dj m_L_law 1586 (.if_icmp .eq) 1589 1739 := ⟨153, by decide +kernel, rfl, by decide⟩
set_option maxRecDepth 100000 in
theorem d_L_law_1589 : Dc m_L_law 1589 (.iconst 0) 1 1590 := ⟨by decide +kernel, rfl⟩
set_option maxRecDepth 100000 in
theorem d_L_law_1590 : Dc m_L_law 1590 .ireturn 1 1591 := ⟨by decide +kernel, rfl⟩
set_option maxRecDepth 100000 in
theorem d_L_law_1591 : Dc m_L_law 1591 (.aload_n 1) 1 1592 := ⟨by decide +kernel, rfl⟩
set_option maxRecDepth 100000 in
theorem d_L_law_1592 : Dc m_L_law 1592 (.aload_n 0) 1 1593 := ⟨by decide +kernel, rfl⟩
set_option maxRecDepth 100000 in
theorem d_L_law_1593 : Dc m_L_law 1593 (.iload_n 3) 1 1594 := ⟨by decide +kernel, rfl⟩
set_option maxRecDepth 100000 in
theorem d_L_law_1594 : Dc m_L_law 1594 (.iconst 1) 1 1595 := ⟨by decide +kernel, rfl⟩
set_option maxRecDepth 100000 in
theorem d_L_law_1595 : Dc m_L_law 1595 .iadd 1 1596 := ⟨by decide +kernel, rfl⟩
set_option maxRecDepth 100000 in
theorem d_L_law_1596 : Dc m_L_law 1596 .iaload 1 1597 := ⟨by decide +kernel, rfl⟩
set_option maxRecDepth 100000 in
theorem d_L_law_1597 : Dc m_L_law 1597 (.aload_n 0) 1 1598 := ⟨by decide +kernel, rfl⟩
set_option maxRecDepth 100000 in
theorem d_L_law_1598 : Dc m_L_law 1598 (.iload_n 3) 1 1599 := ⟨by decide +kernel, rfl⟩
set_option maxRecDepth 100000 in
theorem d_L_law_1599 : Dc m_L_law 1599 (.iconst 2) 1 1600 := ⟨by decide +kernel, rfl⟩
set_option maxRecDepth 100000 in
theorem d_L_law_1600 : Dc m_L_law 1600 .iadd 1 1601 := ⟨by decide +kernel, rfl⟩
set_option maxRecDepth 100000 in
theorem d_L_law_1601 : Dc m_L_law 1601 .iaload 1 1602 := ⟨by decide +kernel, rfl⟩
set_option maxRecDepth 100000 in
theorem d_L_law_1602 : Dc m_L_law 1602 (.invokevirtual 177) 3 1605 := ⟨by decide +kernel, rfl⟩
set_option maxRecDepth 100000 in
theorem d_L_law_1605 : Dc m_L_law 1605 (.aload_n 2) 1 1606 := ⟨by decide +kernel, rfl⟩
set_option maxRecDepth 100000 in
theorem d_L_law_1606 : Dc m_L_law 1606 (.aload_n 0) 1 1607 := ⟨by decide +kernel, rfl⟩
set_option maxRecDepth 100000 in
theorem d_L_law_1607 : Dc m_L_law 1607 (.iload_n 3) 1 1608 := ⟨by decide +kernel, rfl⟩
set_option maxRecDepth 100000 in
theorem d_L_law_1608 : Dc m_L_law 1608 (.iconst 1) 1 1609 := ⟨by decide +kernel, rfl⟩
set_option maxRecDepth 100000 in
theorem d_L_law_1609 : Dc m_L_law 1609 .iadd 1 1610 := ⟨by decide +kernel, rfl⟩
set_option maxRecDepth 100000 in
theorem d_L_law_1610 : Dc m_L_law 1610 .iaload 1 1611 := ⟨by decide +kernel, rfl⟩
set_option maxRecDepth 100000 in
theorem d_L_law_1611 : Dc m_L_law 1611 (.aload_n 0) 1 1612 := ⟨by decide +kernel, rfl⟩
set_option maxRecDepth 100000 in
theorem d_L_law_1612 : Dc m_L_law 1612 (.iload_n 3) 1 1613 := ⟨by decide +kernel, rfl⟩
set_option maxRecDepth 100000 in
theorem d_L_law_1613 : Dc m_L_law 1613 (.iconst 2) 1 1614 := ⟨by decide +kernel, rfl⟩
set_option maxRecDepth 100000 in
theorem d_L_law_1614 : Dc m_L_law 1614 .iadd 1 1615 := ⟨by decide +kernel, rfl⟩
set_option maxRecDepth 100000 in
theorem d_L_law_1615 : Dc m_L_law 1615 .iaload 1 1616 := ⟨by decide +kernel, rfl⟩
set_option maxRecDepth 100000 in
theorem d_L_law_1616 : Dc m_L_law 1616 (.invokevirtual 180) 3 1619 := ⟨by decide +kernel, rfl⟩
set_option maxRecDepth 100000 in
theorem d_L_law_1619 : Dj m_L_law 1619 (.if_icmp .eq) 1622 1739 := ⟨120, by decide +kernel, rfl, by decide⟩
set_option maxRecDepth 100000 in
theorem d_L_law_1622 : Dc m_L_law 1622 (.iconst 0) 1 1623 := ⟨by decide +kernel, rfl⟩
set_option maxRecDepth 100000 in
theorem d_L_law_1623 : Dc m_L_law 1623 .ireturn 1 1624 := ⟨by decide +kernel, rfl⟩
set_option maxRecDepth 100000 in
theorem d_L_law_1624 : Dc m_L_law 1624 (.aload_n 1) 1 1625 := ⟨by decide +kernel, rfl⟩
set_option maxRecDepth 100000 in
theorem d_L_law_1625 : Dc m_L_law 1625 (.aload_n 0) 1 1626 := ⟨by decide +kernel, rfl⟩
set_option maxRecDepth 100000 in
theorem d_L_law_1626 : Dc m_L_law 1626 (.iload_n 3) 1 1627 := ⟨by decide +kernel, rfl⟩
set_option maxRecDepth 100000 in
theorem d_L_law_1627 : Dc m_L_law 1627 (.iconst 1) 1 1628 := ⟨by decide +kernel, rfl⟩
set_option maxRecDepth 100000 in
theorem d_L_law_1628 : Dc m_L_law 1628 .iadd 1 1629 := ⟨by decide +kernel, rfl⟩
set_option maxRecDepth 100000 in
theorem d_L_law_1629 : Dc m_L_law 1629 .iaload 1 1630 := ⟨by decide +kernel, rfl⟩
set_option maxRecDepth 100000 in
theorem d_L_law_1630 : Dc m_L_law 1630 (.aload_n 0) 1 1631 := ⟨by decide +kernel, rfl⟩
set_option maxRecDepth 100000 in
theorem d_L_law_1631 : Dc m_L_law 1631 (.iload_n 3) 1 1632 := ⟨by decide +kernel, rfl⟩
set_option maxRecDepth 100000 in
theorem d_L_law_1632 : Dc m_L_law 1632 (.iconst 2) 1 1633 := ⟨by decide +kernel, rfl⟩
set_option maxRecDepth 100000 in
theorem d_L_law_1633 : Dc m_L_law 1633 .iadd 1 1634 := ⟨by decide +kernel, rfl⟩
set_option maxRecDepth 100000 in
theorem d_L_law_1634 : Dc m_L_law 1634 .iaload 1 1635 := ⟨by decide +kernel, rfl⟩
set_option maxRecDepth 100000 in
theorem d_L_law_1635 : Dc m_L_law 1635 (.aload_n 0) 1 1636 := ⟨by decide +kernel, rfl⟩
set_option maxRecDepth 100000 in
theorem d_L_law_1636 : Dc m_L_law 1636 (.iload_n 3) 1 1637 := ⟨by decide +kernel, rfl⟩
set_option maxRecDepth 100000 in
theorem d_L_law_1637 : Dc m_L_law 1637 (.iconst 3) 1 1638 := ⟨by decide +kernel, rfl⟩
set_option maxRecDepth 100000 in
theorem d_L_law_1638 : Dc m_L_law 1638 .iadd 1 1639 := ⟨by decide +kernel, rfl⟩
set_option maxRecDepth 100000 in
theorem d_L_law_1639 : Dc m_L_law 1639 .iaload 1 1640 := ⟨by decide +kernel, rfl⟩
set_option maxRecDepth 100000 in
theorem d_L_law_1640 : Dc m_L_law 1640 (.invokevirtual 181) 3 1643 := ⟨by decide +kernel, rfl⟩
set_option maxRecDepth 100000 in
theorem d_L_law_1643 : Dc m_L_law 1643 (.aload_n 2) 1 1644 := ⟨by decide +kernel, rfl⟩
set_option maxRecDepth 100000 in
theorem d_L_law_1644 : Dc m_L_law 1644 (.aload_n 0) 1 1645 := ⟨by decide +kernel, rfl⟩
set_option maxRecDepth 100000 in
theorem d_L_law_1645 : Dc m_L_law 1645 (.iload_n 3) 1 1646 := ⟨by decide +kernel, rfl⟩
set_option maxRecDepth 100000 in
theorem d_L_law_1646 : Dc m_L_law 1646 (.iconst 1) 1 1647 := ⟨by decide +kernel, rfl⟩
set_option maxRecDepth 100000 in
theorem d_L_law_1647 : Dc m_L_law 1647 .iadd 1 1648 := ⟨by decide +kernel, rfl⟩
set_option maxRecDepth 100000 in
theorem d_L_law_1648 : Dc m_L_law 1648 .iaload 1 1649 := ⟨by decide +kernel, rfl⟩
set_option maxRecDepth 100000 in
theorem d_L_law_1649 : Dc m_L_law 1649 (.aload_n 0) 1 1650 := ⟨by decide +kernel, rfl⟩
set_option maxRecDepth 100000 in
theorem d_L_law_1650 : Dc m_L_law 1650 (.iload_n 3) 1 1651 := ⟨by decide +kernel, rfl⟩
set_option maxRecDepth 100000 in
theorem d_L_law_1651 : Dc m_L_law 1651 (.iconst 2) 1 1652 := ⟨by decide +kernel, rfl⟩
set_option maxRecDepth 100000 in
theorem d_L_law_1652 : Dc m_L_law 1652 .iadd 1 1653 := ⟨by decide +kernel, rfl⟩
set_option maxRecDepth 100000 in
theorem d_L_law_1653 : Dc m_L_law 1653 .iaload 1 1654 := ⟨by decide +kernel, rfl⟩
set_option maxRecDepth 100000 in
theorem d_L_law_1654 : Dc m_L_law 1654 (.aload_n 0) 1 1655 := ⟨by decide +kernel, rfl⟩
set_option maxRecDepth 100000 in
theorem d_L_law_1655 : Dc m_L_law 1655 (.iload_n 3) 1 1656 := ⟨by decide +kernel, rfl⟩
set_option maxRecDepth 100000 in
theorem d_L_law_1656 : Dc m_L_law 1656 (.iconst 3) 1 1657 := ⟨by decide +kernel, rfl⟩
set_option maxRecDepth 100000 in
theorem d_L_law_1657 : Dc m_L_law 1657 .iadd 1 1658 := ⟨by decide +kernel, rfl⟩
set_option maxRecDepth 100000 in
theorem d_L_law_1658 : Dc m_L_law 1658 .iaload 1 1659 := ⟨by decide +kernel, rfl⟩
set_option maxRecDepth 100000 in
theorem d_L_law_1659 : Dc m_L_law 1659 (.invokevirtual 184) 3 1662 := ⟨by decide +kernel, rfl⟩
set_option maxRecDepth 100000 in
theorem d_L_law_1662 : Dj m_L_law 1662 (.if_icmp .eq) 1665 1739 := ⟨77, by decide +kernel, rfl, by decide⟩
set_option maxRecDepth 100000 in
theorem d_L_law_1665 : Dc m_L_law 1665 (.iconst 0) 1 1666 := ⟨by decide +kernel, rfl⟩
set_option maxRecDepth 100000 in
theorem d_L_law_1666 : Dc m_L_law 1666 .ireturn 1 1667 := ⟨by decide +kernel, rfl⟩
set_option maxRecDepth 100000 in
theorem d_L_law_1667 : Dc m_L_law 1667 (.aload_n 1) 1 1668 := ⟨by decide +kernel, rfl⟩
set_option maxRecDepth 100000 in
theorem d_L_law_1668 : Dc m_L_law 1668 (.aload_n 0) 1 1669 := ⟨by decide +kernel, rfl⟩
set_option maxRecDepth 100000 in
theorem d_L_law_1669 : Dc m_L_law 1669 (.iload_n 3) 1 1670 := ⟨by decide +kernel, rfl⟩
set_option maxRecDepth 100000 in
theorem d_L_law_1670 : Dc m_L_law 1670 (.iconst 1) 1 1671 := ⟨by decide +kernel, rfl⟩
set_option maxRecDepth 100000 in
theorem d_L_law_1671 : Dc m_L_law 1671 .iadd 1 1672 := ⟨by decide +kernel, rfl⟩
set_option maxRecDepth 100000 in
theorem d_L_law_1672 : Dc m_L_law 1672 .iaload 1 1673 := ⟨by decide +kernel, rfl⟩
set_option maxRecDepth 100000 in
theorem d_L_law_1673 : Dc m_L_law 1673 (.invokevirtual 185) 3 1676 := ⟨by decide +kernel, rfl⟩
set_option maxRecDepth 100000 in
theorem d_L_law_1676 : Dc m_L_law 1676 (.aload_n 2) 1 1677 := ⟨by decide +kernel, rfl⟩
set_option maxRecDepth 100000 in
theorem d_L_law_1677 : Dc m_L_law 1677 (.aload_n 0) 1 1678 := ⟨by decide +kernel, rfl⟩
set_option maxRecDepth 100000 in
theorem d_L_law_1678 : Dc m_L_law 1678 (.iload_n 3) 1 1679 := ⟨by decide +kernel, rfl⟩
set_option maxRecDepth 100000 in
theorem d_L_law_1679 : Dc m_L_law 1679 (.iconst 1) 1 1680 := ⟨by decide +kernel, rfl⟩
set_option maxRecDepth 100000 in
theorem d_L_law_1680 : Dc m_L_law 1680 .iadd 1 1681 := ⟨by decide +kernel, rfl⟩
set_option maxRecDepth 100000 in
theorem d_L_law_1681 : Dc m_L_law 1681 .iaload 1 1682 := ⟨by decide +kernel, rfl⟩
set_option maxRecDepth 100000 in
theorem d_L_law_1682 : Dc m_L_law 1682 (.invokevirtual 188) 3 1685 := ⟨by decide +kernel, rfl⟩
set_option maxRecDepth 100000 in
theorem d_L_law_1685 : Dj m_L_law 1685 (.if_icmp .eq) 1688 1739 := ⟨54, by decide +kernel, rfl, by decide⟩
set_option maxRecDepth 100000 in
theorem d_L_law_1688 : Dc m_L_law 1688 (.iconst 0) 1 1689 := ⟨by decide +kernel, rfl⟩
set_option maxRecDepth 100000 in
theorem d_L_law_1689 : Dc m_L_law 1689 .ireturn 1 1690 := ⟨by decide +kernel, rfl⟩
set_option maxRecDepth 100000 in
theorem d_L_law_1690 : Dc m_L_law 1690 (.aload_n 1) 1 1691 := ⟨by decide +kernel, rfl⟩
set_option maxRecDepth 100000 in
theorem d_L_law_1691 : Dc m_L_law 1691 (.aload_n 0) 1 1692 := ⟨by decide +kernel, rfl⟩
set_option maxRecDepth 100000 in
theorem d_L_law_1692 : Dc m_L_law 1692 (.iload_n 3) 1 1693 := ⟨by decide +kernel, rfl⟩
set_option maxRecDepth 100000 in
theorem d_L_law_1693 : Dc m_L_law 1693 (.iconst 1) 1 1694 := ⟨by decide +kernel, rfl⟩
set_option maxRecDepth 100000 in
theorem d_L_law_1694 : Dc m_L_law 1694 .iadd 1 1695 := ⟨by decide +kernel, rfl⟩
set_option maxRecDepth 100000 in
theorem d_L_law_1695 : Dc m_L_law 1695 .iaload 1 1696 := ⟨by decide +kernel, rfl⟩
set_option maxRecDepth 100000 in
theorem d_L_law_1696 : Dc m_L_law 1696 (.invokevirtual 189) 3 1699 := ⟨by decide +kernel, rfl⟩
set_option maxRecDepth 100000 in
theorem d_L_law_1699 : Dc m_L_law 1699 (.aload_n 2) 1 1700 := ⟨by decide +kernel, rfl⟩
set_option maxRecDepth 100000 in
theorem d_L_law_1700 : Dc m_L_law 1700 (.aload_n 0) 1 1701 := ⟨by decide +kernel, rfl⟩
set_option maxRecDepth 100000 in
theorem d_L_law_1701 : Dc m_L_law 1701 (.iload_n 3) 1 1702 := ⟨by decide +kernel, rfl⟩
set_option maxRecDepth 100000 in
theorem d_L_law_1702 : Dc m_L_law 1702 (.iconst 1) 1 1703 := ⟨by decide +kernel, rfl⟩
set_option maxRecDepth 100000 in
theorem d_L_law_1703 : Dc m_L_law 1703 .iadd 1 1704 := ⟨by decide +kernel, rfl⟩
set_option maxRecDepth 100000 in
theorem d_L_law_1704 : Dc m_L_law 1704 .iaload 1 1705 := ⟨by decide +kernel, rfl⟩
set_option maxRecDepth 100000 in
theorem d_L_law_1705 : Dc m_L_law 1705 (.invokevirtual 192) 3 1708 := ⟨by decide +kernel, rfl⟩
set_option maxRecDepth 100000 in
theorem d_L_law_1708 : Dj m_L_law 1708 (.if_icmp .eq) 1711 1739 := ⟨31, by decide +kernel, rfl, by decide⟩
set_option maxRecDepth 100000 in
theorem d_L_law_1711 : Dc m_L_law 1711 (.iconst 0) 1 1712 := ⟨by decide +kernel, rfl⟩
set_option maxRecDepth 100000 in
theorem d_L_law_1712 : Dc m_L_law 1712 .ireturn 1 1713 := ⟨by decide +kernel, rfl⟩
set_option maxRecDepth 100000 in
theorem d_L_law_1713 : Dc m_L_law 1713 (.aload_n 1) 1 1714 := ⟨by decide +kernel, rfl⟩
set_option maxRecDepth 100000 in
theorem d_L_law_1714 : Dc m_L_law 1714 (.invokevirtual 193) 3 1717 := ⟨by decide +kernel, rfl⟩
set_option maxRecDepth 100000 in
theorem d_L_law_1717 : Dc m_L_law 1717 (.aload_n 2) 1 1718 := ⟨by decide +kernel, rfl⟩
set_option maxRecDepth 100000 in
theorem d_L_law_1718 : Dc m_L_law 1718 (.invokevirtual 196) 3 1721 := ⟨by decide +kernel, rfl⟩
set_option maxRecDepth 100000 in
theorem d_L_law_1721 : Dj m_L_law 1721 (.if_icmp .eq) 1724 1739 := ⟨18, by decide +kernel, rfl, by decide⟩
set_option maxRecDepth 100000 in
theorem d_L_law_1724 : Dc m_L_law 1724 (.iconst 0) 1 1725 := ⟨by decide +kernel, rfl⟩
set_option maxRecDepth 100000 in
theorem d_L_law_1725 : Dc m_L_law 1725 .ireturn 1 1726 := ⟨by decide +kernel, rfl⟩
set_option maxRecDepth 100000 in
theorem d_L_law_1726 : Dc m_L_law 1726 (.aload_n 1) 1 1727 := ⟨by decide +kernel, rfl⟩
set_option maxRecDepth 100000 in
theorem d_L_law_1727 : Dc m_L_law 1727 (.invokevirtual 197) 3 1730 := ⟨by decide +kernel, rfl⟩
set_option maxRecDepth 100000 in
theorem d_L_law_1730 : Dc m_L_law 1730 (.aload_n 2) 1 1731 := ⟨by decide +kernel, rfl⟩
set_option maxRecDepth 100000 in
theorem d_L_law_1731 : Dc m_L_law 1731 (.invokevirtual 200) 3 1734 := ⟨by decide +kernel, rfl⟩
set_option maxRecDepth 100000 in
theorem d_L_law_1734 : Dj m_L_law 1734 (.if_icmp .eq) 1737 1739 := ⟨5, by decide +kernel, rfl, by decide⟩
set_option maxRecDepth 100000 in
theorem d_L_law_1737 : Dc m_L_law 1737 (.iconst 0) 1 1738 := ⟨by decide +kernel, rfl⟩
set_option maxRecDepth 100000 in
theorem d_L_law_1738 : Dc m_L_law 1738 .ireturn 1 1739 := ⟨by decide +kernel, rfl⟩
set_option maxRecDepth 100000 in
theorem d_L_law_1739 : Dc m_L_law 1739 (.iinc 3 (6)) 3 1742 := ⟨by decide +kernel, rfl⟩
set_option maxRecDepth 100000 in
theorem d_L_law_1742 : Dj m_L_law 1742 .goto 1745 18 := ⟨-1724, by decide +kernel, rfl, by decide⟩
set_option maxRecDepth 100000 in
theorem d_L_law_1745 : Dc m_L_law 1745 (.iconst 1) 1 1746 := ⟨by decide +kernel, rfl⟩
set_option maxRecDepth 100000 in
theorem d_L_law_1746 : Dc m_L_law 1746 .ireturn 1 1747 := ⟨by decide +kernel, rfl⟩
