/-! the law's instructions -/
theorem dL_law__0 : decode cL_law_ 0 = .ok (.new 8, 3) := by decide +kernel
theorem dL_law__3 : decode cL_law_ 3 = .ok (.dup, 1) := by decide +kernel
theorem dL_law__4 : decode cL_law_ 4 = .ok (.invokespecial 137, 3) := by decide +kernel
theorem dL_law__7 : decode cL_law_ 7 = .ok (.astore_n 1, 1) := by decide +kernel
theorem dL_law__8 : decode cL_law_ 8 = .ok (.new 138, 3) := by decide +kernel
theorem dL_law__11 : decode cL_law_ 11 = .ok (.dup, 1) := by decide +kernel
theorem dL_law__12 : decode cL_law_ 12 = .ok (.invokespecial 140, 3) := by decide +kernel
theorem dL_law__15 : decode cL_law_ 15 = .ok (.astore_n 2, 1) := by decide +kernel
theorem dL_law__16 : decode cL_law_ 16 = .ok (.iconst 1, 1) := by decide +kernel
theorem dL_law__17 : decode cL_law_ 17 = .ok (.newarray .long, 2) := by decide +kernel
theorem dL_law__19 : decode cL_law_ 19 = .ok (.astore_n 3, 1) := by decide +kernel
theorem dL_law__20 : decode cL_law_ 20 = .ok (.iconst 0, 1) := by decide +kernel
theorem dL_law__21 : decode cL_law_ 21 = .ok (.istore 4, 2) := by decide +kernel
theorem dL_law__23 : decode cL_law_ 23 = .ok (.iload 4, 2) := by decide +kernel
theorem dL_law__25 : decode cL_law_ 25 = .ok (.aload_n 0, 1) := by decide +kernel
theorem dL_law__26 : decode cL_law_ 26 = .ok (.arraylength, 1) := by decide +kernel
theorem dL_law__27 : decode cL_law_ 27 = .ok (.bipush 7, 2) := by decide +kernel
theorem dL_law__29 : decode cL_law_ 29 = .ok (.isub, 1) := by decide +kernel
theorem dL_law__30 : decode cL_law_ 30 = .ok (.if_icmp .gt 3311, 3) := by decide +kernel
theorem dL_law__33 : decode cL_law_ 33 = .ok (.aload_n 0, 1) := by decide +kernel
theorem dL_law__34 : decode cL_law_ 34 = .ok (.iload 4, 2) := by decide +kernel
theorem dL_law__36 : decode cL_law_ 36 = .ok (.iaload, 1) := by decide +kernel
theorem dL_law__37 : decode cL_law_ 37 = .ok (.bipush 63, 2) := by decide +kernel
theorem dL_law__39 : decode cL_law_ 39 = .ok (.iand, 1) := by decide +kernel
theorem dL_law__40 : decode cL_law_ 40 = .ok (.tableswitch 3295 0 43 #[192, 265, 290, 334, 378, 391, 474, 529, 612, 712, 768, 848, 967, 1046, 1114, 1213, 1345, 1401, 1469, 1596, 1712, 1851, 1962, 2094, 2267, 2322, 2366, 2510, 2578, 2666, 2722, 2736, 2803, 2828, 2884, 2897, 2952, 3052, 3152, 3208, 3233, 3246, 3257, 3270], 192) := by decide +kernel
theorem dL_law__232 : decode cL_law_ 232 = .ok (.aload_n 1, 1) := by decide +kernel
theorem dL_law__233 : decode cL_law_ 233 = .ok (.aload_n 0, 1) := by decide +kernel
theorem dL_law__234 : decode cL_law_ 234 = .ok (.iload 4, 2) := by decide +kernel
theorem dL_law__236 : decode cL_law_ 236 = .ok (.iconst 1, 1) := by decide +kernel
theorem dL_law__237 : decode cL_law_ 237 = .ok (.iadd, 1) := by decide +kernel
theorem dL_law__238 : decode cL_law_ 238 = .ok (.iaload, 1) := by decide +kernel
theorem dL_law__239 : decode cL_law_ 239 = .ok (.aload_n 0, 1) := by decide +kernel
theorem dL_law__240 : decode cL_law_ 240 = .ok (.iload 4, 2) := by decide +kernel
theorem dL_law__242 : decode cL_law_ 242 = .ok (.iconst 2, 1) := by decide +kernel
theorem dL_law__243 : decode cL_law_ 243 = .ok (.iadd, 1) := by decide +kernel
theorem dL_law__244 : decode cL_law_ 244 = .ok (.iaload, 1) := by decide +kernel
theorem dL_law__245 : decode cL_law_ 245 = .ok (.aload_n 0, 1) := by decide +kernel
theorem dL_law__246 : decode cL_law_ 246 = .ok (.iload 4, 2) := by decide +kernel
theorem dL_law__248 : decode cL_law_ 248 = .ok (.iconst 3, 1) := by decide +kernel
theorem dL_law__249 : decode cL_law_ 249 = .ok (.iadd, 1) := by decide +kernel
theorem dL_law__250 : decode cL_law_ 250 = .ok (.iaload, 1) := by decide +kernel
theorem dL_law__251 : decode cL_law_ 251 = .ok (.aload_n 0, 1) := by decide +kernel
theorem dL_law__252 : decode cL_law_ 252 = .ok (.iload 4, 2) := by decide +kernel
theorem dL_law__254 : decode cL_law_ 254 = .ok (.iconst 4, 1) := by decide +kernel
theorem dL_law__255 : decode cL_law_ 255 = .ok (.iadd, 1) := by decide +kernel
theorem dL_law__256 : decode cL_law_ 256 = .ok (.iaload, 1) := by decide +kernel
theorem dL_law__257 : decode cL_law_ 257 = .ok (.aload_n 0, 1) := by decide +kernel
theorem dL_law__258 : decode cL_law_ 258 = .ok (.iload 4, 2) := by decide +kernel
theorem dL_law__260 : decode cL_law_ 260 = .ok (.iconst 5, 1) := by decide +kernel
theorem dL_law__261 : decode cL_law_ 261 = .ok (.iadd, 1) := by decide +kernel
theorem dL_law__262 : decode cL_law_ 262 = .ok (.iaload, 1) := by decide +kernel
theorem dL_law__263 : decode cL_law_ 263 = .ok (.invokevirtual 141, 3) := by decide +kernel
theorem dL_law__266 : decode cL_law_ 266 = .ok (.aload_n 2, 1) := by decide +kernel
theorem dL_law__267 : decode cL_law_ 267 = .ok (.aload_n 0, 1) := by decide +kernel
theorem dL_law__268 : decode cL_law_ 268 = .ok (.iload 4, 2) := by decide +kernel
theorem dL_law__270 : decode cL_law_ 270 = .ok (.iconst 1, 1) := by decide +kernel
theorem dL_law__271 : decode cL_law_ 271 = .ok (.iadd, 1) := by decide +kernel
theorem dL_law__272 : decode cL_law_ 272 = .ok (.iaload, 1) := by decide +kernel
theorem dL_law__273 : decode cL_law_ 273 = .ok (.aload_n 0, 1) := by decide +kernel
theorem dL_law__274 : decode cL_law_ 274 = .ok (.iload 4, 2) := by decide +kernel
theorem dL_law__276 : decode cL_law_ 276 = .ok (.iconst 2, 1) := by decide +kernel
theorem dL_law__277 : decode cL_law_ 277 = .ok (.iadd, 1) := by decide +kernel
theorem dL_law__278 : decode cL_law_ 278 = .ok (.iaload, 1) := by decide +kernel
theorem dL_law__279 : decode cL_law_ 279 = .ok (.aload_n 0, 1) := by decide +kernel
theorem dL_law__280 : decode cL_law_ 280 = .ok (.iload 4, 2) := by decide +kernel
theorem dL_law__282 : decode cL_law_ 282 = .ok (.iconst 3, 1) := by decide +kernel
theorem dL_law__283 : decode cL_law_ 283 = .ok (.iadd, 1) := by decide +kernel
theorem dL_law__284 : decode cL_law_ 284 = .ok (.iaload, 1) := by decide +kernel
theorem dL_law__285 : decode cL_law_ 285 = .ok (.aload_n 0, 1) := by decide +kernel
theorem dL_law__286 : decode cL_law_ 286 = .ok (.iload 4, 2) := by decide +kernel
theorem dL_law__288 : decode cL_law_ 288 = .ok (.iconst 4, 1) := by decide +kernel
theorem dL_law__289 : decode cL_law_ 289 = .ok (.iadd, 1) := by decide +kernel
theorem dL_law__290 : decode cL_law_ 290 = .ok (.iaload, 1) := by decide +kernel
theorem dL_law__291 : decode cL_law_ 291 = .ok (.aload_n 0, 1) := by decide +kernel
theorem dL_law__292 : decode cL_law_ 292 = .ok (.iload 4, 2) := by decide +kernel
theorem dL_law__294 : decode cL_law_ 294 = .ok (.iconst 5, 1) := by decide +kernel
theorem dL_law__295 : decode cL_law_ 295 = .ok (.iadd, 1) := by decide +kernel
theorem dL_law__296 : decode cL_law_ 296 = .ok (.iaload, 1) := by decide +kernel
theorem dL_law__297 : decode cL_law_ 297 = .ok (.invokevirtual 145, 3) := by decide +kernel
theorem dL_law__300 : decode cL_law_ 300 = .ok (.if_icmp .eq 3035, 3) := by decide +kernel
theorem dL_law__303 : decode cL_law_ 303 = .ok (.iconst 0, 1) := by decide +kernel
theorem dL_law__304 : decode cL_law_ 304 = .ok (.ireturn, 1) := by decide +kernel
theorem dL_law__305 : decode cL_law_ 305 = .ok (.aload_n 1, 1) := by decide +kernel
theorem dL_law__306 : decode cL_law_ 306 = .ok (.aload_n 0, 1) := by decide +kernel
theorem dL_law__307 : decode cL_law_ 307 = .ok (.iload 4, 2) := by decide +kernel
theorem dL_law__309 : decode cL_law_ 309 = .ok (.iconst 1, 1) := by decide +kernel
theorem dL_law__310 : decode cL_law_ 310 = .ok (.iadd, 1) := by decide +kernel
theorem dL_law__311 : decode cL_law_ 311 = .ok (.iaload, 1) := by decide +kernel
theorem dL_law__312 : decode cL_law_ 312 = .ok (.invokevirtual 146, 3) := by decide +kernel
theorem dL_law__315 : decode cL_law_ 315 = .ok (.aload_n 2, 1) := by decide +kernel
theorem dL_law__316 : decode cL_law_ 316 = .ok (.aload_n 0, 1) := by decide +kernel
theorem dL_law__317 : decode cL_law_ 317 = .ok (.iload 4, 2) := by decide +kernel
theorem dL_law__319 : decode cL_law_ 319 = .ok (.iconst 1, 1) := by decide +kernel
theorem dL_law__320 : decode cL_law_ 320 = .ok (.iadd, 1) := by decide +kernel
theorem dL_law__321 : decode cL_law_ 321 = .ok (.iaload, 1) := by decide +kernel
theorem dL_law__322 : decode cL_law_ 322 = .ok (.invokevirtual 150, 3) := by decide +kernel
theorem dL_law__325 : decode cL_law_ 325 = .ok (.if_icmp .eq 3010, 3) := by decide +kernel
theorem dL_law__328 : decode cL_law_ 328 = .ok (.iconst 0, 1) := by decide +kernel
theorem dL_law__329 : decode cL_law_ 329 = .ok (.ireturn, 1) := by decide +kernel
theorem dL_law__330 : decode cL_law_ 330 = .ok (.aload_n 1, 1) := by decide +kernel
theorem dL_law__331 : decode cL_law_ 331 = .ok (.aload_n 3, 1) := by decide +kernel
theorem dL_law__332 : decode cL_law_ 332 = .ok (.invokestatic 151, 3) := by decide +kernel
theorem dL_law__335 : decode cL_law_ 335 = .ok (.istore 5, 2) := by decide +kernel
theorem dL_law__337 : decode cL_law_ 337 = .ok (.aload_n 2, 1) := by decide +kernel
theorem dL_law__338 : decode cL_law_ 338 = .ok (.invokevirtual 156, 3) := by decide +kernel
theorem dL_law__341 : decode cL_law_ 341 = .ok (.istore 6, 2) := by decide +kernel
theorem dL_law__343 : decode cL_law_ 343 = .ok (.aload_n 2, 1) := by decide +kernel
theorem dL_law__344 : decode cL_law_ 344 = .ok (.invokevirtual 157, 3) := by decide +kernel
theorem dL_law__347 : decode cL_law_ 347 = .ok (.iload 5, 2) := by decide +kernel
theorem dL_law__349 : decode cL_law_ 349 = .ok (.if_icmp .eq 5, 3) := by decide +kernel
theorem dL_law__352 : decode cL_law_ 352 = .ok (.iconst 0, 1) := by decide +kernel
theorem dL_law__353 : decode cL_law_ 353 = .ok (.ireturn, 1) := by decide +kernel
theorem dL_law__354 : decode cL_law_ 354 = .ok (.iload 5, 2) := by decide +kernel
theorem dL_law__356 : decode cL_law_ 356 = .ok (.ifCond .ne 15, 3) := by decide +kernel
theorem dL_law__359 : decode cL_law_ 359 = .ok (.aload_n 3, 1) := by decide +kernel
theorem dL_law__360 : decode cL_law_ 360 = .ok (.iconst 0, 1) := by decide +kernel
theorem dL_law__361 : decode cL_law_ 361 = .ok (.laload, 1) := by decide +kernel
theorem dL_law__362 : decode cL_law_ 362 = .ok (.iload 6, 2) := by decide +kernel
theorem dL_law__364 : decode cL_law_ 364 = .ok (.i2l, 1) := by decide +kernel
theorem dL_law__365 : decode cL_law_ 365 = .ok (.lcmp, 1) := by decide +kernel
theorem dL_law__366 : decode cL_law_ 366 = .ok (.ifCond .eq 5, 3) := by decide +kernel
theorem dL_law__369 : decode cL_law_ 369 = .ok (.iconst 0, 1) := by decide +kernel
theorem dL_law__370 : decode cL_law_ 370 = .ok (.ireturn, 1) := by decide +kernel
theorem dL_law__371 : decode cL_law_ 371 = .ok (.goto 2964, 3) := by decide +kernel
theorem dL_law__374 : decode cL_law_ 374 = .ok (.aload_n 1, 1) := by decide +kernel
theorem dL_law__375 : decode cL_law_ 375 = .ok (.aload_n 3, 1) := by decide +kernel
theorem dL_law__376 : decode cL_law_ 376 = .ok (.invokestatic 160, 3) := by decide +kernel
theorem dL_law__379 : decode cL_law_ 379 = .ok (.istore 5, 2) := by decide +kernel
theorem dL_law__381 : decode cL_law_ 381 = .ok (.aload_n 2, 1) := by decide +kernel
theorem dL_law__382 : decode cL_law_ 382 = .ok (.invokevirtual 162, 3) := by decide +kernel
theorem dL_law__385 : decode cL_law_ 385 = .ok (.istore 6, 2) := by decide +kernel
theorem dL_law__387 : decode cL_law_ 387 = .ok (.aload_n 2, 1) := by decide +kernel
theorem dL_law__388 : decode cL_law_ 388 = .ok (.invokevirtual 157, 3) := by decide +kernel
theorem dL_law__391 : decode cL_law_ 391 = .ok (.iload 5, 2) := by decide +kernel
theorem dL_law__393 : decode cL_law_ 393 = .ok (.if_icmp .eq 5, 3) := by decide +kernel
theorem dL_law__396 : decode cL_law_ 396 = .ok (.iconst 0, 1) := by decide +kernel
theorem dL_law__397 : decode cL_law_ 397 = .ok (.ireturn, 1) := by decide +kernel
theorem dL_law__398 : decode cL_law_ 398 = .ok (.iload 5, 2) := by decide +kernel
theorem dL_law__400 : decode cL_law_ 400 = .ok (.ifCond .ne 15, 3) := by decide +kernel
theorem dL_law__403 : decode cL_law_ 403 = .ok (.aload_n 3, 1) := by decide +kernel
theorem dL_law__404 : decode cL_law_ 404 = .ok (.iconst 0, 1) := by decide +kernel
theorem dL_law__405 : decode cL_law_ 405 = .ok (.laload, 1) := by decide +kernel
theorem dL_law__406 : decode cL_law_ 406 = .ok (.iload 6, 2) := by decide +kernel
theorem dL_law__408 : decode cL_law_ 408 = .ok (.i2l, 1) := by decide +kernel
theorem dL_law__409 : decode cL_law_ 409 = .ok (.lcmp, 1) := by decide +kernel
theorem dL_law__410 : decode cL_law_ 410 = .ok (.ifCond .eq 5, 3) := by decide +kernel
theorem dL_law__413 : decode cL_law_ 413 = .ok (.iconst 0, 1) := by decide +kernel
theorem dL_law__414 : decode cL_law_ 414 = .ok (.ireturn, 1) := by decide +kernel
theorem dL_law__415 : decode cL_law_ 415 = .ok (.goto 2920, 3) := by decide +kernel
theorem dL_law__418 : decode cL_law_ 418 = .ok (.aload_n 1, 1) := by decide +kernel
