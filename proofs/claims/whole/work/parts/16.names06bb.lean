/-! names, printed by program: methods, their instructions, what they link -/
theorem d_Mo_dsaSign_361 : decode (a_cc M_Mo_dsaSign) 361 = .ok (.if_icmp .ne 62, 3) := by decide +kernel
theorem d_Mo_dsaSign_364 : decode (a_cc M_Mo_dsaSign) 364 = .ok (.aload_n 0, 1) := by decide +kernel
theorem d_Mo_dsaSign_365 : decode (a_cc M_Mo_dsaSign) 365 = .ok (.getfield 18, 3) := by decide +kernel
theorem d_Mo_dsaSign_368 : decode (a_cc M_Mo_dsaSign) 368 = .ok (.iconst 5, 1) := by decide +kernel
theorem d_Mo_dsaSign_369 : decode (a_cc M_Mo_dsaSign) 369 = .ok (.aload_n 0, 1) := by decide +kernel
theorem d_Mo_dsaSign_370 : decode (a_cc M_Mo_dsaSign) 370 = .ok (.getfield 248, 3) := by decide +kernel
theorem d_Mo_dsaSign_373 : decode (a_cc M_Mo_dsaSign) 373 = .ok (.bipush 32, 2) := by decide +kernel
theorem d_Mo_dsaSign_375 : decode (a_cc M_Mo_dsaSign) 375 = .ok (.aload_n 0, 1) := by decide +kernel
theorem d_Mo_dsaSign_376 : decode (a_cc M_Mo_dsaSign) 376 = .ok (.getfield 226, 3) := by decide +kernel
theorem d_Mo_dsaSign_379 : decode (a_cc M_Mo_dsaSign) 379 = .ok (.imul, 1) := by decide +kernel
theorem d_Mo_dsaSign_380 : decode (a_cc M_Mo_dsaSign) 380 = .ok (.aload_n 0, 1) := by decide +kernel
theorem d_Mo_dsaSign_381 : decode (a_cc M_Mo_dsaSign) 381 = .ok (.getfield 251, 3) := by decide +kernel
theorem d_Mo_dsaSign_384 : decode (a_cc M_Mo_dsaSign) 384 = .ok (.imul, 1) := by decide +kernel
theorem d_Mo_dsaSign_385 : decode (a_cc M_Mo_dsaSign) 385 = .ok (.iadd, 1) := by decide +kernel
theorem d_Mo_dsaSign_386 : decode (a_cc M_Mo_dsaSign) 386 = .ok (.aload_n 0, 1) := by decide +kernel
theorem d_Mo_dsaSign_387 : decode (a_cc M_Mo_dsaSign) 387 = .ok (.getfield 245, 3) := by decide +kernel
theorem d_Mo_dsaSign_390 : decode (a_cc M_Mo_dsaSign) 390 = .ok (.iadd, 1) := by decide +kernel
theorem d_Mo_dsaSign_391 : decode (a_cc M_Mo_dsaSign) 391 = .ok (.aload_n 0, 1) := by decide +kernel
theorem d_Mo_dsaSign_392 : decode (a_cc M_Mo_dsaSign) 392 = .ok (.getfield 223, 3) := by decide +kernel
theorem d_Mo_dsaSign_395 : decode (a_cc M_Mo_dsaSign) 395 = .ok (.iadd, 1) := by decide +kernel
theorem d_Mo_dsaSign_396 : decode (a_cc M_Mo_dsaSign) 396 = .ok (.iastore, 1) := by decide +kernel
theorem d_Mo_dsaSign_397 : decode (a_cc M_Mo_dsaSign) 397 = .ok (.aload_n 0, 1) := by decide +kernel
theorem d_Mo_dsaSign_398 : decode (a_cc M_Mo_dsaSign) 398 = .ok (.getfield 87, 3) := by decide +kernel
theorem d_Mo_dsaSign_401 : decode (a_cc M_Mo_dsaSign) 401 = .ok (.iconst 0, 1) := by decide +kernel
theorem d_Mo_dsaSign_402 : decode (a_cc M_Mo_dsaSign) 402 = .ok (.aload_n 0, 1) := by decide +kernel
theorem d_Mo_dsaSign_403 : decode (a_cc M_Mo_dsaSign) 403 = .ok (.getfield 15, 3) := by decide +kernel
theorem d_Mo_dsaSign_406 : decode (a_cc M_Mo_dsaSign) 406 = .ok (.iconst 5, 1) := by decide +kernel
theorem d_Mo_dsaSign_407 : decode (a_cc M_Mo_dsaSign) 407 = .ok (.aaload, 1) := by decide +kernel
theorem d_Mo_dsaSign_408 : decode (a_cc M_Mo_dsaSign) 408 = .ok (.iconst 0, 1) := by decide +kernel
theorem d_Mo_dsaSign_409 : decode (a_cc M_Mo_dsaSign) 409 = .ok (.aload_n 0, 1) := by decide +kernel
theorem d_Mo_dsaSign_410 : decode (a_cc M_Mo_dsaSign) 410 = .ok (.getfield 18, 3) := by decide +kernel
theorem d_Mo_dsaSign_413 : decode (a_cc M_Mo_dsaSign) 413 = .ok (.iconst 5, 1) := by decide +kernel
theorem d_Mo_dsaSign_414 : decode (a_cc M_Mo_dsaSign) 414 = .ok (.iaload, 1) := by decide +kernel
theorem d_Mo_dsaSign_415 : decode (a_cc M_Mo_dsaSign) 415 = .ok (.invokestatic 318, 3) := by decide +kernel
theorem d_Mo_dsaSign_418 : decode (a_cc M_Mo_dsaSign) 418 = .ok (.iload 4, 2) := by decide +kernel
theorem d_Mo_dsaSign_420 : decode (a_cc M_Mo_dsaSign) 420 = .ok (.iconst 1, 1) := by decide +kernel
theorem d_Mo_dsaSign_421 : decode (a_cc M_Mo_dsaSign) 421 = .ok (.iadd, 1) := by decide +kernel
theorem d_Mo_dsaSign_422 : decode (a_cc M_Mo_dsaSign) 422 = .ok (.ireturn, 1) := by decide +kernel
theorem d_Mo_dsaSign_423 : decode (a_cc M_Mo_dsaSign) 423 = .ok (.iinc 4 1, 3) := by decide +kernel
theorem d_Mo_dsaSign_426 : decode (a_cc M_Mo_dsaSign) 426 = .ok (.goto (-109), 3) := by decide +kernel
theorem d_Mo_dsaSign_429 : decode (a_cc M_Mo_dsaSign) 429 = .ok (.aload_n 0, 1) := by decide +kernel
theorem d_Mo_dsaSign_430 : decode (a_cc M_Mo_dsaSign) 430 = .ok (.iconst 0, 1) := by decide +kernel
theorem d_Mo_dsaSign_431 : decode (a_cc M_Mo_dsaSign) 431 = .ok (.iconst 4, 1) := by decide +kernel
theorem d_Mo_dsaSign_432 : decode (a_cc M_Mo_dsaSign) 432 = .ok (.invokevirtual 112, 3) := by decide +kernel
theorem d_Mo_dsaSign_435 : decode (a_cc M_Mo_dsaSign) 435 = .ok (.pop, 1) := by decide +kernel
theorem d_Mo_dsaSign_436 : decode (a_cc M_Mo_dsaSign) 436 = .ok (.iconst 0, 1) := by decide +kernel
theorem d_Mo_dsaSign_437 : decode (a_cc M_Mo_dsaSign) 437 = .ok (.ireturn, 1) := by decide +kernel
theorem cs_Mo_dsaSign_4 : a_CS M_Mo_dsaSign M_Mo_in 120 3 1 3 := ⟨⟨ok_Mo_in, by decide, by decide, by decide⟩, List.mem_append_right _ (List.mem_of_getElem? (i := 1252) (by decide +kernel)), List.mem_append_right _ (List.mem_of_getElem? (i := 1253) (by decide +kernel)), by decide +kernel⟩
theorem cs_Mo_dsaSign_13 : a_CS M_Mo_dsaSign M_Mo_in 120 3 1 3 := ⟨⟨ok_Mo_in, by decide, by decide, by decide⟩, List.mem_append_right _ (List.mem_of_getElem? (i := 1252) (by decide +kernel)), List.mem_append_right _ (List.mem_of_getElem? (i := 1253) (by decide +kernel)), by decide +kernel⟩
theorem cs_Mo_dsaSign_25 : a_CV M_Mo_dsaSign M_Mo_good 112 10 3 0 2 := ⟨⟨ok_Mo_good, by decide, by decide, by decide⟩, by decide, rfl, List.mem_append_right _ (List.mem_of_getElem? (i := 1240) (by decide +kernel)), List.mem_append_right _ (List.mem_of_getElem? (i := 1242) (by decide +kernel)), List.mem_append_left _ (List.mem_of_getElem? (i := 41) (by decide +kernel)), by decide +kernel⟩
theorem cs_Mo_dsaSign_35 : a_CV M_Mo_dsaSign M_Mo_dsa 287 10 2 0 1 := ⟨⟨ok_Mo_dsa, by decide, by decide, by decide⟩, by decide, rfl, List.mem_append_right _ (List.mem_of_getElem? (i := 1283) (by decide +kernel)), List.mem_append_right _ (List.mem_of_getElem? (i := 1285) (by decide +kernel)), List.mem_append_left _ (List.mem_of_getElem? (i := 43) (by decide +kernel)), by decide +kernel⟩
theorem cs_Mo_dsaSign_41 : a_CV M_Mo_dsaSign M_Mo_context 331 10 2 1 1 := ⟨⟨ok_Mo_context, by decide, by decide, by decide⟩, by decide, rfl, List.mem_append_right _ (List.mem_of_getElem? (i := 1359) (by decide +kernel)), List.mem_append_right _ (List.mem_of_getElem? (i := 1361) (by decide +kernel)), List.mem_append_left _ (List.mem_of_getElem? (i := 55) (by decide +kernel)), by decide +kernel⟩
theorem cs_Mo_dsaSign_73 : a_CV M_Mo_dsaSign M_Mo_good 112 10 3 0 2 := ⟨⟨ok_Mo_good, by decide, by decide, by decide⟩, by decide, rfl, List.mem_append_right _ (List.mem_of_getElem? (i := 1240) (by decide +kernel)), List.mem_append_right _ (List.mem_of_getElem? (i := 1242) (by decide +kernel)), List.mem_append_left _ (List.mem_of_getElem? (i := 41) (by decide +kernel)), by decide +kernel⟩
theorem cs_Mo_dsaSign_87 : a_CV M_Mo_dsaSign M_Mo_secretLength 322 10 1 2 0 := ⟨⟨ok_Mo_secretLength, by decide, by decide, by decide⟩, by decide, rfl, List.mem_append_right _ (List.mem_of_getElem? (i := 1351) (by decide +kernel)), List.mem_append_right _ (List.mem_of_getElem? (i := 1353) (by decide +kernel)), List.mem_append_left _ (List.mem_of_getElem? (i := 54) (by decide +kernel)), by decide +kernel⟩
theorem cs_Mo_dsaSign_99 : a_CV M_Mo_dsaSign M_Mo_good 112 10 3 0 2 := ⟨⟨ok_Mo_good, by decide, by decide, by decide⟩, by decide, rfl, List.mem_append_right _ (List.mem_of_getElem? (i := 1240) (by decide +kernel)), List.mem_append_right _ (List.mem_of_getElem? (i := 1242) (by decide +kernel)), List.mem_append_left _ (List.mem_of_getElem? (i := 41) (by decide +kernel)), by decide +kernel⟩
theorem cs_Mo_dsaSign_117 : a_CV M_Mo_dsaSign M_Mo_digestMessage 334 10 4 0 3 := ⟨⟨ok_Mo_digestMessage, by decide, by decide, by decide⟩, by decide, rfl, List.mem_append_right _ (List.mem_of_getElem? (i := 1363) (by decide +kernel)), List.mem_append_right _ (List.mem_of_getElem? (i := 1365) (by decide +kernel)), List.mem_append_left _ (List.mem_of_getElem? (i := 56) (by decide +kernel)), by decide +kernel⟩
theorem cs_Mo_dsaSign_123 : a_CV M_Mo_dsaSign M_Mo_begin 148 10 2 0 1 := ⟨⟨ok_Mo_begin, by decide, by decide, by decide⟩, by decide, rfl, List.mem_append_right _ (List.mem_of_getElem? (i := 1046) (by decide +kernel)), List.mem_append_right _ (List.mem_of_getElem? (i := 1048) (by decide +kernel)), List.mem_append_left _ (List.mem_of_getElem? (i := 33) (by decide +kernel)), by decide +kernel⟩
theorem cs_Mo_dsaSign_137 : a_CV M_Mo_dsaSign M_Mo_put3 268 10 4 0 3 := ⟨⟨ok_Mo_put3, by decide, by decide, by decide⟩, by decide, rfl, List.mem_append_right _ (List.mem_of_getElem? (i := 1293) (by decide +kernel)), List.mem_append_right _ (List.mem_of_getElem? (i := 1295) (by decide +kernel)), List.mem_append_left _ (List.mem_of_getElem? (i := 44) (by decide +kernel)), by decide +kernel⟩
theorem cs_Mo_dsaSign_170 : a_CV M_Mo_dsaSign M_Mo_put1 153 10 2 0 1 := ⟨⟨ok_Mo_put1, by decide, by decide, by decide⟩, by decide, rfl, List.mem_append_right _ (List.mem_of_getElem? (i := 1058) (by decide +kernel)), List.mem_append_right _ (List.mem_of_getElem? (i := 1060) (by decide +kernel)), List.mem_append_left _ (List.mem_of_getElem? (i := 34) (by decide +kernel)), by decide +kernel⟩
theorem cs_Mo_dsaSign_187 : a_CV M_Mo_dsaSign M_Mo_put3 268 10 4 0 3 := ⟨⟨ok_Mo_put3, by decide, by decide, by decide⟩, by decide, rfl, List.mem_append_right _ (List.mem_of_getElem? (i := 1293) (by decide +kernel)), List.mem_append_right _ (List.mem_of_getElem? (i := 1295) (by decide +kernel)), List.mem_append_left _ (List.mem_of_getElem? (i := 44) (by decide +kernel)), by decide +kernel⟩
theorem cs_Mo_dsaSign_198 : a_CV M_Mo_dsaSign M_Mo_give 290 10 4 0 3 := ⟨⟨ok_Mo_give, by decide, by decide, by decide⟩, by decide, rfl, List.mem_append_right _ (List.mem_of_getElem? (i := 1297) (by decide +kernel)), List.mem_append_right _ (List.mem_of_getElem? (i := 1299) (by decide +kernel)), List.mem_append_left _ (List.mem_of_getElem? (i := 45) (by decide +kernel)), by decide +kernel⟩
theorem cs_Mo_dsaSign_259 : a_CV M_Mo_dsaSign M_Mo_unpack 337 10 6 0 5 := ⟨⟨ok_Mo_unpack, by decide, by decide, by decide⟩, by decide, rfl, List.mem_append_right _ (List.mem_of_getElem? (i := 1375) (by decide +kernel)), List.mem_append_right _ (List.mem_of_getElem? (i := 1377) (by decide +kernel)), List.mem_append_left _ (List.mem_of_getElem? (i := 59) (by decide +kernel)), by decide +kernel⟩
theorem cs_Mo_dsaSign_305 : a_CV M_Mo_dsaSign M_Mo_unpack 337 10 6 0 5 := ⟨⟨ok_Mo_unpack, by decide, by decide, by decide⟩, by decide, rfl, List.mem_append_right _ (List.mem_of_getElem? (i := 1375) (by decide +kernel)), List.mem_append_right _ (List.mem_of_getElem? (i := 1377) (by decide +kernel)), List.mem_append_left _ (List.mem_of_getElem? (i := 59) (by decide +kernel)), by decide +kernel⟩
theorem cs_Mo_dsaSign_333 : a_CV M_Mo_dsaSign M_Mo_attempt 340 10 2 0 1 := ⟨⟨ok_Mo_attempt, by decide, by decide, by decide⟩, by decide, rfl, List.mem_append_right _ (List.mem_of_getElem? (i := 1386) (by decide +kernel)), List.mem_append_right _ (List.mem_of_getElem? (i := 1388) (by decide +kernel)), List.mem_append_left _ (List.mem_of_getElem? (i := 61) (by decide +kernel)), by decide +kernel⟩
theorem cs_Mo_dsaSign_350 : a_CV M_Mo_dsaSign M_Mo_good 112 10 3 0 2 := ⟨⟨ok_Mo_good, by decide, by decide, by decide⟩, by decide, rfl, List.mem_append_right _ (List.mem_of_getElem? (i := 1240) (by decide +kernel)), List.mem_append_right _ (List.mem_of_getElem? (i := 1242) (by decide +kernel)), List.mem_append_left _ (List.mem_of_getElem? (i := 41) (by decide +kernel)), by decide +kernel⟩
theorem cs_Mo_dsaSign_415 : a_CS M_Mo_dsaSign M_Mo_move 318 5 0 5 := ⟨⟨ok_Mo_move, by decide, by decide, by decide⟩, List.mem_append_right _ (List.mem_of_getElem? (i := 1348) (by decide +kernel)), List.mem_append_right _ (List.mem_of_getElem? (i := 1349) (by decide +kernel)), by decide +kernel⟩
theorem cs_Mo_dsaSign_432 : a_CV M_Mo_dsaSign M_Mo_good 112 10 3 0 2 := ⟨⟨ok_Mo_good, by decide, by decide, by decide⟩, by decide, rfl, List.mem_append_right _ (List.mem_of_getElem? (i := 1240) (by decide +kernel)), List.mem_append_right _ (List.mem_of_getElem? (i := 1242) (by decide +kernel)), List.mem_append_left _ (List.mem_of_getElem? (i := 41) (by decide +kernel)), by decide +kernel⟩
