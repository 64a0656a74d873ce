theorem dL_holds_355 : decode cL_holds 355 = .ok (.ifCond .ne 7, 3) := by decide +kernel
theorem dL_holds_358 : decode cL_holds 358 = .ok (.iconst 1, 1) := by decide +kernel
theorem dL_holds_359 : decode cL_holds 359 = .ok (.goto 4, 3) := by decide +kernel
theorem dL_holds_362 : decode cL_holds 362 = .ok (.iconst 0, 1) := by decide +kernel
theorem dL_holds_363 : decode cL_holds 363 = .ok (.aload_n 0, 1) := by decide +kernel
theorem dL_holds_364 : decode cL_holds 364 = .ok (.iconst 3, 1) := by decide +kernel
theorem dL_holds_365 : decode cL_holds 365 = .ok (.invokevirtual 12, 3) := by decide +kernel
theorem dL_holds_368 : decode cL_holds 368 = .ok (.ifCond .ne 7, 3) := by decide +kernel
theorem dL_holds_371 : decode cL_holds 371 = .ok (.iconst 1, 1) := by decide +kernel
theorem dL_holds_372 : decode cL_holds 372 = .ok (.goto 4, 3) := by decide +kernel
theorem dL_holds_375 : decode cL_holds 375 = .ok (.iconst 0, 1) := by decide +kernel
theorem dL_holds_376 : decode cL_holds 376 = .ok (.if_icmp .ne 7, 3) := by decide +kernel
theorem dL_holds_379 : decode cL_holds 379 = .ok (.iconst 1, 1) := by decide +kernel
theorem dL_holds_380 : decode cL_holds 380 = .ok (.goto 4, 3) := by decide +kernel
theorem dL_holds_383 : decode cL_holds 383 = .ok (.iconst 0, 1) := by decide +kernel
theorem dL_holds_384 : decode cL_holds 384 = .ok (.istore 9, 2) := by decide +kernel
theorem dL_holds_386 : decode cL_holds 386 = .ok (.iload 8, 2) := by decide +kernel
theorem dL_holds_388 : decode cL_holds 388 = .ok (.ifCond .eq 69, 3) := by decide +kernel
theorem dL_holds_391 : decode cL_holds 391 = .ok (.iload 9, 2) := by decide +kernel
theorem dL_holds_393 : decode cL_holds 393 = .ok (.ifCond .eq 64, 3) := by decide +kernel
theorem dL_holds_396 : decode cL_holds 396 = .ok (.aload_n 0, 1) := by decide +kernel
theorem dL_holds_397 : decode cL_holds 397 = .ok (.iconst 2, 1) := by decide +kernel
theorem dL_holds_398 : decode cL_holds 398 = .ok (.invokevirtual 12, 3) := by decide +kernel
theorem dL_holds_401 : decode cL_holds 401 = .ok (.aload_n 0, 1) := by decide +kernel
theorem dL_holds_402 : decode cL_holds 402 = .ok (.iconst 3, 1) := by decide +kernel
theorem dL_holds_403 : decode cL_holds 403 = .ok (.invokevirtual 12, 3) := by decide +kernel
theorem dL_holds_406 : decode cL_holds 406 = .ok (.iload_n 3, 1) := by decide +kernel
theorem dL_holds_407 : decode cL_holds 407 = .ok (.iadd, 1) := by decide +kernel
theorem dL_holds_408 : decode cL_holds 408 = .ok (.iload 4, 2) := by decide +kernel
theorem dL_holds_410 : decode cL_holds 410 = .ok (.iadd, 1) := by decide +kernel
theorem dL_holds_411 : decode cL_holds 411 = .ok (.if_icmp .ne 46, 3) := by decide +kernel
theorem dL_holds_414 : decode cL_holds 414 = .ok (.iload_n 2, 1) := by decide +kernel
theorem dL_holds_415 : decode cL_holds 415 = .ok (.aload_n 0, 1) := by decide +kernel
theorem dL_holds_416 : decode cL_holds 416 = .ok (.iconst 3, 1) := by decide +kernel
theorem dL_holds_417 : decode cL_holds 417 = .ok (.invokevirtual 12, 3) := by decide +kernel
theorem dL_holds_420 : decode cL_holds 420 = .ok (.if_icmp .ne 37, 3) := by decide +kernel
theorem dL_holds_423 : decode cL_holds 423 = .ok (.iload_n 3, 1) := by decide +kernel
theorem dL_holds_424 : decode cL_holds 424 = .ok (.aload_n 0, 1) := by decide +kernel
theorem dL_holds_425 : decode cL_holds 425 = .ok (.iconst 4, 1) := by decide +kernel
theorem dL_holds_426 : decode cL_holds 426 = .ok (.invokevirtual 12, 3) := by decide +kernel
theorem dL_holds_429 : decode cL_holds 429 = .ok (.if_icmp .ne 28, 3) := by decide +kernel
theorem dL_holds_432 : decode cL_holds 432 = .ok (.iload 4, 2) := by decide +kernel
theorem dL_holds_434 : decode cL_holds 434 = .ok (.aload_n 0, 1) := by decide +kernel
theorem dL_holds_435 : decode cL_holds 435 = .ok (.iconst 5, 1) := by decide +kernel
theorem dL_holds_436 : decode cL_holds 436 = .ok (.invokevirtual 12, 3) := by decide +kernel
theorem dL_holds_439 : decode cL_holds 439 = .ok (.if_icmp .ne 18, 3) := by decide +kernel
theorem dL_holds_442 : decode cL_holds 442 = .ok (.iload 5, 2) := by decide +kernel
theorem dL_holds_444 : decode cL_holds 444 = .ok (.aload_n 0, 1) := by decide +kernel
theorem dL_holds_445 : decode cL_holds 445 = .ok (.bipush 7, 2) := by decide +kernel
theorem dL_holds_447 : decode cL_holds 447 = .ok (.invokevirtual 12, 3) := by decide +kernel
theorem dL_holds_450 : decode cL_holds 450 = .ok (.if_icmp .ne 7, 3) := by decide +kernel
theorem dL_holds_453 : decode cL_holds 453 = .ok (.iconst 1, 1) := by decide +kernel
theorem dL_holds_454 : decode cL_holds 454 = .ok (.goto 4, 3) := by decide +kernel
theorem dL_holds_457 : decode cL_holds 457 = .ok (.iconst 0, 1) := by decide +kernel
theorem dL_holds_458 : decode cL_holds 458 = .ok (.ireturn, 1) := by decide +kernel
set_option maxRecDepth 20000 in
theorem ggL_law_X3_init : GoodIn wsL_law wsX3_init := goodIn_r _ [5, 6, 7, 8, 9, 10, 11, 12, 13, 14, 15, 16, 17, 18, 19, 20, 21, 22, 23, 24, 25, 26, 27, 28, 29, 30, 31, 32, 33, 34, 35, 36, 37, 38, 39, 40, 41, 42, 43, 44, 45, 46, 47, 48, 49, 287, 288, 289, 290, 291, 292, 293, 294, 295, 296, 297, 298, 299, 300, 301, 302, 283, 284, 285, 286, 303, 304, 305, 306, 307] rfl (by decide +kernel)
set_option maxRecDepth 20000 in
theorem gL_law_X3_init : GoodIn wsL_law (wsX3_init) := ggL_law_X3_init
set_option maxRecDepth 20000 in
theorem ggL_law_L_cell : GoodIn wsL_law wsL_cell := goodIn_r _ [53] rfl (by decide +kernel)
set_option maxRecDepth 20000 in
theorem gL_law_L_cell : GoodIn wsL_law (va_wsS RL 69 yL_cell wsL_cell) := goodIn_app (goodIn_of _ (by decide +kernel)) ggL_law_L_cell
set_option maxRecDepth 20000 in
theorem ggL_law_X3_count : GoodIn wsL_law wsX3_count := goodIn_ca (goodIn_r _ [57, 58, 59, 12, 17, 60, 61, 62, 11, 63, 64, 65, 66, 67, 68, 69, 70, 71, 72, 73, 74, 75, 76, 77, 78, 30, 35, 79, 80, 81, 82, 83, 84, 85, 37, 86, 87, 88, 89, 36, 90, 91, 92, 93, 94, 95, 96, 97, 98, 33, 99, 100, 101, 16, 102, 103, 283, 284, 285, 286, 287, 288, 289, 290, 291, 292, 293, 294, 295, 296, 297, 298, 299, 300, 301, 302, 303, 304, 305] rfl (by decide +kernel)) (goodIn_sub (fun _ h => List.mem_append_left _ (List.mem_append_left _ (List.mem_append_right _ h))) (by decide +kernel))
set_option maxRecDepth 20000 in
theorem gL_law_X3_count : GoodIn wsL_law (wsV RL 12 RX3 yX3_count wsX3_count) := goodIn_app (goodIn_of _ (by decide +kernel)) ggL_law_X3_count
set_option maxRecDepth 20000 in
theorem ggL_law_X3_undo : GoodIn wsL_law wsX3_undo := goodIn_ca (goodIn_r _ [107, 108, 109, 17, 12, 110, 111, 112, 16, 113, 103, 44, 114, 115, 116, 117, 11, 118, 27, 119, 120, 121, 122, 28, 29, 30, 31, 32, 33, 34, 35, 36, 37, 38, 64, 69, 74, 94, 99, 100, 101, 102, 283, 284, 285, 286, 303, 304, 305, 287, 288, 289, 290, 291, 292, 293, 294, 295, 296, 297, 298, 299, 300, 301, 302] rfl (by decide +kernel)) (goodIn_sub (fun _ h => List.mem_append_left _ (List.mem_append_right _ h)) (by decide +kernel))
set_option maxRecDepth 20000 in
theorem gL_law_X3_undo : GoodIn wsL_law (wsV RL 73 RX3 yX3_undo wsX3_undo) := goodIn_app (goodIn_of _ (by decide +kernel)) ggL_law_X3_undo
set_option maxRecDepth 20000 in
theorem ggL_law_L_told : GoodIn wsL_law wsL_told := goodIn_ca (goodIn_ca (goodIn_r _ [125, 126, 127, 54, 55, 56, 2, 57, 58, 59, 12, 17, 60, 61, 62, 11, 63, 64, 65, 66, 67, 68, 69, 70, 71, 72, 73, 74, 75, 76, 77, 78, 30, 35, 79, 80, 81, 82, 83, 84, 85, 37, 86, 87, 88, 89, 36, 90, 91, 92, 93, 94, 95, 96, 97, 98, 33, 99, 100, 101, 16, 102, 103, 128, 129, 130, 131, 132, 133, 134, 135, 136, 137, 138, 139, 140, 38, 141, 142, 143, 144, 145, 146, 147, 148, 149, 150, 151, 152, 153, 154, 31, 32, 34, 155, 156, 157, 158, 159, 160, 161, 162, 163, 164, 165, 166, 167, 168, 169, 170, 171, 172, 173, 27, 28, 29, 283, 284, 285, 286, 287, 288, 289, 290, 291, 292, 293, 294, 295, 296, 297, 298, 299, 300, 301, 302, 303, 304, 305] rfl (by decide +kernel)) (goodIn_sub (fun _ h => List.mem_append_left _ (List.mem_append_left _ (List.mem_append_right _ h))) (by decide +kernel))) (goodIn_sub (fun _ h => List.mem_append_right _ h) (by decide +kernel))
set_option maxRecDepth 20000 in
theorem gL_law_L_told : GoodIn wsL_law (va_wsS RL 76 yL_told wsL_told) := goodIn_app (goodIn_of _ (by decide +kernel)) ggL_law_L_told
set_option maxRecDepth 20000 in
theorem ggL_law_L_act : GoodIn wsL_law wsL_act := goodIn_ca (goodIn_ca (goodIn_ca (goodIn_r _ [176, 177, 178, 52, 179, 180, 181, 182, 183, 2, 184, 132, 133, 58, 59, 17, 12, 167, 168, 169, 145, 146, 147, 148, 149, 150, 185, 186, 187, 16, 188, 103, 114, 44, 43, 10, 11, 189, 23, 24, 25, 7, 8, 26, 27, 28, 29, 30, 31, 32, 33, 34, 35, 36, 37, 38, 190, 116, 117, 118, 119, 120, 121, 122, 64, 69, 74, 94, 191, 192, 193, 194, 195, 196, 197, 198, 199, 200, 201, 202, 203, 204, 205, 141, 142, 143, 144, 151, 152, 153, 154, 155, 156, 157, 158, 159, 160, 161, 162, 206, 207, 208, 209, 108, 109, 210, 211, 212, 213, 214, 215, 216, 217, 218, 219, 220, 221, 222, 223, 224, 225, 226, 227, 228, 229, 230, 134, 135, 136, 231, 232, 233, 234, 235, 236, 237, 238, 239, 240, 241, 242, 243, 244, 245, 246, 95, 96, 97, 98, 79, 80, 81, 247, 248, 249, 250, 86, 87, 88, 89, 251, 252, 253, 254, 255, 256, 257, 258, 259, 260, 261, 262, 263, 264, 265, 266, 267, 268, 269, 270, 283, 284, 285, 286, 303, 304, 305, 287, 288, 289, 290, 291, 292, 293, 294, 295, 296, 297, 298, 299, 300, 301, 302] rfl (by decide +kernel)) (goodIn_sub (fun _ h => List.mem_append_right _ h) (by decide +kernel))) (goodIn_sub (fun _ h => List.mem_append_left _ (List.mem_append_left _ (List.mem_append_right _ h))) (by decide +kernel))) (goodIn_sub (fun _ h => List.mem_append_left _ (List.mem_append_right _ h)) (by decide +kernel))
set_option maxRecDepth 20000 in
theorem gL_law_L_act : GoodIn wsL_law (va_wsS RL 80 yL_act wsL_act) := goodIn_app (goodIn_of _ (by decide +kernel)) ggL_law_L_act
set_option maxRecDepth 20000 in
theorem ggL_law_L_holds : GoodIn wsL_law wsL_holds := goodIn_ca (goodIn_ca (goodIn_r _ [273, 141, 142, 143, 2, 144, 132, 133, 58, 59, 12, 145, 146, 147, 148, 149, 150, 151, 152, 153, 11, 154, 31, 32, 33, 34, 35, 36, 37, 155, 156, 157, 158, 159, 160, 161, 162, 203, 204, 52, 205, 163, 164, 165, 166, 167, 168, 169, 170, 171, 172, 173, 27, 28, 29, 30, 274, 275, 276, 277, 70, 71, 72, 73, 74, 82, 83, 84, 85, 79, 80, 81, 54, 55, 56, 57, 17, 60, 61, 62, 63, 64, 65, 66, 67, 68, 69, 75, 76, 77, 78, 86, 87, 88, 89, 90, 91, 92, 93, 94, 95, 96, 97, 98, 99, 100, 101, 16, 102, 103, 278, 279, 280, 281, 13, 115, 116, 117, 118, 119, 120, 121, 122, 38, 282, 256, 257, 258, 259, 260, 261, 262, 263, 264, 265, 266, 243, 244, 245, 246, 267, 268, 269, 270, 283, 284, 285, 286, 287, 288, 289, 290, 291, 292, 293, 294, 295, 296, 297, 298, 299, 300, 301, 302, 303, 304, 305] rfl (by decide +kernel)) (goodIn_sub (fun _ h => List.mem_append_right _ h) (by decide +kernel))) (goodIn_sub (fun _ h => List.mem_append_left _ (List.mem_append_left _ (List.mem_append_right _ h))) (by decide +kernel))
set_option maxRecDepth 20000 in
theorem gL_law_L_holds : GoodIn wsL_law (va_wsS RL 84 yL_holds wsL_holds) := goodIn_app (goodIn_of _ (by decide +kernel)) ggL_law_L_holds
theorem dL_law_0 : decode cL_law 0 = .ok (.new 13, 3) := by decide +kernel
theorem dL_law_3 : decode cL_law 3 = .ok (.dup, 1) := by decide +kernel
theorem dL_law_4 : decode cL_law 4 = .ok (.invokespecial 68, 3) := by decide +kernel
theorem dL_law_7 : decode cL_law 7 = .ok (.astore_n 1, 1) := by decide +kernel
theorem dL_law_8 : decode cL_law 8 = .ok (.iconst 0, 1) := by decide +kernel
theorem dL_law_9 : decode cL_law 9 = .ok (.istore_n 2, 1) := by decide +kernel
theorem dL_law_10 : decode cL_law 10 = .ok (.iload_n 2, 1) := by decide +kernel
theorem dL_law_11 : decode cL_law 11 = .ok (.bipush 38, 2) := by decide +kernel
theorem dL_law_13 : decode cL_law 13 = .ok (.if_icmp .ge 221, 3) := by decide +kernel
theorem dL_law_16 : decode cL_law 16 = .ok (.aload_n 0, 1) := by decide +kernel
theorem dL_law_17 : decode cL_law 17 = .ok (.iconst 2, 1) := by decide +kernel
theorem dL_law_18 : decode cL_law 18 = .ok (.iload_n 2, 1) := by decide +kernel
theorem dL_law_19 : decode cL_law 19 = .ok (.imul, 1) := by decide +kernel
theorem dL_law_20 : decode cL_law 20 = .ok (.invokestatic 69, 3) := by decide +kernel
theorem dL_law_23 : decode cL_law 23 = .ok (.istore_n 3, 1) := by decide +kernel
theorem dL_law_24 : decode cL_law 24 = .ok (.aload_n 0, 1) := by decide +kernel
theorem dL_law_25 : decode cL_law 25 = .ok (.iconst 2, 1) := by decide +kernel
theorem dL_law_26 : decode cL_law 26 = .ok (.iload_n 2, 1) := by decide +kernel
theorem dL_law_27 : decode cL_law 27 = .ok (.imul, 1) := by decide +kernel
theorem dL_law_28 : decode cL_law 28 = .ok (.iconst 1, 1) := by decide +kernel
theorem dL_law_29 : decode cL_law 29 = .ok (.iadd, 1) := by decide +kernel
theorem dL_law_30 : decode cL_law 30 = .ok (.invokestatic 69, 3) := by decide +kernel
theorem dL_law_33 : decode cL_law 33 = .ok (.istore 4, 2) := by decide +kernel
theorem dL_law_35 : decode cL_law 35 = .ok (.aload_n 1, 1) := by decide +kernel
theorem dL_law_36 : decode cL_law 36 = .ok (.bipush 8, 2) := by decide +kernel
theorem dL_law_38 : decode cL_law 38 = .ok (.invokevirtual 12, 3) := by decide +kernel
theorem dL_law_41 : decode cL_law 41 = .ok (.bipush 6, 2) := by decide +kernel
