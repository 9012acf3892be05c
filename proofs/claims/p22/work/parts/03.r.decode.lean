theorem dL_acts_367 : decode cL_acts 367 = .ok (.irem, 1) := by decide +kernel
theorem dL_acts_368 : decode cL_acts 368 = .ok (.invokestatic 164, 3) := by decide +kernel
theorem dL_acts_371 : decode cL_acts 371 = .ok (.iload 10, 2) := by decide +kernel
theorem dL_acts_373 : decode cL_acts 373 = .ok (.ifCond .eq 8, 3) := by decide +kernel
theorem dL_acts_376 : decode cL_acts 376 = .ok (.ldc 21, 2) := by decide +kernel
theorem dL_acts_378 : decode cL_acts 378 = .ok (.goto 5, 3) := by decide +kernel
theorem dL_acts_381 : decode cL_acts 381 = .ok (.iload 11, 2) := by decide +kernel
theorem dL_acts_383 : decode cL_acts 383 = .ok (.if_icmp .ne 7, 3) := by decide +kernel
theorem dL_acts_386 : decode cL_acts 386 = .ok (.iconst 1, 1) := by decide +kernel
theorem dL_acts_387 : decode cL_acts 387 = .ok (.goto 4, 3) := by decide +kernel
theorem dL_acts_390 : decode cL_acts 390 = .ok (.iconst 0, 1) := by decide +kernel
theorem dL_acts_391 : decode cL_acts 391 = .ok (.ireturn, 1) := by decide +kernel
theorem dL_acts_392 : decode cL_acts 392 = .ok (.aload_n 1, 1) := by decide +kernel
theorem dL_acts_393 : decode cL_acts 393 = .ok (.iconst 3, 1) := by decide +kernel
theorem dL_acts_394 : decode cL_acts 394 = .ok (.iaload, 1) := by decide +kernel
theorem dL_acts_395 : decode cL_acts 395 = .ok (.ifCond .ne 17, 3) := by decide +kernel
theorem dL_acts_398 : decode cL_acts 398 = .ok (.aload_n 0, 1) := by decide +kernel
theorem dL_acts_399 : decode cL_acts 399 = .ok (.aload_n 1, 1) := by decide +kernel
theorem dL_acts_400 : decode cL_acts 400 = .ok (.aload 5, 2) := by decide +kernel
theorem dL_acts_402 : decode cL_acts 402 = .ok (.iload 6, 2) := by decide +kernel
theorem dL_acts_404 : decode cL_acts 404 = .ok (.iconst 4, 1) := by decide +kernel
theorem dL_acts_405 : decode cL_acts 405 = .ok (.ishr, 1) := by decide +kernel
theorem dL_acts_406 : decode cL_acts 406 = .ok (.iload 7, 2) := by decide +kernel
theorem dL_acts_408 : decode cL_acts 408 = .ok (.invokestatic 151, 3) := by decide +kernel
theorem dL_acts_411 : decode cL_acts 411 = .ok (.ireturn, 1) := by decide +kernel
theorem dL_acts_412 : decode cL_acts 412 = .ok (.iload 8, 2) := by decide +kernel
theorem dL_acts_414 : decode cL_acts 414 = .ok (.bipush 13, 2) := by decide +kernel
theorem dL_acts_416 : decode cL_acts 416 = .ok (.if_icmp .ge 46, 3) := by decide +kernel
theorem dL_acts_419 : decode cL_acts 419 = .ok (.aload_n 1, 1) := by decide +kernel
theorem dL_acts_420 : decode cL_acts 420 = .ok (.iconst 2, 1) := by decide +kernel
theorem dL_acts_421 : decode cL_acts 421 = .ok (.iaload, 1) := by decide +kernel
theorem dL_acts_422 : decode cL_acts 422 = .ok (.ifCond .gt 15, 3) := by decide +kernel
theorem dL_acts_425 : decode cL_acts 425 = .ok (.aload_n 0, 1) := by decide +kernel
theorem dL_acts_426 : decode cL_acts 426 = .ok (.aload_n 1, 1) := by decide +kernel
theorem dL_acts_427 : decode cL_acts 427 = .ok (.iload 7, 2) := by decide +kernel
theorem dL_acts_429 : decode cL_acts 429 = .ok (.iload 6, 2) := by decide +kernel
theorem dL_acts_431 : decode cL_acts 431 = .ok (.invokestatic 139, 3) := by decide +kernel
theorem dL_acts_434 : decode cL_acts 434 = .ok (.ifCond .eq 24, 3) := by decide +kernel
theorem dL_acts_437 : decode cL_acts 437 = .ok (.aload_n 0, 1) := by decide +kernel
theorem dL_acts_438 : decode cL_acts 438 = .ok (.aload_n 1, 1) := by decide +kernel
theorem dL_acts_439 : decode cL_acts 439 = .ok (.aload_n 3, 1) := by decide +kernel
theorem dL_acts_440 : decode cL_acts 440 = .ok (.aload 5, 2) := by decide +kernel
theorem dL_acts_442 : decode cL_acts 442 = .ok (.iload 6, 2) := by decide +kernel
theorem dL_acts_444 : decode cL_acts 444 = .ok (.iconst 4, 1) := by decide +kernel
theorem dL_acts_445 : decode cL_acts 445 = .ok (.ishr, 1) := by decide +kernel
theorem dL_acts_446 : decode cL_acts 446 = .ok (.iload 7, 2) := by decide +kernel
theorem dL_acts_448 : decode cL_acts 448 = .ok (.invokestatic 166, 3) := by decide +kernel
theorem dL_acts_451 : decode cL_acts 451 = .ok (.ifCond .eq 7, 3) := by decide +kernel
theorem dL_acts_454 : decode cL_acts 454 = .ok (.iconst 1, 1) := by decide +kernel
theorem dL_acts_455 : decode cL_acts 455 = .ok (.goto 56, 3) := by decide +kernel
theorem dL_acts_458 : decode cL_acts 458 = .ok (.iconst 0, 1) := by decide +kernel
theorem dL_acts_459 : decode cL_acts 459 = .ok (.goto 52, 3) := by decide +kernel
theorem dL_acts_462 : decode cL_acts 462 = .ok (.iload 8, 2) := by decide +kernel
theorem dL_acts_464 : decode cL_acts 464 = .ok (.bipush 13, 2) := by decide +kernel
theorem dL_acts_466 : decode cL_acts 466 = .ok (.if_icmp .ne 15, 3) := by decide +kernel
theorem dL_acts_469 : decode cL_acts 469 = .ok (.aload_n 0, 1) := by decide +kernel
theorem dL_acts_470 : decode cL_acts 470 = .ok (.aload_n 1, 1) := by decide +kernel
theorem dL_acts_471 : decode cL_acts 471 = .ok (.aload 5, 2) := by decide +kernel
theorem dL_acts_473 : decode cL_acts 473 = .ok (.iload 7, 2) := by decide +kernel
theorem dL_acts_475 : decode cL_acts 475 = .ok (.invokestatic 170, 3) := by decide +kernel
theorem dL_acts_478 : decode cL_acts 478 = .ok (.goto 33, 3) := by decide +kernel
theorem dL_acts_481 : decode cL_acts 481 = .ok (.iload 8, 2) := by decide +kernel
theorem dL_acts_483 : decode cL_acts 483 = .ok (.bipush 14, 2) := by decide +kernel
theorem dL_acts_485 : decode cL_acts 485 = .ok (.if_icmp .ne 21, 3) := by decide +kernel
theorem dL_acts_488 : decode cL_acts 488 = .ok (.aload_n 0, 1) := by decide +kernel
theorem dL_acts_489 : decode cL_acts 489 = .ok (.aload_n 1, 1) := by decide +kernel
theorem dL_acts_490 : decode cL_acts 490 = .ok (.aload 5, 2) := by decide +kernel
theorem dL_acts_492 : decode cL_acts 492 = .ok (.iload 7, 2) := by decide +kernel
theorem dL_acts_494 : decode cL_acts 494 = .ok (.aload_n 1, 1) := by decide +kernel
theorem dL_acts_495 : decode cL_acts 495 = .ok (.iconst 3, 1) := by decide +kernel
theorem dL_acts_496 : decode cL_acts 496 = .ok (.iaload, 1) := by decide +kernel
theorem dL_acts_497 : decode cL_acts 497 = .ok (.invokestatic 102, 3) := by decide +kernel
theorem dL_acts_500 : decode cL_acts 500 = .ok (.invokestatic 173, 3) := by decide +kernel
theorem dL_acts_503 : decode cL_acts 503 = .ok (.goto 8, 3) := by decide +kernel
theorem dL_acts_506 : decode cL_acts 506 = .ok (.aload_n 0, 1) := by decide +kernel
theorem dL_acts_507 : decode cL_acts 507 = .ok (.aload_n 1, 1) := by decide +kernel
theorem dL_acts_508 : decode cL_acts 508 = .ok (.invokestatic 176, 3) := by decide +kernel
theorem dL_acts_511 : decode cL_acts 511 = .ok (.ireturn, 1) := by decide +kernel
set_option maxRecDepth 20000 in
theorem ggL_law_X8_init : GoodIn wsL_law wsX8_init := goodIn_r _ [8, 9, 10, 11, 12, 13, 14, 15, 16, 17, 18, 19, 20, 21, 22, 23, 24, 25, 26, 27, 28, 29, 30, 31, 32, 33, 34, 35, 36, 37, 38, 39, 40, 41, 42, 43, 44, 45, 3, 46, 459, 460, 461, 462, 463, 464, 465, 466, 467, 468, 469, 470, 471, 472, 473, 474, 475, 476, 477] (by decide +kernel) (by decide +kernel)
set_option maxRecDepth 20000 in
theorem gL_law_X8_init : GoodIn wsL_law (wsX8_init) := ggL_law_X8_init
set_option maxRecDepth 20000 in
theorem ggL_law_L_drafts : GoodIn wsL_law wsL_drafts := goodIn_ca (goodIn_ca (goodIn_r _ [50, 51, 52, 53, 54, 49, 55, 56, 57, 58, 59, 60, 61, 62, 63, 64, 2, 65, 66, 67, 68, 69, 24, 70, 71, 72, 73, 74, 75, 76, 77, 78, 79, 80, 81, 82, 83, 10, 11, 84, 85, 86, 87, 88, 89, 90, 23, 91, 92, 35, 459, 460, 461, 462, 463, 464, 465, 466, 467, 468, 469, 470, 478, 479, 480, 481] (by decide +kernel) (by decide +kernel)) (goodIn_sub (fun _ h => List.mem_append_left _ (List.mem_append_left _ (List.mem_append_right _ h))) (by decide +kernel))) (goodIn_sub (fun _ h => List.mem_append_left _ (List.mem_append_right _ h)) (by decide +kernel))
set_option maxRecDepth 20000 in
theorem gL_law_L_drafts : GoodIn wsL_law (va_wsS RL 139 yL_drafts wsL_drafts) := goodIn_app (goodIn_of _ (by decide +kernel)) ggL_law_L_drafts
set_option maxRecDepth 20000 in
theorem ggL_law_L_signs : GoodIn wsL_law wsL_signs := goodIn_ca (goodIn_r _ [95, 52, 96, 97, 49, 98, 61, 99, 100, 101, 2, 102, 68, 69, 24, 70, 103, 13, 12, 22, 23, 77, 78, 79, 31, 32, 33, 10, 11, 34, 35, 104, 105, 106, 107, 108, 109, 110, 111, 92, 112, 113, 114, 459, 460, 461, 462, 463, 464, 465, 466, 467, 468, 469, 470] (by decide +kernel) (by decide +kernel)) (goodIn_sub (fun _ h => List.mem_append_left _ (List.mem_append_right _ h)) (by decide +kernel))
set_option maxRecDepth 20000 in
theorem gL_law_L_signs : GoodIn wsL_law (va_wsS RL 147 yL_signs wsL_signs) := goodIn_app (goodIn_of _ (by decide +kernel)) ggL_law_L_signs
set_option maxRecDepth 20000 in
theorem ggL_law_L_buy : GoodIn wsL_law wsL_buy := goodIn_ca (goodIn_ca (goodIn_ca (goodIn_r _ [117, 118, 60, 61, 119, 51, 52, 120, 121, 122, 2, 123, 124, 125, 66, 67, 68, 69, 126, 127, 128, 129, 130, 15, 77, 78, 79, 471, 472, 473, 459, 460, 461, 462, 463, 464, 465, 466, 467, 468] (by decide +kernel) (by decide +kernel)) (goodIn_sub (fun _ h => List.mem_append_right _ h) (by decide +kernel))) (goodIn_sub (fun _ h => List.mem_append_left _ (List.mem_append_left _ (List.mem_append_right _ h))) (by decide +kernel))) (goodIn_sub (fun _ h => List.mem_append_left _ (List.mem_append_right _ h)) (by decide +kernel))
set_option maxRecDepth 20000 in
theorem gL_law_L_buy : GoodIn wsL_law (va_wsS RL 158 yL_buy wsL_buy) := goodIn_app (goodIn_of _ (by decide +kernel)) ggL_law_L_buy
set_option maxRecDepth 20000 in
theorem ggL_law_L_at : GoodIn wsL_law wsL_at := goodIn_r _ [133, 134, 135] (by decide +kernel) (by decide +kernel)
set_option maxRecDepth 20000 in
theorem gL_law_L_at : GoodIn wsL_law (va_wsS RL 183 yL_at wsL_at) := goodIn_app (goodIn_of _ (by decide +kernel)) ggL_law_L_at
set_option maxRecDepth 20000 in
theorem ggA_c : GoodIn wsL_law [.code yL_acts cL_acts 13 (some .boolean)] := goodIn_r _ [138] (by decide +kernel) (by decide +kernel)
set_option maxRecDepth 20000 in
theorem ggA_wsL_acts_r1 : GoodIn wsL_law wsL_acts_r1 := goodIn_r _ [52, 53, 54, 49, 55, 56, 47, 48, 50, 51, 57, 58, 59, 60, 61, 62, 63, 64, 2, 65, 66, 67, 68, 69] (by decide +kernel) (by decide +kernel)
set_option maxRecDepth 20000 in
theorem ggA_wsL_acts_r2 : GoodIn wsL_law wsL_acts_r2 := goodIn_r _ [24, 70, 71, 72, 73, 74, 75, 76, 77, 78, 79, 80, 81, 82, 83, 10, 11, 84, 85, 86, 87, 88, 89, 90] (by decide +kernel) (by decide +kernel)
set_option maxRecDepth 20000 in
theorem ggA_wsL_acts_r3 : GoodIn wsL_law wsL_acts_r3 := goodIn_r _ [23, 91, 92, 35, 139, 140, 141, 142, 143, 144, 145, 146, 147, 148, 149, 118, 150, 151, 152, 153, 124, 125, 154, 155] (by decide +kernel) (by decide +kernel)
set_option maxRecDepth 20000 in
theorem ggA_wsL_acts_r4 : GoodIn wsL_law wsL_acts_r4 := goodIn_r _ [156, 157, 158, 159, 160, 13, 161, 162, 163, 164, 17, 165, 166, 167, 168, 169, 170, 171, 172, 173, 174, 175, 176, 177] (by decide +kernel) (by decide +kernel)
set_option maxRecDepth 20000 in
theorem ggA_wsL_acts_r5 : GoodIn wsL_law wsL_acts_r5 := goodIn_r _ [178, 179, 180, 181, 182, 183, 184, 185, 186, 187, 188, 189, 190, 191, 192, 193, 194, 195, 196, 197, 198, 199, 200, 201] (by decide +kernel) (by decide +kernel)
set_option maxRecDepth 20000 in
theorem ggA_wsL_acts_r6 : GoodIn wsL_law wsL_acts_r6 := goodIn_r _ [202, 203, 204, 205, 206, 207, 208, 209, 210, 211, 212, 213, 214, 215, 216, 217, 218, 219, 220, 221, 222, 223, 224, 225] (by decide +kernel) (by decide +kernel)
set_option maxRecDepth 20000 in
theorem ggA_wsL_acts_r7 : GoodIn wsL_law wsL_acts_r7 := goodIn_r _ [226, 227, 228, 229, 230, 231, 232, 233, 93, 94, 95, 96, 97, 98, 99, 100, 101, 102, 103, 12, 22, 31, 32, 33] (by decide +kernel) (by decide +kernel)
set_option maxRecDepth 20000 in
theorem ggA_wsL_acts_r8 : GoodIn wsL_law wsL_acts_r8 := goodIn_r _ [34, 104, 105, 106, 107, 108, 109, 110, 111, 112, 113, 114, 234, 235, 236, 119, 237, 238, 239, 240, 241, 242, 243, 244] (by decide +kernel) (by decide +kernel)
set_option maxRecDepth 20000 in
theorem ggA_wsL_acts_r9 : GoodIn wsL_law wsL_acts_r9 := goodIn_r _ [21, 20, 245, 246, 247, 248, 249, 250, 251, 252, 253, 254, 19, 127, 128, 129, 130, 15, 255, 256, 257, 258, 3, 259] (by decide +kernel) (by decide +kernel)
set_option maxRecDepth 20000 in
theorem ggA_wsL_acts_r10 : GoodIn wsL_law wsL_acts_r10 := goodIn_r _ [260, 261, 262, 263, 264, 265, 266, 267, 268, 269, 270, 271, 272, 273, 274, 275, 276, 277, 278, 279, 280, 281, 282, 283] (by decide +kernel) (by decide +kernel)
set_option maxRecDepth 20000 in
theorem ggA_wsL_acts_r11 : GoodIn wsL_law wsL_acts_r11 := goodIn_r _ [284, 285, 286, 287, 288, 289, 290, 291, 292, 293, 294, 295, 296, 297, 298, 299, 300, 301, 302, 303, 304, 305, 306, 307] (by decide +kernel) (by decide +kernel)
set_option maxRecDepth 20000 in
theorem ggA_wsL_acts_r12 : GoodIn wsL_law wsL_acts_r12 := goodIn_r _ [308, 309, 310, 311, 312, 313, 314, 315, 316, 317, 318, 319, 320, 321, 322, 30, 323, 46, 324, 325, 326, 327, 328, 329] (by decide +kernel) (by decide +kernel)
set_option maxRecDepth 20000 in
theorem ggA_wsL_acts_r13 : GoodIn wsL_law wsL_acts_r13 := goodIn_r _ [330, 331, 332, 333, 334, 335, 336, 337, 338, 339, 340, 341, 342, 343, 344, 345, 346, 347, 26, 348, 349, 350, 351, 352] (by decide +kernel) (by decide +kernel)
set_option maxRecDepth 20000 in
theorem ggA_wsL_acts_r14 : GoodIn wsL_law wsL_acts_r14 := goodIn_r _ [353, 354, 355, 356, 357, 358, 359, 360, 361, 362, 363, 126, 364, 115, 116, 117, 120, 121, 122, 123, 365, 366, 367, 368] (by decide +kernel) (by decide +kernel)
set_option maxRecDepth 20000 in
theorem ggA_wsL_acts_r15 : GoodIn wsL_law wsL_acts_r15 := goodIn_r _ [369, 370, 371, 372, 373, 374, 375, 376, 377, 378, 379, 380, 381, 382, 383, 384, 385, 386, 387, 388, 389, 390, 391, 392] (by decide +kernel) (by decide +kernel)
set_option maxRecDepth 20000 in
theorem ggA_wsL_acts_r16 : GoodIn wsL_law wsL_acts_r16 := goodIn_r _ [393, 394, 395, 396, 397, 398, 399, 400, 401, 402, 403, 404, 405, 406, 407, 408, 409, 410, 411, 412, 413, 414, 415, 416] (by decide +kernel) (by decide +kernel)
set_option maxRecDepth 20000 in
theorem ggA_wsL_acts_r17 : GoodIn wsL_law wsL_acts_r17 := goodIn_r _ [417, 418, 419, 420, 421, 422, 423, 424, 425, 426, 427, 428, 429, 430, 431, 432, 433, 434, 435, 436, 437, 438, 439, 440] (by decide +kernel) (by decide +kernel)
set_option maxRecDepth 20000 in
theorem ggA_wsL_acts_r18 : GoodIn wsL_law wsL_acts_r18 := goodIn_r _ [441, 442, 443, 444, 445, 446, 447, 448, 449, 450, 451, 452, 453, 454, 455, 456, 457, 458] (by decide +kernel) (by decide +kernel)
set_option maxRecDepth 20000 in
theorem ggA_wsX80 : GoodIn wsL_law wsX80 := goodIn_sub inlX8 (by decide +kernel)
set_option maxRecDepth 20000 in
theorem ggA_wsX50 : GoodIn wsL_law wsX50 := goodIn_sub inlX5 (by decide +kernel)
set_option maxRecDepth 20000 in
theorem ggA_wsX40 : GoodIn wsL_law wsX40 := goodIn_sub inlX4 (by decide +kernel)
set_option maxRecDepth 20000 in
theorem ggA_wsX70 : GoodIn wsL_law wsX70 := goodIn_sub inlX7 (by decide +kernel)
set_option maxRecDepth 20000 in
theorem ggA_wsX30 : GoodIn wsL_law wsX30 := goodIn_sub inlX3 (by decide +kernel)
set_option maxRecDepth 20000 in
theorem ggA_wsX60 : GoodIn wsL_law wsX60 := goodIn_sub inlX6 (by decide +kernel)
set_option maxRecDepth 20000 in
theorem ggA_wsX00 : GoodIn wsL_law wsX00 := goodIn_sub inlX0 (by decide +kernel)
set_option maxRecDepth 20000 in
theorem ggA_wsX10 : GoodIn wsL_law wsX10 := goodIn_sub inlX1 (by decide +kernel)
set_option maxRecDepth 20000 in
theorem ggA_wsX20 : GoodIn wsL_law wsX20 := goodIn_sub inlX2 (by decide +kernel)
set_option maxRecDepth 20000 in
theorem ggL_law_L_acts : GoodIn wsL_law wsL_acts := goodIn_ca (goodIn_ca (goodIn_ca (goodIn_ca (goodIn_ca (goodIn_ca (goodIn_ca (goodIn_ca (goodIn_ca (goodIn_ca (goodIn_ca (goodIn_ca (show GoodIn wsL_law (.code yL_acts cL_acts 13 (some .boolean) :: (wsL_acts_r1 ++ (wsL_acts_r2 ++ (wsL_acts_r3 ++ (wsL_acts_r4 ++ (wsL_acts_r5 ++ (wsL_acts_r6 ++ (wsL_acts_r7 ++ (wsL_acts_r8 ++ (wsL_acts_r9 ++ (wsL_acts_r10 ++ (wsL_acts_r11 ++ (wsL_acts_r12 ++ (wsL_acts_r13 ++ (wsL_acts_r14 ++ (wsL_acts_r15 ++ (wsL_acts_r16 ++ (wsL_acts_r17 ++ wsL_acts_r18)))))))))))))))))) from goodIn_app ggA_c (goodIn_app ggA_wsL_acts_r1 (goodIn_app ggA_wsL_acts_r2 (goodIn_app ggA_wsL_acts_r3 (goodIn_app ggA_wsL_acts_r4 (goodIn_app ggA_wsL_acts_r5 (goodIn_app ggA_wsL_acts_r6 (goodIn_app ggA_wsL_acts_r7 (goodIn_app ggA_wsL_acts_r8 (goodIn_app ggA_wsL_acts_r9 (goodIn_app ggA_wsL_acts_r10 (goodIn_app ggA_wsL_acts_r11 (goodIn_app ggA_wsL_acts_r12 (goodIn_app ggA_wsL_acts_r13 (goodIn_app ggA_wsL_acts_r14 (goodIn_app ggA_wsL_acts_r15 (goodIn_app ggA_wsL_acts_r16 (goodIn_app ggA_wsL_acts_r17 ggA_wsL_acts_r18)))))))))))))))))) ggA_wsX80) ggA_wsX50) ggA_wsX40) ggA_wsX70) ggA_wsX30) ggA_wsX60) ggA_wsX00) ggA_wsX10) ggA_wsX20) (goodIn_sub (fun _ h => List.mem_append_left _ (List.mem_append_left _ (List.mem_append_right _ h))) (by decide +kernel))) (goodIn_sub (fun _ h => List.mem_append_left _ (List.mem_append_right _ h)) (by decide +kernel))) (goodIn_sub (fun _ h => List.mem_append_right _ h) (by decide +kernel))
set_option maxRecDepth 20000 in
theorem gL_law_L_acts : GoodIn wsL_law (va_wsS RL 187 yL_acts wsL_acts) := goodIn_app (goodIn_of _ (by decide +kernel)) ggL_law_L_acts
set_option maxRecDepth 20000 in
theorem ggL_law_L_isDuel : GoodIn wsL_law wsL_isDuel := goodIn_ca (goodIn_ca (goodIn_r _ [441, 51, 146, 142, 288, 289, 49, 290, 118, 60, 119, 291, 292, 293, 2, 294, 124, 125, 66, 67, 295, 296, 297, 280, 281, 282, 283, 21, 298, 299, 300, 301, 302, 303, 304, 305, 306, 307, 308, 309, 246, 310, 261, 311, 312, 313, 314, 315, 251, 252, 253, 254, 19, 316, 317, 318, 319, 17, 320, 321, 322, 30, 323, 46, 211, 212, 213, 156, 214, 172, 170, 215, 216, 217, 176, 218, 219, 208, 220, 209, 221, 210, 222, 324, 325, 326, 327, 328, 329, 330, 331, 332, 333, 334, 267, 442, 443, 444, 445, 446, 447, 448, 489, 490, 491, 492, 493, 494, 495, 496, 497, 498, 459, 460, 461, 462, 463, 464, 465, 466, 467, 468, 482, 483, 484, 485, 477, 474, 475, 476, 486, 487, 488] (by decide +kernel) (by decide +kernel)) (goodIn_sub (fun _ h => List.mem_append_right _ h) (by decide +kernel))) (goodIn_sub (fun _ h => List.mem_append_left _ (List.mem_append_left _ (List.mem_append_right _ h))) (by decide +kernel))
set_option maxRecDepth 20000 in
theorem gL_law_L_isDuel : GoodIn wsL_law (va_wsS RL 173 yL_isDuel wsL_isDuel) := goodIn_app (goodIn_of _ (by decide +kernel)) ggL_law_L_isDuel
set_option maxRecDepth 20000 in
theorem ggL_law_L_areWon : GoodIn wsL_law wsL_areWon := goodIn_ca (goodIn_ca (goodIn_r _ [451, 452, 453, 49, 454, 118, 119, 455, 456, 457, 2, 458, 124, 125, 21, 248, 249, 250, 77, 78, 79, 324, 325, 326, 327, 328, 329, 330, 331, 332, 246, 333, 334, 267, 302, 303, 304, 305, 306, 307, 308, 309, 310, 261, 311, 312, 313, 314, 315, 296, 297, 251, 252, 253, 254, 19, 316, 317, 318, 319, 17, 320, 321, 322, 30, 323, 46, 211, 212, 213, 156, 214, 172, 170, 215, 216, 217, 176, 218, 219, 208, 220, 209, 221, 210, 222, 288, 289, 290, 60, 51, 291, 292, 293, 294, 66, 67, 295, 280, 281, 282, 283, 298, 299, 300, 301, 459, 460, 461, 462, 463, 464, 465, 466, 467, 468, 489, 490, 491, 492, 493, 494, 495, 496, 497, 498, 482, 483, 484, 485, 477, 474, 475, 476, 486, 487, 488] (by decide +kernel) (by decide +kernel)) (goodIn_sub (fun _ h => List.mem_append_right _ h) (by decide +kernel))) (goodIn_sub (fun _ h => List.mem_append_left _ (List.mem_append_left _ (List.mem_append_right _ h))) (by decide +kernel))
set_option maxRecDepth 20000 in
theorem gL_law_L_areWon : GoodIn wsL_law (va_wsS RL 176 yL_areWon wsL_areWon) := goodIn_app (goodIn_of _ (by decide +kernel)) ggL_law_L_areWon
theorem dL_law_0 : decode cL_law 0 = .ok (.new 11, 3) := by decide +kernel
theorem dL_law_3 : decode cL_law 3 = .ok (.dup, 1) := by decide +kernel
theorem dL_law_4 : decode cL_law 4 = .ok (.invokespecial 180, 3) := by decide +kernel
theorem dL_law_7 : decode cL_law 7 = .ok (.astore_n 1, 1) := by decide +kernel
theorem dL_law_8 : decode cL_law 8 = .ok (.iconst 5, 1) := by decide +kernel
theorem dL_law_9 : decode cL_law 9 = .ok (.newarray .int, 2) := by decide +kernel
theorem dL_law_11 : decode cL_law 11 = .ok (.astore_n 2, 1) := by decide +kernel
theorem dL_law_12 : decode cL_law 12 = .ok (.bipush 6, 2) := by decide +kernel
theorem dL_law_14 : decode cL_law 14 = .ok (.newarray .int, 2) := by decide +kernel
theorem dL_law_16 : decode cL_law 16 = .ok (.astore_n 3, 1) := by decide +kernel
theorem dL_law_17 : decode cL_law 17 = .ok (.bipush 9, 2) := by decide +kernel
theorem dL_law_19 : decode cL_law 19 = .ok (.newarray .int, 2) := by decide +kernel
theorem dL_law_21 : decode cL_law 21 = .ok (.astore 4, 2) := by decide +kernel
theorem dL_law_23 : decode cL_law 23 = .ok (.bipush 16, 2) := by decide +kernel
theorem dL_law_25 : decode cL_law 25 = .ok (.newarray .int, 2) := by decide +kernel
theorem dL_law_27 : decode cL_law 27 = .ok (.astore 5, 2) := by decide +kernel
theorem dL_law_29 : decode cL_law 29 = .ok (.bipush 64, 2) := by decide +kernel
theorem dL_law_31 : decode cL_law 31 = .ok (.newarray .int, 2) := by decide +kernel
theorem dL_law_33 : decode cL_law 33 = .ok (.astore 6, 2) := by decide +kernel
theorem dL_law_35 : decode cL_law 35 = .ok (.aload_n 1, 1) := by decide +kernel
theorem dL_law_36 : decode cL_law 36 = .ok (.aload_n 2, 1) := by decide +kernel
theorem dL_law_37 : decode cL_law 37 = .ok (.ldc 181, 2) := by decide +kernel
theorem dL_law_39 : decode cL_law 39 = .ok (.ldc 182, 2) := by decide +kernel
theorem dL_law_41 : decode cL_law 41 = .ok (.invokestatic 139, 3) := by decide +kernel
theorem dL_law_44 : decode cL_law 44 = .ok (.ifCond .eq 40, 3) := by decide +kernel
theorem dL_law_47 : decode cL_law 47 = .ok (.aload_n 1, 1) := by decide +kernel
theorem dL_law_48 : decode cL_law 48 = .ok (.aload_n 2, 1) := by decide +kernel
theorem dL_law_49 : decode cL_law 49 = .ok (.aload_n 3, 1) := by decide +kernel
theorem dL_law_50 : decode cL_law 50 = .ok (.invokestatic 147, 3) := by decide +kernel
theorem dL_law_53 : decode cL_law 53 = .ok (.ifCond .eq 31, 3) := by decide +kernel
theorem dL_law_56 : decode cL_law 56 = .ok (.aload_n 1, 1) := by decide +kernel
theorem dL_law_57 : decode cL_law 57 = .ok (.iconst 0, 1) := by decide +kernel
theorem dL_law_58 : decode cL_law 58 = .ok (.bipush 9, 2) := by decide +kernel
theorem dL_law_60 : decode cL_law 60 = .ok (.invokestatic 158, 3) := by decide +kernel
theorem dL_law_63 : decode cL_law 63 = .ok (.bipush 9, 2) := by decide +kernel
theorem dL_law_65 : decode cL_law 65 = .ok (.if_icmp .ne 19, 3) := by decide +kernel
theorem dL_law_68 : decode cL_law 68 = .ok (.aload_n 1, 1) := by decide +kernel
theorem dL_law_69 : decode cL_law 69 = .ok (.iconst 1, 1) := by decide +kernel
theorem dL_law_70 : decode cL_law 70 = .ok (.bipush 9, 2) := by decide +kernel
theorem dL_law_72 : decode cL_law 72 = .ok (.invokestatic 158, 3) := by decide +kernel
theorem dL_law_75 : decode cL_law 75 = .ok (.bipush 9, 2) := by decide +kernel
theorem dL_law_77 : decode cL_law 77 = .ok (.if_icmp .ne 7, 3) := by decide +kernel
theorem dL_law_80 : decode cL_law 80 = .ok (.iconst 1, 1) := by decide +kernel
theorem dL_law_81 : decode cL_law 81 = .ok (.goto 4, 3) := by decide +kernel
theorem dL_law_84 : decode cL_law 84 = .ok (.iconst 0, 1) := by decide +kernel
theorem dL_law_85 : decode cL_law 85 = .ok (.istore 7, 2) := by decide +kernel
theorem dL_law_87 : decode cL_law 87 = .ok (.aload 4, 2) := by decide +kernel
theorem dL_law_89 : decode cL_law 89 = .ok (.iconst 0, 1) := by decide +kernel
theorem dL_law_90 : decode cL_law 90 = .ok (.bipush 9, 2) := by decide +kernel
theorem dL_law_92 : decode cL_law 92 = .ok (.iastore, 1) := by decide +kernel
theorem dL_law_93 : decode cL_law 93 = .ok (.aload 4, 2) := by decide +kernel
theorem dL_law_95 : decode cL_law 95 = .ok (.iconst 3, 1) := by decide +kernel
theorem dL_law_96 : decode cL_law 96 = .ok (.bipush 9, 2) := by decide +kernel
theorem dL_law_98 : decode cL_law 98 = .ok (.iastore, 1) := by decide +kernel
theorem dL_law_99 : decode cL_law 99 = .ok (.iconst 0, 1) := by decide +kernel
theorem dL_law_100 : decode cL_law 100 = .ok (.istore 8, 2) := by decide +kernel
theorem dL_law_102 : decode cL_law 102 = .ok (.iload 8, 2) := by decide +kernel
theorem dL_law_104 : decode cL_law 104 = .ok (.bipush 56, 2) := by decide +kernel
theorem dL_law_106 : decode cL_law 106 = .ok (.if_icmp .ge 46, 3) := by decide +kernel
theorem dL_law_109 : decode cL_law 109 = .ok (.iload 7, 2) := by decide +kernel
theorem dL_law_111 : decode cL_law 111 = .ok (.ifCond .eq 41, 3) := by decide +kernel
theorem dL_law_114 : decode cL_law 114 = .ok (.aload_n 1, 1) := by decide +kernel
theorem dL_law_115 : decode cL_law 115 = .ok (.aload_n 2, 1) := by decide +kernel
theorem dL_law_116 : decode cL_law 116 = .ok (.aload_n 3, 1) := by decide +kernel
theorem dL_law_117 : decode cL_law 117 = .ok (.aload 4, 2) := by decide +kernel
theorem dL_law_119 : decode cL_law 119 = .ok (.aload 5, 2) := by decide +kernel
theorem dL_law_121 : decode cL_law 121 = .ok (.aload 6, 2) := by decide +kernel
theorem dL_law_123 : decode cL_law 123 = .ok (.aload_n 0, 1) := by decide +kernel
theorem dL_law_124 : decode cL_law 124 = .ok (.iconst 2, 1) := by decide +kernel
theorem dL_law_125 : decode cL_law 125 = .ok (.iload 8, 2) := by decide +kernel
theorem dL_law_127 : decode cL_law 127 = .ok (.imul, 1) := by decide +kernel
theorem dL_law_128 : decode cL_law 128 = .ok (.invokestatic 183, 3) := by decide +kernel
theorem dL_law_131 : decode cL_law 131 = .ok (.aload_n 0, 1) := by decide +kernel
theorem dL_law_132 : decode cL_law 132 = .ok (.iconst 2, 1) := by decide +kernel
theorem dL_law_133 : decode cL_law 133 = .ok (.iload 8, 2) := by decide +kernel
theorem dL_law_135 : decode cL_law 135 = .ok (.imul, 1) := by decide +kernel
theorem dL_law_136 : decode cL_law 136 = .ok (.iconst 1, 1) := by decide +kernel
theorem dL_law_137 : decode cL_law 137 = .ok (.iadd, 1) := by decide +kernel
theorem dL_law_138 : decode cL_law 138 = .ok (.invokestatic 183, 3) := by decide +kernel
theorem dL_law_141 : decode cL_law 141 = .ok (.invokestatic 187, 3) := by decide +kernel
theorem dL_law_144 : decode cL_law 144 = .ok (.istore 7, 2) := by decide +kernel
theorem dL_law_146 : decode cL_law 146 = .ok (.iinc 8 1, 3) := by decide +kernel
theorem dL_law_149 : decode cL_law 149 = .ok (.goto (-47), 3) := by decide +kernel
theorem dL_law_152 : decode cL_law 152 = .ok (.iconst 0, 1) := by decide +kernel
theorem dL_law_153 : decode cL_law 153 = .ok (.istore 8, 2) := by decide +kernel
theorem dL_law_155 : decode cL_law 155 = .ok (.iload 8, 2) := by decide +kernel
theorem dL_law_157 : decode cL_law 157 = .ok (.aload_n 2, 1) := by decide +kernel
theorem dL_law_158 : decode cL_law 158 = .ok (.iconst 3, 1) := by decide +kernel
theorem dL_law_159 : decode cL_law 159 = .ok (.iaload, 1) := by decide +kernel
theorem dL_law_160 : decode cL_law 160 = .ok (.if_icmp .ge 25, 3) := by decide +kernel
theorem dL_law_163 : decode cL_law 163 = .ok (.iload 7, 2) := by decide +kernel
theorem dL_law_165 : decode cL_law 165 = .ok (.ifCond .eq 20, 3) := by decide +kernel
theorem dL_law_168 : decode cL_law 168 = .ok (.aload_n 1, 1) := by decide +kernel
theorem dL_law_169 : decode cL_law 169 = .ok (.aload_n 2, 1) := by decide +kernel
theorem dL_law_170 : decode cL_law 170 = .ok (.aload 6, 2) := by decide +kernel
theorem dL_law_172 : decode cL_law 172 = .ok (.iload 8, 2) := by decide +kernel
theorem dL_law_174 : decode cL_law 174 = .ok (.invokestatic 173, 3) := by decide +kernel
theorem dL_law_177 : decode cL_law 177 = .ok (.istore 7, 2) := by decide +kernel
theorem dL_law_179 : decode cL_law 179 = .ok (.iinc 8 1, 3) := by decide +kernel
theorem dL_law_182 : decode cL_law 182 = .ok (.goto (-27), 3) := by decide +kernel
theorem dL_law_185 : decode cL_law 185 = .ok (.iload 7, 2) := by decide +kernel
theorem dL_law_187 : decode cL_law 187 = .ok (.ifCond .eq 15, 3) := by decide +kernel
theorem dL_law_190 : decode cL_law 190 = .ok (.aload_n 1, 1) := by decide +kernel
theorem dL_law_191 : decode cL_law 191 = .ok (.aload_n 2, 1) := by decide +kernel
theorem dL_law_192 : decode cL_law 192 = .ok (.invokestatic 176, 3) := by decide +kernel
theorem dL_law_195 : decode cL_law 195 = .ok (.ifCond .eq 7, 3) := by decide +kernel
theorem dL_law_198 : decode cL_law 198 = .ok (.iconst 1, 1) := by decide +kernel
theorem dL_law_199 : decode cL_law 199 = .ok (.goto 4, 3) := by decide +kernel
theorem dL_law_202 : decode cL_law 202 = .ok (.iconst 0, 1) := by decide +kernel
theorem dL_law_203 : decode cL_law 203 = .ok (.ireturn, 1) := by decide +kernel
abbrev vwCl : List vw_C := [(RX0, TX0, 10), (RX1, TX1, 1), (RX2, TX2, 3), (RX3, TX3, 3), (RX4, TX4, 4), (RX5, TX5, 2), (RX6, TX6, 3), (RX7, TX7, 4), (RX8, TX8, 10)]
