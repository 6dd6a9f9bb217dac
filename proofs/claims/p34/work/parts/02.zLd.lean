theorem dL_same_419 : decode cL_same 419 = .ok (.aload_n 0, 1) := by decide +kernel
theorem dL_same_420 : decode cL_same 420 = .ok (.bipush 6, 2) := by decide +kernel
theorem dL_same_422 : decode cL_same 422 = .ok (.aload_n 2, 1) := by decide +kernel
theorem dL_same_423 : decode cL_same 423 = .ok (.iconst 4, 1) := by decide +kernel
theorem dL_same_424 : decode cL_same 424 = .ok (.iaload, 1) := by decide +kernel
theorem dL_same_425 : decode cL_same 425 = .ok (.iconst 0, 1) := by decide +kernel
theorem dL_same_426 : decode cL_same 426 = .ok (.iconst 0, 1) := by decide +kernel
theorem dL_same_427 : decode cL_same 427 = .ok (.invokestatic 119, 3) := by decide +kernel
theorem dL_same_430 : decode cL_same 430 = .ok (.iconst 3, 1) := by decide +kernel
theorem dL_same_431 : decode cL_same 431 = .ok (.if_icmp .ne 18, 3) := by decide +kernel
theorem dL_same_434 : decode cL_same 434 = .ok (.aload_n 0, 1) := by decide +kernel
theorem dL_same_435 : decode cL_same 435 = .ok (.bipush 8, 2) := by decide +kernel
theorem dL_same_437 : decode cL_same 437 = .ok (.aload_n 2, 1) := by decide +kernel
theorem dL_same_438 : decode cL_same 438 = .ok (.iconst 5, 1) := by decide +kernel
theorem dL_same_439 : decode cL_same 439 = .ok (.iaload, 1) := by decide +kernel
theorem dL_same_440 : decode cL_same 440 = .ok (.iconst 0, 1) := by decide +kernel
theorem dL_same_441 : decode cL_same 441 = .ok (.iconst 0, 1) := by decide +kernel
theorem dL_same_442 : decode cL_same 442 = .ok (.invokestatic 119, 3) := by decide +kernel
theorem dL_same_445 : decode cL_same 445 = .ok (.iconst 3, 1) := by decide +kernel
theorem dL_same_446 : decode cL_same 446 = .ok (.if_icmp .eq 5, 3) := by decide +kernel
theorem dL_same_449 : decode cL_same 449 = .ok (.iconst 0, 1) := by decide +kernel
theorem dL_same_450 : decode cL_same 450 = .ok (.ireturn, 1) := by decide +kernel
theorem dL_same_451 : decode cL_same 451 = .ok (.aload_n 0, 1) := by decide +kernel
theorem dL_same_452 : decode cL_same 452 = .ok (.invokevirtual 123, 3) := by decide +kernel
theorem dL_same_455 : decode cL_same 455 = .ok (.aload_n 2, 1) := by decide +kernel
theorem dL_same_456 : decode cL_same 456 = .ok (.aload_n 3, 1) := by decide +kernel
theorem dL_same_457 : decode cL_same 457 = .ok (.invokestatic 126, 3) := by decide +kernel
theorem dL_same_460 : decode cL_same 460 = .ok (.if_icmp .ne 50, 3) := by decide +kernel
theorem dL_same_463 : decode cL_same 463 = .ok (.aload_n 0, 1) := by decide +kernel
theorem dL_same_464 : decode cL_same 464 = .ok (.invokevirtual 130, 3) := by decide +kernel
theorem dL_same_467 : decode cL_same 467 = .ok (.aload_n 2, 1) := by decide +kernel
theorem dL_same_468 : decode cL_same 468 = .ok (.aload_n 3, 1) := by decide +kernel
theorem dL_same_469 : decode cL_same 469 = .ok (.aload 4, 2) := by decide +kernel
theorem dL_same_471 : decode cL_same 471 = .ok (.invokestatic 133, 3) := by decide +kernel
theorem dL_same_474 : decode cL_same 474 = .ok (.if_icmp .ne 36, 3) := by decide +kernel
theorem dL_same_477 : decode cL_same 477 = .ok (.aload_n 0, 1) := by decide +kernel
theorem dL_same_478 : decode cL_same 478 = .ok (.invokevirtual 137, 3) := by decide +kernel
theorem dL_same_481 : decode cL_same 481 = .ok (.iload 5, 2) := by decide +kernel
theorem dL_same_483 : decode cL_same 483 = .ok (.if_icmp .ne 27, 3) := by decide +kernel
theorem dL_same_486 : decode cL_same 486 = .ok (.aload_n 0, 1) := by decide +kernel
theorem dL_same_487 : decode cL_same 487 = .ok (.invokevirtual 140, 3) := by decide +kernel
theorem dL_same_490 : decode cL_same 490 = .ok (.aload_n 2, 1) := by decide +kernel
theorem dL_same_491 : decode cL_same 491 = .ok (.iconst 0, 1) := by decide +kernel
theorem dL_same_492 : decode cL_same 492 = .ok (.iaload, 1) := by decide +kernel
theorem dL_same_493 : decode cL_same 493 = .ok (.if_icmp .ne 17, 3) := by decide +kernel
theorem dL_same_496 : decode cL_same 496 = .ok (.aload_n 0, 1) := by decide +kernel
theorem dL_same_497 : decode cL_same 497 = .ok (.invokevirtual 84, 3) := by decide +kernel
theorem dL_same_500 : decode cL_same 500 = .ok (.aload_n 2, 1) := by decide +kernel
theorem dL_same_501 : decode cL_same 501 = .ok (.iconst 5, 1) := by decide +kernel
theorem dL_same_502 : decode cL_same 502 = .ok (.iaload, 1) := by decide +kernel
theorem dL_same_503 : decode cL_same 503 = .ok (.if_icmp .ne 7, 3) := by decide +kernel
theorem dL_same_506 : decode cL_same 506 = .ok (.iconst 1, 1) := by decide +kernel
theorem dL_same_507 : decode cL_same 507 = .ok (.goto 4, 3) := by decide +kernel
theorem dL_same_510 : decode cL_same 510 = .ok (.iconst 0, 1) := by decide +kernel
theorem dL_same_511 : decode cL_same 511 = .ok (.ireturn, 1) := by decide +kernel
set_option maxRecDepth 20000 in
theorem ggL_path_L_low : GoodIn wsL_path wsL_low := goodIn_r _ [4, 5] (by decide +kernel) (by decide +kernel)
set_option maxRecDepth 20000 in
theorem gL_path_L_low : GoodIn wsL_path (va_wsS RL 113 yL_low wsL_low) := goodIn_app (goodIn_of _ (by decide +kernel)) ggL_path_L_low
theorem dL_path_0 : decode cL_path 0 = .ok (.iconst 1, 1) := by decide +kernel
theorem dL_path_1 : decode cL_path 1 = .ok (.iload_n 0, 1) := by decide +kernel
theorem dL_path_2 : decode cL_path 2 = .ok (.iload_n 1, 1) := by decide +kernel
theorem dL_path_3 : decode cL_path 3 = .ok (.invokestatic 113, 3) := by decide +kernel
theorem dL_path_6 : decode cL_path 6 = .ok (.iadd, 1) := by decide +kernel
theorem dL_path_7 : decode cL_path 7 = .ok (.istore_n 2, 1) := by decide +kernel
theorem dL_path_8 : decode cL_path 8 = .ok (.iload_n 0, 1) := by decide +kernel
theorem dL_path_9 : decode cL_path 9 = .ok (.iconst 3, 1) := by decide +kernel
theorem dL_path_10 : decode cL_path 10 = .ok (.ishr, 1) := by decide +kernel
theorem dL_path_11 : decode cL_path 11 = .ok (.iconst 4, 1) := by decide +kernel
theorem dL_path_12 : decode cL_path 12 = .ok (.invokestatic 113, 3) := by decide +kernel
theorem dL_path_15 : decode cL_path 15 = .ok (.istore_n 3, 1) := by decide +kernel
theorem dL_path_16 : decode cL_path 16 = .ok (.iload_n 3, 1) := by decide +kernel
theorem dL_path_17 : decode cL_path 17 = .ok (.ifCond .le 28, 3) := by decide +kernel
theorem dL_path_20 : decode cL_path 20 = .ok (.bipush 10, 2) := by decide +kernel
theorem dL_path_22 : decode cL_path 22 = .ok (.iload_n 2, 1) := by decide +kernel
theorem dL_path_23 : decode cL_path 23 = .ok (.imul, 1) := by decide +kernel
theorem dL_path_24 : decode cL_path 24 = .ok (.iconst 1, 1) := by decide +kernel
theorem dL_path_25 : decode cL_path 25 = .ok (.iadd, 1) := by decide +kernel
theorem dL_path_26 : decode cL_path 26 = .ok (.iload_n 0, 1) := by decide +kernel
theorem dL_path_27 : decode cL_path 27 = .ok (.iconst 3, 1) := by decide +kernel
theorem dL_path_28 : decode cL_path 28 = .ok (.iconst 3, 1) := by decide +kernel
theorem dL_path_29 : decode cL_path 29 = .ok (.iload_n 3, 1) := by decide +kernel
theorem dL_path_30 : decode cL_path 30 = .ok (.imul, 1) := by decide +kernel
theorem dL_path_31 : decode cL_path 31 = .ok (.iadd, 1) := by decide +kernel
theorem dL_path_32 : decode cL_path 32 = .ok (.ishr, 1) := by decide +kernel
theorem dL_path_33 : decode cL_path 33 = .ok (.iload_n 1, 1) := by decide +kernel
theorem dL_path_34 : decode cL_path 34 = .ok (.invokestatic 113, 3) := by decide +kernel
theorem dL_path_37 : decode cL_path 37 = .ok (.iadd, 1) := by decide +kernel
theorem dL_path_38 : decode cL_path 38 = .ok (.istore_n 2, 1) := by decide +kernel
theorem dL_path_39 : decode cL_path 39 = .ok (.iinc 3 (-1), 3) := by decide +kernel
theorem dL_path_42 : decode cL_path 42 = .ok (.goto (-26), 3) := by decide +kernel
theorem dL_path_45 : decode cL_path 45 = .ok (.iload_n 2, 1) := by decide +kernel
theorem dL_path_46 : decode cL_path 46 = .ok (.ireturn, 1) := by decide +kernel
set_option maxRecDepth 20000 in
theorem ggL_law_X7_init : GoodIn wsL_law wsX7_init := goodIn_r _ [8, 9, 10, 11, 12, 13, 14, 15, 16, 17, 18, 19, 20, 21, 22, 23, 24, 25, 26, 27, 28, 29, 30, 31, 32, 33, 34, 35, 3, 36, 37, 38, 39, 40, 41, 42, 43, 44, 45, 46, 47, 48, 49, 50, 51, 52, 53, 54, 55, 56, 57, 58, 59, 60, 61, 62, 63, 64, 65, 66, 67, 68, 69, 70, 71, 72, 73, 74, 75, 76, 77, 78, 79, 80, 81, 82, 83, 84, 85, 86, 87, 88, 4, 89, 90, 636, 637, 638, 639, 640, 630, 631, 632, 633, 634, 635, 641, 642, 643, 644, 645, 646, 647, 648, 649, 650, 651, 652, 653, 654, 655, 656, 657, 658, 659, 660, 661, 662, 663, 664, 665, 666] (by decide +kernel) (by decide +kernel)
set_option maxRecDepth 20000 in
theorem gL_law_X7_init : GoodIn wsL_law (wsX7_init) := ggL_law_X7_init
set_option maxRecDepth 20000 in
theorem ggL_law_X7_policy : GoodIn wsL_law wsX7_policy := goodIn_ca (goodIn_r _ [94, 95, 96, 15, 97, 98, 99, 14, 100, 41, 101, 102, 103, 104, 630, 631, 632, 633, 634, 635, 636, 637, 638, 639, 640] (by decide +kernel) (by decide +kernel)) (goodIn_sub (fun _ h => List.mem_append_left _ (List.mem_append_left _ (List.mem_append_right _ h))) (by decide +kernel))
set_option maxRecDepth 20000 in
theorem gL_law_X7_policy : GoodIn wsL_law (wsV RL 146 RX7 yX7_policy wsX7_policy) := goodIn_app (goodIn_of _ (by decide +kernel)) ggL_law_X7_policy
set_option maxRecDepth 20000 in
theorem ggL_law_L_cell : GoodIn wsL_law wsL_cell := goodIn_r _ [108, 109, 110] (by decide +kernel) (by decide +kernel)
set_option maxRecDepth 20000 in
theorem gL_law_L_cell : GoodIn wsL_law (va_wsS RL 149 yL_cell wsL_cell) := goodIn_app (goodIn_of _ (by decide +kernel)) ggL_law_L_cell
set_option maxRecDepth 20000 in
theorem ggL_law_L_low : GoodIn wsL_law wsL_low := goodIn_r _ [113, 114] (by decide +kernel) (by decide +kernel)
set_option maxRecDepth 20000 in
theorem gL_law_L_low : GoodIn wsL_law (va_wsS RL 113 yL_low wsL_low) := goodIn_app (goodIn_of _ (by decide +kernel)) ggL_law_L_low
set_option maxRecDepth 20000 in
theorem ggL_law_L_lives : GoodIn wsL_law wsL_lives := goodIn_r _ [117] (by decide +kernel) (by decide +kernel)
set_option maxRecDepth 20000 in
theorem gL_law_L_lives : GoodIn wsL_law (va_wsS RL 23 yL_lives wsL_lives) := goodIn_app (goodIn_of _ (by decide +kernel)) ggL_law_L_lives
set_option maxRecDepth 20000 in
theorem ggL_law_L_living : GoodIn wsL_law wsL_living := goodIn_r _ [120, 115, 116, 107, 117] (by decide +kernel) (by decide +kernel)
set_option maxRecDepth 20000 in
theorem gL_law_L_living : GoodIn wsL_law (va_wsS RL 126 yL_living wsL_living) := goodIn_app (goodIn_of _ (by decide +kernel)) ggL_law_L_living
set_option maxRecDepth 20000 in
theorem ggL_law_L_working : GoodIn wsL_law wsL_working := goodIn_r _ [123, 124, 125, 107, 126, 115, 116, 117] (by decide +kernel) (by decide +kernel)
set_option maxRecDepth 20000 in
theorem gL_law_L_working : GoodIn wsL_law (va_wsS RL 133 yL_working wsL_working) := goodIn_app (goodIn_of _ (by decide +kernel)) ggL_law_L_working
set_option maxRecDepth 20000 in
theorem ggL_law_L_path : GoodIn wsL_law wsL_path := goodIn_r _ [129, 111, 112, 107, 113, 114] (by decide +kernel) (by decide +kernel)
set_option maxRecDepth 20000 in
theorem gL_law_L_path : GoodIn wsL_law (va_wsS RL 153 yL_path wsL_path) := goodIn_app (goodIn_of _ (by decide +kernel)) ggL_law_L_path
set_option maxRecDepth 20000 in
theorem ggL_law_X7_allow : GoodIn wsL_law wsX7_allow := goodIn_ca (goodIn_ca (goodIn_ca (goodIn_r _ [133, 134, 135, 95, 96, 15, 136, 137, 138, 2, 139, 140, 141, 142, 143, 144, 14, 145, 41, 146, 147, 148, 149, 150, 151, 152, 153, 154, 155, 156, 157, 158, 159, 160, 37, 39, 161, 162, 163, 164, 36, 165, 166, 167, 168, 169, 170, 40, 171, 172, 173, 174, 175, 630, 631, 632, 633, 634, 635, 636, 637, 638, 639, 640] (by decide +kernel) (by decide +kernel)) (goodIn_sub (fun _ h => List.mem_append_left _ (List.mem_append_right _ h)) (by decide +kernel))) (goodIn_sub (fun _ h => List.mem_append_left _ (List.mem_append_left _ (List.mem_append_right _ h))) (by decide +kernel))) (goodIn_sub (fun _ h => List.mem_append_right _ h) (by decide +kernel))
set_option maxRecDepth 20000 in
theorem gL_law_X7_allow : GoodIn wsL_law (wsV RL 156 RX7 yX7_allow wsX7_allow) := goodIn_app (goodIn_of _ (by decide +kernel)) ggL_law_X7_allow
set_option maxRecDepth 20000 in
theorem ggL_law_X7_mount : GoodIn wsL_law wsX7_mount := goodIn_ca (goodIn_ca (goodIn_r _ [179, 95, 96, 19, 180, 181, 2, 182, 134, 135, 183, 184, 148, 185, 150, 151, 152, 153, 186, 187, 188, 154, 155, 156, 189, 190, 191, 18, 192, 48, 45, 193, 194, 195, 196, 197, 198, 199, 200, 46, 47, 201, 630, 631, 632, 633, 634, 635, 641, 642, 643, 644] (by decide +kernel) (by decide +kernel)) (goodIn_sub (fun _ h => List.mem_append_left _ (List.mem_append_left _ (List.mem_append_right _ h))) (by decide +kernel))) (goodIn_sub (fun _ h => List.mem_append_left _ (List.mem_append_right _ h)) (by decide +kernel))
set_option maxRecDepth 20000 in
theorem gL_law_X7_mount : GoodIn wsL_law (wsV RL 160 RX7 yX7_mount wsX7_mount) := goodIn_app (goodIn_of _ (by decide +kernel)) ggL_law_X7_mount
set_option maxRecDepth 20000 in
theorem ggL_law_L_refused : GoodIn wsL_law wsL_refused := goodIn_ca (goodIn_ca (goodIn_ca (goodIn_r _ [204, 205, 206, 207, 208, 209, 210, 2, 211, 134, 135, 95, 96, 23, 32, 31, 212, 213, 214, 215, 140, 141, 216, 75, 76, 77, 56, 78, 63, 217, 218, 219, 220, 15, 221, 222, 223, 14, 224, 41, 225, 226, 227, 22, 228, 53, 74, 186, 187, 188, 154, 155, 156, 229, 230, 231, 232, 233, 234, 235, 236, 237, 62, 238, 239, 240, 241, 242, 243, 244, 245, 246, 64, 247, 248, 249, 250, 251, 252, 66, 67, 68, 69, 59, 60, 61, 253, 71, 72, 73, 52, 54, 254, 255, 256, 30, 257, 90, 258, 89, 86, 87, 88, 259, 260, 261, 262, 263, 264, 265, 266, 267, 268, 269, 270, 271, 272, 273, 274, 275, 276, 277, 278, 279, 280, 281, 282, 283, 284, 285, 286, 287, 288, 289, 290, 291, 292, 293, 294, 295, 296, 297, 298, 299, 300, 301, 302, 303, 304, 305, 306, 307, 308, 309, 27, 310, 311, 312, 313, 314, 315, 316, 317, 318, 319, 320, 321, 322, 323, 26, 324, 81, 325, 326, 327, 328, 329, 330, 331, 332, 333, 334, 335, 336, 337, 338, 339, 340, 341, 342, 343, 344, 345, 346, 347, 348, 349, 350, 351, 352, 353, 354, 355, 356, 357, 358, 359, 360, 361, 362, 363, 364, 365, 366, 367, 368, 369, 370, 371, 372, 373, 374, 375, 376, 377, 378, 379, 380, 381, 180, 181, 182, 183, 184, 148, 185, 150, 151, 152, 153, 382, 383, 384, 385, 19, 386, 387, 388, 389, 390, 391, 392, 18, 393, 48, 45, 394, 395, 396, 397, 398, 399, 400, 401, 402, 403, 404, 405, 406, 407, 408, 409, 410, 411, 412, 413, 414, 37, 39, 40, 161, 162, 163, 164, 36, 165, 143, 144, 145, 415, 416, 417, 418, 419, 420, 421, 422, 423, 424, 425, 426, 427, 428, 429, 430, 431, 432, 433, 434, 435, 436, 437, 438, 439, 440, 46, 441, 442, 443, 444, 445, 446, 447, 448, 47, 449, 450, 451, 452, 453, 454, 455, 82, 456, 457, 458, 459, 460, 461, 462, 463, 464, 465, 466, 467, 468, 469, 470, 471, 472, 630, 631, 632, 633, 634, 635, 654, 655, 656, 657, 658, 659, 660, 661, 645, 646, 647, 648, 649, 650, 651, 652, 653, 636, 637, 638, 639, 640, 662, 663, 664, 665, 666, 641, 642, 643, 644] (by decide +kernel) (by decide +kernel)) (goodIn_sub (fun _ h => List.mem_append_left _ (List.mem_append_right _ h)) (by decide +kernel))) (goodIn_sub (fun _ h => List.mem_append_left _ (List.mem_append_left _ (List.mem_append_right _ h))) (by decide +kernel))) (goodIn_sub (fun _ h => List.mem_append_right _ h) (by decide +kernel))
set_option maxRecDepth 20000 in
theorem gL_law_L_refused : GoodIn wsL_law (va_wsS RL 119 yL_refused wsL_refused) := goodIn_app (goodIn_of _ (by decide +kernel)) ggL_law_L_refused
set_option maxRecDepth 20000 in
theorem ggL_law_X7_create : GoodIn wsL_law wsX7_create := goodIn_ca (goodIn_ca (goodIn_ca (goodIn_r _ [211, 134, 135, 95, 96, 23, 32, 31, 212, 213, 214, 2, 215, 140, 141, 216, 75, 76, 77, 56, 78, 63, 217, 218, 219, 220, 15, 221, 222, 223, 14, 224, 41, 225, 226, 227, 22, 228, 53, 74, 186, 187, 188, 154, 155, 156, 229, 230, 231, 232, 233, 234, 235, 236, 237, 62, 238, 239, 240, 241, 242, 243, 244, 245, 246, 64, 247, 248, 249, 250, 251, 252, 66, 67, 68, 69, 59, 60, 61, 253, 71, 72, 73, 52, 54, 254, 255, 256, 30, 257, 90, 258, 89, 86, 87, 88, 259, 260, 261, 262, 263, 630, 631, 632, 633, 634, 635, 654, 655, 656, 657, 658, 659, 660, 661, 645, 646, 647, 648, 649, 650, 651, 652, 653, 636, 637, 638, 639, 640, 662, 663, 664, 665, 666] (by decide +kernel) (by decide +kernel)) (goodIn_sub (fun _ h => List.mem_append_left _ (List.mem_append_right _ h)) (by decide +kernel))) (goodIn_sub (fun _ h => List.mem_append_left _ (List.mem_append_left _ (List.mem_append_right _ h))) (by decide +kernel))) (goodIn_sub (fun _ h => List.mem_append_right _ h) (by decide +kernel))
set_option maxRecDepth 20000 in
theorem gL_law_X7_create : GoodIn wsL_law (wsV RL 43 RX7 yX7_create wsX7_create) := goodIn_app (goodIn_of _ (by decide +kernel)) ggL_law_X7_create
set_option maxRecDepth 20000 in
theorem ggL_law_L_writes : GoodIn wsL_law wsL_writes := goodIn_ca (goodIn_r _ [475, 476, 477, 478, 479, 480, 2, 481, 31, 482, 483, 484, 30, 485, 90, 456, 457, 458, 459, 460, 461, 462, 463, 140, 141, 464, 465, 466, 467, 468, 469, 470, 471, 86, 472, 486, 487, 488, 489, 490, 491, 492, 493, 87, 494, 495, 496, 497, 498, 499, 500, 501, 88, 502, 503, 504, 505, 506, 507, 508, 509, 89, 630, 631, 632, 633, 634, 635, 662, 663, 664, 665, 666] (by decide +kernel) (by decide +kernel)) (goodIn_sub (fun _ h => List.mem_append_right _ h) (by decide +kernel))
set_option maxRecDepth 20000 in
theorem gL_law_L_writes : GoodIn wsL_law (va_wsS RL 163 yL_writes wsL_writes) := goodIn_app (goodIn_of _ (by decide +kernel)) ggL_law_L_writes
set_option maxRecDepth 20000 in
theorem ggL_law_X7_renew : GoodIn wsL_law wsX7_renew := goodIn_ca (goodIn_ca (goodIn_ca (goodIn_r _ [267, 23, 32, 31, 212, 213, 214, 2, 215, 140, 141, 216, 75, 76, 77, 56, 78, 63, 154, 155, 156, 134, 135, 268, 269, 270, 271, 95, 96, 229, 230, 231, 232, 233, 234, 235, 236, 237, 62, 238, 239, 240, 241, 272, 273, 274, 275, 276, 59, 61, 60, 277, 278, 279, 280, 281, 282, 283, 284, 285, 286, 287, 288, 254, 255, 256, 30, 257, 90, 258, 89, 86, 87, 88, 259, 260, 261, 262, 263, 630, 631, 632, 633, 634, 635, 654, 655, 656, 657, 658, 659, 660, 661, 645, 646, 647, 648, 649, 650, 651, 652, 653, 662, 663, 664, 665, 666] (by decide +kernel) (by decide +kernel)) (goodIn_sub (fun _ h => List.mem_append_right _ h) (by decide +kernel))) (goodIn_sub (fun _ h => List.mem_append_left _ (List.mem_append_right _ h)) (by decide +kernel))) (goodIn_sub (fun _ h => List.mem_append_left _ (List.mem_append_left _ (List.mem_append_right _ h))) (by decide +kernel))
set_option maxRecDepth 20000 in
theorem gL_law_X7_renew : GoodIn wsL_law (wsV RL 49 RX7 yX7_renew wsX7_renew) := goodIn_app (goodIn_of _ (by decide +kernel)) ggL_law_X7_renew
set_option maxRecDepth 20000 in
theorem ggL_law_X7_revokeAlone : GoodIn wsL_law wsX7_revokeAlone := goodIn_ca (goodIn_ca (goodIn_r _ [335, 23, 212, 213, 214, 2, 215, 140, 141, 216, 75, 76, 77, 56, 78, 63, 268, 269, 270, 271, 95, 96, 229, 230, 231, 232, 233, 234, 235, 236, 237, 62, 238, 239, 240, 241, 336, 337, 338, 22, 339, 52, 314, 315, 316, 317, 318, 319, 293, 294, 295, 296, 31, 32, 297, 298, 299, 300, 301, 64, 302, 303, 304, 305, 306, 307, 308, 309, 27, 310, 311, 312, 313, 320, 321, 322, 323, 26, 324, 81, 325, 326, 327, 328, 329, 330, 331, 254, 255, 256, 30, 257, 90, 258, 89, 86, 87, 88, 259, 260, 261, 262, 263, 630, 631, 632, 633, 634, 635, 654, 655, 656, 657, 658, 659, 660, 661, 645, 646, 647, 648, 649, 650, 651, 652, 653, 662, 663, 664, 665, 666] (by decide +kernel) (by decide +kernel)) (goodIn_sub (fun _ h => List.mem_append_right _ h) (by decide +kernel))) (goodIn_sub (fun _ h => List.mem_append_left _ (List.mem_append_left _ (List.mem_append_right _ h))) (by decide +kernel))
set_option maxRecDepth 20000 in
theorem gL_law_X7_revokeAlone : GoodIn wsL_law (wsV RL 56 RX7 yX7_revokeAlone wsX7_revokeAlone) := goodIn_app (goodIn_of _ (by decide +kernel)) ggL_law_X7_revokeAlone
set_option maxRecDepth 20000 in
theorem ggL_law_X7_revoke : GoodIn wsL_law wsX7_revoke := goodIn_ca (goodIn_ca (goodIn_r _ [292, 212, 213, 214, 2, 215, 140, 141, 23, 216, 75, 76, 77, 56, 78, 63, 268, 269, 270, 271, 95, 96, 229, 230, 231, 232, 233, 234, 235, 236, 237, 62, 238, 239, 240, 241, 293, 294, 295, 296, 31, 32, 297, 298, 299, 300, 301, 64, 302, 303, 304, 305, 306, 307, 308, 309, 27, 310, 311, 312, 22, 313, 52, 314, 315, 316, 317, 318, 319, 320, 321, 322, 323, 26, 324, 81, 325, 326, 327, 328, 329, 330, 331, 254, 255, 256, 30, 257, 90, 258, 89, 86, 87, 88, 259, 260, 261, 262, 263, 630, 631, 632, 633, 634, 635, 654, 655, 656, 657, 658, 659, 660, 661, 645, 646, 647, 648, 649, 650, 651, 652, 653, 662, 663, 664, 665, 666] (by decide +kernel) (by decide +kernel)) (goodIn_sub (fun _ h => List.mem_append_right _ h) (by decide +kernel))) (goodIn_sub (fun _ h => List.mem_append_left _ (List.mem_append_left _ (List.mem_append_right _ h))) (by decide +kernel))
set_option maxRecDepth 20000 in
theorem gL_law_X7_revoke : GoodIn wsL_law (wsV RL 53 RX7 yX7_revoke wsX7_revoke) := goodIn_app (goodIn_of _ (by decide +kernel)) ggL_law_X7_revoke
set_option maxRecDepth 20000 in
theorem ggL_law_L_why : GoodIn wsL_law wsL_why := goodIn_r _ [512, 115, 116, 107, 117, 513, 514, 515, 516, 517, 518, 519, 520, 521, 522, 523, 524, 525, 526, 527, 528, 529, 530] (by decide +kernel) (by decide +kernel)
set_option maxRecDepth 20000 in
theorem gL_law_L_why : GoodIn wsL_law (va_wsS RL 167 yL_why wsL_why) := goodIn_app (goodIn_of _ (by decide +kernel)) ggL_law_L_why
set_option maxRecDepth 20000 in
theorem ggL_law_X7_whyDenied : GoodIn wsL_law wsX7_whyDenied := goodIn_ca (goodIn_ca (goodIn_r _ [534, 212, 213, 214, 2, 215, 140, 141, 23, 216, 75, 76, 77, 56, 78, 63, 180, 181, 182, 134, 135, 183, 184, 148, 185, 150, 151, 152, 153, 382, 383, 384, 385, 19, 233, 234, 235, 236, 237, 62, 238, 239, 240, 241, 386, 387, 388, 22, 389, 54, 74, 390, 391, 392, 18, 393, 48, 45, 394, 395, 396, 397, 398, 399, 400, 401, 402, 403, 404, 405, 406, 15, 225, 226, 227, 228, 53, 407, 408, 409, 14, 410, 41, 411, 412, 413, 414, 37, 39, 40, 161, 162, 163, 164, 36, 165, 143, 144, 145, 415, 416, 417, 418, 419, 420, 421, 422, 630, 631, 632, 633, 634, 635, 654, 655, 656, 657, 658, 659, 660, 661, 645, 646, 647, 648, 649, 650, 651, 652, 653, 641, 642, 643, 644, 636, 637, 638, 639, 640] (by decide +kernel) (by decide +kernel)) (goodIn_sub (fun _ h => List.mem_append_right _ h) (by decide +kernel))) (goodIn_sub (fun _ h => List.mem_append_left _ (List.mem_append_right _ h)) (by decide +kernel))
set_option maxRecDepth 20000 in
theorem gL_law_X7_whyDenied : GoodIn wsL_law (wsV RL 171 RX7 yX7_whyDenied wsX7_whyDenied) := goodIn_app (goodIn_of _ (by decide +kernel)) ggL_law_X7_whyDenied
set_option maxRecDepth 20000 in
theorem ggL_law_X7_capabilities : GoodIn wsL_law wsX7_capabilities := goodIn_ca (goodIn_ca (goodIn_r _ [538, 212, 213, 214, 2, 215, 140, 141, 23, 216, 75, 76, 77, 56, 78, 63, 180, 181, 182, 134, 135, 183, 184, 148, 185, 150, 151, 152, 153, 403, 404, 405, 406, 15, 225, 226, 227, 22, 228, 53, 74, 407, 408, 409, 14, 410, 41, 411, 412, 413, 414, 37, 39, 40, 161, 162, 163, 164, 36, 165, 143, 144, 145, 415, 416, 417, 397, 398, 399, 400, 401, 402, 418, 419, 420, 421, 422, 630, 631, 632, 633, 634, 635, 654, 655, 656, 657, 658, 659, 660, 661, 645, 646, 647, 648, 649, 650, 651, 652, 653, 636, 637, 638, 639, 640] (by decide +kernel) (by decide +kernel)) (goodIn_sub (fun _ h => List.mem_append_right _ h) (by decide +kernel))) (goodIn_sub (fun _ h => List.mem_append_left _ (List.mem_append_right _ h)) (by decide +kernel))
set_option maxRecDepth 20000 in
theorem gL_law_X7_capabilities : GoodIn wsL_law (wsV RL 174 RX7 yX7_capabilities wsX7_capabilities) := goodIn_app (goodIn_of _ (by decide +kernel)) ggL_law_X7_capabilities
set_option maxRecDepth 20000 in
theorem ggL_law_L_can : GoodIn wsL_law wsL_can := goodIn_r _ [527, 528, 529, 107, 530, 519, 520, 521, 522, 523, 524] (by decide +kernel) (by decide +kernel)
set_option maxRecDepth 20000 in
theorem gL_law_L_can : GoodIn wsL_law (va_wsS RL 39 yL_can wsL_can) := goodIn_app (goodIn_of _ (by decide +kernel)) ggL_law_L_can
set_option maxRecDepth 20000 in
theorem ggL_law_L_mountFor : GoodIn wsL_law wsL_mountFor := goodIn_r _ [515, 516, 517, 107, 518, 519, 520, 521, 522, 523, 524] (by decide +kernel) (by decide +kernel)
set_option maxRecDepth 20000 in
theorem gL_law_L_mountFor : GoodIn wsL_law (va_wsS RL 35 yL_mountFor wsL_mountFor) := goodIn_app (goodIn_of _ (by decide +kernel)) ggL_law_L_mountFor
set_option maxRecDepth 20000 in
theorem ggL_law_X7_request : GoodIn wsL_law wsX7_request := goodIn_ca (goodIn_ca (goodIn_ca (goodIn_r _ [381, 95, 96, 27, 23, 31, 32, 212, 213, 214, 2, 215, 140, 141, 216, 75, 76, 77, 56, 78, 63, 180, 181, 182, 134, 135, 183, 184, 148, 185, 150, 151, 152, 153, 382, 383, 384, 385, 19, 233, 234, 235, 236, 237, 62, 238, 239, 240, 241, 386, 387, 388, 22, 389, 54, 74, 390, 391, 392, 18, 393, 48, 45, 394, 395, 396, 397, 398, 399, 400, 401, 402, 403, 404, 405, 406, 15, 225, 226, 227, 228, 53, 407, 408, 409, 14, 410, 41, 411, 412, 413, 414, 37, 39, 40, 161, 162, 163, 164, 36, 165, 143, 144, 145, 415, 416, 417, 418, 419, 420, 421, 422, 423, 424, 425, 245, 246, 64, 426, 427, 428, 250, 251, 429, 430, 431, 432, 319, 254, 255, 256, 30, 257, 90, 258, 89, 86, 87, 88, 259, 260, 261, 262, 263, 433, 434, 435, 436, 437, 438, 439, 440, 46, 441, 442, 443, 444, 445, 446, 447, 448, 47, 449, 450, 451, 68, 69, 59, 60, 61, 452, 453, 454, 26, 455, 81, 82, 364, 349, 350, 630, 631, 632, 633, 634, 635, 654, 655, 656, 657, 658, 659, 660, 661, 645, 646, 647, 648, 649, 650, 651, 652, 653, 641, 642, 643, 644, 636, 637, 638, 639, 640, 662, 663, 664, 665, 666] (by decide +kernel) (by decide +kernel)) (goodIn_sub (fun _ h => List.mem_append_left _ (List.mem_append_left _ (List.mem_append_right _ h))) (by decide +kernel))) (goodIn_sub (fun _ h => List.mem_append_right _ h) (by decide +kernel))) (goodIn_sub (fun _ h => List.mem_append_left _ (List.mem_append_right _ h)) (by decide +kernel))
set_option maxRecDepth 20000 in
theorem gL_law_X7_request : GoodIn wsL_law (wsV RL 68 RX7 yX7_request wsX7_request) := goodIn_app (goodIn_of _ (by decide +kernel)) ggL_law_X7_request
set_option maxRecDepth 20000 in
theorem ggL_law_L_works : GoodIn wsL_law wsL_works := goodIn_r _ [126, 115, 116, 107, 117] (by decide +kernel) (by decide +kernel)
set_option maxRecDepth 20000 in
theorem gL_law_L_works : GoodIn wsL_law (va_wsS RL 27 yL_works wsL_works) := goodIn_app (goodIn_of _ (by decide +kernel)) ggL_law_L_works
set_option maxRecDepth 20000 in
theorem ggL_law_X7_renewCredential : GoodIn wsL_law wsX7_renewCredential := goodIn_ca (goodIn_ca (goodIn_ca (goodIn_r _ [343, 95, 96, 27, 32, 31, 344, 345, 346, 2, 347, 140, 141, 348, 349, 350, 77, 56, 78, 63, 154, 155, 156, 134, 135, 351, 352, 353, 236, 237, 62, 238, 239, 240, 241, 354, 355, 356, 275, 276, 59, 61, 60, 277, 278, 279, 280, 281, 282, 283, 357, 358, 359, 287, 288, 360, 361, 362, 26, 363, 81, 364, 254, 255, 256, 30, 257, 90, 258, 89, 86, 87, 88, 259, 260, 261, 262, 263, 630, 631, 632, 633, 634, 635, 654, 655, 656, 657, 658, 659, 660, 661, 645, 646, 647, 648, 649, 650, 651, 652, 653, 662, 663, 664, 665, 666] (by decide +kernel) (by decide +kernel)) (goodIn_sub (fun _ h => List.mem_append_left _ (List.mem_append_left _ (List.mem_append_right _ h))) (by decide +kernel))) (goodIn_sub (fun _ h => List.mem_append_right _ h) (by decide +kernel))) (goodIn_sub (fun _ h => List.mem_append_left _ (List.mem_append_right _ h)) (by decide +kernel))
set_option maxRecDepth 20000 in
theorem gL_law_X7_renewCredential : GoodIn wsL_law (wsV RL 59 RX7 yX7_renewCredential wsX7_renewCredential) := goodIn_app (goodIn_of _ (by decide +kernel)) ggL_law_X7_renewCredential
set_option maxRecDepth 20000 in
theorem ggL_law_L_isBelow : GoodIn wsL_law wsL_isBelow := goodIn_r _ [518, 519, 520, 107, 521, 522, 523, 524] (by decide +kernel) (by decide +kernel)
set_option maxRecDepth 20000 in
theorem gL_law_L_isBelow : GoodIn wsL_law (va_wsS RL 31 yL_isBelow wsL_isBelow) := goodIn_app (goodIn_of _ (by decide +kernel)) ggL_law_L_isBelow
set_option maxRecDepth 20000 in
theorem ggL_law_X7_revokeBelow : GoodIn wsL_law wsX7_revokeBelow := goodIn_ca (goodIn_r _ [542, 27, 31, 32, 180, 181, 2, 182, 134, 135, 183, 184, 148, 185, 150, 151, 152, 153, 543, 544, 545, 26, 546, 82, 325, 326, 327, 317, 56, 318, 63, 547, 395, 396, 397, 398, 399, 400, 401, 402, 329, 330, 331, 300, 301, 62, 64, 302, 303, 304, 236, 237, 238, 239, 240, 77, 78, 241, 305, 254, 255, 256, 30, 257, 90, 258, 89, 86, 87, 88, 259, 260, 261, 262, 263, 630, 631, 632, 633, 634, 635, 654, 655, 656, 657, 658, 659, 660, 661, 645, 646, 647, 648, 649, 650, 651, 652, 653, 662, 663, 664, 665, 666] (by decide +kernel) (by decide +kernel)) (goodIn_sub (fun _ h => List.mem_append_left _ (List.mem_append_right _ h)) (by decide +kernel))
set_option maxRecDepth 20000 in
theorem gL_law_X7_revokeBelow : GoodIn wsL_law (wsV RL 177 RX7 yX7_revokeBelow wsX7_revokeBelow) := goodIn_app (goodIn_of _ (by decide +kernel)) ggL_law_X7_revokeBelow
set_option maxRecDepth 20000 in
theorem ggL_law_X7_pass : GoodIn wsL_law wsX7_pass := goodIn_ca (goodIn_r _ [551, 32, 23, 27, 31, 154, 155, 2, 156, 134, 135, 552, 553, 554, 555, 56, 556, 63, 60, 557, 558, 559, 300, 301, 62, 64, 302, 303, 304, 236, 237, 238, 239, 240, 77, 78, 241, 305, 560, 561, 562, 563, 306, 307, 308, 309, 310, 311, 312, 22, 313, 52, 314, 315, 316, 317, 318, 319, 234, 235, 320, 298, 299, 321, 322, 323, 26, 324, 81, 325, 326, 327, 328, 329, 330, 331, 254, 255, 256, 30, 257, 90, 258, 89, 86, 87, 88, 259, 260, 261, 262, 263, 630, 631, 632, 633, 634, 635, 654, 655, 656, 657, 658, 659, 660, 661, 645, 646, 647, 648, 649, 650, 651, 652, 653, 662, 663, 664, 665, 666] (by decide +kernel) (by decide +kernel)) (goodIn_sub (fun _ h => List.mem_append_left _ (List.mem_append_right _ h)) (by decide +kernel))
set_option maxRecDepth 20000 in
theorem gL_law_X7_pass : GoodIn wsL_law (wsV RL 180 RX7 yX7_pass wsX7_pass) := goodIn_app (goodIn_of _ (by decide +kernel)) ggL_law_X7_pass
set_option maxRecDepth 20000 in
theorem goodIn_cons9 {big a : List Cond} {c : Cond} (h1 : GoodIn big [c]) (h2 : GoodIn big a) : GoodIn big (c :: a) := fun w h => (List.mem_cons.mp h).elim (fun e => h1 w (by rw [e]; exact List.mem_cons_self)) (h2 w)
theorem pLS_1 : GoodIn wsL_law wsL_same_r1 := goodIn_r _ [115, 116, 107, 117, 567, 568, 569, 2, 570, 23, 212, 213, 214, 215, 140, 141, 216, 75, 76, 77, 56, 78, 63, 233] (by decide +kernel) (by decide +kernel)
theorem pLS_2 : GoodIn wsL_law wsL_same_r2 := goodIn_r _ [234, 235, 236, 237, 62, 238, 239, 240, 241, 571, 572, 573, 574, 575, 576, 577, 22, 578, 52, 74, 579, 580, 581, 582] (by decide +kernel) (by decide +kernel)
theorem pLS_3 : GoodIn wsL_law wsL_same_r3 := goodIn_r _ [284, 285, 286, 287, 288, 60, 583, 584, 585, 586, 386, 387, 388, 389, 54, 124, 125, 126, 587, 588, 589, 590, 27, 344] (by decide +kernel) (by decide +kernel)
theorem pLS_4 : GoodIn wsL_law wsL_same_r4 := goodIn_r _ [345, 346, 347, 348, 349, 350, 351, 352, 353, 374, 375, 376, 377, 357, 358, 359, 111, 112, 113, 114, 591, 592, 593, 594] (by decide +kernel) (by decide +kernel)
theorem pLS_5 : GoodIn wsL_law wsL_same_r5 := goodIn_r _ [595, 596, 597, 598, 314, 315, 316, 317, 318, 319, 599, 600, 601, 602, 603, 365, 366, 367, 368, 369, 370, 371, 26, 372] (by decide +kernel) (by decide +kernel)
theorem pLS_6 : GoodIn wsL_law wsL_same_r6 := goodIn_r _ [81, 325, 326, 327, 373, 202, 203, 204, 205, 206, 207, 208, 209, 210, 211, 134, 135, 95, 96, 32, 31, 217, 218, 219] (by decide +kernel) (by decide +kernel)
theorem pLS_7 : GoodIn wsL_law wsL_same_r7 := goodIn_r _ [220, 15, 221, 222, 223, 14, 224, 41, 225, 226, 227, 228, 53, 186, 187, 188, 154, 155, 156, 229, 230, 231, 232, 242] (by decide +kernel) (by decide +kernel)
theorem pLS_8 : GoodIn wsL_law wsL_same_r8 := goodIn_r _ [243, 244, 245, 246, 64, 247, 248, 249, 250, 251, 252, 66, 67, 68, 69, 59, 61, 253, 71, 72, 73, 254, 255, 256] (by decide +kernel) (by decide +kernel)
theorem pLS_9 : GoodIn wsL_law wsL_same_r9 := goodIn_r _ [30, 257, 90, 258, 89, 86, 87, 88, 259, 260, 261, 262, 263, 264, 265, 266, 267, 268, 269, 270, 271, 272, 273, 274] (by decide +kernel) (by decide +kernel)
theorem pLS_10 : GoodIn wsL_law wsL_same_r10 := goodIn_r _ [275, 276, 277, 278, 279, 280, 281, 282, 283, 289, 290, 291, 292, 293, 294, 295, 296, 297, 298, 299, 300, 301, 302, 303] (by decide +kernel) (by decide +kernel)
theorem pLS_11 : GoodIn wsL_law wsL_same_r11 := goodIn_r _ [304, 305, 306, 307, 308, 309, 310, 311, 312, 313, 320, 321, 322, 323, 324, 328, 329, 330, 331, 332, 333, 334, 335, 336] (by decide +kernel) (by decide +kernel)
theorem pLS_12 : GoodIn wsL_law wsL_same_r12 := goodIn_r _ [337, 338, 339, 340, 341, 342, 343, 354, 355, 356, 360, 361, 362, 363, 364, 378, 379, 380, 381, 180, 181, 182, 183, 184] (by decide +kernel) (by decide +kernel)
theorem pLS_13 : GoodIn wsL_law wsL_same_r13 := goodIn_r _ [148, 185, 150, 151, 152, 153, 382, 383, 384, 385, 19, 390, 391, 392, 18, 393, 48, 45, 394, 395, 396, 397, 398, 399] (by decide +kernel) (by decide +kernel)
theorem pLS_14 : GoodIn wsL_law wsL_same_r14 := goodIn_r _ [400, 401, 402, 403, 404, 405, 406, 407, 408, 409, 410, 411, 412, 413, 414, 37, 39, 40, 161, 162, 163, 164, 36, 165] (by decide +kernel) (by decide +kernel)
theorem pLS_15 : GoodIn wsL_law wsL_same_r15 := goodIn_r _ [143, 144, 145, 415, 416, 417, 418, 419, 420, 421, 422, 423, 424, 425, 426, 427, 428, 429, 430, 431, 432, 433, 434, 435] (by decide +kernel) (by decide +kernel)
theorem pLS_16 : GoodIn wsL_law wsL_same_r16 := goodIn_r _ [436, 437, 438, 439, 440, 46, 441, 442, 443, 444, 445, 446, 447, 448, 47, 449, 450, 451, 452, 453, 454, 455, 82, 456] (by decide +kernel) (by decide +kernel)
theorem pLS_17 : GoodIn wsL_law wsL_same_r17 := goodIn_r _ [457, 458, 459, 460, 461, 462, 463, 464, 465, 466, 467, 468, 469, 470, 471, 472, 604, 605, 606, 607, 118, 119, 120, 608] (by decide +kernel) (by decide +kernel)
theorem pLS_18 : GoodIn wsL_law wsL_same_r18 := goodIn_r _ [609, 610, 611, 121, 122, 123, 612, 613, 614, 615, 616, 617, 618, 619, 620, 621, 622, 623, 624, 625, 626, 627, 628, 629] (by decide +kernel) (by decide +kernel)
theorem pLS_19 : GoodIn wsL_law wsL_same_r19 := goodIn_r _ [478, 479, 480, 481, 482, 483, 484, 485] (by decide +kernel) (by decide +kernel)
theorem pLS_0 : GoodIn wsL_law [.code yL_same cL_same 11 (some .boolean)] := goodIn_r _ [566] (by decide +kernel) (by decide +kernel)
theorem pLS_wsX70 : GoodIn wsL_law wsX70 := goodIn_r _ [630, 631, 632, 633, 634, 635] (by decide +kernel) (by decide +kernel)
theorem pLS_wsX10 : GoodIn wsL_law wsX10 := goodIn_r _ [654, 655, 656, 657, 658, 659, 660, 661] (by decide +kernel) (by decide +kernel)
theorem pLS_wsX60 : GoodIn wsL_law wsX60 := goodIn_r _ [645, 646, 647, 648, 649, 650, 651, 652, 653] (by decide +kernel) (by decide +kernel)
theorem pLS_wsX50 : GoodIn wsL_law wsX50 := goodIn_r _ [636, 637, 638, 639, 640] (by decide +kernel) (by decide +kernel)
theorem pLS_wsX00 : GoodIn wsL_law wsX00 := goodIn_r _ [662, 663, 664, 665, 666] (by decide +kernel) (by decide +kernel)
theorem pLS_wsX30 : GoodIn wsL_law wsX30 := goodIn_r _ [641, 642, 643, 644] (by decide +kernel) (by decide +kernel)
theorem ggL_law_L_same : GoodIn wsL_law wsL_same := goodIn_ca (goodIn_ca (goodIn_ca (goodIn_cons9 pLS_0 (goodIn_app (goodIn_app (goodIn_app (goodIn_app (goodIn_app (goodIn_app (goodIn_app pLS_1 (goodIn_app pLS_2 (goodIn_app pLS_3 (goodIn_app pLS_4 (goodIn_app pLS_5 (goodIn_app pLS_6 (goodIn_app pLS_7 (goodIn_app pLS_8 (goodIn_app pLS_9 (goodIn_app pLS_10 (goodIn_app pLS_11 (goodIn_app pLS_12 (goodIn_app pLS_13 (goodIn_app pLS_14 (goodIn_app pLS_15 (goodIn_app pLS_16 (goodIn_app pLS_17 (goodIn_app pLS_18 pLS_19)))))))))))))))))) pLS_wsX70) pLS_wsX10) pLS_wsX60) pLS_wsX50) pLS_wsX00) pLS_wsX30)) (goodIn_sub (fun _ h => List.mem_append_right _ h) (by decide +kernel))) (goodIn_sub (fun _ h => List.mem_append_left _ (List.mem_append_right _ h)) (by decide +kernel))) (goodIn_sub (fun _ h => List.mem_append_left _ (List.mem_append_left _ (List.mem_append_right _ h))) (by decide +kernel))
set_option maxRecDepth 20000 in
theorem gL_law_L_same : GoodIn wsL_law (va_wsS RL 183 yL_same wsL_same) := goodIn_app (goodIn_of _ (by decide +kernel)) ggL_law_L_same
theorem dL_law_0 : decode cL_law 0 = .ok (.new 44, 3) := by decide +kernel
theorem dL_law_3 : decode cL_law 3 = .ok (.dup, 1) := by decide +kernel
theorem dL_law_4 : decode cL_law 4 = .ok (.invokespecial 143, 3) := by decide +kernel
theorem dL_law_7 : decode cL_law 7 = .ok (.astore_n 1, 1) := by decide +kernel
theorem dL_law_8 : decode cL_law 8 = .ok (.bipush 6, 2) := by decide +kernel
theorem dL_law_10 : decode cL_law 10 = .ok (.newarray .int, 2) := by decide +kernel
theorem dL_law_12 : decode cL_law 12 = .ok (.astore_n 2, 1) := by decide +kernel
theorem dL_law_13 : decode cL_law 13 = .ok (.bipush 60, 2) := by decide +kernel
theorem dL_law_15 : decode cL_law 15 = .ok (.newarray .int, 2) := by decide +kernel
theorem dL_law_17 : decode cL_law 17 = .ok (.astore_n 3, 1) := by decide +kernel
theorem dL_law_18 : decode cL_law 18 = .ok (.bipush 60, 2) := by decide +kernel
theorem dL_law_20 : decode cL_law 20 = .ok (.newarray .int, 2) := by decide +kernel
theorem dL_law_22 : decode cL_law 22 = .ok (.astore 4, 2) := by decide +kernel
theorem dL_law_24 : decode cL_law 24 = .ok (.bipush 18, 2) := by decide +kernel
theorem dL_law_26 : decode cL_law 26 = .ok (.newarray .int, 2) := by decide +kernel
theorem dL_law_28 : decode cL_law 28 = .ok (.astore 5, 2) := by decide +kernel
theorem dL_law_30 : decode cL_law 30 = .ok (.bipush 18, 2) := by decide +kernel
theorem dL_law_32 : decode cL_law 32 = .ok (.newarray .int, 2) := by decide +kernel
theorem dL_law_34 : decode cL_law 34 = .ok (.astore 6, 2) := by decide +kernel
theorem dL_law_36 : decode cL_law 36 = .ok (.iconst 3, 1) := by decide +kernel
theorem dL_law_37 : decode cL_law 37 = .ok (.newarray .int, 2) := by decide +kernel
theorem dL_law_39 : decode cL_law 39 = .ok (.astore 7, 2) := by decide +kernel
theorem dL_law_41 : decode cL_law 41 = .ok (.bipush 12, 2) := by decide +kernel
theorem dL_law_43 : decode cL_law 43 = .ok (.newarray .int, 2) := by decide +kernel
theorem dL_law_45 : decode cL_law 45 = .ok (.astore 8, 2) := by decide +kernel
theorem dL_law_47 : decode cL_law 47 = .ok (.iconst 1, 1) := by decide +kernel
theorem dL_law_48 : decode cL_law 48 = .ok (.newarray .long, 2) := by decide +kernel
theorem dL_law_50 : decode cL_law 50 = .ok (.astore 9, 2) := by decide +kernel
theorem dL_law_52 : decode cL_law 52 = .ok (.aload 9, 2) := by decide +kernel
theorem dL_law_54 : decode cL_law 54 = .ok (.iconst 0, 1) := by decide +kernel
theorem dL_law_55 : decode cL_law 55 = .ok (.ldc2_w 144, 3) := by decide +kernel
theorem dL_law_58 : decode cL_law 58 = .ok (.lastore, 1) := by decide +kernel
theorem dL_law_59 : decode cL_law 59 = .ok (.aload_n 2, 1) := by decide +kernel
theorem dL_law_60 : decode cL_law 60 = .ok (.iconst 3, 1) := by decide +kernel
theorem dL_law_61 : decode cL_law 61 = .ok (.iconst 1, 1) := by decide +kernel
theorem dL_law_62 : decode cL_law 62 = .ok (.iastore, 1) := by decide +kernel
theorem dL_law_63 : decode cL_law 63 = .ok (.aload_n 3, 1) := by decide +kernel
theorem dL_law_64 : decode cL_law 64 = .ok (.iconst 0, 1) := by decide +kernel
theorem dL_law_65 : decode cL_law 65 = .ok (.iconst (-1), 1) := by decide +kernel
theorem dL_law_66 : decode cL_law 66 = .ok (.iastore, 1) := by decide +kernel
theorem dL_law_67 : decode cL_law 67 = .ok (.aload_n 3, 1) := by decide +kernel
theorem dL_law_68 : decode cL_law 68 = .ok (.iconst 4, 1) := by decide +kernel
theorem dL_law_69 : decode cL_law 69 = .ok (.iconst (-1), 1) := by decide +kernel
theorem dL_law_70 : decode cL_law 70 = .ok (.iastore, 1) := by decide +kernel
theorem dL_law_71 : decode cL_law 71 = .ok (.iconst 0, 1) := by decide +kernel
theorem dL_law_72 : decode cL_law 72 = .ok (.istore 10, 2) := by decide +kernel
theorem dL_law_74 : decode cL_law 74 = .ok (.iload 10, 2) := by decide +kernel
theorem dL_law_76 : decode cL_law 76 = .ok (.iconst 3, 1) := by decide +kernel
theorem dL_law_77 : decode cL_law 77 = .ok (.if_icmp .ge 20, 3) := by decide +kernel
theorem dL_law_80 : decode cL_law 80 = .ok (.aload_n 1, 1) := by decide +kernel
theorem dL_law_81 : decode cL_law 81 = .ok (.invokevirtual 146, 3) := by decide +kernel
theorem dL_law_84 : decode cL_law 84 = .ok (.iload 10, 2) := by decide +kernel
theorem dL_law_86 : decode cL_law 86 = .ok (.if_icmp .eq 5, 3) := by decide +kernel
theorem dL_law_89 : decode cL_law 89 = .ok (.iconst 0, 1) := by decide +kernel
theorem dL_law_90 : decode cL_law 90 = .ok (.ireturn, 1) := by decide +kernel
theorem dL_law_91 : decode cL_law 91 = .ok (.iinc 10 1, 3) := by decide +kernel
theorem dL_law_94 : decode cL_law 94 = .ok (.goto (-20), 3) := by decide +kernel
theorem dL_law_97 : decode cL_law 97 = .ok (.iconst 0, 1) := by decide +kernel
theorem dL_law_98 : decode cL_law 98 = .ok (.istore 10, 2) := by decide +kernel
theorem dL_law_100 : decode cL_law 100 = .ok (.iload 10, 2) := by decide +kernel
theorem dL_law_102 : decode cL_law 102 = .ok (.bipush 56, 2) := by decide +kernel
theorem dL_law_104 : decode cL_law 104 = .ok (.if_icmp .ge 1849, 3) := by decide +kernel
theorem dL_law_107 : decode cL_law 107 = .ok (.aload_n 0, 1) := by decide +kernel
theorem dL_law_108 : decode cL_law 108 = .ok (.iconst 2, 1) := by decide +kernel
theorem dL_law_109 : decode cL_law 109 = .ok (.iload 10, 2) := by decide +kernel
theorem dL_law_111 : decode cL_law 111 = .ok (.imul, 1) := by decide +kernel
theorem dL_law_112 : decode cL_law 112 = .ok (.invokestatic 149, 3) := by decide +kernel
theorem dL_law_115 : decode cL_law 115 = .ok (.istore 11, 2) := by decide +kernel
theorem dL_law_117 : decode cL_law 117 = .ok (.aload_n 0, 1) := by decide +kernel
theorem dL_law_118 : decode cL_law 118 = .ok (.iconst 2, 1) := by decide +kernel
theorem dL_law_119 : decode cL_law 119 = .ok (.iload 10, 2) := by decide +kernel
theorem dL_law_121 : decode cL_law 121 = .ok (.imul, 1) := by decide +kernel
theorem dL_law_122 : decode cL_law 122 = .ok (.iconst 1, 1) := by decide +kernel
theorem dL_law_123 : decode cL_law 123 = .ok (.iadd, 1) := by decide +kernel
theorem dL_law_124 : decode cL_law 124 = .ok (.invokestatic 149, 3) := by decide +kernel
theorem dL_law_127 : decode cL_law 127 = .ok (.istore 12, 2) := by decide +kernel
theorem dL_law_129 : decode cL_law 129 = .ok (.iload 10, 2) := by decide +kernel
theorem dL_law_131 : decode cL_law 131 = .ok (.iconst 2, 1) := by decide +kernel
theorem dL_law_132 : decode cL_law 132 = .ok (.if_icmp .ge 7, 3) := by decide +kernel
theorem dL_law_135 : decode cL_law 135 = .ok (.iconst 0, 1) := by decide +kernel
theorem dL_law_136 : decode cL_law 136 = .ok (.goto 31, 3) := by decide +kernel
theorem dL_law_139 : decode cL_law 139 = .ok (.iload 10, 2) := by decide +kernel
theorem dL_law_141 : decode cL_law 141 = .ok (.iconst 4, 1) := by decide +kernel
theorem dL_law_142 : decode cL_law 142 = .ok (.if_icmp .ge 7, 3) := by decide +kernel
theorem dL_law_145 : decode cL_law 145 = .ok (.iconst 3, 1) := by decide +kernel
theorem dL_law_146 : decode cL_law 146 = .ok (.goto 21, 3) := by decide +kernel
theorem dL_law_149 : decode cL_law 149 = .ok (.iload 10, 2) := by decide +kernel
theorem dL_law_151 : decode cL_law 151 = .ok (.bipush 6, 2) := by decide +kernel
theorem dL_law_153 : decode cL_law 153 = .ok (.if_icmp .ge 7, 3) := by decide +kernel
theorem dL_law_156 : decode cL_law 156 = .ok (.iconst 4, 1) := by decide +kernel
theorem dL_law_157 : decode cL_law 157 = .ok (.goto 10, 3) := by decide +kernel
theorem dL_law_160 : decode cL_law 160 = .ok (.iload 11, 2) := by decide +kernel
theorem dL_law_162 : decode cL_law 162 = .ok (.bipush 20, 2) := by decide +kernel
theorem dL_law_164 : decode cL_law 164 = .ok (.invokestatic 113, 3) := by decide +kernel
theorem dL_law_167 : decode cL_law 167 = .ok (.istore 13, 2) := by decide +kernel
theorem dL_law_169 : decode cL_law 169 = .ok (.iload 12, 2) := by decide +kernel
theorem dL_law_171 : decode cL_law 171 = .ok (.aload_n 2, 1) := by decide +kernel
theorem dL_law_172 : decode cL_law 172 = .ok (.iconst 3, 1) := by decide +kernel
theorem dL_law_173 : decode cL_law 173 = .ok (.iaload, 1) := by decide +kernel
theorem dL_law_174 : decode cL_law 174 = .ok (.invokestatic 113, 3) := by decide +kernel
theorem dL_law_177 : decode cL_law 177 = .ok (.istore 14, 2) := by decide +kernel
theorem dL_law_179 : decode cL_law 179 = .ok (.iload 14, 2) := by decide +kernel
theorem dL_law_181 : decode cL_law 181 = .ok (.aload_n 2, 1) := by decide +kernel
theorem dL_law_182 : decode cL_law 182 = .ok (.aload_n 3, 1) := by decide +kernel
theorem dL_law_183 : decode cL_law 183 = .ok (.invokestatic 23, 3) := by decide +kernel
theorem dL_law_186 : decode cL_law 186 = .ok (.istore 15, 2) := by decide +kernel
theorem dL_law_188 : decode cL_law 188 = .ok (.aload_n 2, 1) := by decide +kernel
theorem dL_law_189 : decode cL_law 189 = .ok (.aload_n 3, 1) := by decide +kernel
theorem dL_law_190 : decode cL_law 190 = .ok (.invokestatic 126, 3) := by decide +kernel
theorem dL_law_193 : decode cL_law 193 = .ok (.aload_n 2, 1) := by decide +kernel
theorem dL_law_194 : decode cL_law 194 = .ok (.aload_n 3, 1) := by decide +kernel
theorem dL_law_195 : decode cL_law 195 = .ok (.aload 4, 2) := by decide +kernel
theorem dL_law_197 : decode cL_law 197 = .ok (.invokestatic 133, 3) := by decide +kernel
theorem dL_law_200 : decode cL_law 200 = .ok (.iadd, 1) := by decide +kernel
theorem dL_law_201 : decode cL_law 201 = .ok (.istore 16, 2) := by decide +kernel
theorem dL_law_203 : decode cL_law 203 = .ok (.iload 13, 2) := by decide +kernel
theorem dL_law_205 : decode cL_law 205 = .ok (.iconst 3, 1) := by decide +kernel
theorem dL_law_206 : decode cL_law 206 = .ok (.if_icmp .ge 246, 3) := by decide +kernel
theorem dL_law_209 : decode cL_law 209 = .ok (.iload 12, 2) := by decide +kernel
theorem dL_law_211 : decode cL_law 211 = .ok (.iconst 3, 1) := by decide +kernel
theorem dL_law_212 : decode cL_law 212 = .ok (.invokestatic 113, 3) := by decide +kernel
theorem dL_law_215 : decode cL_law 215 = .ok (.istore 17, 2) := by decide +kernel
theorem dL_law_217 : decode cL_law 217 = .ok (.iload 11, 2) := by decide +kernel
theorem dL_law_219 : decode cL_law 219 = .ok (.iconst 4, 1) := by decide +kernel
theorem dL_law_220 : decode cL_law 220 = .ok (.ishr, 1) := by decide +kernel
theorem dL_law_221 : decode cL_law 221 = .ok (.iconst 3, 1) := by decide +kernel
theorem dL_law_222 : decode cL_law 222 = .ok (.invokestatic 153, 3) := by decide +kernel
theorem dL_law_225 : decode cL_law 225 = .ok (.istore 18, 2) := by decide +kernel
theorem dL_law_227 : decode cL_law 227 = .ok (.iload 12, 2) := by decide +kernel
theorem dL_law_229 : decode cL_law 229 = .ok (.iconst 2, 1) := by decide +kernel
theorem dL_law_230 : decode cL_law 230 = .ok (.ishr, 1) := by decide +kernel
theorem dL_law_231 : decode cL_law 231 = .ok (.iconst 3, 1) := by decide +kernel
theorem dL_law_232 : decode cL_law 232 = .ok (.invokestatic 113, 3) := by decide +kernel
theorem dL_law_235 : decode cL_law 235 = .ok (.ifCond .ne 17, 3) := by decide +kernel
theorem dL_law_238 : decode cL_law 238 = .ok (.iload 18, 2) := by decide +kernel
theorem dL_law_240 : decode cL_law 240 = .ok (.bipush 9, 2) := by decide +kernel
theorem dL_law_242 : decode cL_law 242 = .ok (.iadd, 1) := by decide +kernel
theorem dL_law_243 : decode cL_law 243 = .ok (.iload 18, 2) := by decide +kernel
theorem dL_law_245 : decode cL_law 245 = .ok (.bipush 10, 2) := by decide +kernel
theorem dL_law_247 : decode cL_law 247 = .ok (.irem, 1) := by decide +kernel
theorem dL_law_248 : decode cL_law 248 = .ok (.isub, 1) := by decide +kernel
theorem dL_law_249 : decode cL_law 249 = .ok (.goto 5, 3) := by decide +kernel
theorem dL_law_252 : decode cL_law 252 = .ok (.iload 18, 2) := by decide +kernel
theorem dL_law_254 : decode cL_law 254 = .ok (.istore 18, 2) := by decide +kernel
theorem dL_law_256 : decode cL_law 256 = .ok (.iload 12, 2) := by decide +kernel
theorem dL_law_258 : decode cL_law 258 = .ok (.iconst 4, 1) := by decide +kernel
theorem dL_law_259 : decode cL_law 259 = .ok (.ishr, 1) := by decide +kernel
theorem dL_law_260 : decode cL_law 260 = .ok (.iconst 2, 1) := by decide +kernel
theorem dL_law_261 : decode cL_law 261 = .ok (.invokestatic 113, 3) := by decide +kernel
theorem dL_law_264 : decode cL_law 264 = .ok (.istore 19, 2) := by decide +kernel
theorem dL_law_266 : decode cL_law 266 = .ok (.iload 12, 2) := by decide +kernel
theorem dL_law_268 : decode cL_law 268 = .ok (.bipush 6, 2) := by decide +kernel
theorem dL_law_270 : decode cL_law 270 = .ok (.ishr, 1) := by decide +kernel
