theorem dL_writes_69 : decode cL_writes 69 = .ok (.iload_n 1, 1) := by decide +kernel
theorem dL_writes_70 : decode cL_writes 70 = .ok (.if_icmp .ne 41, 3) := by decide +kernel
theorem dL_writes_73 : decode cL_writes 73 = .ok (.aload_n 0, 1) := by decide +kernel
theorem dL_writes_74 : decode cL_writes 74 = .ok (.iload 6, 2) := by decide +kernel
theorem dL_writes_76 : decode cL_writes 76 = .ok (.invokevirtual 88, 3) := by decide +kernel
theorem dL_writes_79 : decode cL_writes 79 = .ok (.iload_n 2, 1) := by decide +kernel
theorem dL_writes_80 : decode cL_writes 80 = .ok (.if_icmp .ne 31, 3) := by decide +kernel
theorem dL_writes_83 : decode cL_writes 83 = .ok (.aload_n 0, 1) := by decide +kernel
theorem dL_writes_84 : decode cL_writes 84 = .ok (.iload 6, 2) := by decide +kernel
theorem dL_writes_86 : decode cL_writes 86 = .ok (.invokevirtual 91, 3) := by decide +kernel
theorem dL_writes_89 : decode cL_writes 89 = .ok (.iload_n 3, 1) := by decide +kernel
theorem dL_writes_90 : decode cL_writes 90 = .ok (.if_icmp .ne 21, 3) := by decide +kernel
theorem dL_writes_93 : decode cL_writes 93 = .ok (.aload_n 0, 1) := by decide +kernel
theorem dL_writes_94 : decode cL_writes 94 = .ok (.iload 6, 2) := by decide +kernel
theorem dL_writes_96 : decode cL_writes 96 = .ok (.invokevirtual 94, 3) := by decide +kernel
theorem dL_writes_99 : decode cL_writes 99 = .ok (.aload 5, 2) := by decide +kernel
theorem dL_writes_101 : decode cL_writes 101 = .ok (.iconst 0, 1) := by decide +kernel
theorem dL_writes_102 : decode cL_writes 102 = .ok (.laload, 1) := by decide +kernel
theorem dL_writes_103 : decode cL_writes 103 = .ok (.lcmp, 1) := by decide +kernel
theorem dL_writes_104 : decode cL_writes 104 = .ok (.ifCond .ne 7, 3) := by decide +kernel
theorem dL_writes_107 : decode cL_writes 107 = .ok (.iconst 1, 1) := by decide +kernel
theorem dL_writes_108 : decode cL_writes 108 = .ok (.goto 4, 3) := by decide +kernel
theorem dL_writes_111 : decode cL_writes 111 = .ok (.iconst 0, 1) := by decide +kernel
theorem dL_writes_112 : decode cL_writes 112 = .ok (.ireturn, 1) := by decide +kernel
set_option maxRecDepth 20000 in
theorem ggL_same_L_lives : GoodIn wsL_same wsL_lives := goodIn_r _ [4] (by decide +kernel) (by decide +kernel)
set_option maxRecDepth 20000 in
theorem gL_same_L_lives : GoodIn wsL_same (va_wsS RL 23 yL_lives wsL_lives) := goodIn_app (goodIn_of _ (by decide +kernel)) ggL_same_L_lives
set_option maxRecDepth 20000 in
theorem ggL_same_X7_isAlive : GoodIn wsL_same wsX7_isAlive := goodIn_ca (goodIn_r _ [9, 10, 11, 12, 13, 8, 14, 15, 16, 17, 18, 19, 20, 21, 22, 23, 24, 25, 26, 27, 28, 29, 30, 31, 32, 33, 441, 442, 443, 444, 445, 446, 447, 448, 449, 450, 451, 452, 453, 454, 455, 456, 457, 458, 459, 460, 461, 462, 463] (by decide +kernel) (by decide +kernel)) (goodIn_sub (fun _ h => List.mem_cons_of_mem _ (List.mem_append_left _ (List.mem_append_left _ (List.mem_append_right _ h)))) (by decide +kernel))
set_option maxRecDepth 20000 in
theorem gL_same_X7_isAlive : GoodIn wsL_same (wsV RL 98 RX7 yX7_isAlive wsX7_isAlive) := goodIn_app (goodIn_of _ (by decide +kernel)) ggL_same_X7_isAlive
set_option maxRecDepth 20000 in
theorem ggL_same_X7_parentOf : GoodIn wsL_same wsX7_parentOf := goodIn_ca (goodIn_r _ [37, 10, 11, 12, 13, 8, 14, 15, 16, 17, 18, 19, 20, 21, 22, 23, 38, 39, 40, 41, 42, 43, 44, 441, 442, 443, 444, 445, 446, 447, 448, 449, 450, 451, 452, 453, 454, 455, 456, 457, 458, 459, 460, 461, 462, 463] (by decide +kernel) (by decide +kernel)) (goodIn_sub (fun _ h => List.mem_cons_of_mem _ (List.mem_append_left _ (List.mem_append_left _ (List.mem_append_right _ h)))) (by decide +kernel))
set_option maxRecDepth 20000 in
theorem gL_same_X7_parentOf : GoodIn wsL_same (wsV RL 102 RX7 yX7_parentOf wsX7_parentOf) := goodIn_app (goodIn_of _ (by decide +kernel)) ggL_same_X7_parentOf
set_option maxRecDepth 20000 in
theorem ggL_same_X7_endOf : GoodIn wsL_same wsX7_endOf := goodIn_ca (goodIn_r _ [48, 10, 11, 12, 13, 8, 14, 15, 16, 17, 18, 19, 20, 21, 22, 23, 49, 50, 51, 52, 53, 54, 30, 31, 32, 33, 441, 442, 443, 444, 445, 446, 447, 448, 449, 450, 451, 452, 453, 454, 455, 456, 457, 458, 459, 460, 461, 462, 463] (by decide +kernel) (by decide +kernel)) (goodIn_sub (fun _ h => List.mem_cons_of_mem _ (List.mem_append_left _ (List.mem_append_left _ (List.mem_append_right _ h)))) (by decide +kernel))
set_option maxRecDepth 20000 in
theorem gL_same_X7_endOf : GoodIn wsL_same (wsV RL 105 RX7 yX7_endOf wsX7_endOf) := goodIn_app (goodIn_of _ (by decide +kernel)) ggL_same_X7_endOf
set_option maxRecDepth 20000 in
theorem ggL_same_X7_usesLeft : GoodIn wsL_same wsX7_usesLeft := goodIn_ca (goodIn_r _ [58, 10, 11, 12, 13, 8, 14, 15, 16, 17, 18, 19, 20, 21, 22, 23, 59, 60, 61, 41, 62, 63, 44, 441, 442, 443, 444, 445, 446, 447, 448, 449, 450, 451, 452, 453, 454, 455, 456, 457, 458, 459, 460, 461, 462, 463] (by decide +kernel) (by decide +kernel)) (goodIn_sub (fun _ h => List.mem_cons_of_mem _ (List.mem_append_left _ (List.mem_append_left _ (List.mem_append_right _ h)))) (by decide +kernel))
set_option maxRecDepth 20000 in
theorem gL_same_X7_usesLeft : GoodIn wsL_same (wsV RL 108 RX7 yX7_usesLeft wsX7_usesLeft) := goodIn_app (goodIn_of _ (by decide +kernel)) ggL_same_X7_usesLeft
set_option maxRecDepth 20000 in
theorem ggL_same_L_works : GoodIn wsL_same wsL_works := goodIn_r _ [66, 1, 2, 3, 4] (by decide +kernel) (by decide +kernel)
set_option maxRecDepth 20000 in
theorem gL_same_L_works : GoodIn wsL_same (va_wsS RL 27 yL_works wsL_works) := goodIn_app (goodIn_of _ (by decide +kernel)) ggL_same_L_works
set_option maxRecDepth 20000 in
theorem ggL_same_X7_works : GoodIn wsL_same wsX7_works := goodIn_ca (goodIn_r _ [70, 71, 72, 73, 74, 8, 75, 15, 16, 76, 77, 78, 20, 21, 22, 23, 79, 80, 81, 27, 28, 29, 30, 31, 32, 33, 441, 442, 443, 444, 445, 446, 447, 448, 449, 450, 451, 452, 453, 454, 455, 456, 457, 458, 459, 460, 461, 462, 463] (by decide +kernel) (by decide +kernel)) (goodIn_sub (fun _ h => List.mem_cons_of_mem _ (List.mem_append_left _ (List.mem_append_left _ (List.mem_append_right _ h)))) (by decide +kernel))
set_option maxRecDepth 20000 in
theorem gL_same_X7_works : GoodIn wsL_same (wsV RL 111 RX7 yX7_works wsX7_works) := goodIn_app (goodIn_of _ (by decide +kernel)) ggL_same_X7_works
set_option maxRecDepth 20000 in
theorem ggL_same_X7_endOfCredential : GoodIn wsL_same wsX7_endOfCredential := goodIn_ca (goodIn_r _ [85, 71, 72, 73, 74, 8, 75, 15, 16, 76, 77, 78, 20, 21, 22, 23, 86, 87, 88, 52, 53, 54, 30, 31, 32, 33, 441, 442, 443, 444, 445, 446, 447, 448, 449, 450, 451, 452, 453, 454, 455, 456, 457, 458, 459, 460, 461, 462, 463] (by decide +kernel) (by decide +kernel)) (goodIn_sub (fun _ h => List.mem_cons_of_mem _ (List.mem_append_left _ (List.mem_append_left _ (List.mem_append_right _ h)))) (by decide +kernel))
set_option maxRecDepth 20000 in
theorem gL_same_X7_endOfCredential : GoodIn wsL_same (wsV RL 65 RX7 yX7_endOfCredential wsX7_endOfCredential) := goodIn_app (goodIn_of _ (by decide +kernel)) ggL_same_X7_endOfCredential
set_option maxRecDepth 20000 in
theorem ggL_same_L_low : GoodIn wsL_same wsL_low := goodIn_r _ [91, 92] (by decide +kernel) (by decide +kernel)
set_option maxRecDepth 20000 in
theorem gL_same_L_low : GoodIn wsL_same (va_wsS RL 113 yL_low wsL_low) := goodIn_app (goodIn_of _ (by decide +kernel)) ggL_same_L_low
set_option maxRecDepth 20000 in
theorem ggL_same_X7_below : GoodIn wsL_same wsX7_below := goodIn_ca (goodIn_r _ [96, 10, 11, 12, 13, 8, 14, 15, 16, 17, 18, 19, 20, 21, 22, 23, 97, 98, 99, 41, 100, 101, 102, 103, 104, 105, 106, 25, 26, 27, 28, 29, 30, 31, 32, 33, 107, 108, 109, 110, 111, 39, 40, 42, 43, 44, 441, 442, 443, 444, 445, 446, 447, 448, 449, 450, 451, 452, 453, 454, 455, 456, 457, 458, 459, 460, 461, 462, 463] (by decide +kernel) (by decide +kernel)) (goodIn_sub (fun _ h => List.mem_cons_of_mem _ (List.mem_append_left _ (List.mem_append_left _ (List.mem_append_right _ h)))) (by decide +kernel))
set_option maxRecDepth 20000 in
theorem gL_same_X7_below : GoodIn wsL_same (wsV RL 116 RX7 yX7_below wsX7_below) := goodIn_app (goodIn_of _ (by decide +kernel)) ggL_same_X7_below
set_option maxRecDepth 20000 in
theorem ggL_same_X7_credentialsOf : GoodIn wsL_same wsX7_credentialsOf := goodIn_ca (goodIn_r _ [115, 71, 11, 12, 13, 8, 14, 15, 16, 10, 17, 18, 19, 20, 21, 22, 23, 116, 117, 118, 119, 120, 121, 122, 123, 124, 104, 105, 125, 80, 81, 27, 28, 29, 30, 31, 32, 33, 441, 442, 443, 444, 445, 446, 447, 448, 449, 450, 451, 452, 453, 454, 455, 456, 457, 458, 459, 460, 461, 462, 463] (by decide +kernel) (by decide +kernel)) (goodIn_sub (fun _ h => List.mem_cons_of_mem _ (List.mem_append_left _ (List.mem_append_left _ (List.mem_append_right _ h)))) (by decide +kernel))
set_option maxRecDepth 20000 in
theorem gL_same_X7_credentialsOf : GoodIn wsL_same (wsV RL 62 RX7 yX7_credentialsOf wsX7_credentialsOf) := goodIn_app (goodIn_of _ (by decide +kernel)) ggL_same_X7_credentialsOf
set_option maxRecDepth 20000 in
theorem ggL_same_L_refused : GoodIn wsL_same wsL_refused := goodIn_ca (goodIn_ca (goodIn_ca (goodIn_r _ [128, 129, 130, 131, 132, 133, 134, 8, 135, 136, 137, 138, 139, 10, 140, 141, 11, 12, 13, 14, 15, 16, 17, 18, 19, 20, 21, 22, 23, 142, 143, 144, 145, 146, 147, 148, 149, 150, 151, 152, 153, 154, 155, 41, 156, 157, 44, 158, 159, 160, 161, 162, 163, 164, 165, 166, 167, 24, 25, 26, 27, 28, 29, 30, 31, 32, 33, 168, 169, 170, 171, 172, 173, 174, 175, 176, 177, 178, 179, 180, 181, 182, 183, 184, 54, 185, 186, 187, 188, 189, 43, 63, 190, 191, 192, 193, 194, 195, 196, 197, 198, 199, 200, 201, 202, 203, 204, 205, 206, 207, 208, 209, 210, 211, 212, 213, 214, 215, 216, 217, 218, 219, 220, 221, 222, 223, 224, 225, 49, 50, 51, 52, 53, 226, 227, 228, 229, 230, 231, 232, 233, 234, 235, 236, 237, 238, 239, 240, 241, 242, 243, 244, 245, 246, 71, 247, 248, 249, 250, 101, 102, 103, 104, 105, 106, 251, 252, 253, 254, 119, 255, 121, 122, 123, 124, 256, 257, 258, 259, 260, 261, 262, 263, 264, 265, 266, 267, 268, 269, 270, 271, 72, 73, 74, 75, 76, 77, 78, 79, 80, 81, 272, 273, 274, 86, 87, 88, 275, 276, 277, 278, 279, 112, 113, 114, 115, 116, 117, 118, 120, 125, 82, 83, 84, 85, 280, 281, 282, 283, 284, 285, 286, 287, 288, 289, 290, 291, 292, 293, 294, 295, 296, 297, 298, 299, 59, 60, 61, 62, 300, 301, 302, 303, 304, 305, 306, 307, 308, 309, 310, 311, 312, 313, 314, 315, 316, 317, 318, 319, 320, 321, 322, 323, 324, 325, 326, 327, 328, 329, 330, 331, 332, 333, 334, 335, 336, 337, 338, 339, 340, 341, 342, 343, 344, 345, 346, 347, 348, 349, 350, 351, 352, 353, 354, 355, 356, 357, 358, 359, 360, 361, 362, 363, 364, 365, 366, 367, 368, 369, 370, 371, 372, 373, 374, 375, 376, 377, 378, 379, 380, 381, 382, 383, 384, 385, 386, 387, 388, 389, 390, 391, 392, 393, 394, 395, 396, 397, 398, 399, 400, 441, 442, 443, 444, 445, 446, 447, 448, 449, 450, 451, 452, 453, 454, 455, 456, 457, 458, 459, 460, 461, 462, 463, 464, 465, 466, 467, 468, 469, 470, 471, 472, 473, 474, 475, 476, 477] (by decide +kernel) (by decide +kernel)) (goodIn_sub (fun _ h => List.mem_cons_of_mem _ (List.mem_append_left _ (List.mem_append_right _ h))) (by decide +kernel))) (goodIn_sub (fun _ h => List.mem_cons_of_mem _ (List.mem_append_right _ h)) (by decide +kernel))) (goodIn_sub (fun _ h => List.mem_cons_of_mem _ (List.mem_append_left _ (List.mem_append_left _ (List.mem_append_right _ h)))) (by decide +kernel))
set_option maxRecDepth 20000 in
theorem gL_same_L_refused : GoodIn wsL_same (va_wsS RL 119 yL_refused wsL_refused) := goodIn_app (goodIn_of _ (by decide +kernel)) ggL_same_L_refused
set_option maxRecDepth 20000 in
theorem ggL_same_X7_tokens : GoodIn wsL_same wsX7_tokens := goodIn_r _ [404, 10, 168, 169, 170, 171, 21, 172, 173, 441, 442, 443, 444, 445, 446, 447, 448, 449, 450, 451, 452, 453, 454, 455, 456, 457, 458, 459, 460, 461, 462, 463] (by decide +kernel) (by decide +kernel)
set_option maxRecDepth 20000 in
theorem gL_same_X7_tokens : GoodIn wsL_same (wsV RL 123 RX7 yX7_tokens wsX7_tokens) := goodIn_app (goodIn_of _ (by decide +kernel)) ggL_same_X7_tokens
set_option maxRecDepth 20000 in
theorem ggL_same_L_living : GoodIn wsL_same wsL_living := goodIn_r _ [407, 1, 2, 3, 4] (by decide +kernel) (by decide +kernel)
set_option maxRecDepth 20000 in
theorem gL_same_L_living : GoodIn wsL_same (va_wsS RL 126 yL_living wsL_living) := goodIn_app (goodIn_of _ (by decide +kernel)) ggL_same_L_living
set_option maxRecDepth 20000 in
theorem ggL_same_X7_credentials : GoodIn wsL_same wsX7_credentials := goodIn_r _ [411, 71, 348, 349, 350, 171, 21, 172, 173, 441, 442, 443, 444, 445, 446, 447, 448, 449, 450, 451, 452, 453, 454, 455, 456, 457, 458, 459, 460, 461, 462, 463] (by decide +kernel) (by decide +kernel)
set_option maxRecDepth 20000 in
theorem gL_same_X7_credentials : GoodIn wsL_same (wsV RL 130 RX7 yX7_credentials wsX7_credentials) := goodIn_app (goodIn_of _ (by decide +kernel)) ggL_same_X7_credentials
set_option maxRecDepth 20000 in
theorem ggL_same_L_working : GoodIn wsL_same wsL_working := goodIn_r _ [414, 64, 65, 3, 66, 1, 2, 4] (by decide +kernel) (by decide +kernel)
set_option maxRecDepth 20000 in
theorem gL_same_L_working : GoodIn wsL_same (va_wsS RL 133 yL_working wsL_working) := goodIn_app (goodIn_of _ (by decide +kernel)) ggL_same_L_working
set_option maxRecDepth 20000 in
theorem ggL_same_X7_nextEnd : GoodIn wsL_same wsX7_nextEnd := goodIn_r _ [418, 10, 71, 419, 224, 221, 225, 420, 220, 222, 421, 422, 423, 424, 21, 425, 23, 29, 54, 426, 427, 428, 441, 442, 443, 444, 445, 446, 447, 448, 449, 450, 451, 452, 453, 454, 455, 456, 457, 458, 459, 460, 461, 462, 463] (by decide +kernel) (by decide +kernel)
set_option maxRecDepth 20000 in
theorem gL_same_X7_nextEnd : GoodIn wsL_same (wsV RL 137 RX7 yX7_nextEnd wsX7_nextEnd) := goodIn_app (goodIn_of _ (by decide +kernel)) ggL_same_X7_nextEnd
set_option maxRecDepth 20000 in
theorem ggL_same_X7_time : GoodIn wsL_same wsX7_time := goodIn_r _ [432, 140, 441, 442, 443, 444, 445, 446] (by decide +kernel) (by decide +kernel)
set_option maxRecDepth 20000 in
theorem gL_same_X7_time : GoodIn wsL_same (wsV RL 140 RX7 yX7_time wsX7_time) := goodIn_app (goodIn_of _ (by decide +kernel)) ggL_same_X7_time
set_option maxRecDepth 20000 in
theorem ggL_same_X7_entries : GoodIn wsL_same wsX7_entries := goodIn_r _ [436, 141, 437, 438, 439, 193, 440, 195, 441, 442, 443, 444, 445, 446, 469, 470, 471, 472, 473] (by decide +kernel) (by decide +kernel)
set_option maxRecDepth 20000 in
theorem gL_same_X7_entries : GoodIn wsL_same (wsV RL 84 RX7 yX7_entries wsX7_entries) := goodIn_app (goodIn_of _ (by decide +kernel)) ggL_same_X7_entries
theorem dL_same_0 : decode cL_same 0 = .ok (.iconst (-1), 1) := by decide +kernel
theorem dL_same_1 : decode cL_same 1 = .ok (.istore 5, 2) := by decide +kernel
theorem dL_same_3 : decode cL_same 3 = .ok (.iconst 0, 1) := by decide +kernel
theorem dL_same_4 : decode cL_same 4 = .ok (.istore 6, 2) := by decide +kernel
theorem dL_same_6 : decode cL_same 6 = .ok (.iload 6, 2) := by decide +kernel
theorem dL_same_8 : decode cL_same 8 = .ok (.aload_n 2, 1) := by decide +kernel
theorem dL_same_9 : decode cL_same 9 = .ok (.iconst 3, 1) := by decide +kernel
theorem dL_same_10 : decode cL_same 10 = .ok (.iaload, 1) := by decide +kernel
theorem dL_same_11 : decode cL_same 11 = .ok (.if_icmp .ge 128, 3) := by decide +kernel
theorem dL_same_14 : decode cL_same 14 = .ok (.iload 6, 2) := by decide +kernel
theorem dL_same_16 : decode cL_same 16 = .ok (.aload_n 2, 1) := by decide +kernel
theorem dL_same_17 : decode cL_same 17 = .ok (.aload_n 3, 1) := by decide +kernel
theorem dL_same_18 : decode cL_same 18 = .ok (.invokestatic 23, 3) := by decide +kernel
theorem dL_same_21 : decode cL_same 21 = .ok (.istore 7, 2) := by decide +kernel
theorem dL_same_23 : decode cL_same 23 = .ok (.aload_n 0, 1) := by decide +kernel
theorem dL_same_24 : decode cL_same 24 = .ok (.iload 6, 2) := by decide +kernel
theorem dL_same_26 : decode cL_same 26 = .ok (.invokevirtual 98, 3) := by decide +kernel
theorem dL_same_29 : decode cL_same 29 = .ok (.iload 7, 2) := by decide +kernel
theorem dL_same_31 : decode cL_same 31 = .ok (.if_icmp .ne 57, 3) := by decide +kernel
theorem dL_same_34 : decode cL_same 34 = .ok (.aload_n 0, 1) := by decide +kernel
theorem dL_same_35 : decode cL_same 35 = .ok (.iload 6, 2) := by decide +kernel
theorem dL_same_37 : decode cL_same 37 = .ok (.invokevirtual 102, 3) := by decide +kernel
theorem dL_same_40 : decode cL_same 40 = .ok (.aload_n 3, 1) := by decide +kernel
theorem dL_same_41 : decode cL_same 41 = .ok (.iconst 5, 1) := by decide +kernel
theorem dL_same_42 : decode cL_same 42 = .ok (.iload 6, 2) := by decide +kernel
theorem dL_same_44 : decode cL_same 44 = .ok (.imul, 1) := by decide +kernel
theorem dL_same_45 : decode cL_same 45 = .ok (.iaload, 1) := by decide +kernel
theorem dL_same_46 : decode cL_same 46 = .ok (.if_icmp .ne 42, 3) := by decide +kernel
theorem dL_same_49 : decode cL_same 49 = .ok (.aload_n 0, 1) := by decide +kernel
theorem dL_same_50 : decode cL_same 50 = .ok (.iload 6, 2) := by decide +kernel
theorem dL_same_52 : decode cL_same 52 = .ok (.invokevirtual 105, 3) := by decide +kernel
theorem dL_same_55 : decode cL_same 55 = .ok (.aload_n 3, 1) := by decide +kernel
theorem dL_same_56 : decode cL_same 56 = .ok (.iconst 5, 1) := by decide +kernel
theorem dL_same_57 : decode cL_same 57 = .ok (.iload 6, 2) := by decide +kernel
theorem dL_same_59 : decode cL_same 59 = .ok (.imul, 1) := by decide +kernel
theorem dL_same_60 : decode cL_same 60 = .ok (.iconst 2, 1) := by decide +kernel
theorem dL_same_61 : decode cL_same 61 = .ok (.iadd, 1) := by decide +kernel
theorem dL_same_62 : decode cL_same 62 = .ok (.iaload, 1) := by decide +kernel
theorem dL_same_63 : decode cL_same 63 = .ok (.if_icmp .eq 8, 3) := by decide +kernel
theorem dL_same_66 : decode cL_same 66 = .ok (.iload 6, 2) := by decide +kernel
theorem dL_same_68 : decode cL_same 68 = .ok (.ifCond .gt 20, 3) := by decide +kernel
theorem dL_same_71 : decode cL_same 71 = .ok (.aload_n 0, 1) := by decide +kernel
theorem dL_same_72 : decode cL_same 72 = .ok (.iload 6, 2) := by decide +kernel
theorem dL_same_74 : decode cL_same 74 = .ok (.invokevirtual 108, 3) := by decide +kernel
theorem dL_same_77 : decode cL_same 77 = .ok (.aload_n 3, 1) := by decide +kernel
theorem dL_same_78 : decode cL_same 78 = .ok (.iconst 5, 1) := by decide +kernel
theorem dL_same_79 : decode cL_same 79 = .ok (.iload 6, 2) := by decide +kernel
theorem dL_same_81 : decode cL_same 81 = .ok (.imul, 1) := by decide +kernel
theorem dL_same_82 : decode cL_same 82 = .ok (.iconst 4, 1) := by decide +kernel
theorem dL_same_83 : decode cL_same 83 = .ok (.iadd, 1) := by decide +kernel
theorem dL_same_84 : decode cL_same 84 = .ok (.iaload, 1) := by decide +kernel
theorem dL_same_85 : decode cL_same 85 = .ok (.if_icmp .eq 5, 3) := by decide +kernel
theorem dL_same_88 : decode cL_same 88 = .ok (.iconst 0, 1) := by decide +kernel
theorem dL_same_89 : decode cL_same 89 = .ok (.ireturn, 1) := by decide +kernel
theorem dL_same_90 : decode cL_same 90 = .ok (.iload 7, 2) := by decide +kernel
theorem dL_same_92 : decode cL_same 92 = .ok (.ifCond .eq 37, 3) := by decide +kernel
theorem dL_same_95 : decode cL_same 95 = .ok (.iload 6, 2) := by decide +kernel
theorem dL_same_97 : decode cL_same 97 = .ok (.ifCond .le 32, 3) := by decide +kernel
theorem dL_same_100 : decode cL_same 100 = .ok (.iload 5, 2) := by decide +kernel
theorem dL_same_102 : decode cL_same 102 = .ok (.ifCond .lt 16, 3) := by decide +kernel
theorem dL_same_105 : decode cL_same 105 = .ok (.aload_n 3, 1) := by decide +kernel
theorem dL_same_106 : decode cL_same 106 = .ok (.iconst 5, 1) := by decide +kernel
theorem dL_same_107 : decode cL_same 107 = .ok (.iload 6, 2) := by decide +kernel
theorem dL_same_109 : decode cL_same 109 = .ok (.imul, 1) := by decide +kernel
theorem dL_same_110 : decode cL_same 110 = .ok (.iconst 2, 1) := by decide +kernel
theorem dL_same_111 : decode cL_same 111 = .ok (.iadd, 1) := by decide +kernel
theorem dL_same_112 : decode cL_same 112 = .ok (.iaload, 1) := by decide +kernel
theorem dL_same_113 : decode cL_same 113 = .ok (.iload 5, 2) := by decide +kernel
theorem dL_same_115 : decode cL_same 115 = .ok (.if_icmp .ge 14, 3) := by decide +kernel
theorem dL_same_118 : decode cL_same 118 = .ok (.aload_n 3, 1) := by decide +kernel
theorem dL_same_119 : decode cL_same 119 = .ok (.iconst 5, 1) := by decide +kernel
theorem dL_same_120 : decode cL_same 120 = .ok (.iload 6, 2) := by decide +kernel
theorem dL_same_122 : decode cL_same 122 = .ok (.imul, 1) := by decide +kernel
theorem dL_same_123 : decode cL_same 123 = .ok (.iconst 2, 1) := by decide +kernel
theorem dL_same_124 : decode cL_same 124 = .ok (.iadd, 1) := by decide +kernel
theorem dL_same_125 : decode cL_same 125 = .ok (.iaload, 1) := by decide +kernel
theorem dL_same_126 : decode cL_same 126 = .ok (.goto 5, 3) := by decide +kernel
theorem dL_same_129 : decode cL_same 129 = .ok (.iload 5, 2) := by decide +kernel
theorem dL_same_131 : decode cL_same 131 = .ok (.istore 5, 2) := by decide +kernel
theorem dL_same_133 : decode cL_same 133 = .ok (.iinc 6 1, 3) := by decide +kernel
theorem dL_same_136 : decode cL_same 136 = .ok (.goto (-130), 3) := by decide +kernel
theorem dL_same_139 : decode cL_same 139 = .ok (.iconst 0, 1) := by decide +kernel
theorem dL_same_140 : decode cL_same 140 = .ok (.istore 6, 2) := by decide +kernel
theorem dL_same_142 : decode cL_same 142 = .ok (.iload 6, 2) := by decide +kernel
theorem dL_same_144 : decode cL_same 144 = .ok (.aload_n 2, 1) := by decide +kernel
theorem dL_same_145 : decode cL_same 145 = .ok (.iconst 4, 1) := by decide +kernel
theorem dL_same_146 : decode cL_same 146 = .ok (.iaload, 1) := by decide +kernel
theorem dL_same_147 : decode cL_same 147 = .ok (.if_icmp .ge 91, 3) := by decide +kernel
theorem dL_same_150 : decode cL_same 150 = .ok (.iload 6, 2) := by decide +kernel
theorem dL_same_152 : decode cL_same 152 = .ok (.aload_n 2, 1) := by decide +kernel
theorem dL_same_153 : decode cL_same 153 = .ok (.aload_n 3, 1) := by decide +kernel
theorem dL_same_154 : decode cL_same 154 = .ok (.aload 4, 2) := by decide +kernel
theorem dL_same_156 : decode cL_same 156 = .ok (.invokestatic 27, 3) := by decide +kernel
theorem dL_same_159 : decode cL_same 159 = .ok (.istore 7, 2) := by decide +kernel
theorem dL_same_161 : decode cL_same 161 = .ok (.aload_n 0, 1) := by decide +kernel
theorem dL_same_162 : decode cL_same 162 = .ok (.iload 6, 2) := by decide +kernel
theorem dL_same_164 : decode cL_same 164 = .ok (.invokevirtual 111, 3) := by decide +kernel
theorem dL_same_167 : decode cL_same 167 = .ok (.iload 7, 2) := by decide +kernel
theorem dL_same_169 : decode cL_same 169 = .ok (.if_icmp .ne 21, 3) := by decide +kernel
theorem dL_same_172 : decode cL_same 172 = .ok (.aload_n 0, 1) := by decide +kernel
theorem dL_same_173 : decode cL_same 173 = .ok (.iload 6, 2) := by decide +kernel
theorem dL_same_175 : decode cL_same 175 = .ok (.invokevirtual 65, 3) := by decide +kernel
theorem dL_same_178 : decode cL_same 178 = .ok (.aload 4, 2) := by decide +kernel
theorem dL_same_180 : decode cL_same 180 = .ok (.iconst 5, 1) := by decide +kernel
theorem dL_same_181 : decode cL_same 181 = .ok (.iload 6, 2) := by decide +kernel
theorem dL_same_183 : decode cL_same 183 = .ok (.imul, 1) := by decide +kernel
theorem dL_same_184 : decode cL_same 184 = .ok (.iconst 2, 1) := by decide +kernel
theorem dL_same_185 : decode cL_same 185 = .ok (.iadd, 1) := by decide +kernel
theorem dL_same_186 : decode cL_same 186 = .ok (.iaload, 1) := by decide +kernel
theorem dL_same_187 : decode cL_same 187 = .ok (.if_icmp .eq 5, 3) := by decide +kernel
theorem dL_same_190 : decode cL_same 190 = .ok (.iconst 0, 1) := by decide +kernel
theorem dL_same_191 : decode cL_same 191 = .ok (.ireturn, 1) := by decide +kernel
theorem dL_same_192 : decode cL_same 192 = .ok (.iload 7, 2) := by decide +kernel
theorem dL_same_194 : decode cL_same 194 = .ok (.ifCond .eq 34, 3) := by decide +kernel
theorem dL_same_197 : decode cL_same 197 = .ok (.iload 5, 2) := by decide +kernel
theorem dL_same_199 : decode cL_same 199 = .ok (.ifCond .lt 17, 3) := by decide +kernel
theorem dL_same_202 : decode cL_same 202 = .ok (.aload 4, 2) := by decide +kernel
theorem dL_same_204 : decode cL_same 204 = .ok (.iconst 5, 1) := by decide +kernel
theorem dL_same_205 : decode cL_same 205 = .ok (.iload 6, 2) := by decide +kernel
theorem dL_same_207 : decode cL_same 207 = .ok (.imul, 1) := by decide +kernel
theorem dL_same_208 : decode cL_same 208 = .ok (.iconst 2, 1) := by decide +kernel
theorem dL_same_209 : decode cL_same 209 = .ok (.iadd, 1) := by decide +kernel
theorem dL_same_210 : decode cL_same 210 = .ok (.iaload, 1) := by decide +kernel
theorem dL_same_211 : decode cL_same 211 = .ok (.iload 5, 2) := by decide +kernel
theorem dL_same_213 : decode cL_same 213 = .ok (.if_icmp .ge 15, 3) := by decide +kernel
theorem dL_same_216 : decode cL_same 216 = .ok (.aload 4, 2) := by decide +kernel
theorem dL_same_218 : decode cL_same 218 = .ok (.iconst 5, 1) := by decide +kernel
theorem dL_same_219 : decode cL_same 219 = .ok (.iload 6, 2) := by decide +kernel
theorem dL_same_221 : decode cL_same 221 = .ok (.imul, 1) := by decide +kernel
theorem dL_same_222 : decode cL_same 222 = .ok (.iconst 2, 1) := by decide +kernel
theorem dL_same_223 : decode cL_same 223 = .ok (.iadd, 1) := by decide +kernel
theorem dL_same_224 : decode cL_same 224 = .ok (.iaload, 1) := by decide +kernel
theorem dL_same_225 : decode cL_same 225 = .ok (.goto 5, 3) := by decide +kernel
theorem dL_same_228 : decode cL_same 228 = .ok (.iload 5, 2) := by decide +kernel
theorem dL_same_230 : decode cL_same 230 = .ok (.istore 5, 2) := by decide +kernel
theorem dL_same_232 : decode cL_same 232 = .ok (.iinc 6 1, 3) := by decide +kernel
theorem dL_same_235 : decode cL_same 235 = .ok (.goto (-93), 3) := by decide +kernel
theorem dL_same_238 : decode cL_same 238 = .ok (.iload_n 1, 1) := by decide +kernel
theorem dL_same_239 : decode cL_same 239 = .ok (.aload_n 2, 1) := by decide +kernel
theorem dL_same_240 : decode cL_same 240 = .ok (.iconst 3, 1) := by decide +kernel
theorem dL_same_241 : decode cL_same 241 = .ok (.iaload, 1) := by decide +kernel
theorem dL_same_242 : decode cL_same 242 = .ok (.invokestatic 113, 3) := by decide +kernel
theorem dL_same_245 : decode cL_same 245 = .ok (.istore 6, 2) := by decide +kernel
theorem dL_same_247 : decode cL_same 247 = .ok (.iconst 0, 1) := by decide +kernel
theorem dL_same_248 : decode cL_same 248 = .ok (.istore 7, 2) := by decide +kernel
theorem dL_same_250 : decode cL_same 250 = .ok (.iconst 0, 1) := by decide +kernel
theorem dL_same_251 : decode cL_same 251 = .ok (.istore 8, 2) := by decide +kernel
theorem dL_same_253 : decode cL_same 253 = .ok (.iconst 1, 1) := by decide +kernel
theorem dL_same_254 : decode cL_same 254 = .ok (.istore 9, 2) := by decide +kernel
theorem dL_same_256 : decode cL_same 256 = .ok (.iload 9, 2) := by decide +kernel
theorem dL_same_258 : decode cL_same 258 = .ok (.aload_n 2, 1) := by decide +kernel
theorem dL_same_259 : decode cL_same 259 = .ok (.iconst 3, 1) := by decide +kernel
theorem dL_same_260 : decode cL_same 260 = .ok (.iaload, 1) := by decide +kernel
theorem dL_same_261 : decode cL_same 261 = .ok (.if_icmp .ge 71, 3) := by decide +kernel
theorem dL_same_264 : decode cL_same 264 = .ok (.iload 9, 2) := by decide +kernel
theorem dL_same_266 : decode cL_same 266 = .ok (.aload_n 2, 1) := by decide +kernel
theorem dL_same_267 : decode cL_same 267 = .ok (.aload_n 3, 1) := by decide +kernel
theorem dL_same_268 : decode cL_same 268 = .ok (.invokestatic 23, 3) := by decide +kernel
theorem dL_same_271 : decode cL_same 271 = .ok (.ifCond .eq 12, 3) := by decide +kernel
theorem dL_same_274 : decode cL_same 274 = .ok (.aload_n 3, 1) := by decide +kernel
theorem dL_same_275 : decode cL_same 275 = .ok (.iconst 5, 1) := by decide +kernel
theorem dL_same_276 : decode cL_same 276 = .ok (.iload 9, 2) := by decide +kernel
theorem dL_same_278 : decode cL_same 278 = .ok (.imul, 1) := by decide +kernel
theorem dL_same_279 : decode cL_same 279 = .ok (.iaload, 1) := by decide +kernel
theorem dL_same_280 : decode cL_same 280 = .ok (.goto 4, 3) := by decide +kernel
theorem dL_same_283 : decode cL_same 283 = .ok (.iconst (-1), 1) := by decide +kernel
theorem dL_same_284 : decode cL_same 284 = .ok (.istore 10, 2) := by decide +kernel
theorem dL_same_286 : decode cL_same 286 = .ok (.iload 10, 2) := by decide +kernel
theorem dL_same_288 : decode cL_same 288 = .ok (.ifCond .lt 21, 3) := by decide +kernel
theorem dL_same_291 : decode cL_same 291 = .ok (.iload 10, 2) := by decide +kernel
theorem dL_same_293 : decode cL_same 293 = .ok (.iload 6, 2) := by decide +kernel
theorem dL_same_295 : decode cL_same 295 = .ok (.if_icmp .eq 14, 3) := by decide +kernel
theorem dL_same_298 : decode cL_same 298 = .ok (.aload_n 3, 1) := by decide +kernel
theorem dL_same_299 : decode cL_same 299 = .ok (.iconst 5, 1) := by decide +kernel
theorem dL_same_300 : decode cL_same 300 = .ok (.iload 10, 2) := by decide +kernel
theorem dL_same_302 : decode cL_same 302 = .ok (.imul, 1) := by decide +kernel
theorem dL_same_303 : decode cL_same 303 = .ok (.iaload, 1) := by decide +kernel
theorem dL_same_304 : decode cL_same 304 = .ok (.istore 10, 2) := by decide +kernel
theorem dL_same_306 : decode cL_same 306 = .ok (.goto (-20), 3) := by decide +kernel
theorem dL_same_309 : decode cL_same 309 = .ok (.iload 7, 2) := by decide +kernel
theorem dL_same_311 : decode cL_same 311 = .ok (.iload 10, 2) := by decide +kernel
theorem dL_same_313 : decode cL_same 313 = .ok (.iload 6, 2) := by decide +kernel
theorem dL_same_315 : decode cL_same 315 = .ok (.if_icmp .ne 7, 3) := by decide +kernel
theorem dL_same_318 : decode cL_same 318 = .ok (.iconst 1, 1) := by decide +kernel
theorem dL_same_319 : decode cL_same 319 = .ok (.goto 4, 3) := by decide +kernel
theorem dL_same_322 : decode cL_same 322 = .ok (.iconst 0, 1) := by decide +kernel
theorem dL_same_323 : decode cL_same 323 = .ok (.iadd, 1) := by decide +kernel
theorem dL_same_324 : decode cL_same 324 = .ok (.istore 7, 2) := by decide +kernel
theorem dL_same_326 : decode cL_same 326 = .ok (.iinc 9 1, 3) := by decide +kernel
theorem dL_same_329 : decode cL_same 329 = .ok (.goto (-73), 3) := by decide +kernel
theorem dL_same_332 : decode cL_same 332 = .ok (.iconst 0, 1) := by decide +kernel
theorem dL_same_333 : decode cL_same 333 = .ok (.istore 9, 2) := by decide +kernel
theorem dL_same_335 : decode cL_same 335 = .ok (.iload 9, 2) := by decide +kernel
theorem dL_same_337 : decode cL_same 337 = .ok (.aload_n 2, 1) := by decide +kernel
theorem dL_same_338 : decode cL_same 338 = .ok (.iconst 4, 1) := by decide +kernel
theorem dL_same_339 : decode cL_same 339 = .ok (.iaload, 1) := by decide +kernel
theorem dL_same_340 : decode cL_same 340 = .ok (.if_icmp .ge 43, 3) := by decide +kernel
theorem dL_same_343 : decode cL_same 343 = .ok (.iload 8, 2) := by decide +kernel
theorem dL_same_345 : decode cL_same 345 = .ok (.aload 4, 2) := by decide +kernel
theorem dL_same_347 : decode cL_same 347 = .ok (.iconst 5, 1) := by decide +kernel
theorem dL_same_348 : decode cL_same 348 = .ok (.iload 9, 2) := by decide +kernel
theorem dL_same_350 : decode cL_same 350 = .ok (.imul, 1) := by decide +kernel
theorem dL_same_351 : decode cL_same 351 = .ok (.iaload, 1) := by decide +kernel
theorem dL_same_352 : decode cL_same 352 = .ok (.iload 6, 2) := by decide +kernel
theorem dL_same_354 : decode cL_same 354 = .ok (.if_icmp .ne 19, 3) := by decide +kernel
theorem dL_same_357 : decode cL_same 357 = .ok (.iload 9, 2) := by decide +kernel
theorem dL_same_359 : decode cL_same 359 = .ok (.aload_n 2, 1) := by decide +kernel
theorem dL_same_360 : decode cL_same 360 = .ok (.aload_n 3, 1) := by decide +kernel
theorem dL_same_361 : decode cL_same 361 = .ok (.aload 4, 2) := by decide +kernel
theorem dL_same_363 : decode cL_same 363 = .ok (.invokestatic 27, 3) := by decide +kernel
theorem dL_same_366 : decode cL_same 366 = .ok (.ifCond .eq 7, 3) := by decide +kernel
theorem dL_same_369 : decode cL_same 369 = .ok (.iconst 1, 1) := by decide +kernel
theorem dL_same_370 : decode cL_same 370 = .ok (.goto 4, 3) := by decide +kernel
theorem dL_same_373 : decode cL_same 373 = .ok (.iconst 0, 1) := by decide +kernel
theorem dL_same_374 : decode cL_same 374 = .ok (.iadd, 1) := by decide +kernel
theorem dL_same_375 : decode cL_same 375 = .ok (.istore 8, 2) := by decide +kernel
theorem dL_same_377 : decode cL_same 377 = .ok (.iinc 9 1, 3) := by decide +kernel
theorem dL_same_380 : decode cL_same 380 = .ok (.goto (-45), 3) := by decide +kernel
theorem dL_same_383 : decode cL_same 383 = .ok (.aload_n 0, 1) := by decide +kernel
theorem dL_same_384 : decode cL_same 384 = .ok (.iload 6, 2) := by decide +kernel
theorem dL_same_386 : decode cL_same 386 = .ok (.invokevirtual 116, 3) := by decide +kernel
theorem dL_same_389 : decode cL_same 389 = .ok (.iload 7, 2) := by decide +kernel
theorem dL_same_391 : decode cL_same 391 = .ok (.if_icmp .ne 58, 3) := by decide +kernel
theorem dL_same_394 : decode cL_same 394 = .ok (.aload_n 0, 1) := by decide +kernel
theorem dL_same_395 : decode cL_same 395 = .ok (.iload 6, 2) := by decide +kernel
theorem dL_same_397 : decode cL_same 397 = .ok (.invokevirtual 62, 3) := by decide +kernel
theorem dL_same_400 : decode cL_same 400 = .ok (.iload 8, 2) := by decide +kernel
theorem dL_same_402 : decode cL_same 402 = .ok (.if_icmp .ne 47, 3) := by decide +kernel
theorem dL_same_405 : decode cL_same 405 = .ok (.aload_n 0, 1) := by decide +kernel
theorem dL_same_406 : decode cL_same 406 = .ok (.iconst 5, 1) := by decide +kernel
theorem dL_same_407 : decode cL_same 407 = .ok (.aload_n 2, 1) := by decide +kernel
theorem dL_same_408 : decode cL_same 408 = .ok (.iconst 3, 1) := by decide +kernel
theorem dL_same_409 : decode cL_same 409 = .ok (.iaload, 1) := by decide +kernel
theorem dL_same_410 : decode cL_same 410 = .ok (.iconst 0, 1) := by decide +kernel
theorem dL_same_411 : decode cL_same 411 = .ok (.iconst 0, 1) := by decide +kernel
theorem dL_same_412 : decode cL_same 412 = .ok (.invokestatic 119, 3) := by decide +kernel
theorem dL_same_415 : decode cL_same 415 = .ok (.iconst 3, 1) := by decide +kernel
theorem dL_same_416 : decode cL_same 416 = .ok (.if_icmp .ne 33, 3) := by decide +kernel
