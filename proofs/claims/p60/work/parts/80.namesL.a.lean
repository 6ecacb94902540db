theorem dL_at_0 : decode cL_at 0 = .ok (.iload_n 1, 1) := by decide +kernel
theorem dL_at_1 : decode cL_at 1 = .ok (.aload_n 0, 1) := by decide +kernel
theorem dL_at_2 : decode cL_at 2 = .ok (.arraylength, 1) := by decide +kernel
theorem dL_at_3 : decode cL_at 3 = .ok (.if_icmp .ge 9, 3) := by decide +kernel
theorem dL_at_6 : decode cL_at 6 = .ok (.aload_n 0, 1) := by decide +kernel
theorem dL_at_7 : decode cL_at 7 = .ok (.iload_n 1, 1) := by decide +kernel
theorem dL_at_8 : decode cL_at 8 = .ok (.iaload, 1) := by decide +kernel
theorem dL_at_9 : decode cL_at 9 = .ok (.goto 4, 3) := by decide +kernel
theorem dL_at_12 : decode cL_at 12 = .ok (.iconst 0, 1) := by decide +kernel
theorem dL_at_13 : decode cL_at 13 = .ok (.ireturn, 1) := by decide +kernel
set_option maxRecDepth 20000 in
theorem ggL_put_J0_length_8abf5 : GoodIn wsL_put wsJ0_length_8abf5 := goodIn_r _ [5, 6, 7, 8, 9, 4, 10, 11, 12, 68, 69, 70, 71] (by decide +kernel) (by decide +kernel)
set_option maxRecDepth 20000 in
theorem gL_put_J0_length_8abf5 : GoodIn wsL_put (wsV RL 7 RJ0 yJ0_length_8abf5 wsJ0_length_8abf5) := goodIn_app (goodIn_of _ (by decide +kernel)) ggL_put_J0_length_8abf5
set_option maxRecDepth 20000 in
theorem ggL_put_J0_charAt_5068e : GoodIn wsL_put wsJ0_charAt_5068e := goodIn_r _ [16, 6, 17, 18, 19, 4, 20, 11, 12, 21, 22, 23, 24, 25, 26, 27, 28, 29, 30, 31, 32, 33, 34, 35, 36, 37, 38, 39, 40, 41, 42, 43, 44, 45, 46, 47, 48, 49, 68, 69, 70, 71] (by decide +kernel) (by decide +kernel)
set_option maxRecDepth 20000 in
theorem gL_put_J0_charAt_5068e : GoodIn wsL_put (wsV RL 13 RJ0 yJ0_charAt_5068e wsJ0_charAt_5068e) := goodIn_app (goodIn_of _ (by decide +kernel)) ggL_put_J0_charAt_5068e
set_option maxRecDepth 20000 in
theorem ggL_put_X10_type : GoodIn wsL_put wsX10_type := goodIn_ca (goodIn_ca (goodIn_ca (goodIn_r _ [54, 55, 56, 57, 58, 59, 60, 61, 62, 63, 64, 65, 66, 67, 72, 73, 74, 75, 76, 77, 78, 79, 80, 81, 82, 83, 84, 85, 86, 87, 88, 89, 90, 91, 92] (by decide +kernel) (by decide +kernel)) (goodIn_sub (fun _ h => List.mem_cons_of_mem _ (List.mem_append_left _ (List.mem_append_left _ (List.mem_append_right _ h)))) (by decide +kernel))) (goodIn_sub (fun _ h => List.mem_cons_of_mem _ (List.mem_append_left _ (List.mem_append_right _ h))) (by decide +kernel))) (goodIn_sub (fun _ h => List.mem_cons_of_mem _ (List.mem_append_right _ h)) (by decide +kernel))
set_option maxRecDepth 20000 in
theorem gL_put_X10_type : GoodIn wsL_put (wsV RL 17 RX10 yX10_type wsX10_type) := goodIn_app (goodIn_of _ (by decide +kernel)) ggL_put_X10_type
theorem dL_put_0 : decode cL_put 0 = .ok (.iconst 0, 1) := by decide +kernel
theorem dL_put_1 : decode cL_put 1 = .ok (.istore_n 2, 1) := by decide +kernel
theorem dL_put_2 : decode cL_put 2 = .ok (.iload_n 2, 1) := by decide +kernel
theorem dL_put_3 : decode cL_put 3 = .ok (.aload_n 1, 1) := by decide +kernel
theorem dL_put_4 : decode cL_put 4 = .ok (.invokevirtual 7, 3) := by decide +kernel
theorem dL_put_7 : decode cL_put 7 = .ok (.if_icmp .ge 19, 3) := by decide +kernel
theorem dL_put_10 : decode cL_put 10 = .ok (.aload_n 0, 1) := by decide +kernel
theorem dL_put_11 : decode cL_put 11 = .ok (.aload_n 1, 1) := by decide +kernel
theorem dL_put_12 : decode cL_put 12 = .ok (.iload_n 2, 1) := by decide +kernel
theorem dL_put_13 : decode cL_put 13 = .ok (.invokevirtual 13, 3) := by decide +kernel
theorem dL_put_16 : decode cL_put 16 = .ok (.invokevirtual 17, 3) := by decide +kernel
theorem dL_put_19 : decode cL_put 19 = .ok (.pop, 1) := by decide +kernel
theorem dL_put_20 : decode cL_put 20 = .ok (.iinc 2 1, 3) := by decide +kernel
theorem dL_put_23 : decode cL_put 23 = .ok (.goto (-21), 3) := by decide +kernel
theorem dL_put_26 : decode cL_put 26 = .ok (.return_, 1) := by decide +kernel
set_option maxRecDepth 20000 in
theorem ggL_build_X10_init_q0 : GoodIn wsL_buildQ ((.code yX10_init cX10_init 1 none) :: wsX10_init_r1) := goodIn_r _ [7, 8, 9, 10, 11, 12, 13, 14, 15, 16, 17, 18, 19, 20, 21, 22, 23, 24, 25, 26, 27, 28, 29, 30, 31] (by decide +kernel) (by decide +kernel)
set_option maxRecDepth 20000 in
theorem ggL_build_X10_init_q1 : GoodIn wsL_buildQ wsX10_init_r2 := goodIn_r _ [32, 33, 34, 35, 36, 37, 38, 39, 40, 41, 42, 43, 44, 45, 46, 47, 48, 49, 50, 51, 52, 53, 54, 55] (by decide +kernel) (by decide +kernel)
set_option maxRecDepth 20000 in
theorem ggL_build_X10_init_q2 : GoodIn wsL_buildQ wsX10_init_r3 := goodIn_r _ [56, 57, 58, 59, 60, 61, 62, 63, 64, 65, 66, 67, 68, 69, 70, 71, 72, 73, 74, 75, 76, 77, 78, 79] (by decide +kernel) (by decide +kernel)
set_option maxRecDepth 20000 in
theorem ggL_build_X10_init_q3 : GoodIn wsL_buildQ wsX10_init_r4 := goodIn_r _ [80, 81, 82, 83, 84, 85, 86, 87, 88, 89, 90, 91, 92, 93, 94, 95, 96, 97, 98, 99, 100, 101, 102, 103] (by decide +kernel) (by decide +kernel)
set_option maxRecDepth 20000 in
theorem ggL_build_X10_init_q4 : GoodIn wsL_buildQ wsX10_init_r5 := goodIn_r _ [104, 105, 106, 107, 108, 109, 110, 111, 112, 113, 114, 115, 116, 117, 118, 119, 120, 121, 122, 123, 124, 125, 126, 127] (by decide +kernel) (by decide +kernel)
set_option maxRecDepth 20000 in
theorem ggL_build_X10_init_q5 : GoodIn wsL_buildQ wsX10_init_r6 := goodIn_r _ [128, 129, 130, 131, 132, 133, 134, 135, 136, 137, 138, 139] (by decide +kernel) (by decide +kernel)
set_option maxRecDepth 20000 in
theorem ggL_build_X10_init_q6 : GoodIn wsL_buildQ wsX70 := goodIn_r _ [491, 492, 493, 494, 495, 496, 497, 498, 499, 500, 501, 502, 503, 504, 505, 506, 507] (by decide +kernel) (by decide +kernel)
set_option maxRecDepth 20000 in
theorem ggL_build_X10_init_q7 : GoodIn wsL_buildQ wsX100 := goodIn_r _ [478, 479, 480, 481, 482, 483, 484, 485, 486, 487, 488, 489, 490] (by decide +kernel) (by decide +kernel)
set_option maxRecDepth 20000 in
theorem ggL_build_X10_init_q8 : GoodIn wsL_buildQ wsX30 := goodIn_r _ [508, 509, 510] (by decide +kernel) (by decide +kernel)
set_option maxRecDepth 20000 in
theorem ggL_build_X10_init_q9 : GoodIn wsL_buildQ wsX80 := goodIn_r _ [511, 512, 513] (by decide +kernel) (by decide +kernel)
set_option maxRecDepth 20000 in
theorem ggL_build_X10_init_q10 : GoodIn wsL_buildQ wsX10 := goodIn_r _ [514, 515] (by decide +kernel) (by decide +kernel)
set_option maxRecDepth 20000 in
theorem ggL_build_X10_init_q11 : GoodIn wsL_buildQ wsX20 := goodIn_r _ [516, 517] (by decide +kernel) (by decide +kernel)
set_option maxRecDepth 20000 in
theorem ggL_build_X10_init_q12 : GoodIn wsL_buildQ wsX50 := goodIn_r _ [518, 519, 520, 521, 522, 523] (by decide +kernel) (by decide +kernel)
set_option maxRecDepth 20000 in
theorem ggL_build_X10_init_q13 : GoodIn wsL_buildQ wsX60 := goodIn_r _ [524, 525, 526, 527, 528, 529, 530, 531] (by decide +kernel) (by decide +kernel)
set_option maxRecDepth 20000 in
theorem ggL_build_X10_init_q14 : GoodIn wsL_buildQ wsJ40 := goodIn_r _ [532, 533, 534, 535] (by decide +kernel) (by decide +kernel)
set_option maxRecDepth 20000 in
theorem ggL_build_X10_init : GoodIn wsL_buildQ wsX10_init := (goodIn_ca (goodIn_ca (goodIn_ca (goodIn_ca (goodIn_ca (goodIn_ca (goodIn_ca (goodIn_ca (goodIn_ca (goodIn_ca (ggL_build_X10_init_q0) (goodIn_app (ggL_build_X10_init_q1) (goodIn_app (ggL_build_X10_init_q2) (goodIn_app (ggL_build_X10_init_q3) (goodIn_app (ggL_build_X10_init_q4) (ggL_build_X10_init_q5)))))) (ggL_build_X10_init_q6)) (ggL_build_X10_init_q7)) (ggL_build_X10_init_q8)) (ggL_build_X10_init_q9)) (ggL_build_X10_init_q10)) (ggL_build_X10_init_q11)) (ggL_build_X10_init_q12)) (ggL_build_X10_init_q13)) (ggL_build_X10_init_q14))
set_option maxRecDepth 20000 in
theorem gL_build_X10_init : GoodIn wsL_buildQ (wsX10_init) := ggL_build_X10_init
set_option maxRecDepth 20000 in
theorem ggL_build_L_at : GoodIn wsL_buildQ wsL_at := goodIn_ca (goodIn_r _ [143] (by decide +kernel) (by decide +kernel)) (goodIn_sub (fun _ h => List.mem_cons_of_mem _ (List.mem_append_left _ (List.mem_append_left _ (List.mem_append_left _ (List.mem_append_left _ (List.mem_append_left _ (List.mem_append_left _ (List.mem_append_right _ h)))))))) (by decide +kernel))
set_option maxRecDepth 20000 in
theorem gL_build_L_at : GoodIn wsL_buildQ (va_wsS RL 24 yL_at wsL_at) := goodIn_app (goodIn_of _ (by decide +kernel)) ggL_build_L_at
set_option maxRecDepth 20000 in
theorem ggL_build_L_act_q0 : GoodIn wsL_buildQ ((.codeWith yL_act cL_act 5 (some .int) [(0, 97, 247, 107), (98, 104, 247, 107), (105, 111, 247, 107), (112, 118, 247, 107), (119, 125, 247, 107), (126, 132, 247, 107), (133, 146, 247, 107), (147, 153, 247, 107), (154, 159, 247, 107), (160, 183, 247, 107), (184, 189, 247, 107), (190, 195, 247, 107), (196, 201, 247, 107), (202, 207, 247, 107), (208, 213, 247, 107), (214, 220, 247, 107), (221, 226, 247, 107), (227, 233, 247, 107), (234, 240, 247, 107), (241, 246, 247, 107), (0, 97, 251, 109), (98, 104, 251, 109), (105, 111, 251, 109), (112, 118, 251, 109), (119, 125, 251, 109), (126, 132, 251, 109), (133, 146, 251, 109), (147, 153, 251, 109), (154, 159, 251, 109), (160, 183, 251, 109), (184, 189, 251, 109), (190, 195, 251, 109), (196, 201, 251, 109), (202, 207, 251, 109), (208, 213, 251, 109), (214, 220, 251, 109), (221, 226, 251, 109), (227, 233, 251, 109), (234, 240, 251, 109), (241, 246, 251, 109), (0, 97, 256, 111), (98, 104, 256, 111), (105, 111, 256, 111), (112, 118, 256, 111), (119, 125, 256, 111), (126, 132, 256, 111), (133, 146, 256, 111), (147, 153, 256, 111), (154, 159, 256, 111), (160, 183, 256, 111), (184, 189, 256, 111), (190, 195, 256, 111), (196, 201, 256, 111), (202, 207, 256, 111), (208, 213, 256, 111), (214, 220, 256, 111), (221, 226, 256, 111), (227, 233, 256, 111), (234, 240, 256, 111), (241, 246, 256, 111), (0, 97, 261, 113), (98, 104, 261, 113), (105, 111, 261, 113), (112, 118, 261, 113), (119, 125, 261, 113), (126, 132, 261, 113), (133, 146, 261, 113), (147, 153, 261, 113), (154, 159, 261, 113), (160, 183, 261, 113), (184, 189, 261, 113), (190, 195, 261, 113), (196, 201, 261, 113), (202, 207, 261, 113), (208, 213, 261, 113), (214, 220, 261, 113), (221, 226, 261, 113), (227, 233, 261, 113), (234, 240, 261, 113), (241, 246, 261, 113), (0, 97, 266, 115), (98, 104, 266, 115), (105, 111, 266, 115), (112, 118, 266, 115), (119, 125, 266, 115), (126, 132, 266, 115), (133, 146, 266, 115), (147, 153, 266, 115), (154, 159, 266, 115), (160, 183, 266, 115), (184, 189, 266, 115), (190, 195, 266, 115), (196, 201, 266, 115), (202, 207, 266, 115), (208, 213, 266, 115), (214, 220, 266, 115), (221, 226, 266, 115), (227, 233, 266, 115), (234, 240, 266, 115), (241, 246, 266, 115)]) :: wsL_act_r1) := goodIn_r _ [146, 147, 148, 149, 150, 151, 152, 153, 154, 3, 155, 15, 14, 29, 156, 157, 158, 13, 159, 52, 54, 56, 57, 58, 59] (by decide +kernel) (by decide +kernel)
set_option maxRecDepth 20000 in
theorem ggL_build_L_act_q1 : GoodIn wsL_buildQ wsL_act_r2 := goodIn_r _ [60, 61, 63, 64, 65, 66, 67, 68, 69, 70, 71, 160, 161, 162, 28, 163, 90, 164, 165, 166, 167, 168, 169, 170] (by decide +kernel) (by decide +kernel)
set_option maxRecDepth 20000 in
theorem ggL_build_L_act_q2 : GoodIn wsL_buildQ wsL_act_r3 := goodIn_r _ [171, 172, 21, 173, 174, 175, 176, 177, 178, 179, 180, 181, 182, 183, 184, 185, 186, 187, 188, 20, 189, 79, 78, 77] (by decide +kernel) (by decide +kernel)
set_option maxRecDepth 20000 in
theorem ggL_build_L_act_q3 : GoodIn wsL_buildQ wsL_act_r4 := goodIn_r _ [190, 191, 192, 193, 194, 195, 196, 197, 198, 91, 199, 200, 201, 202, 203, 204, 205, 206, 207, 208, 209, 24, 210, 83] (by decide +kernel) (by decide +kernel)
set_option maxRecDepth 20000 in
theorem ggL_build_L_act_q4 : GoodIn wsL_buildQ wsL_act_r5 := goodIn_r _ [85, 211, 84, 212, 213, 214, 215, 216, 217, 218, 219, 220, 221, 222, 223, 224, 225, 226, 227, 228, 229, 230, 231, 232] (by decide +kernel) (by decide +kernel)
set_option maxRecDepth 20000 in
theorem ggL_build_L_act_q5 : GoodIn wsL_buildQ wsL_act_r6 := goodIn_r _ [233, 234, 235, 236, 237, 238, 239, 240, 241, 242, 243, 244, 245, 246, 247, 248, 249, 250, 251, 252, 253, 254, 255, 256] (by decide +kernel) (by decide +kernel)
set_option maxRecDepth 20000 in
theorem ggL_build_L_act_q6 : GoodIn wsL_buildQ wsL_act_r7 := goodIn_r _ [257, 258, 259, 260, 261, 262, 263, 264, 265, 266, 267, 268, 269, 270, 271, 272, 273, 274, 275, 276, 277, 278, 279, 280] (by decide +kernel) (by decide +kernel)
set_option maxRecDepth 20000 in
theorem ggL_build_L_act_q7 : GoodIn wsL_buildQ wsL_act_r8 := goodIn_r _ [281, 282, 283, 284, 285, 286, 287, 288, 289, 290, 291, 292, 293, 294, 295, 296, 297, 298, 299, 300, 301, 302, 303, 304] (by decide +kernel) (by decide +kernel)
set_option maxRecDepth 20000 in
theorem ggL_build_L_act_q8 : GoodIn wsL_buildQ wsL_act_r9 := goodIn_r _ [305, 306, 307, 308, 309, 310, 311, 312, 313, 314, 315, 316, 317, 318, 319, 320, 321, 322, 323, 324, 325, 326, 327, 328] (by decide +kernel) (by decide +kernel)
set_option maxRecDepth 20000 in
theorem ggL_build_L_act_q9 : GoodIn wsL_buildQ wsL_act_r10 := goodIn_r _ [329, 330, 331, 332, 333, 334, 335, 336, 337, 338, 339, 340, 341, 342, 343, 344, 345, 346, 347, 348, 349, 350, 351, 352] (by decide +kernel) (by decide +kernel)
set_option maxRecDepth 20000 in
theorem ggL_build_L_act_q10 : GoodIn wsL_buildQ wsL_act_r11 := goodIn_r _ [353, 354, 355, 356, 357, 358, 359, 360, 361, 362, 363, 364, 365, 366, 367, 368, 369, 370, 371, 372, 373, 374, 375, 376] (by decide +kernel) (by decide +kernel)
set_option maxRecDepth 20000 in
theorem ggL_build_L_act_q11 : GoodIn wsL_buildQ wsL_act_r12 := goodIn_r _ [377, 378, 379, 380, 381, 382, 383, 384, 385, 386, 387, 388, 389, 390, 391, 392, 393, 394, 395, 396, 397, 398, 399, 400] (by decide +kernel) (by decide +kernel)
set_option maxRecDepth 20000 in
theorem ggL_build_L_act_q12 : GoodIn wsL_buildQ wsL_act_r13 := goodIn_r _ [401, 402, 403, 404, 405, 406, 407, 408, 409, 410, 411, 412, 413, 414, 415, 416, 417, 418, 419, 420, 421, 25, 422, 423] (by decide +kernel) (by decide +kernel)
set_option maxRecDepth 20000 in
theorem ggL_build_L_act_q13 : GoodIn wsL_buildQ wsL_act_r14 := goodIn_r _ [424, 425, 426, 427, 37, 428, 429, 430, 431, 432, 433, 36, 434, 107, 435, 436, 437, 438, 439, 440, 441, 442, 443, 444] (by decide +kernel) (by decide +kernel)
set_option maxRecDepth 20000 in
theorem ggL_build_L_act_q14 : GoodIn wsL_buildQ wsL_act_r15 := goodIn_r _ [445, 446, 447, 448, 449, 450, 451, 106, 103, 102, 104, 105, 452, 453, 454, 455, 456, 457, 458, 459, 460, 461, 462, 463] (by decide +kernel) (by decide +kernel)
set_option maxRecDepth 20000 in
theorem ggL_build_L_act_q15 : GoodIn wsL_buildQ wsL_act_r16 := goodIn_r _ [464, 465, 466, 467, 468, 469, 470, 471, 472, 473, 474] (by decide +kernel) (by decide +kernel)
set_option maxRecDepth 20000 in
theorem ggL_build_L_act : GoodIn wsL_buildQ wsL_act := goodIn_ca (goodIn_ca (goodIn_ca (goodIn_ca (goodIn_ca (goodIn_ca ((goodIn_ca (goodIn_ca (goodIn_ca (goodIn_ca (goodIn_ca (goodIn_ca (goodIn_ca (ggL_build_L_act_q0) (goodIn_app (ggL_build_L_act_q1) (goodIn_app (ggL_build_L_act_q2) (goodIn_app (ggL_build_L_act_q3) (goodIn_app (ggL_build_L_act_q4) (goodIn_app (ggL_build_L_act_q5) (goodIn_app (ggL_build_L_act_q6) (goodIn_app (ggL_build_L_act_q7) (goodIn_app (ggL_build_L_act_q8) (goodIn_app (ggL_build_L_act_q9) (goodIn_app (ggL_build_L_act_q10) (goodIn_app (ggL_build_L_act_q11) (goodIn_app (ggL_build_L_act_q12) (goodIn_app (ggL_build_L_act_q13) (goodIn_app (ggL_build_L_act_q14) (ggL_build_L_act_q15)))))))))))))))) (ggL_build_X10_init_q7)) (ggL_build_X10_init_q6)) (ggL_build_X10_init_q10)) (ggL_build_X10_init_q8)) (ggL_build_X10_init_q9)) (ggL_build_X10_init_q12))) (goodIn_sub (fun _ h => List.mem_cons_of_mem _ (List.mem_append_left _ (List.mem_append_left _ (List.mem_append_left _ (List.mem_append_left _ (List.mem_append_left _ (List.mem_append_left _ (List.mem_append_right _ h)))))))) (by decide +kernel))) (goodIn_sub (fun _ h => List.mem_cons_of_mem _ (List.mem_append_left _ (List.mem_append_left _ (List.mem_append_left _ (List.mem_append_left _ (List.mem_append_right _ h)))))) (by decide +kernel))) (goodIn_sub (fun _ h => List.mem_cons_of_mem _ (List.mem_append_left _ (List.mem_append_left _ (List.mem_append_left _ (List.mem_append_right _ h))))) (by decide +kernel))) (goodIn_sub (fun _ h => List.mem_cons_of_mem _ (List.mem_append_left _ (List.mem_append_left _ (List.mem_append_right _ h)))) (by decide +kernel))) (goodIn_sub (fun _ h => List.mem_cons_of_mem _ (List.mem_append_left _ (List.mem_append_right _ h))) (by decide +kernel))) (goodIn_sub (fun _ h => List.mem_cons_of_mem _ (List.mem_append_right _ h)) (by decide +kernel))
set_option maxRecDepth 20000 in
theorem gL_build_L_act : GoodIn wsL_buildQ (va_wsS RL 34 yL_act wsL_act) := goodIn_app (goodIn_of _ (by decide +kernel)) ggL_build_L_act
set_option maxRecDepth 20000 in
theorem ggL_build_L_has_q0 : GoodIn wsL_buildQ ((.code yL_has cL_has 2 (some .boolean)) :: wsL_has_r1) := goodIn_r _ [477, 144, 145, 142, 146, 147, 148, 149, 150, 151, 152, 153, 154, 3, 155, 15, 14, 29, 156, 157, 158, 13, 159, 52, 54] (by decide +kernel) (by decide +kernel)
set_option maxRecDepth 20000 in
theorem ggL_build_L_has_q1 : GoodIn wsL_buildQ wsL_has_r2 := goodIn_r _ [56, 57, 58, 59, 60, 61, 63, 64, 65, 66, 67, 68, 69, 70, 71, 160, 161, 162, 28, 163, 90, 164, 165, 166] (by decide +kernel) (by decide +kernel)
set_option maxRecDepth 20000 in
theorem ggL_build_L_has_q2 : GoodIn wsL_buildQ wsL_has_r3 := goodIn_r _ [167, 168, 169, 170, 171, 172, 21, 173, 174, 175, 176, 177, 178, 179, 180, 181, 182, 183, 184, 185, 186, 187, 188, 20] (by decide +kernel) (by decide +kernel)
set_option maxRecDepth 20000 in
theorem ggL_build_L_has_q3 : GoodIn wsL_buildQ wsL_has_r4 := goodIn_r _ [189, 79, 78, 77, 190, 191, 192, 193, 194, 195, 196, 197, 198, 91, 199, 200, 201, 202, 203, 204, 205, 206, 207, 208] (by decide +kernel) (by decide +kernel)
set_option maxRecDepth 20000 in
theorem ggL_build_L_has_q4 : GoodIn wsL_buildQ wsL_has_r5 := goodIn_r _ [209, 24, 210, 83, 85, 211, 84, 212, 213, 214, 215, 216, 217, 218, 219, 220, 221, 222, 223, 224, 225, 226, 227, 228] (by decide +kernel) (by decide +kernel)
set_option maxRecDepth 20000 in
theorem ggL_build_L_has_q5 : GoodIn wsL_buildQ wsL_has_r6 := goodIn_r _ [229, 230, 231, 232, 233, 234, 235, 236, 237, 238, 239, 240, 241, 242, 243, 244, 245, 246, 247, 248, 249, 250, 251, 252] (by decide +kernel) (by decide +kernel)
set_option maxRecDepth 20000 in
theorem ggL_build_L_has_q6 : GoodIn wsL_buildQ wsL_has_r7 := goodIn_r _ [253, 254, 255, 256, 257, 258, 259, 260, 261, 262, 263, 264, 265, 266, 267, 268, 269, 270, 271, 272, 273, 274, 275, 276] (by decide +kernel) (by decide +kernel)
set_option maxRecDepth 20000 in
theorem ggL_build_L_has_q7 : GoodIn wsL_buildQ wsL_has_r8 := goodIn_r _ [277, 278, 279, 280, 281, 282, 283, 284, 285, 286, 287, 288, 289, 290, 291, 292, 293, 294, 295, 296, 297, 298, 299, 300] (by decide +kernel) (by decide +kernel)
set_option maxRecDepth 20000 in
theorem ggL_build_L_has_q8 : GoodIn wsL_buildQ wsL_has_r9 := goodIn_r _ [301, 302, 303, 304, 305, 306, 307, 308, 309, 310, 311, 312, 313, 314, 315, 316, 317, 318, 319, 320, 321, 322, 323, 324] (by decide +kernel) (by decide +kernel)
set_option maxRecDepth 20000 in
theorem ggL_build_L_has_q9 : GoodIn wsL_buildQ wsL_has_r10 := goodIn_r _ [325, 326, 327, 328, 329, 330, 331, 332, 333, 334, 335, 336, 337, 338, 339, 340, 341, 342, 343, 344, 345, 346, 347, 348] (by decide +kernel) (by decide +kernel)
set_option maxRecDepth 20000 in
theorem ggL_build_L_has_q10 : GoodIn wsL_buildQ wsL_has_r11 := goodIn_r _ [349, 350, 351, 352, 353, 354, 355, 356, 357, 358, 359, 360, 361, 362, 363, 364, 365, 366, 367, 368, 369, 370, 371, 372] (by decide +kernel) (by decide +kernel)
set_option maxRecDepth 20000 in
theorem ggL_build_L_has_q11 : GoodIn wsL_buildQ wsL_has_r12 := goodIn_r _ [373, 374, 375, 376, 377, 378, 379, 380, 381, 382, 383, 384, 385, 386, 387, 388, 389, 390, 391, 392, 393, 394, 395, 396] (by decide +kernel) (by decide +kernel)
set_option maxRecDepth 20000 in
theorem ggL_build_L_has_q12 : GoodIn wsL_buildQ wsL_has_r13 := goodIn_r _ [397, 398, 399, 400, 401, 402, 403, 404, 405, 406, 407, 408, 409, 410, 411, 412, 413, 414, 415, 416, 417, 418, 419, 420] (by decide +kernel) (by decide +kernel)
set_option maxRecDepth 20000 in
theorem ggL_build_L_has_q13 : GoodIn wsL_buildQ wsL_has_r14 := goodIn_r _ [421, 25, 422, 423, 424, 425, 426, 427, 37, 428, 429, 430, 431, 432, 433, 36, 434, 107, 435, 436, 437, 438, 439, 440] (by decide +kernel) (by decide +kernel)
set_option maxRecDepth 20000 in
theorem ggL_build_L_has_q14 : GoodIn wsL_buildQ wsL_has_r15 := goodIn_r _ [441, 442, 443, 444, 445, 446, 447, 448, 449, 450, 451, 106, 103, 102, 104, 105, 452, 453, 454, 455, 456, 457, 458, 459] (by decide +kernel) (by decide +kernel)
set_option maxRecDepth 20000 in
theorem ggL_build_L_has_q15 : GoodIn wsL_buildQ wsL_has_r16 := goodIn_r _ [460, 461, 462, 463, 464, 465, 466, 467, 468, 469, 470, 471, 472, 473, 474] (by decide +kernel) (by decide +kernel)
set_option maxRecDepth 20000 in
theorem ggL_build_L_has : GoodIn wsL_buildQ wsL_has := goodIn_ca (goodIn_ca (goodIn_ca (goodIn_ca (goodIn_ca (goodIn_ca ((goodIn_ca (goodIn_ca (goodIn_ca (goodIn_ca (goodIn_ca (goodIn_ca (goodIn_ca (ggL_build_L_has_q0) (goodIn_app (ggL_build_L_has_q1) (goodIn_app (ggL_build_L_has_q2) (goodIn_app (ggL_build_L_has_q3) (goodIn_app (ggL_build_L_has_q4) (goodIn_app (ggL_build_L_has_q5) (goodIn_app (ggL_build_L_has_q6) (goodIn_app (ggL_build_L_has_q7) (goodIn_app (ggL_build_L_has_q8) (goodIn_app (ggL_build_L_has_q9) (goodIn_app (ggL_build_L_has_q10) (goodIn_app (ggL_build_L_has_q11) (goodIn_app (ggL_build_L_has_q12) (goodIn_app (ggL_build_L_has_q13) (goodIn_app (ggL_build_L_has_q14) (ggL_build_L_has_q15)))))))))))))))) (ggL_build_X10_init_q7)) (ggL_build_X10_init_q6)) (ggL_build_X10_init_q10)) (ggL_build_X10_init_q8)) (ggL_build_X10_init_q9)) (ggL_build_X10_init_q12))) (goodIn_sub (fun _ h => List.mem_cons_of_mem _ (List.mem_append_left _ (List.mem_append_left _ (List.mem_append_left _ (List.mem_append_left _ (List.mem_append_left _ (List.mem_append_left _ (List.mem_append_right _ h)))))))) (by decide +kernel))) (goodIn_sub (fun _ h => List.mem_cons_of_mem _ (List.mem_append_left _ (List.mem_append_left _ (List.mem_append_left _ (List.mem_append_left _ (List.mem_append_right _ h)))))) (by decide +kernel))) (goodIn_sub (fun _ h => List.mem_cons_of_mem _ (List.mem_append_left _ (List.mem_append_left _ (List.mem_append_left _ (List.mem_append_right _ h))))) (by decide +kernel))) (goodIn_sub (fun _ h => List.mem_cons_of_mem _ (List.mem_append_left _ (List.mem_append_left _ (List.mem_append_right _ h)))) (by decide +kernel))) (goodIn_sub (fun _ h => List.mem_cons_of_mem _ (List.mem_append_left _ (List.mem_append_right _ h))) (by decide +kernel))) (goodIn_sub (fun _ h => List.mem_cons_of_mem _ (List.mem_append_right _ h)) (by decide +kernel))
set_option maxRecDepth 20000 in
theorem gL_build_L_has : GoodIn wsL_buildQ (va_wsS RL 38 yL_has wsL_has) := goodIn_app (goodIn_of _ (by decide +kernel)) ggL_build_L_has
theorem dL_build_0 : decode cL_build 0 = .ok (.new 18, 3) := by decide +kernel
theorem dL_build_3 : decode cL_build 3 = .ok (.dup, 1) := by decide +kernel
theorem dL_build_4 : decode cL_build 4 = .ok (.invokespecial 23, 3) := by decide +kernel
theorem dL_build_7 : decode cL_build 7 = .ok (.astore_n 1, 1) := by decide +kernel
theorem dL_build_8 : decode cL_build 8 = .ok (.aload_n 0, 1) := by decide +kernel
theorem dL_build_9 : decode cL_build 9 = .ok (.iconst 0, 1) := by decide +kernel
theorem dL_build_10 : decode cL_build 10 = .ok (.invokestatic 24, 3) := by decide +kernel
theorem dL_build_13 : decode cL_build 13 = .ok (.istore_n 2, 1) := by decide +kernel
theorem dL_build_14 : decode cL_build 14 = .ok (.iconst 4, 1) := by decide +kernel
theorem dL_build_15 : decode cL_build 15 = .ok (.iload_n 2, 1) := by decide +kernel
theorem dL_build_16 : decode cL_build 16 = .ok (.iconst 3, 1) := by decide +kernel
theorem dL_build_17 : decode cL_build 17 = .ok (.iand, 1) := by decide +kernel
theorem dL_build_18 : decode cL_build 18 = .ok (.iadd, 1) := by decide +kernel
theorem dL_build_19 : decode cL_build 19 = .ok (.istore_n 3, 1) := by decide +kernel
theorem dL_build_20 : decode cL_build 20 = .ok (.iconst 0, 1) := by decide +kernel
theorem dL_build_21 : decode cL_build 21 = .ok (.istore 4, 2) := by decide +kernel
theorem dL_build_23 : decode cL_build 23 = .ok (.iload 4, 2) := by decide +kernel
theorem dL_build_25 : decode cL_build 25 = .ok (.iload_n 3, 1) := by decide +kernel
theorem dL_build_26 : decode cL_build 26 = .ok (.if_icmp .ge 34, 3) := by decide +kernel
theorem dL_build_29 : decode cL_build 29 = .ok (.aload_n 1, 1) := by decide +kernel
theorem dL_build_30 : decode cL_build 30 = .ok (.iconst 0, 1) := by decide +kernel
theorem dL_build_31 : decode cL_build 31 = .ok (.getstatic 30, 3) := by decide +kernel
theorem dL_build_34 : decode cL_build 34 = .ok (.iload_n 2, 1) := by decide +kernel
theorem dL_build_35 : decode cL_build 35 = .ok (.iconst 2, 1) := by decide +kernel
theorem dL_build_36 : decode cL_build 36 = .ok (.iconst 3, 1) := by decide +kernel
theorem dL_build_37 : decode cL_build 37 = .ok (.iload 4, 2) := by decide +kernel
theorem dL_build_39 : decode cL_build 39 = .ok (.imul, 1) := by decide +kernel
theorem dL_build_40 : decode cL_build 40 = .ok (.iadd, 1) := by decide +kernel
theorem dL_build_41 : decode cL_build 41 = .ok (.ishr, 1) := by decide +kernel
theorem dL_build_42 : decode cL_build 42 = .ok (.bipush 15, 2) := by decide +kernel
theorem dL_build_44 : decode cL_build 44 = .ok (.iand, 1) := by decide +kernel
theorem dL_build_45 : decode cL_build 45 = .ok (.bipush 10, 2) := by decide +kernel
theorem dL_build_47 : decode cL_build 47 = .ok (.irem, 1) := by decide +kernel
theorem dL_build_48 : decode cL_build 48 = .ok (.iaload, 1) := by decide +kernel
theorem dL_build_49 : decode cL_build 49 = .ok (.iconst 0, 1) := by decide +kernel
theorem dL_build_50 : decode cL_build 50 = .ok (.invokestatic 34, 3) := by decide +kernel
theorem dL_build_53 : decode cL_build 53 = .ok (.pop, 1) := by decide +kernel
theorem dL_build_54 : decode cL_build 54 = .ok (.iinc 4 1, 3) := by decide +kernel
theorem dL_build_57 : decode cL_build 57 = .ok (.goto (-34), 3) := by decide +kernel
theorem dL_build_60 : decode cL_build 60 = .ok (.iconst 1, 1) := by decide +kernel
theorem dL_build_61 : decode cL_build 61 = .ok (.istore 4, 2) := by decide +kernel
theorem dL_build_63 : decode cL_build 63 = .ok (.iload 4, 2) := by decide +kernel
theorem dL_build_65 : decode cL_build 65 = .ok (.iload_n 3, 1) := by decide +kernel
theorem dL_build_66 : decode cL_build 66 = .ok (.if_icmp .ge 36, 3) := by decide +kernel
theorem dL_build_69 : decode cL_build 69 = .ok (.aload_n 1, 1) := by decide +kernel
theorem dL_build_70 : decode cL_build 70 = .ok (.iload_n 2, 1) := by decide +kernel
theorem dL_build_71 : decode cL_build 71 = .ok (.iload 4, 2) := by decide +kernel
theorem dL_build_73 : decode cL_build 73 = .ok (.ishr, 1) := by decide +kernel
theorem dL_build_74 : decode cL_build 74 = .ok (.iconst 1, 1) := by decide +kernel
theorem dL_build_75 : decode cL_build 75 = .ok (.iand, 1) := by decide +kernel
theorem dL_build_76 : decode cL_build 76 = .ok (.iconst 1, 1) := by decide +kernel
theorem dL_build_77 : decode cL_build 77 = .ok (.iadd, 1) := by decide +kernel
theorem dL_build_78 : decode cL_build 78 = .ok (.iload_n 2, 1) := by decide +kernel
theorem dL_build_79 : decode cL_build 79 = .ok (.iconst 3, 1) := by decide +kernel
theorem dL_build_80 : decode cL_build 80 = .ok (.iload 4, 2) := by decide +kernel
theorem dL_build_82 : decode cL_build 82 = .ok (.iadd, 1) := by decide +kernel
theorem dL_build_83 : decode cL_build 83 = .ok (.ishr, 1) := by decide +kernel
theorem dL_build_84 : decode cL_build 84 = .ok (.bipush 7, 2) := by decide +kernel
theorem dL_build_86 : decode cL_build 86 = .ok (.iand, 1) := by decide +kernel
theorem dL_build_87 : decode cL_build 87 = .ok (.iload 4, 2) := by decide +kernel
theorem dL_build_89 : decode cL_build 89 = .ok (.irem, 1) := by decide +kernel
theorem dL_build_90 : decode cL_build 90 = .ok (.iload 4, 2) := by decide +kernel
theorem dL_build_92 : decode cL_build 92 = .ok (.invokestatic 34, 3) := by decide +kernel
theorem dL_build_95 : decode cL_build 95 = .ok (.pop, 1) := by decide +kernel
theorem dL_build_96 : decode cL_build 96 = .ok (.iinc 4 1, 3) := by decide +kernel
theorem dL_build_99 : decode cL_build 99 = .ok (.goto (-36), 3) := by decide +kernel
theorem dL_build_102 : decode cL_build 102 = .ok (.aload_n 1, 1) := by decide +kernel
theorem dL_build_103 : decode cL_build 103 = .ok (.iconst 4, 1) := by decide +kernel
theorem dL_build_104 : decode cL_build 104 = .ok (.iload_n 2, 1) := by decide +kernel
theorem dL_build_105 : decode cL_build 105 = .ok (.iload_n 3, 1) := by decide +kernel
theorem dL_build_106 : decode cL_build 106 = .ok (.irem, 1) := by decide +kernel
theorem dL_build_107 : decode cL_build 107 = .ok (.ifCond .ge 7, 3) := by decide +kernel
theorem dL_build_110 : decode cL_build 110 = .ok (.iconst 0, 1) := by decide +kernel
theorem dL_build_111 : decode cL_build 111 = .ok (.goto 6, 3) := by decide +kernel
theorem dL_build_114 : decode cL_build 114 = .ok (.iload_n 2, 1) := by decide +kernel
theorem dL_build_115 : decode cL_build 115 = .ok (.iload_n 3, 1) := by decide +kernel
theorem dL_build_116 : decode cL_build 116 = .ok (.irem, 1) := by decide +kernel
theorem dL_build_117 : decode cL_build 117 = .ok (.bipush 60, 2) := by decide +kernel
theorem dL_build_119 : decode cL_build 119 = .ok (.invokestatic 34, 3) := by decide +kernel
theorem dL_build_122 : decode cL_build 122 = .ok (.pop, 1) := by decide +kernel
theorem dL_build_123 : decode cL_build 123 = .ok (.iconst 0, 1) := by decide +kernel
theorem dL_build_124 : decode cL_build 124 = .ok (.istore 4, 2) := by decide +kernel
theorem dL_build_126 : decode cL_build 126 = .ok (.iload 4, 2) := by decide +kernel
theorem dL_build_128 : decode cL_build 128 = .ok (.iconst 3, 1) := by decide +kernel
theorem dL_build_129 : decode cL_build 129 = .ok (.if_icmp .ge 28, 3) := by decide +kernel
theorem dL_build_132 : decode cL_build 132 = .ok (.aload_n 1, 1) := by decide +kernel
theorem dL_build_133 : decode cL_build 133 = .ok (.bipush 10, 2) := by decide +kernel
theorem dL_build_135 : decode cL_build 135 = .ok (.iload_n 2, 1) := by decide +kernel
theorem dL_build_136 : decode cL_build 136 = .ok (.iconst 4, 1) := by decide +kernel
theorem dL_build_137 : decode cL_build 137 = .ok (.iload 4, 2) := by decide +kernel
theorem dL_build_139 : decode cL_build 139 = .ok (.imul, 1) := by decide +kernel
theorem dL_build_140 : decode cL_build 140 = .ok (.ishr, 1) := by decide +kernel
theorem dL_build_141 : decode cL_build 141 = .ok (.bipush 7, 2) := by decide +kernel
theorem dL_build_143 : decode cL_build 143 = .ok (.iand, 1) := by decide +kernel
theorem dL_build_144 : decode cL_build 144 = .ok (.iload_n 3, 1) := by decide +kernel
theorem dL_build_145 : decode cL_build 145 = .ok (.irem, 1) := by decide +kernel
theorem dL_build_146 : decode cL_build 146 = .ok (.iconst 0, 1) := by decide +kernel
theorem dL_build_147 : decode cL_build 147 = .ok (.invokestatic 34, 3) := by decide +kernel
theorem dL_build_150 : decode cL_build 150 = .ok (.pop, 1) := by decide +kernel
theorem dL_build_151 : decode cL_build 151 = .ok (.iinc 4 1, 3) := by decide +kernel
theorem dL_build_154 : decode cL_build 154 = .ok (.goto (-28), 3) := by decide +kernel
theorem dL_build_157 : decode cL_build 157 = .ok (.iconst 1, 1) := by decide +kernel
theorem dL_build_158 : decode cL_build 158 = .ok (.istore 4, 2) := by decide +kernel
theorem dL_build_160 : decode cL_build 160 = .ok (.iload 4, 2) := by decide +kernel
theorem dL_build_162 : decode cL_build 162 = .ok (.bipush 13, 2) := by decide +kernel
theorem dL_build_164 : decode cL_build 164 = .ok (.if_icmp .ge 337, 3) := by decide +kernel
theorem dL_build_167 : decode cL_build 167 = .ok (.aload_n 0, 1) := by decide +kernel
theorem dL_build_168 : decode cL_build 168 = .ok (.iload 4, 2) := by decide +kernel
theorem dL_build_170 : decode cL_build 170 = .ok (.invokestatic 24, 3) := by decide +kernel
theorem dL_build_173 : decode cL_build 173 = .ok (.istore 5, 2) := by decide +kernel
theorem dL_build_175 : decode cL_build 175 = .ok (.iload 5, 2) := by decide +kernel
theorem dL_build_177 : decode cL_build 177 = .ok (.bipush 7, 2) := by decide +kernel
theorem dL_build_179 : decode cL_build 179 = .ok (.iand, 1) := by decide +kernel
theorem dL_build_180 : decode cL_build 180 = .ok (.iload_n 3, 1) := by decide +kernel
theorem dL_build_181 : decode cL_build 181 = .ok (.irem, 1) := by decide +kernel
theorem dL_build_182 : decode cL_build 182 = .ok (.istore 6, 2) := by decide +kernel
theorem dL_build_184 : decode cL_build 184 = .ok (.iload 5, 2) := by decide +kernel
theorem dL_build_186 : decode cL_build 186 = .ok (.iconst 3, 1) := by decide +kernel
theorem dL_build_187 : decode cL_build 187 = .ok (.ishr, 1) := by decide +kernel
theorem dL_build_188 : decode cL_build 188 = .ok (.bipush 7, 2) := by decide +kernel
theorem dL_build_190 : decode cL_build 190 = .ok (.iand, 1) := by decide +kernel
theorem dL_build_191 : decode cL_build 191 = .ok (.iload_n 3, 1) := by decide +kernel
theorem dL_build_192 : decode cL_build 192 = .ok (.irem, 1) := by decide +kernel
theorem dL_build_193 : decode cL_build 193 = .ok (.istore 7, 2) := by decide +kernel
theorem dL_build_195 : decode cL_build 195 = .ok (.aload_n 1, 1) := by decide +kernel
theorem dL_build_196 : decode cL_build 196 = .ok (.iconst 5, 1) := by decide +kernel
theorem dL_build_197 : decode cL_build 197 = .ok (.iload 6, 2) := by decide +kernel
theorem dL_build_199 : decode cL_build 199 = .ok (.iconst 1, 1) := by decide +kernel
theorem dL_build_200 : decode cL_build 200 = .ok (.iload 5, 2) := by decide +kernel
theorem dL_build_202 : decode cL_build 202 = .ok (.bipush 6, 2) := by decide +kernel
theorem dL_build_204 : decode cL_build 204 = .ok (.ishr, 1) := by decide +kernel
theorem dL_build_205 : decode cL_build 205 = .ok (.bipush 31, 2) := by decide +kernel
theorem dL_build_207 : decode cL_build 207 = .ok (.iand, 1) := by decide +kernel
theorem dL_build_208 : decode cL_build 208 = .ok (.iadd, 1) := by decide +kernel
theorem dL_build_209 : decode cL_build 209 = .ok (.invokestatic 34, 3) := by decide +kernel
theorem dL_build_212 : decode cL_build 212 = .ok (.pop, 1) := by decide +kernel
theorem dL_build_213 : decode cL_build 213 = .ok (.aload_n 1, 1) := by decide +kernel
theorem dL_build_214 : decode cL_build 214 = .ok (.iload 6, 2) := by decide +kernel
theorem dL_build_216 : decode cL_build 216 = .ok (.invokestatic 38, 3) := by decide +kernel
theorem dL_build_219 : decode cL_build 219 = .ok (.ifCond .eq 22, 3) := by decide +kernel
theorem dL_build_222 : decode cL_build 222 = .ok (.aload_n 1, 1) := by decide +kernel
theorem dL_build_223 : decode cL_build 223 = .ok (.bipush 7, 2) := by decide +kernel
theorem dL_build_225 : decode cL_build 225 = .ok (.iload 6, 2) := by decide +kernel
theorem dL_build_227 : decode cL_build 227 = .ok (.iconst 1, 1) := by decide +kernel
theorem dL_build_228 : decode cL_build 228 = .ok (.iload 5, 2) := by decide +kernel
theorem dL_build_230 : decode cL_build 230 = .ok (.bipush 11, 2) := by decide +kernel
theorem dL_build_232 : decode cL_build 232 = .ok (.ishr, 1) := by decide +kernel
theorem dL_build_233 : decode cL_build 233 = .ok (.bipush 7, 2) := by decide +kernel
theorem dL_build_235 : decode cL_build 235 = .ok (.iand, 1) := by decide +kernel
theorem dL_build_236 : decode cL_build 236 = .ok (.iadd, 1) := by decide +kernel
theorem dL_build_237 : decode cL_build 237 = .ok (.invokestatic 34, 3) := by decide +kernel
theorem dL_build_240 : decode cL_build 240 = .ok (.pop, 1) := by decide +kernel
theorem dL_build_241 : decode cL_build 241 = .ok (.iload 5, 2) := by decide +kernel
theorem dL_build_243 : decode cL_build 243 = .ok (.bipush 14, 2) := by decide +kernel
theorem dL_build_245 : decode cL_build 245 = .ok (.ishr, 1) := by decide +kernel
theorem dL_build_246 : decode cL_build 246 = .ok (.iconst 3, 1) := by decide +kernel
theorem dL_build_247 : decode cL_build 247 = .ok (.iand, 1) := by decide +kernel
theorem dL_build_248 : decode cL_build 248 = .ok (.ifCond .ne 22, 3) := by decide +kernel
theorem dL_build_251 : decode cL_build 251 = .ok (.aload_n 1, 1) := by decide +kernel
theorem dL_build_252 : decode cL_build 252 = .ok (.iconst 4, 1) := by decide +kernel
theorem dL_build_253 : decode cL_build 253 = .ok (.iload 6, 2) := by decide +kernel
theorem dL_build_255 : decode cL_build 255 = .ok (.bipush 20, 2) := by decide +kernel
theorem dL_build_257 : decode cL_build 257 = .ok (.iload 5, 2) := by decide +kernel
theorem dL_build_259 : decode cL_build 259 = .ok (.bipush 16, 2) := by decide +kernel
theorem dL_build_261 : decode cL_build 261 = .ok (.ishr, 1) := by decide +kernel
theorem dL_build_262 : decode cL_build 262 = .ok (.bipush 63, 2) := by decide +kernel
theorem dL_build_264 : decode cL_build 264 = .ok (.iand, 1) := by decide +kernel
theorem dL_build_265 : decode cL_build 265 = .ok (.iadd, 1) := by decide +kernel
theorem dL_build_266 : decode cL_build 266 = .ok (.invokestatic 34, 3) := by decide +kernel
theorem dL_build_269 : decode cL_build 269 = .ok (.pop, 1) := by decide +kernel
theorem dL_build_270 : decode cL_build 270 = .ok (.iload 5, 2) := by decide +kernel
theorem dL_build_272 : decode cL_build 272 = .ok (.bipush 14, 2) := by decide +kernel
theorem dL_build_274 : decode cL_build 274 = .ok (.ishr, 1) := by decide +kernel
theorem dL_build_275 : decode cL_build 275 = .ok (.iconst 3, 1) := by decide +kernel
theorem dL_build_276 : decode cL_build 276 = .ok (.iand, 1) := by decide +kernel
theorem dL_build_277 : decode cL_build 277 = .ok (.iconst 1, 1) := by decide +kernel
theorem dL_build_278 : decode cL_build 278 = .ok (.if_icmp .ne 13, 3) := by decide +kernel
theorem dL_build_281 : decode cL_build 281 = .ok (.aload_n 1, 1) := by decide +kernel
theorem dL_build_282 : decode cL_build 282 = .ok (.bipush 8, 2) := by decide +kernel
theorem dL_build_284 : decode cL_build 284 = .ok (.iload 7, 2) := by decide +kernel
theorem dL_build_286 : decode cL_build 286 = .ok (.iconst 0, 1) := by decide +kernel
theorem dL_build_287 : decode cL_build 287 = .ok (.invokestatic 34, 3) := by decide +kernel
theorem dL_build_290 : decode cL_build 290 = .ok (.pop, 1) := by decide +kernel
theorem dL_build_291 : decode cL_build 291 = .ok (.iload 5, 2) := by decide +kernel
theorem dL_build_293 : decode cL_build 293 = .ok (.bipush 14, 2) := by decide +kernel
theorem dL_build_295 : decode cL_build 295 = .ok (.ishr, 1) := by decide +kernel
theorem dL_build_296 : decode cL_build 296 = .ok (.bipush 7, 2) := by decide +kernel
theorem dL_build_298 : decode cL_build 298 = .ok (.iand, 1) := by decide +kernel
theorem dL_build_299 : decode cL_build 299 = .ok (.iconst 2, 1) := by decide +kernel
theorem dL_build_300 : decode cL_build 300 = .ok (.if_icmp .ne 13, 3) := by decide +kernel
theorem dL_build_303 : decode cL_build 303 = .ok (.aload_n 1, 1) := by decide +kernel
theorem dL_build_304 : decode cL_build 304 = .ok (.iconst 3, 1) := by decide +kernel
theorem dL_build_305 : decode cL_build 305 = .ok (.iload 6, 2) := by decide +kernel
theorem dL_build_307 : decode cL_build 307 = .ok (.iload 7, 2) := by decide +kernel
theorem dL_build_309 : decode cL_build 309 = .ok (.invokestatic 34, 3) := by decide +kernel
theorem dL_build_312 : decode cL_build 312 = .ok (.pop, 1) := by decide +kernel
theorem dL_build_313 : decode cL_build 313 = .ok (.iload 5, 2) := by decide +kernel
theorem dL_build_315 : decode cL_build 315 = .ok (.bipush 14, 2) := by decide +kernel
theorem dL_build_317 : decode cL_build 317 = .ok (.ishr, 1) := by decide +kernel
theorem dL_build_318 : decode cL_build 318 = .ok (.bipush 7, 2) := by decide +kernel
theorem dL_build_320 : decode cL_build 320 = .ok (.iand, 1) := by decide +kernel
theorem dL_build_321 : decode cL_build 321 = .ok (.bipush 6, 2) := by decide +kernel
theorem dL_build_323 : decode cL_build 323 = .ok (.if_icmp .ne 21, 3) := by decide +kernel
theorem dL_build_326 : decode cL_build 326 = .ok (.aload_n 1, 1) := by decide +kernel
theorem dL_build_327 : decode cL_build 327 = .ok (.iload 5, 2) := by decide +kernel
theorem dL_build_329 : decode cL_build 329 = .ok (.bipush 17, 2) := by decide +kernel
theorem dL_build_331 : decode cL_build 331 = .ok (.ishr, 1) := by decide +kernel
theorem dL_build_332 : decode cL_build 332 = .ok (.iconst 1, 1) := by decide +kernel
theorem dL_build_333 : decode cL_build 333 = .ok (.iand, 1) := by decide +kernel
theorem dL_build_334 : decode cL_build 334 = .ok (.iconst 1, 1) := by decide +kernel
theorem dL_build_335 : decode cL_build 335 = .ok (.iadd, 1) := by decide +kernel
theorem dL_build_336 : decode cL_build 336 = .ok (.iload 6, 2) := by decide +kernel
theorem dL_build_338 : decode cL_build 338 = .ok (.iload 7, 2) := by decide +kernel
theorem dL_build_340 : decode cL_build 340 = .ok (.invokestatic 34, 3) := by decide +kernel
theorem dL_build_343 : decode cL_build 343 = .ok (.pop, 1) := by decide +kernel
theorem dL_build_344 : decode cL_build 344 = .ok (.iload 5, 2) := by decide +kernel
theorem dL_build_346 : decode cL_build 346 = .ok (.bipush 14, 2) := by decide +kernel
theorem dL_build_348 : decode cL_build 348 = .ok (.ishr, 1) := by decide +kernel
theorem dL_build_349 : decode cL_build 349 = .ok (.bipush 7, 2) := by decide +kernel
theorem dL_build_351 : decode cL_build 351 = .ok (.iand, 1) := by decide +kernel
theorem dL_build_352 : decode cL_build 352 = .ok (.iconst 3, 1) := by decide +kernel
theorem dL_build_353 : decode cL_build 353 = .ok (.if_icmp .ne 13, 3) := by decide +kernel
theorem dL_build_356 : decode cL_build 356 = .ok (.aload_n 1, 1) := by decide +kernel
theorem dL_build_357 : decode cL_build 357 = .ok (.bipush 6, 2) := by decide +kernel
theorem dL_build_359 : decode cL_build 359 = .ok (.iload 6, 2) := by decide +kernel
theorem dL_build_361 : decode cL_build 361 = .ok (.iconst 0, 1) := by decide +kernel
theorem dL_build_362 : decode cL_build 362 = .ok (.invokestatic 34, 3) := by decide +kernel
theorem dL_build_365 : decode cL_build 365 = .ok (.pop, 1) := by decide +kernel
theorem dL_build_366 : decode cL_build 366 = .ok (.iload 5, 2) := by decide +kernel
theorem dL_build_368 : decode cL_build 368 = .ok (.bipush 18, 2) := by decide +kernel
theorem dL_build_370 : decode cL_build 370 = .ok (.ishr, 1) := by decide +kernel
theorem dL_build_371 : decode cL_build 371 = .ok (.bipush 7, 2) := by decide +kernel
theorem dL_build_373 : decode cL_build 373 = .ok (.iand, 1) := by decide +kernel
theorem dL_build_374 : decode cL_build 374 = .ok (.ifCond .ne 13, 3) := by decide +kernel
theorem dL_build_377 : decode cL_build 377 = .ok (.aload_n 1, 1) := by decide +kernel
theorem dL_build_378 : decode cL_build 378 = .ok (.bipush 9, 2) := by decide +kernel
theorem dL_build_380 : decode cL_build 380 = .ok (.iload 7, 2) := by decide +kernel
theorem dL_build_382 : decode cL_build 382 = .ok (.iconst 1, 1) := by decide +kernel
theorem dL_build_383 : decode cL_build 383 = .ok (.invokestatic 34, 3) := by decide +kernel
theorem dL_build_386 : decode cL_build 386 = .ok (.pop, 1) := by decide +kernel
theorem dL_build_387 : decode cL_build 387 = .ok (.iload 5, 2) := by decide +kernel
theorem dL_build_389 : decode cL_build 389 = .ok (.bipush 18, 2) := by decide +kernel
theorem dL_build_391 : decode cL_build 391 = .ok (.ishr, 1) := by decide +kernel
theorem dL_build_392 : decode cL_build 392 = .ok (.bipush 7, 2) := by decide +kernel
theorem dL_build_394 : decode cL_build 394 = .ok (.iand, 1) := by decide +kernel
theorem dL_build_395 : decode cL_build 395 = .ok (.iconst 4, 1) := by decide +kernel
theorem dL_build_396 : decode cL_build 396 = .ok (.if_icmp .ne 13, 3) := by decide +kernel
theorem dL_build_399 : decode cL_build 399 = .ok (.aload_n 1, 1) := by decide +kernel
theorem dL_build_400 : decode cL_build 400 = .ok (.bipush 9, 2) := by decide +kernel
theorem dL_build_402 : decode cL_build 402 = .ok (.iload 7, 2) := by decide +kernel
theorem dL_build_404 : decode cL_build 404 = .ok (.iconst 0, 1) := by decide +kernel
theorem dL_build_405 : decode cL_build 405 = .ok (.invokestatic 34, 3) := by decide +kernel
theorem dL_build_408 : decode cL_build 408 = .ok (.pop, 1) := by decide +kernel
theorem dL_build_409 : decode cL_build 409 = .ok (.iload 5, 2) := by decide +kernel
theorem dL_build_411 : decode cL_build 411 = .ok (.bipush 18, 2) := by decide +kernel
theorem dL_build_413 : decode cL_build 413 = .ok (.ishr, 1) := by decide +kernel
theorem dL_build_414 : decode cL_build 414 = .ok (.bipush 7, 2) := by decide +kernel
theorem dL_build_416 : decode cL_build 416 = .ok (.iand, 1) := by decide +kernel
theorem dL_build_417 : decode cL_build 417 = .ok (.iconst 1, 1) := by decide +kernel
theorem dL_build_418 : decode cL_build 418 = .ok (.if_icmp .ne 13, 3) := by decide +kernel
theorem dL_build_421 : decode cL_build 421 = .ok (.aload_n 1, 1) := by decide +kernel
theorem dL_build_422 : decode cL_build 422 = .ok (.bipush 10, 2) := by decide +kernel
theorem dL_build_424 : decode cL_build 424 = .ok (.iload 7, 2) := by decide +kernel
theorem dL_build_426 : decode cL_build 426 = .ok (.iconst 0, 1) := by decide +kernel
theorem dL_build_427 : decode cL_build 427 = .ok (.invokestatic 34, 3) := by decide +kernel
theorem dL_build_430 : decode cL_build 430 = .ok (.pop, 1) := by decide +kernel
theorem dL_build_431 : decode cL_build 431 = .ok (.iload 5, 2) := by decide +kernel
theorem dL_build_433 : decode cL_build 433 = .ok (.bipush 18, 2) := by decide +kernel
theorem dL_build_435 : decode cL_build 435 = .ok (.ishr, 1) := by decide +kernel
theorem dL_build_436 : decode cL_build 436 = .ok (.bipush 7, 2) := by decide +kernel
theorem dL_build_438 : decode cL_build 438 = .ok (.iand, 1) := by decide +kernel
theorem dL_build_439 : decode cL_build 439 = .ok (.iconst 2, 1) := by decide +kernel
theorem dL_build_440 : decode cL_build 440 = .ok (.if_icmp .ne 21, 3) := by decide +kernel
theorem dL_build_443 : decode cL_build 443 = .ok (.aload_n 1, 1) := by decide +kernel
theorem dL_build_444 : decode cL_build 444 = .ok (.bipush 11, 2) := by decide +kernel
theorem dL_build_446 : decode cL_build 446 = .ok (.iconst 1, 1) := by decide +kernel
theorem dL_build_447 : decode cL_build 447 = .ok (.iload 5, 2) := by decide +kernel
theorem dL_build_449 : decode cL_build 449 = .ok (.bipush 21, 2) := by decide +kernel
theorem dL_build_451 : decode cL_build 451 = .ok (.ishr, 1) := by decide +kernel
theorem dL_build_452 : decode cL_build 452 = .ok (.bipush 15, 2) := by decide +kernel
theorem dL_build_454 : decode cL_build 454 = .ok (.iand, 1) := by decide +kernel
theorem dL_build_455 : decode cL_build 455 = .ok (.iadd, 1) := by decide +kernel
theorem dL_build_456 : decode cL_build 456 = .ok (.iconst 0, 1) := by decide +kernel
theorem dL_build_457 : decode cL_build 457 = .ok (.invokestatic 34, 3) := by decide +kernel
theorem dL_build_460 : decode cL_build 460 = .ok (.pop, 1) := by decide +kernel
theorem dL_build_461 : decode cL_build 461 = .ok (.iload 5, 2) := by decide +kernel
theorem dL_build_463 : decode cL_build 463 = .ok (.bipush 18, 2) := by decide +kernel
theorem dL_build_465 : decode cL_build 465 = .ok (.ishr, 1) := by decide +kernel
theorem dL_build_466 : decode cL_build 466 = .ok (.bipush 7, 2) := by decide +kernel
theorem dL_build_468 : decode cL_build 468 = .ok (.iand, 1) := by decide +kernel
theorem dL_build_469 : decode cL_build 469 = .ok (.iconst 3, 1) := by decide +kernel
theorem dL_build_470 : decode cL_build 470 = .ok (.if_icmp .ne 25, 3) := by decide +kernel
theorem dL_build_473 : decode cL_build 473 = .ok (.aload_n 1, 1) := by decide +kernel
theorem dL_build_474 : decode cL_build 474 = .ok (.iconst 0, 1) := by decide +kernel
theorem dL_build_475 : decode cL_build 475 = .ok (.getstatic 30, 3) := by decide +kernel
theorem dL_build_478 : decode cL_build 478 = .ok (.iload 5, 2) := by decide +kernel
theorem dL_build_480 : decode cL_build 480 = .ok (.bipush 21, 2) := by decide +kernel
theorem dL_build_482 : decode cL_build 482 = .ok (.ishr, 1) := by decide +kernel
theorem dL_build_483 : decode cL_build 483 = .ok (.bipush 15, 2) := by decide +kernel
theorem dL_build_485 : decode cL_build 485 = .ok (.iand, 1) := by decide +kernel
theorem dL_build_486 : decode cL_build 486 = .ok (.bipush 10, 2) := by decide +kernel
theorem dL_build_488 : decode cL_build 488 = .ok (.irem, 1) := by decide +kernel
theorem dL_build_489 : decode cL_build 489 = .ok (.iaload, 1) := by decide +kernel
theorem dL_build_490 : decode cL_build 490 = .ok (.iconst 0, 1) := by decide +kernel
theorem dL_build_491 : decode cL_build 491 = .ok (.invokestatic 34, 3) := by decide +kernel
theorem dL_build_494 : decode cL_build 494 = .ok (.pop, 1) := by decide +kernel
theorem dL_build_495 : decode cL_build 495 = .ok (.iinc 4 1, 3) := by decide +kernel
theorem dL_build_498 : decode cL_build 498 = .ok (.goto (-338), 3) := by decide +kernel
theorem dL_build_501 : decode cL_build 501 = .ok (.aload_n 1, 1) := by decide +kernel
theorem dL_build_502 : decode cL_build 502 = .ok (.areturn, 1) := by decide +kernel
set_option maxRecDepth 20000 in
theorem ggL_has_L_act_q0 : GoodIn wsL_has ((.codeWith yL_act cL_act 5 (some .int) [(0, 97, 247, 107), (98, 104, 247, 107), (105, 111, 247, 107), (112, 118, 247, 107), (119, 125, 247, 107), (126, 132, 247, 107), (133, 146, 247, 107), (147, 153, 247, 107), (154, 159, 247, 107), (160, 183, 247, 107), (184, 189, 247, 107), (190, 195, 247, 107), (196, 201, 247, 107), (202, 207, 247, 107), (208, 213, 247, 107), (214, 220, 247, 107), (221, 226, 247, 107), (227, 233, 247, 107), (234, 240, 247, 107), (241, 246, 247, 107), (0, 97, 251, 109), (98, 104, 251, 109), (105, 111, 251, 109), (112, 118, 251, 109), (119, 125, 251, 109), (126, 132, 251, 109), (133, 146, 251, 109), (147, 153, 251, 109), (154, 159, 251, 109), (160, 183, 251, 109), (184, 189, 251, 109), (190, 195, 251, 109), (196, 201, 251, 109), (202, 207, 251, 109), (208, 213, 251, 109), (214, 220, 251, 109), (221, 226, 251, 109), (227, 233, 251, 109), (234, 240, 251, 109), (241, 246, 251, 109), (0, 97, 256, 111), (98, 104, 256, 111), (105, 111, 256, 111), (112, 118, 256, 111), (119, 125, 256, 111), (126, 132, 256, 111), (133, 146, 256, 111), (147, 153, 256, 111), (154, 159, 256, 111), (160, 183, 256, 111), (184, 189, 256, 111), (190, 195, 256, 111), (196, 201, 256, 111), (202, 207, 256, 111), (208, 213, 256, 111), (214, 220, 256, 111), (221, 226, 256, 111), (227, 233, 256, 111), (234, 240, 256, 111), (241, 246, 256, 111), (0, 97, 261, 113), (98, 104, 261, 113), (105, 111, 261, 113), (112, 118, 261, 113), (119, 125, 261, 113), (126, 132, 261, 113), (133, 146, 261, 113), (147, 153, 261, 113), (154, 159, 261, 113), (160, 183, 261, 113), (184, 189, 261, 113), (190, 195, 261, 113), (196, 201, 261, 113), (202, 207, 261, 113), (208, 213, 261, 113), (214, 220, 261, 113), (221, 226, 261, 113), (227, 233, 261, 113), (234, 240, 261, 113), (241, 246, 261, 113), (0, 97, 266, 115), (98, 104, 266, 115), (105, 111, 266, 115), (112, 118, 266, 115), (119, 125, 266, 115), (126, 132, 266, 115), (133, 146, 266, 115), (147, 153, 266, 115), (154, 159, 266, 115), (160, 183, 266, 115), (184, 189, 266, 115), (190, 195, 266, 115), (196, 201, 266, 115), (202, 207, 266, 115), (208, 213, 266, 115), (214, 220, 266, 115), (221, 226, 266, 115), (227, 233, 266, 115), (234, 240, 266, 115), (241, 246, 266, 115)]) :: wsL_act_r1) := goodIn_r _ [4, 5, 6, 7, 8, 9, 10, 11, 12, 13, 14, 15, 16, 17, 18, 19, 20, 21, 22, 23, 24, 25, 26, 27, 28] (by decide +kernel) (by decide +kernel)
set_option maxRecDepth 20000 in
theorem ggL_has_L_act_q1 : GoodIn wsL_has wsL_act_r2 := goodIn_r _ [29, 30, 31, 32, 33, 34, 35, 36, 37, 38, 39, 40, 41, 42, 43, 44, 45, 46, 47, 48, 49, 50, 51, 52] (by decide +kernel) (by decide +kernel)
set_option maxRecDepth 20000 in
theorem ggL_has_L_act_q2 : GoodIn wsL_has wsL_act_r3 := goodIn_r _ [53, 54, 55, 56, 57, 58, 59, 60, 61, 62, 63, 64, 65, 66, 67, 68, 69, 70, 71, 72, 73, 74, 75, 76] (by decide +kernel) (by decide +kernel)
set_option maxRecDepth 20000 in
theorem ggL_has_L_act_q3 : GoodIn wsL_has wsL_act_r4 := goodIn_r _ [77, 78, 79, 80, 81, 82, 83, 84, 85, 86, 87, 88, 89, 90, 91, 92, 93, 94, 95, 96, 97, 98, 99, 100] (by decide +kernel) (by decide +kernel)
set_option maxRecDepth 20000 in
theorem ggL_has_L_act_q4 : GoodIn wsL_has wsL_act_r5 := goodIn_r _ [101, 102, 103, 104, 105, 106, 107, 108, 109, 110, 111, 112, 113, 114, 115, 116, 117, 118, 119, 120, 121, 122, 123, 124] (by decide +kernel) (by decide +kernel)
set_option maxRecDepth 20000 in
theorem ggL_has_L_act_q5 : GoodIn wsL_has wsL_act_r6 := goodIn_r _ [125, 126, 127, 128, 129, 130, 131, 132, 133, 134, 135, 136, 137, 138, 139, 140, 141, 142, 143, 144, 145, 146, 147, 148] (by decide +kernel) (by decide +kernel)
set_option maxRecDepth 20000 in
theorem ggL_has_L_act_q6 : GoodIn wsL_has wsL_act_r7 := goodIn_r _ [149, 150, 151, 152, 153, 154, 155, 156, 157, 158, 159, 160, 161, 162, 163, 164, 165, 166, 167, 168, 169, 170, 171, 172] (by decide +kernel) (by decide +kernel)
set_option maxRecDepth 20000 in
theorem ggL_has_L_act_q7 : GoodIn wsL_has wsL_act_r8 := goodIn_r _ [173, 174, 175, 176, 177, 178, 179, 180, 181, 182, 183, 184, 185, 186, 187, 188, 189, 190, 191, 192, 193, 194, 195, 196] (by decide +kernel) (by decide +kernel)
set_option maxRecDepth 20000 in
theorem ggL_has_L_act_q8 : GoodIn wsL_has wsL_act_r9 := goodIn_r _ [197, 198, 199, 200, 201, 202, 203, 204, 205, 206, 207, 208, 209, 210, 211, 212, 213, 214, 215, 216, 217, 218, 219, 220] (by decide +kernel) (by decide +kernel)
set_option maxRecDepth 20000 in
theorem ggL_has_L_act_q9 : GoodIn wsL_has wsL_act_r10 := goodIn_r _ [221, 222, 223, 224, 225, 226, 227, 228, 229, 230, 231, 232, 233, 234, 235, 236, 237, 238, 239, 240, 241, 242, 243, 244] (by decide +kernel) (by decide +kernel)
set_option maxRecDepth 20000 in
theorem ggL_has_L_act_q10 : GoodIn wsL_has wsL_act_r11 := goodIn_r _ [245, 246, 247, 248, 249, 250, 251, 252, 253, 254, 255, 256, 257, 258, 259, 260, 261, 262, 263, 264, 265, 266, 267, 268] (by decide +kernel) (by decide +kernel)
set_option maxRecDepth 20000 in
theorem ggL_has_L_act_q11 : GoodIn wsL_has wsL_act_r12 := goodIn_r _ [269, 270, 271, 272, 273, 274, 275, 276, 277, 278, 279, 280, 281, 282, 283, 284, 285, 286, 287, 288, 289, 290, 291, 292] (by decide +kernel) (by decide +kernel)
set_option maxRecDepth 20000 in
theorem ggL_has_L_act_q12 : GoodIn wsL_has wsL_act_r13 := goodIn_r _ [293, 294, 295, 296, 297, 298, 299, 300, 301, 302, 303, 304, 305, 306, 307, 308, 309, 310, 311, 312, 313, 314, 315, 316] (by decide +kernel) (by decide +kernel)
set_option maxRecDepth 20000 in
theorem ggL_has_L_act_q13 : GoodIn wsL_has wsL_act_r14 := goodIn_r _ [317, 318, 319, 320, 321, 322, 323, 324, 325, 326, 327, 328, 329, 330, 331, 332, 333, 334, 335, 336, 337, 338, 339, 340] (by decide +kernel) (by decide +kernel)
set_option maxRecDepth 20000 in
theorem ggL_has_L_act_q14 : GoodIn wsL_has wsL_act_r15 := goodIn_r _ [341, 342, 343, 344, 345, 346, 347, 348, 349, 350, 351, 352, 353, 354, 355, 356, 357, 358, 359, 360, 361, 362, 363, 364] (by decide +kernel) (by decide +kernel)
set_option maxRecDepth 20000 in
theorem ggL_has_L_act_q15 : GoodIn wsL_has wsL_act_r16 := goodIn_r _ [365, 366, 367, 368, 369, 370, 371, 372, 373, 374, 375] (by decide +kernel) (by decide +kernel)
set_option maxRecDepth 20000 in
theorem ggL_has_L_act_q16 : GoodIn wsL_has wsX100 := goodIn_r _ [376, 377, 378, 379, 380, 381, 382, 383, 384, 385, 386, 387, 388] (by decide +kernel) (by decide +kernel)
