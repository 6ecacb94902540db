set_option maxRecDepth 20000 in
theorem ggL_law_L_build_q0 : GoodIn wsL_lawQ ((.code yL_build cL_build 8 (some (.object "PlanetWorkshop"))) :: wsL_build_r1) := goodIn_r _ [15, 0, 1, 2, 16, 17, 18, 19, 20, 21, 22, 23, 24, 25, 26, 27, 28, 29, 30, 31, 32, 33, 34, 35, 36] (by decide +kernel) (by decide +kernel)
set_option maxRecDepth 20000 in
theorem ggL_law_L_build_q1 : GoodIn wsL_lawQ wsL_build_r2 := goodIn_r _ [37, 38, 39, 40, 41, 42, 43, 44, 45, 46, 47, 48, 49, 50, 51, 52, 53, 54, 9, 10, 55, 56, 57, 58] (by decide +kernel) (by decide +kernel)
set_option maxRecDepth 20000 in
theorem ggL_law_L_build_q2 : GoodIn wsL_lawQ wsL_build_r3 := goodIn_r _ [59, 60, 61, 62, 63, 64, 65, 66, 67, 68, 69, 70, 71, 72, 73, 74, 75, 76, 77, 78, 79, 80, 81, 82] (by decide +kernel) (by decide +kernel)
set_option maxRecDepth 20000 in
theorem ggL_law_L_build_q3 : GoodIn wsL_lawQ wsL_build_r4 := goodIn_r _ [83, 84, 85, 86, 87, 88, 89, 90, 91, 92, 93, 94, 95, 96, 97, 98, 99, 100, 101, 102, 103, 104, 105, 106] (by decide +kernel) (by decide +kernel)
set_option maxRecDepth 20000 in
theorem ggL_law_L_build_q4 : GoodIn wsL_lawQ wsL_build_r5 := goodIn_r _ [107, 108, 109, 110, 111, 112, 113, 114, 115, 116, 117, 118, 119, 120, 121, 122, 123, 124, 125, 126, 127, 128, 129, 130] (by decide +kernel) (by decide +kernel)
set_option maxRecDepth 20000 in
theorem ggL_law_L_build_q5 : GoodIn wsL_lawQ wsL_build_r6 := goodIn_r _ [131, 132, 133, 134, 135, 136, 137, 138, 139, 140, 141, 142, 143, 144, 145, 146, 147, 148, 149, 150, 151, 14, 152, 153] (by decide +kernel) (by decide +kernel)
set_option maxRecDepth 20000 in
theorem ggL_law_L_build_q6 : GoodIn wsL_lawQ wsL_build_r7 := goodIn_r _ [154, 155, 156, 157, 158, 159, 160, 161, 162, 163, 164, 165, 166, 167, 168, 169, 170, 171, 172, 173, 174, 175, 176, 177] (by decide +kernel) (by decide +kernel)
set_option maxRecDepth 20000 in
theorem ggL_law_L_build_q7 : GoodIn wsL_lawQ wsL_build_r8 := goodIn_r _ [178, 179, 180, 181, 182, 183, 184, 185, 186, 187, 188, 189, 190, 191, 192, 193, 194, 195, 196, 197, 198, 199, 200, 201] (by decide +kernel) (by decide +kernel)
set_option maxRecDepth 20000 in
theorem ggL_law_L_build_q8 : GoodIn wsL_lawQ wsL_build_r9 := goodIn_r _ [202, 203, 204, 205, 206, 207, 208, 209, 210, 211, 212, 213, 214, 215, 216, 217, 218, 219, 220, 221, 222, 223, 224, 225] (by decide +kernel) (by decide +kernel)
set_option maxRecDepth 20000 in
theorem ggL_law_L_build_q9 : GoodIn wsL_lawQ wsL_build_r10 := goodIn_r _ [226, 227, 228, 229, 230, 231, 232, 233, 234, 235, 236, 237, 238, 239, 240, 241, 242, 243, 244, 245, 246, 247, 248, 249] (by decide +kernel) (by decide +kernel)
set_option maxRecDepth 20000 in
theorem ggL_law_L_build_q10 : GoodIn wsL_lawQ wsL_build_r11 := goodIn_r _ [250, 251, 252, 253, 254, 255, 256, 257, 258, 259, 260, 261, 262, 263, 264, 265, 266, 267, 268, 269, 270, 271, 272, 273] (by decide +kernel) (by decide +kernel)
set_option maxRecDepth 20000 in
theorem ggL_law_L_build_q11 : GoodIn wsL_lawQ wsL_build_r12 := goodIn_r _ [274, 275, 276, 277, 278, 279, 280, 281, 282, 283, 284, 285, 286, 287, 288, 289, 290, 291, 292, 293, 294, 295, 296, 297] (by decide +kernel) (by decide +kernel)
set_option maxRecDepth 20000 in
theorem ggL_law_L_build_q12 : GoodIn wsL_lawQ wsL_build_r13 := goodIn_r _ [298, 299, 300, 301, 302, 303, 304, 305, 306, 307, 308, 309, 310, 311, 312, 313, 314, 315, 316, 317, 318, 319, 320, 321] (by decide +kernel) (by decide +kernel)
set_option maxRecDepth 20000 in
theorem ggL_law_L_build_q13 : GoodIn wsL_lawQ wsL_build_r14 := goodIn_r _ [322, 323, 324, 325, 326, 327, 328, 329, 330, 331, 332, 333, 334, 335, 336, 337, 338, 339, 340, 341, 342, 343, 344, 345] (by decide +kernel) (by decide +kernel)
set_option maxRecDepth 20000 in
theorem ggL_law_L_build_q14 : GoodIn wsL_lawQ wsL_build_r15 := goodIn_r _ [346, 347, 348, 349, 350, 351, 352, 353, 354, 355, 356, 357, 358, 359, 360, 361, 362, 363, 364, 365, 366, 367, 368, 369] (by decide +kernel) (by decide +kernel)
set_option maxRecDepth 20000 in
theorem ggL_law_L_build_q15 : GoodIn wsL_lawQ wsL_build_r16 := goodIn_r _ [370, 371, 372, 373, 374, 375, 376, 377, 378, 379, 380, 381, 382, 383, 384, 385, 386, 387, 388, 389, 390, 391, 392, 393] (by decide +kernel) (by decide +kernel)
set_option maxRecDepth 20000 in
theorem ggL_law_L_build_q16 : GoodIn wsL_lawQ wsL_build_r17 := goodIn_r _ [394, 395, 396, 397, 398, 399, 400, 401, 402, 403, 404, 405, 406, 407, 408, 409, 410, 411, 412, 413, 414, 415, 416, 417] (by decide +kernel) (by decide +kernel)
set_option maxRecDepth 20000 in
theorem ggL_law_L_build_q17 : GoodIn wsL_lawQ wsL_build_r18 := goodIn_r _ [418, 419, 420, 421, 422, 423, 424, 425, 426, 427, 428, 429, 430, 431, 432, 433, 434, 435, 436, 437, 438, 439, 440, 441] (by decide +kernel) (by decide +kernel)
set_option maxRecDepth 20000 in
theorem ggL_law_L_build_q18 : GoodIn wsL_lawQ wsL_build_r19 := goodIn_r _ [442, 443, 444, 445, 446, 447, 448, 449, 450, 451, 452, 453, 454, 455, 456, 457, 458, 459, 460, 461, 462, 463, 464, 465] (by decide +kernel) (by decide +kernel)
set_option maxRecDepth 20000 in
theorem ggL_law_L_build_q19 : GoodIn wsL_lawQ wsL_build_r20 := goodIn_r _ [466, 467, 468, 469, 470, 471, 472, 473, 474, 475, 476, 477, 478, 479, 480, 481, 482, 483, 484, 485, 486] (by decide +kernel) (by decide +kernel)
set_option maxRecDepth 20000 in
theorem ggL_law_L_build_q20 : GoodIn wsL_lawQ wsX100 := goodIn_r _ [1101, 1102, 1103, 1104, 1105, 1106, 1107, 1108, 1109, 1110, 1111, 1112, 1113] (by decide +kernel) (by decide +kernel)
set_option maxRecDepth 20000 in
theorem ggL_law_L_build_q21 : GoodIn wsL_lawQ wsX70 := goodIn_r _ [1118, 1119, 1120, 1121, 1122, 1123, 1124, 1125, 1126, 1127, 1128, 1129, 1130, 1131, 1132, 1133, 1134] (by decide +kernel) (by decide +kernel)
set_option maxRecDepth 20000 in
theorem ggL_law_L_build_q22 : GoodIn wsL_lawQ wsX30 := goodIn_r _ [1135, 1136, 1137] (by decide +kernel) (by decide +kernel)
set_option maxRecDepth 20000 in
theorem ggL_law_L_build_q23 : GoodIn wsL_lawQ wsX80 := goodIn_r _ [1138, 1139, 1140] (by decide +kernel) (by decide +kernel)
set_option maxRecDepth 20000 in
theorem ggL_law_L_build_q24 : GoodIn wsL_lawQ wsX10 := goodIn_r _ [1141, 1142] (by decide +kernel) (by decide +kernel)
set_option maxRecDepth 20000 in
theorem ggL_law_L_build_q25 : GoodIn wsL_lawQ wsX20 := goodIn_r _ [1143, 1144] (by decide +kernel) (by decide +kernel)
set_option maxRecDepth 20000 in
theorem ggL_law_L_build_q26 : GoodIn wsL_lawQ wsX50 := goodIn_r _ [1145, 1146, 1147, 1148, 1149, 1150] (by decide +kernel) (by decide +kernel)
set_option maxRecDepth 20000 in
theorem ggL_law_L_build_q27 : GoodIn wsL_lawQ wsX60 := goodIn_r _ [1151, 1152, 1153, 1154, 1155, 1156, 1157, 1158] (by decide +kernel) (by decide +kernel)
set_option maxRecDepth 20000 in
theorem ggL_law_L_build_q28 : GoodIn wsL_lawQ wsJ40 := goodIn_r _ [1114, 1115, 1116, 1117] (by decide +kernel) (by decide +kernel)
set_option maxRecDepth 20000 in
theorem ggL_law_L_build : GoodIn wsL_lawQ wsL_buildQ := goodIn_ca (goodIn_ca (goodIn_ca (goodIn_ca (goodIn_ca (goodIn_ca (goodIn_ca ((goodIn_ca (goodIn_ca (goodIn_ca (goodIn_ca (goodIn_ca (goodIn_ca (goodIn_ca (goodIn_ca (goodIn_ca (goodIn_ca (ggL_law_L_build_q0) (goodIn_app (ggL_law_L_build_q1) (goodIn_app (ggL_law_L_build_q2) (goodIn_app (ggL_law_L_build_q3) (goodIn_app (ggL_law_L_build_q4) (goodIn_app (ggL_law_L_build_q5) (goodIn_app (ggL_law_L_build_q6) (goodIn_app (ggL_law_L_build_q7) (goodIn_app (ggL_law_L_build_q8) (goodIn_app (ggL_law_L_build_q9) (goodIn_app (ggL_law_L_build_q10) (goodIn_app (ggL_law_L_build_q11) (goodIn_app (ggL_law_L_build_q12) (goodIn_app (ggL_law_L_build_q13) (goodIn_app (ggL_law_L_build_q14) (goodIn_app (ggL_law_L_build_q15) (goodIn_app (ggL_law_L_build_q16) (goodIn_app (ggL_law_L_build_q17) (goodIn_app (ggL_law_L_build_q18) (ggL_law_L_build_q19)))))))))))))))))))) (ggL_law_L_build_q20)) (ggL_law_L_build_q21)) (ggL_law_L_build_q22)) (ggL_law_L_build_q23)) (ggL_law_L_build_q24)) (ggL_law_L_build_q25)) (ggL_law_L_build_q26)) (ggL_law_L_build_q27)) (ggL_law_L_build_q28))) (goodIn_sub (fun _ h => List.mem_append_left _ (List.mem_append_left _ (List.mem_append_left _ (List.mem_append_left _ (List.mem_append_left _ (List.mem_append_left _ (List.mem_append_left _ (List.mem_append_right _ h)))))))) (by decide +kernel))) (goodIn_sub (fun _ h => List.mem_append_left _ (List.mem_append_left _ (List.mem_append_left _ (List.mem_append_left _ (List.mem_append_left _ (List.mem_append_left _ (List.mem_append_right _ h))))))) (by decide +kernel))) (goodIn_sub (fun _ h => List.mem_append_left _ (List.mem_append_left _ (List.mem_append_left _ (List.mem_append_left _ (List.mem_append_left _ (List.mem_append_right _ h)))))) (by decide +kernel))) (goodIn_sub (fun _ h => List.mem_append_left _ (List.mem_append_left _ (List.mem_append_left _ (List.mem_append_left _ (List.mem_append_right _ h))))) (by decide +kernel))) (goodIn_sub (fun _ h => List.mem_append_left _ (List.mem_append_left _ (List.mem_append_left _ (List.mem_append_right _ h)))) (by decide +kernel))) (goodIn_sub (fun _ h => List.mem_append_left _ (List.mem_append_left _ (List.mem_append_right _ h))) (by decide +kernel))) (goodIn_sub (fun _ h => List.mem_append_left _ (List.mem_append_right _ h)) (by decide +kernel))
set_option maxRecDepth 20000 in
theorem gL_law_L_build : GoodIn wsL_lawQ (va_wsS RL 163 yL_build wsL_buildQ) := goodIn_app (goodIn_of _ (by decide +kernel)) ggL_law_L_build
set_option maxRecDepth 20000 in
theorem ggL_law_X10_save_q0 : GoodIn wsL_lawQ ((.code yX10_save cX10_save 1 (some .int)) :: wsX10_save_r1) := goodIn_r _ [490, 28, 26, 29, 491, 165, 166, 167, 25, 168, 62, 64, 66, 67, 68, 69, 70, 71, 73, 74, 75, 76, 77, 78, 79] (by decide +kernel) (by decide +kernel)
set_option maxRecDepth 20000 in
theorem ggL_law_X10_save_q1 : GoodIn wsL_lawQ wsX10_save_r2 := goodIn_r _ [80, 81] (by decide +kernel) (by decide +kernel)
set_option maxRecDepth 20000 in
theorem ggL_law_X10_save : GoodIn wsL_lawQ wsX10_save := goodIn_ca ((goodIn_ca (goodIn_ca (goodIn_ca (ggL_law_X10_save_q0) (ggL_law_X10_save_q1)) (ggL_law_L_build_q20)) (ggL_law_L_build_q21))) (goodIn_sub (fun _ h => List.mem_append_left _ (List.mem_append_left _ (List.mem_append_left _ (List.mem_append_left _ (List.mem_append_left _ (List.mem_append_left _ (List.mem_append_left _ (List.mem_append_right _ h)))))))) (by decide +kernel))
set_option maxRecDepth 20000 in
theorem gL_law_X10_save : GoodIn wsL_lawQ (wsV RL 167 RX10 yX10_save wsX10_save) := goodIn_app (goodIn_of _ (by decide +kernel)) ggL_law_X10_save
set_option maxRecDepth 20000 in
theorem ggL_law_L_state_q0 : GoodIn wsL_lawQ ((.code yL_state cL_state 6 (some .int)) :: wsL_state_r1) := goodIn_r _ [494, 495, 496, 497, 2, 498, 26, 491, 499, 500, 501, 502, 503, 504, 505, 506, 507, 508, 509, 510, 511, 512, 513, 514, 515] (by decide +kernel) (by decide +kernel)
set_option maxRecDepth 20000 in
theorem ggL_law_L_state_q1 : GoodIn wsL_lawQ wsL_state_r2 := goodIn_r _ [516, 517, 518, 519, 520, 521, 522, 523, 403, 404, 405, 406, 185, 186, 407, 213, 214, 25, 215, 75, 524, 525, 526, 527] (by decide +kernel) (by decide +kernel)
set_option maxRecDepth 20000 in
theorem ggL_law_L_state_q2 : GoodIn wsL_lawQ wsL_state_r3 := goodIn_r _ [528, 529, 530, 531, 532, 533, 534, 535, 536, 537, 418, 153, 154, 14, 155, 156, 157, 158, 159, 160, 161, 162, 163, 164] (by decide +kernel) (by decide +kernel)
set_option maxRecDepth 20000 in
theorem ggL_law_L_state_q3 : GoodIn wsL_lawQ wsL_state_r4 := goodIn_r _ [27, 41, 165, 166, 167, 168, 62, 64, 66, 67, 68, 69, 70, 71, 73, 74, 76, 77, 78, 79, 80, 81, 169, 170] (by decide +kernel) (by decide +kernel)
set_option maxRecDepth 20000 in
theorem ggL_law_L_state_q4 : GoodIn wsL_lawQ wsL_state_r5 := goodIn_r _ [171, 40, 172, 100, 173, 174, 175, 176, 177, 178, 179, 180, 181, 33, 182, 183, 184, 187, 188, 189, 190, 191, 192, 193] (by decide +kernel) (by decide +kernel)
set_option maxRecDepth 20000 in
theorem ggL_law_L_state_q5 : GoodIn wsL_lawQ wsL_state_r6 := goodIn_r _ [194, 195, 196, 197, 32, 198, 89, 88, 87, 199, 200, 201, 202, 203, 204, 205, 206, 207, 101, 208, 209, 210, 211, 212] (by decide +kernel) (by decide +kernel)
set_option maxRecDepth 20000 in
theorem ggL_law_L_state_q6 : GoodIn wsL_lawQ wsL_state_r7 := goodIn_r _ [216, 217, 218, 36, 219, 93, 95, 220, 94, 221, 222, 223, 224, 225, 226, 227, 228, 229, 230, 231, 232, 233, 234, 235] (by decide +kernel) (by decide +kernel)
set_option maxRecDepth 20000 in
theorem ggL_law_L_state_q7 : GoodIn wsL_lawQ wsL_state_r8 := goodIn_r _ [236, 237, 238, 239, 240, 241, 242, 243, 244, 245, 246, 247, 248, 249, 250, 251, 252, 253, 254, 255, 256, 257, 258, 259] (by decide +kernel) (by decide +kernel)
set_option maxRecDepth 20000 in
theorem ggL_law_L_state_q8 : GoodIn wsL_lawQ wsL_state_r9 := goodIn_r _ [260, 261, 262, 263, 264, 265, 266, 267, 268, 269, 270, 271, 272, 273, 274, 275, 276, 277, 278, 279, 280, 281, 282, 283] (by decide +kernel) (by decide +kernel)
set_option maxRecDepth 20000 in
theorem ggL_law_L_state_q9 : GoodIn wsL_lawQ wsL_state_r10 := goodIn_r _ [284, 285, 286, 287, 288, 289, 290, 291, 292, 293, 294, 295, 296, 297, 298, 299, 300, 301, 302, 303, 304, 305, 306, 307] (by decide +kernel) (by decide +kernel)
set_option maxRecDepth 20000 in
theorem ggL_law_L_state_q10 : GoodIn wsL_lawQ wsL_state_r11 := goodIn_r _ [308, 309, 310, 311, 312, 313, 314, 315, 316, 317, 318, 319, 320, 321, 322, 323, 324, 325, 326, 327, 328, 329, 330, 331] (by decide +kernel) (by decide +kernel)
set_option maxRecDepth 20000 in
theorem ggL_law_L_state_q11 : GoodIn wsL_lawQ wsL_state_r12 := goodIn_r _ [332, 333, 334, 335, 336, 337, 338, 339, 340, 341, 342, 343, 344, 345, 346, 347, 348, 349, 350, 351, 352, 353, 354, 355] (by decide +kernel) (by decide +kernel)
set_option maxRecDepth 20000 in
theorem ggL_law_L_state_q12 : GoodIn wsL_lawQ wsL_state_r13 := goodIn_r _ [356, 357, 358, 359, 360, 361, 362, 363, 364, 365, 366, 367, 368, 369, 370, 371, 372, 373, 374, 375, 376, 377, 378, 379] (by decide +kernel) (by decide +kernel)
set_option maxRecDepth 20000 in
theorem ggL_law_L_state_q13 : GoodIn wsL_lawQ wsL_state_r14 := goodIn_r _ [380, 381, 382, 383, 384, 385, 386, 387, 388, 389, 390, 391, 392, 393, 394, 395, 396, 397, 398, 399, 400, 401, 402, 408] (by decide +kernel) (by decide +kernel)
set_option maxRecDepth 20000 in
theorem ggL_law_L_state_q14 : GoodIn wsL_lawQ wsL_state_r15 := goodIn_r _ [409, 410, 411, 412, 413, 414, 415, 416, 417, 419, 420, 421, 422, 423, 424, 425, 426, 427, 428, 429, 430, 37, 431, 432] (by decide +kernel) (by decide +kernel)
set_option maxRecDepth 20000 in
theorem ggL_law_L_state_q15 : GoodIn wsL_lawQ wsL_state_r16 := goodIn_r _ [433, 434, 435, 436, 49, 437, 438, 439, 440, 441, 442, 48, 443, 117, 444, 445, 446, 447, 448, 449, 450, 451, 452, 453] (by decide +kernel) (by decide +kernel)
set_option maxRecDepth 20000 in
theorem ggL_law_L_state_q16 : GoodIn wsL_lawQ wsL_state_r17 := goodIn_r _ [454, 455, 456, 457, 458, 459, 460, 116, 113, 112, 114, 115, 461, 462, 463, 464, 465, 466, 467, 468, 469, 470, 471, 472] (by decide +kernel) (by decide +kernel)
set_option maxRecDepth 20000 in
theorem ggL_law_L_state_q17 : GoodIn wsL_lawQ wsL_state_r18 := goodIn_r _ [473, 474, 475, 476, 477, 478, 479, 480, 481, 482, 483, 538, 539, 540, 541, 542, 543, 544, 545, 546, 547, 548, 549, 550] (by decide +kernel) (by decide +kernel)
set_option maxRecDepth 20000 in
theorem ggL_law_L_state_q18 : GoodIn wsL_lawQ wsL_state_r19 := goodIn_r _ [551, 552, 553, 554, 555, 556, 557, 558, 559, 560] (by decide +kernel) (by decide +kernel)
set_option maxRecDepth 20000 in
theorem ggL_law_L_state : GoodIn wsL_lawQ wsL_state := goodIn_ca (goodIn_ca (goodIn_ca (goodIn_ca (goodIn_ca (goodIn_ca ((goodIn_ca (goodIn_ca (goodIn_ca (goodIn_ca (goodIn_ca (goodIn_ca (goodIn_ca (ggL_law_L_state_q0) (goodIn_app (ggL_law_L_state_q1) (goodIn_app (ggL_law_L_state_q2) (goodIn_app (ggL_law_L_state_q3) (goodIn_app (ggL_law_L_state_q4) (goodIn_app (ggL_law_L_state_q5) (goodIn_app (ggL_law_L_state_q6) (goodIn_app (ggL_law_L_state_q7) (goodIn_app (ggL_law_L_state_q8) (goodIn_app (ggL_law_L_state_q9) (goodIn_app (ggL_law_L_state_q10) (goodIn_app (ggL_law_L_state_q11) (goodIn_app (ggL_law_L_state_q12) (goodIn_app (ggL_law_L_state_q13) (goodIn_app (ggL_law_L_state_q14) (goodIn_app (ggL_law_L_state_q15) (goodIn_app (ggL_law_L_state_q16) (goodIn_app (ggL_law_L_state_q17) (ggL_law_L_state_q18))))))))))))))))))) (ggL_law_L_build_q20)) (ggL_law_L_build_q21)) (ggL_law_L_build_q24)) (ggL_law_L_build_q22)) (ggL_law_L_build_q23)) (ggL_law_L_build_q26))) (goodIn_sub (fun _ h => List.mem_append_left _ (List.mem_append_left _ (List.mem_append_left _ (List.mem_append_left _ (List.mem_append_left _ (List.mem_append_left _ (List.mem_append_left _ (List.mem_append_right _ h)))))))) (by decide +kernel))) (goodIn_sub (fun _ h => List.mem_append_left _ (List.mem_append_left _ (List.mem_append_left _ (List.mem_append_left _ (List.mem_append_left _ (List.mem_append_right _ h)))))) (by decide +kernel))) (goodIn_sub (fun _ h => List.mem_append_left _ (List.mem_append_left _ (List.mem_append_left _ (List.mem_append_left _ (List.mem_append_right _ h))))) (by decide +kernel))) (goodIn_sub (fun _ h => List.mem_append_left _ (List.mem_append_left _ (List.mem_append_left _ (List.mem_append_right _ h)))) (by decide +kernel))) (goodIn_sub (fun _ h => List.mem_append_left _ (List.mem_append_left _ (List.mem_append_right _ h))) (by decide +kernel))) (goodIn_sub (fun _ h => List.mem_append_left _ (List.mem_append_right _ h)) (by decide +kernel))
set_option maxRecDepth 20000 in
theorem gL_law_L_state : GoodIn wsL_lawQ (va_wsS RL 170 yL_state wsL_state) := goodIn_app (goodIn_of _ (by decide +kernel)) ggL_law_L_state
set_option maxRecDepth 20000 in
theorem ggL_law_L_put_q0 : GoodIn wsL_lawQ ((.code yL_put cL_put 3 none) :: wsL_put_r1) := goodIn_r _ [563, 564, 565, 566, 567, 568, 569, 570, 571, 572, 573, 574, 575, 576, 577, 578, 579, 580, 581, 582, 583, 584, 585, 586, 587] (by decide +kernel) (by decide +kernel)
set_option maxRecDepth 20000 in
theorem ggL_law_L_put_q1 : GoodIn wsL_lawQ wsL_put_r2 := goodIn_r _ [588, 589, 590, 591, 592, 593, 594, 595, 596, 597, 144, 598, 599, 600, 601, 602, 603, 604, 605, 606, 607, 608, 609, 610] (by decide +kernel) (by decide +kernel)
set_option maxRecDepth 20000 in
theorem ggL_law_L_put_q2 : GoodIn wsL_lawQ wsL_put_r3 := goodIn_r _ [611, 612, 613, 614, 2, 615, 187, 188, 189, 190, 53, 616, 617, 618, 619, 52, 620, 122, 121] (by decide +kernel) (by decide +kernel)
set_option maxRecDepth 20000 in
theorem ggL_law_L_put_q3 : GoodIn wsL_lawQ wsJ00 := goodIn_r _ [1159, 1160, 1161, 1162] (by decide +kernel) (by decide +kernel)
set_option maxRecDepth 20000 in
theorem ggL_law_L_put : GoodIn wsL_lawQ wsL_put := goodIn_ca (goodIn_ca (goodIn_ca ((goodIn_ca (goodIn_ca (goodIn_ca (goodIn_ca (ggL_law_L_put_q0) (goodIn_app (ggL_law_L_put_q1) (ggL_law_L_put_q2))) (ggL_law_L_put_q3)) (ggL_law_L_build_q20)) (ggL_law_L_build_q27))) (goodIn_sub (fun _ h => List.mem_append_left _ (List.mem_append_left _ (List.mem_append_left _ (List.mem_append_left _ (List.mem_append_right _ h))))) (by decide +kernel))) (goodIn_sub (fun _ h => List.mem_append_left _ (List.mem_append_left _ (List.mem_append_left _ (List.mem_append_right _ h)))) (by decide +kernel))) (goodIn_sub (fun _ h => List.mem_append_left _ (List.mem_append_left _ (List.mem_append_left _ (List.mem_append_left _ (List.mem_append_left _ (List.mem_append_left _ (List.mem_append_left _ (List.mem_append_right _ h)))))))) (by decide +kernel))
set_option maxRecDepth 20000 in
theorem gL_law_L_put : GoodIn wsL_lawQ (va_wsS RL 176 yL_put wsL_put) := goodIn_app (goodIn_of _ (by decide +kernel)) ggL_law_L_put
set_option maxRecDepth 20000 in
theorem ggL_law_X10_setRatchet_q0 : GoodIn wsL_lawQ ((.code yX10_setRatchet cX10_setRatchet 3 (some .boolean)) :: wsX10_setRatchet_r1) := goodIn_r _ [366, 27, 26, 41, 165, 166, 167, 25, 168, 62, 64, 66, 67, 68, 69, 70, 71, 73, 74, 75, 76, 77, 78, 79, 80] (by decide +kernel) (by decide +kernel)
set_option maxRecDepth 20000 in
theorem ggL_law_X10_setRatchet_q1 : GoodIn wsL_lawQ wsX10_setRatchet_r2 := goodIn_r _ [81, 367, 368, 369, 40, 370, 100, 371, 212, 213, 214, 215, 178, 179, 180, 2, 181, 33, 182, 183, 184, 185, 186, 187] (by decide +kernel) (by decide +kernel)
set_option maxRecDepth 20000 in
theorem ggL_law_X10_setRatchet_q2 : GoodIn wsL_lawQ wsX10_setRatchet_r3 := goodIn_r _ [188, 189, 190, 191, 192, 193, 194, 195, 196, 197, 32, 198, 89, 88, 87, 199] (by decide +kernel) (by decide +kernel)
set_option maxRecDepth 20000 in
theorem ggL_law_X10_setRatchet : GoodIn wsL_lawQ wsX10_setRatchet := goodIn_ca (goodIn_ca (goodIn_ca (goodIn_ca (goodIn_ca (goodIn_ca ((goodIn_ca (goodIn_ca (goodIn_ca (goodIn_ca (goodIn_ca (ggL_law_X10_setRatchet_q0) (goodIn_app (ggL_law_X10_setRatchet_q1) (ggL_law_X10_setRatchet_q2))) (ggL_law_L_build_q20)) (ggL_law_L_build_q21)) (ggL_law_L_build_q24)) (ggL_law_L_build_q22))) (goodIn_sub (fun _ h => List.mem_append_left _ (List.mem_append_left _ (List.mem_append_left _ (List.mem_append_left _ (List.mem_append_left _ (List.mem_append_left _ (List.mem_append_left _ (List.mem_append_right _ h)))))))) (by decide +kernel))) (goodIn_sub (fun _ h => List.mem_append_left _ (List.mem_append_left _ (List.mem_append_left _ (List.mem_append_left _ (List.mem_append_left _ (List.mem_append_right _ h)))))) (by decide +kernel))) (goodIn_sub (fun _ h => List.mem_append_left _ (List.mem_append_left _ (List.mem_append_left _ (List.mem_append_left _ (List.mem_append_right _ h))))) (by decide +kernel))) (goodIn_sub (fun _ h => List.mem_append_left _ (List.mem_append_left _ (List.mem_append_left _ (List.mem_append_right _ h)))) (by decide +kernel))) (goodIn_sub (fun _ h => List.mem_append_left _ (List.mem_append_left _ (List.mem_append_right _ h))) (by decide +kernel))) (goodIn_sub (fun _ h => List.mem_append_left _ (List.mem_append_right _ h)) (by decide +kernel))
set_option maxRecDepth 20000 in
theorem gL_law_X10_setRatchet : GoodIn wsL_lawQ (wsV RL 72 RX10 yX10_setRatchet wsX10_setRatchet) := goodIn_app (goodIn_of _ (by decide +kernel)) ggL_law_X10_setRatchet
set_option maxRecDepth 20000 in
theorem ggL_law_X10_runScript_q0 : GoodIn wsL_lawQ ((.code yX10_runScript cX10_runScript 3 (some .int)) :: wsX10_runScript_r1) := goodIn_r _ [624, 187, 188, 189, 190, 53, 56, 27, 26, 625, 57, 33, 626, 627, 628, 52, 629, 123, 128, 122, 630, 631, 632, 633, 125] (by decide +kernel) (by decide +kernel)
set_option maxRecDepth 20000 in
theorem ggL_law_X10_runScript_q1 : GoodIn wsL_lawQ wsX10_runScript_r2 := goodIn_r _ [127, 634, 126, 129, 635, 636, 637, 638, 639, 640, 641, 317, 642, 643, 644, 645, 646, 121, 647, 565, 566, 567, 568, 569] (by decide +kernel) (by decide +kernel)
set_option maxRecDepth 20000 in
theorem ggL_law_X10_runScript_q2 : GoodIn wsL_lawQ wsX10_runScript_r3 := goodIn_r _ [570, 571, 572, 573, 574, 575, 648, 577, 578, 579, 580, 581, 582, 583, 584, 585, 586, 587, 588, 589, 590, 591, 592, 593] (by decide +kernel) (by decide +kernel)
set_option maxRecDepth 20000 in
theorem ggL_law_X10_runScript_q3 : GoodIn wsL_lawQ wsX10_runScript_r4 := goodIn_r _ [594, 595, 596, 597, 144, 598, 599, 600, 601, 602, 603, 604, 605, 606, 607, 608, 609, 610, 611, 649, 650, 651, 652, 653] (by decide +kernel) (by decide +kernel)
set_option maxRecDepth 20000 in
theorem ggL_law_X10_runScript_q4 : GoodIn wsL_lawQ wsX10_runScript_r5 := goodIn_r _ [654, 655, 656, 657, 658, 659, 660, 661, 662, 663, 664, 165, 166, 167, 25, 168, 62, 64, 66, 67, 68, 69, 70, 71] (by decide +kernel) (by decide +kernel)
set_option maxRecDepth 20000 in
theorem ggL_law_X10_runScript_q5 : GoodIn wsL_lawQ wsX10_runScript_r6 := goodIn_r _ [73, 74, 75, 76, 77, 78, 79, 80, 81, 665, 666, 667, 2, 668, 669, 670, 671, 672, 41, 673, 674, 675, 676, 2] (by decide +kernel) (by decide +kernel)
set_option maxRecDepth 20000 in
theorem ggL_law_X10_runScript_q6 : GoodIn wsL_lawQ wsX10_runScript_r7 := goodIn_r _ [678, 679, 169, 170, 171, 40, 172, 100, 173, 174, 175, 176, 177, 204, 205, 206, 207, 101, 208, 209, 210, 211, 212, 213] (by decide +kernel) (by decide +kernel)
set_option maxRecDepth 20000 in
theorem ggL_law_X10_runScript_q7 : GoodIn wsL_lawQ wsX10_runScript_r8 := goodIn_r _ [214, 215, 216, 217, 218, 36, 219, 93, 95, 220, 94, 221, 222, 223, 224, 225, 226, 227, 228, 229, 230, 231, 232, 233] (by decide +kernel) (by decide +kernel)
set_option maxRecDepth 20000 in
theorem ggL_law_X10_runScript_q8 : GoodIn wsL_lawQ wsX10_runScript_r9 := goodIn_r _ [234, 235, 236, 237, 238, 239, 240, 241, 242, 243, 244, 245, 246, 247, 248, 249, 250, 251, 252, 253, 254, 255, 256, 257] (by decide +kernel) (by decide +kernel)
set_option maxRecDepth 20000 in
theorem ggL_law_X10_runScript_q9 : GoodIn wsL_lawQ wsX10_runScript_r10 := goodIn_r _ [258, 259, 260, 269, 270, 271, 272, 277, 278, 279, 280, 281, 282, 283, 284, 285, 286, 291, 292, 293, 294, 295, 296, 297] (by decide +kernel) (by decide +kernel)
set_option maxRecDepth 20000 in
theorem ggL_law_X10_runScript_q10 : GoodIn wsL_lawQ wsX10_runScript_r11 := goodIn_r _ [302, 303, 304, 305, 306, 311, 312, 313, 314, 315, 316, 318, 319, 320, 321, 322, 323, 324, 325, 326, 327, 328, 329, 330] (by decide +kernel) (by decide +kernel)
set_option maxRecDepth 20000 in
theorem ggL_law_X10_runScript_q11 : GoodIn wsL_lawQ wsX10_runScript_r12 := goodIn_r _ [331, 332, 333, 334, 335, 336, 337, 338, 339, 340, 341, 342, 343, 344, 345, 346, 347, 348, 349, 350, 351, 352, 353, 367] (by decide +kernel) (by decide +kernel)
set_option maxRecDepth 20000 in
theorem ggL_law_X10_runScript_q12 : GoodIn wsL_lawQ wsX10_runScript_r13 := goodIn_r _ [368, 369, 370, 371, 358, 359, 360, 361, 362, 390, 391, 392, 393, 376, 377, 378, 379, 380, 381, 382, 383, 384, 385, 195] (by decide +kernel) (by decide +kernel)
set_option maxRecDepth 20000 in
theorem ggL_law_X10_runScript_q13 : GoodIn wsL_lawQ wsX10_runScript_r14 := goodIn_r _ [196, 197, 32, 198, 89, 88, 87, 199] (by decide +kernel) (by decide +kernel)
set_option maxRecDepth 20000 in
theorem ggL_law_X10_runScript : GoodIn wsL_lawQ wsX10_runScript := goodIn_ca (goodIn_ca (goodIn_ca ((goodIn_ca (goodIn_ca (goodIn_ca (goodIn_ca (goodIn_ca (goodIn_ca (goodIn_ca (goodIn_ca (ggL_law_X10_runScript_q0) (goodIn_app (ggL_law_X10_runScript_q1) (goodIn_app (ggL_law_X10_runScript_q2) (goodIn_app (ggL_law_X10_runScript_q3) (goodIn_app (ggL_law_X10_runScript_q4) (goodIn_app (ggL_law_X10_runScript_q5) (goodIn_app (ggL_law_X10_runScript_q6) (goodIn_app (ggL_law_X10_runScript_q7) (goodIn_app (ggL_law_X10_runScript_q8) (goodIn_app (ggL_law_X10_runScript_q9) (goodIn_app (ggL_law_X10_runScript_q10) (goodIn_app (ggL_law_X10_runScript_q11) (goodIn_app (ggL_law_X10_runScript_q12) (ggL_law_X10_runScript_q13)))))))))))))) (ggL_law_L_build_q20)) (ggL_law_L_build_q27)) (ggL_law_L_put_q3)) (ggL_law_L_build_q21)) (ggL_law_L_build_q24)) (ggL_law_L_build_q23)) (ggL_law_L_build_q22))) (goodIn_sub (fun _ h => List.mem_append_left _ (List.mem_append_left _ (List.mem_append_left _ (List.mem_append_left _ (List.mem_append_right _ h))))) (by decide +kernel))) (goodIn_sub (fun _ h => List.mem_append_left _ (List.mem_append_left _ (List.mem_append_left _ (List.mem_append_right _ h)))) (by decide +kernel))) (goodIn_sub (fun _ h => List.mem_append_left _ (List.mem_append_left _ (List.mem_append_left _ (List.mem_append_left _ (List.mem_append_left _ (List.mem_append_left _ (List.mem_append_left _ (List.mem_append_right _ h)))))))) (by decide +kernel))
set_option maxRecDepth 20000 in
theorem gL_law_X10_runScript : GoodIn wsL_lawQ (wsV RL 180 RX10 yX10_runScript wsX10_runScript) := goodIn_app (goodIn_of _ (by decide +kernel)) ggL_law_X10_runScript
set_option maxRecDepth 20000 in
theorem ggL_law_X10_undo_q0 : GoodIn wsL_lawQ ((.code yX10_undo cX10_undo 1 (some .int)) :: wsX10_undo_r1) := goodIn_r _ [683, 193, 194, 33, 684, 26, 685, 686, 687, 32, 688, 89, 87, 88, 199, 166, 167, 25, 168, 62, 64, 66, 67, 68, 69] (by decide +kernel) (by decide +kernel)
set_option maxRecDepth 20000 in
theorem ggL_law_X10_undo_q1 : GoodIn wsL_lawQ wsX10_undo_r2 := goodIn_r _ [70, 71, 73, 74, 75, 76, 77, 78, 79, 80, 81] (by decide +kernel) (by decide +kernel)
set_option maxRecDepth 20000 in
theorem ggL_law_X10_undo : GoodIn wsL_lawQ wsX10_undo := goodIn_ca (goodIn_ca ((goodIn_ca (goodIn_ca (goodIn_ca (goodIn_ca (ggL_law_X10_undo_q0) (ggL_law_X10_undo_q1)) (ggL_law_L_build_q20)) (ggL_law_L_build_q22)) (ggL_law_L_build_q21))) (goodIn_sub (fun _ h => List.mem_append_left _ (List.mem_append_right _ h)) (by decide +kernel))) (goodIn_sub (fun _ h => List.mem_append_left _ (List.mem_append_left _ (List.mem_append_left _ (List.mem_append_left _ (List.mem_append_left _ (List.mem_append_left _ (List.mem_append_left _ (List.mem_append_right _ h)))))))) (by decide +kernel))
set_option maxRecDepth 20000 in
theorem gL_law_X10_undo : GoodIn wsL_lawQ (wsV RL 183 RX10 yX10_undo wsX10_undo) := goodIn_app (goodIn_of _ (by decide +kernel)) ggL_law_X10_undo
set_option maxRecDepth 20000 in
theorem ggL_law_L_runs_q0 : GoodIn wsL_lawQ ((.codeWith yL_runs cL_runs 2 (some .int) [(0, 4, 5, 109), (0, 4, 8, 111)]) :: wsL_runs_r1) := goodIn_r _ [691, 157, 158, 621, 622, 623, 2, 624, 187, 188, 189, 190, 53, 56, 27, 26, 625, 57, 33, 626, 627, 628, 52, 629, 123] (by decide +kernel) (by decide +kernel)
set_option maxRecDepth 20000 in
theorem ggL_law_L_runs_q1 : GoodIn wsL_lawQ wsL_runs_r2 := goodIn_r _ [128, 122, 630, 631, 632, 633, 125, 127, 634, 126, 129, 635, 636, 637, 638, 639, 640, 641, 317, 642, 643, 644, 645, 646] (by decide +kernel) (by decide +kernel)
set_option maxRecDepth 20000 in
theorem ggL_law_L_runs_q2 : GoodIn wsL_lawQ wsL_runs_r3 := goodIn_r _ [121, 647, 565, 566, 567, 568, 569, 570, 571, 572, 573, 574, 575, 648, 577, 578, 579, 580, 581, 582, 583, 584, 585, 586] (by decide +kernel) (by decide +kernel)
set_option maxRecDepth 20000 in
theorem ggL_law_L_runs_q3 : GoodIn wsL_lawQ wsL_runs_r4 := goodIn_r _ [587, 588, 589, 590, 591, 592, 593, 594, 595, 596, 597, 144, 598, 599, 600, 601, 602, 603, 604, 605, 606, 607, 608, 609] (by decide +kernel) (by decide +kernel)
set_option maxRecDepth 20000 in
theorem ggL_law_L_runs_q4 : GoodIn wsL_lawQ wsL_runs_r5 := goodIn_r _ [610, 611, 649, 650, 651, 652, 653, 654, 655, 656, 657, 658, 659, 660, 661, 662, 663, 664, 165, 166, 167, 25, 168, 62] (by decide +kernel) (by decide +kernel)
set_option maxRecDepth 20000 in
theorem ggL_law_L_runs_q5 : GoodIn wsL_lawQ wsL_runs_r6 := goodIn_r _ [64, 66, 67, 68, 69, 70, 71, 73, 74, 75, 76, 77, 78, 79, 80, 81, 665, 666, 667, 668, 669, 670, 671, 672] (by decide +kernel) (by decide +kernel)
set_option maxRecDepth 20000 in
theorem ggL_law_L_runs_q6 : GoodIn wsL_lawQ wsL_runs_r7 := goodIn_r _ [41, 673, 674, 675, 676, 2, 678, 679, 169, 170, 171, 40, 172, 100, 173, 174, 175, 176, 177, 204, 205, 206, 207, 101] (by decide +kernel) (by decide +kernel)
set_option maxRecDepth 20000 in
theorem ggL_law_L_runs_q7 : GoodIn wsL_lawQ wsL_runs_r8 := goodIn_r _ [208, 209, 210, 211, 212, 213, 214, 215, 216, 217, 218, 36, 219, 93, 95, 220, 94, 221, 222, 223, 224, 225, 226, 227] (by decide +kernel) (by decide +kernel)
set_option maxRecDepth 20000 in
theorem ggL_law_L_runs_q8 : GoodIn wsL_lawQ wsL_runs_r9 := goodIn_r _ [228, 229, 230, 231, 232, 233, 234, 235, 236, 237, 238, 239, 240, 241, 242, 243, 244, 245, 246, 247, 248, 249, 250, 251] (by decide +kernel) (by decide +kernel)
set_option maxRecDepth 20000 in
theorem ggL_law_L_runs_q9 : GoodIn wsL_lawQ wsL_runs_r10 := goodIn_r _ [252, 253, 254, 255, 256, 257, 258, 259, 260, 269, 270, 271, 272, 277, 278, 279, 280, 281, 282, 283, 284, 285, 286, 291] (by decide +kernel) (by decide +kernel)
set_option maxRecDepth 20000 in
theorem ggL_law_L_runs_q10 : GoodIn wsL_lawQ wsL_runs_r11 := goodIn_r _ [292, 293, 294, 295, 296, 297, 302, 303, 304, 305, 306, 311, 312, 313, 314, 315, 316, 318, 319, 320, 321, 322, 323, 324] (by decide +kernel) (by decide +kernel)
set_option maxRecDepth 20000 in
theorem ggL_law_L_runs_q11 : GoodIn wsL_lawQ wsL_runs_r12 := goodIn_r _ [325, 326, 327, 328, 329, 330, 331, 332, 333, 334, 335, 336, 337, 338, 339, 340, 341, 342, 343, 344, 345, 346, 347, 348] (by decide +kernel) (by decide +kernel)
set_option maxRecDepth 20000 in
theorem ggL_law_L_runs_q12 : GoodIn wsL_lawQ wsL_runs_r13 := goodIn_r _ [349, 350, 351, 352, 353, 367, 368, 369, 370, 371, 358, 359, 360, 361, 362, 390, 391, 392, 393, 376, 377, 378, 379, 380] (by decide +kernel) (by decide +kernel)
set_option maxRecDepth 20000 in
theorem ggL_law_L_runs_q13 : GoodIn wsL_lawQ wsL_runs_r14 := goodIn_r _ [381, 382, 383, 384, 385, 195, 196, 197, 32, 198, 89, 88, 87, 199] (by decide +kernel) (by decide +kernel)
set_option maxRecDepth 20000 in
theorem ggL_law_L_runs : GoodIn wsL_lawQ wsL_runs := goodIn_ca (goodIn_ca (goodIn_ca ((goodIn_ca (goodIn_ca (goodIn_ca (goodIn_ca (goodIn_ca (goodIn_ca (goodIn_ca (goodIn_ca (ggL_law_L_runs_q0) (goodIn_app (ggL_law_L_runs_q1) (goodIn_app (ggL_law_L_runs_q2) (goodIn_app (ggL_law_L_runs_q3) (goodIn_app (ggL_law_L_runs_q4) (goodIn_app (ggL_law_L_runs_q5) (goodIn_app (ggL_law_L_runs_q6) (goodIn_app (ggL_law_L_runs_q7) (goodIn_app (ggL_law_L_runs_q8) (goodIn_app (ggL_law_L_runs_q9) (goodIn_app (ggL_law_L_runs_q10) (goodIn_app (ggL_law_L_runs_q11) (goodIn_app (ggL_law_L_runs_q12) (ggL_law_L_runs_q13)))))))))))))) (ggL_law_L_build_q20)) (ggL_law_L_build_q27)) (ggL_law_L_put_q3)) (ggL_law_L_build_q21)) (ggL_law_L_build_q24)) (ggL_law_L_build_q23)) (ggL_law_L_build_q22))) (goodIn_sub (fun _ h => List.mem_append_left _ (List.mem_append_left _ (List.mem_append_left _ (List.mem_append_left _ (List.mem_append_right _ h))))) (by decide +kernel))) (goodIn_sub (fun _ h => List.mem_append_left _ (List.mem_append_left _ (List.mem_append_left _ (List.mem_append_right _ h)))) (by decide +kernel))) (goodIn_sub (fun _ h => List.mem_append_left _ (List.mem_append_left _ (List.mem_append_left _ (List.mem_append_left _ (List.mem_append_left _ (List.mem_append_left _ (List.mem_append_left _ (List.mem_append_right _ h)))))))) (by decide +kernel))
set_option maxRecDepth 20000 in
theorem gL_law_L_runs : GoodIn wsL_lawQ (va_wsS RL 188 yL_runs wsL_runs) := goodIn_app (goodIn_of _ (by decide +kernel)) ggL_law_L_runs
set_option maxRecDepth 20000 in
theorem ggL_law_X10_failedCommand : GoodIn wsL_lawQ wsX10_failedCommand := goodIn_ca (goodIn_r _ [695, 193, 194, 57, 1101, 1102, 1103, 1104, 1105, 1106, 1107, 1108, 1109, 1110, 1111, 1112, 1113] (by decide +kernel) (by decide +kernel)) (goodIn_sub (fun _ h => List.mem_append_left _ (List.mem_append_right _ h)) (by decide +kernel))
set_option maxRecDepth 20000 in
theorem gL_law_X10_failedCommand : GoodIn wsL_lawQ (wsV RL 191 RX10 yX10_failedCommand wsX10_failedCommand) := goodIn_app (goodIn_of _ (by decide +kernel)) ggL_law_X10_failedCommand
set_option maxRecDepth 20000 in
theorem ggL_law_L_fails_q0 : GoodIn wsL_lawQ ((.code yL_fails cL_fails 3 (some .boolean)) :: wsL_fails_r1) := goodIn_r _ [698, 561, 562, 14, 563, 564, 565, 566, 567, 568, 569, 570, 571, 572, 573, 574, 575, 576, 577, 578, 579, 580, 581, 582, 583] (by decide +kernel) (by decide +kernel)
set_option maxRecDepth 20000 in
theorem ggL_law_L_fails_q1 : GoodIn wsL_lawQ wsL_fails_r2 := goodIn_r _ [584, 585, 586, 587, 588, 589, 590, 591, 592, 593, 594, 595, 596, 597, 144, 598, 599, 600, 601, 602, 603, 604, 605, 606] (by decide +kernel) (by decide +kernel)
set_option maxRecDepth 20000 in
theorem ggL_law_L_fails_q2 : GoodIn wsL_lawQ wsL_fails_r3 := goodIn_r _ [607, 608, 609, 610, 611, 612, 613, 614, 2, 615, 187, 188, 189, 190, 53, 616, 617, 618, 619, 52, 620, 122, 121, 689] (by decide +kernel) (by decide +kernel)
set_option maxRecDepth 20000 in
theorem ggL_law_L_fails_q3 : GoodIn wsL_lawQ wsL_fails_r4 := goodIn_r _ [690, 691, 157, 158, 621, 622, 623, 624, 56, 27, 26, 625, 57, 33, 626, 627, 628, 629, 123, 128, 630, 631, 632, 633] (by decide +kernel) (by decide +kernel)
set_option maxRecDepth 20000 in
theorem ggL_law_L_fails_q4 : GoodIn wsL_lawQ wsL_fails_r5 := goodIn_r _ [125, 127, 634, 126, 129, 635, 636, 637, 638, 639, 640, 641, 317, 642, 643, 644, 645, 646, 647, 648, 649, 650, 651, 652] (by decide +kernel) (by decide +kernel)
set_option maxRecDepth 20000 in
theorem ggL_law_L_fails_q5 : GoodIn wsL_lawQ wsL_fails_r6 := goodIn_r _ [653, 654, 655, 656, 657, 658, 659, 660, 661, 662, 663, 664, 165, 166, 167, 25, 168, 62, 64, 66, 67, 68, 69, 70] (by decide +kernel) (by decide +kernel)
set_option maxRecDepth 20000 in
theorem ggL_law_L_fails_q6 : GoodIn wsL_lawQ wsL_fails_r7 := goodIn_r _ [71, 73, 74, 75, 76, 77, 78, 79, 80, 81, 665, 666, 667, 668, 669, 670, 671, 672, 41, 673, 674, 675, 676, 2] (by decide +kernel) (by decide +kernel)
set_option maxRecDepth 20000 in
theorem ggL_law_L_fails_q7 : GoodIn wsL_lawQ wsL_fails_r8 := goodIn_r _ [678, 679, 169, 170, 171, 40, 172, 100, 173, 174, 175, 176, 177, 204, 205, 206, 207, 101, 208, 209, 210, 211, 212, 213] (by decide +kernel) (by decide +kernel)
set_option maxRecDepth 20000 in
theorem ggL_law_L_fails_q8 : GoodIn wsL_lawQ wsL_fails_r9 := goodIn_r _ [214, 215, 216, 217, 218, 36, 219, 93, 95, 220, 94, 221, 222, 223, 224, 225, 226, 227, 228, 229, 230, 231, 232, 233] (by decide +kernel) (by decide +kernel)
set_option maxRecDepth 20000 in
theorem ggL_law_L_fails_q9 : GoodIn wsL_lawQ wsL_fails_r10 := goodIn_r _ [234, 235, 236, 237, 238, 239, 240, 241, 242, 243, 244, 245, 246, 247, 248, 249, 250, 251, 252, 253, 254, 255, 256, 257] (by decide +kernel) (by decide +kernel)
set_option maxRecDepth 20000 in
theorem ggL_law_L_fails_q10 : GoodIn wsL_lawQ wsL_fails_r11 := goodIn_r _ [258, 259, 260, 269, 270, 271, 272, 277, 278, 279, 280, 281, 282, 283, 284, 285, 286, 291, 292, 293, 294, 295, 296, 297] (by decide +kernel) (by decide +kernel)
set_option maxRecDepth 20000 in
theorem ggL_law_L_fails_q11 : GoodIn wsL_lawQ wsL_fails_r12 := goodIn_r _ [302, 303, 304, 305, 306, 311, 312, 313, 314, 315, 316, 318, 319, 320, 321, 322, 323, 324, 325, 326, 327, 328, 329, 330] (by decide +kernel) (by decide +kernel)
set_option maxRecDepth 20000 in
theorem ggL_law_L_fails_q12 : GoodIn wsL_lawQ wsL_fails_r13 := goodIn_r _ [331, 332, 333, 334, 335, 336, 337, 338, 339, 340, 341, 342, 343, 344, 345, 346, 347, 348, 349, 350, 351, 352, 353, 367] (by decide +kernel) (by decide +kernel)
set_option maxRecDepth 20000 in
theorem ggL_law_L_fails_q13 : GoodIn wsL_lawQ wsL_fails_r14 := goodIn_r _ [368, 369, 370, 371, 358, 359, 360, 361, 362, 390, 391, 392, 393, 376, 377, 378, 379, 380, 381, 382, 383, 384, 385, 195] (by decide +kernel) (by decide +kernel)
set_option maxRecDepth 20000 in
theorem ggL_law_L_fails_q14 : GoodIn wsL_lawQ wsL_fails_r15 := goodIn_r _ [196, 197, 32, 198, 89, 88, 87, 199, 699, 700, 701, 702, 193, 194] (by decide +kernel) (by decide +kernel)
set_option maxRecDepth 20000 in
theorem ggL_law_L_fails : GoodIn wsL_lawQ wsL_fails := goodIn_ca (goodIn_ca (goodIn_ca (goodIn_ca ((goodIn_ca (goodIn_ca (goodIn_ca (goodIn_ca (goodIn_ca (goodIn_ca (goodIn_ca (goodIn_ca (ggL_law_L_fails_q0) (goodIn_app (ggL_law_L_fails_q1) (goodIn_app (ggL_law_L_fails_q2) (goodIn_app (ggL_law_L_fails_q3) (goodIn_app (ggL_law_L_fails_q4) (goodIn_app (ggL_law_L_fails_q5) (goodIn_app (ggL_law_L_fails_q6) (goodIn_app (ggL_law_L_fails_q7) (goodIn_app (ggL_law_L_fails_q8) (goodIn_app (ggL_law_L_fails_q9) (goodIn_app (ggL_law_L_fails_q10) (goodIn_app (ggL_law_L_fails_q11) (goodIn_app (ggL_law_L_fails_q12) (goodIn_app (ggL_law_L_fails_q13) (ggL_law_L_fails_q14))))))))))))))) (ggL_law_L_put_q3)) (ggL_law_L_build_q20)) (ggL_law_L_build_q27)) (ggL_law_L_build_q21)) (ggL_law_L_build_q24)) (ggL_law_L_build_q23)) (ggL_law_L_build_q22))) (goodIn_sub (fun _ h => List.mem_append_left _ (List.mem_append_left _ (List.mem_append_left _ (List.mem_append_left _ (List.mem_append_right _ h))))) (by decide +kernel))) (goodIn_sub (fun _ h => List.mem_append_left _ (List.mem_append_left _ (List.mem_append_left _ (List.mem_append_right _ h)))) (by decide +kernel))) (goodIn_sub (fun _ h => List.mem_append_left _ (List.mem_append_left _ (List.mem_append_left _ (List.mem_append_left _ (List.mem_append_left _ (List.mem_append_left _ (List.mem_append_left _ (List.mem_append_right _ h)))))))) (by decide +kernel))) (goodIn_sub (fun _ h => List.mem_append_left _ (List.mem_append_right _ h)) (by decide +kernel))
set_option maxRecDepth 20000 in
theorem gL_law_L_fails : GoodIn wsL_lawQ (va_wsS RL 198 yL_fails wsL_fails) := goodIn_app (goodIn_of _ (by decide +kernel)) ggL_law_L_fails
set_option maxRecDepth 20000 in
theorem ggL_law_L_at : GoodIn wsL_lawQ wsL_at := goodIn_ca (goodIn_r _ [152] (by decide +kernel) (by decide +kernel)) (goodIn_sub (fun _ h => List.mem_append_left _ (List.mem_append_left _ (List.mem_append_left _ (List.mem_append_left _ (List.mem_append_left _ (List.mem_append_left _ (List.mem_append_left _ (List.mem_append_right _ h)))))))) (by decide +kernel))
set_option maxRecDepth 20000 in
theorem gL_law_L_at : GoodIn wsL_lawQ (va_wsS RL 24 yL_at wsL_at) := goodIn_app (goodIn_of _ (by decide +kernel)) ggL_law_L_at
set_option maxRecDepth 20000 in
theorem ggL_law_X10_init_q0 : GoodIn wsL_lawQ ((.code yX10_init cX10_init 1 none) :: wsX10_init_r1) := goodIn_r _ [19, 20, 21, 22, 23, 24, 25, 26, 27, 28, 29, 30, 31, 32, 33, 34, 35, 36, 37, 38, 39, 40, 41, 42, 43] (by decide +kernel) (by decide +kernel)
set_option maxRecDepth 20000 in
theorem ggL_law_X10_init_q1 : GoodIn wsL_lawQ wsX10_init_r2 := goodIn_r _ [44, 45, 46, 47, 48, 49, 50, 51, 52, 53, 54, 9, 10, 55, 56, 57, 58, 59, 60, 61, 62, 63, 64, 65] (by decide +kernel) (by decide +kernel)
set_option maxRecDepth 20000 in
theorem ggL_law_X10_init_q2 : GoodIn wsL_lawQ wsX10_init_r3 := goodIn_r _ [66, 67, 68, 69, 70, 71, 72, 73, 74, 75, 76, 77, 78, 79, 80, 81, 82, 83, 84, 85, 86, 87, 88, 89] (by decide +kernel) (by decide +kernel)
set_option maxRecDepth 20000 in
theorem ggL_law_X10_init_q3 : GoodIn wsL_lawQ wsX10_init_r4 := goodIn_r _ [90, 91, 92, 93, 94, 95, 96, 97, 98, 99, 100, 101, 102, 103, 104, 105, 106, 107, 108, 109, 110, 111, 112, 113] (by decide +kernel) (by decide +kernel)
set_option maxRecDepth 20000 in
theorem ggL_law_X10_init_q4 : GoodIn wsL_lawQ wsX10_init_r5 := goodIn_r _ [114, 115, 116, 117, 118, 119, 120, 121, 122, 123, 124, 125, 126, 127, 128, 129, 130, 131, 132, 133, 134, 135, 136, 137] (by decide +kernel) (by decide +kernel)
set_option maxRecDepth 20000 in
theorem ggL_law_X10_init_q5 : GoodIn wsL_lawQ wsX10_init_r6 := goodIn_r _ [138, 139, 140, 141, 142, 143, 144, 145, 146, 147, 148, 149] (by decide +kernel) (by decide +kernel)
set_option maxRecDepth 20000 in
theorem ggL_law_X10_init : GoodIn wsL_lawQ wsX10_init := (goodIn_ca (goodIn_ca (goodIn_ca (goodIn_ca (goodIn_ca (goodIn_ca (goodIn_ca (goodIn_ca (goodIn_ca (goodIn_ca (ggL_law_X10_init_q0) (goodIn_app (ggL_law_X10_init_q1) (goodIn_app (ggL_law_X10_init_q2) (goodIn_app (ggL_law_X10_init_q3) (goodIn_app (ggL_law_X10_init_q4) (ggL_law_X10_init_q5)))))) (ggL_law_L_build_q21)) (ggL_law_L_build_q20)) (ggL_law_L_build_q22)) (ggL_law_L_build_q23)) (ggL_law_L_build_q24)) (ggL_law_L_build_q25)) (ggL_law_L_build_q26)) (ggL_law_L_build_q27)) (ggL_law_L_build_q28))
set_option maxRecDepth 20000 in
theorem gL_law_X10_init : GoodIn wsL_lawQ (wsX10_init) := ggL_law_X10_init
set_option maxRecDepth 20000 in
theorem ggL_law_X10_isConsistent_q0 : GoodIn wsL_lawQ ((.code yX10_isConsistent cX10_isConsistent 1 (some .boolean)) :: wsX10_isConsistent_r1) := goodIn_r _ [706, 45, 49, 26, 508, 518, 707, 708, 709, 2, 710, 491, 711, 712, 713, 714, 37, 715, 431, 217, 218, 36, 219, 93, 95] (by decide +kernel) (by decide +kernel)
set_option maxRecDepth 20000 in
theorem ggL_law_X10_isConsistent_q1 : GoodIn wsL_lawQ wsX10_isConsistent_r2 := goodIn_r _ [220, 94, 221, 222, 223, 224, 225, 226, 227, 228, 25, 229, 73, 230, 231, 232, 233, 62, 234, 235, 236, 237, 238, 239] (by decide +kernel) (by decide +kernel)
set_option maxRecDepth 20000 in
theorem ggL_law_X10_isConsistent_q2 : GoodIn wsL_lawQ wsX10_isConsistent_r3 := goodIn_r _ [240, 241, 716, 717, 718, 719, 420, 720, 721, 722, 723, 724, 470, 471, 472, 341, 317, 342, 473, 344, 345, 346, 347, 348] (by decide +kernel) (by decide +kernel)
set_option maxRecDepth 20000 in
theorem ggL_law_X10_isConsistent_q3 : GoodIn wsL_lawQ wsX10_isConsistent_r4 := goodIn_r _ [421, 725, 726, 727, 44, 728, 106, 729, 730, 731, 732, 733, 734, 107, 735, 558, 559, 560, 77, 736, 213, 214, 215, 75] (by decide +kernel) (by decide +kernel)
set_option maxRecDepth 20000 in
theorem ggL_law_X10_isConsistent_q4 : GoodIn wsL_lawQ wsX10_isConsistent_r5 := goodIn_r _ [737, 738, 247, 248, 249, 739, 740, 741, 742, 743, 744, 745, 746, 747, 748, 749, 750, 751, 752, 753, 754, 755, 756, 757] (by decide +kernel) (by decide +kernel)
set_option maxRecDepth 20000 in
theorem ggL_law_X10_isConsistent_q5 : GoodIn wsL_lawQ wsX10_isConsistent_r6 := goodIn_r _ [758, 759, 760, 761, 762, 763, 48, 764, 765, 441, 442, 443, 117, 444, 445, 446, 447, 448, 449, 766, 458, 459, 460, 116] (by decide +kernel) (by decide +kernel)
set_option maxRecDepth 20000 in
theorem ggL_law_X10_isConsistent_q6 : GoodIn wsL_lawQ wsX10_isConsistent_r7 := goodIn_r _ [113, 112, 114, 115, 461, 462, 463, 464, 465, 466, 467, 468, 469, 474, 475, 476, 477, 478, 767, 768, 769, 770, 70] (by decide +kernel) (by decide +kernel)
set_option maxRecDepth 20000 in
theorem ggL_law_X10_isConsistent : GoodIn wsL_lawQ wsX10_isConsistent := goodIn_ca ((goodIn_ca (goodIn_ca (goodIn_ca (goodIn_ca (goodIn_ca (goodIn_ca (ggL_law_X10_isConsistent_q0) (goodIn_app (ggL_law_X10_isConsistent_q1) (goodIn_app (ggL_law_X10_isConsistent_q2) (goodIn_app (ggL_law_X10_isConsistent_q3) (goodIn_app (ggL_law_X10_isConsistent_q4) (goodIn_app (ggL_law_X10_isConsistent_q5) (ggL_law_X10_isConsistent_q6))))))) (ggL_law_L_build_q20)) (ggL_law_L_build_q21)) (ggL_law_L_build_q23)) (ggL_law_L_build_q25)) (ggL_law_L_build_q26))) (goodIn_sub (fun _ h => List.mem_append_left _ (List.mem_append_left _ (List.mem_append_left _ (List.mem_append_left _ (List.mem_append_left _ (List.mem_append_left _ (List.mem_append_left _ (List.mem_append_right _ h)))))))) (by decide +kernel))
set_option maxRecDepth 20000 in
theorem gL_law_X10_isConsistent : GoodIn wsL_lawQ (wsV RL 220 RX10 yX10_isConsistent wsX10_isConsistent) := goodIn_app (goodIn_of _ (by decide +kernel)) ggL_law_X10_isConsistent
set_option maxRecDepth 20000 in
theorem ggL_law_X10_gearCount_q0 : GoodIn wsL_lawQ ((.code yX10_gearCount cX10_gearCount 1 (some .int)) :: [.fieldLink RX10 12 "PlanetWorkshop" "now" "LPlanetWorkshop$State;", .fieldLink RX10 129 "PlanetWorkshop$State" "gears" "I"]) := goodIn_r _ [498, 26, 491] (by decide +kernel) (by decide +kernel)
set_option maxRecDepth 20000 in
theorem ggL_law_X10_gearCount : GoodIn wsL_lawQ wsX10_gearCount := (goodIn_ca (goodIn_ca (ggL_law_X10_gearCount_q0) (ggL_law_L_build_q20)) (ggL_law_L_build_q21))
