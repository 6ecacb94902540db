set_option maxRecDepth 20000 in
theorem gL_eclipse_X10_nextEclipseByTurns : GoodIn wsL_eclipse (wsV RL 121 RX10 yX10_nextEclipseByTurns wsX10_nextEclipseByTurns) := goodIn_app (goodIn_of _ (by decide +kernel)) ggL_eclipse_X10_nextEclipseByTurns
theorem dL_eclipse_0 : decode cL_eclipse 0 = .ok (.iload_n 1, 1) := by decide +kernel
theorem dL_eclipse_1 : decode cL_eclipse 1 = .ok (.ifCond .eq 14, 3) := by decide +kernel
theorem dL_eclipse_4 : decode cL_eclipse 4 = .ok (.aload_n 0, 1) := by decide +kernel
theorem dL_eclipse_5 : decode cL_eclipse 5 = .ok (.iload_n 2, 1) := by decide +kernel
theorem dL_eclipse_6 : decode cL_eclipse 6 = .ok (.iload_n 3, 1) := by decide +kernel
theorem dL_eclipse_7 : decode cL_eclipse 7 = .ok (.iload 4, 2) := by decide +kernel
theorem dL_eclipse_9 : decode cL_eclipse 9 = .ok (.invokevirtual 117, 3) := by decide +kernel
theorem dL_eclipse_12 : decode cL_eclipse 12 = .ok (.goto 11, 3) := by decide +kernel
theorem dL_eclipse_15 : decode cL_eclipse 15 = .ok (.aload_n 0, 1) := by decide +kernel
theorem dL_eclipse_16 : decode cL_eclipse 16 = .ok (.iload_n 2, 1) := by decide +kernel
theorem dL_eclipse_17 : decode cL_eclipse 17 = .ok (.iload_n 3, 1) := by decide +kernel
theorem dL_eclipse_18 : decode cL_eclipse 18 = .ok (.iload 4, 2) := by decide +kernel
theorem dL_eclipse_20 : decode cL_eclipse 20 = .ok (.invokevirtual 121, 3) := by decide +kernel
theorem dL_eclipse_23 : decode cL_eclipse 23 = .ok (.ireturn, 1) := by decide +kernel
theorem dL_eclipse_24 : decode cL_eclipse 24 = .ok (.astore 5, 2) := by decide +kernel
theorem dL_eclipse_26 : decode cL_eclipse 26 = .ok (.iconst (-1), 1) := by decide +kernel
theorem dL_eclipse_27 : decode cL_eclipse 27 = .ok (.ireturn, 1) := by decide +kernel
theorem dL_eclipse_28 : decode cL_eclipse 28 = .ok (.astore 5, 2) := by decide +kernel
theorem dL_eclipse_30 : decode cL_eclipse 30 = .ok (.bipush (-2), 2) := by decide +kernel
theorem dL_eclipse_32 : decode cL_eclipse 32 = .ok (.ireturn, 1) := by decide +kernel
theorem dL_eclipse_33 : decode cL_eclipse 33 = .ok (.astore 5, 2) := by decide +kernel
theorem dL_eclipse_35 : decode cL_eclipse 35 = .ok (.bipush (-3), 2) := by decide +kernel
theorem dL_eclipse_37 : decode cL_eclipse 37 = .ok (.ireturn, 1) := by decide +kernel
theorem dL_eclipse_38 : decode cL_eclipse 38 = .ok (.astore 5, 2) := by decide +kernel
theorem dL_eclipse_40 : decode cL_eclipse 40 = .ok (.bipush (-5), 2) := by decide +kernel
theorem dL_eclipse_42 : decode cL_eclipse 42 = .ok (.ireturn, 1) := by decide +kernel
set_option maxRecDepth 20000 in
theorem ggL_state_X10_gearCount : GoodIn wsL_state wsX10_gearCount := goodIn_r _ [5, 6, 7, 443, 444, 445, 446, 447, 448, 449, 450, 451, 452, 453, 454, 455, 456, 457, 458, 459, 460, 461, 462, 463, 464, 465, 466, 467, 468, 469, 470, 471, 472] (by decide +kernel) (by decide +kernel)
set_option maxRecDepth 20000 in
theorem gL_state_X10_gearCount : GoodIn wsL_state (wsV RL 124 RX10 yX10_gearCount wsX10_gearCount) := goodIn_app (goodIn_of _ (by decide +kernel)) ggL_state_X10_gearCount
set_option maxRecDepth 20000 in
theorem ggL_state_X10_drops : GoodIn wsL_state wsX10_drops := goodIn_r _ [11, 6, 12, 443, 444, 445, 446, 447, 448, 449, 450, 451, 452, 453, 454, 455, 456, 457, 458, 459, 460, 461, 462, 463, 464, 465, 466, 467, 468, 469, 470, 471, 472] (by decide +kernel) (by decide +kernel)
set_option maxRecDepth 20000 in
theorem gL_state_X10_drops : GoodIn wsL_state (wsV RL 127 RX10 yX10_drops wsX10_drops) := goodIn_app (goodIn_of _ (by decide +kernel)) ggL_state_X10_drops
set_option maxRecDepth 20000 in
theorem ggL_state_X10_woundTotal : GoodIn wsL_state wsX10_woundTotal := goodIn_r _ [16, 6, 17, 443, 444, 445, 446, 447, 448, 449, 450, 451, 452, 453, 454, 455, 456, 457, 458, 459, 460, 461, 462, 463, 464, 465, 466, 467, 468, 469, 470, 471, 472] (by decide +kernel) (by decide +kernel)
set_option maxRecDepth 20000 in
theorem gL_state_X10_woundTotal : GoodIn wsL_state (wsV RL 130 RX10 yX10_woundTotal wsX10_woundTotal) := goodIn_app (goodIn_of _ (by decide +kernel)) ggL_state_X10_woundTotal
set_option maxRecDepth 20000 in
theorem ggL_state_X10_releaseTotal : GoodIn wsL_state wsX10_releaseTotal := goodIn_r _ [21, 6, 22, 443, 444, 445, 446, 447, 448, 449, 450, 451, 452, 453, 454, 455, 456, 457, 458, 459, 460, 461, 462, 463, 464, 465, 466, 467, 468, 469, 470, 471, 472] (by decide +kernel) (by decide +kernel)
set_option maxRecDepth 20000 in
theorem gL_state_X10_releaseTotal : GoodIn wsL_state (wsV RL 133 RX10 yX10_releaseTotal wsX10_releaseTotal) := goodIn_app (goodIn_of _ (by decide +kernel)) ggL_state_X10_releaseTotal
set_option maxRecDepth 20000 in
theorem ggL_state_X10_tensionByAccounts : GoodIn wsL_state wsX10_tensionByAccounts := goodIn_r _ [26, 6, 17, 27, 443, 444, 445, 446, 447, 448, 449, 450, 451, 452, 453, 454, 455, 456, 457, 458, 459, 460, 461, 462, 463, 464, 465, 466, 467, 468, 469, 470, 471, 472] (by decide +kernel) (by decide +kernel)
set_option maxRecDepth 20000 in
theorem gL_state_X10_tensionByAccounts : GoodIn wsL_state (wsV RL 136 RX10 yX10_tensionByAccounts wsX10_tensionByAccounts) := goodIn_app (goodIn_of _ (by decide +kernel)) ggL_state_X10_tensionByAccounts
set_option maxRecDepth 20000 in
theorem ggL_state_X10_angle : GoodIn wsL_state wsX10_angle := goodIn_ca (goodIn_ca (goodIn_r _ [31, 6, 32, 33, 34, 35, 4, 36, 37, 38, 39, 40, 41, 42, 43, 44, 443, 444, 445, 446, 447, 448, 449, 450, 451, 452, 453, 454, 455, 456, 457, 458, 459, 460, 461, 462, 463, 464, 465, 466, 467, 468, 469, 470, 471, 472] (by decide +kernel) (by decide +kernel)) (goodIn_sub (fun _ h => List.mem_cons_of_mem _ (List.mem_append_left _ (List.mem_append_left _ (List.mem_append_left _ (List.mem_append_left _ (List.mem_append_left _ (List.mem_append_right _ h))))))) (by decide +kernel))) (goodIn_sub (fun _ h => List.mem_cons_of_mem _ (List.mem_append_left _ (List.mem_append_left _ (List.mem_append_left _ (List.mem_append_left _ (List.mem_append_right _ h)))))) (by decide +kernel))
set_option maxRecDepth 20000 in
theorem gL_state_X10_angle : GoodIn wsL_state (wsV RL 139 RX10 yX10_angle wsX10_angle) := goodIn_app (goodIn_of _ (by decide +kernel)) ggL_state_X10_angle
set_option maxRecDepth 20000 in
theorem ggL_state_X10_teeth : GoodIn wsL_state wsX10_teeth := goodIn_ca (goodIn_ca (goodIn_r _ [48, 6, 49, 33, 34, 35, 4, 36, 37, 38, 39, 40, 41, 42, 43, 44, 443, 444, 445, 446, 447, 448, 449, 450, 451, 452, 453, 454, 455, 456, 457, 458, 459, 460, 461, 462, 463, 464, 465, 466, 467, 468, 469, 470, 471, 472] (by decide +kernel) (by decide +kernel)) (goodIn_sub (fun _ h => List.mem_cons_of_mem _ (List.mem_append_left _ (List.mem_append_left _ (List.mem_append_left _ (List.mem_append_left _ (List.mem_append_left _ (List.mem_append_right _ h))))))) (by decide +kernel))) (goodIn_sub (fun _ h => List.mem_cons_of_mem _ (List.mem_append_left _ (List.mem_append_left _ (List.mem_append_left _ (List.mem_append_left _ (List.mem_append_right _ h)))))) (by decide +kernel))
set_option maxRecDepth 20000 in
theorem gL_state_X10_teeth : GoodIn wsL_state (wsV RL 143 RX10 yX10_teeth wsX10_teeth) := goodIn_app (goodIn_of _ (by decide +kernel)) ggL_state_X10_teeth
set_option maxRecDepth 20000 in
theorem ggL_state_X10_hasRatchet : GoodIn wsL_state wsX10_hasRatchet := goodIn_ca (goodIn_ca (goodIn_r _ [53, 6, 54, 33, 34, 35, 4, 36, 37, 38, 39, 40, 41, 42, 43, 44, 443, 444, 445, 446, 447, 448, 449, 450, 451, 452, 453, 454, 455, 456, 457, 458, 459, 460, 461, 462, 463, 464, 465, 466, 467, 468, 469, 470, 471, 472] (by decide +kernel) (by decide +kernel)) (goodIn_sub (fun _ h => List.mem_cons_of_mem _ (List.mem_append_left _ (List.mem_append_left _ (List.mem_append_left _ (List.mem_append_left _ (List.mem_append_left _ (List.mem_append_right _ h))))))) (by decide +kernel))) (goodIn_sub (fun _ h => List.mem_cons_of_mem _ (List.mem_append_left _ (List.mem_append_left _ (List.mem_append_left _ (List.mem_append_left _ (List.mem_append_right _ h)))))) (by decide +kernel))
set_option maxRecDepth 20000 in
theorem gL_state_X10_hasRatchet : GoodIn wsL_state (wsV RL 146 RX10 yX10_hasRatchet wsX10_hasRatchet) := goodIn_app (goodIn_of _ (by decide +kernel)) ggL_state_X10_hasRatchet
set_option maxRecDepth 20000 in
theorem ggL_state_X10_isDry : GoodIn wsL_state wsX10_isDry := goodIn_ca (goodIn_ca (goodIn_r _ [58, 6, 59, 33, 34, 35, 4, 36, 37, 38, 39, 40, 41, 42, 43, 44, 443, 444, 445, 446, 447, 448, 449, 450, 451, 452, 453, 454, 455, 456, 457, 458, 459, 460, 461, 462, 463, 464, 465, 466, 467, 468, 469, 470, 471, 472] (by decide +kernel) (by decide +kernel)) (goodIn_sub (fun _ h => List.mem_cons_of_mem _ (List.mem_append_left _ (List.mem_append_left _ (List.mem_append_left _ (List.mem_append_left _ (List.mem_append_left _ (List.mem_append_right _ h))))))) (by decide +kernel))) (goodIn_sub (fun _ h => List.mem_cons_of_mem _ (List.mem_append_left _ (List.mem_append_left _ (List.mem_append_left _ (List.mem_append_left _ (List.mem_append_right _ h)))))) (by decide +kernel))
set_option maxRecDepth 20000 in
theorem gL_state_X10_isDry : GoodIn wsL_state (wsV RL 149 RX10 yX10_isDry wsX10_isDry) := goodIn_app (goodIn_of _ (by decide +kernel)) ggL_state_X10_isDry
set_option maxRecDepth 20000 in
theorem ggL_state_L_act_q0 : GoodIn wsL_state ((.codeWith yL_act cL_act 5 (some .int) [(0, 97, 247, 107), (98, 104, 247, 107), (105, 111, 247, 107), (112, 118, 247, 107), (119, 125, 247, 107), (126, 132, 247, 107), (133, 146, 247, 107), (147, 153, 247, 107), (154, 159, 247, 107), (160, 183, 247, 107), (184, 189, 247, 107), (190, 195, 247, 107), (196, 201, 247, 107), (202, 207, 247, 107), (208, 213, 247, 107), (214, 220, 247, 107), (221, 226, 247, 107), (227, 233, 247, 107), (234, 240, 247, 107), (241, 246, 247, 107), (0, 97, 251, 109), (98, 104, 251, 109), (105, 111, 251, 109), (112, 118, 251, 109), (119, 125, 251, 109), (126, 132, 251, 109), (133, 146, 251, 109), (147, 153, 251, 109), (154, 159, 251, 109), (160, 183, 251, 109), (184, 189, 251, 109), (190, 195, 251, 109), (196, 201, 251, 109), (202, 207, 251, 109), (208, 213, 251, 109), (214, 220, 251, 109), (221, 226, 251, 109), (227, 233, 251, 109), (234, 240, 251, 109), (241, 246, 251, 109), (0, 97, 256, 111), (98, 104, 256, 111), (105, 111, 256, 111), (112, 118, 256, 111), (119, 125, 256, 111), (126, 132, 256, 111), (133, 146, 256, 111), (147, 153, 256, 111), (154, 159, 256, 111), (160, 183, 256, 111), (184, 189, 256, 111), (190, 195, 256, 111), (196, 201, 256, 111), (202, 207, 256, 111), (208, 213, 256, 111), (214, 220, 256, 111), (221, 226, 256, 111), (227, 233, 256, 111), (234, 240, 256, 111), (241, 246, 256, 111), (0, 97, 261, 113), (98, 104, 261, 113), (105, 111, 261, 113), (112, 118, 261, 113), (119, 125, 261, 113), (126, 132, 261, 113), (133, 146, 261, 113), (147, 153, 261, 113), (154, 159, 261, 113), (160, 183, 261, 113), (184, 189, 261, 113), (190, 195, 261, 113), (196, 201, 261, 113), (202, 207, 261, 113), (208, 213, 261, 113), (214, 220, 261, 113), (221, 226, 261, 113), (227, 233, 261, 113), (234, 240, 261, 113), (241, 246, 261, 113), (0, 97, 266, 115), (98, 104, 266, 115), (105, 111, 266, 115), (112, 118, 266, 115), (119, 125, 266, 115), (126, 132, 266, 115), (133, 146, 266, 115), (147, 153, 266, 115), (154, 159, 266, 115), (160, 183, 266, 115), (184, 189, 266, 115), (190, 195, 266, 115), (196, 201, 266, 115), (202, 207, 266, 115), (208, 213, 266, 115), (214, 220, 266, 115), (221, 226, 266, 115), (227, 233, 266, 115), (234, 240, 266, 115), (241, 246, 266, 115)]) :: wsL_act_r1) := goodIn_r _ [63, 64, 65, 66, 67, 68, 69, 70, 71, 4, 72, 73, 6, 74, 75, 76, 77, 42, 78, 79, 80, 81, 82, 83, 84] (by decide +kernel) (by decide +kernel)
set_option maxRecDepth 20000 in
theorem ggL_state_L_act_q1 : GoodIn wsL_state wsL_act_r2 := goodIn_r _ [85, 86, 87, 88, 44, 89, 90, 91, 92, 93, 94, 95, 96, 97, 98, 99, 100, 101, 102, 103, 104, 105, 106, 107] (by decide +kernel) (by decide +kernel)
set_option maxRecDepth 20000 in
theorem ggL_state_L_act_q2 : GoodIn wsL_state wsL_act_r3 := goodIn_r _ [108, 109, 110, 111, 112, 113, 37, 38, 114, 115, 116, 117, 118, 119, 120, 121, 122, 123, 124, 125, 126, 127, 128, 129] (by decide +kernel) (by decide +kernel)
set_option maxRecDepth 20000 in
theorem ggL_state_L_act_q3 : GoodIn wsL_state wsL_act_r4 := goodIn_r _ [130, 131, 132, 133, 134, 135, 136, 137, 138, 139, 140, 141, 142, 143, 144, 40, 41, 43, 145, 146, 147, 148, 149, 150] (by decide +kernel) (by decide +kernel)
set_option maxRecDepth 20000 in
theorem ggL_state_L_act_q4 : GoodIn wsL_state wsL_act_r5 := goodIn_r _ [151, 152, 153, 154, 155, 156, 157, 158, 159, 160, 161, 162, 163, 164, 165, 166, 167, 168, 169, 170, 171, 172, 173, 174] (by decide +kernel) (by decide +kernel)
set_option maxRecDepth 20000 in
theorem ggL_state_L_act_q5 : GoodIn wsL_state wsL_act_r6 := goodIn_r _ [175, 176, 177, 178, 179, 180, 181, 182, 183, 184, 185, 186, 187, 188, 189, 190, 191, 192, 193, 194, 195, 196, 197, 198] (by decide +kernel) (by decide +kernel)
set_option maxRecDepth 20000 in
theorem ggL_state_L_act_q6 : GoodIn wsL_state wsL_act_r7 := goodIn_r _ [199, 200, 201, 202, 203, 204, 205, 206, 207, 208, 209, 210, 211, 212, 213, 214, 215, 216, 217, 218, 219, 220, 221, 222] (by decide +kernel) (by decide +kernel)
set_option maxRecDepth 20000 in
theorem ggL_state_L_act_q7 : GoodIn wsL_state wsL_act_r8 := goodIn_r _ [223, 224, 225, 226, 227, 228, 229, 230, 231, 232, 233, 234, 235, 236, 237, 238, 239, 240, 241, 242, 243, 244, 245, 246] (by decide +kernel) (by decide +kernel)
set_option maxRecDepth 20000 in
theorem ggL_state_L_act_q8 : GoodIn wsL_state wsL_act_r9 := goodIn_r _ [247, 248, 249, 250, 251, 252, 253, 254, 255, 256, 257, 258, 259, 260, 261, 262, 263, 264, 265, 266, 267, 268, 269, 270] (by decide +kernel) (by decide +kernel)
set_option maxRecDepth 20000 in
theorem ggL_state_L_act_q9 : GoodIn wsL_state wsL_act_r10 := goodIn_r _ [271, 272, 273, 274, 275, 276, 277, 278, 279, 280, 281, 282, 283, 284, 285, 286, 287, 288, 289, 290, 291, 292, 293, 294] (by decide +kernel) (by decide +kernel)
set_option maxRecDepth 20000 in
theorem ggL_state_L_act_q10 : GoodIn wsL_state wsL_act_r11 := goodIn_r _ [295, 296, 297, 298, 299, 300, 301, 302, 303, 304, 305, 306, 307, 308, 309, 310, 311, 312, 313, 314, 315, 316, 317, 318] (by decide +kernel) (by decide +kernel)
set_option maxRecDepth 20000 in
theorem ggL_state_L_act_q11 : GoodIn wsL_state wsL_act_r12 := goodIn_r _ [319, 320, 321, 322, 323, 324, 325, 326, 327, 328, 329, 330, 331, 332, 333, 334, 335, 33, 34, 35, 36, 39, 336, 337] (by decide +kernel) (by decide +kernel)
set_option maxRecDepth 20000 in
theorem ggL_state_L_act_q12 : GoodIn wsL_state wsL_act_r13 := goodIn_r _ [338, 339, 340, 341, 342, 343, 344, 345, 59, 346, 347, 348, 349, 350, 351, 352, 353, 354, 355, 356, 357, 358, 359, 360] (by decide +kernel) (by decide +kernel)
set_option maxRecDepth 20000 in
theorem ggL_state_L_act_q13 : GoodIn wsL_state wsL_act_r14 := goodIn_r _ [361, 362, 363, 364, 365, 366, 367, 368, 369, 370, 371, 372, 373, 374, 375, 376, 377, 378, 379, 380, 381, 382, 383, 384] (by decide +kernel) (by decide +kernel)
set_option maxRecDepth 20000 in
theorem ggL_state_L_act_q14 : GoodIn wsL_state wsL_act_r15 := goodIn_r _ [385, 386, 387, 388, 389, 390, 391, 392, 393, 394, 395, 396, 397, 398, 399, 400, 401, 402, 403, 404, 405, 406, 407, 408] (by decide +kernel) (by decide +kernel)
set_option maxRecDepth 20000 in
theorem ggL_state_L_act_q15 : GoodIn wsL_state wsL_act_r16 := goodIn_r _ [409, 410, 411, 412, 413, 414, 415, 416, 417, 418, 419] (by decide +kernel) (by decide +kernel)
set_option maxRecDepth 20000 in
theorem ggL_state_L_act_q16 : GoodIn wsL_state wsX100 := goodIn_r _ [443, 444, 445, 446, 447, 448, 449, 450, 451, 452, 453, 454, 455] (by decide +kernel) (by decide +kernel)
set_option maxRecDepth 20000 in
theorem ggL_state_L_act_q17 : GoodIn wsL_state wsX70 := goodIn_r _ [456, 457, 458, 459, 460, 461, 462, 463, 464, 465, 466, 467, 468, 469, 470, 471, 472] (by decide +kernel) (by decide +kernel)
set_option maxRecDepth 20000 in
theorem ggL_state_L_act_q18 : GoodIn wsL_state wsX10 := goodIn_r _ [473, 474] (by decide +kernel) (by decide +kernel)
set_option maxRecDepth 20000 in
theorem ggL_state_L_act_q19 : GoodIn wsL_state wsX30 := goodIn_r _ [475, 476, 477] (by decide +kernel) (by decide +kernel)
set_option maxRecDepth 20000 in
theorem ggL_state_L_act_q20 : GoodIn wsL_state wsX80 := goodIn_r _ [478, 479, 480] (by decide +kernel) (by decide +kernel)
set_option maxRecDepth 20000 in
theorem ggL_state_L_act_q21 : GoodIn wsL_state wsX50 := goodIn_r _ [481, 482, 483, 484, 485, 486] (by decide +kernel) (by decide +kernel)
set_option maxRecDepth 20000 in
theorem ggL_state_L_act : GoodIn wsL_state wsL_act := goodIn_ca (goodIn_ca (goodIn_ca (goodIn_ca (goodIn_ca (goodIn_ca ((goodIn_ca (goodIn_ca (goodIn_ca (goodIn_ca (goodIn_ca (goodIn_ca (goodIn_ca (ggL_state_L_act_q0) (goodIn_app (ggL_state_L_act_q1) (goodIn_app (ggL_state_L_act_q2) (goodIn_app (ggL_state_L_act_q3) (goodIn_app (ggL_state_L_act_q4) (goodIn_app (ggL_state_L_act_q5) (goodIn_app (ggL_state_L_act_q6) (goodIn_app (ggL_state_L_act_q7) (goodIn_app (ggL_state_L_act_q8) (goodIn_app (ggL_state_L_act_q9) (goodIn_app (ggL_state_L_act_q10) (goodIn_app (ggL_state_L_act_q11) (goodIn_app (ggL_state_L_act_q12) (goodIn_app (ggL_state_L_act_q13) (goodIn_app (ggL_state_L_act_q14) (ggL_state_L_act_q15)))))))))))))))) (ggL_state_L_act_q16)) (ggL_state_L_act_q17)) (ggL_state_L_act_q18)) (ggL_state_L_act_q19)) (ggL_state_L_act_q20)) (ggL_state_L_act_q21))) (goodIn_sub (fun _ h => List.mem_cons_of_mem _ (List.mem_append_left _ (List.mem_append_left _ (List.mem_append_left _ (List.mem_append_left _ (List.mem_append_left _ (List.mem_append_right _ h))))))) (by decide +kernel))) (goodIn_sub (fun _ h => List.mem_cons_of_mem _ (List.mem_append_left _ (List.mem_append_left _ (List.mem_append_left _ (List.mem_append_left _ (List.mem_append_right _ h)))))) (by decide +kernel))) (goodIn_sub (fun _ h => List.mem_cons_of_mem _ (List.mem_append_left _ (List.mem_append_left _ (List.mem_append_left _ (List.mem_append_right _ h))))) (by decide +kernel))) (goodIn_sub (fun _ h => List.mem_cons_of_mem _ (List.mem_append_left _ (List.mem_append_left _ (List.mem_append_right _ h)))) (by decide +kernel))) (goodIn_sub (fun _ h => List.mem_cons_of_mem _ (List.mem_append_left _ (List.mem_append_right _ h))) (by decide +kernel))) (goodIn_sub (fun _ h => List.mem_cons_of_mem _ (List.mem_append_right _ h)) (by decide +kernel))
set_option maxRecDepth 20000 in
theorem gL_state_L_act : GoodIn wsL_state (va_wsS RL 34 yL_act wsL_act) := goodIn_app (goodIn_of _ (by decide +kernel)) ggL_state_L_act
set_option maxRecDepth 20000 in
theorem ggL_state_X10_canRelease : GoodIn wsL_state wsX10_canRelease := goodIn_ca (goodIn_ca (goodIn_r _ [423, 358, 6, 33, 34, 35, 4, 36, 37, 38, 39, 40, 41, 42, 43, 44, 359, 146, 147, 148, 149, 150, 151, 152, 153, 154, 155, 156, 157, 158, 159, 160, 161, 162, 87, 163, 164, 165, 166, 79, 167, 168, 169, 170, 171, 172, 173, 174, 336, 184, 185, 186, 84, 424, 255, 256, 257, 258, 259, 443, 444, 445, 446, 447, 448, 449, 450, 451, 452, 453, 454, 455, 456, 457, 458, 459, 460, 461, 462, 463, 464, 465, 466, 467, 468, 469, 470, 471, 472, 478, 479, 480] (by decide +kernel) (by decide +kernel)) (goodIn_sub (fun _ h => List.mem_cons_of_mem _ (List.mem_append_left _ (List.mem_append_left _ (List.mem_append_left _ (List.mem_append_left _ (List.mem_append_right _ h)))))) (by decide +kernel))) (goodIn_sub (fun _ h => List.mem_cons_of_mem _ (List.mem_append_left _ (List.mem_append_left _ (List.mem_append_left _ (List.mem_append_left _ (List.mem_append_left _ (List.mem_append_right _ h))))))) (by decide +kernel))
set_option maxRecDepth 20000 in
theorem gL_state_X10_canRelease : GoodIn wsL_state (wsV RL 152 RX10 yX10_canRelease wsX10_canRelease) := goodIn_app (goodIn_of _ (by decide +kernel)) ggL_state_X10_canRelease
set_option maxRecDepth 20000 in
theorem ggL_state_X10_planetCount : GoodIn wsL_state wsX10_planetCount := goodIn_r _ [428, 6, 429, 443, 444, 445, 446, 447, 448, 449, 450, 451, 452, 453, 454, 455, 456, 457, 458, 459, 460, 461, 462, 463, 464, 465, 466, 467, 468, 469, 470, 471, 472] (by decide +kernel) (by decide +kernel)
set_option maxRecDepth 20000 in
theorem gL_state_X10_planetCount : GoodIn wsL_state (wsV RL 155 RX10 yX10_planetCount wsX10_planetCount) := goodIn_app (goodIn_of _ (by decide +kernel)) ggL_state_X10_planetCount
set_option maxRecDepth 20000 in
theorem ggL_state_X10_gearOf : GoodIn wsL_state wsX10_gearOf := goodIn_ca (goodIn_ca (goodIn_r _ [433, 6, 434, 435, 436, 437, 4, 438, 37, 38, 439, 440, 441, 42, 442, 90, 443, 444, 445, 446, 447, 448, 449, 450, 451, 452, 453, 454, 455, 456, 457, 458, 459, 460, 461, 462, 463, 464, 465, 466, 467, 468, 469, 470, 471, 472] (by decide +kernel) (by decide +kernel)) (goodIn_sub (fun _ h => List.mem_cons_of_mem _ (List.mem_append_left _ (List.mem_append_left _ (List.mem_append_left _ (List.mem_append_left _ (List.mem_append_left _ (List.mem_append_right _ h))))))) (by decide +kernel))) (goodIn_sub (fun _ h => List.mem_cons_of_mem _ (List.mem_append_left _ (List.mem_append_left _ (List.mem_append_left _ (List.mem_append_left _ (List.mem_append_right _ h)))))) (by decide +kernel))
set_option maxRecDepth 20000 in
theorem gL_state_X10_gearOf : GoodIn wsL_state (wsV RL 158 RX10 yX10_gearOf wsX10_gearOf) := goodIn_app (goodIn_of _ (by decide +kernel)) ggL_state_X10_gearOf
theorem dL_state_0 : decode cL_state 0 = .ok (.bipush 31, 2) := by decide +kernel
theorem dL_state_2 : decode cL_state 2 = .ok (.bipush 31, 2) := by decide +kernel
theorem dL_state_4 : decode cL_state 4 = .ok (.bipush 31, 2) := by decide +kernel
theorem dL_state_6 : decode cL_state 6 = .ok (.bipush 31, 2) := by decide +kernel
theorem dL_state_8 : decode cL_state 8 = .ok (.aload_n 0, 1) := by decide +kernel
theorem dL_state_9 : decode cL_state 9 = .ok (.invokevirtual 124, 3) := by decide +kernel
theorem dL_state_12 : decode cL_state 12 = .ok (.imul, 1) := by decide +kernel
theorem dL_state_13 : decode cL_state 13 = .ok (.aload_n 0, 1) := by decide +kernel
theorem dL_state_14 : decode cL_state 14 = .ok (.invokevirtual 127, 3) := by decide +kernel
theorem dL_state_17 : decode cL_state 17 = .ok (.iadd, 1) := by decide +kernel
theorem dL_state_18 : decode cL_state 18 = .ok (.imul, 1) := by decide +kernel
theorem dL_state_19 : decode cL_state 19 = .ok (.aload_n 0, 1) := by decide +kernel
theorem dL_state_20 : decode cL_state 20 = .ok (.invokevirtual 130, 3) := by decide +kernel
theorem dL_state_23 : decode cL_state 23 = .ok (.iadd, 1) := by decide +kernel
theorem dL_state_24 : decode cL_state 24 = .ok (.imul, 1) := by decide +kernel
theorem dL_state_25 : decode cL_state 25 = .ok (.aload_n 0, 1) := by decide +kernel
theorem dL_state_26 : decode cL_state 26 = .ok (.invokevirtual 133, 3) := by decide +kernel
theorem dL_state_29 : decode cL_state 29 = .ok (.iadd, 1) := by decide +kernel
theorem dL_state_30 : decode cL_state 30 = .ok (.imul, 1) := by decide +kernel
theorem dL_state_31 : decode cL_state 31 = .ok (.aload_n 0, 1) := by decide +kernel
theorem dL_state_32 : decode cL_state 32 = .ok (.invokevirtual 136, 3) := by decide +kernel
theorem dL_state_35 : decode cL_state 35 = .ok (.iadd, 1) := by decide +kernel
theorem dL_state_36 : decode cL_state 36 = .ok (.istore_n 1, 1) := by decide +kernel
theorem dL_state_37 : decode cL_state 37 = .ok (.iconst 0, 1) := by decide +kernel
theorem dL_state_38 : decode cL_state 38 = .ok (.istore_n 2, 1) := by decide +kernel
theorem dL_state_39 : decode cL_state 39 = .ok (.iload_n 2, 1) := by decide +kernel
theorem dL_state_40 : decode cL_state 40 = .ok (.aload_n 0, 1) := by decide +kernel
theorem dL_state_41 : decode cL_state 41 = .ok (.invokevirtual 124, 3) := by decide +kernel
theorem dL_state_44 : decode cL_state 44 = .ok (.if_icmp .ge 155, 3) := by decide +kernel
theorem dL_state_47 : decode cL_state 47 = .ok (.aload_n 0, 1) := by decide +kernel
theorem dL_state_48 : decode cL_state 48 = .ok (.iload_n 2, 1) := by decide +kernel
theorem dL_state_49 : decode cL_state 49 = .ok (.invokevirtual 139, 3) := by decide +kernel
theorem dL_state_52 : decode cL_state 52 = .ok (.lstore_n 3, 1) := by decide +kernel
theorem dL_state_53 : decode cL_state 53 = .ok (.bipush 31, 2) := by decide +kernel
theorem dL_state_55 : decode cL_state 55 = .ok (.bipush 31, 2) := by decide +kernel
theorem dL_state_57 : decode cL_state 57 = .ok (.bipush 31, 2) := by decide +kernel
theorem dL_state_59 : decode cL_state 59 = .ok (.iload_n 1, 1) := by decide +kernel
theorem dL_state_60 : decode cL_state 60 = .ok (.imul, 1) := by decide +kernel
theorem dL_state_61 : decode cL_state 61 = .ok (.aload_n 0, 1) := by decide +kernel
theorem dL_state_62 : decode cL_state 62 = .ok (.iload_n 2, 1) := by decide +kernel
theorem dL_state_63 : decode cL_state 63 = .ok (.invokevirtual 143, 3) := by decide +kernel
theorem dL_state_66 : decode cL_state 66 = .ok (.iadd, 1) := by decide +kernel
theorem dL_state_67 : decode cL_state 67 = .ok (.imul, 1) := by decide +kernel
theorem dL_state_68 : decode cL_state 68 = .ok (.lload_n 3, 1) := by decide +kernel
theorem dL_state_69 : decode cL_state 69 = .ok (.lload_n 3, 1) := by decide +kernel
theorem dL_state_70 : decode cL_state 70 = .ok (.bipush 31, 2) := by decide +kernel
theorem dL_state_72 : decode cL_state 72 = .ok (.lshr, 1) := by decide +kernel
theorem dL_state_73 : decode cL_state 73 = .ok (.lxor, 1) := by decide +kernel
theorem dL_state_74 : decode cL_state 74 = .ok (.l2i, 1) := by decide +kernel
theorem dL_state_75 : decode cL_state 75 = .ok (.iadd, 1) := by decide +kernel
theorem dL_state_76 : decode cL_state 76 = .ok (.imul, 1) := by decide +kernel
theorem dL_state_77 : decode cL_state 77 = .ok (.aload_n 0, 1) := by decide +kernel
theorem dL_state_78 : decode cL_state 78 = .ok (.iload_n 2, 1) := by decide +kernel
theorem dL_state_79 : decode cL_state 79 = .ok (.invokevirtual 146, 3) := by decide +kernel
theorem dL_state_82 : decode cL_state 82 = .ok (.ifCond .eq 7, 3) := by decide +kernel
theorem dL_state_85 : decode cL_state 85 = .ok (.iconst 1, 1) := by decide +kernel
theorem dL_state_86 : decode cL_state 86 = .ok (.goto 4, 3) := by decide +kernel
theorem dL_state_89 : decode cL_state 89 = .ok (.iconst 0, 1) := by decide +kernel
theorem dL_state_90 : decode cL_state 90 = .ok (.iadd, 1) := by decide +kernel
theorem dL_state_91 : decode cL_state 91 = .ok (.aload_n 0, 1) := by decide +kernel
theorem dL_state_92 : decode cL_state 92 = .ok (.iload_n 2, 1) := by decide +kernel
theorem dL_state_93 : decode cL_state 93 = .ok (.invokevirtual 149, 3) := by decide +kernel
theorem dL_state_96 : decode cL_state 96 = .ok (.ifCond .eq 7, 3) := by decide +kernel
theorem dL_state_99 : decode cL_state 99 = .ok (.iconst 2, 1) := by decide +kernel
theorem dL_state_100 : decode cL_state 100 = .ok (.goto 4, 3) := by decide +kernel
theorem dL_state_103 : decode cL_state 103 = .ok (.iconst 0, 1) := by decide +kernel
theorem dL_state_104 : decode cL_state 104 = .ok (.iadd, 1) := by decide +kernel
theorem dL_state_105 : decode cL_state 105 = .ok (.istore_n 1, 1) := by decide +kernel
theorem dL_state_106 : decode cL_state 106 = .ok (.bipush 31, 2) := by decide +kernel
theorem dL_state_108 : decode cL_state 108 = .ok (.bipush 31, 2) := by decide +kernel
theorem dL_state_110 : decode cL_state 110 = .ok (.bipush 31, 2) := by decide +kernel
theorem dL_state_112 : decode cL_state 112 = .ok (.iload_n 1, 1) := by decide +kernel
theorem dL_state_113 : decode cL_state 113 = .ok (.imul, 1) := by decide +kernel
theorem dL_state_114 : decode cL_state 114 = .ok (.aload_n 0, 1) := by decide +kernel
theorem dL_state_115 : decode cL_state 115 = .ok (.bipush 12, 2) := by decide +kernel
theorem dL_state_117 : decode cL_state 117 = .ok (.iload_n 2, 1) := by decide +kernel
theorem dL_state_118 : decode cL_state 118 = .ok (.iconst 0, 1) := by decide +kernel
theorem dL_state_119 : decode cL_state 119 = .ok (.invokestatic 34, 3) := by decide +kernel
theorem dL_state_122 : decode cL_state 122 = .ok (.iadd, 1) := by decide +kernel
theorem dL_state_123 : decode cL_state 123 = .ok (.imul, 1) := by decide +kernel
theorem dL_state_124 : decode cL_state 124 = .ok (.aload_n 0, 1) := by decide +kernel
theorem dL_state_125 : decode cL_state 125 = .ok (.bipush 13, 2) := by decide +kernel
theorem dL_state_127 : decode cL_state 127 = .ok (.iload_n 2, 1) := by decide +kernel
theorem dL_state_128 : decode cL_state 128 = .ok (.iconst 0, 1) := by decide +kernel
theorem dL_state_129 : decode cL_state 129 = .ok (.invokestatic 34, 3) := by decide +kernel
theorem dL_state_132 : decode cL_state 132 = .ok (.iadd, 1) := by decide +kernel
theorem dL_state_133 : decode cL_state 133 = .ok (.imul, 1) := by decide +kernel
theorem dL_state_134 : decode cL_state 134 = .ok (.aload_n 0, 1) := by decide +kernel
theorem dL_state_135 : decode cL_state 135 = .ok (.bipush 14, 2) := by decide +kernel
theorem dL_state_137 : decode cL_state 137 = .ok (.iload_n 2, 1) := by decide +kernel
theorem dL_state_138 : decode cL_state 138 = .ok (.iconst 0, 1) := by decide +kernel
theorem dL_state_139 : decode cL_state 139 = .ok (.invokestatic 34, 3) := by decide +kernel
theorem dL_state_142 : decode cL_state 142 = .ok (.iadd, 1) := by decide +kernel
theorem dL_state_143 : decode cL_state 143 = .ok (.istore_n 1, 1) := by decide +kernel
theorem dL_state_144 : decode cL_state 144 = .ok (.iconst 0, 1) := by decide +kernel
theorem dL_state_145 : decode cL_state 145 = .ok (.istore 5, 2) := by decide +kernel
theorem dL_state_147 : decode cL_state 147 = .ok (.iload 5, 2) := by decide +kernel
theorem dL_state_149 : decode cL_state 149 = .ok (.iload_n 2, 1) := by decide +kernel
theorem dL_state_150 : decode cL_state 150 = .ok (.if_icmp .ge 24, 3) := by decide +kernel
theorem dL_state_153 : decode cL_state 153 = .ok (.bipush 31, 2) := by decide +kernel
theorem dL_state_155 : decode cL_state 155 = .ok (.iload_n 1, 1) := by decide +kernel
theorem dL_state_156 : decode cL_state 156 = .ok (.imul, 1) := by decide +kernel
theorem dL_state_157 : decode cL_state 157 = .ok (.aload_n 0, 1) := by decide +kernel
theorem dL_state_158 : decode cL_state 158 = .ok (.bipush 15, 2) := by decide +kernel
theorem dL_state_160 : decode cL_state 160 = .ok (.iload_n 2, 1) := by decide +kernel
theorem dL_state_161 : decode cL_state 161 = .ok (.iload 5, 2) := by decide +kernel
theorem dL_state_163 : decode cL_state 163 = .ok (.invokestatic 34, 3) := by decide +kernel
theorem dL_state_166 : decode cL_state 166 = .ok (.iadd, 1) := by decide +kernel
theorem dL_state_167 : decode cL_state 167 = .ok (.istore_n 1, 1) := by decide +kernel
theorem dL_state_168 : decode cL_state 168 = .ok (.iinc 5 1, 3) := by decide +kernel
theorem dL_state_171 : decode cL_state 171 = .ok (.goto (-24), 3) := by decide +kernel
theorem dL_state_174 : decode cL_state 174 = .ok (.bipush 31, 2) := by decide +kernel
theorem dL_state_176 : decode cL_state 176 = .ok (.iload_n 1, 1) := by decide +kernel
theorem dL_state_177 : decode cL_state 177 = .ok (.imul, 1) := by decide +kernel
theorem dL_state_178 : decode cL_state 178 = .ok (.aload_n 0, 1) := by decide +kernel
theorem dL_state_179 : decode cL_state 179 = .ok (.iload_n 2, 1) := by decide +kernel
theorem dL_state_180 : decode cL_state 180 = .ok (.invokevirtual 152, 3) := by decide +kernel
theorem dL_state_183 : decode cL_state 183 = .ok (.ifCond .eq 7, 3) := by decide +kernel
theorem dL_state_186 : decode cL_state 186 = .ok (.iconst 1, 1) := by decide +kernel
theorem dL_state_187 : decode cL_state 187 = .ok (.goto 4, 3) := by decide +kernel
theorem dL_state_190 : decode cL_state 190 = .ok (.iconst 0, 1) := by decide +kernel
theorem dL_state_191 : decode cL_state 191 = .ok (.iadd, 1) := by decide +kernel
theorem dL_state_192 : decode cL_state 192 = .ok (.istore_n 1, 1) := by decide +kernel
theorem dL_state_193 : decode cL_state 193 = .ok (.iinc 2 1, 3) := by decide +kernel
theorem dL_state_196 : decode cL_state 196 = .ok (.goto (-157), 3) := by decide +kernel
theorem dL_state_199 : decode cL_state 199 = .ok (.iconst 0, 1) := by decide +kernel
theorem dL_state_200 : decode cL_state 200 = .ok (.istore_n 2, 1) := by decide +kernel
theorem dL_state_201 : decode cL_state 201 = .ok (.iload_n 2, 1) := by decide +kernel
theorem dL_state_202 : decode cL_state 202 = .ok (.aload_n 0, 1) := by decide +kernel
theorem dL_state_203 : decode cL_state 203 = .ok (.invokevirtual 155, 3) := by decide +kernel
theorem dL_state_206 : decode cL_state 206 = .ok (.if_icmp .ge 20, 3) := by decide +kernel
theorem dL_state_209 : decode cL_state 209 = .ok (.bipush 31, 2) := by decide +kernel
theorem dL_state_211 : decode cL_state 211 = .ok (.iload_n 1, 1) := by decide +kernel
theorem dL_state_212 : decode cL_state 212 = .ok (.imul, 1) := by decide +kernel
theorem dL_state_213 : decode cL_state 213 = .ok (.aload_n 0, 1) := by decide +kernel
theorem dL_state_214 : decode cL_state 214 = .ok (.iload_n 2, 1) := by decide +kernel
theorem dL_state_215 : decode cL_state 215 = .ok (.invokevirtual 158, 3) := by decide +kernel
theorem dL_state_218 : decode cL_state 218 = .ok (.iadd, 1) := by decide +kernel
theorem dL_state_219 : decode cL_state 219 = .ok (.istore_n 1, 1) := by decide +kernel
theorem dL_state_220 : decode cL_state 220 = .ok (.iinc 2 1, 3) := by decide +kernel
theorem dL_state_223 : decode cL_state 223 = .ok (.goto (-22), 3) := by decide +kernel
theorem dL_state_226 : decode cL_state 226 = .ok (.iload_n 1, 1) := by decide +kernel
theorem dL_state_227 : decode cL_state 227 = .ok (.ireturn, 1) := by decide +kernel
set_option maxRecDepth 20000 in
theorem ggL_isText_J0_length_8abf5 : GoodIn wsL_isText wsJ0_length_8abf5 := goodIn_r _ [5, 6, 7, 8, 9, 4, 10, 11, 12, 86, 87, 88, 89] (by decide +kernel) (by decide +kernel)
set_option maxRecDepth 20000 in
theorem gL_isText_J0_length_8abf5 : GoodIn wsL_isText (wsV RL 7 RJ0 yJ0_length_8abf5 wsJ0_length_8abf5) := goodIn_app (goodIn_of _ (by decide +kernel)) ggL_isText_J0_length_8abf5
set_option maxRecDepth 20000 in
theorem ggL_isText_X10_outputAt : GoodIn wsL_isText wsX10_outputAt := goodIn_ca (goodIn_r _ [17, 18, 19, 20, 21, 22, 23, 24, 25, 26, 27, 28, 29, 30, 31, 32, 33, 34, 35, 36, 37, 38, 39, 40, 41, 42, 43, 44, 45, 46, 47, 48, 4, 49, 50, 51, 52, 53, 54, 55, 56, 57, 58, 59, 60, 61, 62, 63, 64, 90, 91, 92, 93, 94, 95, 96, 97, 98, 99, 100, 101, 102, 103, 104, 105, 106] (by decide +kernel) (by decide +kernel)) (goodIn_sub (fun _ h => List.mem_cons_of_mem _ (List.mem_append_right _ h)) (by decide +kernel))
set_option maxRecDepth 20000 in
theorem gL_isText_X10_outputAt : GoodIn wsL_isText (wsV RL 305 RX10 yX10_outputAt wsX10_outputAt) := goodIn_app (goodIn_of _ (by decide +kernel)) ggL_isText_X10_outputAt
set_option maxRecDepth 20000 in
theorem ggL_isText_J0_charAt_5068e : GoodIn wsL_isText wsJ0_charAt_5068e := goodIn_r _ [68, 6, 69, 70, 71, 4, 72, 11, 12, 73, 74, 75, 76, 77, 48, 49, 50, 51, 52, 53, 54, 78, 79, 57, 80, 81, 82, 83, 62, 63, 64, 84, 85, 56, 58, 59, 60, 61, 86, 87, 88, 89] (by decide +kernel) (by decide +kernel)
set_option maxRecDepth 20000 in
theorem gL_isText_J0_charAt_5068e : GoodIn wsL_isText (wsV RL 13 RJ0 yJ0_charAt_5068e wsJ0_charAt_5068e) := goodIn_app (goodIn_of _ (by decide +kernel)) ggL_isText_J0_charAt_5068e
theorem dL_isText_0 : decode cL_isText 0 = .ok (.iload_n 1, 1) := by decide +kernel
theorem dL_isText_1 : decode cL_isText 1 = .ok (.aload_n 2, 1) := by decide +kernel
theorem dL_isText_2 : decode cL_isText 2 = .ok (.invokevirtual 7, 3) := by decide +kernel
theorem dL_isText_5 : decode cL_isText 5 = .ok (.if_icmp .eq 5, 3) := by decide +kernel
theorem dL_isText_8 : decode cL_isText 8 = .ok (.iconst 0, 1) := by decide +kernel
theorem dL_isText_9 : decode cL_isText 9 = .ok (.ireturn, 1) := by decide +kernel
theorem dL_isText_10 : decode cL_isText 10 = .ok (.iconst 0, 1) := by decide +kernel
theorem dL_isText_11 : decode cL_isText 11 = .ok (.istore_n 3, 1) := by decide +kernel
theorem dL_isText_12 : decode cL_isText 12 = .ok (.iload_n 3, 1) := by decide +kernel
theorem dL_isText_13 : decode cL_isText 13 = .ok (.iload_n 1, 1) := by decide +kernel
theorem dL_isText_14 : decode cL_isText 14 = .ok (.if_icmp .ge 24, 3) := by decide +kernel
theorem dL_isText_17 : decode cL_isText 17 = .ok (.aload_n 0, 1) := by decide +kernel
theorem dL_isText_18 : decode cL_isText 18 = .ok (.iload_n 3, 1) := by decide +kernel
theorem dL_isText_19 : decode cL_isText 19 = .ok (.invokevirtual 305, 3) := by decide +kernel
theorem dL_isText_22 : decode cL_isText 22 = .ok (.aload_n 2, 1) := by decide +kernel
theorem dL_isText_23 : decode cL_isText 23 = .ok (.iload_n 3, 1) := by decide +kernel
theorem dL_isText_24 : decode cL_isText 24 = .ok (.invokevirtual 13, 3) := by decide +kernel
theorem dL_isText_27 : decode cL_isText 27 = .ok (.if_icmp .eq 5, 3) := by decide +kernel
theorem dL_isText_30 : decode cL_isText 30 = .ok (.iconst 0, 1) := by decide +kernel
theorem dL_isText_31 : decode cL_isText 31 = .ok (.ireturn, 1) := by decide +kernel
theorem dL_isText_32 : decode cL_isText 32 = .ok (.iinc 3 1, 3) := by decide +kernel
theorem dL_isText_35 : decode cL_isText 35 = .ok (.goto (-23), 3) := by decide +kernel
theorem dL_isText_38 : decode cL_isText 38 = .ok (.iconst 1, 1) := by decide +kernel
theorem dL_isText_39 : decode cL_isText 39 = .ok (.ireturn, 1) := by decide +kernel
set_option maxRecDepth 20000 in
theorem ggL_runs_X10_runScript_q0 : GoodIn wsL_runs ((.code yX10_runScript cX10_runScript 3 (some .int)) :: wsX10_runScript_r1) := goodIn_r _ [7, 8, 9, 10, 11, 12, 13, 14, 15, 16, 17, 18, 19, 20, 21, 22, 23, 24, 25, 26, 27, 28, 29, 30, 31] (by decide +kernel) (by decide +kernel)
set_option maxRecDepth 20000 in
theorem ggL_runs_X10_runScript_q1 : GoodIn wsL_runs wsX10_runScript_r2 := goodIn_r _ [32, 33, 34, 35, 36, 37, 38, 39, 40, 41, 42, 43, 44, 45, 46, 47, 48, 49, 50, 51, 52, 53, 54, 55] (by decide +kernel) (by decide +kernel)
set_option maxRecDepth 20000 in
theorem ggL_runs_X10_runScript_q2 : GoodIn wsL_runs wsX10_runScript_r3 := goodIn_r _ [56, 57, 58, 59, 60, 61, 62, 63, 64, 65, 66, 67, 68, 69, 70, 71, 72, 73, 74, 75, 76, 77, 78, 79] (by decide +kernel) (by decide +kernel)
set_option maxRecDepth 20000 in
theorem ggL_runs_X10_runScript_q3 : GoodIn wsL_runs wsX10_runScript_r4 := goodIn_r _ [80, 81, 82, 83, 84, 85, 86, 87, 88, 89, 90, 91, 92, 93, 94, 95, 96, 97, 98, 99, 100, 101, 102, 103] (by decide +kernel) (by decide +kernel)
set_option maxRecDepth 20000 in
theorem ggL_runs_X10_runScript_q4 : GoodIn wsL_runs wsX10_runScript_r5 := goodIn_r _ [104, 105, 106, 107, 108, 109, 110, 111, 112, 113, 114, 115, 116, 117, 118, 119, 120, 121, 122, 123, 124, 125, 126, 127] (by decide +kernel) (by decide +kernel)
set_option maxRecDepth 20000 in
theorem ggL_runs_X10_runScript_q5 : GoodIn wsL_runs wsX10_runScript_r6 := goodIn_r _ [128, 129, 130, 131, 132, 133, 134, 135, 136, 137, 138, 139, 6, 140, 141, 142, 143, 144, 145, 146, 147, 148, 149, 6] (by decide +kernel) (by decide +kernel)
set_option maxRecDepth 20000 in
theorem ggL_runs_X10_runScript_q6 : GoodIn wsL_runs wsX10_runScript_r7 := goodIn_r _ [151, 152, 153, 154, 155, 156, 157, 158, 159, 160, 161, 162, 163, 164, 165, 166, 167, 168, 169, 170, 171, 172, 173, 174] (by decide +kernel) (by decide +kernel)
set_option maxRecDepth 20000 in
theorem ggL_runs_X10_runScript_q7 : GoodIn wsL_runs wsX10_runScript_r8 := goodIn_r _ [175, 176, 177, 178, 179, 180, 181, 182, 183, 184, 185, 186, 187, 188, 189, 190, 191, 192, 193, 194, 195, 196, 197, 198] (by decide +kernel) (by decide +kernel)
set_option maxRecDepth 20000 in
theorem ggL_runs_X10_runScript_q8 : GoodIn wsL_runs wsX10_runScript_r9 := goodIn_r _ [199, 200, 201, 202, 203, 204, 205, 206, 207, 208, 209, 210, 211, 212, 213, 214, 215, 216, 217, 218, 219, 220, 221, 222] (by decide +kernel) (by decide +kernel)
set_option maxRecDepth 20000 in
theorem ggL_runs_X10_runScript_q9 : GoodIn wsL_runs wsX10_runScript_r10 := goodIn_r _ [223, 224, 225, 226, 227, 228, 229, 230, 231, 232, 233, 234, 235, 236, 237, 238, 239, 240, 241, 242, 243, 244, 245, 246] (by decide +kernel) (by decide +kernel)
set_option maxRecDepth 20000 in
theorem ggL_runs_X10_runScript_q10 : GoodIn wsL_runs wsX10_runScript_r11 := goodIn_r _ [247, 248, 249, 250, 251, 252, 253, 254, 255, 256, 257, 258, 259, 260, 261, 262, 263, 264, 265, 266, 267, 268, 269, 270] (by decide +kernel) (by decide +kernel)
set_option maxRecDepth 20000 in
theorem ggL_runs_X10_runScript_q11 : GoodIn wsL_runs wsX10_runScript_r12 := goodIn_r _ [271, 272, 273, 274, 275, 276, 277, 278, 279, 280, 281, 282, 283, 284, 285, 286, 287, 288, 289, 290, 291, 292, 293, 294] (by decide +kernel) (by decide +kernel)
set_option maxRecDepth 20000 in
theorem ggL_runs_X10_runScript_q12 : GoodIn wsL_runs wsX10_runScript_r13 := goodIn_r _ [295, 296, 297, 298, 299, 300, 301, 302, 303, 304, 305, 306, 307, 308, 309, 310, 311, 312, 313, 314, 315, 316, 317, 318] (by decide +kernel) (by decide +kernel)
set_option maxRecDepth 20000 in
theorem ggL_runs_X10_runScript_q13 : GoodIn wsL_runs wsX10_runScript_r14 := goodIn_r _ [319, 320, 321, 322, 323, 324, 325, 326] (by decide +kernel) (by decide +kernel)
set_option maxRecDepth 20000 in
theorem ggL_runs_X10_runScript_q14 : GoodIn wsL_runs wsX100 := goodIn_r _ [327, 328, 329, 330, 331, 332, 333, 334, 335, 336, 337, 338, 339] (by decide +kernel) (by decide +kernel)
set_option maxRecDepth 20000 in
theorem ggL_runs_X10_runScript_q15 : GoodIn wsL_runs wsX60 := goodIn_r _ [340, 341, 342, 343, 344, 345, 346, 347] (by decide +kernel) (by decide +kernel)
set_option maxRecDepth 20000 in
theorem ggL_runs_X10_runScript_q16 : GoodIn wsL_runs wsJ00 := goodIn_r _ [348, 349, 350, 351] (by decide +kernel) (by decide +kernel)
set_option maxRecDepth 20000 in
theorem ggL_runs_X10_runScript_q17 : GoodIn wsL_runs wsX70 := goodIn_r _ [352, 353, 354, 355, 356, 357, 358, 359, 360, 361, 362, 363, 364, 365, 366, 367, 368] (by decide +kernel) (by decide +kernel)
set_option maxRecDepth 20000 in
theorem ggL_runs_X10_runScript_q18 : GoodIn wsL_runs wsX10 := goodIn_r _ [369, 370] (by decide +kernel) (by decide +kernel)
set_option maxRecDepth 20000 in
theorem ggL_runs_X10_runScript_q19 : GoodIn wsL_runs wsX80 := goodIn_r _ [371, 372, 373] (by decide +kernel) (by decide +kernel)
set_option maxRecDepth 20000 in
theorem ggL_runs_X10_runScript_q20 : GoodIn wsL_runs wsX30 := goodIn_r _ [374, 375, 376] (by decide +kernel) (by decide +kernel)
set_option maxRecDepth 20000 in
theorem ggL_runs_X10_runScript : GoodIn wsL_runs wsX10_runScript := goodIn_ca (goodIn_ca (goodIn_ca ((goodIn_ca (goodIn_ca (goodIn_ca (goodIn_ca (goodIn_ca (goodIn_ca (goodIn_ca (goodIn_ca (ggL_runs_X10_runScript_q0) (goodIn_app (ggL_runs_X10_runScript_q1) (goodIn_app (ggL_runs_X10_runScript_q2) (goodIn_app (ggL_runs_X10_runScript_q3) (goodIn_app (ggL_runs_X10_runScript_q4) (goodIn_app (ggL_runs_X10_runScript_q5) (goodIn_app (ggL_runs_X10_runScript_q6) (goodIn_app (ggL_runs_X10_runScript_q7) (goodIn_app (ggL_runs_X10_runScript_q8) (goodIn_app (ggL_runs_X10_runScript_q9) (goodIn_app (ggL_runs_X10_runScript_q10) (goodIn_app (ggL_runs_X10_runScript_q11) (goodIn_app (ggL_runs_X10_runScript_q12) (ggL_runs_X10_runScript_q13)))))))))))))) (ggL_runs_X10_runScript_q14)) (ggL_runs_X10_runScript_q15)) (ggL_runs_X10_runScript_q16)) (ggL_runs_X10_runScript_q17)) (ggL_runs_X10_runScript_q18)) (ggL_runs_X10_runScript_q19)) (ggL_runs_X10_runScript_q20))) (goodIn_sub (fun _ h => List.mem_cons_of_mem _ (List.mem_append_left _ (List.mem_append_left _ (List.mem_append_right _ h)))) (by decide +kernel))) (goodIn_sub (fun _ h => List.mem_cons_of_mem _ (List.mem_append_left _ (List.mem_append_right _ h))) (by decide +kernel))) (goodIn_sub (fun _ h => List.mem_cons_of_mem _ (List.mem_append_right _ h)) (by decide +kernel))
set_option maxRecDepth 20000 in
theorem gL_runs_X10_runScript : GoodIn wsL_runs (wsV RL 180 RX10 yX10_runScript wsX10_runScript) := goodIn_app (goodIn_of _ (by decide +kernel)) ggL_runs_X10_runScript
theorem dL_runs_0 : decode cL_runs 0 = .ok (.aload_n 0, 1) := by decide +kernel
theorem dL_runs_1 : decode cL_runs 1 = .ok (.invokevirtual 180, 3) := by decide +kernel
theorem dL_runs_4 : decode cL_runs 4 = .ok (.ireturn, 1) := by decide +kernel
theorem dL_runs_5 : decode cL_runs 5 = .ok (.astore_n 1, 1) := by decide +kernel
theorem dL_runs_6 : decode cL_runs 6 = .ok (.iconst (-1), 1) := by decide +kernel
theorem dL_runs_7 : decode cL_runs 7 = .ok (.ireturn, 1) := by decide +kernel
theorem dL_runs_8 : decode cL_runs 8 = .ok (.astore_n 1, 1) := by decide +kernel
theorem dL_runs_9 : decode cL_runs 9 = .ok (.bipush (-2), 2) := by decide +kernel
theorem dL_runs_11 : decode cL_runs 11 = .ok (.ireturn, 1) := by decide +kernel
set_option maxRecDepth 20000 in
theorem ggL_fails_L_put : GoodIn wsL_fails wsL_put := goodIn_ca (goodIn_ca (goodIn_ca (goodIn_r _ [4, 5, 6, 7, 8, 9, 10, 11, 12, 13, 14, 15, 16, 17, 18, 19, 20, 21, 22, 23, 24, 25, 26, 27, 28, 29, 30, 31, 32, 33, 34, 35, 36, 37, 38, 39, 40, 41, 42, 43, 44, 45, 46, 47, 48, 49, 50, 51, 52, 53, 54, 55, 56, 57, 58, 59, 60, 61, 62, 63, 64, 65, 66, 67, 68, 69, 70, 71, 351, 352, 353, 354, 355, 356, 357, 358, 359, 360, 361, 362, 363, 364, 365, 366, 367, 368, 369, 370, 371, 372, 373, 374, 375] (by decide +kernel) (by decide +kernel)) (goodIn_sub (fun _ h => List.mem_cons_of_mem _ (List.mem_append_left _ (List.mem_append_left _ (List.mem_append_left _ (List.mem_append_right _ h))))) (by decide +kernel))) (goodIn_sub (fun _ h => List.mem_cons_of_mem _ (List.mem_append_left _ (List.mem_append_left _ (List.mem_append_right _ h)))) (by decide +kernel))) (goodIn_sub (fun _ h => List.mem_cons_of_mem _ (List.mem_append_left _ (List.mem_append_right _ h))) (by decide +kernel))
set_option maxRecDepth 20000 in
theorem gL_fails_L_put : GoodIn wsL_fails (va_wsS RL 176 yL_put wsL_put) := goodIn_app (goodIn_of _ (by decide +kernel)) ggL_fails_L_put
set_option maxRecDepth 20000 in
theorem ggL_fails_L_runs_q0 : GoodIn wsL_fails ((.codeWith yL_runs cL_runs 2 (some .int) [(0, 4, 5, 109), (0, 4, 8, 111)]) :: wsL_runs_r1) := goodIn_r _ [74, 75, 76, 77, 78, 79, 57, 80, 59, 60, 61, 62, 63, 81, 82, 83, 84, 85, 86, 87, 88, 89, 68, 90, 91] (by decide +kernel) (by decide +kernel)
set_option maxRecDepth 20000 in
theorem ggL_fails_L_runs_q1 : GoodIn wsL_fails wsL_runs_r2 := goodIn_r _ [92, 70, 93, 94, 95, 96, 97, 98, 99, 100, 101, 102, 103, 104, 105, 106, 107, 108, 109, 110, 111, 112, 113, 114] (by decide +kernel) (by decide +kernel)
set_option maxRecDepth 20000 in
theorem ggL_fails_L_runs_q2 : GoodIn wsL_fails wsL_runs_r3 := goodIn_r _ [71, 115, 6, 7, 8, 9, 10, 11, 12, 13, 14, 15, 16, 116, 18, 19, 20, 21, 22, 23, 24, 25, 26, 27] (by decide +kernel) (by decide +kernel)
set_option maxRecDepth 20000 in
theorem ggL_fails_L_runs_q3 : GoodIn wsL_fails wsL_runs_r4 := goodIn_r _ [28, 29, 30, 31, 32, 33, 34, 35, 36, 37, 38, 39, 40, 41, 42, 43, 44, 45, 46, 47, 48, 49, 50, 51] (by decide +kernel) (by decide +kernel)
set_option maxRecDepth 20000 in
theorem ggL_fails_L_runs_q4 : GoodIn wsL_fails wsL_runs_r5 := goodIn_r _ [52, 53, 117, 118, 119, 120, 121, 122, 123, 124, 125, 126, 127, 128, 129, 130, 131, 132, 133, 134, 135, 136, 137, 138] (by decide +kernel) (by decide +kernel)
set_option maxRecDepth 20000 in
theorem ggL_fails_L_runs_q5 : GoodIn wsL_fails wsL_runs_r6 := goodIn_r _ [139, 140, 141, 142, 143, 144, 145, 146, 147, 148, 149, 150, 151, 152, 153, 154, 155, 156, 157, 158, 159, 160, 161, 162] (by decide +kernel) (by decide +kernel)
set_option maxRecDepth 20000 in
theorem ggL_fails_L_runs_q6 : GoodIn wsL_fails wsL_runs_r7 := goodIn_r _ [163, 164, 165, 166, 167, 57, 169, 170, 171, 172, 173, 174, 175, 176, 177, 178, 179, 180, 181, 182, 183, 184, 185, 186] (by decide +kernel) (by decide +kernel)
set_option maxRecDepth 20000 in
theorem ggL_fails_L_runs_q7 : GoodIn wsL_fails wsL_runs_r8 := goodIn_r _ [187, 188, 189, 190, 191, 192, 193, 194, 195, 196, 197, 198, 199, 200, 201, 202, 203, 204, 205, 206, 207, 208, 209, 210] (by decide +kernel) (by decide +kernel)
set_option maxRecDepth 20000 in
theorem ggL_fails_L_runs_q8 : GoodIn wsL_fails wsL_runs_r9 := goodIn_r _ [211, 212, 213, 214, 215, 216, 217, 218, 219, 220, 221, 222, 223, 224, 225, 226, 227, 228, 229, 230, 231, 232, 233, 234] (by decide +kernel) (by decide +kernel)
set_option maxRecDepth 20000 in
theorem ggL_fails_L_runs_q9 : GoodIn wsL_fails wsL_runs_r10 := goodIn_r _ [235, 236, 237, 238, 239, 240, 241, 242, 243, 244, 245, 246, 247, 248, 249, 250, 251, 252, 253, 254, 255, 256, 257, 258] (by decide +kernel) (by decide +kernel)
set_option maxRecDepth 20000 in
theorem ggL_fails_L_runs_q10 : GoodIn wsL_fails wsL_runs_r11 := goodIn_r _ [259, 260, 261, 262, 263, 264, 265, 266, 267, 268, 269, 270, 271, 272, 273, 274, 275, 276, 277, 278, 279, 280, 281, 282] (by decide +kernel) (by decide +kernel)
set_option maxRecDepth 20000 in
theorem ggL_fails_L_runs_q11 : GoodIn wsL_fails wsL_runs_r12 := goodIn_r _ [283, 284, 285, 286, 287, 288, 289, 290, 291, 292, 293, 294, 295, 296, 297, 298, 299, 300, 301, 302, 303, 304, 305, 306] (by decide +kernel) (by decide +kernel)
set_option maxRecDepth 20000 in
theorem ggL_fails_L_runs_q12 : GoodIn wsL_fails wsL_runs_r13 := goodIn_r _ [307, 308, 309, 310, 311, 312, 313, 314, 315, 316, 317, 318, 319, 320, 321, 322, 323, 324, 325, 326, 327, 328, 329, 330] (by decide +kernel) (by decide +kernel)
set_option maxRecDepth 20000 in
theorem ggL_fails_L_runs_q13 : GoodIn wsL_fails wsL_runs_r14 := goodIn_r _ [331, 332, 333, 334, 335, 336, 337, 338, 339, 340, 341, 342, 343, 344] (by decide +kernel) (by decide +kernel)
set_option maxRecDepth 20000 in
theorem ggL_fails_L_runs_q14 : GoodIn wsL_fails wsX100 := goodIn_r _ [355, 356, 357, 358, 359, 360, 361, 362, 363, 364, 365, 366, 367] (by decide +kernel) (by decide +kernel)
set_option maxRecDepth 20000 in
theorem ggL_fails_L_runs_q15 : GoodIn wsL_fails wsX60 := goodIn_r _ [368, 369, 370, 371, 372, 373, 374, 375] (by decide +kernel) (by decide +kernel)
set_option maxRecDepth 20000 in
theorem ggL_fails_L_runs_q16 : GoodIn wsL_fails wsJ00 := goodIn_r _ [351, 352, 353, 354] (by decide +kernel) (by decide +kernel)
set_option maxRecDepth 20000 in
theorem ggL_fails_L_runs_q17 : GoodIn wsL_fails wsX70 := goodIn_r _ [376, 377, 378, 379, 380, 381, 382, 383, 384, 385, 386, 387, 388, 389, 390, 391, 392] (by decide +kernel) (by decide +kernel)
set_option maxRecDepth 20000 in
theorem ggL_fails_L_runs_q18 : GoodIn wsL_fails wsX10 := goodIn_r _ [393, 394] (by decide +kernel) (by decide +kernel)
set_option maxRecDepth 20000 in
theorem ggL_fails_L_runs_q19 : GoodIn wsL_fails wsX80 := goodIn_r _ [395, 396, 397] (by decide +kernel) (by decide +kernel)
set_option maxRecDepth 20000 in
theorem ggL_fails_L_runs_q20 : GoodIn wsL_fails wsX30 := goodIn_r _ [398, 399, 400] (by decide +kernel) (by decide +kernel)
set_option maxRecDepth 20000 in
theorem ggL_fails_L_runs : GoodIn wsL_fails wsL_runs := goodIn_ca (goodIn_ca (goodIn_ca ((goodIn_ca (goodIn_ca (goodIn_ca (goodIn_ca (goodIn_ca (goodIn_ca (goodIn_ca (goodIn_ca (ggL_fails_L_runs_q0) (goodIn_app (ggL_fails_L_runs_q1) (goodIn_app (ggL_fails_L_runs_q2) (goodIn_app (ggL_fails_L_runs_q3) (goodIn_app (ggL_fails_L_runs_q4) (goodIn_app (ggL_fails_L_runs_q5) (goodIn_app (ggL_fails_L_runs_q6) (goodIn_app (ggL_fails_L_runs_q7) (goodIn_app (ggL_fails_L_runs_q8) (goodIn_app (ggL_fails_L_runs_q9) (goodIn_app (ggL_fails_L_runs_q10) (goodIn_app (ggL_fails_L_runs_q11) (goodIn_app (ggL_fails_L_runs_q12) (ggL_fails_L_runs_q13)))))))))))))) (ggL_fails_L_runs_q14)) (ggL_fails_L_runs_q15)) (ggL_fails_L_runs_q16)) (ggL_fails_L_runs_q17)) (ggL_fails_L_runs_q18)) (ggL_fails_L_runs_q19)) (ggL_fails_L_runs_q20))) (goodIn_sub (fun _ h => List.mem_cons_of_mem _ (List.mem_append_left _ (List.mem_append_left _ (List.mem_append_left _ (List.mem_append_right _ h))))) (by decide +kernel))) (goodIn_sub (fun _ h => List.mem_cons_of_mem _ (List.mem_append_left _ (List.mem_append_left _ (List.mem_append_right _ h)))) (by decide +kernel))) (goodIn_sub (fun _ h => List.mem_cons_of_mem _ (List.mem_append_left _ (List.mem_append_right _ h))) (by decide +kernel))
set_option maxRecDepth 20000 in
theorem gL_fails_L_runs : GoodIn wsL_fails (va_wsS RL 188 yL_runs wsL_runs) := goodIn_app (goodIn_of _ (by decide +kernel)) ggL_fails_L_runs
set_option maxRecDepth 20000 in
theorem ggL_fails_X10_errorPosition : GoodIn wsL_fails wsX10_errorPosition := goodIn_ca (goodIn_r _ [348, 349, 350, 81, 355, 356, 357, 358, 359, 360, 361, 362, 363, 364, 365, 366, 367] (by decide +kernel) (by decide +kernel)) (goodIn_sub (fun _ h => List.mem_cons_of_mem _ (List.mem_append_right _ h)) (by decide +kernel))
set_option maxRecDepth 20000 in
theorem gL_fails_X10_errorPosition : GoodIn wsL_fails (wsV RL 308 RX10 yX10_errorPosition wsX10_errorPosition) := goodIn_app (goodIn_of _ (by decide +kernel)) ggL_fails_X10_errorPosition
theorem dL_fails_0 : decode cL_fails 0 = .ok (.aload_n 0, 1) := by decide +kernel
theorem dL_fails_1 : decode cL_fails 1 = .ok (.aload_n 1, 1) := by decide +kernel
theorem dL_fails_2 : decode cL_fails 2 = .ok (.invokestatic 176, 3) := by decide +kernel
theorem dL_fails_5 : decode cL_fails 5 = .ok (.aload_n 0, 1) := by decide +kernel
theorem dL_fails_6 : decode cL_fails 6 = .ok (.invokestatic 188, 3) := by decide +kernel
theorem dL_fails_9 : decode cL_fails 9 = .ok (.iconst (-1), 1) := by decide +kernel
theorem dL_fails_10 : decode cL_fails 10 = .ok (.if_icmp .ne 15, 3) := by decide +kernel
theorem dL_fails_13 : decode cL_fails 13 = .ok (.aload_n 0, 1) := by decide +kernel
theorem dL_fails_14 : decode cL_fails 14 = .ok (.invokevirtual 308, 3) := by decide +kernel
theorem dL_fails_17 : decode cL_fails 17 = .ok (.iload_n 2, 1) := by decide +kernel
theorem dL_fails_18 : decode cL_fails 18 = .ok (.if_icmp .ne 7, 3) := by decide +kernel
theorem dL_fails_21 : decode cL_fails 21 = .ok (.iconst 1, 1) := by decide +kernel
theorem dL_fails_22 : decode cL_fails 22 = .ok (.goto 4, 3) := by decide +kernel
theorem dL_fails_25 : decode cL_fails 25 = .ok (.iconst 0, 1) := by decide +kernel
theorem dL_fails_26 : decode cL_fails 26 = .ok (.ireturn, 1) := by decide +kernel
