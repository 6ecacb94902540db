set_option maxRecDepth 20000 in
theorem ggL_type_X10_type : GoodIn wsL_type wsX10_type := goodIn_ca (goodIn_ca (goodIn_ca (goodIn_r _ [7, 8, 9, 10, 11, 12, 13, 14, 15, 16, 17, 18, 19, 20, 21, 22, 23, 24, 25, 26, 27, 28, 29, 30, 31, 32, 33, 34, 35, 36, 37, 38, 39, 40, 41] (by decide +kernel) (by decide +kernel)) (goodIn_sub (fun _ h => List.mem_cons_of_mem _ (List.mem_append_left _ (List.mem_append_right _ h))) (by decide +kernel))) (goodIn_sub (fun _ h => List.mem_cons_of_mem _ (List.mem_append_right _ h)) (by decide +kernel))) (goodIn_sub (fun _ h => List.mem_cons_of_mem _ (List.mem_append_left _ (List.mem_append_left _ (List.mem_append_right _ h)))) (by decide +kernel))
set_option maxRecDepth 20000 in
theorem gL_type_X10_type : GoodIn wsL_type (wsV RL 157 RX10 yX10_type wsX10_type) := goodIn_app (goodIn_of _ (by decide +kernel)) ggL_type_X10_type
theorem dL_type_0 : decode cL_type 0 = .ok (.aload_n 2, 1) := by decide +kernel
theorem dL_type_1 : decode cL_type 1 = .ok (.iconst 0, 1) := by decide +kernel
theorem dL_type_2 : decode cL_type 2 = .ok (.aload_n 0, 1) := by decide +kernel
theorem dL_type_3 : decode cL_type 3 = .ok (.iload_n 1, 1) := by decide +kernel
theorem dL_type_4 : decode cL_type 4 = .ok (.invokevirtual 157, 3) := by decide +kernel
theorem dL_type_7 : decode cL_type 7 = .ok (.i2l, 1) := by decide +kernel
theorem dL_type_8 : decode cL_type 8 = .ok (.lastore, 1) := by decide +kernel
theorem dL_type_9 : decode cL_type 9 = .ok (.goto 9, 3) := by decide +kernel
theorem dL_type_12 : decode cL_type 12 = .ok (.astore_n 3, 1) := by decide +kernel
theorem dL_type_13 : decode cL_type 13 = .ok (.iconst 1, 1) := by decide +kernel
theorem dL_type_14 : decode cL_type 14 = .ok (.ireturn, 1) := by decide +kernel
theorem dL_type_15 : decode cL_type 15 = .ok (.astore_n 3, 1) := by decide +kernel
theorem dL_type_16 : decode cL_type 16 = .ok (.iconst 2, 1) := by decide +kernel
theorem dL_type_17 : decode cL_type 17 = .ok (.ireturn, 1) := by decide +kernel
theorem dL_type_18 : decode cL_type 18 = .ok (.iconst 0, 1) := by decide +kernel
theorem dL_type_19 : decode cL_type 19 = .ok (.ireturn, 1) := by decide +kernel
set_option maxRecDepth 20000 in
theorem ggL_runScript_X10_runScript_q0 : GoodIn wsL_runScript ((.code yX10_runScript cX10_runScript 3 (some .int)) :: wsX10_runScript_r1) := goodIn_r _ [7, 8, 9, 10, 11, 12, 13, 14, 15, 16, 17, 18, 19, 20, 21, 22, 23, 24, 25, 26, 27, 28, 29, 30, 31] (by decide +kernel) (by decide +kernel)
set_option maxRecDepth 20000 in
theorem ggL_runScript_X10_runScript_q1 : GoodIn wsL_runScript wsX10_runScript_r2 := goodIn_r _ [32, 33, 34, 35, 36, 37, 38, 39, 40, 41, 42, 43, 44, 45, 46, 47, 48, 49, 50, 51, 52, 53, 54, 55] (by decide +kernel) (by decide +kernel)
set_option maxRecDepth 20000 in
theorem ggL_runScript_X10_runScript_q2 : GoodIn wsL_runScript wsX10_runScript_r3 := goodIn_r _ [56, 57, 58, 59, 60, 61, 62, 63, 64, 65, 66, 67, 68, 69, 70, 71, 72, 73, 74, 75, 76, 77, 78, 79] (by decide +kernel) (by decide +kernel)
set_option maxRecDepth 20000 in
theorem ggL_runScript_X10_runScript_q3 : GoodIn wsL_runScript wsX10_runScript_r4 := goodIn_r _ [80, 81, 82, 83, 84, 85, 86, 87, 88, 89, 90, 91, 92, 93, 94, 95, 96, 97, 98, 99, 100, 101, 102, 103] (by decide +kernel) (by decide +kernel)
set_option maxRecDepth 20000 in
theorem ggL_runScript_X10_runScript_q4 : GoodIn wsL_runScript wsX10_runScript_r5 := goodIn_r _ [104, 105, 106, 107, 108, 109, 110, 111, 112, 113, 114, 115, 116, 117, 118, 119, 120, 121, 122, 123, 124, 125, 126, 127] (by decide +kernel) (by decide +kernel)
set_option maxRecDepth 20000 in
theorem ggL_runScript_X10_runScript_q5 : GoodIn wsL_runScript wsX10_runScript_r6 := goodIn_r _ [128, 129, 130, 131, 132, 133, 134, 135, 136, 137, 138, 139, 6, 140, 141, 142, 143, 144, 145, 146, 147, 148, 149, 6] (by decide +kernel) (by decide +kernel)
set_option maxRecDepth 20000 in
theorem ggL_runScript_X10_runScript_q6 : GoodIn wsL_runScript wsX10_runScript_r7 := goodIn_r _ [151, 152, 153, 154, 155, 156, 157, 158, 159, 160, 161, 162, 163, 164, 165, 166, 167, 168, 169, 170, 171, 172, 173, 174] (by decide +kernel) (by decide +kernel)
set_option maxRecDepth 20000 in
theorem ggL_runScript_X10_runScript_q7 : GoodIn wsL_runScript wsX10_runScript_r8 := goodIn_r _ [175, 176, 177, 178, 179, 180, 181, 182, 183, 184, 185, 186, 187, 188, 189, 190, 191, 192, 193, 194, 195, 196, 197, 198] (by decide +kernel) (by decide +kernel)
set_option maxRecDepth 20000 in
theorem ggL_runScript_X10_runScript_q8 : GoodIn wsL_runScript wsX10_runScript_r9 := goodIn_r _ [199, 200, 201, 202, 203, 204, 205, 206, 207, 208, 209, 210, 211, 212, 213, 214, 215, 216, 217, 218, 219, 220, 221, 222] (by decide +kernel) (by decide +kernel)
set_option maxRecDepth 20000 in
theorem ggL_runScript_X10_runScript_q9 : GoodIn wsL_runScript wsX10_runScript_r10 := goodIn_r _ [223, 224, 225, 226, 227, 228, 229, 230, 231, 232, 233, 234, 235, 236, 237, 238, 239, 240, 241, 242, 243, 244, 245, 246] (by decide +kernel) (by decide +kernel)
set_option maxRecDepth 20000 in
theorem ggL_runScript_X10_runScript_q10 : GoodIn wsL_runScript wsX10_runScript_r11 := goodIn_r _ [247, 248, 249, 250, 251, 252, 253, 254, 255, 256, 257, 258, 259, 260, 261, 262, 263, 264, 265, 266, 267, 268, 269, 270] (by decide +kernel) (by decide +kernel)
set_option maxRecDepth 20000 in
theorem ggL_runScript_X10_runScript_q11 : GoodIn wsL_runScript wsX10_runScript_r12 := goodIn_r _ [271, 272, 273, 274, 275, 276, 277, 278, 279, 280, 281, 282, 283, 284, 285, 286, 287, 288, 289, 290, 291, 292, 293, 294] (by decide +kernel) (by decide +kernel)
set_option maxRecDepth 20000 in
theorem ggL_runScript_X10_runScript_q12 : GoodIn wsL_runScript wsX10_runScript_r13 := goodIn_r _ [295, 296, 297, 298, 299, 300, 301, 302, 303, 304, 305, 306, 307, 308, 309, 310, 311, 312, 313, 314, 315, 316, 317, 318] (by decide +kernel) (by decide +kernel)
set_option maxRecDepth 20000 in
theorem ggL_runScript_X10_runScript_q13 : GoodIn wsL_runScript wsX10_runScript_r14 := goodIn_r _ [319, 320, 321, 322, 323, 324, 325, 326] (by decide +kernel) (by decide +kernel)
set_option maxRecDepth 20000 in
theorem ggL_runScript_X10_runScript_q14 : GoodIn wsL_runScript wsX100 := goodIn_r _ [327, 328, 329, 330, 331, 332, 333, 334, 335, 336, 337, 338, 339] (by decide +kernel) (by decide +kernel)
set_option maxRecDepth 20000 in
theorem ggL_runScript_X10_runScript_q15 : GoodIn wsL_runScript wsX60 := goodIn_r _ [340, 341, 342, 343, 344, 345, 346, 347] (by decide +kernel) (by decide +kernel)
set_option maxRecDepth 20000 in
theorem ggL_runScript_X10_runScript_q16 : GoodIn wsL_runScript wsJ00 := goodIn_r _ [348, 349, 350, 351] (by decide +kernel) (by decide +kernel)
set_option maxRecDepth 20000 in
theorem ggL_runScript_X10_runScript_q17 : GoodIn wsL_runScript wsX70 := goodIn_r _ [352, 353, 354, 355, 356, 357, 358, 359, 360, 361, 362, 363, 364, 365, 366, 367, 368] (by decide +kernel) (by decide +kernel)
set_option maxRecDepth 20000 in
theorem ggL_runScript_X10_runScript_q18 : GoodIn wsL_runScript wsX10 := goodIn_r _ [369, 370] (by decide +kernel) (by decide +kernel)
set_option maxRecDepth 20000 in
theorem ggL_runScript_X10_runScript_q19 : GoodIn wsL_runScript wsX80 := goodIn_r _ [371, 372, 373] (by decide +kernel) (by decide +kernel)
set_option maxRecDepth 20000 in
theorem ggL_runScript_X10_runScript_q20 : GoodIn wsL_runScript wsX30 := goodIn_r _ [374, 375, 376] (by decide +kernel) (by decide +kernel)
set_option maxRecDepth 20000 in
theorem ggL_runScript_X10_runScript : GoodIn wsL_runScript wsX10_runScript := goodIn_ca (goodIn_ca (goodIn_ca ((goodIn_ca (goodIn_ca (goodIn_ca (goodIn_ca (goodIn_ca (goodIn_ca (goodIn_ca (goodIn_ca (ggL_runScript_X10_runScript_q0) (goodIn_app (ggL_runScript_X10_runScript_q1) (goodIn_app (ggL_runScript_X10_runScript_q2) (goodIn_app (ggL_runScript_X10_runScript_q3) (goodIn_app (ggL_runScript_X10_runScript_q4) (goodIn_app (ggL_runScript_X10_runScript_q5) (goodIn_app (ggL_runScript_X10_runScript_q6) (goodIn_app (ggL_runScript_X10_runScript_q7) (goodIn_app (ggL_runScript_X10_runScript_q8) (goodIn_app (ggL_runScript_X10_runScript_q9) (goodIn_app (ggL_runScript_X10_runScript_q10) (goodIn_app (ggL_runScript_X10_runScript_q11) (goodIn_app (ggL_runScript_X10_runScript_q12) (ggL_runScript_X10_runScript_q13)))))))))))))) (ggL_runScript_X10_runScript_q14)) (ggL_runScript_X10_runScript_q15)) (ggL_runScript_X10_runScript_q16)) (ggL_runScript_X10_runScript_q17)) (ggL_runScript_X10_runScript_q18)) (ggL_runScript_X10_runScript_q19)) (ggL_runScript_X10_runScript_q20))) (goodIn_sub (fun _ h => List.mem_cons_of_mem _ (List.mem_append_left _ (List.mem_append_right _ h))) (by decide +kernel))) (goodIn_sub (fun _ h => List.mem_cons_of_mem _ (List.mem_append_right _ h)) (by decide +kernel))) (goodIn_sub (fun _ h => List.mem_cons_of_mem _ (List.mem_append_left _ (List.mem_append_left _ (List.mem_append_right _ h)))) (by decide +kernel))
set_option maxRecDepth 20000 in
theorem gL_runScript_X10_runScript : GoodIn wsL_runScript (wsV RL 161 RX10 yX10_runScript wsX10_runScript) := goodIn_app (goodIn_of _ (by decide +kernel)) ggL_runScript_X10_runScript
theorem dL_runScript_0 : decode cL_runScript 0 = .ok (.aload_n 1, 1) := by decide +kernel
theorem dL_runScript_1 : decode cL_runScript 1 = .ok (.iconst 0, 1) := by decide +kernel
theorem dL_runScript_2 : decode cL_runScript 2 = .ok (.aload_n 0, 1) := by decide +kernel
theorem dL_runScript_3 : decode cL_runScript 3 = .ok (.invokevirtual 161, 3) := by decide +kernel
theorem dL_runScript_6 : decode cL_runScript 6 = .ok (.i2l, 1) := by decide +kernel
theorem dL_runScript_7 : decode cL_runScript 7 = .ok (.lastore, 1) := by decide +kernel
theorem dL_runScript_8 : decode cL_runScript 8 = .ok (.goto 9, 3) := by decide +kernel
theorem dL_runScript_11 : decode cL_runScript 11 = .ok (.astore_n 2, 1) := by decide +kernel
theorem dL_runScript_12 : decode cL_runScript 12 = .ok (.iconst 1, 1) := by decide +kernel
theorem dL_runScript_13 : decode cL_runScript 13 = .ok (.ireturn, 1) := by decide +kernel
theorem dL_runScript_14 : decode cL_runScript 14 = .ok (.astore_n 2, 1) := by decide +kernel
theorem dL_runScript_15 : decode cL_runScript 15 = .ok (.iconst 2, 1) := by decide +kernel
theorem dL_runScript_16 : decode cL_runScript 16 = .ok (.ireturn, 1) := by decide +kernel
theorem dL_runScript_17 : decode cL_runScript 17 = .ok (.iconst 0, 1) := by decide +kernel
theorem dL_runScript_18 : decode cL_runScript 18 = .ok (.ireturn, 1) := by decide +kernel
set_option maxRecDepth 20000 in
theorem ggL_errorPosition_X10_errorPosition : GoodIn wsL_errorPosition wsX10_errorPosition := goodIn_ca (goodIn_r _ [6, 7, 8, 9, 10, 11, 12, 13, 14, 15, 16, 17, 18, 19, 20, 21, 22] (by decide +kernel) (by decide +kernel)) (goodIn_sub (fun _ h => List.mem_cons_of_mem _ (List.mem_append_right _ h)) (by decide +kernel))
set_option maxRecDepth 20000 in
theorem gL_errorPosition_X10_errorPosition : GoodIn wsL_errorPosition (wsV RL 165 RX10 yX10_errorPosition wsX10_errorPosition) := goodIn_app (goodIn_of _ (by decide +kernel)) ggL_errorPosition_X10_errorPosition
theorem dL_errorPosition_0 : decode cL_errorPosition 0 = .ok (.aload_n 1, 1) := by decide +kernel
theorem dL_errorPosition_1 : decode cL_errorPosition 1 = .ok (.iconst 0, 1) := by decide +kernel
theorem dL_errorPosition_2 : decode cL_errorPosition 2 = .ok (.aload_n 0, 1) := by decide +kernel
theorem dL_errorPosition_3 : decode cL_errorPosition 3 = .ok (.invokevirtual 165, 3) := by decide +kernel
theorem dL_errorPosition_6 : decode cL_errorPosition 6 = .ok (.i2l, 1) := by decide +kernel
theorem dL_errorPosition_7 : decode cL_errorPosition 7 = .ok (.lastore, 1) := by decide +kernel
theorem dL_errorPosition_8 : decode cL_errorPosition 8 = .ok (.goto 6, 3) := by decide +kernel
theorem dL_errorPosition_11 : decode cL_errorPosition 11 = .ok (.astore_n 2, 1) := by decide +kernel
theorem dL_errorPosition_12 : decode cL_errorPosition 12 = .ok (.iconst 1, 1) := by decide +kernel
theorem dL_errorPosition_13 : decode cL_errorPosition 13 = .ok (.ireturn, 1) := by decide +kernel
theorem dL_errorPosition_14 : decode cL_errorPosition 14 = .ok (.iconst 0, 1) := by decide +kernel
theorem dL_errorPosition_15 : decode cL_errorPosition 15 = .ok (.ireturn, 1) := by decide +kernel
set_option maxRecDepth 20000 in
theorem ggL_failedCommand_X10_failedCommand : GoodIn wsL_failedCommand wsX10_failedCommand := goodIn_ca (goodIn_r _ [6, 7, 8, 9, 10, 11, 12, 13, 14, 15, 16, 17, 18, 19, 20, 21, 22] (by decide +kernel) (by decide +kernel)) (goodIn_sub (fun _ h => List.mem_cons_of_mem _ (List.mem_append_right _ h)) (by decide +kernel))
set_option maxRecDepth 20000 in
theorem gL_failedCommand_X10_failedCommand : GoodIn wsL_failedCommand (wsV RL 168 RX10 yX10_failedCommand wsX10_failedCommand) := goodIn_app (goodIn_of _ (by decide +kernel)) ggL_failedCommand_X10_failedCommand
theorem dL_failedCommand_0 : decode cL_failedCommand 0 = .ok (.aload_n 1, 1) := by decide +kernel
theorem dL_failedCommand_1 : decode cL_failedCommand 1 = .ok (.iconst 0, 1) := by decide +kernel
theorem dL_failedCommand_2 : decode cL_failedCommand 2 = .ok (.aload_n 0, 1) := by decide +kernel
theorem dL_failedCommand_3 : decode cL_failedCommand 3 = .ok (.invokevirtual 168, 3) := by decide +kernel
theorem dL_failedCommand_6 : decode cL_failedCommand 6 = .ok (.i2l, 1) := by decide +kernel
theorem dL_failedCommand_7 : decode cL_failedCommand 7 = .ok (.lastore, 1) := by decide +kernel
theorem dL_failedCommand_8 : decode cL_failedCommand 8 = .ok (.goto 6, 3) := by decide +kernel
theorem dL_failedCommand_11 : decode cL_failedCommand 11 = .ok (.astore_n 2, 1) := by decide +kernel
theorem dL_failedCommand_12 : decode cL_failedCommand 12 = .ok (.iconst 1, 1) := by decide +kernel
theorem dL_failedCommand_13 : decode cL_failedCommand 13 = .ok (.ireturn, 1) := by decide +kernel
theorem dL_failedCommand_14 : decode cL_failedCommand 14 = .ok (.iconst 0, 1) := by decide +kernel
theorem dL_failedCommand_15 : decode cL_failedCommand 15 = .ok (.ireturn, 1) := by decide +kernel
set_option maxRecDepth 20000 in
theorem ggL_undo_X10_undo : GoodIn wsL_undo wsX10_undo := goodIn_ca (goodIn_ca (goodIn_r _ [6, 7, 8, 9, 10, 11, 12, 13, 14, 15, 16, 17, 18, 19, 20, 21, 22, 23, 24, 25, 26, 27, 28, 29, 30, 31, 32, 33, 34, 35, 36, 37, 38, 39, 40, 41, 42, 43, 44, 45, 46, 47, 48, 49, 50, 51, 52, 53, 54, 55, 56, 57, 58, 59, 60, 61, 62, 63, 64, 65, 66, 67, 68, 69, 70, 71, 72, 73, 74] (by decide +kernel) (by decide +kernel)) (goodIn_sub (fun _ h => List.mem_cons_of_mem _ (List.mem_append_right _ h)) (by decide +kernel))) (goodIn_sub (fun _ h => List.mem_cons_of_mem _ (List.mem_append_left _ (List.mem_append_right _ h))) (by decide +kernel))
set_option maxRecDepth 20000 in
theorem gL_undo_X10_undo : GoodIn wsL_undo (wsV RL 171 RX10 yX10_undo wsX10_undo) := goodIn_app (goodIn_of _ (by decide +kernel)) ggL_undo_X10_undo
theorem dL_undo_0 : decode cL_undo 0 = .ok (.aload_n 1, 1) := by decide +kernel
theorem dL_undo_1 : decode cL_undo 1 = .ok (.iconst 0, 1) := by decide +kernel
theorem dL_undo_2 : decode cL_undo 2 = .ok (.aload_n 0, 1) := by decide +kernel
theorem dL_undo_3 : decode cL_undo 3 = .ok (.invokevirtual 171, 3) := by decide +kernel
theorem dL_undo_6 : decode cL_undo 6 = .ok (.i2l, 1) := by decide +kernel
theorem dL_undo_7 : decode cL_undo 7 = .ok (.lastore, 1) := by decide +kernel
theorem dL_undo_8 : decode cL_undo 8 = .ok (.goto 6, 3) := by decide +kernel
theorem dL_undo_11 : decode cL_undo 11 = .ok (.astore_n 2, 1) := by decide +kernel
theorem dL_undo_12 : decode cL_undo 12 = .ok (.iconst 1, 1) := by decide +kernel
theorem dL_undo_13 : decode cL_undo 13 = .ok (.ireturn, 1) := by decide +kernel
theorem dL_undo_14 : decode cL_undo 14 = .ok (.iconst 0, 1) := by decide +kernel
theorem dL_undo_15 : decode cL_undo 15 = .ok (.ireturn, 1) := by decide +kernel
set_option maxRecDepth 20000 in
theorem ggL_restore_X10_restore : GoodIn wsL_restore wsX10_restore := goodIn_ca (goodIn_ca (goodIn_r _ [6, 7, 8, 9, 10, 11, 12, 13, 14, 15, 16, 17, 18, 19, 20, 21, 22, 23, 24, 25, 26, 27, 28, 29, 30, 31, 32, 33, 34, 35, 36, 37, 38, 39, 40, 41, 42, 43, 44, 45, 46, 47, 48, 49, 50, 51, 52, 53, 54, 55, 56, 57, 58, 59, 60, 61, 62, 63, 64, 65, 66, 67, 68, 69, 70, 71, 72, 73, 74] (by decide +kernel) (by decide +kernel)) (goodIn_sub (fun _ h => List.mem_cons_of_mem _ (List.mem_append_right _ h)) (by decide +kernel))) (goodIn_sub (fun _ h => List.mem_cons_of_mem _ (List.mem_append_left _ (List.mem_append_right _ h))) (by decide +kernel))
set_option maxRecDepth 20000 in
theorem gL_restore_X10_restore : GoodIn wsL_restore (wsV RL 174 RX10 yX10_restore wsX10_restore) := goodIn_app (goodIn_of _ (by decide +kernel)) ggL_restore_X10_restore
theorem dL_restore_0 : decode cL_restore 0 = .ok (.aload_n 1, 1) := by decide +kernel
theorem dL_restore_1 : decode cL_restore 1 = .ok (.iconst 0, 1) := by decide +kernel
theorem dL_restore_2 : decode cL_restore 2 = .ok (.aload_n 0, 1) := by decide +kernel
theorem dL_restore_3 : decode cL_restore 3 = .ok (.invokevirtual 174, 3) := by decide +kernel
theorem dL_restore_6 : decode cL_restore 6 = .ok (.i2l, 1) := by decide +kernel
theorem dL_restore_7 : decode cL_restore 7 = .ok (.lastore, 1) := by decide +kernel
theorem dL_restore_8 : decode cL_restore 8 = .ok (.goto 6, 3) := by decide +kernel
theorem dL_restore_11 : decode cL_restore 11 = .ok (.astore_n 2, 1) := by decide +kernel
theorem dL_restore_12 : decode cL_restore 12 = .ok (.iconst 1, 1) := by decide +kernel
theorem dL_restore_13 : decode cL_restore 13 = .ok (.ireturn, 1) := by decide +kernel
theorem dL_restore_14 : decode cL_restore 14 = .ok (.iconst 0, 1) := by decide +kernel
theorem dL_restore_15 : decode cL_restore 15 = .ok (.ireturn, 1) := by decide +kernel
set_option maxRecDepth 20000 in
theorem ggL_law_X10_init_q0 : GoodIn wsL_law ((.code yX10_init cX10_init 1 none) :: wsX10_init_r1) := goodIn_r _ [10, 11, 12, 13, 14, 15, 16, 17, 18, 19, 20, 21, 22, 23, 24, 25, 26, 27, 28, 29, 30, 31, 32, 33, 34] (by decide +kernel) (by decide +kernel)
set_option maxRecDepth 20000 in
theorem ggL_law_X10_init_q1 : GoodIn wsL_law wsX10_init_r2 := goodIn_r _ [35, 36, 37, 38, 39, 40, 41, 42, 43, 44, 45, 46, 47, 48, 49, 50, 51, 52, 53, 54, 55, 6, 56, 57] (by decide +kernel) (by decide +kernel)
set_option maxRecDepth 20000 in
theorem ggL_law_X10_init_q2 : GoodIn wsL_law wsX10_init_r3 := goodIn_r _ [58, 59, 60, 61, 62, 63, 64, 65, 66, 67, 68, 69, 70, 71, 72, 73, 74, 75, 76, 77, 78, 79, 80, 81] (by decide +kernel) (by decide +kernel)
set_option maxRecDepth 20000 in
theorem ggL_law_X10_init_q3 : GoodIn wsL_law wsX10_init_r4 := goodIn_r _ [82, 83, 84, 85, 86, 87, 88, 89, 90, 91, 92, 93, 94, 95, 96, 97, 98, 99, 100, 101, 102, 103, 104, 105] (by decide +kernel) (by decide +kernel)
set_option maxRecDepth 20000 in
theorem ggL_law_X10_init_q4 : GoodIn wsL_law wsX10_init_r5 := goodIn_r _ [106, 107, 108, 109, 110, 111, 112, 113, 114, 115, 116, 117, 118, 119, 120, 121, 122, 123, 124, 125, 126, 127, 128, 129] (by decide +kernel) (by decide +kernel)
set_option maxRecDepth 20000 in
theorem ggL_law_X10_init_q5 : GoodIn wsL_law wsX10_init_r6 := goodIn_r _ [130, 131, 132, 133, 134, 135, 136, 137, 138, 139, 140, 141] (by decide +kernel) (by decide +kernel)
set_option maxRecDepth 20000 in
theorem ggL_law_X10_init_q6 : GoodIn wsL_law wsX70 := goodIn_r _ [1656, 1657, 1658, 1659, 1660, 1661, 1662, 1663, 1664, 1665, 1666, 1667, 1668, 1669, 1670, 1671, 1672] (by decide +kernel) (by decide +kernel)
set_option maxRecDepth 20000 in
theorem ggL_law_X10_init_q7 : GoodIn wsL_law wsX100 := goodIn_r _ [1625, 1626, 1627, 1628, 1629, 1630, 1631, 1632, 1633, 1634, 1635, 1636, 1637] (by decide +kernel) (by decide +kernel)
set_option maxRecDepth 20000 in
theorem ggL_law_X10_init_q8 : GoodIn wsL_law wsX30 := goodIn_r _ [1673, 1674, 1675] (by decide +kernel) (by decide +kernel)
set_option maxRecDepth 20000 in
theorem ggL_law_X10_init_q9 : GoodIn wsL_law wsX80 := goodIn_r _ [1676, 1677, 1678] (by decide +kernel) (by decide +kernel)
set_option maxRecDepth 20000 in
theorem ggL_law_X10_init_q10 : GoodIn wsL_law wsX10 := goodIn_r _ [1679, 1680] (by decide +kernel) (by decide +kernel)
set_option maxRecDepth 20000 in
theorem ggL_law_X10_init_q11 : GoodIn wsL_law wsX20 := goodIn_r _ [1681, 1682] (by decide +kernel) (by decide +kernel)
set_option maxRecDepth 20000 in
theorem ggL_law_X10_init_q12 : GoodIn wsL_law wsX50 := goodIn_r _ [1683, 1684, 1685, 1686, 1687, 1688] (by decide +kernel) (by decide +kernel)
set_option maxRecDepth 20000 in
theorem ggL_law_X10_init_q13 : GoodIn wsL_law wsX60 := goodIn_r _ [1689, 1690, 1691, 1692, 1693, 1694, 1695, 1696] (by decide +kernel) (by decide +kernel)
set_option maxRecDepth 20000 in
theorem ggL_law_X10_init_q14 : GoodIn wsL_law wsJ40 := goodIn_r _ [1697, 1698, 1699, 1700] (by decide +kernel) (by decide +kernel)
set_option maxRecDepth 20000 in
theorem ggL_law_X10_init : GoodIn wsL_law wsX10_init := (goodIn_ca (goodIn_ca (goodIn_ca (goodIn_ca (goodIn_ca (goodIn_ca (goodIn_ca (goodIn_ca (goodIn_ca (goodIn_ca (ggL_law_X10_init_q0) (goodIn_app (ggL_law_X10_init_q1) (goodIn_app (ggL_law_X10_init_q2) (goodIn_app (ggL_law_X10_init_q3) (goodIn_app (ggL_law_X10_init_q4) (ggL_law_X10_init_q5)))))) (ggL_law_X10_init_q6)) (ggL_law_X10_init_q7)) (ggL_law_X10_init_q8)) (ggL_law_X10_init_q9)) (ggL_law_X10_init_q10)) (ggL_law_X10_init_q11)) (ggL_law_X10_init_q12)) (ggL_law_X10_init_q13)) (ggL_law_X10_init_q14))
set_option maxRecDepth 20000 in
theorem gL_law_X10_init : GoodIn wsL_law (wsX10_init) := ggL_law_X10_init
set_option maxRecDepth 20000 in
theorem ggL_law_X11_init_q0 : GoodIn wsL_law ((.code yX11_init cX11_init 1 none) :: [.methodLink RX11 1 objectInit, .instanceMethod objectInit, .code objectInit ⟨#[0xb1]⟩ 1 none, .arrayClass .long, .fieldLink RX11 7 "PlanetWorkshopModel" "g" "[J", .fieldLink RX11 13 "PlanetWorkshopModel" "before" "[J", .fieldLink RX11 16 "PlanetWorkshopModel" "history" "[J", .fieldLink RX11 19 "PlanetWorkshopModel" "savedState" "[J", .arrayClass .char, .fieldLink RX11 22 "PlanetWorkshopModel" "buffer" "[C", .fieldLink RX11 26 "PlanetWorkshopModel" "errorAt" "I", .fieldLink RX11 30 "PlanetWorkshopModel" "failedAt" "I", .fieldLink RX11 33 "PlanetWorkshopModel" "letters" "[C", .fieldLink RX11 36 "PlanetWorkshopModel" "units" "[J", .arrayClass .boolean, .fieldLink RX11 39 "PlanetWorkshopModel" "isKnown" "[Z", .arrayClass .int, .fieldLink RX11 43 "PlanetWorkshopModel" "parsed" "[I", .constantLong RX11 47 (12)]) := goodIn_r _ [144, 145, 12, 13, 6, 146, 147, 148, 149, 64, 150, 151, 152, 153, 154, 57, 155, 54, 156, 157] (by decide +kernel) (by decide +kernel)
set_option maxRecDepth 20000 in
theorem ggL_law_X11_init_q1 : GoodIn wsL_law wsX110 := goodIn_r _ [1638, 1639, 1640, 1641, 1642, 1643, 1644, 1645, 1646, 1647, 1648, 1649, 1650, 1651, 1652, 1653, 1654, 1655] (by decide +kernel) (by decide +kernel)
set_option maxRecDepth 20000 in
theorem ggL_law_X11_init : GoodIn wsL_law wsX11_init := goodIn_ca ((goodIn_ca (ggL_law_X11_init_q0) (ggL_law_X11_init_q1))) (goodIn_sub (fun _ h => List.mem_append_left _ (List.mem_append_left _ (List.mem_append_left _ (List.mem_append_left _ (List.mem_append_left _ (List.mem_append_left _ (List.mem_append_left _ (List.mem_append_right _ h)))))))) (by decide +kernel))
set_option maxRecDepth 20000 in
theorem gL_law_X11_init : GoodIn wsL_law (wsX11_init) := ggL_law_X11_init
set_option maxRecDepth 20000 in
theorem ggL_law_L_addGear_q0 : GoodIn wsL_law ((.codeWith yL_addGear cL_addGear 4 (some .int) [(0, 9, 12, 13), (0, 9, 15, 15)]) :: wsL_addGear_r1) := goodIn_r _ [161, 162, 163, 164, 165, 166, 2, 167, 18, 17, 32, 168, 169, 170, 16, 171, 55, 56, 58, 59, 60, 61, 62, 63, 65] (by decide +kernel) (by decide +kernel)
set_option maxRecDepth 20000 in
theorem ggL_law_L_addGear_q1 : GoodIn wsL_law wsL_addGear_r2 := goodIn_r _ [66, 67, 68, 69, 70, 71, 72, 73, 172, 173, 174, 31, 175, 92, 176, 177, 178, 179, 180, 181, 182, 183, 184, 24] (by decide +kernel) (by decide +kernel)
set_option maxRecDepth 20000 in
theorem ggL_law_L_addGear_q2 : GoodIn wsL_law wsL_addGear_r3 := goodIn_r _ [185, 186, 187, 188, 189, 190, 191, 192, 193, 194, 195, 196, 197, 198, 199, 200, 23, 201, 81, 80, 79, 202] (by decide +kernel) (by decide +kernel)
set_option maxRecDepth 20000 in
theorem ggL_law_L_addGear : GoodIn wsL_law wsL_addGear := goodIn_ca (goodIn_ca (goodIn_ca (goodIn_ca (goodIn_ca (goodIn_ca ((goodIn_ca (goodIn_ca (goodIn_ca (goodIn_ca (goodIn_ca (ggL_law_L_addGear_q0) (goodIn_app (ggL_law_L_addGear_q1) (ggL_law_L_addGear_q2))) (ggL_law_X10_init_q7)) (ggL_law_X10_init_q6)) (ggL_law_X10_init_q10)) (ggL_law_X10_init_q8))) (goodIn_sub (fun _ h => List.mem_append_left _ (List.mem_append_left _ (List.mem_append_left _ (List.mem_append_left _ (List.mem_append_left _ (List.mem_append_left _ (List.mem_append_left _ (List.mem_append_right _ h)))))))) (by decide +kernel))) (goodIn_sub (fun _ h => List.mem_append_left _ (List.mem_append_left _ (List.mem_append_left _ (List.mem_append_left _ (List.mem_append_left _ (List.mem_append_left _ (List.mem_append_right _ h))))))) (by decide +kernel))) (goodIn_sub (fun _ h => List.mem_append_left _ (List.mem_append_left _ (List.mem_append_left _ (List.mem_append_left _ (List.mem_append_left _ (List.mem_append_right _ h)))))) (by decide +kernel))) (goodIn_sub (fun _ h => List.mem_append_left _ (List.mem_append_left _ (List.mem_append_left _ (List.mem_append_left _ (List.mem_append_right _ h))))) (by decide +kernel))) (goodIn_sub (fun _ h => List.mem_append_left _ (List.mem_append_left _ (List.mem_append_left _ (List.mem_append_right _ h)))) (by decide +kernel))) (goodIn_sub (fun _ h => List.mem_append_left _ (List.mem_append_left _ (List.mem_append_right _ h))) (by decide +kernel))
set_option maxRecDepth 20000 in
theorem gL_law_L_addGear : GoodIn wsL_law (va_wsS RL 181 yL_addGear wsL_addGear) := goodIn_app (goodIn_of _ (by decide +kernel)) ggL_law_L_addGear
set_option maxRecDepth 20000 in
theorem ggL_law_X11_addGear_q0 : GoodIn wsL_law ((.code yX11_addGear cX11_addGear 2 (some .int)) :: wsX11_addGear_r1) := goodIn_r _ [206, 207, 208, 209, 5, 210, 146, 147, 211, 212, 213, 214, 215, 216, 217, 218, 219, 220, 221, 222, 223, 224, 225, 226, 227] (by decide +kernel) (by decide +kernel)
set_option maxRecDepth 20000 in
theorem ggL_law_X11_addGear_q1 : GoodIn wsL_law wsX11_addGear_r2 := goodIn_r _ [228, 229, 230, 231, 232, 233, 234, 235, 236, 237, 238, 148] (by decide +kernel) (by decide +kernel)
set_option maxRecDepth 20000 in
theorem ggL_law_X11_addGear : GoodIn wsL_law wsX11_addGear := goodIn_ca ((goodIn_ca (goodIn_ca (ggL_law_X11_addGear_q0) (ggL_law_X11_addGear_q1)) (ggL_law_X11_init_q1))) (goodIn_sub (fun _ h => List.mem_append_left _ (List.mem_append_left _ (List.mem_append_left _ (List.mem_append_left _ (List.mem_append_left _ (List.mem_append_left _ (List.mem_append_left _ (List.mem_append_right _ h)))))))) (by decide +kernel))
set_option maxRecDepth 20000 in
theorem gL_law_X11_addGear : GoodIn wsL_law (wsV RL 186 RX11 yX11_addGear wsX11_addGear) := goodIn_app (goodIn_of _ (by decide +kernel)) ggL_law_X11_addGear
set_option maxRecDepth 20000 in
theorem ggL_law_X11_thrown_q0 : GoodIn wsL_law ((.code yX11_thrown cX11_thrown 1 (some .int)) :: [.fieldLink RX11 49 "PlanetWorkshopModel" "thrown" "I"]) := goodIn_r _ [242, 225] (by decide +kernel) (by decide +kernel)
set_option maxRecDepth 20000 in
theorem ggL_law_X11_thrown : GoodIn wsL_law wsX11_thrown := (goodIn_ca (ggL_law_X11_thrown_q0) (ggL_law_X11_init_q1))
set_option maxRecDepth 20000 in
theorem gL_law_X11_thrown : GoodIn wsL_law (wsV RL 187 RX11 yX11_thrown wsX11_thrown) := goodIn_app (goodIn_of _ (by decide +kernel)) ggL_law_X11_thrown
set_option maxRecDepth 20000 in
theorem ggL_law_L_mesh_q0 : GoodIn wsL_law ((.codeWith yL_mesh cL_mesh 5 (some .int) [(0, 10, 13, 21), (0, 10, 17, 13), (0, 10, 21, 15), (0, 10, 25, 23)]) :: wsL_mesh_r1) := goodIn_r _ [245, 246, 162, 163, 247, 248, 249, 250, 2, 251, 18, 17, 32, 168, 169, 170, 16, 171, 55, 56, 58, 59, 60, 61, 62] (by decide +kernel) (by decide +kernel)
set_option maxRecDepth 20000 in
theorem ggL_law_L_mesh_q1 : GoodIn wsL_law wsL_mesh_r2 := goodIn_r _ [63, 65, 66, 67, 68, 69, 70, 71, 72, 73, 252, 253, 254, 31, 255, 92, 93, 256, 257, 258, 259, 260, 261, 262] (by decide +kernel) (by decide +kernel)
set_option maxRecDepth 20000 in
theorem ggL_law_L_mesh_q2 : GoodIn wsL_law wsL_mesh_r3 := goodIn_r _ [263, 264, 265, 266, 27, 267, 85, 87, 268, 86, 269, 270, 271, 272, 273, 274, 275, 276, 277, 278, 279, 280, 281, 282] (by decide +kernel) (by decide +kernel)
set_option maxRecDepth 20000 in
theorem ggL_law_L_mesh_q3 : GoodIn wsL_law wsL_mesh_r4 := goodIn_r _ [283, 284, 285, 286, 287, 288, 289, 290, 291, 292, 293, 294, 295, 296, 297, 298, 299, 300, 301, 302, 303, 304, 305, 306] (by decide +kernel) (by decide +kernel)
set_option maxRecDepth 20000 in
theorem ggL_law_L_mesh_q4 : GoodIn wsL_law wsL_mesh_r5 := goodIn_r _ [307, 308, 181, 182, 183, 184, 24, 185, 186, 187, 188, 189, 190, 191, 192, 193, 194, 195, 196, 197, 198, 199, 200, 23] (by decide +kernel) (by decide +kernel)
set_option maxRecDepth 20000 in
theorem ggL_law_L_mesh_q5 : GoodIn wsL_law wsL_mesh_r6 := goodIn_r _ [201, 81, 80, 79, 202] (by decide +kernel) (by decide +kernel)
set_option maxRecDepth 20000 in
theorem ggL_law_L_mesh : GoodIn wsL_law wsL_mesh := goodIn_ca (goodIn_ca (goodIn_ca (goodIn_ca (goodIn_ca (goodIn_ca ((goodIn_ca (goodIn_ca (goodIn_ca (goodIn_ca (goodIn_ca (goodIn_ca (ggL_law_L_mesh_q0) (goodIn_app (ggL_law_L_mesh_q1) (goodIn_app (ggL_law_L_mesh_q2) (goodIn_app (ggL_law_L_mesh_q3) (goodIn_app (ggL_law_L_mesh_q4) (ggL_law_L_mesh_q5)))))) (ggL_law_X10_init_q7)) (ggL_law_X10_init_q6)) (ggL_law_X10_init_q10)) (ggL_law_X10_init_q9)) (ggL_law_X10_init_q8))) (goodIn_sub (fun _ h => List.mem_append_left _ (List.mem_append_left _ (List.mem_append_left _ (List.mem_append_left _ (List.mem_append_left _ (List.mem_append_left _ (List.mem_append_left _ (List.mem_append_right _ h)))))))) (by decide +kernel))) (goodIn_sub (fun _ h => List.mem_append_left _ (List.mem_append_left _ (List.mem_append_left _ (List.mem_append_left _ (List.mem_append_left _ (List.mem_append_left _ (List.mem_append_right _ h))))))) (by decide +kernel))) (goodIn_sub (fun _ h => List.mem_append_left _ (List.mem_append_left _ (List.mem_append_left _ (List.mem_append_left _ (List.mem_append_left _ (List.mem_append_right _ h)))))) (by decide +kernel))) (goodIn_sub (fun _ h => List.mem_append_left _ (List.mem_append_left _ (List.mem_append_left _ (List.mem_append_left _ (List.mem_append_right _ h))))) (by decide +kernel))) (goodIn_sub (fun _ h => List.mem_append_left _ (List.mem_append_left _ (List.mem_append_left _ (List.mem_append_right _ h)))) (by decide +kernel))) (goodIn_sub (fun _ h => List.mem_append_left _ (List.mem_append_left _ (List.mem_append_right _ h))) (by decide +kernel))
set_option maxRecDepth 20000 in
theorem gL_law_L_mesh : GoodIn wsL_law (va_wsS RL 190 yL_mesh wsL_mesh) := goodIn_app (goodIn_of _ (by decide +kernel)) ggL_law_L_mesh
set_option maxRecDepth 20000 in
theorem ggL_law_X11_mesh_q0 : GoodIn wsL_law ((.code yX11_mesh cX11_mesh 3 (some .int)) :: wsX11_mesh_r1) := goodIn_r _ [312, 207, 208, 209, 5, 210, 146, 147, 211, 212, 213, 313, 314, 315, 316, 317, 318, 155, 154, 319, 320, 321, 322, 323, 324] (by decide +kernel) (by decide +kernel)
set_option maxRecDepth 20000 in
theorem ggL_law_X11_mesh_q1 : GoodIn wsL_law wsX11_mesh_r2 := goodIn_r _ [325, 326, 226, 227, 228, 229, 327, 328, 329, 221, 222, 223, 224, 225, 330, 331, 332, 333, 334, 335, 336, 337, 338, 339] (by decide +kernel) (by decide +kernel)
set_option maxRecDepth 20000 in
theorem ggL_law_X11_mesh_q2 : GoodIn wsL_law wsX11_mesh_r3 := goodIn_r _ [340, 341, 342, 343, 344, 345, 346, 347, 348, 349, 350, 351, 352, 353, 354, 355, 356, 357, 358, 359, 360, 361, 230, 231] (by decide +kernel) (by decide +kernel)
set_option maxRecDepth 20000 in
theorem ggL_law_X11_mesh_q3 : GoodIn wsL_law wsX11_mesh_r4 := goodIn_r _ [232, 233, 234, 235, 236, 237, 238, 148] (by decide +kernel) (by decide +kernel)
set_option maxRecDepth 20000 in
theorem ggL_law_X11_mesh : GoodIn wsL_law wsX11_mesh := goodIn_ca (goodIn_ca ((goodIn_ca (goodIn_ca (ggL_law_X11_mesh_q0) (goodIn_app (ggL_law_X11_mesh_q1) (goodIn_app (ggL_law_X11_mesh_q2) (ggL_law_X11_mesh_q3)))) (ggL_law_X11_init_q1))) (goodIn_sub (fun _ h => List.mem_append_left _ (List.mem_append_left _ (List.mem_append_left _ (List.mem_append_left _ (List.mem_append_left _ (List.mem_append_left _ (List.mem_append_left _ (List.mem_append_right _ h)))))))) (by decide +kernel))) (goodIn_sub (fun _ h => List.mem_append_left _ (List.mem_append_right _ h)) (by decide +kernel))
set_option maxRecDepth 20000 in
theorem gL_law_X11_mesh : GoodIn wsL_law (wsV RL 193 RX11 yX11_mesh wsX11_mesh) := goodIn_app (goodIn_of _ (by decide +kernel)) ggL_law_X11_mesh
set_option maxRecDepth 20000 in
theorem ggL_law_L_shareAxle_q0 : GoodIn wsL_law ((.codeWith yL_shareAxle cL_shareAxle 5 (some .int) [(0, 10, 13, 21), (0, 10, 17, 13), (0, 10, 21, 15), (0, 10, 25, 23)]) :: wsL_shareAxle_r1) := goodIn_r _ [364, 246, 162, 163, 247, 365, 366, 367, 2, 368, 18, 17, 32, 168, 169, 170, 16, 171, 55, 56, 58, 59, 60, 61, 62] (by decide +kernel) (by decide +kernel)
set_option maxRecDepth 20000 in
theorem ggL_law_L_shareAxle_q1 : GoodIn wsL_law wsL_shareAxle_r2 := goodIn_r _ [63, 65, 66, 67, 68, 69, 70, 71, 72, 73, 252, 253, 254, 31, 255, 92, 93, 256, 257, 258, 259, 260, 261, 262] (by decide +kernel) (by decide +kernel)
set_option maxRecDepth 20000 in
theorem ggL_law_L_shareAxle_q2 : GoodIn wsL_law wsL_shareAxle_r3 := goodIn_r _ [263, 264, 265, 266, 27, 267, 85, 87, 268, 86, 269, 270, 271, 272, 273, 274, 275, 276, 277, 278, 279, 280, 281, 282] (by decide +kernel) (by decide +kernel)
set_option maxRecDepth 20000 in
theorem ggL_law_L_shareAxle_q3 : GoodIn wsL_law wsL_shareAxle_r4 := goodIn_r _ [283, 284, 285, 286, 287, 288, 289, 290, 291, 292, 293, 294, 295, 296, 297, 298, 299, 300, 301, 302, 303, 304, 305, 306] (by decide +kernel) (by decide +kernel)
set_option maxRecDepth 20000 in
theorem ggL_law_L_shareAxle_q4 : GoodIn wsL_law wsL_shareAxle_r5 := goodIn_r _ [307, 308, 181, 182, 183, 184, 24, 185, 186, 187, 188, 189, 190, 191, 192, 193, 194, 195, 196, 197, 198, 199, 200, 23] (by decide +kernel) (by decide +kernel)
set_option maxRecDepth 20000 in
theorem ggL_law_L_shareAxle_q5 : GoodIn wsL_law wsL_shareAxle_r6 := goodIn_r _ [201, 81, 80, 79, 202] (by decide +kernel) (by decide +kernel)
set_option maxRecDepth 20000 in
theorem ggL_law_L_shareAxle : GoodIn wsL_law wsL_shareAxle := goodIn_ca (goodIn_ca (goodIn_ca (goodIn_ca (goodIn_ca (goodIn_ca ((goodIn_ca (goodIn_ca (goodIn_ca (goodIn_ca (goodIn_ca (goodIn_ca (ggL_law_L_shareAxle_q0) (goodIn_app (ggL_law_L_shareAxle_q1) (goodIn_app (ggL_law_L_shareAxle_q2) (goodIn_app (ggL_law_L_shareAxle_q3) (goodIn_app (ggL_law_L_shareAxle_q4) (ggL_law_L_shareAxle_q5)))))) (ggL_law_X10_init_q7)) (ggL_law_X10_init_q6)) (ggL_law_X10_init_q10)) (ggL_law_X10_init_q9)) (ggL_law_X10_init_q8))) (goodIn_sub (fun _ h => List.mem_append_left _ (List.mem_append_left _ (List.mem_append_left _ (List.mem_append_left _ (List.mem_append_left _ (List.mem_append_left _ (List.mem_append_left _ (List.mem_append_right _ h)))))))) (by decide +kernel))) (goodIn_sub (fun _ h => List.mem_append_left _ (List.mem_append_left _ (List.mem_append_left _ (List.mem_append_left _ (List.mem_append_left _ (List.mem_append_left _ (List.mem_append_right _ h))))))) (by decide +kernel))) (goodIn_sub (fun _ h => List.mem_append_left _ (List.mem_append_left _ (List.mem_append_left _ (List.mem_append_left _ (List.mem_append_left _ (List.mem_append_right _ h)))))) (by decide +kernel))) (goodIn_sub (fun _ h => List.mem_append_left _ (List.mem_append_left _ (List.mem_append_left _ (List.mem_append_left _ (List.mem_append_right _ h))))) (by decide +kernel))) (goodIn_sub (fun _ h => List.mem_append_left _ (List.mem_append_left _ (List.mem_append_left _ (List.mem_append_right _ h)))) (by decide +kernel))) (goodIn_sub (fun _ h => List.mem_append_left _ (List.mem_append_left _ (List.mem_append_right _ h))) (by decide +kernel))
set_option maxRecDepth 20000 in
theorem gL_law_L_shareAxle : GoodIn wsL_law (va_wsS RL 194 yL_shareAxle wsL_shareAxle) := goodIn_app (goodIn_of _ (by decide +kernel)) ggL_law_L_shareAxle
set_option maxRecDepth 20000 in
theorem ggL_law_X11_shareAxle_q0 : GoodIn wsL_law ((.code yX11_shareAxle cX11_shareAxle 3 (some .int)) :: wsX11_shareAxle_r1) := goodIn_r _ [372, 207, 208, 209, 5, 210, 146, 147, 211, 212, 213, 313, 314, 315, 316, 317, 318, 155, 154, 319, 320, 321, 322, 323, 324] (by decide +kernel) (by decide +kernel)
set_option maxRecDepth 20000 in
theorem ggL_law_X11_shareAxle_q1 : GoodIn wsL_law wsX11_shareAxle_r2 := goodIn_r _ [325, 326, 226, 227, 228, 229, 327, 328, 329, 221, 222, 223, 224, 225, 330, 331, 332, 333, 334, 335, 336, 337, 338, 339] (by decide +kernel) (by decide +kernel)
set_option maxRecDepth 20000 in
theorem ggL_law_X11_shareAxle_q2 : GoodIn wsL_law wsX11_shareAxle_r3 := goodIn_r _ [340, 341, 342, 343, 344, 345, 346, 347, 348, 349, 350, 351, 352, 353, 354, 355, 356, 357, 358, 359, 360, 361, 230, 231] (by decide +kernel) (by decide +kernel)
set_option maxRecDepth 20000 in
theorem ggL_law_X11_shareAxle_q3 : GoodIn wsL_law wsX11_shareAxle_r4 := goodIn_r _ [232, 233, 234, 235, 236, 237, 238, 148] (by decide +kernel) (by decide +kernel)
set_option maxRecDepth 20000 in
theorem ggL_law_X11_shareAxle : GoodIn wsL_law wsX11_shareAxle := goodIn_ca (goodIn_ca ((goodIn_ca (goodIn_ca (ggL_law_X11_shareAxle_q0) (goodIn_app (ggL_law_X11_shareAxle_q1) (goodIn_app (ggL_law_X11_shareAxle_q2) (ggL_law_X11_shareAxle_q3)))) (ggL_law_X11_init_q1))) (goodIn_sub (fun _ h => List.mem_append_left _ (List.mem_append_left _ (List.mem_append_left _ (List.mem_append_left _ (List.mem_append_left _ (List.mem_append_left _ (List.mem_append_left _ (List.mem_append_right _ h)))))))) (by decide +kernel))) (goodIn_sub (fun _ h => List.mem_append_left _ (List.mem_append_right _ h)) (by decide +kernel))
set_option maxRecDepth 20000 in
theorem gL_law_X11_shareAxle : GoodIn wsL_law (wsV RL 196 RX11 yX11_shareAxle wsX11_shareAxle) := goodIn_app (goodIn_of _ (by decide +kernel)) ggL_law_X11_shareAxle
set_option maxRecDepth 20000 in
theorem ggL_law_L_separate_q0 : GoodIn wsL_law ((.codeWith yL_separate cL_separate 5 (some .int) [(0, 10, 13, 21), (0, 10, 17, 31)]) :: wsL_separate_r1) := goodIn_r _ [375, 246, 376, 377, 378, 379, 2, 380, 18, 17, 32, 168, 169, 170, 16, 171, 55, 56, 58, 59, 60, 61, 62, 63, 65] (by decide +kernel) (by decide +kernel)
set_option maxRecDepth 20000 in
theorem ggL_law_L_separate_q1 : GoodIn wsL_law wsL_separate_r2 := goodIn_r _ [66, 67, 68, 69, 70, 71, 72, 73, 381, 382, 383, 31, 384, 92, 256, 260, 261, 262, 263, 303, 275, 276, 277, 305] (by decide +kernel) (by decide +kernel)
set_option maxRecDepth 20000 in
theorem ggL_law_L_separate_q2 : GoodIn wsL_law wsL_separate_r3 := goodIn_r _ [306, 307, 308, 181, 182, 183, 184, 24, 185, 186, 187, 188, 189, 190, 191, 192, 193, 194, 195, 196, 197, 198, 199, 200] (by decide +kernel) (by decide +kernel)
set_option maxRecDepth 20000 in
theorem ggL_law_L_separate_q3 : GoodIn wsL_law wsL_separate_r4 := goodIn_r _ [23, 201, 81, 80, 79, 202] (by decide +kernel) (by decide +kernel)
set_option maxRecDepth 20000 in
theorem ggL_law_L_separate : GoodIn wsL_law wsL_separate := goodIn_ca (goodIn_ca (goodIn_ca (goodIn_ca (goodIn_ca (goodIn_ca ((goodIn_ca (goodIn_ca (goodIn_ca (goodIn_ca (goodIn_ca (ggL_law_L_separate_q0) (goodIn_app (ggL_law_L_separate_q1) (goodIn_app (ggL_law_L_separate_q2) (ggL_law_L_separate_q3)))) (ggL_law_X10_init_q7)) (ggL_law_X10_init_q6)) (ggL_law_X10_init_q10)) (ggL_law_X10_init_q8))) (goodIn_sub (fun _ h => List.mem_append_left _ (List.mem_append_left _ (List.mem_append_left _ (List.mem_append_left _ (List.mem_append_left _ (List.mem_append_left _ (List.mem_append_left _ (List.mem_append_right _ h)))))))) (by decide +kernel))) (goodIn_sub (fun _ h => List.mem_append_left _ (List.mem_append_left _ (List.mem_append_left _ (List.mem_append_left _ (List.mem_append_left _ (List.mem_append_left _ (List.mem_append_right _ h))))))) (by decide +kernel))) (goodIn_sub (fun _ h => List.mem_append_left _ (List.mem_append_left _ (List.mem_append_left _ (List.mem_append_left _ (List.mem_append_left _ (List.mem_append_right _ h)))))) (by decide +kernel))) (goodIn_sub (fun _ h => List.mem_append_left _ (List.mem_append_left _ (List.mem_append_left _ (List.mem_append_left _ (List.mem_append_right _ h))))) (by decide +kernel))) (goodIn_sub (fun _ h => List.mem_append_left _ (List.mem_append_left _ (List.mem_append_left _ (List.mem_append_right _ h)))) (by decide +kernel))) (goodIn_sub (fun _ h => List.mem_append_left _ (List.mem_append_left _ (List.mem_append_right _ h))) (by decide +kernel))
set_option maxRecDepth 20000 in
theorem gL_law_L_separate : GoodIn wsL_law (va_wsS RL 197 yL_separate wsL_separate) := goodIn_app (goodIn_of _ (by decide +kernel)) ggL_law_L_separate
set_option maxRecDepth 20000 in
theorem ggL_law_X11_separate_q0 : GoodIn wsL_law ((.code yX11_separate cX11_separate 3 (some .int)) :: wsX11_separate_r1) := goodIn_r _ [388, 207, 208, 209, 5, 210, 146, 147, 211, 212, 213, 389, 390, 391, 392, 319, 320, 321, 322, 323, 324, 325, 326, 226, 227] (by decide +kernel) (by decide +kernel)
set_option maxRecDepth 20000 in
theorem ggL_law_X11_separate_q1 : GoodIn wsL_law wsX11_separate_r2 := goodIn_r _ [228, 229, 327, 328, 329, 221, 222, 223, 224, 225, 330, 331, 332, 333, 334, 335, 336, 337, 230, 231, 232, 233, 234, 235] (by decide +kernel) (by decide +kernel)
set_option maxRecDepth 20000 in
theorem ggL_law_X11_separate_q2 : GoodIn wsL_law wsX11_separate_r3 := goodIn_r _ [236, 237, 238, 148] (by decide +kernel) (by decide +kernel)
set_option maxRecDepth 20000 in
theorem ggL_law_X11_separate : GoodIn wsL_law wsX11_separate := goodIn_ca ((goodIn_ca (goodIn_ca (ggL_law_X11_separate_q0) (goodIn_app (ggL_law_X11_separate_q1) (ggL_law_X11_separate_q2))) (ggL_law_X11_init_q1))) (goodIn_sub (fun _ h => List.mem_append_left _ (List.mem_append_left _ (List.mem_append_left _ (List.mem_append_left _ (List.mem_append_left _ (List.mem_append_left _ (List.mem_append_left _ (List.mem_append_right _ h)))))))) (by decide +kernel))
set_option maxRecDepth 20000 in
theorem gL_law_X11_separate : GoodIn wsL_law (wsV RL 199 RX11 yX11_separate wsX11_separate) := goodIn_app (goodIn_of _ (by decide +kernel)) ggL_law_X11_separate
set_option maxRecDepth 20000 in
theorem ggL_law_L_setSpring_q0 : GoodIn wsL_law ((.codeWith yL_setSpring cL_setSpring 5 (some .int) [(0, 10, 13, 21), (0, 10, 17, 13), (0, 10, 21, 15)]) :: wsL_setSpring_r1) := goodIn_r _ [395, 246, 162, 163, 396, 397, 398, 2, 399, 18, 17, 32, 168, 169, 170, 16, 171, 55, 56, 58, 59, 60, 61, 62, 63] (by decide +kernel) (by decide +kernel)
set_option maxRecDepth 20000 in
theorem ggL_law_L_setSpring_q1 : GoodIn wsL_law wsL_setSpring_r2 := goodIn_r _ [65, 66, 67, 68, 69, 70, 71, 72, 73, 400, 401, 402, 31, 403, 92, 93, 404, 260, 261, 262, 263, 264, 265, 266] (by decide +kernel) (by decide +kernel)
set_option maxRecDepth 20000 in
theorem ggL_law_L_setSpring_q2 : GoodIn wsL_law wsL_setSpring_r3 := goodIn_r _ [27, 267, 85, 87, 268, 86, 269, 270, 271, 272, 273, 274, 275, 276, 277, 278, 279, 280, 281, 282, 283, 284, 285, 286] (by decide +kernel) (by decide +kernel)
set_option maxRecDepth 20000 in
theorem ggL_law_L_setSpring_q3 : GoodIn wsL_law wsL_setSpring_r4 := goodIn_r _ [287, 288, 289, 290, 291, 292, 293, 294, 295, 296, 297, 298, 299, 300, 301, 405, 406, 407, 408, 409, 181, 182, 183, 184] (by decide +kernel) (by decide +kernel)
set_option maxRecDepth 20000 in
theorem ggL_law_L_setSpring_q4 : GoodIn wsL_law wsL_setSpring_r5 := goodIn_r _ [24, 185, 186, 187, 188, 189, 190, 191, 192, 193, 194, 195, 196, 197, 198, 199, 200, 23, 201, 81, 80, 79, 202] (by decide +kernel) (by decide +kernel)
set_option maxRecDepth 20000 in
theorem ggL_law_L_setSpring : GoodIn wsL_law wsL_setSpring := goodIn_ca (goodIn_ca (goodIn_ca (goodIn_ca (goodIn_ca (goodIn_ca ((goodIn_ca (goodIn_ca (goodIn_ca (goodIn_ca (goodIn_ca (goodIn_ca (ggL_law_L_setSpring_q0) (goodIn_app (ggL_law_L_setSpring_q1) (goodIn_app (ggL_law_L_setSpring_q2) (goodIn_app (ggL_law_L_setSpring_q3) (ggL_law_L_setSpring_q4))))) (ggL_law_X10_init_q7)) (ggL_law_X10_init_q6)) (ggL_law_X10_init_q10)) (ggL_law_X10_init_q9)) (ggL_law_X10_init_q8))) (goodIn_sub (fun _ h => List.mem_append_left _ (List.mem_append_left _ (List.mem_append_left _ (List.mem_append_left _ (List.mem_append_left _ (List.mem_append_left _ (List.mem_append_left _ (List.mem_append_right _ h)))))))) (by decide +kernel))) (goodIn_sub (fun _ h => List.mem_append_left _ (List.mem_append_left _ (List.mem_append_left _ (List.mem_append_left _ (List.mem_append_left _ (List.mem_append_left _ (List.mem_append_right _ h))))))) (by decide +kernel))) (goodIn_sub (fun _ h => List.mem_append_left _ (List.mem_append_left _ (List.mem_append_left _ (List.mem_append_left _ (List.mem_append_left _ (List.mem_append_right _ h)))))) (by decide +kernel))) (goodIn_sub (fun _ h => List.mem_append_left _ (List.mem_append_left _ (List.mem_append_left _ (List.mem_append_left _ (List.mem_append_right _ h))))) (by decide +kernel))) (goodIn_sub (fun _ h => List.mem_append_left _ (List.mem_append_left _ (List.mem_append_left _ (List.mem_append_right _ h)))) (by decide +kernel))) (goodIn_sub (fun _ h => List.mem_append_left _ (List.mem_append_left _ (List.mem_append_right _ h))) (by decide +kernel))
set_option maxRecDepth 20000 in
theorem gL_law_L_setSpring : GoodIn wsL_law (va_wsS RL 200 yL_setSpring wsL_setSpring) := goodIn_app (goodIn_of _ (by decide +kernel)) ggL_law_L_setSpring
set_option maxRecDepth 20000 in
theorem ggL_law_X11_setSpring_q0 : GoodIn wsL_law ((.code yX11_setSpring cX11_setSpring 3 (some .int)) :: wsX11_setSpring_r1) := goodIn_r _ [413, 207, 208, 209, 5, 210, 146, 147, 211, 212, 213, 414, 415, 416, 417, 323, 324, 325, 326, 226, 227, 228, 229, 327, 328] (by decide +kernel) (by decide +kernel)
set_option maxRecDepth 20000 in
theorem ggL_law_X11_setSpring_q1 : GoodIn wsL_law wsX11_setSpring_r2 := goodIn_r _ [329, 221, 222, 223, 224, 225, 342, 343, 344, 345, 155, 154, 317, 346, 347, 348, 349, 330, 331, 332, 333, 350, 351, 352] (by decide +kernel) (by decide +kernel)
set_option maxRecDepth 20000 in
theorem ggL_law_X11_setSpring_q2 : GoodIn wsL_law wsX11_setSpring_r3 := goodIn_r _ [353, 354, 355, 356, 357, 230, 231, 232, 233, 234, 235, 236, 237, 238, 148] (by decide +kernel) (by decide +kernel)
set_option maxRecDepth 20000 in
theorem ggL_law_X11_setSpring : GoodIn wsL_law wsX11_setSpring := goodIn_ca (goodIn_ca ((goodIn_ca (goodIn_ca (ggL_law_X11_setSpring_q0) (goodIn_app (ggL_law_X11_setSpring_q1) (ggL_law_X11_setSpring_q2))) (ggL_law_X11_init_q1))) (goodIn_sub (fun _ h => List.mem_append_left _ (List.mem_append_left _ (List.mem_append_left _ (List.mem_append_left _ (List.mem_append_left _ (List.mem_append_left _ (List.mem_append_left _ (List.mem_append_right _ h)))))))) (by decide +kernel))) (goodIn_sub (fun _ h => List.mem_append_left _ (List.mem_append_right _ h)) (by decide +kernel))
set_option maxRecDepth 20000 in
theorem gL_law_X11_setSpring : GoodIn wsL_law (wsV RL 202 RX11 yX11_setSpring wsX11_setSpring) := goodIn_app (goodIn_of _ (by decide +kernel)) ggL_law_X11_setSpring
set_option maxRecDepth 20000 in
theorem ggL_law_L_wind_q0 : GoodIn wsL_law ((.codeWith yL_wind cL_wind 5 (some .int) [(0, 10, 13, 21), (0, 10, 17, 13), (0, 10, 21, 31), (0, 10, 25, 15)]) :: wsL_wind_r1) := goodIn_r _ [420, 246, 162, 376, 163, 421, 422, 423, 2, 424, 18, 17, 32, 168, 169, 170, 16, 171, 55, 56, 58, 59, 60, 61, 62] (by decide +kernel) (by decide +kernel)
set_option maxRecDepth 20000 in
theorem ggL_law_L_wind_q1 : GoodIn wsL_law wsL_wind_r2 := goodIn_r _ [63, 65, 66, 67, 68, 69, 70, 71, 72, 73, 425, 426, 427, 31, 428, 92, 429, 404, 430, 260, 261, 262, 263, 431] (by decide +kernel) (by decide +kernel)
set_option maxRecDepth 20000 in
theorem ggL_law_L_wind_q2 : GoodIn wsL_law wsL_wind_r3 := goodIn_r _ [299, 300, 301, 181, 182, 183, 184, 24, 185, 186, 187, 188, 189, 190, 191, 192, 193, 194, 195, 196, 197, 198, 199, 200] (by decide +kernel) (by decide +kernel)
set_option maxRecDepth 20000 in
theorem ggL_law_L_wind_q3 : GoodIn wsL_law wsL_wind_r4 := goodIn_r _ [23, 201, 81, 80, 79, 202] (by decide +kernel) (by decide +kernel)
set_option maxRecDepth 20000 in
theorem ggL_law_L_wind : GoodIn wsL_law wsL_wind := goodIn_ca (goodIn_ca (goodIn_ca (goodIn_ca (goodIn_ca (goodIn_ca ((goodIn_ca (goodIn_ca (goodIn_ca (goodIn_ca (goodIn_ca (ggL_law_L_wind_q0) (goodIn_app (ggL_law_L_wind_q1) (goodIn_app (ggL_law_L_wind_q2) (ggL_law_L_wind_q3)))) (ggL_law_X10_init_q7)) (ggL_law_X10_init_q6)) (ggL_law_X10_init_q10)) (ggL_law_X10_init_q8))) (goodIn_sub (fun _ h => List.mem_append_left _ (List.mem_append_left _ (List.mem_append_left _ (List.mem_append_left _ (List.mem_append_left _ (List.mem_append_left _ (List.mem_append_left _ (List.mem_append_right _ h)))))))) (by decide +kernel))) (goodIn_sub (fun _ h => List.mem_append_left _ (List.mem_append_left _ (List.mem_append_left _ (List.mem_append_left _ (List.mem_append_left _ (List.mem_append_left _ (List.mem_append_right _ h))))))) (by decide +kernel))) (goodIn_sub (fun _ h => List.mem_append_left _ (List.mem_append_left _ (List.mem_append_left _ (List.mem_append_left _ (List.mem_append_left _ (List.mem_append_right _ h)))))) (by decide +kernel))) (goodIn_sub (fun _ h => List.mem_append_left _ (List.mem_append_left _ (List.mem_append_left _ (List.mem_append_left _ (List.mem_append_right _ h))))) (by decide +kernel))) (goodIn_sub (fun _ h => List.mem_append_left _ (List.mem_append_left _ (List.mem_append_left _ (List.mem_append_right _ h)))) (by decide +kernel))) (goodIn_sub (fun _ h => List.mem_append_left _ (List.mem_append_left _ (List.mem_append_right _ h))) (by decide +kernel))
set_option maxRecDepth 20000 in
theorem gL_law_L_wind : GoodIn wsL_law (va_wsS RL 203 yL_wind wsL_wind) := goodIn_app (goodIn_of _ (by decide +kernel)) ggL_law_L_wind
set_option maxRecDepth 20000 in
theorem ggL_law_X11_wind_q0 : GoodIn wsL_law ((.code yX11_wind cX11_wind 3 (some .int)) :: wsX11_wind_r1) := goodIn_r _ [435, 207, 208, 209, 5, 210, 146, 147, 211, 212, 213, 436, 437, 438, 439, 323, 324, 325, 326, 226, 227, 228, 229, 327, 328] (by decide +kernel) (by decide +kernel)
set_option maxRecDepth 20000 in
theorem ggL_law_X11_wind_q1 : GoodIn wsL_law wsX11_wind_r2 := goodIn_r _ [329, 221, 222, 223, 224, 225, 354, 355, 356, 357, 230, 231, 232, 233, 234, 235, 236, 237, 238, 148] (by decide +kernel) (by decide +kernel)
set_option maxRecDepth 20000 in
theorem ggL_law_X11_wind : GoodIn wsL_law wsX11_wind := goodIn_ca ((goodIn_ca (goodIn_ca (ggL_law_X11_wind_q0) (ggL_law_X11_wind_q1)) (ggL_law_X11_init_q1))) (goodIn_sub (fun _ h => List.mem_append_left _ (List.mem_append_left _ (List.mem_append_left _ (List.mem_append_left _ (List.mem_append_left _ (List.mem_append_left _ (List.mem_append_left _ (List.mem_append_right _ h)))))))) (by decide +kernel))
set_option maxRecDepth 20000 in
theorem gL_law_X11_wind : GoodIn wsL_law (wsV RL 205 RX11 yX11_wind wsX11_wind) := goodIn_app (goodIn_of _ (by decide +kernel)) ggL_law_X11_wind
set_option maxRecDepth 20000 in
theorem ggL_law_L_reverse_q0 : GoodIn wsL_law ((.codeWith yL_reverse cL_reverse 4 (some .int) [(0, 16, 19, 21), (0, 16, 22, 31)]) :: wsL_reverse_r1) := goodIn_r _ [442, 246, 376, 443, 444, 445, 2, 446, 18, 17, 32, 168, 169, 170, 16, 171, 55, 56, 58, 59, 60, 61, 62, 63, 65] (by decide +kernel) (by decide +kernel)
set_option maxRecDepth 20000 in
theorem ggL_law_L_reverse_q1 : GoodIn wsL_law wsL_reverse_r2 := goodIn_r _ [66, 67, 68, 69, 70, 71, 72, 73, 447, 448, 449, 31, 450, 92, 451, 260, 261, 262, 263, 431, 299, 300, 301, 181] (by decide +kernel) (by decide +kernel)
set_option maxRecDepth 20000 in
theorem ggL_law_L_reverse_q2 : GoodIn wsL_law wsL_reverse_r3 := goodIn_r _ [182, 183, 184, 24, 185, 186, 187, 188, 189, 190, 191, 192, 193, 194, 195, 196, 197, 198, 199, 200, 23, 201, 81, 80] (by decide +kernel) (by decide +kernel)
set_option maxRecDepth 20000 in
theorem ggL_law_L_reverse_q3 : GoodIn wsL_law wsL_reverse_r4 := goodIn_r _ [79, 202] (by decide +kernel) (by decide +kernel)
set_option maxRecDepth 20000 in
theorem ggL_law_L_reverse : GoodIn wsL_law wsL_reverse := goodIn_ca (goodIn_ca (goodIn_ca (goodIn_ca (goodIn_ca (goodIn_ca ((goodIn_ca (goodIn_ca (goodIn_ca (goodIn_ca (goodIn_ca (ggL_law_L_reverse_q0) (goodIn_app (ggL_law_L_reverse_q1) (goodIn_app (ggL_law_L_reverse_q2) (ggL_law_L_reverse_q3)))) (ggL_law_X10_init_q7)) (ggL_law_X10_init_q6)) (ggL_law_X10_init_q10)) (ggL_law_X10_init_q8))) (goodIn_sub (fun _ h => List.mem_append_left _ (List.mem_append_left _ (List.mem_append_left _ (List.mem_append_left _ (List.mem_append_left _ (List.mem_append_left _ (List.mem_append_left _ (List.mem_append_right _ h)))))))) (by decide +kernel))) (goodIn_sub (fun _ h => List.mem_append_left _ (List.mem_append_left _ (List.mem_append_left _ (List.mem_append_left _ (List.mem_append_left _ (List.mem_append_left _ (List.mem_append_right _ h))))))) (by decide +kernel))) (goodIn_sub (fun _ h => List.mem_append_left _ (List.mem_append_left _ (List.mem_append_left _ (List.mem_append_left _ (List.mem_append_left _ (List.mem_append_right _ h)))))) (by decide +kernel))) (goodIn_sub (fun _ h => List.mem_append_left _ (List.mem_append_left _ (List.mem_append_left _ (List.mem_append_left _ (List.mem_append_right _ h))))) (by decide +kernel))) (goodIn_sub (fun _ h => List.mem_append_left _ (List.mem_append_left _ (List.mem_append_left _ (List.mem_append_right _ h)))) (by decide +kernel))) (goodIn_sub (fun _ h => List.mem_append_left _ (List.mem_append_left _ (List.mem_append_right _ h))) (by decide +kernel))
set_option maxRecDepth 20000 in
theorem gL_law_L_reverse : GoodIn wsL_law (va_wsS RL 206 yL_reverse wsL_reverse) := goodIn_app (goodIn_of _ (by decide +kernel)) ggL_law_L_reverse
set_option maxRecDepth 20000 in
theorem ggL_law_X11_reverse_q0 : GoodIn wsL_law ((.code yX11_reverse cX11_reverse 2 (some .boolean)) :: wsX11_reverse_r1) := goodIn_r _ [455, 207, 208, 209, 5, 210, 146, 147, 211, 212, 213, 456, 457, 458, 459, 323, 324, 325, 326, 226, 227, 228, 229, 327, 328] (by decide +kernel) (by decide +kernel)
set_option maxRecDepth 20000 in
theorem ggL_law_X11_reverse_q1 : GoodIn wsL_law wsX11_reverse_r2 := goodIn_r _ [329, 221, 222, 223, 224, 225, 354, 355, 356, 357, 230, 231, 232, 233, 234, 235, 236, 237, 238, 148] (by decide +kernel) (by decide +kernel)
set_option maxRecDepth 20000 in
theorem ggL_law_X11_reverse : GoodIn wsL_law wsX11_reverse := goodIn_ca ((goodIn_ca (goodIn_ca (ggL_law_X11_reverse_q0) (ggL_law_X11_reverse_q1)) (ggL_law_X11_init_q1))) (goodIn_sub (fun _ h => List.mem_append_left _ (List.mem_append_left _ (List.mem_append_left _ (List.mem_append_left _ (List.mem_append_left _ (List.mem_append_left _ (List.mem_append_left _ (List.mem_append_right _ h)))))))) (by decide +kernel))
set_option maxRecDepth 20000 in
theorem gL_law_X11_reverse : GoodIn wsL_law (wsV RL 208 RX11 yX11_reverse wsX11_reverse) := goodIn_app (goodIn_of _ (by decide +kernel)) ggL_law_X11_reverse
set_option maxRecDepth 20000 in
theorem ggL_law_L_release_q0 : GoodIn wsL_law ((.codeWith yL_release cL_release 5 (some .int) [(0, 10, 13, 21), (0, 10, 17, 13), (0, 10, 21, 31), (0, 10, 25, 23)]) :: wsL_release_r1) := goodIn_r _ [462, 246, 162, 376, 247, 463, 464, 465, 2, 466, 18, 17, 32, 168, 169, 170, 16, 171, 55, 56, 58, 59, 60, 61, 62] (by decide +kernel) (by decide +kernel)
set_option maxRecDepth 20000 in
theorem ggL_law_L_release_q1 : GoodIn wsL_law wsL_release_r2 := goodIn_r _ [63, 65, 66, 67, 68, 69, 70, 71, 72, 73, 467, 468, 469, 31, 470, 92, 93, 429, 471, 472, 473, 474, 475, 476] (by decide +kernel) (by decide +kernel)
set_option maxRecDepth 20000 in
theorem ggL_law_L_release_q2 : GoodIn wsL_law wsL_release_r3 := goodIn_r _ [451, 260, 261, 262, 263, 431, 299, 300, 301, 264, 265, 266, 27, 267, 85, 87, 268, 86, 269, 270, 271, 272, 273, 274] (by decide +kernel) (by decide +kernel)
set_option maxRecDepth 20000 in
theorem ggL_law_L_release_q3 : GoodIn wsL_law wsL_release_r4 := goodIn_r _ [275, 276, 277, 278, 279, 280, 281, 282, 283, 284, 285, 286, 287, 288, 289, 477, 478, 479, 480, 481, 482, 483, 484, 485] (by decide +kernel) (by decide +kernel)
set_option maxRecDepth 20000 in
theorem ggL_law_L_release_q4 : GoodIn wsL_law wsL_release_r5 := goodIn_r _ [486, 487, 294, 295, 296, 297, 488, 489, 490, 491, 492, 176, 257, 493, 258, 494, 495, 496, 497, 498, 499, 500, 501, 502] (by decide +kernel) (by decide +kernel)
set_option maxRecDepth 20000 in
theorem ggL_law_L_release_q5 : GoodIn wsL_law wsL_release_r6 := goodIn_r _ [503, 504, 505, 506, 507, 508, 509, 181, 182, 183, 184, 24, 185, 186, 187, 188, 189, 190, 191, 192, 193, 194, 195, 196] (by decide +kernel) (by decide +kernel)
set_option maxRecDepth 20000 in
theorem ggL_law_L_release_q6 : GoodIn wsL_law wsL_release_r7 := goodIn_r _ [197, 198, 199, 200, 23, 201, 81, 80, 79, 202] (by decide +kernel) (by decide +kernel)
set_option maxRecDepth 20000 in
theorem ggL_law_L_release : GoodIn wsL_law wsL_release := goodIn_ca (goodIn_ca (goodIn_ca (goodIn_ca (goodIn_ca (goodIn_ca ((goodIn_ca (goodIn_ca (goodIn_ca (goodIn_ca (goodIn_ca (goodIn_ca (ggL_law_L_release_q0) (goodIn_app (ggL_law_L_release_q1) (goodIn_app (ggL_law_L_release_q2) (goodIn_app (ggL_law_L_release_q3) (goodIn_app (ggL_law_L_release_q4) (goodIn_app (ggL_law_L_release_q5) (ggL_law_L_release_q6))))))) (ggL_law_X10_init_q7)) (ggL_law_X10_init_q6)) (ggL_law_X10_init_q10)) (ggL_law_X10_init_q9)) (ggL_law_X10_init_q8))) (goodIn_sub (fun _ h => List.mem_append_left _ (List.mem_append_left _ (List.mem_append_left _ (List.mem_append_left _ (List.mem_append_left _ (List.mem_append_left _ (List.mem_append_left _ (List.mem_append_right _ h)))))))) (by decide +kernel))) (goodIn_sub (fun _ h => List.mem_append_left _ (List.mem_append_left _ (List.mem_append_left _ (List.mem_append_left _ (List.mem_append_left _ (List.mem_append_left _ (List.mem_append_right _ h))))))) (by decide +kernel))) (goodIn_sub (fun _ h => List.mem_append_left _ (List.mem_append_left _ (List.mem_append_left _ (List.mem_append_left _ (List.mem_append_left _ (List.mem_append_right _ h)))))) (by decide +kernel))) (goodIn_sub (fun _ h => List.mem_append_left _ (List.mem_append_left _ (List.mem_append_left _ (List.mem_append_left _ (List.mem_append_right _ h))))) (by decide +kernel))) (goodIn_sub (fun _ h => List.mem_append_left _ (List.mem_append_left _ (List.mem_append_left _ (List.mem_append_right _ h)))) (by decide +kernel))) (goodIn_sub (fun _ h => List.mem_append_left _ (List.mem_append_left _ (List.mem_append_right _ h))) (by decide +kernel))
set_option maxRecDepth 20000 in
theorem gL_law_L_release : GoodIn wsL_law (va_wsS RL 209 yL_release wsL_release) := goodIn_app (goodIn_of _ (by decide +kernel)) ggL_law_L_release
set_option maxRecDepth 20000 in
theorem ggL_law_X11_release_q0 : GoodIn wsL_law ((.code yX11_release cX11_release 3 (some .int)) :: wsX11_release_r1) := goodIn_r _ [513, 207, 208, 209, 5, 210, 146, 147, 211, 212, 213, 514, 515, 516, 517, 323, 324, 325, 326, 226, 227, 228, 229, 327, 328] (by decide +kernel) (by decide +kernel)
set_option maxRecDepth 20000 in
theorem ggL_law_X11_release_q1 : GoodIn wsL_law wsX11_release_r2 := goodIn_r _ [329, 221, 222, 223, 224, 225, 354, 355, 356, 357, 518, 519, 520, 521, 155, 342, 343, 344, 345, 154, 317, 346, 347, 348] (by decide +kernel) (by decide +kernel)
set_option maxRecDepth 20000 in
theorem ggL_law_X11_release_q2 : GoodIn wsL_law wsX11_release_r3 := goodIn_r _ [349, 330, 331, 332, 333, 358, 359, 360, 361, 522, 523, 524, 525, 526, 527, 528, 529, 530, 531, 532, 533, 534, 535, 536] (by decide +kernel) (by decide +kernel)
set_option maxRecDepth 20000 in
theorem ggL_law_X11_release_q3 : GoodIn wsL_law wsX11_release_r4 := goodIn_r _ [537, 538, 539, 540, 230, 231, 232, 233, 234, 235, 236, 237, 238, 148] (by decide +kernel) (by decide +kernel)
set_option maxRecDepth 20000 in
theorem ggL_law_X11_release : GoodIn wsL_law wsX11_release := goodIn_ca (goodIn_ca ((goodIn_ca (goodIn_ca (ggL_law_X11_release_q0) (goodIn_app (ggL_law_X11_release_q1) (goodIn_app (ggL_law_X11_release_q2) (ggL_law_X11_release_q3)))) (ggL_law_X11_init_q1))) (goodIn_sub (fun _ h => List.mem_append_left _ (List.mem_append_left _ (List.mem_append_left _ (List.mem_append_left _ (List.mem_append_left _ (List.mem_append_left _ (List.mem_append_left _ (List.mem_append_right _ h)))))))) (by decide +kernel))) (goodIn_sub (fun _ h => List.mem_append_left _ (List.mem_append_right _ h)) (by decide +kernel))
set_option maxRecDepth 20000 in
theorem gL_law_X11_release : GoodIn wsL_law (wsV RL 211 RX11 yX11_release wsX11_release) := goodIn_app (goodIn_of _ (by decide +kernel)) ggL_law_X11_release
set_option maxRecDepth 20000 in
theorem ggL_law_L_setRatchet_q0 : GoodIn wsL_law ((.codeWith yL_setRatchet cL_setRatchet 5 (some .int) [(0, 17, 20, 21)]) :: wsL_setRatchet_r1) := goodIn_r _ [543, 246, 544, 545, 546, 2, 547, 18, 17, 32, 168, 169, 170, 16, 171, 55, 56, 58, 59, 60, 61, 62, 63, 65, 66] (by decide +kernel) (by decide +kernel)
set_option maxRecDepth 20000 in
theorem ggL_law_L_setRatchet_q1 : GoodIn wsL_law wsL_setRatchet_r2 := goodIn_r _ [67, 68, 69, 70, 71, 72, 73, 548, 549, 550, 31, 551, 92, 552, 260, 261, 262, 263, 181, 182, 183, 184, 24, 185] (by decide +kernel) (by decide +kernel)
set_option maxRecDepth 20000 in
theorem ggL_law_L_setRatchet_q2 : GoodIn wsL_law wsL_setRatchet_r3 := goodIn_r _ [186, 187, 188, 189, 190, 191, 192, 193, 194, 195, 196, 197, 198, 199, 200, 23, 201, 81, 80, 79, 202] (by decide +kernel) (by decide +kernel)
set_option maxRecDepth 20000 in
theorem ggL_law_L_setRatchet : GoodIn wsL_law wsL_setRatchet := goodIn_ca (goodIn_ca (goodIn_ca (goodIn_ca (goodIn_ca (goodIn_ca ((goodIn_ca (goodIn_ca (goodIn_ca (goodIn_ca (goodIn_ca (ggL_law_L_setRatchet_q0) (goodIn_app (ggL_law_L_setRatchet_q1) (ggL_law_L_setRatchet_q2))) (ggL_law_X10_init_q7)) (ggL_law_X10_init_q6)) (ggL_law_X10_init_q10)) (ggL_law_X10_init_q8))) (goodIn_sub (fun _ h => List.mem_append_left _ (List.mem_append_left _ (List.mem_append_left _ (List.mem_append_left _ (List.mem_append_left _ (List.mem_append_left _ (List.mem_append_left _ (List.mem_append_right _ h)))))))) (by decide +kernel))) (goodIn_sub (fun _ h => List.mem_append_left _ (List.mem_append_left _ (List.mem_append_left _ (List.mem_append_left _ (List.mem_append_left _ (List.mem_append_left _ (List.mem_append_right _ h))))))) (by decide +kernel))) (goodIn_sub (fun _ h => List.mem_append_left _ (List.mem_append_left _ (List.mem_append_left _ (List.mem_append_left _ (List.mem_append_left _ (List.mem_append_right _ h)))))) (by decide +kernel))) (goodIn_sub (fun _ h => List.mem_append_left _ (List.mem_append_left _ (List.mem_append_left _ (List.mem_append_left _ (List.mem_append_right _ h))))) (by decide +kernel))) (goodIn_sub (fun _ h => List.mem_append_left _ (List.mem_append_left _ (List.mem_append_left _ (List.mem_append_right _ h)))) (by decide +kernel))) (goodIn_sub (fun _ h => List.mem_append_left _ (List.mem_append_left _ (List.mem_append_right _ h))) (by decide +kernel))
set_option maxRecDepth 20000 in
theorem gL_law_L_setRatchet : GoodIn wsL_law (va_wsS RL 212 yL_setRatchet wsL_setRatchet) := goodIn_app (goodIn_of _ (by decide +kernel)) ggL_law_L_setRatchet
set_option maxRecDepth 20000 in
theorem ggL_law_X11_setRatchet_q0 : GoodIn wsL_law ((.code yX11_setRatchet cX11_setRatchet 3 (some .boolean)) :: wsX11_setRatchet_r1) := goodIn_r _ [556, 207, 208, 209, 5, 210, 146, 147, 211, 212, 213, 557, 558, 559, 560, 323, 324, 325, 326, 226, 227, 228, 229, 327, 328] (by decide +kernel) (by decide +kernel)
set_option maxRecDepth 20000 in
theorem ggL_law_X11_setRatchet_q1 : GoodIn wsL_law wsX11_setRatchet_r2 := goodIn_r _ [329, 221, 222, 223, 224, 225, 230, 231, 232, 233, 234, 235, 236, 237, 238, 148] (by decide +kernel) (by decide +kernel)
set_option maxRecDepth 20000 in
theorem ggL_law_X11_setRatchet : GoodIn wsL_law wsX11_setRatchet := goodIn_ca ((goodIn_ca (goodIn_ca (ggL_law_X11_setRatchet_q0) (ggL_law_X11_setRatchet_q1)) (ggL_law_X11_init_q1))) (goodIn_sub (fun _ h => List.mem_append_left _ (List.mem_append_left _ (List.mem_append_left _ (List.mem_append_left _ (List.mem_append_left _ (List.mem_append_left _ (List.mem_append_left _ (List.mem_append_right _ h)))))))) (by decide +kernel))
set_option maxRecDepth 20000 in
theorem gL_law_X11_setRatchet : GoodIn wsL_law (wsV RL 215 RX11 yX11_setRatchet wsX11_setRatchet) := goodIn_app (goodIn_of _ (by decide +kernel)) ggL_law_X11_setRatchet
set_option maxRecDepth 20000 in
theorem ggL_law_L_oil_q0 : GoodIn wsL_law ((.codeWith yL_oil cL_oil 4 (some .int) [(0, 9, 12, 21), (0, 9, 15, 15), (0, 9, 18, 23)]) :: wsL_oil_r1) := goodIn_r _ [563, 246, 163, 247, 564, 565, 566, 2, 567, 18, 17, 32, 168, 169, 170, 16, 171, 55, 56, 58, 59, 60, 61, 62, 63] (by decide +kernel) (by decide +kernel)
set_option maxRecDepth 20000 in
theorem ggL_law_L_oil_q1 : GoodIn wsL_law wsL_oil_r2 := goodIn_r _ [65, 66, 67, 68, 69, 70, 71, 72, 73, 568, 569, 570, 31, 571, 92, 494, 572, 495, 260, 261, 262, 263, 181, 182] (by decide +kernel) (by decide +kernel)
set_option maxRecDepth 20000 in
theorem ggL_law_L_oil_q2 : GoodIn wsL_law wsL_oil_r3 := goodIn_r _ [183, 184, 24, 185, 186, 187, 188, 189, 190, 191, 192, 193, 194, 195, 196, 197, 198, 199, 200, 23, 201, 81, 80, 79] (by decide +kernel) (by decide +kernel)
set_option maxRecDepth 20000 in
theorem ggL_law_L_oil_q3 : GoodIn wsL_law wsL_oil_r4 := goodIn_r _ [202] (by decide +kernel) (by decide +kernel)
set_option maxRecDepth 20000 in
theorem ggL_law_L_oil : GoodIn wsL_law wsL_oil := goodIn_ca (goodIn_ca (goodIn_ca (goodIn_ca (goodIn_ca (goodIn_ca ((goodIn_ca (goodIn_ca (goodIn_ca (goodIn_ca (goodIn_ca (ggL_law_L_oil_q0) (goodIn_app (ggL_law_L_oil_q1) (goodIn_app (ggL_law_L_oil_q2) (ggL_law_L_oil_q3)))) (ggL_law_X10_init_q7)) (ggL_law_X10_init_q6)) (ggL_law_X10_init_q10)) (ggL_law_X10_init_q8))) (goodIn_sub (fun _ h => List.mem_append_left _ (List.mem_append_left _ (List.mem_append_left _ (List.mem_append_left _ (List.mem_append_left _ (List.mem_append_left _ (List.mem_append_left _ (List.mem_append_right _ h)))))))) (by decide +kernel))) (goodIn_sub (fun _ h => List.mem_append_left _ (List.mem_append_left _ (List.mem_append_left _ (List.mem_append_left _ (List.mem_append_left _ (List.mem_append_left _ (List.mem_append_right _ h))))))) (by decide +kernel))) (goodIn_sub (fun _ h => List.mem_append_left _ (List.mem_append_left _ (List.mem_append_left _ (List.mem_append_left _ (List.mem_append_left _ (List.mem_append_right _ h)))))) (by decide +kernel))) (goodIn_sub (fun _ h => List.mem_append_left _ (List.mem_append_left _ (List.mem_append_left _ (List.mem_append_left _ (List.mem_append_right _ h))))) (by decide +kernel))) (goodIn_sub (fun _ h => List.mem_append_left _ (List.mem_append_left _ (List.mem_append_left _ (List.mem_append_right _ h)))) (by decide +kernel))) (goodIn_sub (fun _ h => List.mem_append_left _ (List.mem_append_left _ (List.mem_append_right _ h))) (by decide +kernel))
set_option maxRecDepth 20000 in
theorem gL_law_L_oil : GoodIn wsL_law (va_wsS RL 216 yL_oil wsL_oil) := goodIn_app (goodIn_of _ (by decide +kernel)) ggL_law_L_oil
set_option maxRecDepth 20000 in
theorem ggL_law_X11_oil_q0 : GoodIn wsL_law ((.code yX11_oil cX11_oil 2 (some .int)) :: wsX11_oil_r1) := goodIn_r _ [576, 207, 208, 209, 5, 210, 146, 147, 211, 212, 213, 577, 578, 579, 580, 323, 324, 325, 326, 226, 227, 228, 229, 327, 328] (by decide +kernel) (by decide +kernel)
set_option maxRecDepth 20000 in
theorem ggL_law_X11_oil_q1 : GoodIn wsL_law wsX11_oil_r2 := goodIn_r _ [329, 221, 222, 223, 224, 225, 230, 231, 232, 233, 234, 235, 236, 237, 238, 148] (by decide +kernel) (by decide +kernel)
set_option maxRecDepth 20000 in
theorem ggL_law_X11_oil : GoodIn wsL_law wsX11_oil := goodIn_ca ((goodIn_ca (goodIn_ca (ggL_law_X11_oil_q0) (ggL_law_X11_oil_q1)) (ggL_law_X11_init_q1))) (goodIn_sub (fun _ h => List.mem_append_left _ (List.mem_append_left _ (List.mem_append_left _ (List.mem_append_left _ (List.mem_append_left _ (List.mem_append_left _ (List.mem_append_left _ (List.mem_append_right _ h)))))))) (by decide +kernel))
set_option maxRecDepth 20000 in
theorem gL_law_X11_oil : GoodIn wsL_law (wsV RL 218 RX11 yX11_oil wsX11_oil) := goodIn_app (goodIn_of _ (by decide +kernel)) ggL_law_X11_oil
set_option maxRecDepth 20000 in
theorem ggL_law_L_buyOil_q0 : GoodIn wsL_law ((.codeWith yL_buyOil cL_buyOil 4 (some .int) [(0, 9, 12, 13), (0, 9, 15, 15)]) :: wsL_buyOil_r1) := goodIn_r _ [583, 162, 163, 584, 585, 586, 2, 587, 18, 17, 32, 168, 169, 170, 16, 171, 55, 56, 58, 59, 60, 61, 62, 63, 65] (by decide +kernel) (by decide +kernel)
set_option maxRecDepth 20000 in
theorem ggL_law_L_buyOil_q1 : GoodIn wsL_law wsL_buyOil_r2 := goodIn_r _ [66, 67, 68, 69, 70, 71, 72, 73, 588, 589, 590, 31, 591, 92, 572, 181, 182, 183, 184, 24, 185, 186, 187, 188] (by decide +kernel) (by decide +kernel)
set_option maxRecDepth 20000 in
theorem ggL_law_L_buyOil_q2 : GoodIn wsL_law wsL_buyOil_r3 := goodIn_r _ [189, 190, 191, 192, 193, 194, 195, 196, 197, 198, 199, 200, 23, 201, 81, 80, 79, 202] (by decide +kernel) (by decide +kernel)
set_option maxRecDepth 20000 in
theorem ggL_law_L_buyOil : GoodIn wsL_law wsL_buyOil := goodIn_ca (goodIn_ca (goodIn_ca (goodIn_ca (goodIn_ca (goodIn_ca ((goodIn_ca (goodIn_ca (goodIn_ca (goodIn_ca (goodIn_ca (ggL_law_L_buyOil_q0) (goodIn_app (ggL_law_L_buyOil_q1) (ggL_law_L_buyOil_q2))) (ggL_law_X10_init_q7)) (ggL_law_X10_init_q6)) (ggL_law_X10_init_q10)) (ggL_law_X10_init_q8))) (goodIn_sub (fun _ h => List.mem_append_left _ (List.mem_append_left _ (List.mem_append_left _ (List.mem_append_left _ (List.mem_append_left _ (List.mem_append_left _ (List.mem_append_left _ (List.mem_append_right _ h)))))))) (by decide +kernel))) (goodIn_sub (fun _ h => List.mem_append_left _ (List.mem_append_left _ (List.mem_append_left _ (List.mem_append_left _ (List.mem_append_left _ (List.mem_append_left _ (List.mem_append_right _ h))))))) (by decide +kernel))) (goodIn_sub (fun _ h => List.mem_append_left _ (List.mem_append_left _ (List.mem_append_left _ (List.mem_append_left _ (List.mem_append_left _ (List.mem_append_right _ h)))))) (by decide +kernel))) (goodIn_sub (fun _ h => List.mem_append_left _ (List.mem_append_left _ (List.mem_append_left _ (List.mem_append_left _ (List.mem_append_right _ h))))) (by decide +kernel))) (goodIn_sub (fun _ h => List.mem_append_left _ (List.mem_append_left _ (List.mem_append_left _ (List.mem_append_right _ h)))) (by decide +kernel))) (goodIn_sub (fun _ h => List.mem_append_left _ (List.mem_append_left _ (List.mem_append_right _ h))) (by decide +kernel))
set_option maxRecDepth 20000 in
theorem gL_law_L_buyOil : GoodIn wsL_law (va_wsS RL 219 yL_buyOil wsL_buyOil) := goodIn_app (goodIn_of _ (by decide +kernel)) ggL_law_L_buyOil
set_option maxRecDepth 20000 in
theorem ggL_law_X11_buyOil_q0 : GoodIn wsL_law ((.code yX11_buyOil cX11_buyOil 2 (some .int)) :: wsX11_buyOil_r1) := goodIn_r _ [595, 207, 208, 209, 5, 210, 146, 147, 211, 212, 213, 596, 597, 598, 599, 600, 327, 328, 329, 221, 222, 223, 224, 225, 226] (by decide +kernel) (by decide +kernel)
set_option maxRecDepth 20000 in
theorem ggL_law_X11_buyOil_q1 : GoodIn wsL_law wsX11_buyOil_r2 := goodIn_r _ [227, 228, 229, 230, 231, 232, 233, 234, 235, 236, 237, 238, 148] (by decide +kernel) (by decide +kernel)
set_option maxRecDepth 20000 in
theorem ggL_law_X11_buyOil : GoodIn wsL_law wsX11_buyOil := goodIn_ca ((goodIn_ca (goodIn_ca (ggL_law_X11_buyOil_q0) (ggL_law_X11_buyOil_q1)) (ggL_law_X11_init_q1))) (goodIn_sub (fun _ h => List.mem_append_left _ (List.mem_append_left _ (List.mem_append_left _ (List.mem_append_left _ (List.mem_append_left _ (List.mem_append_left _ (List.mem_append_left _ (List.mem_append_right _ h)))))))) (by decide +kernel))
set_option maxRecDepth 20000 in
theorem gL_law_X11_buyOil : GoodIn wsL_law (wsV RL 221 RX11 yX11_buyOil wsX11_buyOil) := goodIn_app (goodIn_of _ (by decide +kernel)) ggL_law_X11_buyOil
set_option maxRecDepth 20000 in
theorem ggL_law_L_addPlanet_q0 : GoodIn wsL_law ((.codeWith yL_addPlanet cL_addPlanet 4 (some .int) [(0, 9, 12, 21), (0, 9, 15, 15)]) :: wsL_addPlanet_r1) := goodIn_r _ [603, 246, 163, 604, 605, 606, 2, 607, 18, 17, 32, 168, 169, 170, 16, 171, 55, 56, 58, 59, 60, 61, 62, 63, 65] (by decide +kernel) (by decide +kernel)
set_option maxRecDepth 20000 in
theorem ggL_law_L_addPlanet_q1 : GoodIn wsL_law wsL_addPlanet_r2 := goodIn_r _ [66, 67, 68, 69, 70, 71, 72, 73, 608, 609, 610, 31, 611, 92, 612, 613, 260, 261, 262, 263, 614, 615, 616, 617] (by decide +kernel) (by decide +kernel)
set_option maxRecDepth 20000 in
theorem ggL_law_L_addPlanet_q2 : GoodIn wsL_law wsL_addPlanet_r3 := goodIn_r _ [181, 182, 183, 184, 24, 185, 186, 187, 188, 189, 190, 191, 192, 193, 194, 195, 196, 197, 198, 199, 200, 23, 201, 81] (by decide +kernel) (by decide +kernel)
set_option maxRecDepth 20000 in
theorem ggL_law_L_addPlanet_q3 : GoodIn wsL_law wsL_addPlanet_r4 := goodIn_r _ [80, 79, 202] (by decide +kernel) (by decide +kernel)
set_option maxRecDepth 20000 in
theorem ggL_law_L_addPlanet : GoodIn wsL_law wsL_addPlanet := goodIn_ca (goodIn_ca (goodIn_ca (goodIn_ca (goodIn_ca (goodIn_ca ((goodIn_ca (goodIn_ca (goodIn_ca (goodIn_ca (goodIn_ca (ggL_law_L_addPlanet_q0) (goodIn_app (ggL_law_L_addPlanet_q1) (goodIn_app (ggL_law_L_addPlanet_q2) (ggL_law_L_addPlanet_q3)))) (ggL_law_X10_init_q7)) (ggL_law_X10_init_q6)) (ggL_law_X10_init_q10)) (ggL_law_X10_init_q8))) (goodIn_sub (fun _ h => List.mem_append_left _ (List.mem_append_left _ (List.mem_append_left _ (List.mem_append_left _ (List.mem_append_left _ (List.mem_append_left _ (List.mem_append_left _ (List.mem_append_right _ h)))))))) (by decide +kernel))) (goodIn_sub (fun _ h => List.mem_append_left _ (List.mem_append_left _ (List.mem_append_left _ (List.mem_append_left _ (List.mem_append_left _ (List.mem_append_left _ (List.mem_append_right _ h))))))) (by decide +kernel))) (goodIn_sub (fun _ h => List.mem_append_left _ (List.mem_append_left _ (List.mem_append_left _ (List.mem_append_left _ (List.mem_append_left _ (List.mem_append_right _ h)))))) (by decide +kernel))) (goodIn_sub (fun _ h => List.mem_append_left _ (List.mem_append_left _ (List.mem_append_left _ (List.mem_append_left _ (List.mem_append_right _ h))))) (by decide +kernel))) (goodIn_sub (fun _ h => List.mem_append_left _ (List.mem_append_left _ (List.mem_append_left _ (List.mem_append_right _ h)))) (by decide +kernel))) (goodIn_sub (fun _ h => List.mem_append_left _ (List.mem_append_left _ (List.mem_append_right _ h))) (by decide +kernel))
set_option maxRecDepth 20000 in
theorem gL_law_L_addPlanet : GoodIn wsL_law (va_wsS RL 222 yL_addPlanet wsL_addPlanet) := goodIn_app (goodIn_of _ (by decide +kernel)) ggL_law_L_addPlanet
set_option maxRecDepth 20000 in
theorem ggL_law_X11_addPlanet_q0 : GoodIn wsL_law ((.code yX11_addPlanet cX11_addPlanet 2 (some .int)) :: wsX11_addPlanet_r1) := goodIn_r _ [621, 207, 208, 209, 5, 210, 146, 147, 211, 212, 213, 622, 623, 624, 625, 323, 324, 325, 326, 226, 227, 228, 229, 327, 328] (by decide +kernel) (by decide +kernel)
set_option maxRecDepth 20000 in
theorem ggL_law_X11_addPlanet_q1 : GoodIn wsL_law wsX11_addPlanet_r2 := goodIn_r _ [329, 221, 222, 223, 224, 225, 626, 627, 628, 629, 230, 231, 232, 233, 234, 235, 236, 237, 238, 148] (by decide +kernel) (by decide +kernel)
set_option maxRecDepth 20000 in
theorem ggL_law_X11_addPlanet : GoodIn wsL_law wsX11_addPlanet := goodIn_ca ((goodIn_ca (goodIn_ca (ggL_law_X11_addPlanet_q0) (ggL_law_X11_addPlanet_q1)) (ggL_law_X11_init_q1))) (goodIn_sub (fun _ h => List.mem_append_left _ (List.mem_append_left _ (List.mem_append_left _ (List.mem_append_left _ (List.mem_append_left _ (List.mem_append_left _ (List.mem_append_left _ (List.mem_append_right _ h)))))))) (by decide +kernel))
set_option maxRecDepth 20000 in
theorem gL_law_X11_addPlanet : GoodIn wsL_law (wsV RL 224 RX11 yX11_addPlanet wsX11_addPlanet) := goodIn_app (goodIn_of _ (by decide +kernel)) ggL_law_X11_addPlanet
set_option maxRecDepth 20000 in
theorem ggL_law_X10_gearCount_q0 : GoodIn wsL_law ((.code yX10_gearCount cX10_gearCount 1 (some .int)) :: [.fieldLink RX10 12 "PlanetWorkshop" "now" "LPlanetWorkshop$State;", .fieldLink RX10 129 "PlanetWorkshop$State" "gears" "I"]) := goodIn_r _ [633, 17, 634] (by decide +kernel) (by decide +kernel)
set_option maxRecDepth 20000 in
theorem ggL_law_X10_gearCount : GoodIn wsL_law wsX10_gearCount := (goodIn_ca (goodIn_ca (ggL_law_X10_gearCount_q0) (ggL_law_X10_init_q7)) (ggL_law_X10_init_q6))
set_option maxRecDepth 20000 in
theorem gL_law_X10_gearCount : GoodIn wsL_law (wsV RL 225 RX10 yX10_gearCount wsX10_gearCount) := goodIn_app (goodIn_of _ (by decide +kernel)) ggL_law_X10_gearCount
set_option maxRecDepth 20000 in
theorem ggL_law_X11_gearCount_q0 : GoodIn wsL_law ((.code yX11_gearCount cX11_gearCount 1 (some .int)) :: [.methodLink RX11 61 yX11_at, .instanceMethod yX11_at, .selects RX11 yX11_at yX11_at, .initialized RX11, .code yX11_at cX11_at 2 (some .int), .fieldLink RX11 7 "PlanetWorkshopModel" "g" "[J", .methodLink RX11 98 yX11_done, .instanceMethod yX11_done, .selects RX11 yX11_done yX11_done, .code yX11_done cX11_done 2 (some .int), .fieldLink RX11 49 "PlanetWorkshopModel" "thrown" "I"]) := goodIn_r _ [638, 226, 227, 228, 5, 229, 146, 230, 231, 232, 233, 225] (by decide +kernel) (by decide +kernel)
set_option maxRecDepth 20000 in
theorem ggL_law_X11_gearCount : GoodIn wsL_law wsX11_gearCount := goodIn_ca ((goodIn_ca (ggL_law_X11_gearCount_q0) (ggL_law_X11_init_q1))) (goodIn_sub (fun _ h => List.mem_append_left _ (List.mem_append_left _ (List.mem_append_left _ (List.mem_append_left _ (List.mem_append_left _ (List.mem_append_left _ (List.mem_append_left _ (List.mem_append_right _ h)))))))) (by decide +kernel))
set_option maxRecDepth 20000 in
theorem gL_law_X11_gearCount : GoodIn wsL_law (wsV RL 228 RX11 yX11_gearCount wsX11_gearCount) := goodIn_app (goodIn_of _ (by decide +kernel)) ggL_law_X11_gearCount
set_option maxRecDepth 20000 in
theorem ggL_law_L_teeth_q0 : GoodIn wsL_law ((.codeWith yL_teeth cL_teeth 4 (some .int) [(0, 9, 12, 21)]) :: [.classLink RL 21 "java/lang/IndexOutOfBoundsException", .methodLink RL 59 yX10_teeth, .instanceMethod yX10_teeth, .selects RX10 yX10_teeth yX10_teeth, .initialized RX10, .code yX10_teeth cX10_teeth 2 (some .int), .fieldLink RX10 12 "PlanetWorkshop" "now" "LPlanetWorkshop$State;", .fieldLink RX10 136 "PlanetWorkshop$State" "teeth" "[I", .methodLink RX10 132 yX10_checkGear, .instanceMethod yX10_checkGear, .selects RX10 yX10_checkGear yX10_checkGear, .code yX10_checkGear cX10_checkGear 2 none, .classLink RX10 311 "java/lang/IndexOutOfBoundsException", .initialized "java/lang/IndexOutOfBoundsException", .methodLink RX10 352 yX7_isGear, .instanceMethod yX7_isGear, .selects RX7 yX7_isGear yX7_isGear, .initialized RX7, .code yX7_isGear cX7_isGear 2 (some .boolean), .fieldLink RX7 45 "PlanetWorkshop$State" "gears" "I"]) := goodIn_r _ [641, 246, 642, 643, 644, 2, 645, 17, 646, 647, 648, 649, 650, 188, 189, 651, 261, 262, 16, 263, 67] (by decide +kernel) (by decide +kernel)
set_option maxRecDepth 20000 in
theorem ggL_law_L_teeth : GoodIn wsL_law wsL_teeth := goodIn_ca (goodIn_ca ((goodIn_ca (goodIn_ca (ggL_law_L_teeth_q0) (ggL_law_X10_init_q7)) (ggL_law_X10_init_q6))) (goodIn_sub (fun _ h => List.mem_append_left _ (List.mem_append_left _ (List.mem_append_left _ (List.mem_append_left _ (List.mem_append_left _ (List.mem_append_left _ (List.mem_append_left _ (List.mem_append_right _ h)))))))) (by decide +kernel))) (goodIn_sub (fun _ h => List.mem_append_left _ (List.mem_append_left _ (List.mem_append_left _ (List.mem_append_left _ (List.mem_append_left _ (List.mem_append_left _ (List.mem_append_right _ h))))))) (by decide +kernel))
set_option maxRecDepth 20000 in
theorem gL_law_L_teeth : GoodIn wsL_law (va_wsS RL 229 yL_teeth wsL_teeth) := goodIn_app (goodIn_of _ (by decide +kernel)) ggL_law_L_teeth
set_option maxRecDepth 20000 in
theorem ggL_law_X11_teeth_q0 : GoodIn wsL_law ((.code yX11_teeth cX11_teeth 2 (some .int)) :: [.methodLink RX11 69 yX11_isGear, .instanceMethod yX11_isGear, .selects RX11 yX11_isGear yX11_isGear, .initialized RX11, .code yX11_isGear cX11_isGear 2 (some .boolean), .methodLink RX11 61 yX11_at, .instanceMethod yX11_at, .selects RX11 yX11_at yX11_at, .code yX11_at cX11_at 2 (some .int), .fieldLink RX11 7 "PlanetWorkshopModel" "g" "[J", .methodLink RX11 65 yX11_in, .static yX11_in, .code yX11_in cX11_in 3 (some .boolean), .methodLink RX11 98 yX11_done, .instanceMethod yX11_done, .selects RX11 yX11_done yX11_done, .code yX11_done cX11_done 2 (some .int), .fieldLink RX11 49 "PlanetWorkshopModel" "thrown" "I", .methodLink RX11 95 yX11_fails, .instanceMethod yX11_fails, .selects RX11 yX11_fails yX11_fails, .code yX11_fails cX11_fails 2 (some .int)]) := goodIn_r _ [655, 323, 324, 325, 5, 326, 226, 227, 228, 229, 146, 327, 328, 329, 230, 231, 232, 233, 225, 221, 222, 223, 224] (by decide +kernel) (by decide +kernel)
set_option maxRecDepth 20000 in
theorem ggL_law_X11_teeth : GoodIn wsL_law wsX11_teeth := goodIn_ca ((goodIn_ca (ggL_law_X11_teeth_q0) (ggL_law_X11_init_q1))) (goodIn_sub (fun _ h => List.mem_append_left _ (List.mem_append_left _ (List.mem_append_left _ (List.mem_append_left _ (List.mem_append_left _ (List.mem_append_left _ (List.mem_append_left _ (List.mem_append_right _ h)))))))) (by decide +kernel))
set_option maxRecDepth 20000 in
theorem gL_law_X11_teeth : GoodIn wsL_law (wsV RL 231 RX11 yX11_teeth wsX11_teeth) := goodIn_app (goodIn_of _ (by decide +kernel)) ggL_law_X11_teeth
set_option maxRecDepth 20000 in
theorem ggL_law_L_joint_q0 : GoodIn wsL_law ((.codeWith yL_joint cL_joint 5 (some .int) [(0, 10, 13, 21), (0, 10, 17, 31)]) :: wsL_joint_r1) := goodIn_r _ [658, 246, 376, 659, 660, 661, 2, 662, 196, 197, 17, 647, 648, 649, 650, 188, 189, 651, 261, 262, 16, 263, 67, 663, 275] (by decide +kernel) (by decide +kernel)
set_option maxRecDepth 20000 in
theorem ggL_law_L_joint_q1 : GoodIn wsL_law wsL_joint_r2 := goodIn_r _ [276, 277, 65] (by decide +kernel) (by decide +kernel)
set_option maxRecDepth 20000 in
theorem ggL_law_L_joint : GoodIn wsL_law wsL_joint := goodIn_ca (goodIn_ca (goodIn_ca ((goodIn_ca (goodIn_ca (goodIn_ca (ggL_law_L_joint_q0) (ggL_law_L_joint_q1)) (ggL_law_X10_init_q7)) (ggL_law_X10_init_q6))) (goodIn_sub (fun _ h => List.mem_append_left _ (List.mem_append_left _ (List.mem_append_left _ (List.mem_append_left _ (List.mem_append_left _ (List.mem_append_left _ (List.mem_append_left _ (List.mem_append_right _ h)))))))) (by decide +kernel))) (goodIn_sub (fun _ h => List.mem_append_left _ (List.mem_append_left _ (List.mem_append_right _ h))) (by decide +kernel))) (goodIn_sub (fun _ h => List.mem_append_left _ (List.mem_append_left _ (List.mem_append_left _ (List.mem_append_left _ (List.mem_append_left _ (List.mem_append_left _ (List.mem_append_right _ h))))))) (by decide +kernel))
set_option maxRecDepth 20000 in
theorem gL_law_L_joint : GoodIn wsL_law (va_wsS RL 232 yL_joint wsL_joint) := goodIn_app (goodIn_of _ (by decide +kernel)) ggL_law_L_joint
set_option maxRecDepth 20000 in
theorem ggL_law_X11_joint_q0 : GoodIn wsL_law ((.code yX11_joint cX11_joint 3 (some .char)) :: [.fieldLink RX11 49 "PlanetWorkshopModel" "thrown" "I", .methodLink RX11 113 yX11_areGears, .instanceMethod yX11_areGears, .selects RX11 yX11_areGears yX11_areGears, .initialized RX11, .code yX11_areGears cX11_areGears 3 (some .boolean), .methodLink RX11 69 yX11_isGear, .instanceMethod yX11_isGear, .selects RX11 yX11_isGear yX11_isGear, .code yX11_isGear cX11_isGear 2 (some .boolean), .methodLink RX11 61 yX11_at, .instanceMethod yX11_at, .selects RX11 yX11_at yX11_at, .code yX11_at cX11_at 2 (some .int), .fieldLink RX11 7 "PlanetWorkshopModel" "g" "[J", .methodLink RX11 65 yX11_in, .static yX11_in, .code yX11_in cX11_in 3 (some .boolean), .methodLink RX11 73 yX11_jointOf, .instanceMethod yX11_jointOf, .selects RX11 yX11_jointOf yX11_jointOf, .code yX11_jointOf cX11_jointOf 3 (some .int)]) := goodIn_r _ [667, 225, 319, 320, 321, 5, 322, 323, 324, 325, 326, 226, 227, 228, 229, 146, 327, 328, 329, 330, 331, 332, 333] (by decide +kernel) (by decide +kernel)
set_option maxRecDepth 20000 in
theorem ggL_law_X11_joint : GoodIn wsL_law wsX11_joint := goodIn_ca ((goodIn_ca (ggL_law_X11_joint_q0) (ggL_law_X11_init_q1))) (goodIn_sub (fun _ h => List.mem_append_left _ (List.mem_append_left _ (List.mem_append_left _ (List.mem_append_left _ (List.mem_append_left _ (List.mem_append_left _ (List.mem_append_left _ (List.mem_append_right _ h)))))))) (by decide +kernel))
set_option maxRecDepth 20000 in
theorem gL_law_X11_joint : GoodIn wsL_law (wsV RL 234 RX11 yX11_joint wsX11_joint) := goodIn_app (goodIn_of _ (by decide +kernel)) ggL_law_X11_joint
set_option maxRecDepth 20000 in
theorem ggL_law_X10_jointCount_q0 : GoodIn wsL_law ((.code yX10_jointCount cX10_jointCount 1 (some .int)) :: [.fieldLink RX10 12 "PlanetWorkshop" "now" "LPlanetWorkshop$State;", .fieldLink RX10 147 "PlanetWorkshop$State" "joints" "I"]) := goodIn_r _ [671, 17, 672] (by decide +kernel) (by decide +kernel)
set_option maxRecDepth 20000 in
theorem ggL_law_X10_jointCount : GoodIn wsL_law wsX10_jointCount := (goodIn_ca (goodIn_ca (ggL_law_X10_jointCount_q0) (ggL_law_X10_init_q7)) (ggL_law_X10_init_q6))
set_option maxRecDepth 20000 in
theorem gL_law_X10_jointCount : GoodIn wsL_law (wsV RL 235 RX10 yX10_jointCount wsX10_jointCount) := goodIn_app (goodIn_of _ (by decide +kernel)) ggL_law_X10_jointCount
set_option maxRecDepth 20000 in
theorem ggL_law_X11_jointCount_q0 : GoodIn wsL_law ((.code yX11_jointCount cX11_jointCount 1 (some .int)) :: [.methodLink RX11 116 yX11_joints, .instanceMethod yX11_joints, .selects RX11 yX11_joints yX11_joints, .initialized RX11, .code yX11_joints cX11_joints 3 (some .int), .fieldLink RX11 7 "PlanetWorkshopModel" "g" "[J", .methodLink RX11 98 yX11_done, .instanceMethod yX11_done, .selects RX11 yX11_done yX11_done, .code yX11_done cX11_done 2 (some .int), .fieldLink RX11 49 "PlanetWorkshopModel" "thrown" "I"]) := goodIn_r _ [676, 334, 335, 336, 5, 337, 146, 230, 231, 232, 233, 225] (by decide +kernel) (by decide +kernel)
set_option maxRecDepth 20000 in
theorem ggL_law_X11_jointCount : GoodIn wsL_law wsX11_jointCount := goodIn_ca ((goodIn_ca (ggL_law_X11_jointCount_q0) (ggL_law_X11_init_q1))) (goodIn_sub (fun _ h => List.mem_append_left _ (List.mem_append_left _ (List.mem_append_left _ (List.mem_append_left _ (List.mem_append_left _ (List.mem_append_left _ (List.mem_append_left _ (List.mem_append_right _ h)))))))) (by decide +kernel))
set_option maxRecDepth 20000 in
theorem gL_law_X11_jointCount : GoodIn wsL_law (wsV RL 238 RX11 yX11_jointCount wsX11_jointCount) := goodIn_app (goodIn_of _ (by decide +kernel)) ggL_law_X11_jointCount
