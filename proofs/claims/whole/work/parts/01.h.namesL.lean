theorem dL_addGear_0 : decode cL_addGear 0 = .ok (.aload_n 2, 1) := by decide +kernel
theorem dL_addGear_1 : decode cL_addGear 1 = .ok (.iconst 0, 1) := by decide +kernel
theorem dL_addGear_2 : decode cL_addGear 2 = .ok (.aload_n 0, 1) := by decide +kernel
theorem dL_addGear_3 : decode cL_addGear 3 = .ok (.iload_n 1, 1) := by decide +kernel
theorem dL_addGear_4 : decode cL_addGear 4 = .ok (.invokevirtual 7, 3) := by decide +kernel
theorem dL_addGear_7 : decode cL_addGear 7 = .ok (.i2l, 1) := by decide +kernel
theorem dL_addGear_8 : decode cL_addGear 8 = .ok (.lastore, 1) := by decide +kernel
theorem dL_addGear_9 : decode cL_addGear 9 = .ok (.goto 9, 3) := by decide +kernel
theorem dL_addGear_12 : decode cL_addGear 12 = .ok (.astore_n 3, 1) := by decide +kernel
theorem dL_addGear_13 : decode cL_addGear 13 = .ok (.iconst 1, 1) := by decide +kernel
theorem dL_addGear_14 : decode cL_addGear 14 = .ok (.ireturn, 1) := by decide +kernel
theorem dL_addGear_15 : decode cL_addGear 15 = .ok (.astore_n 3, 1) := by decide +kernel
theorem dL_addGear_16 : decode cL_addGear 16 = .ok (.iconst 2, 1) := by decide +kernel
theorem dL_addGear_17 : decode cL_addGear 17 = .ok (.ireturn, 1) := by decide +kernel
theorem dL_addGear_18 : decode cL_addGear 18 = .ok (.iconst 0, 1) := by decide +kernel
theorem dL_addGear_19 : decode cL_addGear 19 = .ok (.ireturn, 1) := by decide +kernel
set_option maxRecDepth 20000 in
theorem ggL_mesh_X10_mesh : GoodIn wsL_mesh wsX10_mesh := goodIn_ca (goodIn_ca (goodIn_ca (goodIn_ca (goodIn_ca (goodIn_ca (goodIn_r _ [9, 10, 11, 12, 13, 14, 15, 16, 17, 18, 19, 20, 21, 22, 23, 24, 25, 26, 27, 28, 29, 30, 31, 32, 33, 34, 35, 36, 37, 38, 39, 40, 41, 42, 43, 44, 45, 46, 47, 48, 49, 50, 51, 52, 53, 54, 55, 56, 57, 58, 59, 60, 61, 62, 63, 64, 65, 66, 67, 68, 69, 70, 71, 72, 73, 74, 75, 76, 77, 78, 79, 80, 81, 82, 83, 84, 85, 86, 87, 88, 89, 90, 91, 92, 93, 94, 95, 96, 97, 98, 99, 100, 101, 8, 102, 103, 104, 105, 106, 107, 108, 109, 110, 111, 112, 113, 114, 115, 116, 117, 118, 119, 120, 121, 122, 123, 124, 125, 126, 127, 128, 129, 130, 131, 132, 133, 134, 135, 136, 137, 138, 139, 140, 141, 142, 143, 144, 145, 146, 147, 148, 149, 150, 151, 152, 153, 154, 155, 156, 157, 158, 159, 160, 161, 162, 163] (by decide +kernel) (by decide +kernel)) (goodIn_sub (fun _ h => List.mem_cons_of_mem _ (List.mem_append_left _ (List.mem_append_left _ (List.mem_append_left _ (List.mem_append_left _ (List.mem_append_left _ (List.mem_append_right _ h))))))) (by decide +kernel))) (goodIn_sub (fun _ h => List.mem_cons_of_mem _ (List.mem_append_left _ (List.mem_append_left _ (List.mem_append_left _ (List.mem_append_left _ (List.mem_append_right _ h)))))) (by decide +kernel))) (goodIn_sub (fun _ h => List.mem_cons_of_mem _ (List.mem_append_left _ (List.mem_append_left _ (List.mem_append_left _ (List.mem_append_right _ h))))) (by decide +kernel))) (goodIn_sub (fun _ h => List.mem_cons_of_mem _ (List.mem_append_left _ (List.mem_append_left _ (List.mem_append_right _ h)))) (by decide +kernel))) (goodIn_sub (fun _ h => List.mem_cons_of_mem _ (List.mem_append_left _ (List.mem_append_right _ h))) (by decide +kernel))) (goodIn_sub (fun _ h => List.mem_cons_of_mem _ (List.mem_append_right _ h)) (by decide +kernel))
set_option maxRecDepth 20000 in
theorem gL_mesh_X10_mesh : GoodIn wsL_mesh (wsV RL 17 RX10 yX10_mesh wsX10_mesh) := goodIn_app (goodIn_of _ (by decide +kernel)) ggL_mesh_X10_mesh
theorem dL_mesh_0 : decode cL_mesh 0 = .ok (.aload_n 3, 1) := by decide +kernel
theorem dL_mesh_1 : decode cL_mesh 1 = .ok (.iconst 0, 1) := by decide +kernel
theorem dL_mesh_2 : decode cL_mesh 2 = .ok (.aload_n 0, 1) := by decide +kernel
theorem dL_mesh_3 : decode cL_mesh 3 = .ok (.iload_n 1, 1) := by decide +kernel
theorem dL_mesh_4 : decode cL_mesh 4 = .ok (.iload_n 2, 1) := by decide +kernel
theorem dL_mesh_5 : decode cL_mesh 5 = .ok (.invokevirtual 17, 3) := by decide +kernel
theorem dL_mesh_8 : decode cL_mesh 8 = .ok (.i2l, 1) := by decide +kernel
theorem dL_mesh_9 : decode cL_mesh 9 = .ok (.lastore, 1) := by decide +kernel
theorem dL_mesh_10 : decode cL_mesh 10 = .ok (.goto 19, 3) := by decide +kernel
theorem dL_mesh_13 : decode cL_mesh 13 = .ok (.astore 4, 2) := by decide +kernel
theorem dL_mesh_15 : decode cL_mesh 15 = .ok (.iconst 1, 1) := by decide +kernel
theorem dL_mesh_16 : decode cL_mesh 16 = .ok (.ireturn, 1) := by decide +kernel
theorem dL_mesh_17 : decode cL_mesh 17 = .ok (.astore 4, 2) := by decide +kernel
theorem dL_mesh_19 : decode cL_mesh 19 = .ok (.iconst 2, 1) := by decide +kernel
theorem dL_mesh_20 : decode cL_mesh 20 = .ok (.ireturn, 1) := by decide +kernel
theorem dL_mesh_21 : decode cL_mesh 21 = .ok (.astore 4, 2) := by decide +kernel
theorem dL_mesh_23 : decode cL_mesh 23 = .ok (.iconst 3, 1) := by decide +kernel
theorem dL_mesh_24 : decode cL_mesh 24 = .ok (.ireturn, 1) := by decide +kernel
theorem dL_mesh_25 : decode cL_mesh 25 = .ok (.astore 4, 2) := by decide +kernel
theorem dL_mesh_27 : decode cL_mesh 27 = .ok (.iconst 4, 1) := by decide +kernel
theorem dL_mesh_28 : decode cL_mesh 28 = .ok (.ireturn, 1) := by decide +kernel
theorem dL_mesh_29 : decode cL_mesh 29 = .ok (.iconst 0, 1) := by decide +kernel
theorem dL_mesh_30 : decode cL_mesh 30 = .ok (.ireturn, 1) := by decide +kernel
set_option maxRecDepth 20000 in
theorem ggL_shareAxle_X10_shareAxle : GoodIn wsL_shareAxle wsX10_shareAxle := goodIn_ca (goodIn_ca (goodIn_ca (goodIn_ca (goodIn_ca (goodIn_ca (goodIn_r _ [9, 10, 11, 12, 13, 14, 15, 16, 17, 18, 19, 20, 21, 22, 23, 24, 25, 26, 27, 28, 29, 30, 31, 32, 33, 34, 35, 36, 37, 38, 39, 40, 41, 42, 43, 44, 45, 46, 47, 48, 49, 50, 51, 52, 53, 54, 55, 56, 57, 58, 59, 60, 61, 62, 63, 64, 65, 66, 67, 68, 69, 70, 71, 72, 73, 74, 75, 76, 77, 78, 79, 80, 81, 82, 83, 84, 85, 86, 87, 88, 89, 90, 91, 92, 93, 94, 95, 96, 97, 98, 99, 100, 101, 8, 102, 103, 104, 105, 106, 107, 108, 109, 110, 111, 112, 113, 114, 115, 116, 117, 118, 119, 120, 121, 122, 123, 124, 125, 126, 127, 128, 129, 130, 131, 132, 133, 134, 135, 136, 137, 138, 139, 140, 141, 142, 143, 144, 145, 146, 147, 148, 149, 150, 151, 152, 153, 154, 155, 156, 157, 158, 159, 160, 161, 162, 163] (by decide +kernel) (by decide +kernel)) (goodIn_sub (fun _ h => List.mem_cons_of_mem _ (List.mem_append_left _ (List.mem_append_left _ (List.mem_append_left _ (List.mem_append_left _ (List.mem_append_left _ (List.mem_append_right _ h))))))) (by decide +kernel))) (goodIn_sub (fun _ h => List.mem_cons_of_mem _ (List.mem_append_left _ (List.mem_append_left _ (List.mem_append_left _ (List.mem_append_left _ (List.mem_append_right _ h)))))) (by decide +kernel))) (goodIn_sub (fun _ h => List.mem_cons_of_mem _ (List.mem_append_left _ (List.mem_append_left _ (List.mem_append_left _ (List.mem_append_right _ h))))) (by decide +kernel))) (goodIn_sub (fun _ h => List.mem_cons_of_mem _ (List.mem_append_left _ (List.mem_append_left _ (List.mem_append_right _ h)))) (by decide +kernel))) (goodIn_sub (fun _ h => List.mem_cons_of_mem _ (List.mem_append_left _ (List.mem_append_right _ h))) (by decide +kernel))) (goodIn_sub (fun _ h => List.mem_cons_of_mem _ (List.mem_append_right _ h)) (by decide +kernel))
set_option maxRecDepth 20000 in
theorem gL_shareAxle_X10_shareAxle : GoodIn wsL_shareAxle (wsV RL 25 RX10 yX10_shareAxle wsX10_shareAxle) := goodIn_app (goodIn_of _ (by decide +kernel)) ggL_shareAxle_X10_shareAxle
theorem dL_shareAxle_0 : decode cL_shareAxle 0 = .ok (.aload_n 3, 1) := by decide +kernel
theorem dL_shareAxle_1 : decode cL_shareAxle 1 = .ok (.iconst 0, 1) := by decide +kernel
theorem dL_shareAxle_2 : decode cL_shareAxle 2 = .ok (.aload_n 0, 1) := by decide +kernel
theorem dL_shareAxle_3 : decode cL_shareAxle 3 = .ok (.iload_n 1, 1) := by decide +kernel
theorem dL_shareAxle_4 : decode cL_shareAxle 4 = .ok (.iload_n 2, 1) := by decide +kernel
theorem dL_shareAxle_5 : decode cL_shareAxle 5 = .ok (.invokevirtual 25, 3) := by decide +kernel
theorem dL_shareAxle_8 : decode cL_shareAxle 8 = .ok (.i2l, 1) := by decide +kernel
theorem dL_shareAxle_9 : decode cL_shareAxle 9 = .ok (.lastore, 1) := by decide +kernel
theorem dL_shareAxle_10 : decode cL_shareAxle 10 = .ok (.goto 19, 3) := by decide +kernel
theorem dL_shareAxle_13 : decode cL_shareAxle 13 = .ok (.astore 4, 2) := by decide +kernel
theorem dL_shareAxle_15 : decode cL_shareAxle 15 = .ok (.iconst 1, 1) := by decide +kernel
theorem dL_shareAxle_16 : decode cL_shareAxle 16 = .ok (.ireturn, 1) := by decide +kernel
theorem dL_shareAxle_17 : decode cL_shareAxle 17 = .ok (.astore 4, 2) := by decide +kernel
theorem dL_shareAxle_19 : decode cL_shareAxle 19 = .ok (.iconst 2, 1) := by decide +kernel
theorem dL_shareAxle_20 : decode cL_shareAxle 20 = .ok (.ireturn, 1) := by decide +kernel
theorem dL_shareAxle_21 : decode cL_shareAxle 21 = .ok (.astore 4, 2) := by decide +kernel
theorem dL_shareAxle_23 : decode cL_shareAxle 23 = .ok (.iconst 3, 1) := by decide +kernel
theorem dL_shareAxle_24 : decode cL_shareAxle 24 = .ok (.ireturn, 1) := by decide +kernel
theorem dL_shareAxle_25 : decode cL_shareAxle 25 = .ok (.astore 4, 2) := by decide +kernel
theorem dL_shareAxle_27 : decode cL_shareAxle 27 = .ok (.iconst 4, 1) := by decide +kernel
theorem dL_shareAxle_28 : decode cL_shareAxle 28 = .ok (.ireturn, 1) := by decide +kernel
theorem dL_shareAxle_29 : decode cL_shareAxle 29 = .ok (.iconst 0, 1) := by decide +kernel
theorem dL_shareAxle_30 : decode cL_shareAxle 30 = .ok (.ireturn, 1) := by decide +kernel
set_option maxRecDepth 20000 in
theorem ggL_separate_X10_separate : GoodIn wsL_separate wsX10_separate := goodIn_ca (goodIn_ca (goodIn_ca (goodIn_ca (goodIn_ca (goodIn_ca (goodIn_r _ [7, 8, 9, 10, 11, 12, 13, 14, 15, 16, 17, 18, 19, 20, 21, 22, 23, 24, 25, 26, 27, 28, 29, 30, 31, 32, 33, 34, 35, 36, 37, 38, 39, 40, 41, 42, 43, 44, 45, 46, 47, 48, 49, 50, 51, 52, 53, 54, 6, 55, 56, 57, 58, 59, 60, 61, 62, 63, 64, 65, 66, 67, 68, 69, 70, 71, 72, 73, 74, 75, 76, 77, 78, 79, 80, 81, 82, 83, 84, 85, 86, 87, 88, 89, 90, 91, 92, 93, 94, 95, 96, 97, 98, 99, 100, 101, 102, 103, 104, 105, 106, 107, 108, 109, 110, 111, 112, 113] (by decide +kernel) (by decide +kernel)) (goodIn_sub (fun _ h => List.mem_cons_of_mem _ (List.mem_append_left _ (List.mem_append_left _ (List.mem_append_left _ (List.mem_append_left _ (List.mem_append_left _ (List.mem_append_right _ h))))))) (by decide +kernel))) (goodIn_sub (fun _ h => List.mem_cons_of_mem _ (List.mem_append_left _ (List.mem_append_left _ (List.mem_append_left _ (List.mem_append_left _ (List.mem_append_right _ h)))))) (by decide +kernel))) (goodIn_sub (fun _ h => List.mem_cons_of_mem _ (List.mem_append_left _ (List.mem_append_left _ (List.mem_append_left _ (List.mem_append_right _ h))))) (by decide +kernel))) (goodIn_sub (fun _ h => List.mem_cons_of_mem _ (List.mem_append_left _ (List.mem_append_left _ (List.mem_append_right _ h)))) (by decide +kernel))) (goodIn_sub (fun _ h => List.mem_cons_of_mem _ (List.mem_append_left _ (List.mem_append_right _ h))) (by decide +kernel))) (goodIn_sub (fun _ h => List.mem_cons_of_mem _ (List.mem_append_right _ h)) (by decide +kernel))
set_option maxRecDepth 20000 in
theorem gL_separate_X10_separate : GoodIn wsL_separate (wsV RL 28 RX10 yX10_separate wsX10_separate) := goodIn_app (goodIn_of _ (by decide +kernel)) ggL_separate_X10_separate
theorem dL_separate_0 : decode cL_separate 0 = .ok (.aload_n 3, 1) := by decide +kernel
theorem dL_separate_1 : decode cL_separate 1 = .ok (.iconst 0, 1) := by decide +kernel
theorem dL_separate_2 : decode cL_separate 2 = .ok (.aload_n 0, 1) := by decide +kernel
theorem dL_separate_3 : decode cL_separate 3 = .ok (.iload_n 1, 1) := by decide +kernel
theorem dL_separate_4 : decode cL_separate 4 = .ok (.iload_n 2, 1) := by decide +kernel
theorem dL_separate_5 : decode cL_separate 5 = .ok (.invokevirtual 28, 3) := by decide +kernel
theorem dL_separate_8 : decode cL_separate 8 = .ok (.i2l, 1) := by decide +kernel
theorem dL_separate_9 : decode cL_separate 9 = .ok (.lastore, 1) := by decide +kernel
theorem dL_separate_10 : decode cL_separate 10 = .ok (.goto 11, 3) := by decide +kernel
theorem dL_separate_13 : decode cL_separate 13 = .ok (.astore 4, 2) := by decide +kernel
theorem dL_separate_15 : decode cL_separate 15 = .ok (.iconst 1, 1) := by decide +kernel
theorem dL_separate_16 : decode cL_separate 16 = .ok (.ireturn, 1) := by decide +kernel
theorem dL_separate_17 : decode cL_separate 17 = .ok (.astore 4, 2) := by decide +kernel
theorem dL_separate_19 : decode cL_separate 19 = .ok (.iconst 2, 1) := by decide +kernel
theorem dL_separate_20 : decode cL_separate 20 = .ok (.ireturn, 1) := by decide +kernel
theorem dL_separate_21 : decode cL_separate 21 = .ok (.iconst 0, 1) := by decide +kernel
theorem dL_separate_22 : decode cL_separate 22 = .ok (.ireturn, 1) := by decide +kernel
set_option maxRecDepth 20000 in
theorem ggL_setSpring_X10_setSpring : GoodIn wsL_setSpring wsX10_setSpring := goodIn_ca (goodIn_ca (goodIn_ca (goodIn_ca (goodIn_ca (goodIn_ca (goodIn_r _ [8, 9, 10, 11, 12, 13, 14, 15, 16, 17, 18, 19, 20, 21, 22, 23, 24, 25, 26, 27, 28, 29, 30, 31, 32, 33, 34, 35, 36, 37, 38, 39, 40, 41, 42, 43, 44, 45, 46, 47, 48, 49, 50, 51, 52, 53, 54, 55, 56, 57, 58, 59, 60, 61, 62, 63, 64, 65, 66, 67, 68, 69, 70, 71, 72, 73, 74, 75, 76, 77, 78, 79, 80, 81, 82, 83, 84, 85, 86, 87, 88, 89, 90, 91, 92, 93, 94, 95, 7, 96, 97, 98, 99, 100, 101, 102, 103, 104, 105, 106, 107, 108, 109, 110, 111, 112, 113, 114, 115, 116, 117, 118, 119, 120, 121, 122, 123, 124, 125, 126, 127, 128, 129, 130, 131, 132, 133, 134, 135, 136, 137, 138, 139, 140, 141, 142, 143, 144, 145, 146, 147, 148, 149, 150, 151, 152, 153, 154, 155, 156, 157] (by decide +kernel) (by decide +kernel)) (goodIn_sub (fun _ h => List.mem_cons_of_mem _ (List.mem_append_left _ (List.mem_append_left _ (List.mem_append_left _ (List.mem_append_left _ (List.mem_append_left _ (List.mem_append_right _ h))))))) (by decide +kernel))) (goodIn_sub (fun _ h => List.mem_cons_of_mem _ (List.mem_append_left _ (List.mem_append_left _ (List.mem_append_left _ (List.mem_append_left _ (List.mem_append_right _ h)))))) (by decide +kernel))) (goodIn_sub (fun _ h => List.mem_cons_of_mem _ (List.mem_append_left _ (List.mem_append_left _ (List.mem_append_left _ (List.mem_append_right _ h))))) (by decide +kernel))) (goodIn_sub (fun _ h => List.mem_cons_of_mem _ (List.mem_append_left _ (List.mem_append_left _ (List.mem_append_right _ h)))) (by decide +kernel))) (goodIn_sub (fun _ h => List.mem_cons_of_mem _ (List.mem_append_left _ (List.mem_append_right _ h))) (by decide +kernel))) (goodIn_sub (fun _ h => List.mem_cons_of_mem _ (List.mem_append_right _ h)) (by decide +kernel))
set_option maxRecDepth 20000 in
theorem gL_setSpring_X10_setSpring : GoodIn wsL_setSpring (wsV RL 33 RX10 yX10_setSpring wsX10_setSpring) := goodIn_app (goodIn_of _ (by decide +kernel)) ggL_setSpring_X10_setSpring
theorem dL_setSpring_0 : decode cL_setSpring 0 = .ok (.aload_n 3, 1) := by decide +kernel
theorem dL_setSpring_1 : decode cL_setSpring 1 = .ok (.iconst 0, 1) := by decide +kernel
theorem dL_setSpring_2 : decode cL_setSpring 2 = .ok (.aload_n 0, 1) := by decide +kernel
theorem dL_setSpring_3 : decode cL_setSpring 3 = .ok (.iload_n 1, 1) := by decide +kernel
theorem dL_setSpring_4 : decode cL_setSpring 4 = .ok (.iload_n 2, 1) := by decide +kernel
theorem dL_setSpring_5 : decode cL_setSpring 5 = .ok (.invokevirtual 33, 3) := by decide +kernel
theorem dL_setSpring_8 : decode cL_setSpring 8 = .ok (.i2l, 1) := by decide +kernel
theorem dL_setSpring_9 : decode cL_setSpring 9 = .ok (.lastore, 1) := by decide +kernel
theorem dL_setSpring_10 : decode cL_setSpring 10 = .ok (.goto 15, 3) := by decide +kernel
theorem dL_setSpring_13 : decode cL_setSpring 13 = .ok (.astore 4, 2) := by decide +kernel
theorem dL_setSpring_15 : decode cL_setSpring 15 = .ok (.iconst 1, 1) := by decide +kernel
theorem dL_setSpring_16 : decode cL_setSpring 16 = .ok (.ireturn, 1) := by decide +kernel
theorem dL_setSpring_17 : decode cL_setSpring 17 = .ok (.astore 4, 2) := by decide +kernel
theorem dL_setSpring_19 : decode cL_setSpring 19 = .ok (.iconst 2, 1) := by decide +kernel
theorem dL_setSpring_20 : decode cL_setSpring 20 = .ok (.ireturn, 1) := by decide +kernel
theorem dL_setSpring_21 : decode cL_setSpring 21 = .ok (.astore 4, 2) := by decide +kernel
theorem dL_setSpring_23 : decode cL_setSpring 23 = .ok (.iconst 3, 1) := by decide +kernel
theorem dL_setSpring_24 : decode cL_setSpring 24 = .ok (.ireturn, 1) := by decide +kernel
theorem dL_setSpring_25 : decode cL_setSpring 25 = .ok (.iconst 0, 1) := by decide +kernel
theorem dL_setSpring_26 : decode cL_setSpring 26 = .ok (.ireturn, 1) := by decide +kernel
set_option maxRecDepth 20000 in
theorem ggL_wind_X10_wind : GoodIn wsL_wind wsX10_wind := goodIn_ca (goodIn_ca (goodIn_ca (goodIn_ca (goodIn_ca (goodIn_ca (goodIn_r _ [9, 10, 11, 12, 13, 14, 15, 16, 17, 18, 19, 20, 21, 22, 23, 24, 25, 26, 27, 28, 29, 30, 31, 32, 33, 34, 35, 36, 37, 38, 39, 40, 41, 42, 43, 44, 45, 46, 47, 48, 49, 50, 51, 52, 53, 54, 8, 55, 56, 57, 58, 59, 60, 61, 62, 63, 64, 65, 66, 67, 68, 69, 70, 71, 72, 73, 74, 75, 76, 77, 78, 79, 80, 81, 82, 83, 84, 85, 86, 87, 88, 89, 90, 91, 92, 93, 94, 95, 96, 97, 98, 99, 100, 101, 102, 103, 104, 105, 106, 107, 108, 109, 110, 111, 112, 113] (by decide +kernel) (by decide +kernel)) (goodIn_sub (fun _ h => List.mem_cons_of_mem _ (List.mem_append_left _ (List.mem_append_left _ (List.mem_append_left _ (List.mem_append_left _ (List.mem_append_left _ (List.mem_append_right _ h))))))) (by decide +kernel))) (goodIn_sub (fun _ h => List.mem_cons_of_mem _ (List.mem_append_left _ (List.mem_append_left _ (List.mem_append_left _ (List.mem_append_left _ (List.mem_append_right _ h)))))) (by decide +kernel))) (goodIn_sub (fun _ h => List.mem_cons_of_mem _ (List.mem_append_left _ (List.mem_append_left _ (List.mem_append_left _ (List.mem_append_right _ h))))) (by decide +kernel))) (goodIn_sub (fun _ h => List.mem_cons_of_mem _ (List.mem_append_left _ (List.mem_append_left _ (List.mem_append_right _ h)))) (by decide +kernel))) (goodIn_sub (fun _ h => List.mem_cons_of_mem _ (List.mem_append_left _ (List.mem_append_right _ h))) (by decide +kernel))) (goodIn_sub (fun _ h => List.mem_cons_of_mem _ (List.mem_append_right _ h)) (by decide +kernel))
set_option maxRecDepth 20000 in
theorem gL_wind_X10_wind : GoodIn wsL_wind (wsV RL 36 RX10 yX10_wind wsX10_wind) := goodIn_app (goodIn_of _ (by decide +kernel)) ggL_wind_X10_wind
theorem dL_wind_0 : decode cL_wind 0 = .ok (.aload_n 3, 1) := by decide +kernel
theorem dL_wind_1 : decode cL_wind 1 = .ok (.iconst 0, 1) := by decide +kernel
theorem dL_wind_2 : decode cL_wind 2 = .ok (.aload_n 0, 1) := by decide +kernel
theorem dL_wind_3 : decode cL_wind 3 = .ok (.iload_n 1, 1) := by decide +kernel
theorem dL_wind_4 : decode cL_wind 4 = .ok (.iload_n 2, 1) := by decide +kernel
theorem dL_wind_5 : decode cL_wind 5 = .ok (.invokevirtual 36, 3) := by decide +kernel
theorem dL_wind_8 : decode cL_wind 8 = .ok (.i2l, 1) := by decide +kernel
theorem dL_wind_9 : decode cL_wind 9 = .ok (.lastore, 1) := by decide +kernel
theorem dL_wind_10 : decode cL_wind 10 = .ok (.goto 19, 3) := by decide +kernel
theorem dL_wind_13 : decode cL_wind 13 = .ok (.astore 4, 2) := by decide +kernel
theorem dL_wind_15 : decode cL_wind 15 = .ok (.iconst 1, 1) := by decide +kernel
theorem dL_wind_16 : decode cL_wind 16 = .ok (.ireturn, 1) := by decide +kernel
theorem dL_wind_17 : decode cL_wind 17 = .ok (.astore 4, 2) := by decide +kernel
theorem dL_wind_19 : decode cL_wind 19 = .ok (.iconst 2, 1) := by decide +kernel
theorem dL_wind_20 : decode cL_wind 20 = .ok (.ireturn, 1) := by decide +kernel
theorem dL_wind_21 : decode cL_wind 21 = .ok (.astore 4, 2) := by decide +kernel
theorem dL_wind_23 : decode cL_wind 23 = .ok (.iconst 3, 1) := by decide +kernel
theorem dL_wind_24 : decode cL_wind 24 = .ok (.ireturn, 1) := by decide +kernel
theorem dL_wind_25 : decode cL_wind 25 = .ok (.astore 4, 2) := by decide +kernel
theorem dL_wind_27 : decode cL_wind 27 = .ok (.iconst 4, 1) := by decide +kernel
theorem dL_wind_28 : decode cL_wind 28 = .ok (.ireturn, 1) := by decide +kernel
theorem dL_wind_29 : decode cL_wind 29 = .ok (.iconst 0, 1) := by decide +kernel
theorem dL_wind_30 : decode cL_wind 30 = .ok (.ireturn, 1) := by decide +kernel
set_option maxRecDepth 20000 in
theorem ggL_reverse_X10_reverse : GoodIn wsL_reverse wsX10_reverse := goodIn_ca (goodIn_ca (goodIn_ca (goodIn_ca (goodIn_ca (goodIn_ca (goodIn_r _ [7, 8, 9, 10, 11, 12, 13, 14, 15, 16, 17, 18, 19, 20, 21, 22, 23, 24, 25, 26, 27, 28, 29, 30, 31, 32, 33, 34, 35, 36, 37, 38, 39, 40, 41, 42, 43, 44, 45, 46, 47, 48, 49, 50, 6, 51, 52, 53, 54, 55, 56, 57, 58, 59, 60, 61, 62, 63, 64, 65, 66, 67, 68, 69, 70, 71, 72, 73, 74, 75, 76, 77, 78, 79, 80, 81, 82, 83, 84, 85, 86, 87, 88, 89, 90, 91, 92, 93, 94, 95, 96, 97, 98, 99, 100, 101, 102, 103, 104, 105, 106, 107, 108, 109] (by decide +kernel) (by decide +kernel)) (goodIn_sub (fun _ h => List.mem_cons_of_mem _ (List.mem_append_left _ (List.mem_append_left _ (List.mem_append_left _ (List.mem_append_left _ (List.mem_append_left _ (List.mem_append_right _ h))))))) (by decide +kernel))) (goodIn_sub (fun _ h => List.mem_cons_of_mem _ (List.mem_append_left _ (List.mem_append_left _ (List.mem_append_left _ (List.mem_append_left _ (List.mem_append_right _ h)))))) (by decide +kernel))) (goodIn_sub (fun _ h => List.mem_cons_of_mem _ (List.mem_append_left _ (List.mem_append_left _ (List.mem_append_left _ (List.mem_append_right _ h))))) (by decide +kernel))) (goodIn_sub (fun _ h => List.mem_cons_of_mem _ (List.mem_append_left _ (List.mem_append_left _ (List.mem_append_right _ h)))) (by decide +kernel))) (goodIn_sub (fun _ h => List.mem_cons_of_mem _ (List.mem_append_left _ (List.mem_append_right _ h))) (by decide +kernel))) (goodIn_sub (fun _ h => List.mem_cons_of_mem _ (List.mem_append_right _ h)) (by decide +kernel))
set_option maxRecDepth 20000 in
theorem gL_reverse_X10_reverse : GoodIn wsL_reverse (wsV RL 39 RX10 yX10_reverse wsX10_reverse) := goodIn_app (goodIn_of _ (by decide +kernel)) ggL_reverse_X10_reverse
theorem dL_reverse_0 : decode cL_reverse 0 = .ok (.aload_n 2, 1) := by decide +kernel
theorem dL_reverse_1 : decode cL_reverse 1 = .ok (.iconst 0, 1) := by decide +kernel
theorem dL_reverse_2 : decode cL_reverse 2 = .ok (.aload_n 0, 1) := by decide +kernel
theorem dL_reverse_3 : decode cL_reverse 3 = .ok (.iload_n 1, 1) := by decide +kernel
theorem dL_reverse_4 : decode cL_reverse 4 = .ok (.invokevirtual 39, 3) := by decide +kernel
theorem dL_reverse_7 : decode cL_reverse 7 = .ok (.ifCond .eq 7, 3) := by decide +kernel
theorem dL_reverse_10 : decode cL_reverse 10 = .ok (.lconst 1, 1) := by decide +kernel
theorem dL_reverse_11 : decode cL_reverse 11 = .ok (.goto 4, 3) := by decide +kernel
theorem dL_reverse_14 : decode cL_reverse 14 = .ok (.lconst 0, 1) := by decide +kernel
theorem dL_reverse_15 : decode cL_reverse 15 = .ok (.lastore, 1) := by decide +kernel
theorem dL_reverse_16 : decode cL_reverse 16 = .ok (.goto 9, 3) := by decide +kernel
theorem dL_reverse_19 : decode cL_reverse 19 = .ok (.astore_n 3, 1) := by decide +kernel
theorem dL_reverse_20 : decode cL_reverse 20 = .ok (.iconst 1, 1) := by decide +kernel
theorem dL_reverse_21 : decode cL_reverse 21 = .ok (.ireturn, 1) := by decide +kernel
theorem dL_reverse_22 : decode cL_reverse 22 = .ok (.astore_n 3, 1) := by decide +kernel
theorem dL_reverse_23 : decode cL_reverse 23 = .ok (.iconst 2, 1) := by decide +kernel
theorem dL_reverse_24 : decode cL_reverse 24 = .ok (.ireturn, 1) := by decide +kernel
theorem dL_reverse_25 : decode cL_reverse 25 = .ok (.iconst 0, 1) := by decide +kernel
theorem dL_reverse_26 : decode cL_reverse 26 = .ok (.ireturn, 1) := by decide +kernel
set_option maxRecDepth 20000 in
theorem ggL_release_X10_release : GoodIn wsL_release wsX10_release := goodIn_ca (goodIn_ca (goodIn_ca (goodIn_ca (goodIn_ca (goodIn_ca (goodIn_r _ [9, 10, 11, 12, 13, 14, 15, 16, 17, 18, 19, 20, 21, 22, 23, 24, 25, 26, 27, 28, 29, 30, 31, 32, 33, 34, 35, 36, 37, 38, 39, 40, 41, 42, 43, 44, 45, 46, 47, 48, 49, 50, 51, 52, 53, 54, 55, 56, 57, 58, 59, 60, 61, 62, 63, 64, 65, 66, 67, 68, 69, 70, 71, 72, 73, 74, 75, 76, 77, 78, 79, 80, 81, 82, 83, 84, 85, 86, 87, 88, 89, 90, 91, 92, 93, 94, 95, 96, 97, 98, 99, 100, 101, 102, 103, 104, 105, 106, 107, 108, 109, 110, 111, 112, 113, 114, 115, 116, 117, 118, 119, 120, 121, 122, 123, 124, 125, 126, 127, 128, 129, 130, 8, 131, 132, 133, 134, 135, 136, 137, 138, 139, 140, 141, 142, 143, 144, 145, 146, 147, 148, 149, 150, 151, 152, 153, 154, 155, 156, 157, 158, 159, 160, 161, 162, 163, 164, 165, 166, 167, 168, 169, 170, 171, 172, 173, 174, 175, 176, 177, 178, 179, 180, 181, 182, 183, 184, 185, 186, 187, 188, 189, 190, 191, 192] (by decide +kernel) (by decide +kernel)) (goodIn_sub (fun _ h => List.mem_cons_of_mem _ (List.mem_append_left _ (List.mem_append_left _ (List.mem_append_left _ (List.mem_append_left _ (List.mem_append_left _ (List.mem_append_right _ h))))))) (by decide +kernel))) (goodIn_sub (fun _ h => List.mem_cons_of_mem _ (List.mem_append_left _ (List.mem_append_left _ (List.mem_append_left _ (List.mem_append_left _ (List.mem_append_right _ h)))))) (by decide +kernel))) (goodIn_sub (fun _ h => List.mem_cons_of_mem _ (List.mem_append_left _ (List.mem_append_left _ (List.mem_append_left _ (List.mem_append_right _ h))))) (by decide +kernel))) (goodIn_sub (fun _ h => List.mem_cons_of_mem _ (List.mem_append_left _ (List.mem_append_left _ (List.mem_append_right _ h)))) (by decide +kernel))) (goodIn_sub (fun _ h => List.mem_cons_of_mem _ (List.mem_append_left _ (List.mem_append_right _ h))) (by decide +kernel))) (goodIn_sub (fun _ h => List.mem_cons_of_mem _ (List.mem_append_right _ h)) (by decide +kernel))
set_option maxRecDepth 20000 in
theorem gL_release_X10_release : GoodIn wsL_release (wsV RL 43 RX10 yX10_release wsX10_release) := goodIn_app (goodIn_of _ (by decide +kernel)) ggL_release_X10_release
theorem dL_release_0 : decode cL_release 0 = .ok (.aload_n 3, 1) := by decide +kernel
theorem dL_release_1 : decode cL_release 1 = .ok (.iconst 0, 1) := by decide +kernel
theorem dL_release_2 : decode cL_release 2 = .ok (.aload_n 0, 1) := by decide +kernel
theorem dL_release_3 : decode cL_release 3 = .ok (.iload_n 1, 1) := by decide +kernel
theorem dL_release_4 : decode cL_release 4 = .ok (.iload_n 2, 1) := by decide +kernel
theorem dL_release_5 : decode cL_release 5 = .ok (.invokevirtual 43, 3) := by decide +kernel
theorem dL_release_8 : decode cL_release 8 = .ok (.i2l, 1) := by decide +kernel
theorem dL_release_9 : decode cL_release 9 = .ok (.lastore, 1) := by decide +kernel
theorem dL_release_10 : decode cL_release 10 = .ok (.goto 19, 3) := by decide +kernel
theorem dL_release_13 : decode cL_release 13 = .ok (.astore 4, 2) := by decide +kernel
theorem dL_release_15 : decode cL_release 15 = .ok (.iconst 1, 1) := by decide +kernel
theorem dL_release_16 : decode cL_release 16 = .ok (.ireturn, 1) := by decide +kernel
theorem dL_release_17 : decode cL_release 17 = .ok (.astore 4, 2) := by decide +kernel
theorem dL_release_19 : decode cL_release 19 = .ok (.iconst 2, 1) := by decide +kernel
theorem dL_release_20 : decode cL_release 20 = .ok (.ireturn, 1) := by decide +kernel
theorem dL_release_21 : decode cL_release 21 = .ok (.astore 4, 2) := by decide +kernel
theorem dL_release_23 : decode cL_release 23 = .ok (.iconst 3, 1) := by decide +kernel
theorem dL_release_24 : decode cL_release 24 = .ok (.ireturn, 1) := by decide +kernel
theorem dL_release_25 : decode cL_release 25 = .ok (.astore 4, 2) := by decide +kernel
theorem dL_release_27 : decode cL_release 27 = .ok (.iconst 4, 1) := by decide +kernel
theorem dL_release_28 : decode cL_release 28 = .ok (.ireturn, 1) := by decide +kernel
theorem dL_release_29 : decode cL_release 29 = .ok (.iconst 0, 1) := by decide +kernel
theorem dL_release_30 : decode cL_release 30 = .ok (.ireturn, 1) := by decide +kernel
set_option maxRecDepth 20000 in
theorem ggL_setRatchet_X10_setRatchet : GoodIn wsL_setRatchet wsX10_setRatchet := goodIn_ca (goodIn_ca (goodIn_ca (goodIn_ca (goodIn_ca (goodIn_ca (goodIn_r _ [6, 7, 8, 9, 10, 11, 12, 13, 14, 15, 16, 17, 18, 19, 20, 21, 22, 23, 24, 25, 26, 27, 28, 29, 30, 31, 32, 33, 34, 35, 36, 37, 38, 39, 40, 41, 42, 43, 44, 45, 5, 46, 47, 48, 49, 50, 51, 52, 53, 54, 55, 56, 57, 58, 59, 60, 61, 62, 63, 64, 65, 66, 67, 68, 69, 70, 71, 72, 73, 74, 75, 76, 77, 78, 79, 80, 81, 82, 83, 84, 85, 86, 87, 88, 89, 90, 91, 92, 93, 94, 95, 96, 97, 98, 99, 100, 101, 102, 103, 104] (by decide +kernel) (by decide +kernel)) (goodIn_sub (fun _ h => List.mem_cons_of_mem _ (List.mem_append_left _ (List.mem_append_left _ (List.mem_append_left _ (List.mem_append_left _ (List.mem_append_left _ (List.mem_append_right _ h))))))) (by decide +kernel))) (goodIn_sub (fun _ h => List.mem_cons_of_mem _ (List.mem_append_left _ (List.mem_append_left _ (List.mem_append_left _ (List.mem_append_left _ (List.mem_append_right _ h)))))) (by decide +kernel))) (goodIn_sub (fun _ h => List.mem_cons_of_mem _ (List.mem_append_left _ (List.mem_append_left _ (List.mem_append_left _ (List.mem_append_right _ h))))) (by decide +kernel))) (goodIn_sub (fun _ h => List.mem_cons_of_mem _ (List.mem_append_left _ (List.mem_append_left _ (List.mem_append_right _ h)))) (by decide +kernel))) (goodIn_sub (fun _ h => List.mem_cons_of_mem _ (List.mem_append_left _ (List.mem_append_right _ h))) (by decide +kernel))) (goodIn_sub (fun _ h => List.mem_cons_of_mem _ (List.mem_append_right _ h)) (by decide +kernel))
set_option maxRecDepth 20000 in
theorem gL_setRatchet_X10_setRatchet : GoodIn wsL_setRatchet (wsV RL 46 RX10 yX10_setRatchet wsX10_setRatchet) := goodIn_app (goodIn_of _ (by decide +kernel)) ggL_setRatchet_X10_setRatchet
theorem dL_setRatchet_0 : decode cL_setRatchet 0 = .ok (.aload_n 3, 1) := by decide +kernel
theorem dL_setRatchet_1 : decode cL_setRatchet 1 = .ok (.iconst 0, 1) := by decide +kernel
theorem dL_setRatchet_2 : decode cL_setRatchet 2 = .ok (.aload_n 0, 1) := by decide +kernel
theorem dL_setRatchet_3 : decode cL_setRatchet 3 = .ok (.iload_n 1, 1) := by decide +kernel
theorem dL_setRatchet_4 : decode cL_setRatchet 4 = .ok (.iload_n 2, 1) := by decide +kernel
theorem dL_setRatchet_5 : decode cL_setRatchet 5 = .ok (.invokevirtual 46, 3) := by decide +kernel
theorem dL_setRatchet_8 : decode cL_setRatchet 8 = .ok (.ifCond .eq 7, 3) := by decide +kernel
theorem dL_setRatchet_11 : decode cL_setRatchet 11 = .ok (.lconst 1, 1) := by decide +kernel
theorem dL_setRatchet_12 : decode cL_setRatchet 12 = .ok (.goto 4, 3) := by decide +kernel
theorem dL_setRatchet_15 : decode cL_setRatchet 15 = .ok (.lconst 0, 1) := by decide +kernel
theorem dL_setRatchet_16 : decode cL_setRatchet 16 = .ok (.lastore, 1) := by decide +kernel
theorem dL_setRatchet_17 : decode cL_setRatchet 17 = .ok (.goto 7, 3) := by decide +kernel
theorem dL_setRatchet_20 : decode cL_setRatchet 20 = .ok (.astore 4, 2) := by decide +kernel
theorem dL_setRatchet_22 : decode cL_setRatchet 22 = .ok (.iconst 1, 1) := by decide +kernel
theorem dL_setRatchet_23 : decode cL_setRatchet 23 = .ok (.ireturn, 1) := by decide +kernel
theorem dL_setRatchet_24 : decode cL_setRatchet 24 = .ok (.iconst 0, 1) := by decide +kernel
theorem dL_setRatchet_25 : decode cL_setRatchet 25 = .ok (.ireturn, 1) := by decide +kernel
set_option maxRecDepth 20000 in
theorem ggL_oil_X10_oil : GoodIn wsL_oil wsX10_oil := goodIn_ca (goodIn_ca (goodIn_ca (goodIn_ca (goodIn_ca (goodIn_ca (goodIn_r _ [8, 9, 10, 11, 12, 13, 14, 15, 16, 17, 18, 19, 20, 21, 22, 23, 24, 25, 26, 27, 28, 29, 30, 31, 32, 33, 34, 35, 36, 37, 38, 39, 40, 41, 42, 43, 44, 45, 46, 47, 48, 49, 7, 50, 51, 52, 53, 54, 55, 56, 57, 58, 59, 60, 61, 62, 63, 64, 65, 66, 67, 68, 69, 70, 71, 72, 73, 74, 75, 76, 77, 78, 79, 80, 81, 82, 83, 84, 85, 86, 87, 88, 89, 90, 91, 92, 93, 94, 95, 96, 97, 98, 99, 100, 101, 102, 103, 104, 105, 106, 107, 108] (by decide +kernel) (by decide +kernel)) (goodIn_sub (fun _ h => List.mem_cons_of_mem _ (List.mem_append_left _ (List.mem_append_left _ (List.mem_append_left _ (List.mem_append_left _ (List.mem_append_left _ (List.mem_append_right _ h))))))) (by decide +kernel))) (goodIn_sub (fun _ h => List.mem_cons_of_mem _ (List.mem_append_left _ (List.mem_append_left _ (List.mem_append_left _ (List.mem_append_left _ (List.mem_append_right _ h)))))) (by decide +kernel))) (goodIn_sub (fun _ h => List.mem_cons_of_mem _ (List.mem_append_left _ (List.mem_append_left _ (List.mem_append_left _ (List.mem_append_right _ h))))) (by decide +kernel))) (goodIn_sub (fun _ h => List.mem_cons_of_mem _ (List.mem_append_left _ (List.mem_append_left _ (List.mem_append_right _ h)))) (by decide +kernel))) (goodIn_sub (fun _ h => List.mem_cons_of_mem _ (List.mem_append_left _ (List.mem_append_right _ h))) (by decide +kernel))) (goodIn_sub (fun _ h => List.mem_cons_of_mem _ (List.mem_append_right _ h)) (by decide +kernel))
set_option maxRecDepth 20000 in
theorem gL_oil_X10_oil : GoodIn wsL_oil (wsV RL 50 RX10 yX10_oil wsX10_oil) := goodIn_app (goodIn_of _ (by decide +kernel)) ggL_oil_X10_oil
theorem dL_oil_0 : decode cL_oil 0 = .ok (.aload_n 2, 1) := by decide +kernel
theorem dL_oil_1 : decode cL_oil 1 = .ok (.iconst 0, 1) := by decide +kernel
theorem dL_oil_2 : decode cL_oil 2 = .ok (.aload_n 0, 1) := by decide +kernel
theorem dL_oil_3 : decode cL_oil 3 = .ok (.iload_n 1, 1) := by decide +kernel
theorem dL_oil_4 : decode cL_oil 4 = .ok (.invokevirtual 50, 3) := by decide +kernel
theorem dL_oil_7 : decode cL_oil 7 = .ok (.i2l, 1) := by decide +kernel
theorem dL_oil_8 : decode cL_oil 8 = .ok (.lastore, 1) := by decide +kernel
theorem dL_oil_9 : decode cL_oil 9 = .ok (.goto 12, 3) := by decide +kernel
theorem dL_oil_12 : decode cL_oil 12 = .ok (.astore_n 3, 1) := by decide +kernel
theorem dL_oil_13 : decode cL_oil 13 = .ok (.iconst 1, 1) := by decide +kernel
theorem dL_oil_14 : decode cL_oil 14 = .ok (.ireturn, 1) := by decide +kernel
theorem dL_oil_15 : decode cL_oil 15 = .ok (.astore_n 3, 1) := by decide +kernel
theorem dL_oil_16 : decode cL_oil 16 = .ok (.iconst 2, 1) := by decide +kernel
theorem dL_oil_17 : decode cL_oil 17 = .ok (.ireturn, 1) := by decide +kernel
theorem dL_oil_18 : decode cL_oil 18 = .ok (.astore_n 3, 1) := by decide +kernel
theorem dL_oil_19 : decode cL_oil 19 = .ok (.iconst 3, 1) := by decide +kernel
theorem dL_oil_20 : decode cL_oil 20 = .ok (.ireturn, 1) := by decide +kernel
theorem dL_oil_21 : decode cL_oil 21 = .ok (.iconst 0, 1) := by decide +kernel
theorem dL_oil_22 : decode cL_oil 22 = .ok (.ireturn, 1) := by decide +kernel
set_option maxRecDepth 20000 in
theorem ggL_buyOil_X10_buyOil : GoodIn wsL_buyOil wsX10_buyOil := goodIn_ca (goodIn_ca (goodIn_ca (goodIn_ca (goodIn_ca (goodIn_ca (goodIn_r _ [7, 8, 9, 10, 11, 12, 13, 14, 15, 16, 17, 18, 19, 20, 21, 22, 23, 24, 25, 26, 27, 28, 29, 30, 31, 32, 33, 34, 35, 36, 37, 38, 39, 40, 41, 42, 6, 43, 44, 45, 46, 47, 48, 49, 50, 51, 52, 53, 54, 55, 56, 57, 58, 59, 60, 61, 62, 63, 64, 65, 66, 67, 68, 69, 70, 71, 72, 73, 74, 75, 76, 77, 78, 79, 80, 81, 82, 83, 84, 85, 86, 87, 88, 89, 90, 91, 92, 93, 94, 95, 96, 97, 98, 99, 100, 101] (by decide +kernel) (by decide +kernel)) (goodIn_sub (fun _ h => List.mem_cons_of_mem _ (List.mem_append_left _ (List.mem_append_left _ (List.mem_append_left _ (List.mem_append_left _ (List.mem_append_left _ (List.mem_append_right _ h))))))) (by decide +kernel))) (goodIn_sub (fun _ h => List.mem_cons_of_mem _ (List.mem_append_left _ (List.mem_append_left _ (List.mem_append_left _ (List.mem_append_left _ (List.mem_append_right _ h)))))) (by decide +kernel))) (goodIn_sub (fun _ h => List.mem_cons_of_mem _ (List.mem_append_left _ (List.mem_append_left _ (List.mem_append_left _ (List.mem_append_right _ h))))) (by decide +kernel))) (goodIn_sub (fun _ h => List.mem_cons_of_mem _ (List.mem_append_left _ (List.mem_append_left _ (List.mem_append_right _ h)))) (by decide +kernel))) (goodIn_sub (fun _ h => List.mem_cons_of_mem _ (List.mem_append_left _ (List.mem_append_right _ h))) (by decide +kernel))) (goodIn_sub (fun _ h => List.mem_cons_of_mem _ (List.mem_append_right _ h)) (by decide +kernel))
set_option maxRecDepth 20000 in
theorem gL_buyOil_X10_buyOil : GoodIn wsL_buyOil (wsV RL 53 RX10 yX10_buyOil wsX10_buyOil) := goodIn_app (goodIn_of _ (by decide +kernel)) ggL_buyOil_X10_buyOil
theorem dL_buyOil_0 : decode cL_buyOil 0 = .ok (.aload_n 2, 1) := by decide +kernel
theorem dL_buyOil_1 : decode cL_buyOil 1 = .ok (.iconst 0, 1) := by decide +kernel
theorem dL_buyOil_2 : decode cL_buyOil 2 = .ok (.aload_n 0, 1) := by decide +kernel
theorem dL_buyOil_3 : decode cL_buyOil 3 = .ok (.iload_n 1, 1) := by decide +kernel
theorem dL_buyOil_4 : decode cL_buyOil 4 = .ok (.invokevirtual 53, 3) := by decide +kernel
theorem dL_buyOil_7 : decode cL_buyOil 7 = .ok (.i2l, 1) := by decide +kernel
theorem dL_buyOil_8 : decode cL_buyOil 8 = .ok (.lastore, 1) := by decide +kernel
theorem dL_buyOil_9 : decode cL_buyOil 9 = .ok (.goto 9, 3) := by decide +kernel
theorem dL_buyOil_12 : decode cL_buyOil 12 = .ok (.astore_n 3, 1) := by decide +kernel
theorem dL_buyOil_13 : decode cL_buyOil 13 = .ok (.iconst 1, 1) := by decide +kernel
theorem dL_buyOil_14 : decode cL_buyOil 14 = .ok (.ireturn, 1) := by decide +kernel
theorem dL_buyOil_15 : decode cL_buyOil 15 = .ok (.astore_n 3, 1) := by decide +kernel
theorem dL_buyOil_16 : decode cL_buyOil 16 = .ok (.iconst 2, 1) := by decide +kernel
theorem dL_buyOil_17 : decode cL_buyOil 17 = .ok (.ireturn, 1) := by decide +kernel
theorem dL_buyOil_18 : decode cL_buyOil 18 = .ok (.iconst 0, 1) := by decide +kernel
theorem dL_buyOil_19 : decode cL_buyOil 19 = .ok (.ireturn, 1) := by decide +kernel
set_option maxRecDepth 20000 in
theorem ggL_addPlanet_X10_addPlanet : GoodIn wsL_addPlanet wsX10_addPlanet := goodIn_ca (goodIn_ca (goodIn_ca (goodIn_ca (goodIn_ca (goodIn_ca (goodIn_r _ [7, 8, 9, 10, 11, 12, 13, 14, 15, 16, 17, 18, 19, 20, 21, 22, 23, 24, 25, 26, 27, 28, 29, 30, 31, 32, 33, 34, 35, 36, 37, 38, 39, 40, 41, 42, 43, 44, 45, 46, 47, 48, 49, 50, 51, 6, 52, 53, 54, 55, 56, 57, 58, 59, 60, 61, 62, 63, 64, 65, 66, 67, 68, 69, 70, 71, 72, 73, 74, 75, 76, 77, 78, 79, 80, 81, 82, 83, 84, 85, 86, 87, 88, 89, 90, 91, 92, 93, 94, 95, 96, 97, 98, 99, 100, 101, 102, 103, 104, 105, 106, 107, 108, 109, 110] (by decide +kernel) (by decide +kernel)) (goodIn_sub (fun _ h => List.mem_cons_of_mem _ (List.mem_append_left _ (List.mem_append_left _ (List.mem_append_left _ (List.mem_append_left _ (List.mem_append_left _ (List.mem_append_right _ h))))))) (by decide +kernel))) (goodIn_sub (fun _ h => List.mem_cons_of_mem _ (List.mem_append_left _ (List.mem_append_left _ (List.mem_append_left _ (List.mem_append_left _ (List.mem_append_right _ h)))))) (by decide +kernel))) (goodIn_sub (fun _ h => List.mem_cons_of_mem _ (List.mem_append_left _ (List.mem_append_left _ (List.mem_append_left _ (List.mem_append_right _ h))))) (by decide +kernel))) (goodIn_sub (fun _ h => List.mem_cons_of_mem _ (List.mem_append_left _ (List.mem_append_left _ (List.mem_append_right _ h)))) (by decide +kernel))) (goodIn_sub (fun _ h => List.mem_cons_of_mem _ (List.mem_append_left _ (List.mem_append_right _ h))) (by decide +kernel))) (goodIn_sub (fun _ h => List.mem_cons_of_mem _ (List.mem_append_right _ h)) (by decide +kernel))
set_option maxRecDepth 20000 in
theorem gL_addPlanet_X10_addPlanet : GoodIn wsL_addPlanet (wsV RL 56 RX10 yX10_addPlanet wsX10_addPlanet) := goodIn_app (goodIn_of _ (by decide +kernel)) ggL_addPlanet_X10_addPlanet
theorem dL_addPlanet_0 : decode cL_addPlanet 0 = .ok (.aload_n 2, 1) := by decide +kernel
theorem dL_addPlanet_1 : decode cL_addPlanet 1 = .ok (.iconst 0, 1) := by decide +kernel
theorem dL_addPlanet_2 : decode cL_addPlanet 2 = .ok (.aload_n 0, 1) := by decide +kernel
theorem dL_addPlanet_3 : decode cL_addPlanet 3 = .ok (.iload_n 1, 1) := by decide +kernel
theorem dL_addPlanet_4 : decode cL_addPlanet 4 = .ok (.invokevirtual 56, 3) := by decide +kernel
theorem dL_addPlanet_7 : decode cL_addPlanet 7 = .ok (.i2l, 1) := by decide +kernel
theorem dL_addPlanet_8 : decode cL_addPlanet 8 = .ok (.lastore, 1) := by decide +kernel
theorem dL_addPlanet_9 : decode cL_addPlanet 9 = .ok (.goto 9, 3) := by decide +kernel
theorem dL_addPlanet_12 : decode cL_addPlanet 12 = .ok (.astore_n 3, 1) := by decide +kernel
theorem dL_addPlanet_13 : decode cL_addPlanet 13 = .ok (.iconst 1, 1) := by decide +kernel
theorem dL_addPlanet_14 : decode cL_addPlanet 14 = .ok (.ireturn, 1) := by decide +kernel
theorem dL_addPlanet_15 : decode cL_addPlanet 15 = .ok (.astore_n 3, 1) := by decide +kernel
theorem dL_addPlanet_16 : decode cL_addPlanet 16 = .ok (.iconst 2, 1) := by decide +kernel
theorem dL_addPlanet_17 : decode cL_addPlanet 17 = .ok (.ireturn, 1) := by decide +kernel
theorem dL_addPlanet_18 : decode cL_addPlanet 18 = .ok (.iconst 0, 1) := by decide +kernel
theorem dL_addPlanet_19 : decode cL_addPlanet 19 = .ok (.ireturn, 1) := by decide +kernel
set_option maxRecDepth 20000 in
theorem ggL_teeth_X10_teeth : GoodIn wsL_teeth wsX10_teeth := goodIn_ca (goodIn_ca (goodIn_r _ [6, 7, 8, 9, 10, 11, 5, 12, 13, 14, 15, 16, 17, 18, 19, 20, 21, 22, 23, 24, 25, 26, 27, 28, 29, 30, 31, 32, 33, 34, 35, 36, 37, 38, 39, 40, 41, 42, 43, 44, 45, 46, 47, 48, 49, 50] (by decide +kernel) (by decide +kernel)) (goodIn_sub (fun _ h => List.mem_cons_of_mem _ (List.mem_append_left _ (List.mem_append_right _ h))) (by decide +kernel))) (goodIn_sub (fun _ h => List.mem_cons_of_mem _ (List.mem_append_right _ h)) (by decide +kernel))
set_option maxRecDepth 20000 in
theorem gL_teeth_X10_teeth : GoodIn wsL_teeth (wsV RL 59 RX10 yX10_teeth wsX10_teeth) := goodIn_app (goodIn_of _ (by decide +kernel)) ggL_teeth_X10_teeth
theorem dL_teeth_0 : decode cL_teeth 0 = .ok (.aload_n 2, 1) := by decide +kernel
theorem dL_teeth_1 : decode cL_teeth 1 = .ok (.iconst 0, 1) := by decide +kernel
theorem dL_teeth_2 : decode cL_teeth 2 = .ok (.aload_n 0, 1) := by decide +kernel
theorem dL_teeth_3 : decode cL_teeth 3 = .ok (.iload_n 1, 1) := by decide +kernel
theorem dL_teeth_4 : decode cL_teeth 4 = .ok (.invokevirtual 59, 3) := by decide +kernel
theorem dL_teeth_7 : decode cL_teeth 7 = .ok (.i2l, 1) := by decide +kernel
theorem dL_teeth_8 : decode cL_teeth 8 = .ok (.lastore, 1) := by decide +kernel
theorem dL_teeth_9 : decode cL_teeth 9 = .ok (.goto 6, 3) := by decide +kernel
theorem dL_teeth_12 : decode cL_teeth 12 = .ok (.astore_n 3, 1) := by decide +kernel
theorem dL_teeth_13 : decode cL_teeth 13 = .ok (.iconst 1, 1) := by decide +kernel
theorem dL_teeth_14 : decode cL_teeth 14 = .ok (.ireturn, 1) := by decide +kernel
theorem dL_teeth_15 : decode cL_teeth 15 = .ok (.iconst 0, 1) := by decide +kernel
theorem dL_teeth_16 : decode cL_teeth 16 = .ok (.ireturn, 1) := by decide +kernel
set_option maxRecDepth 20000 in
theorem ggL_joint_X10_joint : GoodIn wsL_joint wsX10_joint := goodIn_ca (goodIn_ca (goodIn_ca (goodIn_r _ [7, 8, 9, 10, 11, 12, 13, 6, 14, 15, 16, 17, 18, 19, 20, 21, 22, 23, 24, 25, 26, 27, 28, 29, 30, 31, 32, 33, 34, 35, 36, 37, 38, 39, 40, 41, 42, 43, 44, 45, 46, 47, 48, 49, 50, 51, 52, 53, 54, 55, 56, 57] (by decide +kernel) (by decide +kernel)) (goodIn_sub (fun _ h => List.mem_cons_of_mem _ (List.mem_append_left _ (List.mem_append_right _ h))) (by decide +kernel))) (goodIn_sub (fun _ h => List.mem_cons_of_mem _ (List.mem_append_right _ h)) (by decide +kernel))) (goodIn_sub (fun _ h => List.mem_cons_of_mem _ (List.mem_append_left _ (List.mem_append_left _ (List.mem_append_right _ h)))) (by decide +kernel))
set_option maxRecDepth 20000 in
theorem gL_joint_X10_joint : GoodIn wsL_joint (wsV RL 62 RX10 yX10_joint wsX10_joint) := goodIn_app (goodIn_of _ (by decide +kernel)) ggL_joint_X10_joint
theorem dL_joint_0 : decode cL_joint 0 = .ok (.aload_n 3, 1) := by decide +kernel
theorem dL_joint_1 : decode cL_joint 1 = .ok (.iconst 0, 1) := by decide +kernel
theorem dL_joint_2 : decode cL_joint 2 = .ok (.aload_n 0, 1) := by decide +kernel
theorem dL_joint_3 : decode cL_joint 3 = .ok (.iload_n 1, 1) := by decide +kernel
theorem dL_joint_4 : decode cL_joint 4 = .ok (.iload_n 2, 1) := by decide +kernel
theorem dL_joint_5 : decode cL_joint 5 = .ok (.invokevirtual 62, 3) := by decide +kernel
theorem dL_joint_8 : decode cL_joint 8 = .ok (.i2l, 1) := by decide +kernel
theorem dL_joint_9 : decode cL_joint 9 = .ok (.lastore, 1) := by decide +kernel
theorem dL_joint_10 : decode cL_joint 10 = .ok (.goto 11, 3) := by decide +kernel
theorem dL_joint_13 : decode cL_joint 13 = .ok (.astore 4, 2) := by decide +kernel
theorem dL_joint_15 : decode cL_joint 15 = .ok (.iconst 1, 1) := by decide +kernel
theorem dL_joint_16 : decode cL_joint 16 = .ok (.ireturn, 1) := by decide +kernel
theorem dL_joint_17 : decode cL_joint 17 = .ok (.astore 4, 2) := by decide +kernel
theorem dL_joint_19 : decode cL_joint 19 = .ok (.iconst 2, 1) := by decide +kernel
theorem dL_joint_20 : decode cL_joint 20 = .ok (.ireturn, 1) := by decide +kernel
theorem dL_joint_21 : decode cL_joint 21 = .ok (.iconst 0, 1) := by decide +kernel
theorem dL_joint_22 : decode cL_joint 22 = .ok (.ireturn, 1) := by decide +kernel
set_option maxRecDepth 20000 in
theorem ggL_trainSize_X10_trainSize : GoodIn wsL_trainSize wsX10_trainSize := goodIn_ca (goodIn_ca (goodIn_r _ [6, 7, 8, 9, 10, 11, 12, 5, 13, 14, 15, 16, 17, 18, 19, 20, 21, 22, 23, 24, 25, 26, 27, 28, 29, 30, 31, 32, 33, 34, 35, 36, 37, 38, 39, 40, 41, 42, 43, 44, 45, 46, 47, 48, 49, 50, 51, 52, 53, 54, 55, 56, 57, 58, 59, 60, 61, 62, 63, 64, 65, 66, 67, 68, 69, 70, 71, 72, 73, 74, 75, 76, 77, 78, 79, 80, 81, 82, 83, 84, 85, 86] (by decide +kernel) (by decide +kernel)) (goodIn_sub (fun _ h => List.mem_cons_of_mem _ (List.mem_append_right _ h)) (by decide +kernel))) (goodIn_sub (fun _ h => List.mem_cons_of_mem _ (List.mem_append_left _ (List.mem_append_right _ h))) (by decide +kernel))
set_option maxRecDepth 20000 in
theorem gL_trainSize_X10_trainSize : GoodIn wsL_trainSize (wsV RL 66 RX10 yX10_trainSize wsX10_trainSize) := goodIn_app (goodIn_of _ (by decide +kernel)) ggL_trainSize_X10_trainSize
theorem dL_trainSize_0 : decode cL_trainSize 0 = .ok (.aload_n 2, 1) := by decide +kernel
theorem dL_trainSize_1 : decode cL_trainSize 1 = .ok (.iconst 0, 1) := by decide +kernel
theorem dL_trainSize_2 : decode cL_trainSize 2 = .ok (.aload_n 0, 1) := by decide +kernel
theorem dL_trainSize_3 : decode cL_trainSize 3 = .ok (.iload_n 1, 1) := by decide +kernel
theorem dL_trainSize_4 : decode cL_trainSize 4 = .ok (.invokevirtual 66, 3) := by decide +kernel
theorem dL_trainSize_7 : decode cL_trainSize 7 = .ok (.i2l, 1) := by decide +kernel
theorem dL_trainSize_8 : decode cL_trainSize 8 = .ok (.lastore, 1) := by decide +kernel
theorem dL_trainSize_9 : decode cL_trainSize 9 = .ok (.goto 6, 3) := by decide +kernel
theorem dL_trainSize_12 : decode cL_trainSize 12 = .ok (.astore_n 3, 1) := by decide +kernel
theorem dL_trainSize_13 : decode cL_trainSize 13 = .ok (.iconst 1, 1) := by decide +kernel
theorem dL_trainSize_14 : decode cL_trainSize 14 = .ok (.ireturn, 1) := by decide +kernel
theorem dL_trainSize_15 : decode cL_trainSize 15 = .ok (.iconst 0, 1) := by decide +kernel
theorem dL_trainSize_16 : decode cL_trainSize 16 = .ok (.ireturn, 1) := by decide +kernel
set_option maxRecDepth 20000 in
theorem ggL_areInTrain_X10_areInTrain : GoodIn wsL_areInTrain wsX10_areInTrain := goodIn_ca (goodIn_ca (goodIn_r _ [6, 7, 8, 9, 10, 11, 5, 12, 13, 14, 15, 16, 17, 18, 19, 20, 21, 22, 23, 24, 25, 26, 27, 28, 29, 30, 31, 32, 33, 34, 35, 36, 37, 38, 39, 40, 41, 42, 43, 44, 45, 46, 47, 48, 49, 50, 51, 52, 53, 54, 55, 56, 57, 58, 59, 60, 61, 62, 63, 64, 65, 66, 67, 68, 69, 70, 71, 72, 73, 74, 75, 76, 77, 78, 79, 80, 81, 82, 83, 84, 85, 86, 87, 88, 89] (by decide +kernel) (by decide +kernel)) (goodIn_sub (fun _ h => List.mem_cons_of_mem _ (List.mem_append_right _ h)) (by decide +kernel))) (goodIn_sub (fun _ h => List.mem_cons_of_mem _ (List.mem_append_left _ (List.mem_append_right _ h))) (by decide +kernel))
set_option maxRecDepth 20000 in
theorem gL_areInTrain_X10_areInTrain : GoodIn wsL_areInTrain (wsV RL 69 RX10 yX10_areInTrain wsX10_areInTrain) := goodIn_app (goodIn_of _ (by decide +kernel)) ggL_areInTrain_X10_areInTrain
theorem dL_areInTrain_0 : decode cL_areInTrain 0 = .ok (.aload_n 3, 1) := by decide +kernel
theorem dL_areInTrain_1 : decode cL_areInTrain 1 = .ok (.iconst 0, 1) := by decide +kernel
theorem dL_areInTrain_2 : decode cL_areInTrain 2 = .ok (.aload_n 0, 1) := by decide +kernel
theorem dL_areInTrain_3 : decode cL_areInTrain 3 = .ok (.iload_n 1, 1) := by decide +kernel
theorem dL_areInTrain_4 : decode cL_areInTrain 4 = .ok (.iload_n 2, 1) := by decide +kernel
theorem dL_areInTrain_5 : decode cL_areInTrain 5 = .ok (.invokevirtual 69, 3) := by decide +kernel
theorem dL_areInTrain_8 : decode cL_areInTrain 8 = .ok (.ifCond .eq 7, 3) := by decide +kernel
theorem dL_areInTrain_11 : decode cL_areInTrain 11 = .ok (.lconst 1, 1) := by decide +kernel
theorem dL_areInTrain_12 : decode cL_areInTrain 12 = .ok (.goto 4, 3) := by decide +kernel
theorem dL_areInTrain_15 : decode cL_areInTrain 15 = .ok (.lconst 0, 1) := by decide +kernel
theorem dL_areInTrain_16 : decode cL_areInTrain 16 = .ok (.lastore, 1) := by decide +kernel
theorem dL_areInTrain_17 : decode cL_areInTrain 17 = .ok (.goto 7, 3) := by decide +kernel
theorem dL_areInTrain_20 : decode cL_areInTrain 20 = .ok (.astore 4, 2) := by decide +kernel
theorem dL_areInTrain_22 : decode cL_areInTrain 22 = .ok (.iconst 1, 1) := by decide +kernel
theorem dL_areInTrain_23 : decode cL_areInTrain 23 = .ok (.ireturn, 1) := by decide +kernel
theorem dL_areInTrain_24 : decode cL_areInTrain 24 = .ok (.iconst 0, 1) := by decide +kernel
theorem dL_areInTrain_25 : decode cL_areInTrain 25 = .ok (.ireturn, 1) := by decide +kernel
set_option maxRecDepth 20000 in
theorem ggL_unitsPerTurn_X10_unitsPerTurn : GoodIn wsL_unitsPerTurn wsX10_unitsPerTurn := goodIn_ca (goodIn_ca (goodIn_ca (goodIn_r _ [7, 8, 9, 10, 6, 11, 12, 13, 14, 15, 16, 17, 18, 19, 20, 21, 22, 23, 24, 25, 26, 27, 28, 29, 30, 31, 32, 33, 34, 35, 36, 37, 38, 39, 40, 41, 42, 43, 44, 45, 46, 47, 48, 49, 50, 51, 52, 53, 54, 55, 56, 57, 58, 59, 60, 61, 62, 63, 64, 65, 66, 67, 68, 69, 70, 71, 72, 73, 74, 75, 76, 77, 78, 79, 80, 81, 82, 83, 84, 85, 86, 87, 88, 89, 90, 91, 92, 93, 94, 95, 96, 97, 98, 99, 100, 101] (by decide +kernel) (by decide +kernel)) (goodIn_sub (fun _ h => List.mem_cons_of_mem _ (List.mem_append_left _ (List.mem_append_right _ h))) (by decide +kernel))) (goodIn_sub (fun _ h => List.mem_cons_of_mem _ (List.mem_append_right _ h)) (by decide +kernel))) (goodIn_sub (fun _ h => List.mem_cons_of_mem _ (List.mem_append_left _ (List.mem_append_left _ (List.mem_append_right _ h)))) (by decide +kernel))
set_option maxRecDepth 20000 in
theorem gL_unitsPerTurn_X10_unitsPerTurn : GoodIn wsL_unitsPerTurn (wsV RL 73 RX10 yX10_unitsPerTurn wsX10_unitsPerTurn) := goodIn_app (goodIn_of _ (by decide +kernel)) ggL_unitsPerTurn_X10_unitsPerTurn
theorem dL_unitsPerTurn_0 : decode cL_unitsPerTurn 0 = .ok (.aload_n 3, 1) := by decide +kernel
theorem dL_unitsPerTurn_1 : decode cL_unitsPerTurn 1 = .ok (.iconst 0, 1) := by decide +kernel
theorem dL_unitsPerTurn_2 : decode cL_unitsPerTurn 2 = .ok (.aload_n 0, 1) := by decide +kernel
theorem dL_unitsPerTurn_3 : decode cL_unitsPerTurn 3 = .ok (.iload_n 1, 1) := by decide +kernel
theorem dL_unitsPerTurn_4 : decode cL_unitsPerTurn 4 = .ok (.iload_n 2, 1) := by decide +kernel
theorem dL_unitsPerTurn_5 : decode cL_unitsPerTurn 5 = .ok (.invokevirtual 73, 3) := by decide +kernel
theorem dL_unitsPerTurn_8 : decode cL_unitsPerTurn 8 = .ok (.lastore, 1) := by decide +kernel
theorem dL_unitsPerTurn_9 : decode cL_unitsPerTurn 9 = .ok (.goto 11, 3) := by decide +kernel
theorem dL_unitsPerTurn_12 : decode cL_unitsPerTurn 12 = .ok (.astore 4, 2) := by decide +kernel
theorem dL_unitsPerTurn_14 : decode cL_unitsPerTurn 14 = .ok (.iconst 1, 1) := by decide +kernel
theorem dL_unitsPerTurn_15 : decode cL_unitsPerTurn 15 = .ok (.ireturn, 1) := by decide +kernel
theorem dL_unitsPerTurn_16 : decode cL_unitsPerTurn 16 = .ok (.astore 4, 2) := by decide +kernel
theorem dL_unitsPerTurn_18 : decode cL_unitsPerTurn 18 = .ok (.iconst 2, 1) := by decide +kernel
theorem dL_unitsPerTurn_19 : decode cL_unitsPerTurn 19 = .ok (.ireturn, 1) := by decide +kernel
theorem dL_unitsPerTurn_20 : decode cL_unitsPerTurn 20 = .ok (.iconst 0, 1) := by decide +kernel
theorem dL_unitsPerTurn_21 : decode cL_unitsPerTurn 21 = .ok (.ireturn, 1) := by decide +kernel
set_option maxRecDepth 20000 in
theorem ggL_unitsPerTurnByLowest_X10_unitsPerTurnByLowest : GoodIn wsL_unitsPerTurnByLowest wsX10_unitsPerTurnByLowest := goodIn_ca (goodIn_ca (goodIn_ca (goodIn_r _ [7, 8, 9, 10, 6, 11, 12, 13, 14, 15, 16, 17, 18, 19, 20, 21, 22, 23, 24, 25, 26, 27, 28, 29, 30, 31, 32, 33, 34, 35, 36, 37, 38, 39, 40, 41, 42, 43, 44, 45, 46, 47, 48, 49, 50, 51, 52, 53, 54, 55, 56, 57, 58, 59, 60, 61, 62, 63, 64, 65, 66, 67, 68, 69, 70, 71, 72, 73, 74, 75, 76, 77, 78, 79, 80, 81, 82, 83, 84, 85, 86, 87, 88, 89, 90, 91, 92, 93, 94, 95, 96, 97, 98, 99, 100, 101, 102, 103, 104, 105, 106, 107, 108, 109, 110, 111, 112, 113, 114, 115, 116, 117, 118, 119, 120] (by decide +kernel) (by decide +kernel)) (goodIn_sub (fun _ h => List.mem_cons_of_mem _ (List.mem_append_left _ (List.mem_append_right _ h))) (by decide +kernel))) (goodIn_sub (fun _ h => List.mem_cons_of_mem _ (List.mem_append_right _ h)) (by decide +kernel))) (goodIn_sub (fun _ h => List.mem_cons_of_mem _ (List.mem_append_left _ (List.mem_append_left _ (List.mem_append_right _ h)))) (by decide +kernel))
set_option maxRecDepth 20000 in
theorem gL_unitsPerTurnByLowest_X10_unitsPerTurnByLowest : GoodIn wsL_unitsPerTurnByLowest (wsV RL 77 RX10 yX10_unitsPerTurnByLowest wsX10_unitsPerTurnByLowest) := goodIn_app (goodIn_of _ (by decide +kernel)) ggL_unitsPerTurnByLowest_X10_unitsPerTurnByLowest
theorem dL_unitsPerTurnByLowest_0 : decode cL_unitsPerTurnByLowest 0 = .ok (.aload_n 3, 1) := by decide +kernel
theorem dL_unitsPerTurnByLowest_1 : decode cL_unitsPerTurnByLowest 1 = .ok (.iconst 0, 1) := by decide +kernel
theorem dL_unitsPerTurnByLowest_2 : decode cL_unitsPerTurnByLowest 2 = .ok (.aload_n 0, 1) := by decide +kernel
theorem dL_unitsPerTurnByLowest_3 : decode cL_unitsPerTurnByLowest 3 = .ok (.iload_n 1, 1) := by decide +kernel
theorem dL_unitsPerTurnByLowest_4 : decode cL_unitsPerTurnByLowest 4 = .ok (.iload_n 2, 1) := by decide +kernel
theorem dL_unitsPerTurnByLowest_5 : decode cL_unitsPerTurnByLowest 5 = .ok (.invokevirtual 77, 3) := by decide +kernel
theorem dL_unitsPerTurnByLowest_8 : decode cL_unitsPerTurnByLowest 8 = .ok (.lastore, 1) := by decide +kernel
theorem dL_unitsPerTurnByLowest_9 : decode cL_unitsPerTurnByLowest 9 = .ok (.goto 11, 3) := by decide +kernel
theorem dL_unitsPerTurnByLowest_12 : decode cL_unitsPerTurnByLowest 12 = .ok (.astore 4, 2) := by decide +kernel
theorem dL_unitsPerTurnByLowest_14 : decode cL_unitsPerTurnByLowest 14 = .ok (.iconst 1, 1) := by decide +kernel
theorem dL_unitsPerTurnByLowest_15 : decode cL_unitsPerTurnByLowest 15 = .ok (.ireturn, 1) := by decide +kernel
theorem dL_unitsPerTurnByLowest_16 : decode cL_unitsPerTurnByLowest 16 = .ok (.astore 4, 2) := by decide +kernel
theorem dL_unitsPerTurnByLowest_18 : decode cL_unitsPerTurnByLowest 18 = .ok (.iconst 2, 1) := by decide +kernel
theorem dL_unitsPerTurnByLowest_19 : decode cL_unitsPerTurnByLowest 19 = .ok (.ireturn, 1) := by decide +kernel
theorem dL_unitsPerTurnByLowest_20 : decode cL_unitsPerTurnByLowest 20 = .ok (.iconst 0, 1) := by decide +kernel
theorem dL_unitsPerTurnByLowest_21 : decode cL_unitsPerTurnByLowest 21 = .ok (.ireturn, 1) := by decide +kernel
set_option maxRecDepth 20000 in
theorem ggL_angle_X10_angle : GoodIn wsL_angle wsX10_angle := goodIn_ca (goodIn_ca (goodIn_r _ [6, 7, 8, 9, 10, 11, 5, 12, 13, 14, 15, 16, 17, 18, 19, 20, 21, 22, 23, 24, 25, 26, 27, 28, 29, 30, 31, 32, 33, 34, 35, 36, 37, 38, 39, 40, 41, 42, 43, 44, 45, 46, 47, 48, 49, 50] (by decide +kernel) (by decide +kernel)) (goodIn_sub (fun _ h => List.mem_cons_of_mem _ (List.mem_append_left _ (List.mem_append_right _ h))) (by decide +kernel))) (goodIn_sub (fun _ h => List.mem_cons_of_mem _ (List.mem_append_right _ h)) (by decide +kernel))
set_option maxRecDepth 20000 in
theorem gL_angle_X10_angle : GoodIn wsL_angle (wsV RL 80 RX10 yX10_angle wsX10_angle) := goodIn_app (goodIn_of _ (by decide +kernel)) ggL_angle_X10_angle
theorem dL_angle_0 : decode cL_angle 0 = .ok (.aload_n 2, 1) := by decide +kernel
theorem dL_angle_1 : decode cL_angle 1 = .ok (.iconst 0, 1) := by decide +kernel
theorem dL_angle_2 : decode cL_angle 2 = .ok (.aload_n 0, 1) := by decide +kernel
theorem dL_angle_3 : decode cL_angle 3 = .ok (.iload_n 1, 1) := by decide +kernel
theorem dL_angle_4 : decode cL_angle 4 = .ok (.invokevirtual 80, 3) := by decide +kernel
theorem dL_angle_7 : decode cL_angle 7 = .ok (.lastore, 1) := by decide +kernel
theorem dL_angle_8 : decode cL_angle 8 = .ok (.goto 6, 3) := by decide +kernel
theorem dL_angle_11 : decode cL_angle 11 = .ok (.astore_n 3, 1) := by decide +kernel
theorem dL_angle_12 : decode cL_angle 12 = .ok (.iconst 1, 1) := by decide +kernel
theorem dL_angle_13 : decode cL_angle 13 = .ok (.ireturn, 1) := by decide +kernel
theorem dL_angle_14 : decode cL_angle 14 = .ok (.iconst 0, 1) := by decide +kernel
theorem dL_angle_15 : decode cL_angle 15 = .ok (.ireturn, 1) := by decide +kernel
set_option maxRecDepth 20000 in
theorem ggL_anglePart_X10_anglePart : GoodIn wsL_anglePart wsX10_anglePart := goodIn_ca (goodIn_ca (goodIn_r _ [6, 7, 8, 9, 10, 11, 12, 5, 13, 14, 15, 16, 17, 18, 19, 20, 21, 22, 23, 24, 25, 26, 27, 28, 29, 30, 31, 32, 33, 34, 35, 36, 37, 38, 39, 40, 41, 42, 43, 44, 45, 46, 47, 48, 49, 50, 51] (by decide +kernel) (by decide +kernel)) (goodIn_sub (fun _ h => List.mem_cons_of_mem _ (List.mem_append_left _ (List.mem_append_right _ h))) (by decide +kernel))) (goodIn_sub (fun _ h => List.mem_cons_of_mem _ (List.mem_append_right _ h)) (by decide +kernel))
set_option maxRecDepth 20000 in
theorem gL_anglePart_X10_anglePart : GoodIn wsL_anglePart (wsV RL 84 RX10 yX10_anglePart wsX10_anglePart) := goodIn_app (goodIn_of _ (by decide +kernel)) ggL_anglePart_X10_anglePart
theorem dL_anglePart_0 : decode cL_anglePart 0 = .ok (.aload_n 2, 1) := by decide +kernel
theorem dL_anglePart_1 : decode cL_anglePart 1 = .ok (.iconst 0, 1) := by decide +kernel
theorem dL_anglePart_2 : decode cL_anglePart 2 = .ok (.aload_n 0, 1) := by decide +kernel
theorem dL_anglePart_3 : decode cL_anglePart 3 = .ok (.iload_n 1, 1) := by decide +kernel
theorem dL_anglePart_4 : decode cL_anglePart 4 = .ok (.invokevirtual 84, 3) := by decide +kernel
theorem dL_anglePart_7 : decode cL_anglePart 7 = .ok (.dastore, 1) := by decide +kernel
theorem dL_anglePart_8 : decode cL_anglePart 8 = .ok (.goto 6, 3) := by decide +kernel
theorem dL_anglePart_11 : decode cL_anglePart 11 = .ok (.astore_n 3, 1) := by decide +kernel
theorem dL_anglePart_12 : decode cL_anglePart 12 = .ok (.iconst 1, 1) := by decide +kernel
theorem dL_anglePart_13 : decode cL_anglePart 13 = .ok (.ireturn, 1) := by decide +kernel
theorem dL_anglePart_14 : decode cL_anglePart 14 = .ok (.iconst 0, 1) := by decide +kernel
theorem dL_anglePart_15 : decode cL_anglePart 15 = .ok (.ireturn, 1) := by decide +kernel
set_option maxRecDepth 20000 in
theorem ggL_tension_X10_tension : GoodIn wsL_tension wsX10_tension := goodIn_ca (goodIn_ca (goodIn_ca (goodIn_r _ [7, 8, 9, 10, 11, 12, 6, 13, 14, 15, 16, 17, 18, 19, 20, 21, 22, 23, 24, 25, 26, 27, 28, 29, 30, 31, 32, 33, 34, 35, 36, 37, 38, 39, 40, 41, 42, 43, 44, 45, 46, 47, 48, 49, 50, 51, 52, 53, 54, 55, 56, 57, 58, 59, 60, 61, 62] (by decide +kernel) (by decide +kernel)) (goodIn_sub (fun _ h => List.mem_cons_of_mem _ (List.mem_append_left _ (List.mem_append_left _ (List.mem_append_right _ h)))) (by decide +kernel))) (goodIn_sub (fun _ h => List.mem_cons_of_mem _ (List.mem_append_left _ (List.mem_append_right _ h))) (by decide +kernel))) (goodIn_sub (fun _ h => List.mem_cons_of_mem _ (List.mem_append_right _ h)) (by decide +kernel))
set_option maxRecDepth 20000 in
theorem gL_tension_X10_tension : GoodIn wsL_tension (wsV RL 88 RX10 yX10_tension wsX10_tension) := goodIn_app (goodIn_of _ (by decide +kernel)) ggL_tension_X10_tension
theorem dL_tension_0 : decode cL_tension 0 = .ok (.aload_n 2, 1) := by decide +kernel
theorem dL_tension_1 : decode cL_tension 1 = .ok (.iconst 0, 1) := by decide +kernel
theorem dL_tension_2 : decode cL_tension 2 = .ok (.aload_n 0, 1) := by decide +kernel
theorem dL_tension_3 : decode cL_tension 3 = .ok (.iload_n 1, 1) := by decide +kernel
theorem dL_tension_4 : decode cL_tension 4 = .ok (.invokevirtual 88, 3) := by decide +kernel
theorem dL_tension_7 : decode cL_tension 7 = .ok (.i2l, 1) := by decide +kernel
theorem dL_tension_8 : decode cL_tension 8 = .ok (.lastore, 1) := by decide +kernel
theorem dL_tension_9 : decode cL_tension 9 = .ok (.goto 9, 3) := by decide +kernel
theorem dL_tension_12 : decode cL_tension 12 = .ok (.astore_n 3, 1) := by decide +kernel
theorem dL_tension_13 : decode cL_tension 13 = .ok (.iconst 1, 1) := by decide +kernel
theorem dL_tension_14 : decode cL_tension 14 = .ok (.ireturn, 1) := by decide +kernel
theorem dL_tension_15 : decode cL_tension 15 = .ok (.astore_n 3, 1) := by decide +kernel
theorem dL_tension_16 : decode cL_tension 16 = .ok (.iconst 2, 1) := by decide +kernel
theorem dL_tension_17 : decode cL_tension 17 = .ok (.ireturn, 1) := by decide +kernel
theorem dL_tension_18 : decode cL_tension 18 = .ok (.iconst 0, 1) := by decide +kernel
theorem dL_tension_19 : decode cL_tension 19 = .ok (.ireturn, 1) := by decide +kernel
set_option maxRecDepth 20000 in
theorem ggL_springSize_X10_springSize : GoodIn wsL_springSize wsX10_springSize := goodIn_ca (goodIn_ca (goodIn_ca (goodIn_r _ [7, 8, 9, 10, 11, 12, 6, 13, 14, 15, 16, 17, 18, 19, 20, 21, 22, 23, 24, 25, 26, 27, 28, 29, 30, 31, 32, 33, 34, 35, 36, 37, 38, 39, 40, 41, 42, 43, 44, 45, 46, 47, 48, 49, 50, 51, 52, 53, 54, 55, 56, 57, 58, 59, 60, 61, 62] (by decide +kernel) (by decide +kernel)) (goodIn_sub (fun _ h => List.mem_cons_of_mem _ (List.mem_append_left _ (List.mem_append_left _ (List.mem_append_right _ h)))) (by decide +kernel))) (goodIn_sub (fun _ h => List.mem_cons_of_mem _ (List.mem_append_left _ (List.mem_append_right _ h))) (by decide +kernel))) (goodIn_sub (fun _ h => List.mem_cons_of_mem _ (List.mem_append_right _ h)) (by decide +kernel))
set_option maxRecDepth 20000 in
theorem gL_springSize_X10_springSize : GoodIn wsL_springSize (wsV RL 91 RX10 yX10_springSize wsX10_springSize) := goodIn_app (goodIn_of _ (by decide +kernel)) ggL_springSize_X10_springSize
theorem dL_springSize_0 : decode cL_springSize 0 = .ok (.aload_n 2, 1) := by decide +kernel
theorem dL_springSize_1 : decode cL_springSize 1 = .ok (.iconst 0, 1) := by decide +kernel
theorem dL_springSize_2 : decode cL_springSize 2 = .ok (.aload_n 0, 1) := by decide +kernel
theorem dL_springSize_3 : decode cL_springSize 3 = .ok (.iload_n 1, 1) := by decide +kernel
theorem dL_springSize_4 : decode cL_springSize 4 = .ok (.invokevirtual 91, 3) := by decide +kernel
theorem dL_springSize_7 : decode cL_springSize 7 = .ok (.i2l, 1) := by decide +kernel
theorem dL_springSize_8 : decode cL_springSize 8 = .ok (.lastore, 1) := by decide +kernel
theorem dL_springSize_9 : decode cL_springSize 9 = .ok (.goto 9, 3) := by decide +kernel
theorem dL_springSize_12 : decode cL_springSize 12 = .ok (.astore_n 3, 1) := by decide +kernel
theorem dL_springSize_13 : decode cL_springSize 13 = .ok (.iconst 1, 1) := by decide +kernel
theorem dL_springSize_14 : decode cL_springSize 14 = .ok (.ireturn, 1) := by decide +kernel
theorem dL_springSize_15 : decode cL_springSize 15 = .ok (.astore_n 3, 1) := by decide +kernel
theorem dL_springSize_16 : decode cL_springSize 16 = .ok (.iconst 2, 1) := by decide +kernel
theorem dL_springSize_17 : decode cL_springSize 17 = .ok (.ireturn, 1) := by decide +kernel
theorem dL_springSize_18 : decode cL_springSize 18 = .ok (.iconst 0, 1) := by decide +kernel
theorem dL_springSize_19 : decode cL_springSize 19 = .ok (.ireturn, 1) := by decide +kernel
set_option maxRecDepth 20000 in
theorem ggL_springOf_X10_springOf : GoodIn wsL_springOf wsX10_springOf := goodIn_ca (goodIn_ca (goodIn_ca (goodIn_r _ [7, 8, 9, 10, 11, 12, 13, 14, 6, 15, 16, 17, 18, 19, 20, 21, 22, 23, 24, 25, 26, 27, 28, 29, 30, 31, 32, 33, 34, 35, 36, 37, 38, 39, 40, 41, 42, 43, 44, 45, 46, 47, 48, 49, 50, 51, 52, 53, 54, 55, 56, 57, 58, 59, 60, 61, 62, 63, 64, 65, 66, 67, 68, 69, 70, 71, 72, 73, 74, 75, 76, 77, 78, 79, 80, 81, 82, 83, 84, 85, 86, 87, 88, 89, 90, 91, 92, 93, 94, 95, 96, 97, 98, 99, 100, 101] (by decide +kernel) (by decide +kernel)) (goodIn_sub (fun _ h => List.mem_cons_of_mem _ (List.mem_append_left _ (List.mem_append_right _ h))) (by decide +kernel))) (goodIn_sub (fun _ h => List.mem_cons_of_mem _ (List.mem_append_right _ h)) (by decide +kernel))) (goodIn_sub (fun _ h => List.mem_cons_of_mem _ (List.mem_append_left _ (List.mem_append_left _ (List.mem_append_right _ h)))) (by decide +kernel))
set_option maxRecDepth 20000 in
theorem gL_springOf_X10_springOf : GoodIn wsL_springOf (wsV RL 94 RX10 yX10_springOf wsX10_springOf) := goodIn_app (goodIn_of _ (by decide +kernel)) ggL_springOf_X10_springOf
theorem dL_springOf_0 : decode cL_springOf 0 = .ok (.aload_n 2, 1) := by decide +kernel
theorem dL_springOf_1 : decode cL_springOf 1 = .ok (.iconst 0, 1) := by decide +kernel
theorem dL_springOf_2 : decode cL_springOf 2 = .ok (.aload_n 0, 1) := by decide +kernel
theorem dL_springOf_3 : decode cL_springOf 3 = .ok (.iload_n 1, 1) := by decide +kernel
theorem dL_springOf_4 : decode cL_springOf 4 = .ok (.invokevirtual 94, 3) := by decide +kernel
theorem dL_springOf_7 : decode cL_springOf 7 = .ok (.i2l, 1) := by decide +kernel
theorem dL_springOf_8 : decode cL_springOf 8 = .ok (.lastore, 1) := by decide +kernel
theorem dL_springOf_9 : decode cL_springOf 9 = .ok (.goto 9, 3) := by decide +kernel
theorem dL_springOf_12 : decode cL_springOf 12 = .ok (.astore_n 3, 1) := by decide +kernel
theorem dL_springOf_13 : decode cL_springOf 13 = .ok (.iconst 1, 1) := by decide +kernel
theorem dL_springOf_14 : decode cL_springOf 14 = .ok (.ireturn, 1) := by decide +kernel
theorem dL_springOf_15 : decode cL_springOf 15 = .ok (.astore_n 3, 1) := by decide +kernel
theorem dL_springOf_16 : decode cL_springOf 16 = .ok (.iconst 2, 1) := by decide +kernel
theorem dL_springOf_17 : decode cL_springOf 17 = .ok (.ireturn, 1) := by decide +kernel
theorem dL_springOf_18 : decode cL_springOf 18 = .ok (.iconst 0, 1) := by decide +kernel
theorem dL_springOf_19 : decode cL_springOf 19 = .ok (.ireturn, 1) := by decide +kernel
set_option maxRecDepth 20000 in
theorem ggL_friction_X10_friction : GoodIn wsL_friction wsX10_friction := goodIn_ca (goodIn_ca (goodIn_r _ [6, 7, 8, 9, 10, 11, 5, 12, 13, 14, 15, 16, 17, 18, 19, 20, 21, 22, 23, 24, 25, 26, 27, 28, 29, 30, 31, 32, 33, 34, 35, 36, 37, 38, 39, 40, 41, 42, 43, 44, 45, 46, 47, 48, 49, 50, 51, 52, 53, 54, 55, 56, 57, 58, 59, 60, 61, 62, 63, 64, 65, 66, 67, 68, 69, 70, 71, 72, 73, 74, 75, 76, 77, 78, 79, 80, 81, 82, 83, 84, 85, 86, 87, 88, 89, 90, 91, 92, 93, 94] (by decide +kernel) (by decide +kernel)) (goodIn_sub (fun _ h => List.mem_cons_of_mem _ (List.mem_append_right _ h)) (by decide +kernel))) (goodIn_sub (fun _ h => List.mem_cons_of_mem _ (List.mem_append_left _ (List.mem_append_right _ h))) (by decide +kernel))
set_option maxRecDepth 20000 in
theorem gL_friction_X10_friction : GoodIn wsL_friction (wsV RL 97 RX10 yX10_friction wsX10_friction) := goodIn_app (goodIn_of _ (by decide +kernel)) ggL_friction_X10_friction
theorem dL_friction_0 : decode cL_friction 0 = .ok (.aload_n 2, 1) := by decide +kernel
theorem dL_friction_1 : decode cL_friction 1 = .ok (.iconst 0, 1) := by decide +kernel
theorem dL_friction_2 : decode cL_friction 2 = .ok (.aload_n 0, 1) := by decide +kernel
theorem dL_friction_3 : decode cL_friction 3 = .ok (.iload_n 1, 1) := by decide +kernel
theorem dL_friction_4 : decode cL_friction 4 = .ok (.invokevirtual 97, 3) := by decide +kernel
theorem dL_friction_7 : decode cL_friction 7 = .ok (.i2l, 1) := by decide +kernel
theorem dL_friction_8 : decode cL_friction 8 = .ok (.lastore, 1) := by decide +kernel
theorem dL_friction_9 : decode cL_friction 9 = .ok (.goto 6, 3) := by decide +kernel
theorem dL_friction_12 : decode cL_friction 12 = .ok (.astore_n 3, 1) := by decide +kernel
theorem dL_friction_13 : decode cL_friction 13 = .ok (.iconst 1, 1) := by decide +kernel
theorem dL_friction_14 : decode cL_friction 14 = .ok (.ireturn, 1) := by decide +kernel
theorem dL_friction_15 : decode cL_friction 15 = .ok (.iconst 0, 1) := by decide +kernel
theorem dL_friction_16 : decode cL_friction 16 = .ok (.ireturn, 1) := by decide +kernel
set_option maxRecDepth 20000 in
theorem ggL_turnsLeft_X10_turnsLeft : GoodIn wsL_turnsLeft wsX10_turnsLeft := goodIn_ca (goodIn_ca (goodIn_ca (goodIn_r _ [7, 8, 9, 10, 11, 12, 13, 6, 14, 15, 16, 17, 18, 19, 20, 21, 22, 23, 24, 25, 26, 27, 28, 29, 30, 31, 32, 33, 34, 35, 36, 37, 38, 39, 40, 41, 42, 43, 44, 45, 46, 47, 48, 49, 50, 51, 52, 53, 54, 55, 56, 57, 58, 59, 60, 61, 62, 63, 64, 65, 66, 67, 68, 69, 70, 71, 72, 73, 74, 75, 76, 77, 78, 79, 80, 81, 82, 83, 84, 85, 86, 87, 88, 89, 90, 91, 92, 93, 94, 95, 96, 97, 98, 99, 100, 101, 102, 103, 104, 105, 106, 107, 108] (by decide +kernel) (by decide +kernel)) (goodIn_sub (fun _ h => List.mem_cons_of_mem _ (List.mem_append_left _ (List.mem_append_left _ (List.mem_append_right _ h)))) (by decide +kernel))) (goodIn_sub (fun _ h => List.mem_cons_of_mem _ (List.mem_append_left _ (List.mem_append_right _ h))) (by decide +kernel))) (goodIn_sub (fun _ h => List.mem_cons_of_mem _ (List.mem_append_right _ h)) (by decide +kernel))
set_option maxRecDepth 20000 in
theorem gL_turnsLeft_X10_turnsLeft : GoodIn wsL_turnsLeft (wsV RL 100 RX10 yX10_turnsLeft wsX10_turnsLeft) := goodIn_app (goodIn_of _ (by decide +kernel)) ggL_turnsLeft_X10_turnsLeft
theorem dL_turnsLeft_0 : decode cL_turnsLeft 0 = .ok (.aload_n 2, 1) := by decide +kernel
theorem dL_turnsLeft_1 : decode cL_turnsLeft 1 = .ok (.iconst 0, 1) := by decide +kernel
theorem dL_turnsLeft_2 : decode cL_turnsLeft 2 = .ok (.aload_n 0, 1) := by decide +kernel
theorem dL_turnsLeft_3 : decode cL_turnsLeft 3 = .ok (.iload_n 1, 1) := by decide +kernel
theorem dL_turnsLeft_4 : decode cL_turnsLeft 4 = .ok (.invokevirtual 100, 3) := by decide +kernel
theorem dL_turnsLeft_7 : decode cL_turnsLeft 7 = .ok (.i2l, 1) := by decide +kernel
theorem dL_turnsLeft_8 : decode cL_turnsLeft 8 = .ok (.lastore, 1) := by decide +kernel
theorem dL_turnsLeft_9 : decode cL_turnsLeft 9 = .ok (.goto 9, 3) := by decide +kernel
theorem dL_turnsLeft_12 : decode cL_turnsLeft 12 = .ok (.astore_n 3, 1) := by decide +kernel
theorem dL_turnsLeft_13 : decode cL_turnsLeft 13 = .ok (.iconst 1, 1) := by decide +kernel
theorem dL_turnsLeft_14 : decode cL_turnsLeft 14 = .ok (.ireturn, 1) := by decide +kernel
theorem dL_turnsLeft_15 : decode cL_turnsLeft 15 = .ok (.astore_n 3, 1) := by decide +kernel
theorem dL_turnsLeft_16 : decode cL_turnsLeft 16 = .ok (.iconst 2, 1) := by decide +kernel
theorem dL_turnsLeft_17 : decode cL_turnsLeft 17 = .ok (.ireturn, 1) := by decide +kernel
theorem dL_turnsLeft_18 : decode cL_turnsLeft 18 = .ok (.iconst 0, 1) := by decide +kernel
theorem dL_turnsLeft_19 : decode cL_turnsLeft 19 = .ok (.ireturn, 1) := by decide +kernel
set_option maxRecDepth 20000 in
theorem ggL_canRelease_X10_canRelease : GoodIn wsL_canRelease wsX10_canRelease := goodIn_ca (goodIn_ca (goodIn_r _ [6, 7, 8, 9, 10, 11, 5, 12, 13, 14, 15, 16, 17, 18, 19, 20, 21, 22, 23, 24, 25, 26, 27, 28, 29, 30, 31, 32, 33, 34, 35, 36, 37, 38, 39, 40, 41, 42, 43, 44, 45, 46, 47, 48, 49, 50, 51, 52, 53, 54, 55, 56, 57, 58, 59, 60, 61, 62, 63, 64, 65, 66, 67, 68, 69, 70, 71, 72, 73, 74, 75, 76, 77, 78, 79, 80, 81, 82, 83, 84, 85, 86, 87, 88, 89, 90, 91, 92, 93, 94, 95, 96] (by decide +kernel) (by decide +kernel)) (goodIn_sub (fun _ h => List.mem_cons_of_mem _ (List.mem_append_right _ h)) (by decide +kernel))) (goodIn_sub (fun _ h => List.mem_cons_of_mem _ (List.mem_append_left _ (List.mem_append_right _ h))) (by decide +kernel))
set_option maxRecDepth 20000 in
theorem gL_canRelease_X10_canRelease : GoodIn wsL_canRelease (wsV RL 103 RX10 yX10_canRelease wsX10_canRelease) := goodIn_app (goodIn_of _ (by decide +kernel)) ggL_canRelease_X10_canRelease
theorem dL_canRelease_0 : decode cL_canRelease 0 = .ok (.aload_n 2, 1) := by decide +kernel
theorem dL_canRelease_1 : decode cL_canRelease 1 = .ok (.iconst 0, 1) := by decide +kernel
theorem dL_canRelease_2 : decode cL_canRelease 2 = .ok (.aload_n 0, 1) := by decide +kernel
theorem dL_canRelease_3 : decode cL_canRelease 3 = .ok (.iload_n 1, 1) := by decide +kernel
theorem dL_canRelease_4 : decode cL_canRelease 4 = .ok (.invokevirtual 103, 3) := by decide +kernel
theorem dL_canRelease_7 : decode cL_canRelease 7 = .ok (.ifCond .eq 7, 3) := by decide +kernel
theorem dL_canRelease_10 : decode cL_canRelease 10 = .ok (.lconst 1, 1) := by decide +kernel
theorem dL_canRelease_11 : decode cL_canRelease 11 = .ok (.goto 4, 3) := by decide +kernel
theorem dL_canRelease_14 : decode cL_canRelease 14 = .ok (.lconst 0, 1) := by decide +kernel
theorem dL_canRelease_15 : decode cL_canRelease 15 = .ok (.lastore, 1) := by decide +kernel
theorem dL_canRelease_16 : decode cL_canRelease 16 = .ok (.goto 6, 3) := by decide +kernel
theorem dL_canRelease_19 : decode cL_canRelease 19 = .ok (.astore_n 3, 1) := by decide +kernel
theorem dL_canRelease_20 : decode cL_canRelease 20 = .ok (.iconst 1, 1) := by decide +kernel
theorem dL_canRelease_21 : decode cL_canRelease 21 = .ok (.ireturn, 1) := by decide +kernel
theorem dL_canRelease_22 : decode cL_canRelease 22 = .ok (.iconst 0, 1) := by decide +kernel
theorem dL_canRelease_23 : decode cL_canRelease 23 = .ok (.ireturn, 1) := by decide +kernel
set_option maxRecDepth 20000 in
theorem ggL_hasRatchet_X10_hasRatchet : GoodIn wsL_hasRatchet wsX10_hasRatchet := goodIn_ca (goodIn_ca (goodIn_r _ [6, 7, 8, 9, 10, 11, 5, 12, 13, 14, 15, 16, 17, 18, 19, 20, 21, 22, 23, 24, 25, 26, 27, 28, 29, 30, 31, 32, 33, 34, 35, 36, 37, 38, 39, 40, 41, 42, 43, 44, 45, 46, 47, 48, 49, 50] (by decide +kernel) (by decide +kernel)) (goodIn_sub (fun _ h => List.mem_cons_of_mem _ (List.mem_append_left _ (List.mem_append_right _ h))) (by decide +kernel))) (goodIn_sub (fun _ h => List.mem_cons_of_mem _ (List.mem_append_right _ h)) (by decide +kernel))
set_option maxRecDepth 20000 in
theorem gL_hasRatchet_X10_hasRatchet : GoodIn wsL_hasRatchet (wsV RL 106 RX10 yX10_hasRatchet wsX10_hasRatchet) := goodIn_app (goodIn_of _ (by decide +kernel)) ggL_hasRatchet_X10_hasRatchet
theorem dL_hasRatchet_0 : decode cL_hasRatchet 0 = .ok (.aload_n 2, 1) := by decide +kernel
theorem dL_hasRatchet_1 : decode cL_hasRatchet 1 = .ok (.iconst 0, 1) := by decide +kernel
theorem dL_hasRatchet_2 : decode cL_hasRatchet 2 = .ok (.aload_n 0, 1) := by decide +kernel
theorem dL_hasRatchet_3 : decode cL_hasRatchet 3 = .ok (.iload_n 1, 1) := by decide +kernel
theorem dL_hasRatchet_4 : decode cL_hasRatchet 4 = .ok (.invokevirtual 106, 3) := by decide +kernel
theorem dL_hasRatchet_7 : decode cL_hasRatchet 7 = .ok (.ifCond .eq 7, 3) := by decide +kernel
theorem dL_hasRatchet_10 : decode cL_hasRatchet 10 = .ok (.lconst 1, 1) := by decide +kernel
theorem dL_hasRatchet_11 : decode cL_hasRatchet 11 = .ok (.goto 4, 3) := by decide +kernel
theorem dL_hasRatchet_14 : decode cL_hasRatchet 14 = .ok (.lconst 0, 1) := by decide +kernel
theorem dL_hasRatchet_15 : decode cL_hasRatchet 15 = .ok (.lastore, 1) := by decide +kernel
theorem dL_hasRatchet_16 : decode cL_hasRatchet 16 = .ok (.goto 6, 3) := by decide +kernel
theorem dL_hasRatchet_19 : decode cL_hasRatchet 19 = .ok (.astore_n 3, 1) := by decide +kernel
theorem dL_hasRatchet_20 : decode cL_hasRatchet 20 = .ok (.iconst 1, 1) := by decide +kernel
theorem dL_hasRatchet_21 : decode cL_hasRatchet 21 = .ok (.ireturn, 1) := by decide +kernel
theorem dL_hasRatchet_22 : decode cL_hasRatchet 22 = .ok (.iconst 0, 1) := by decide +kernel
theorem dL_hasRatchet_23 : decode cL_hasRatchet 23 = .ok (.ireturn, 1) := by decide +kernel
set_option maxRecDepth 20000 in
theorem ggL_isDry_X10_isDry : GoodIn wsL_isDry wsX10_isDry := goodIn_ca (goodIn_ca (goodIn_r _ [6, 7, 8, 9, 10, 11, 5, 12, 13, 14, 15, 16, 17, 18, 19, 20, 21, 22, 23, 24, 25, 26, 27, 28, 29, 30, 31, 32, 33, 34, 35, 36, 37, 38, 39, 40, 41, 42, 43, 44, 45, 46, 47, 48, 49, 50] (by decide +kernel) (by decide +kernel)) (goodIn_sub (fun _ h => List.mem_cons_of_mem _ (List.mem_append_left _ (List.mem_append_right _ h))) (by decide +kernel))) (goodIn_sub (fun _ h => List.mem_cons_of_mem _ (List.mem_append_right _ h)) (by decide +kernel))
set_option maxRecDepth 20000 in
theorem gL_isDry_X10_isDry : GoodIn wsL_isDry (wsV RL 109 RX10 yX10_isDry wsX10_isDry) := goodIn_app (goodIn_of _ (by decide +kernel)) ggL_isDry_X10_isDry
theorem dL_isDry_0 : decode cL_isDry 0 = .ok (.aload_n 2, 1) := by decide +kernel
theorem dL_isDry_1 : decode cL_isDry 1 = .ok (.iconst 0, 1) := by decide +kernel
theorem dL_isDry_2 : decode cL_isDry 2 = .ok (.aload_n 0, 1) := by decide +kernel
theorem dL_isDry_3 : decode cL_isDry 3 = .ok (.iload_n 1, 1) := by decide +kernel
theorem dL_isDry_4 : decode cL_isDry 4 = .ok (.invokevirtual 109, 3) := by decide +kernel
theorem dL_isDry_7 : decode cL_isDry 7 = .ok (.ifCond .eq 7, 3) := by decide +kernel
theorem dL_isDry_10 : decode cL_isDry 10 = .ok (.lconst 1, 1) := by decide +kernel
theorem dL_isDry_11 : decode cL_isDry 11 = .ok (.goto 4, 3) := by decide +kernel
theorem dL_isDry_14 : decode cL_isDry 14 = .ok (.lconst 0, 1) := by decide +kernel
theorem dL_isDry_15 : decode cL_isDry 15 = .ok (.lastore, 1) := by decide +kernel
theorem dL_isDry_16 : decode cL_isDry 16 = .ok (.goto 6, 3) := by decide +kernel
theorem dL_isDry_19 : decode cL_isDry 19 = .ok (.astore_n 3, 1) := by decide +kernel
theorem dL_isDry_20 : decode cL_isDry 20 = .ok (.iconst 1, 1) := by decide +kernel
theorem dL_isDry_21 : decode cL_isDry 21 = .ok (.ireturn, 1) := by decide +kernel
theorem dL_isDry_22 : decode cL_isDry 22 = .ok (.iconst 0, 1) := by decide +kernel
theorem dL_isDry_23 : decode cL_isDry 23 = .ok (.ireturn, 1) := by decide +kernel
set_option maxRecDepth 20000 in
theorem ggL_wear_X10_wear : GoodIn wsL_wear wsX10_wear := goodIn_ca (goodIn_ca (goodIn_ca (goodIn_r _ [7, 8, 9, 10, 11, 12, 13, 14, 15, 16, 6, 17, 18, 19, 20, 21, 22, 23, 24, 25, 26, 27, 28, 29, 30, 31, 32, 33, 34, 35, 36, 37, 38, 39, 40, 41, 42, 43, 44, 45, 46, 47, 48, 49, 50, 51, 52, 53, 54, 55, 56, 57, 58, 59, 60, 61, 62, 63] (by decide +kernel) (by decide +kernel)) (goodIn_sub (fun _ h => List.mem_cons_of_mem _ (List.mem_append_left _ (List.mem_append_left _ (List.mem_append_right _ h)))) (by decide +kernel))) (goodIn_sub (fun _ h => List.mem_cons_of_mem _ (List.mem_append_left _ (List.mem_append_right _ h))) (by decide +kernel))) (goodIn_sub (fun _ h => List.mem_cons_of_mem _ (List.mem_append_right _ h)) (by decide +kernel))
set_option maxRecDepth 20000 in
theorem gL_wear_X10_wear : GoodIn wsL_wear (wsV RL 112 RX10 yX10_wear wsX10_wear) := goodIn_app (goodIn_of _ (by decide +kernel)) ggL_wear_X10_wear
theorem dL_wear_0 : decode cL_wear 0 = .ok (.aload_n 2, 1) := by decide +kernel
theorem dL_wear_1 : decode cL_wear 1 = .ok (.iconst 0, 1) := by decide +kernel
theorem dL_wear_2 : decode cL_wear 2 = .ok (.aload_n 0, 1) := by decide +kernel
theorem dL_wear_3 : decode cL_wear 3 = .ok (.iload_n 1, 1) := by decide +kernel
theorem dL_wear_4 : decode cL_wear 4 = .ok (.invokevirtual 112, 3) := by decide +kernel
theorem dL_wear_7 : decode cL_wear 7 = .ok (.i2l, 1) := by decide +kernel
theorem dL_wear_8 : decode cL_wear 8 = .ok (.lastore, 1) := by decide +kernel
theorem dL_wear_9 : decode cL_wear 9 = .ok (.goto 9, 3) := by decide +kernel
theorem dL_wear_12 : decode cL_wear 12 = .ok (.astore_n 3, 1) := by decide +kernel
theorem dL_wear_13 : decode cL_wear 13 = .ok (.iconst 1, 1) := by decide +kernel
theorem dL_wear_14 : decode cL_wear 14 = .ok (.ireturn, 1) := by decide +kernel
theorem dL_wear_15 : decode cL_wear 15 = .ok (.astore_n 3, 1) := by decide +kernel
theorem dL_wear_16 : decode cL_wear 16 = .ok (.iconst 2, 1) := by decide +kernel
theorem dL_wear_17 : decode cL_wear 17 = .ok (.ireturn, 1) := by decide +kernel
theorem dL_wear_18 : decode cL_wear 18 = .ok (.iconst 0, 1) := by decide +kernel
theorem dL_wear_19 : decode cL_wear 19 = .ok (.ireturn, 1) := by decide +kernel
set_option maxRecDepth 20000 in
theorem ggL_gearOf_X10_gearOf : GoodIn wsL_gearOf wsX10_gearOf := goodIn_ca (goodIn_ca (goodIn_r _ [6, 7, 8, 9, 10, 11, 5, 12, 13, 14, 15, 16, 17, 18, 19, 20, 21, 22, 23, 24, 25, 26, 27, 28, 29, 30, 31, 32, 33, 34, 35, 36, 37, 38, 39, 40, 41, 42, 43, 44, 45, 46, 47, 48, 49, 50] (by decide +kernel) (by decide +kernel)) (goodIn_sub (fun _ h => List.mem_cons_of_mem _ (List.mem_append_left _ (List.mem_append_right _ h))) (by decide +kernel))) (goodIn_sub (fun _ h => List.mem_cons_of_mem _ (List.mem_append_right _ h)) (by decide +kernel))
set_option maxRecDepth 20000 in
theorem gL_gearOf_X10_gearOf : GoodIn wsL_gearOf (wsV RL 115 RX10 yX10_gearOf wsX10_gearOf) := goodIn_app (goodIn_of _ (by decide +kernel)) ggL_gearOf_X10_gearOf
theorem dL_gearOf_0 : decode cL_gearOf 0 = .ok (.aload_n 2, 1) := by decide +kernel
theorem dL_gearOf_1 : decode cL_gearOf 1 = .ok (.iconst 0, 1) := by decide +kernel
theorem dL_gearOf_2 : decode cL_gearOf 2 = .ok (.aload_n 0, 1) := by decide +kernel
theorem dL_gearOf_3 : decode cL_gearOf 3 = .ok (.iload_n 1, 1) := by decide +kernel
theorem dL_gearOf_4 : decode cL_gearOf 4 = .ok (.invokevirtual 115, 3) := by decide +kernel
theorem dL_gearOf_7 : decode cL_gearOf 7 = .ok (.i2l, 1) := by decide +kernel
theorem dL_gearOf_8 : decode cL_gearOf 8 = .ok (.lastore, 1) := by decide +kernel
theorem dL_gearOf_9 : decode cL_gearOf 9 = .ok (.goto 6, 3) := by decide +kernel
theorem dL_gearOf_12 : decode cL_gearOf 12 = .ok (.astore_n 3, 1) := by decide +kernel
theorem dL_gearOf_13 : decode cL_gearOf 13 = .ok (.iconst 1, 1) := by decide +kernel
theorem dL_gearOf_14 : decode cL_gearOf 14 = .ok (.ireturn, 1) := by decide +kernel
theorem dL_gearOf_15 : decode cL_gearOf 15 = .ok (.iconst 0, 1) := by decide +kernel
theorem dL_gearOf_16 : decode cL_gearOf 16 = .ok (.ireturn, 1) := by decide +kernel
set_option maxRecDepth 20000 in
theorem ggL_areInLine_X10_areInLine : GoodIn wsL_areInLine wsX10_areInLine := goodIn_ca (goodIn_ca (goodIn_ca (goodIn_r _ [7, 8, 9, 10, 11, 12, 13, 14, 15, 6, 16, 17, 18, 19, 20, 21, 22, 23, 24, 25, 26, 27, 28, 29, 30, 31, 32, 33, 34, 35, 36, 37, 38, 39, 40, 41, 42, 43, 44, 45, 46, 47, 48, 49, 50, 51, 52, 53, 54] (by decide +kernel) (by decide +kernel)) (goodIn_sub (fun _ h => List.mem_cons_of_mem _ (List.mem_append_left _ (List.mem_append_right _ h))) (by decide +kernel))) (goodIn_sub (fun _ h => List.mem_cons_of_mem _ (List.mem_append_left _ (List.mem_append_left _ (List.mem_append_right _ h)))) (by decide +kernel))) (goodIn_sub (fun _ h => List.mem_cons_of_mem _ (List.mem_append_right _ h)) (by decide +kernel))
set_option maxRecDepth 20000 in
theorem gL_areInLine_X10_areInLine : GoodIn wsL_areInLine (wsV RL 118 RX10 yX10_areInLine wsX10_areInLine) := goodIn_app (goodIn_of _ (by decide +kernel)) ggL_areInLine_X10_areInLine
theorem dL_areInLine_0 : decode cL_areInLine 0 = .ok (.aload_n 3, 1) := by decide +kernel
theorem dL_areInLine_1 : decode cL_areInLine 1 = .ok (.iconst 0, 1) := by decide +kernel
theorem dL_areInLine_2 : decode cL_areInLine 2 = .ok (.aload_n 0, 1) := by decide +kernel
theorem dL_areInLine_3 : decode cL_areInLine 3 = .ok (.iload_n 1, 1) := by decide +kernel
theorem dL_areInLine_4 : decode cL_areInLine 4 = .ok (.iload_n 2, 1) := by decide +kernel
theorem dL_areInLine_5 : decode cL_areInLine 5 = .ok (.invokevirtual 118, 3) := by decide +kernel
theorem dL_areInLine_8 : decode cL_areInLine 8 = .ok (.ifCond .eq 7, 3) := by decide +kernel
theorem dL_areInLine_11 : decode cL_areInLine 11 = .ok (.lconst 1, 1) := by decide +kernel
theorem dL_areInLine_12 : decode cL_areInLine 12 = .ok (.goto 4, 3) := by decide +kernel
theorem dL_areInLine_15 : decode cL_areInLine 15 = .ok (.lconst 0, 1) := by decide +kernel
theorem dL_areInLine_16 : decode cL_areInLine 16 = .ok (.lastore, 1) := by decide +kernel
theorem dL_areInLine_17 : decode cL_areInLine 17 = .ok (.goto 11, 3) := by decide +kernel
theorem dL_areInLine_20 : decode cL_areInLine 20 = .ok (.astore 4, 2) := by decide +kernel
theorem dL_areInLine_22 : decode cL_areInLine 22 = .ok (.iconst 1, 1) := by decide +kernel
theorem dL_areInLine_23 : decode cL_areInLine 23 = .ok (.ireturn, 1) := by decide +kernel
theorem dL_areInLine_24 : decode cL_areInLine 24 = .ok (.astore 4, 2) := by decide +kernel
theorem dL_areInLine_26 : decode cL_areInLine 26 = .ok (.iconst 2, 1) := by decide +kernel
theorem dL_areInLine_27 : decode cL_areInLine 27 = .ok (.ireturn, 1) := by decide +kernel
theorem dL_areInLine_28 : decode cL_areInLine 28 = .ok (.iconst 0, 1) := by decide +kernel
theorem dL_areInLine_29 : decode cL_areInLine 29 = .ok (.ireturn, 1) := by decide +kernel
set_option maxRecDepth 20000 in
theorem ggL_nextEclipse_X10_nextEclipse : GoodIn wsL_nextEclipse wsX10_nextEclipse := goodIn_ca (goodIn_ca (goodIn_ca (goodIn_ca (goodIn_ca (goodIn_ca (goodIn_r _ [9, 10, 11, 12, 13, 14, 15, 16, 17, 18, 19, 20, 21, 22, 23, 24, 25, 26, 27, 28, 29, 30, 31, 32, 33, 34, 35, 36, 37, 38, 39, 40, 41, 42, 43, 44, 45, 46, 47, 48, 49, 50, 51, 52, 53, 54, 55, 56, 57, 58, 59, 60, 61, 62, 63, 64, 65, 66, 67, 8, 68, 69, 70, 71, 72, 73, 74, 75, 76, 77, 78, 79, 80, 81, 82, 83, 84, 85, 86, 87, 88, 89, 90, 91, 92, 93, 94, 95, 96, 97, 98, 99, 100, 101, 102, 103, 104, 105, 106, 107, 108, 109, 110, 111, 112, 113, 114, 115, 116, 117, 118, 119, 120, 121, 122, 123, 124, 125, 126, 127, 128, 129, 130, 131, 132, 133, 134, 135, 136, 137, 138, 139, 140, 141, 142, 143, 144, 145, 146] (by decide +kernel) (by decide +kernel)) (goodIn_sub (fun _ h => List.mem_cons_of_mem _ (List.mem_append_left _ (List.mem_append_left _ (List.mem_append_left _ (List.mem_append_left _ (List.mem_append_left _ (List.mem_append_right _ h))))))) (by decide +kernel))) (goodIn_sub (fun _ h => List.mem_cons_of_mem _ (List.mem_append_left _ (List.mem_append_left _ (List.mem_append_left _ (List.mem_append_left _ (List.mem_append_right _ h)))))) (by decide +kernel))) (goodIn_sub (fun _ h => List.mem_cons_of_mem _ (List.mem_append_left _ (List.mem_append_left _ (List.mem_append_left _ (List.mem_append_right _ h))))) (by decide +kernel))) (goodIn_sub (fun _ h => List.mem_cons_of_mem _ (List.mem_append_left _ (List.mem_append_left _ (List.mem_append_right _ h)))) (by decide +kernel))) (goodIn_sub (fun _ h => List.mem_cons_of_mem _ (List.mem_append_left _ (List.mem_append_right _ h))) (by decide +kernel))) (goodIn_sub (fun _ h => List.mem_cons_of_mem _ (List.mem_append_right _ h)) (by decide +kernel))
set_option maxRecDepth 20000 in
theorem gL_nextEclipse_X10_nextEclipse : GoodIn wsL_nextEclipse (wsV RL 121 RX10 yX10_nextEclipse wsX10_nextEclipse) := goodIn_app (goodIn_of _ (by decide +kernel)) ggL_nextEclipse_X10_nextEclipse
theorem dL_nextEclipse_0 : decode cL_nextEclipse 0 = .ok (.aload 4, 2) := by decide +kernel
theorem dL_nextEclipse_2 : decode cL_nextEclipse 2 = .ok (.iconst 0, 1) := by decide +kernel
theorem dL_nextEclipse_3 : decode cL_nextEclipse 3 = .ok (.aload_n 0, 1) := by decide +kernel
theorem dL_nextEclipse_4 : decode cL_nextEclipse 4 = .ok (.iload_n 1, 1) := by decide +kernel
theorem dL_nextEclipse_5 : decode cL_nextEclipse 5 = .ok (.iload_n 2, 1) := by decide +kernel
theorem dL_nextEclipse_6 : decode cL_nextEclipse 6 = .ok (.iload_n 3, 1) := by decide +kernel
theorem dL_nextEclipse_7 : decode cL_nextEclipse 7 = .ok (.invokevirtual 121, 3) := by decide +kernel
theorem dL_nextEclipse_10 : decode cL_nextEclipse 10 = .ok (.i2l, 1) := by decide +kernel
theorem dL_nextEclipse_11 : decode cL_nextEclipse 11 = .ok (.lastore, 1) := by decide +kernel
theorem dL_nextEclipse_12 : decode cL_nextEclipse 12 = .ok (.goto 19, 3) := by decide +kernel
theorem dL_nextEclipse_15 : decode cL_nextEclipse 15 = .ok (.astore 5, 2) := by decide +kernel
theorem dL_nextEclipse_17 : decode cL_nextEclipse 17 = .ok (.iconst 1, 1) := by decide +kernel
theorem dL_nextEclipse_18 : decode cL_nextEclipse 18 = .ok (.ireturn, 1) := by decide +kernel
theorem dL_nextEclipse_19 : decode cL_nextEclipse 19 = .ok (.astore 5, 2) := by decide +kernel
theorem dL_nextEclipse_21 : decode cL_nextEclipse 21 = .ok (.iconst 2, 1) := by decide +kernel
theorem dL_nextEclipse_22 : decode cL_nextEclipse 22 = .ok (.ireturn, 1) := by decide +kernel
theorem dL_nextEclipse_23 : decode cL_nextEclipse 23 = .ok (.astore 5, 2) := by decide +kernel
theorem dL_nextEclipse_25 : decode cL_nextEclipse 25 = .ok (.iconst 3, 1) := by decide +kernel
theorem dL_nextEclipse_26 : decode cL_nextEclipse 26 = .ok (.ireturn, 1) := by decide +kernel
theorem dL_nextEclipse_27 : decode cL_nextEclipse 27 = .ok (.astore 5, 2) := by decide +kernel
theorem dL_nextEclipse_29 : decode cL_nextEclipse 29 = .ok (.iconst 4, 1) := by decide +kernel
theorem dL_nextEclipse_30 : decode cL_nextEclipse 30 = .ok (.ireturn, 1) := by decide +kernel
theorem dL_nextEclipse_31 : decode cL_nextEclipse 31 = .ok (.iconst 0, 1) := by decide +kernel
theorem dL_nextEclipse_32 : decode cL_nextEclipse 32 = .ok (.ireturn, 1) := by decide +kernel
set_option maxRecDepth 20000 in
theorem ggL_nextEclipseByTurns_X10_nextEclipseByTurns : GoodIn wsL_nextEclipseByTurns wsX10_nextEclipseByTurns := goodIn_ca (goodIn_ca (goodIn_ca (goodIn_ca (goodIn_ca (goodIn_ca (goodIn_r _ [9, 10, 11, 12, 13, 14, 15, 16, 17, 18, 19, 20, 21, 22, 23, 24, 25, 26, 27, 28, 29, 30, 31, 32, 33, 34, 35, 36, 37, 38, 39, 40, 41, 42, 43, 44, 45, 46, 47, 48, 49, 50, 51, 52, 53, 54, 55, 56, 57, 58, 59, 60, 61, 62, 63, 64, 65, 66, 67, 8, 68, 69, 70, 71, 72, 73, 74, 75, 76, 77, 78, 79, 80, 81, 82, 83, 84, 85, 86, 87, 88, 89, 90, 91, 92, 93, 94, 95, 96, 97, 98, 99, 100, 101, 102, 103, 104, 105, 106, 107, 108, 109, 110, 111, 112, 113, 114, 115, 116, 117, 118, 119, 120, 121, 122, 123, 124, 125, 126, 127, 128, 129] (by decide +kernel) (by decide +kernel)) (goodIn_sub (fun _ h => List.mem_cons_of_mem _ (List.mem_append_left _ (List.mem_append_left _ (List.mem_append_left _ (List.mem_append_left _ (List.mem_append_left _ (List.mem_append_right _ h))))))) (by decide +kernel))) (goodIn_sub (fun _ h => List.mem_cons_of_mem _ (List.mem_append_left _ (List.mem_append_left _ (List.mem_append_left _ (List.mem_append_left _ (List.mem_append_right _ h)))))) (by decide +kernel))) (goodIn_sub (fun _ h => List.mem_cons_of_mem _ (List.mem_append_left _ (List.mem_append_left _ (List.mem_append_left _ (List.mem_append_right _ h))))) (by decide +kernel))) (goodIn_sub (fun _ h => List.mem_cons_of_mem _ (List.mem_append_left _ (List.mem_append_left _ (List.mem_append_right _ h)))) (by decide +kernel))) (goodIn_sub (fun _ h => List.mem_cons_of_mem _ (List.mem_append_left _ (List.mem_append_right _ h))) (by decide +kernel))) (goodIn_sub (fun _ h => List.mem_cons_of_mem _ (List.mem_append_right _ h)) (by decide +kernel))
set_option maxRecDepth 20000 in
theorem gL_nextEclipseByTurns_X10_nextEclipseByTurns : GoodIn wsL_nextEclipseByTurns (wsV RL 125 RX10 yX10_nextEclipseByTurns wsX10_nextEclipseByTurns) := goodIn_app (goodIn_of _ (by decide +kernel)) ggL_nextEclipseByTurns_X10_nextEclipseByTurns
theorem dL_nextEclipseByTurns_0 : decode cL_nextEclipseByTurns 0 = .ok (.aload 4, 2) := by decide +kernel
theorem dL_nextEclipseByTurns_2 : decode cL_nextEclipseByTurns 2 = .ok (.iconst 0, 1) := by decide +kernel
theorem dL_nextEclipseByTurns_3 : decode cL_nextEclipseByTurns 3 = .ok (.aload_n 0, 1) := by decide +kernel
theorem dL_nextEclipseByTurns_4 : decode cL_nextEclipseByTurns 4 = .ok (.iload_n 1, 1) := by decide +kernel
theorem dL_nextEclipseByTurns_5 : decode cL_nextEclipseByTurns 5 = .ok (.iload_n 2, 1) := by decide +kernel
theorem dL_nextEclipseByTurns_6 : decode cL_nextEclipseByTurns 6 = .ok (.iload_n 3, 1) := by decide +kernel
theorem dL_nextEclipseByTurns_7 : decode cL_nextEclipseByTurns 7 = .ok (.invokevirtual 125, 3) := by decide +kernel
theorem dL_nextEclipseByTurns_10 : decode cL_nextEclipseByTurns 10 = .ok (.i2l, 1) := by decide +kernel
theorem dL_nextEclipseByTurns_11 : decode cL_nextEclipseByTurns 11 = .ok (.lastore, 1) := by decide +kernel
theorem dL_nextEclipseByTurns_12 : decode cL_nextEclipseByTurns 12 = .ok (.goto 19, 3) := by decide +kernel
theorem dL_nextEclipseByTurns_15 : decode cL_nextEclipseByTurns 15 = .ok (.astore 5, 2) := by decide +kernel
theorem dL_nextEclipseByTurns_17 : decode cL_nextEclipseByTurns 17 = .ok (.iconst 1, 1) := by decide +kernel
theorem dL_nextEclipseByTurns_18 : decode cL_nextEclipseByTurns 18 = .ok (.ireturn, 1) := by decide +kernel
theorem dL_nextEclipseByTurns_19 : decode cL_nextEclipseByTurns 19 = .ok (.astore 5, 2) := by decide +kernel
theorem dL_nextEclipseByTurns_21 : decode cL_nextEclipseByTurns 21 = .ok (.iconst 2, 1) := by decide +kernel
theorem dL_nextEclipseByTurns_22 : decode cL_nextEclipseByTurns 22 = .ok (.ireturn, 1) := by decide +kernel
theorem dL_nextEclipseByTurns_23 : decode cL_nextEclipseByTurns 23 = .ok (.astore 5, 2) := by decide +kernel
theorem dL_nextEclipseByTurns_25 : decode cL_nextEclipseByTurns 25 = .ok (.iconst 3, 1) := by decide +kernel
theorem dL_nextEclipseByTurns_26 : decode cL_nextEclipseByTurns 26 = .ok (.ireturn, 1) := by decide +kernel
theorem dL_nextEclipseByTurns_27 : decode cL_nextEclipseByTurns 27 = .ok (.astore 5, 2) := by decide +kernel
theorem dL_nextEclipseByTurns_29 : decode cL_nextEclipseByTurns 29 = .ok (.iconst 4, 1) := by decide +kernel
theorem dL_nextEclipseByTurns_30 : decode cL_nextEclipseByTurns 30 = .ok (.ireturn, 1) := by decide +kernel
theorem dL_nextEclipseByTurns_31 : decode cL_nextEclipseByTurns 31 = .ok (.iconst 0, 1) := by decide +kernel
theorem dL_nextEclipseByTurns_32 : decode cL_nextEclipseByTurns 32 = .ok (.ireturn, 1) := by decide +kernel
set_option maxRecDepth 20000 in
theorem ggL_planetByAngle_X10_planetByAngle : GoodIn wsL_planetByAngle wsX10_planetByAngle := goodIn_ca (goodIn_ca (goodIn_r _ [6, 7, 8, 9, 10, 11, 12, 13, 14, 15, 16, 17, 18, 19, 20, 21, 22, 23, 24, 25, 26, 27, 28, 29, 30, 31, 32, 33, 34, 35, 36, 37, 38, 39, 40, 41, 42, 43, 44, 45, 46, 47, 48] (by decide +kernel) (by decide +kernel)) (goodIn_sub (fun _ h => List.mem_cons_of_mem _ (List.mem_append_right _ h)) (by decide +kernel))) (goodIn_sub (fun _ h => List.mem_cons_of_mem _ (List.mem_append_left _ (List.mem_append_right _ h))) (by decide +kernel))
set_option maxRecDepth 20000 in
theorem gL_planetByAngle_X10_planetByAngle : GoodIn wsL_planetByAngle (wsV RL 128 RX10 yX10_planetByAngle wsX10_planetByAngle) := goodIn_app (goodIn_of _ (by decide +kernel)) ggL_planetByAngle_X10_planetByAngle
theorem dL_planetByAngle_0 : decode cL_planetByAngle 0 = .ok (.aload_n 2, 1) := by decide +kernel
theorem dL_planetByAngle_1 : decode cL_planetByAngle 1 = .ok (.iconst 0, 1) := by decide +kernel
theorem dL_planetByAngle_2 : decode cL_planetByAngle 2 = .ok (.aload_n 0, 1) := by decide +kernel
theorem dL_planetByAngle_3 : decode cL_planetByAngle 3 = .ok (.iload_n 1, 1) := by decide +kernel
theorem dL_planetByAngle_4 : decode cL_planetByAngle 4 = .ok (.invokevirtual 128, 3) := by decide +kernel
theorem dL_planetByAngle_7 : decode cL_planetByAngle 7 = .ok (.i2l, 1) := by decide +kernel
theorem dL_planetByAngle_8 : decode cL_planetByAngle 8 = .ok (.lastore, 1) := by decide +kernel
theorem dL_planetByAngle_9 : decode cL_planetByAngle 9 = .ok (.goto 6, 3) := by decide +kernel
theorem dL_planetByAngle_12 : decode cL_planetByAngle 12 = .ok (.astore_n 3, 1) := by decide +kernel
theorem dL_planetByAngle_13 : decode cL_planetByAngle 13 = .ok (.iconst 1, 1) := by decide +kernel
theorem dL_planetByAngle_14 : decode cL_planetByAngle 14 = .ok (.ireturn, 1) := by decide +kernel
theorem dL_planetByAngle_15 : decode cL_planetByAngle 15 = .ok (.iconst 0, 1) := by decide +kernel
theorem dL_planetByAngle_16 : decode cL_planetByAngle 16 = .ok (.ireturn, 1) := by decide +kernel
set_option maxRecDepth 20000 in
theorem ggL_fewestPairs_X10_fewestPairs : GoodIn wsL_fewestPairs wsX10_fewestPairs := goodIn_ca (goodIn_ca (goodIn_ca (goodIn_r _ [7, 8, 9, 10, 6, 11, 12, 13, 14, 15, 16, 17, 18, 19, 20, 21, 22, 23, 24, 25, 26, 27, 28, 29, 30, 31, 32, 33, 34, 35, 36, 37, 38, 39, 40, 41, 42, 43, 44, 45, 46, 47, 48, 49, 50, 51, 52, 53, 54, 55, 56, 57, 58, 59, 60, 61, 62, 63, 64, 65, 66] (by decide +kernel) (by decide +kernel)) (goodIn_sub (fun _ h => List.mem_cons_of_mem _ (List.mem_append_left _ (List.mem_append_right _ h))) (by decide +kernel))) (goodIn_sub (fun _ h => List.mem_cons_of_mem _ (List.mem_append_left _ (List.mem_append_left _ (List.mem_append_right _ h)))) (by decide +kernel))) (goodIn_sub (fun _ h => List.mem_cons_of_mem _ (List.mem_append_right _ h)) (by decide +kernel))
set_option maxRecDepth 20000 in
theorem gL_fewestPairs_X10_fewestPairs : GoodIn wsL_fewestPairs (wsV RL 131 RX10 yX10_fewestPairs wsX10_fewestPairs) := goodIn_app (goodIn_of _ (by decide +kernel)) ggL_fewestPairs_X10_fewestPairs
theorem dL_fewestPairs_0 : decode cL_fewestPairs 0 = .ok (.aload_n 3, 1) := by decide +kernel
theorem dL_fewestPairs_1 : decode cL_fewestPairs 1 = .ok (.iconst 0, 1) := by decide +kernel
theorem dL_fewestPairs_2 : decode cL_fewestPairs 2 = .ok (.aload_n 0, 1) := by decide +kernel
theorem dL_fewestPairs_3 : decode cL_fewestPairs 3 = .ok (.iload_n 1, 1) := by decide +kernel
theorem dL_fewestPairs_4 : decode cL_fewestPairs 4 = .ok (.iload_n 2, 1) := by decide +kernel
theorem dL_fewestPairs_5 : decode cL_fewestPairs 5 = .ok (.invokevirtual 131, 3) := by decide +kernel
theorem dL_fewestPairs_8 : decode cL_fewestPairs 8 = .ok (.i2l, 1) := by decide +kernel
theorem dL_fewestPairs_9 : decode cL_fewestPairs 9 = .ok (.lastore, 1) := by decide +kernel
theorem dL_fewestPairs_10 : decode cL_fewestPairs 10 = .ok (.goto 11, 3) := by decide +kernel
theorem dL_fewestPairs_13 : decode cL_fewestPairs 13 = .ok (.astore 4, 2) := by decide +kernel
theorem dL_fewestPairs_15 : decode cL_fewestPairs 15 = .ok (.iconst 1, 1) := by decide +kernel
theorem dL_fewestPairs_16 : decode cL_fewestPairs 16 = .ok (.ireturn, 1) := by decide +kernel
theorem dL_fewestPairs_17 : decode cL_fewestPairs 17 = .ok (.astore 4, 2) := by decide +kernel
theorem dL_fewestPairs_19 : decode cL_fewestPairs 19 = .ok (.iconst 2, 1) := by decide +kernel
theorem dL_fewestPairs_20 : decode cL_fewestPairs 20 = .ok (.ireturn, 1) := by decide +kernel
theorem dL_fewestPairs_21 : decode cL_fewestPairs 21 = .ok (.iconst 0, 1) := by decide +kernel
theorem dL_fewestPairs_22 : decode cL_fewestPairs 22 = .ok (.ireturn, 1) := by decide +kernel
set_option maxRecDepth 20000 in
theorem ggL_fewestPairsByTable_X10_fewestPairsByTable : GoodIn wsL_fewestPairsByTable wsX10_fewestPairsByTable := goodIn_ca (goodIn_ca (goodIn_ca (goodIn_r _ [7, 8, 9, 10, 6, 11, 12, 13, 14, 15, 16, 17, 18, 19, 20, 21, 22, 23, 24, 25, 26, 27, 28, 29, 30, 31, 32, 33, 34, 35, 36, 37, 38, 39, 40, 41, 42, 43, 44, 45, 46, 47, 48, 49, 50, 51, 52, 53, 54, 55, 56, 57, 58, 59, 60, 61, 62, 63, 64, 65, 66, 67, 68, 69, 70, 71, 72, 73, 74, 75, 76, 77, 78, 79, 80, 81, 82, 83, 84, 85, 86, 87, 88, 89, 90, 91, 92, 93, 94, 95, 96, 97, 98, 99, 100] (by decide +kernel) (by decide +kernel)) (goodIn_sub (fun _ h => List.mem_cons_of_mem _ (List.mem_append_left _ (List.mem_append_right _ h))) (by decide +kernel))) (goodIn_sub (fun _ h => List.mem_cons_of_mem _ (List.mem_append_left _ (List.mem_append_left _ (List.mem_append_right _ h)))) (by decide +kernel))) (goodIn_sub (fun _ h => List.mem_cons_of_mem _ (List.mem_append_right _ h)) (by decide +kernel))
set_option maxRecDepth 20000 in
theorem gL_fewestPairsByTable_X10_fewestPairsByTable : GoodIn wsL_fewestPairsByTable (wsV RL 134 RX10 yX10_fewestPairsByTable wsX10_fewestPairsByTable) := goodIn_app (goodIn_of _ (by decide +kernel)) ggL_fewestPairsByTable_X10_fewestPairsByTable
theorem dL_fewestPairsByTable_0 : decode cL_fewestPairsByTable 0 = .ok (.aload_n 3, 1) := by decide +kernel
theorem dL_fewestPairsByTable_1 : decode cL_fewestPairsByTable 1 = .ok (.iconst 0, 1) := by decide +kernel
theorem dL_fewestPairsByTable_2 : decode cL_fewestPairsByTable 2 = .ok (.aload_n 0, 1) := by decide +kernel
theorem dL_fewestPairsByTable_3 : decode cL_fewestPairsByTable 3 = .ok (.iload_n 1, 1) := by decide +kernel
theorem dL_fewestPairsByTable_4 : decode cL_fewestPairsByTable 4 = .ok (.iload_n 2, 1) := by decide +kernel
theorem dL_fewestPairsByTable_5 : decode cL_fewestPairsByTable 5 = .ok (.invokevirtual 134, 3) := by decide +kernel
theorem dL_fewestPairsByTable_8 : decode cL_fewestPairsByTable 8 = .ok (.i2l, 1) := by decide +kernel
theorem dL_fewestPairsByTable_9 : decode cL_fewestPairsByTable 9 = .ok (.lastore, 1) := by decide +kernel
theorem dL_fewestPairsByTable_10 : decode cL_fewestPairsByTable 10 = .ok (.goto 11, 3) := by decide +kernel
theorem dL_fewestPairsByTable_13 : decode cL_fewestPairsByTable 13 = .ok (.astore 4, 2) := by decide +kernel
theorem dL_fewestPairsByTable_15 : decode cL_fewestPairsByTable 15 = .ok (.iconst 1, 1) := by decide +kernel
theorem dL_fewestPairsByTable_16 : decode cL_fewestPairsByTable 16 = .ok (.ireturn, 1) := by decide +kernel
theorem dL_fewestPairsByTable_17 : decode cL_fewestPairsByTable 17 = .ok (.astore 4, 2) := by decide +kernel
theorem dL_fewestPairsByTable_19 : decode cL_fewestPairsByTable 19 = .ok (.iconst 2, 1) := by decide +kernel
theorem dL_fewestPairsByTable_20 : decode cL_fewestPairsByTable 20 = .ok (.ireturn, 1) := by decide +kernel
theorem dL_fewestPairsByTable_21 : decode cL_fewestPairsByTable 21 = .ok (.iconst 0, 1) := by decide +kernel
theorem dL_fewestPairsByTable_22 : decode cL_fewestPairsByTable 22 = .ok (.ireturn, 1) := by decide +kernel
set_option maxRecDepth 20000 in
theorem ggL_meanTeeth_X10_meanTeeth : GoodIn wsL_meanTeeth wsX10_meanTeeth := goodIn_ca (goodIn_ca (goodIn_r _ [6, 7, 8, 9, 10, 11, 12, 13, 14, 15, 16, 17, 18, 19, 20, 21, 22, 23, 24, 25, 26, 27, 28, 29, 30, 31, 32, 33, 34, 35, 36, 37, 38, 39, 40, 41, 42, 43, 44, 45, 46, 47] (by decide +kernel) (by decide +kernel)) (goodIn_sub (fun _ h => List.mem_cons_of_mem _ (List.mem_append_right _ h)) (by decide +kernel))) (goodIn_sub (fun _ h => List.mem_cons_of_mem _ (List.mem_append_left _ (List.mem_append_right _ h))) (by decide +kernel))
set_option maxRecDepth 20000 in
theorem gL_meanTeeth_X10_meanTeeth : GoodIn wsL_meanTeeth (wsV RL 137 RX10 yX10_meanTeeth wsX10_meanTeeth) := goodIn_app (goodIn_of _ (by decide +kernel)) ggL_meanTeeth_X10_meanTeeth
theorem dL_meanTeeth_0 : decode cL_meanTeeth 0 = .ok (.aload_n 1, 1) := by decide +kernel
theorem dL_meanTeeth_1 : decode cL_meanTeeth 1 = .ok (.iconst 0, 1) := by decide +kernel
theorem dL_meanTeeth_2 : decode cL_meanTeeth 2 = .ok (.aload_n 0, 1) := by decide +kernel
theorem dL_meanTeeth_3 : decode cL_meanTeeth 3 = .ok (.invokevirtual 137, 3) := by decide +kernel
theorem dL_meanTeeth_6 : decode cL_meanTeeth 6 = .ok (.dastore, 1) := by decide +kernel
theorem dL_meanTeeth_7 : decode cL_meanTeeth 7 = .ok (.goto 6, 3) := by decide +kernel
theorem dL_meanTeeth_10 : decode cL_meanTeeth 10 = .ok (.astore_n 2, 1) := by decide +kernel
theorem dL_meanTeeth_11 : decode cL_meanTeeth 11 = .ok (.iconst 1, 1) := by decide +kernel
theorem dL_meanTeeth_12 : decode cL_meanTeeth 12 = .ok (.ireturn, 1) := by decide +kernel
theorem dL_meanTeeth_13 : decode cL_meanTeeth 13 = .ok (.iconst 0, 1) := by decide +kernel
theorem dL_meanTeeth_14 : decode cL_meanTeeth 14 = .ok (.ireturn, 1) := by decide +kernel
set_option maxRecDepth 20000 in
theorem ggL_dryShare_X10_dryShare : GoodIn wsL_dryShare wsX10_dryShare := goodIn_ca (goodIn_ca (goodIn_r _ [6, 7, 8, 9, 10, 11, 12, 13, 14, 15, 16, 17, 18, 19, 20, 21, 22, 23, 24, 25, 26, 27, 28, 29, 30, 31, 32, 33, 34, 35, 36, 37, 38, 39, 40, 41, 42, 43, 44, 45, 46, 47] (by decide +kernel) (by decide +kernel)) (goodIn_sub (fun _ h => List.mem_cons_of_mem _ (List.mem_append_right _ h)) (by decide +kernel))) (goodIn_sub (fun _ h => List.mem_cons_of_mem _ (List.mem_append_left _ (List.mem_append_right _ h))) (by decide +kernel))
set_option maxRecDepth 20000 in
theorem gL_dryShare_X10_dryShare : GoodIn wsL_dryShare (wsV RL 143 RX10 yX10_dryShare wsX10_dryShare) := goodIn_app (goodIn_of _ (by decide +kernel)) ggL_dryShare_X10_dryShare
theorem dL_dryShare_0 : decode cL_dryShare 0 = .ok (.aload_n 1, 1) := by decide +kernel
theorem dL_dryShare_1 : decode cL_dryShare 1 = .ok (.iconst 0, 1) := by decide +kernel
theorem dL_dryShare_2 : decode cL_dryShare 2 = .ok (.aload_n 0, 1) := by decide +kernel
theorem dL_dryShare_3 : decode cL_dryShare 3 = .ok (.invokevirtual 143, 3) := by decide +kernel
theorem dL_dryShare_6 : decode cL_dryShare 6 = .ok (.f2d, 1) := by decide +kernel
theorem dL_dryShare_7 : decode cL_dryShare 7 = .ok (.dastore, 1) := by decide +kernel
theorem dL_dryShare_8 : decode cL_dryShare 8 = .ok (.goto 6, 3) := by decide +kernel
theorem dL_dryShare_11 : decode cL_dryShare 11 = .ok (.astore_n 2, 1) := by decide +kernel
theorem dL_dryShare_12 : decode cL_dryShare 12 = .ok (.iconst 1, 1) := by decide +kernel
theorem dL_dryShare_13 : decode cL_dryShare 13 = .ok (.ireturn, 1) := by decide +kernel
theorem dL_dryShare_14 : decode cL_dryShare 14 = .ok (.iconst 0, 1) := by decide +kernel
theorem dL_dryShare_15 : decode cL_dryShare 15 = .ok (.ireturn, 1) := by decide +kernel
set_option maxRecDepth 20000 in
theorem ggL_renderGear_X10_renderGear : GoodIn wsL_renderGear wsX10_renderGear := goodIn_ca (goodIn_ca (goodIn_r _ [6, 7, 8, 9, 10, 11, 12, 13, 14, 15, 16, 17, 5, 18, 19, 20, 21, 22, 23, 24, 25, 26, 27, 28, 29, 30, 31, 32, 33, 34, 35, 36, 37, 38, 39, 40, 41, 42, 43, 44, 45, 46, 47, 48, 49, 50, 51, 52, 53, 54, 55, 56, 57, 58, 59, 60, 61, 62, 63, 64, 65, 66, 67, 68, 69, 70, 71, 72, 73, 74, 75, 76, 77, 78, 79, 80, 81, 82, 83, 84, 85, 86, 87, 88, 89, 90, 91, 92, 93, 94, 95, 96, 97, 98, 99, 100, 101, 102, 103, 104, 105, 106, 107, 108, 109, 110, 111, 112, 113, 114, 115, 116, 117, 118, 119, 120, 121, 122, 123, 124, 125, 126, 127, 128, 129, 130, 131, 132, 133, 134, 135, 136, 137, 138, 139, 140, 141, 142, 143, 144, 145, 146, 147, 148, 149, 150, 151, 152, 153, 154, 155, 156, 157, 158, 159, 160, 161, 162, 163, 164, 165, 166, 167, 168, 169, 170, 171, 172, 173, 174, 175, 176, 177, 178, 179, 180, 181, 182, 183, 184, 185, 186, 187, 188, 189, 190, 191, 192, 193, 194, 195, 196, 197, 198, 199, 200, 201, 202, 203, 204, 205, 206, 207, 208, 209, 210, 211, 212, 213, 214, 215, 216, 217, 218, 219, 220, 221, 222, 223, 224, 225, 226, 227, 228, 229, 230, 231, 232, 233, 234, 235, 236, 237, 238, 239, 240, 241, 242, 243, 244, 245, 246, 247, 248, 249, 250, 251, 252, 253, 254, 255, 256, 257, 258, 259, 260, 261, 262, 263, 264, 265, 266] (by decide +kernel) (by decide +kernel)) (goodIn_sub (fun _ h => List.mem_cons_of_mem _ (List.mem_append_left _ (List.mem_append_right _ h))) (by decide +kernel))) (goodIn_sub (fun _ h => List.mem_cons_of_mem _ (List.mem_append_right _ h)) (by decide +kernel))
set_option maxRecDepth 20000 in
theorem gL_renderGear_X10_renderGear : GoodIn wsL_renderGear (wsV RL 147 RX10 yX10_renderGear wsX10_renderGear) := goodIn_app (goodIn_of _ (by decide +kernel)) ggL_renderGear_X10_renderGear
theorem dL_renderGear_0 : decode cL_renderGear 0 = .ok (.aload_n 2, 1) := by decide +kernel
theorem dL_renderGear_1 : decode cL_renderGear 1 = .ok (.iconst 0, 1) := by decide +kernel
theorem dL_renderGear_2 : decode cL_renderGear 2 = .ok (.aload_n 0, 1) := by decide +kernel
theorem dL_renderGear_3 : decode cL_renderGear 3 = .ok (.iload_n 1, 1) := by decide +kernel
theorem dL_renderGear_4 : decode cL_renderGear 4 = .ok (.invokevirtual 147, 3) := by decide +kernel
theorem dL_renderGear_7 : decode cL_renderGear 7 = .ok (.i2l, 1) := by decide +kernel
theorem dL_renderGear_8 : decode cL_renderGear 8 = .ok (.lastore, 1) := by decide +kernel
theorem dL_renderGear_9 : decode cL_renderGear 9 = .ok (.goto 6, 3) := by decide +kernel
theorem dL_renderGear_12 : decode cL_renderGear 12 = .ok (.astore_n 3, 1) := by decide +kernel
theorem dL_renderGear_13 : decode cL_renderGear 13 = .ok (.iconst 1, 1) := by decide +kernel
theorem dL_renderGear_14 : decode cL_renderGear 14 = .ok (.ireturn, 1) := by decide +kernel
theorem dL_renderGear_15 : decode cL_renderGear 15 = .ok (.iconst 0, 1) := by decide +kernel
theorem dL_renderGear_16 : decode cL_renderGear 16 = .ok (.ireturn, 1) := by decide +kernel
set_option maxRecDepth 20000 in
theorem ggL_renderTrain_X10_renderTrain : GoodIn wsL_renderTrain wsX10_renderTrain := goodIn_ca (goodIn_ca (goodIn_r _ [6, 7, 8, 9, 10, 11, 12, 13, 5, 14, 15, 16, 17, 18, 19, 20, 21, 22, 23, 24, 25, 26, 27, 28, 29, 30, 31, 32, 33, 34, 35, 36, 37, 38, 39, 40, 41, 42, 43, 44, 45, 46, 47, 48, 49, 50, 51, 52, 53, 54, 55, 56, 57, 58, 59, 60, 61, 62, 63, 64, 65, 66, 67, 68, 69, 70, 71, 72, 73, 74, 75, 76, 77, 78, 79, 80, 81, 82, 83, 84, 85, 86, 87, 88, 89, 90, 91, 92, 93, 94, 95, 96, 97, 98, 99, 100, 101, 102, 103, 104, 105, 106, 107, 108, 109, 110, 111, 112, 113, 114, 115, 116, 117, 118, 119, 120, 121, 122, 123, 124, 125, 126, 127, 128, 129, 130, 131, 132, 133, 134, 135, 136, 137, 138, 139, 140, 141, 142, 143, 144, 145, 146, 147, 148, 149, 150, 151, 152, 153, 154, 155, 156, 157, 158, 159, 160, 161, 162, 163, 164, 165, 166, 167, 168, 169, 170, 171, 172, 173, 174, 175, 176, 177, 178, 179, 180, 181, 182, 183, 184, 185, 186, 187, 188, 189, 190, 191, 192, 193, 194, 195, 196, 197, 198, 199, 200, 201, 202, 203, 204, 205, 206, 207, 208, 209, 210, 211, 212, 213, 214, 215, 216, 217, 218, 219, 220, 221, 222, 223, 224, 225, 226, 227, 228, 229, 230, 231, 232, 233, 234, 235, 236, 237, 238, 239, 240, 241, 242, 243, 244, 245, 246, 247, 248, 249, 250, 251, 252, 253, 254, 255, 256, 257, 258, 259, 260, 261, 262, 263, 264, 265, 266, 267, 268, 269, 270, 271, 272, 273, 274, 275, 276, 277, 278, 279, 280, 281, 282, 283, 284, 285, 286, 287, 288, 289, 290, 291, 292, 293, 294, 295, 296, 297, 298, 299, 300, 301, 302] (by decide +kernel) (by decide +kernel)) (goodIn_sub (fun _ h => List.mem_cons_of_mem _ (List.mem_append_right _ h)) (by decide +kernel))) (goodIn_sub (fun _ h => List.mem_cons_of_mem _ (List.mem_append_left _ (List.mem_append_right _ h))) (by decide +kernel))
set_option maxRecDepth 20000 in
theorem gL_renderTrain_X10_renderTrain : GoodIn wsL_renderTrain (wsV RL 150 RX10 yX10_renderTrain wsX10_renderTrain) := goodIn_app (goodIn_of _ (by decide +kernel)) ggL_renderTrain_X10_renderTrain
theorem dL_renderTrain_0 : decode cL_renderTrain 0 = .ok (.aload_n 2, 1) := by decide +kernel
theorem dL_renderTrain_1 : decode cL_renderTrain 1 = .ok (.iconst 0, 1) := by decide +kernel
theorem dL_renderTrain_2 : decode cL_renderTrain 2 = .ok (.aload_n 0, 1) := by decide +kernel
theorem dL_renderTrain_3 : decode cL_renderTrain 3 = .ok (.iload_n 1, 1) := by decide +kernel
theorem dL_renderTrain_4 : decode cL_renderTrain 4 = .ok (.invokevirtual 150, 3) := by decide +kernel
theorem dL_renderTrain_7 : decode cL_renderTrain 7 = .ok (.i2l, 1) := by decide +kernel
theorem dL_renderTrain_8 : decode cL_renderTrain 8 = .ok (.lastore, 1) := by decide +kernel
theorem dL_renderTrain_9 : decode cL_renderTrain 9 = .ok (.goto 6, 3) := by decide +kernel
theorem dL_renderTrain_12 : decode cL_renderTrain 12 = .ok (.astore_n 3, 1) := by decide +kernel
theorem dL_renderTrain_13 : decode cL_renderTrain 13 = .ok (.iconst 1, 1) := by decide +kernel
theorem dL_renderTrain_14 : decode cL_renderTrain 14 = .ok (.ireturn, 1) := by decide +kernel
theorem dL_renderTrain_15 : decode cL_renderTrain 15 = .ok (.iconst 0, 1) := by decide +kernel
theorem dL_renderTrain_16 : decode cL_renderTrain 16 = .ok (.ireturn, 1) := by decide +kernel
set_option maxRecDepth 20000 in
theorem ggL_outputAt_X10_outputAt : GoodIn wsL_outputAt wsX10_outputAt := goodIn_ca (goodIn_r _ [6, 7, 8, 9, 10, 11, 12, 13, 14, 15, 16, 17, 18, 19, 20, 21, 22, 23, 24, 25, 26, 27, 28, 29, 30, 31, 32, 33, 34, 35, 36, 37, 38, 39, 40, 41, 42, 43, 44, 45, 46, 47, 48, 49, 50, 51, 52, 53, 54, 55, 56, 57, 58, 59, 60, 61, 62, 63, 64, 65, 66, 67, 68, 69, 70, 71] (by decide +kernel) (by decide +kernel)) (goodIn_sub (fun _ h => List.mem_cons_of_mem _ (List.mem_append_right _ h)) (by decide +kernel))
set_option maxRecDepth 20000 in
theorem gL_outputAt_X10_outputAt : GoodIn wsL_outputAt (wsV RL 153 RX10 yX10_outputAt wsX10_outputAt) := goodIn_app (goodIn_of _ (by decide +kernel)) ggL_outputAt_X10_outputAt
theorem dL_outputAt_0 : decode cL_outputAt 0 = .ok (.aload_n 2, 1) := by decide +kernel
theorem dL_outputAt_1 : decode cL_outputAt 1 = .ok (.iconst 0, 1) := by decide +kernel
theorem dL_outputAt_2 : decode cL_outputAt 2 = .ok (.aload_n 0, 1) := by decide +kernel
theorem dL_outputAt_3 : decode cL_outputAt 3 = .ok (.iload_n 1, 1) := by decide +kernel
theorem dL_outputAt_4 : decode cL_outputAt 4 = .ok (.invokevirtual 153, 3) := by decide +kernel
theorem dL_outputAt_7 : decode cL_outputAt 7 = .ok (.i2l, 1) := by decide +kernel
theorem dL_outputAt_8 : decode cL_outputAt 8 = .ok (.lastore, 1) := by decide +kernel
theorem dL_outputAt_9 : decode cL_outputAt 9 = .ok (.goto 6, 3) := by decide +kernel
theorem dL_outputAt_12 : decode cL_outputAt 12 = .ok (.astore_n 3, 1) := by decide +kernel
theorem dL_outputAt_13 : decode cL_outputAt 13 = .ok (.iconst 1, 1) := by decide +kernel
theorem dL_outputAt_14 : decode cL_outputAt 14 = .ok (.ireturn, 1) := by decide +kernel
theorem dL_outputAt_15 : decode cL_outputAt 15 = .ok (.iconst 0, 1) := by decide +kernel
theorem dL_outputAt_16 : decode cL_outputAt 16 = .ok (.ireturn, 1) := by decide +kernel
set_option maxRecDepth 20000 in
theorem ggL_type_X10_type : GoodIn wsL_type wsX10_type := goodIn_ca (goodIn_ca (goodIn_ca (goodIn_r _ [7, 8, 9, 10, 11, 12, 13, 14, 15, 16, 17, 18, 19, 20, 21, 22, 23, 24, 25, 26, 27, 28, 29, 30, 31, 32, 33, 34, 35, 36, 37, 38, 39, 40, 41] (by decide +kernel) (by decide +kernel)) (goodIn_sub (fun _ h => List.mem_cons_of_mem _ (List.mem_append_left _ (List.mem_append_right _ h))) (by decide +kernel))) (goodIn_sub (fun _ h => List.mem_cons_of_mem _ (List.mem_append_right _ h)) (by decide +kernel))) (goodIn_sub (fun _ h => List.mem_cons_of_mem _ (List.mem_append_left _ (List.mem_append_left _ (List.mem_append_right _ h)))) (by decide +kernel))
set_option maxRecDepth 20000 in
theorem gL_type_X10_type : GoodIn wsL_type (wsV RL 157 RX10 yX10_type wsX10_type) := goodIn_app (goodIn_of _ (by decide +kernel)) ggL_type_X10_type
theorem dL_type_0 : decode cL_type 0 = .ok (.aload_n 2, 1) := by decide +kernel
theorem dL_type_1 : decode cL_type 1 = .ok (.iconst 0, 1) := by decide +kernel
theorem dL_type_2 : decode cL_type 2 = .ok (.aload_n 0, 1) := by decide +kernel
theorem dL_type_3 : decode cL_type 3 = .ok (.iload_n 1, 1) := by decide +kernel
theorem dL_type_4 : decode cL_type 4 = .ok (.invokevirtual 157, 3) := by decide +kernel
theorem dL_type_7 : decode cL_type 7 = .ok (.i2l, 1) := by decide +kernel
theorem dL_type_8 : decode cL_type 8 = .ok (.lastore, 1) := by decide +kernel
theorem dL_type_9 : decode cL_type 9 = .ok (.goto 9, 3) := by decide +kernel
theorem dL_type_12 : decode cL_type 12 = .ok (.astore_n 3, 1) := by decide +kernel
theorem dL_type_13 : decode cL_type 13 = .ok (.iconst 1, 1) := by decide +kernel
theorem dL_type_14 : decode cL_type 14 = .ok (.ireturn, 1) := by decide +kernel
theorem dL_type_15 : decode cL_type 15 = .ok (.astore_n 3, 1) := by decide +kernel
theorem dL_type_16 : decode cL_type 16 = .ok (.iconst 2, 1) := by decide +kernel
theorem dL_type_17 : decode cL_type 17 = .ok (.ireturn, 1) := by decide +kernel
theorem dL_type_18 : decode cL_type 18 = .ok (.iconst 0, 1) := by decide +kernel
theorem dL_type_19 : decode cL_type 19 = .ok (.ireturn, 1) := by decide +kernel
set_option maxRecDepth 20000 in
theorem ggL_runScript_X10_runScript : GoodIn wsL_runScript wsX10_runScript := goodIn_ca (goodIn_ca (goodIn_ca (goodIn_r _ [7, 8, 9, 10, 11, 12, 13, 14, 15, 16, 17, 18, 19, 20, 21, 22, 23, 24, 25, 26, 27, 28, 29, 30, 31, 32, 33, 34, 35, 36, 37, 38, 39, 40, 41, 42, 43, 44, 45, 46, 47, 48, 49, 50, 51, 52, 53, 54, 55, 56, 57, 58, 59, 60, 61, 62, 63, 64, 65, 66, 67, 68, 69, 70, 71, 72, 73, 74, 75, 76, 77, 78, 79, 80, 81, 82, 83, 84, 85, 86, 87, 88, 89, 90, 91, 92, 93, 94, 95, 96, 97, 98, 99, 100, 101, 102, 103, 104, 105, 106, 107, 108, 109, 110, 111, 112, 113, 114, 115, 116, 117, 118, 119, 120, 121, 122, 123, 124, 125, 126, 127, 128, 129, 130, 131, 132, 133, 134, 135, 136, 137, 138, 139, 6, 140, 141, 142, 143, 144, 145, 146, 147, 148, 149, 150, 151, 152, 153, 154, 155, 156, 157, 158, 159, 160, 161, 162, 163, 164, 165, 166, 167, 168, 169, 170, 171, 172, 173, 174, 175, 176, 177, 178, 179, 180, 181, 182, 183, 184, 185, 186, 187, 188, 189, 190, 191, 192, 193, 194, 195, 196, 197, 198, 199, 200, 201, 202, 203, 204, 205, 206, 207, 208, 209, 210, 211, 212, 213, 214, 215, 216, 217, 218, 219, 220, 221, 222, 223, 224, 225, 226, 227, 228, 229, 230, 231, 232, 233, 234, 235, 236, 237, 238, 239, 240, 241, 242, 243, 244, 245, 246, 247, 248, 249, 250, 251, 252, 253, 254, 255, 256, 257, 258, 259, 260, 261, 262, 263, 264, 265, 266, 267, 268, 269, 270, 271, 272, 273, 274, 275, 276, 277, 278, 279, 280, 281, 282, 283, 284, 285, 286, 287, 288, 289, 290, 291, 292, 293, 294, 295, 296, 297, 298, 299, 300, 301, 302, 303, 304, 305, 306, 307, 308, 309, 310, 311, 312, 313, 314, 315, 316, 317, 318, 319, 320, 321, 322, 323, 324, 325, 326, 327, 328, 329, 330, 331, 332, 333, 334, 335, 336, 337, 338, 339, 340, 341, 342, 343, 344, 345, 346, 347, 348, 349, 350, 351, 352, 353, 354, 355, 356, 357, 358, 359, 360, 361, 362, 363, 364, 365, 366, 367, 368, 369, 370, 371, 372, 373, 374, 375, 376] (by decide +kernel) (by decide +kernel)) (goodIn_sub (fun _ h => List.mem_cons_of_mem _ (List.mem_append_left _ (List.mem_append_right _ h))) (by decide +kernel))) (goodIn_sub (fun _ h => List.mem_cons_of_mem _ (List.mem_append_right _ h)) (by decide +kernel))) (goodIn_sub (fun _ h => List.mem_cons_of_mem _ (List.mem_append_left _ (List.mem_append_left _ (List.mem_append_right _ h)))) (by decide +kernel))
set_option maxRecDepth 20000 in
theorem gL_runScript_X10_runScript : GoodIn wsL_runScript (wsV RL 161 RX10 yX10_runScript wsX10_runScript) := goodIn_app (goodIn_of _ (by decide +kernel)) ggL_runScript_X10_runScript
theorem dL_runScript_0 : decode cL_runScript 0 = .ok (.aload_n 1, 1) := by decide +kernel
theorem dL_runScript_1 : decode cL_runScript 1 = .ok (.iconst 0, 1) := by decide +kernel
theorem dL_runScript_2 : decode cL_runScript 2 = .ok (.aload_n 0, 1) := by decide +kernel
theorem dL_runScript_3 : decode cL_runScript 3 = .ok (.invokevirtual 161, 3) := by decide +kernel
theorem dL_runScript_6 : decode cL_runScript 6 = .ok (.i2l, 1) := by decide +kernel
theorem dL_runScript_7 : decode cL_runScript 7 = .ok (.lastore, 1) := by decide +kernel
theorem dL_runScript_8 : decode cL_runScript 8 = .ok (.goto 9, 3) := by decide +kernel
theorem dL_runScript_11 : decode cL_runScript 11 = .ok (.astore_n 2, 1) := by decide +kernel
theorem dL_runScript_12 : decode cL_runScript 12 = .ok (.iconst 1, 1) := by decide +kernel
theorem dL_runScript_13 : decode cL_runScript 13 = .ok (.ireturn, 1) := by decide +kernel
theorem dL_runScript_14 : decode cL_runScript 14 = .ok (.astore_n 2, 1) := by decide +kernel
theorem dL_runScript_15 : decode cL_runScript 15 = .ok (.iconst 2, 1) := by decide +kernel
theorem dL_runScript_16 : decode cL_runScript 16 = .ok (.ireturn, 1) := by decide +kernel
theorem dL_runScript_17 : decode cL_runScript 17 = .ok (.iconst 0, 1) := by decide +kernel
theorem dL_runScript_18 : decode cL_runScript 18 = .ok (.ireturn, 1) := by decide +kernel
set_option maxRecDepth 20000 in
theorem ggL_errorPosition_X10_errorPosition : GoodIn wsL_errorPosition wsX10_errorPosition := goodIn_ca (goodIn_r _ [6, 7, 8, 9, 10, 11, 12, 13, 14, 15, 16, 17, 18, 19, 20, 21, 22] (by decide +kernel) (by decide +kernel)) (goodIn_sub (fun _ h => List.mem_cons_of_mem _ (List.mem_append_right _ h)) (by decide +kernel))
set_option maxRecDepth 20000 in
theorem gL_errorPosition_X10_errorPosition : GoodIn wsL_errorPosition (wsV RL 165 RX10 yX10_errorPosition wsX10_errorPosition) := goodIn_app (goodIn_of _ (by decide +kernel)) ggL_errorPosition_X10_errorPosition
theorem dL_errorPosition_0 : decode cL_errorPosition 0 = .ok (.aload_n 1, 1) := by decide +kernel
theorem dL_errorPosition_1 : decode cL_errorPosition 1 = .ok (.iconst 0, 1) := by decide +kernel
theorem dL_errorPosition_2 : decode cL_errorPosition 2 = .ok (.aload_n 0, 1) := by decide +kernel
theorem dL_errorPosition_3 : decode cL_errorPosition 3 = .ok (.invokevirtual 165, 3) := by decide +kernel
theorem dL_errorPosition_6 : decode cL_errorPosition 6 = .ok (.i2l, 1) := by decide +kernel
theorem dL_errorPosition_7 : decode cL_errorPosition 7 = .ok (.lastore, 1) := by decide +kernel
theorem dL_errorPosition_8 : decode cL_errorPosition 8 = .ok (.goto 6, 3) := by decide +kernel
theorem dL_errorPosition_11 : decode cL_errorPosition 11 = .ok (.astore_n 2, 1) := by decide +kernel
theorem dL_errorPosition_12 : decode cL_errorPosition 12 = .ok (.iconst 1, 1) := by decide +kernel
theorem dL_errorPosition_13 : decode cL_errorPosition 13 = .ok (.ireturn, 1) := by decide +kernel
theorem dL_errorPosition_14 : decode cL_errorPosition 14 = .ok (.iconst 0, 1) := by decide +kernel
theorem dL_errorPosition_15 : decode cL_errorPosition 15 = .ok (.ireturn, 1) := by decide +kernel
set_option maxRecDepth 20000 in
theorem ggL_failedCommand_X10_failedCommand : GoodIn wsL_failedCommand wsX10_failedCommand := goodIn_ca (goodIn_r _ [6, 7, 8, 9, 10, 11, 12, 13, 14, 15, 16, 17, 18, 19, 20, 21, 22] (by decide +kernel) (by decide +kernel)) (goodIn_sub (fun _ h => List.mem_cons_of_mem _ (List.mem_append_right _ h)) (by decide +kernel))
set_option maxRecDepth 20000 in
theorem gL_failedCommand_X10_failedCommand : GoodIn wsL_failedCommand (wsV RL 168 RX10 yX10_failedCommand wsX10_failedCommand) := goodIn_app (goodIn_of _ (by decide +kernel)) ggL_failedCommand_X10_failedCommand
theorem dL_failedCommand_0 : decode cL_failedCommand 0 = .ok (.aload_n 1, 1) := by decide +kernel
theorem dL_failedCommand_1 : decode cL_failedCommand 1 = .ok (.iconst 0, 1) := by decide +kernel
theorem dL_failedCommand_2 : decode cL_failedCommand 2 = .ok (.aload_n 0, 1) := by decide +kernel
theorem dL_failedCommand_3 : decode cL_failedCommand 3 = .ok (.invokevirtual 168, 3) := by decide +kernel
theorem dL_failedCommand_6 : decode cL_failedCommand 6 = .ok (.i2l, 1) := by decide +kernel
theorem dL_failedCommand_7 : decode cL_failedCommand 7 = .ok (.lastore, 1) := by decide +kernel
theorem dL_failedCommand_8 : decode cL_failedCommand 8 = .ok (.goto 6, 3) := by decide +kernel
theorem dL_failedCommand_11 : decode cL_failedCommand 11 = .ok (.astore_n 2, 1) := by decide +kernel
theorem dL_failedCommand_12 : decode cL_failedCommand 12 = .ok (.iconst 1, 1) := by decide +kernel
theorem dL_failedCommand_13 : decode cL_failedCommand 13 = .ok (.ireturn, 1) := by decide +kernel
theorem dL_failedCommand_14 : decode cL_failedCommand 14 = .ok (.iconst 0, 1) := by decide +kernel
theorem dL_failedCommand_15 : decode cL_failedCommand 15 = .ok (.ireturn, 1) := by decide +kernel
set_option maxRecDepth 20000 in
theorem ggL_undo_X10_undo : GoodIn wsL_undo wsX10_undo := goodIn_ca (goodIn_ca (goodIn_r _ [6, 7, 8, 9, 10, 11, 12, 13, 14, 15, 16, 17, 18, 19, 20, 21, 22, 23, 24, 25, 26, 27, 28, 29, 30, 31, 32, 33, 34, 35, 36, 37, 38, 39, 40, 41, 42, 43, 44, 45, 46, 47, 48, 49, 50, 51, 52, 53, 54, 55, 56, 57, 58, 59, 60, 61, 62, 63, 64, 65, 66, 67, 68, 69, 70, 71, 72, 73, 74] (by decide +kernel) (by decide +kernel)) (goodIn_sub (fun _ h => List.mem_cons_of_mem _ (List.mem_append_right _ h)) (by decide +kernel))) (goodIn_sub (fun _ h => List.mem_cons_of_mem _ (List.mem_append_left _ (List.mem_append_right _ h))) (by decide +kernel))
set_option maxRecDepth 20000 in
theorem gL_undo_X10_undo : GoodIn wsL_undo (wsV RL 171 RX10 yX10_undo wsX10_undo) := goodIn_app (goodIn_of _ (by decide +kernel)) ggL_undo_X10_undo
theorem dL_undo_0 : decode cL_undo 0 = .ok (.aload_n 1, 1) := by decide +kernel
theorem dL_undo_1 : decode cL_undo 1 = .ok (.iconst 0, 1) := by decide +kernel
theorem dL_undo_2 : decode cL_undo 2 = .ok (.aload_n 0, 1) := by decide +kernel
theorem dL_undo_3 : decode cL_undo 3 = .ok (.invokevirtual 171, 3) := by decide +kernel
theorem dL_undo_6 : decode cL_undo 6 = .ok (.i2l, 1) := by decide +kernel
theorem dL_undo_7 : decode cL_undo 7 = .ok (.lastore, 1) := by decide +kernel
theorem dL_undo_8 : decode cL_undo 8 = .ok (.goto 6, 3) := by decide +kernel
theorem dL_undo_11 : decode cL_undo 11 = .ok (.astore_n 2, 1) := by decide +kernel
theorem dL_undo_12 : decode cL_undo 12 = .ok (.iconst 1, 1) := by decide +kernel
theorem dL_undo_13 : decode cL_undo 13 = .ok (.ireturn, 1) := by decide +kernel
theorem dL_undo_14 : decode cL_undo 14 = .ok (.iconst 0, 1) := by decide +kernel
theorem dL_undo_15 : decode cL_undo 15 = .ok (.ireturn, 1) := by decide +kernel
set_option maxRecDepth 20000 in
theorem ggL_restore_X10_restore : GoodIn wsL_restore wsX10_restore := goodIn_ca (goodIn_ca (goodIn_r _ [6, 7, 8, 9, 10, 11, 12, 13, 14, 15, 16, 17, 18, 19, 20, 21, 22, 23, 24, 25, 26, 27, 28, 29, 30, 31, 32, 33, 34, 35, 36, 37, 38, 39, 40, 41, 42, 43, 44, 45, 46, 47, 48, 49, 50, 51, 52, 53, 54, 55, 56, 57, 58, 59, 60, 61, 62, 63, 64, 65, 66, 67, 68, 69, 70, 71, 72, 73, 74] (by decide +kernel) (by decide +kernel)) (goodIn_sub (fun _ h => List.mem_cons_of_mem _ (List.mem_append_right _ h)) (by decide +kernel))) (goodIn_sub (fun _ h => List.mem_cons_of_mem _ (List.mem_append_left _ (List.mem_append_right _ h))) (by decide +kernel))
set_option maxRecDepth 20000 in
theorem gL_restore_X10_restore : GoodIn wsL_restore (wsV RL 174 RX10 yX10_restore wsX10_restore) := goodIn_app (goodIn_of _ (by decide +kernel)) ggL_restore_X10_restore
theorem dL_restore_0 : decode cL_restore 0 = .ok (.aload_n 1, 1) := by decide +kernel
theorem dL_restore_1 : decode cL_restore 1 = .ok (.iconst 0, 1) := by decide +kernel
theorem dL_restore_2 : decode cL_restore 2 = .ok (.aload_n 0, 1) := by decide +kernel
theorem dL_restore_3 : decode cL_restore 3 = .ok (.invokevirtual 174, 3) := by decide +kernel
theorem dL_restore_6 : decode cL_restore 6 = .ok (.i2l, 1) := by decide +kernel
theorem dL_restore_7 : decode cL_restore 7 = .ok (.lastore, 1) := by decide +kernel
theorem dL_restore_8 : decode cL_restore 8 = .ok (.goto 6, 3) := by decide +kernel
theorem dL_restore_11 : decode cL_restore 11 = .ok (.astore_n 2, 1) := by decide +kernel
theorem dL_restore_12 : decode cL_restore 12 = .ok (.iconst 1, 1) := by decide +kernel
theorem dL_restore_13 : decode cL_restore 13 = .ok (.ireturn, 1) := by decide +kernel
theorem dL_restore_14 : decode cL_restore 14 = .ok (.iconst 0, 1) := by decide +kernel
theorem dL_restore_15 : decode cL_restore 15 = .ok (.ireturn, 1) := by decide +kernel
set_option maxRecDepth 20000 in
theorem ggL_law_X10_init : GoodIn wsL_law wsX10_init := goodIn_r _ [10, 11, 12, 13, 14, 15, 16, 17, 18, 19, 20, 21, 22, 23, 24, 25, 26, 27, 28, 29, 30, 31, 32, 33, 34, 35, 36, 37, 38, 39, 40, 41, 42, 43, 44, 45, 46, 47, 48, 49, 50, 51, 52, 53, 54, 55, 6, 56, 57, 58, 59, 60, 61, 62, 63, 64, 65, 66, 67, 68, 69, 70, 71, 72, 73, 74, 75, 76, 77, 78, 79, 80, 81, 82, 83, 84, 85, 86, 87, 88, 89, 90, 91, 92, 93, 94, 95, 96, 97, 98, 99, 100, 101, 102, 103, 104, 105, 106, 107, 108, 109, 110, 111, 112, 113, 114, 115, 116, 117, 118, 119, 120, 121, 122, 123, 124, 125, 126, 127, 128, 129, 130, 131, 132, 133, 134, 135, 136, 137, 138, 139, 140, 141, 1656, 1657, 1658, 1659, 1660, 1661, 1662, 1663, 1664, 1665, 1666, 1667, 1668, 1669, 1670, 1671, 1672, 1625, 1626, 1627, 1628, 1629, 1630, 1631, 1632, 1633, 1634, 1635, 1636, 1637, 1673, 1674, 1675, 1676, 1677, 1678, 1679, 1680, 1681, 1682, 1683, 1684, 1685, 1686, 1687, 1688, 1689, 1690, 1691, 1692, 1693, 1694, 1695, 1696, 1697, 1698, 1699, 1700] (by decide +kernel) (by decide +kernel)
set_option maxRecDepth 20000 in
theorem gL_law_X10_init : GoodIn wsL_law (wsX10_init) := ggL_law_X10_init
set_option maxRecDepth 20000 in
theorem ggL_law_X11_init : GoodIn wsL_law wsX11_init := goodIn_ca (goodIn_r _ [144, 145, 12, 13, 6, 146, 147, 148, 149, 64, 150, 151, 152, 153, 154, 57, 155, 54, 156, 157, 1638, 1639, 1640, 1641, 1642, 1643, 1644, 1645, 1646, 1647, 1648, 1649, 1650, 1651, 1652, 1653, 1654, 1655] (by decide +kernel) (by decide +kernel)) (goodIn_sub (fun _ h => List.mem_append_left _ (List.mem_append_left _ (List.mem_append_left _ (List.mem_append_left _ (List.mem_append_left _ (List.mem_append_left _ (List.mem_append_left _ (List.mem_append_right _ h)))))))) (by decide +kernel))
set_option maxRecDepth 20000 in
theorem gL_law_X11_init : GoodIn wsL_law (wsX11_init) := ggL_law_X11_init
set_option maxRecDepth 20000 in
theorem ggL_law_L_addGear : GoodIn wsL_law wsL_addGear := goodIn_ca (goodIn_ca (goodIn_ca (goodIn_ca (goodIn_ca (goodIn_ca (goodIn_r _ [161, 162, 163, 164, 165, 166, 2, 167, 18, 17, 32, 168, 169, 170, 16, 171, 55, 56, 58, 59, 60, 61, 62, 63, 65, 66, 67, 68, 69, 70, 71, 72, 73, 172, 173, 174, 31, 175, 92, 176, 177, 178, 179, 180, 181, 182, 183, 184, 24, 185, 186, 187, 188, 189, 190, 191, 192, 193, 194, 195, 196, 197, 198, 199, 200, 23, 201, 81, 80, 79, 202, 1625, 1626, 1627, 1628, 1629, 1630, 1631, 1632, 1633, 1634, 1635, 1636, 1637, 1656, 1657, 1658, 1659, 1660, 1661, 1662, 1663, 1664, 1665, 1666, 1667, 1668, 1669, 1670, 1671, 1672, 1679, 1680, 1673, 1674, 1675] (by decide +kernel) (by decide +kernel)) (goodIn_sub (fun _ h => List.mem_append_left _ (List.mem_append_left _ (List.mem_append_left _ (List.mem_append_left _ (List.mem_append_left _ (List.mem_append_left _ (List.mem_append_left _ (List.mem_append_right _ h)))))))) (by decide +kernel))) (goodIn_sub (fun _ h => List.mem_append_left _ (List.mem_append_left _ (List.mem_append_left _ (List.mem_append_left _ (List.mem_append_left _ (List.mem_append_left _ (List.mem_append_right _ h))))))) (by decide +kernel))) (goodIn_sub (fun _ h => List.mem_append_left _ (List.mem_append_left _ (List.mem_append_left _ (List.mem_append_left _ (List.mem_append_left _ (List.mem_append_right _ h)))))) (by decide +kernel))) (goodIn_sub (fun _ h => List.mem_append_left _ (List.mem_append_left _ (List.mem_append_left _ (List.mem_append_left _ (List.mem_append_right _ h))))) (by decide +kernel))) (goodIn_sub (fun _ h => List.mem_append_left _ (List.mem_append_left _ (List.mem_append_left _ (List.mem_append_right _ h)))) (by decide +kernel))) (goodIn_sub (fun _ h => List.mem_append_left _ (List.mem_append_left _ (List.mem_append_right _ h))) (by decide +kernel))
set_option maxRecDepth 20000 in
theorem gL_law_L_addGear : GoodIn wsL_law (va_wsS RL 181 yL_addGear wsL_addGear) := goodIn_app (goodIn_of _ (by decide +kernel)) ggL_law_L_addGear
set_option maxRecDepth 20000 in
theorem ggL_law_X11_addGear : GoodIn wsL_law wsX11_addGear := goodIn_ca (goodIn_r _ [206, 207, 208, 209, 5, 210, 146, 147, 211, 212, 213, 214, 215, 216, 217, 218, 219, 220, 221, 222, 223, 224, 225, 226, 227, 228, 229, 230, 231, 232, 233, 234, 235, 236, 237, 238, 148, 1638, 1639, 1640, 1641, 1642, 1643, 1644, 1645, 1646, 1647, 1648, 1649, 1650, 1651, 1652, 1653, 1654, 1655] (by decide +kernel) (by decide +kernel)) (goodIn_sub (fun _ h => List.mem_append_left _ (List.mem_append_left _ (List.mem_append_left _ (List.mem_append_left _ (List.mem_append_left _ (List.mem_append_left _ (List.mem_append_left _ (List.mem_append_right _ h)))))))) (by decide +kernel))
set_option maxRecDepth 20000 in
theorem gL_law_X11_addGear : GoodIn wsL_law (wsV RL 186 RX11 yX11_addGear wsX11_addGear) := goodIn_app (goodIn_of _ (by decide +kernel)) ggL_law_X11_addGear
set_option maxRecDepth 20000 in
theorem ggL_law_X11_thrown : GoodIn wsL_law wsX11_thrown := goodIn_r _ [242, 225, 1638, 1639, 1640, 1641, 1642, 1643, 1644, 1645, 1646, 1647, 1648, 1649, 1650, 1651, 1652, 1653, 1654, 1655] (by decide +kernel) (by decide +kernel)
set_option maxRecDepth 20000 in
theorem gL_law_X11_thrown : GoodIn wsL_law (wsV RL 187 RX11 yX11_thrown wsX11_thrown) := goodIn_app (goodIn_of _ (by decide +kernel)) ggL_law_X11_thrown
set_option maxRecDepth 20000 in
theorem ggL_law_L_mesh : GoodIn wsL_law wsL_mesh := goodIn_ca (goodIn_ca (goodIn_ca (goodIn_ca (goodIn_ca (goodIn_ca (goodIn_r _ [245, 246, 162, 163, 247, 248, 249, 250, 2, 251, 18, 17, 32, 168, 169, 170, 16, 171, 55, 56, 58, 59, 60, 61, 62, 63, 65, 66, 67, 68, 69, 70, 71, 72, 73, 252, 253, 254, 31, 255, 92, 93, 256, 257, 258, 259, 260, 261, 262, 263, 264, 265, 266, 27, 267, 85, 87, 268, 86, 269, 270, 271, 272, 273, 274, 275, 276, 277, 278, 279, 280, 281, 282, 283, 284, 285, 286, 287, 288, 289, 290, 291, 292, 293, 294, 295, 296, 297, 298, 299, 300, 301, 302, 303, 304, 305, 306, 307, 308, 181, 182, 183, 184, 24, 185, 186, 187, 188, 189, 190, 191, 192, 193, 194, 195, 196, 197, 198, 199, 200, 23, 201, 81, 80, 79, 202, 1625, 1626, 1627, 1628, 1629, 1630, 1631, 1632, 1633, 1634, 1635, 1636, 1637, 1656, 1657, 1658, 1659, 1660, 1661, 1662, 1663, 1664, 1665, 1666, 1667, 1668, 1669, 1670, 1671, 1672, 1679, 1680, 1676, 1677, 1678, 1673, 1674, 1675] (by decide +kernel) (by decide +kernel)) (goodIn_sub (fun _ h => List.mem_append_left _ (List.mem_append_left _ (List.mem_append_left _ (List.mem_append_left _ (List.mem_append_left _ (List.mem_append_left _ (List.mem_append_left _ (List.mem_append_right _ h)))))))) (by decide +kernel))) (goodIn_sub (fun _ h => List.mem_append_left _ (List.mem_append_left _ (List.mem_append_left _ (List.mem_append_left _ (List.mem_append_left _ (List.mem_append_left _ (List.mem_append_right _ h))))))) (by decide +kernel))) (goodIn_sub (fun _ h => List.mem_append_left _ (List.mem_append_left _ (List.mem_append_left _ (List.mem_append_left _ (List.mem_append_left _ (List.mem_append_right _ h)))))) (by decide +kernel))) (goodIn_sub (fun _ h => List.mem_append_left _ (List.mem_append_left _ (List.mem_append_left _ (List.mem_append_left _ (List.mem_append_right _ h))))) (by decide +kernel))) (goodIn_sub (fun _ h => List.mem_append_left _ (List.mem_append_left _ (List.mem_append_left _ (List.mem_append_right _ h)))) (by decide +kernel))) (goodIn_sub (fun _ h => List.mem_append_left _ (List.mem_append_left _ (List.mem_append_right _ h))) (by decide +kernel))
set_option maxRecDepth 20000 in
theorem gL_law_L_mesh : GoodIn wsL_law (va_wsS RL 190 yL_mesh wsL_mesh) := goodIn_app (goodIn_of _ (by decide +kernel)) ggL_law_L_mesh
set_option maxRecDepth 20000 in
theorem ggL_law_X11_mesh : GoodIn wsL_law wsX11_mesh := goodIn_ca (goodIn_ca (goodIn_r _ [312, 207, 208, 209, 5, 210, 146, 147, 211, 212, 213, 313, 314, 315, 316, 317, 318, 155, 154, 319, 320, 321, 322, 323, 324, 325, 326, 226, 227, 228, 229, 327, 328, 329, 221, 222, 223, 224, 225, 330, 331, 332, 333, 334, 335, 336, 337, 338, 339, 340, 341, 342, 343, 344, 345, 346, 347, 348, 349, 350, 351, 352, 353, 354, 355, 356, 357, 358, 359, 360, 361, 230, 231, 232, 233, 234, 235, 236, 237, 238, 148, 1638, 1639, 1640, 1641, 1642, 1643, 1644, 1645, 1646, 1647, 1648, 1649, 1650, 1651, 1652, 1653, 1654, 1655] (by decide +kernel) (by decide +kernel)) (goodIn_sub (fun _ h => List.mem_append_left _ (List.mem_append_left _ (List.mem_append_left _ (List.mem_append_left _ (List.mem_append_left _ (List.mem_append_left _ (List.mem_append_left _ (List.mem_append_right _ h)))))))) (by decide +kernel))) (goodIn_sub (fun _ h => List.mem_append_left _ (List.mem_append_right _ h)) (by decide +kernel))
set_option maxRecDepth 20000 in
theorem gL_law_X11_mesh : GoodIn wsL_law (wsV RL 193 RX11 yX11_mesh wsX11_mesh) := goodIn_app (goodIn_of _ (by decide +kernel)) ggL_law_X11_mesh
set_option maxRecDepth 20000 in
theorem ggL_law_L_shareAxle : GoodIn wsL_law wsL_shareAxle := goodIn_ca (goodIn_ca (goodIn_ca (goodIn_ca (goodIn_ca (goodIn_ca (goodIn_r _ [364, 246, 162, 163, 247, 365, 366, 367, 2, 368, 18, 17, 32, 168, 169, 170, 16, 171, 55, 56, 58, 59, 60, 61, 62, 63, 65, 66, 67, 68, 69, 70, 71, 72, 73, 252, 253, 254, 31, 255, 92, 93, 256, 257, 258, 259, 260, 261, 262, 263, 264, 265, 266, 27, 267, 85, 87, 268, 86, 269, 270, 271, 272, 273, 274, 275, 276, 277, 278, 279, 280, 281, 282, 283, 284, 285, 286, 287, 288, 289, 290, 291, 292, 293, 294, 295, 296, 297, 298, 299, 300, 301, 302, 303, 304, 305, 306, 307, 308, 181, 182, 183, 184, 24, 185, 186, 187, 188, 189, 190, 191, 192, 193, 194, 195, 196, 197, 198, 199, 200, 23, 201, 81, 80, 79, 202, 1625, 1626, 1627, 1628, 1629, 1630, 1631, 1632, 1633, 1634, 1635, 1636, 1637, 1656, 1657, 1658, 1659, 1660, 1661, 1662, 1663, 1664, 1665, 1666, 1667, 1668, 1669, 1670, 1671, 1672, 1679, 1680, 1676, 1677, 1678, 1673, 1674, 1675] (by decide +kernel) (by decide +kernel)) (goodIn_sub (fun _ h => List.mem_append_left _ (List.mem_append_left _ (List.mem_append_left _ (List.mem_append_left _ (List.mem_append_left _ (List.mem_append_left _ (List.mem_append_left _ (List.mem_append_right _ h)))))))) (by decide +kernel))) (goodIn_sub (fun _ h => List.mem_append_left _ (List.mem_append_left _ (List.mem_append_left _ (List.mem_append_left _ (List.mem_append_left _ (List.mem_append_left _ (List.mem_append_right _ h))))))) (by decide +kernel))) (goodIn_sub (fun _ h => List.mem_append_left _ (List.mem_append_left _ (List.mem_append_left _ (List.mem_append_left _ (List.mem_append_left _ (List.mem_append_right _ h)))))) (by decide +kernel))) (goodIn_sub (fun _ h => List.mem_append_left _ (List.mem_append_left _ (List.mem_append_left _ (List.mem_append_left _ (List.mem_append_right _ h))))) (by decide +kernel))) (goodIn_sub (fun _ h => List.mem_append_left _ (List.mem_append_left _ (List.mem_append_left _ (List.mem_append_right _ h)))) (by decide +kernel))) (goodIn_sub (fun _ h => List.mem_append_left _ (List.mem_append_left _ (List.mem_append_right _ h))) (by decide +kernel))
set_option maxRecDepth 20000 in
theorem gL_law_L_shareAxle : GoodIn wsL_law (va_wsS RL 194 yL_shareAxle wsL_shareAxle) := goodIn_app (goodIn_of _ (by decide +kernel)) ggL_law_L_shareAxle
set_option maxRecDepth 20000 in
theorem ggL_law_X11_shareAxle : GoodIn wsL_law wsX11_shareAxle := goodIn_ca (goodIn_ca (goodIn_r _ [372, 207, 208, 209, 5, 210, 146, 147, 211, 212, 213, 313, 314, 315, 316, 317, 318, 155, 154, 319, 320, 321, 322, 323, 324, 325, 326, 226, 227, 228, 229, 327, 328, 329, 221, 222, 223, 224, 225, 330, 331, 332, 333, 334, 335, 336, 337, 338, 339, 340, 341, 342, 343, 344, 345, 346, 347, 348, 349, 350, 351, 352, 353, 354, 355, 356, 357, 358, 359, 360, 361, 230, 231, 232, 233, 234, 235, 236, 237, 238, 148, 1638, 1639, 1640, 1641, 1642, 1643, 1644, 1645, 1646, 1647, 1648, 1649, 1650, 1651, 1652, 1653, 1654, 1655] (by decide +kernel) (by decide +kernel)) (goodIn_sub (fun _ h => List.mem_append_left _ (List.mem_append_left _ (List.mem_append_left _ (List.mem_append_left _ (List.mem_append_left _ (List.mem_append_left _ (List.mem_append_left _ (List.mem_append_right _ h)))))))) (by decide +kernel))) (goodIn_sub (fun _ h => List.mem_append_left _ (List.mem_append_right _ h)) (by decide +kernel))
set_option maxRecDepth 20000 in
theorem gL_law_X11_shareAxle : GoodIn wsL_law (wsV RL 196 RX11 yX11_shareAxle wsX11_shareAxle) := goodIn_app (goodIn_of _ (by decide +kernel)) ggL_law_X11_shareAxle
set_option maxRecDepth 20000 in
theorem ggL_law_L_separate : GoodIn wsL_law wsL_separate := goodIn_ca (goodIn_ca (goodIn_ca (goodIn_ca (goodIn_ca (goodIn_ca (goodIn_r _ [375, 246, 376, 377, 378, 379, 2, 380, 18, 17, 32, 168, 169, 170, 16, 171, 55, 56, 58, 59, 60, 61, 62, 63, 65, 66, 67, 68, 69, 70, 71, 72, 73, 381, 382, 383, 31, 384, 92, 256, 260, 261, 262, 263, 303, 275, 276, 277, 305, 306, 307, 308, 181, 182, 183, 184, 24, 185, 186, 187, 188, 189, 190, 191, 192, 193, 194, 195, 196, 197, 198, 199, 200, 23, 201, 81, 80, 79, 202, 1625, 1626, 1627, 1628, 1629, 1630, 1631, 1632, 1633, 1634, 1635, 1636, 1637, 1656, 1657, 1658, 1659, 1660, 1661, 1662, 1663, 1664, 1665, 1666, 1667, 1668, 1669, 1670, 1671, 1672, 1679, 1680, 1673, 1674, 1675] (by decide +kernel) (by decide +kernel)) (goodIn_sub (fun _ h => List.mem_append_left _ (List.mem_append_left _ (List.mem_append_left _ (List.mem_append_left _ (List.mem_append_left _ (List.mem_append_left _ (List.mem_append_left _ (List.mem_append_right _ h)))))))) (by decide +kernel))) (goodIn_sub (fun _ h => List.mem_append_left _ (List.mem_append_left _ (List.mem_append_left _ (List.mem_append_left _ (List.mem_append_left _ (List.mem_append_left _ (List.mem_append_right _ h))))))) (by decide +kernel))) (goodIn_sub (fun _ h => List.mem_append_left _ (List.mem_append_left _ (List.mem_append_left _ (List.mem_append_left _ (List.mem_append_left _ (List.mem_append_right _ h)))))) (by decide +kernel))) (goodIn_sub (fun _ h => List.mem_append_left _ (List.mem_append_left _ (List.mem_append_left _ (List.mem_append_left _ (List.mem_append_right _ h))))) (by decide +kernel))) (goodIn_sub (fun _ h => List.mem_append_left _ (List.mem_append_left _ (List.mem_append_left _ (List.mem_append_right _ h)))) (by decide +kernel))) (goodIn_sub (fun _ h => List.mem_append_left _ (List.mem_append_left _ (List.mem_append_right _ h))) (by decide +kernel))
set_option maxRecDepth 20000 in
theorem gL_law_L_separate : GoodIn wsL_law (va_wsS RL 197 yL_separate wsL_separate) := goodIn_app (goodIn_of _ (by decide +kernel)) ggL_law_L_separate
set_option maxRecDepth 20000 in
theorem ggL_law_X11_separate : GoodIn wsL_law wsX11_separate := goodIn_ca (goodIn_r _ [388, 207, 208, 209, 5, 210, 146, 147, 211, 212, 213, 389, 390, 391, 392, 319, 320, 321, 322, 323, 324, 325, 326, 226, 227, 228, 229, 327, 328, 329, 221, 222, 223, 224, 225, 330, 331, 332, 333, 334, 335, 336, 337, 230, 231, 232, 233, 234, 235, 236, 237, 238, 148, 1638, 1639, 1640, 1641, 1642, 1643, 1644, 1645, 1646, 1647, 1648, 1649, 1650, 1651, 1652, 1653, 1654, 1655] (by decide +kernel) (by decide +kernel)) (goodIn_sub (fun _ h => List.mem_append_left _ (List.mem_append_left _ (List.mem_append_left _ (List.mem_append_left _ (List.mem_append_left _ (List.mem_append_left _ (List.mem_append_left _ (List.mem_append_right _ h)))))))) (by decide +kernel))
set_option maxRecDepth 20000 in
theorem gL_law_X11_separate : GoodIn wsL_law (wsV RL 199 RX11 yX11_separate wsX11_separate) := goodIn_app (goodIn_of _ (by decide +kernel)) ggL_law_X11_separate
set_option maxRecDepth 20000 in
theorem ggL_law_L_setSpring : GoodIn wsL_law wsL_setSpring := goodIn_ca (goodIn_ca (goodIn_ca (goodIn_ca (goodIn_ca (goodIn_ca (goodIn_r _ [395, 246, 162, 163, 396, 397, 398, 2, 399, 18, 17, 32, 168, 169, 170, 16, 171, 55, 56, 58, 59, 60, 61, 62, 63, 65, 66, 67, 68, 69, 70, 71, 72, 73, 400, 401, 402, 31, 403, 92, 93, 404, 260, 261, 262, 263, 264, 265, 266, 27, 267, 85, 87, 268, 86, 269, 270, 271, 272, 273, 274, 275, 276, 277, 278, 279, 280, 281, 282, 283, 284, 285, 286, 287, 288, 289, 290, 291, 292, 293, 294, 295, 296, 297, 298, 299, 300, 301, 405, 406, 407, 408, 409, 181, 182, 183, 184, 24, 185, 186, 187, 188, 189, 190, 191, 192, 193, 194, 195, 196, 197, 198, 199, 200, 23, 201, 81, 80, 79, 202, 1625, 1626, 1627, 1628, 1629, 1630, 1631, 1632, 1633, 1634, 1635, 1636, 1637, 1656, 1657, 1658, 1659, 1660, 1661, 1662, 1663, 1664, 1665, 1666, 1667, 1668, 1669, 1670, 1671, 1672, 1679, 1680, 1676, 1677, 1678, 1673, 1674, 1675] (by decide +kernel) (by decide +kernel)) (goodIn_sub (fun _ h => List.mem_append_left _ (List.mem_append_left _ (List.mem_append_left _ (List.mem_append_left _ (List.mem_append_left _ (List.mem_append_left _ (List.mem_append_left _ (List.mem_append_right _ h)))))))) (by decide +kernel))) (goodIn_sub (fun _ h => List.mem_append_left _ (List.mem_append_left _ (List.mem_append_left _ (List.mem_append_left _ (List.mem_append_left _ (List.mem_append_left _ (List.mem_append_right _ h))))))) (by decide +kernel))) (goodIn_sub (fun _ h => List.mem_append_left _ (List.mem_append_left _ (List.mem_append_left _ (List.mem_append_left _ (List.mem_append_left _ (List.mem_append_right _ h)))))) (by decide +kernel))) (goodIn_sub (fun _ h => List.mem_append_left _ (List.mem_append_left _ (List.mem_append_left _ (List.mem_append_left _ (List.mem_append_right _ h))))) (by decide +kernel))) (goodIn_sub (fun _ h => List.mem_append_left _ (List.mem_append_left _ (List.mem_append_left _ (List.mem_append_right _ h)))) (by decide +kernel))) (goodIn_sub (fun _ h => List.mem_append_left _ (List.mem_append_left _ (List.mem_append_right _ h))) (by decide +kernel))
set_option maxRecDepth 20000 in
theorem gL_law_L_setSpring : GoodIn wsL_law (va_wsS RL 200 yL_setSpring wsL_setSpring) := goodIn_app (goodIn_of _ (by decide +kernel)) ggL_law_L_setSpring
set_option maxRecDepth 20000 in
theorem ggL_law_X11_setSpring : GoodIn wsL_law wsX11_setSpring := goodIn_ca (goodIn_ca (goodIn_r _ [413, 207, 208, 209, 5, 210, 146, 147, 211, 212, 213, 414, 415, 416, 417, 323, 324, 325, 326, 226, 227, 228, 229, 327, 328, 329, 221, 222, 223, 224, 225, 342, 343, 344, 345, 155, 154, 317, 346, 347, 348, 349, 330, 331, 332, 333, 350, 351, 352, 353, 354, 355, 356, 357, 230, 231, 232, 233, 234, 235, 236, 237, 238, 148, 1638, 1639, 1640, 1641, 1642, 1643, 1644, 1645, 1646, 1647, 1648, 1649, 1650, 1651, 1652, 1653, 1654, 1655] (by decide +kernel) (by decide +kernel)) (goodIn_sub (fun _ h => List.mem_append_left _ (List.mem_append_left _ (List.mem_append_left _ (List.mem_append_left _ (List.mem_append_left _ (List.mem_append_left _ (List.mem_append_left _ (List.mem_append_right _ h)))))))) (by decide +kernel))) (goodIn_sub (fun _ h => List.mem_append_left _ (List.mem_append_right _ h)) (by decide +kernel))
set_option maxRecDepth 20000 in
theorem gL_law_X11_setSpring : GoodIn wsL_law (wsV RL 202 RX11 yX11_setSpring wsX11_setSpring) := goodIn_app (goodIn_of _ (by decide +kernel)) ggL_law_X11_setSpring
set_option maxRecDepth 20000 in
theorem ggL_law_L_wind : GoodIn wsL_law wsL_wind := goodIn_ca (goodIn_ca (goodIn_ca (goodIn_ca (goodIn_ca (goodIn_ca (goodIn_r _ [420, 246, 162, 376, 163, 421, 422, 423, 2, 424, 18, 17, 32, 168, 169, 170, 16, 171, 55, 56, 58, 59, 60, 61, 62, 63, 65, 66, 67, 68, 69, 70, 71, 72, 73, 425, 426, 427, 31, 428, 92, 429, 404, 430, 260, 261, 262, 263, 431, 299, 300, 301, 181, 182, 183, 184, 24, 185, 186, 187, 188, 189, 190, 191, 192, 193, 194, 195, 196, 197, 198, 199, 200, 23, 201, 81, 80, 79, 202, 1625, 1626, 1627, 1628, 1629, 1630, 1631, 1632, 1633, 1634, 1635, 1636, 1637, 1656, 1657, 1658, 1659, 1660, 1661, 1662, 1663, 1664, 1665, 1666, 1667, 1668, 1669, 1670, 1671, 1672, 1679, 1680, 1673, 1674, 1675] (by decide +kernel) (by decide +kernel)) (goodIn_sub (fun _ h => List.mem_append_left _ (List.mem_append_left _ (List.mem_append_left _ (List.mem_append_left _ (List.mem_append_left _ (List.mem_append_left _ (List.mem_append_left _ (List.mem_append_right _ h)))))))) (by decide +kernel))) (goodIn_sub (fun _ h => List.mem_append_left _ (List.mem_append_left _ (List.mem_append_left _ (List.mem_append_left _ (List.mem_append_left _ (List.mem_append_left _ (List.mem_append_right _ h))))))) (by decide +kernel))) (goodIn_sub (fun _ h => List.mem_append_left _ (List.mem_append_left _ (List.mem_append_left _ (List.mem_append_left _ (List.mem_append_left _ (List.mem_append_right _ h)))))) (by decide +kernel))) (goodIn_sub (fun _ h => List.mem_append_left _ (List.mem_append_left _ (List.mem_append_left _ (List.mem_append_left _ (List.mem_append_right _ h))))) (by decide +kernel))) (goodIn_sub (fun _ h => List.mem_append_left _ (List.mem_append_left _ (List.mem_append_left _ (List.mem_append_right _ h)))) (by decide +kernel))) (goodIn_sub (fun _ h => List.mem_append_left _ (List.mem_append_left _ (List.mem_append_right _ h))) (by decide +kernel))
set_option maxRecDepth 20000 in
theorem gL_law_L_wind : GoodIn wsL_law (va_wsS RL 203 yL_wind wsL_wind) := goodIn_app (goodIn_of _ (by decide +kernel)) ggL_law_L_wind
set_option maxRecDepth 20000 in
theorem ggL_law_X11_wind : GoodIn wsL_law wsX11_wind := goodIn_ca (goodIn_r _ [435, 207, 208, 209, 5, 210, 146, 147, 211, 212, 213, 436, 437, 438, 439, 323, 324, 325, 326, 226, 227, 228, 229, 327, 328, 329, 221, 222, 223, 224, 225, 354, 355, 356, 357, 230, 231, 232, 233, 234, 235, 236, 237, 238, 148, 1638, 1639, 1640, 1641, 1642, 1643, 1644, 1645, 1646, 1647, 1648, 1649, 1650, 1651, 1652, 1653, 1654, 1655] (by decide +kernel) (by decide +kernel)) (goodIn_sub (fun _ h => List.mem_append_left _ (List.mem_append_left _ (List.mem_append_left _ (List.mem_append_left _ (List.mem_append_left _ (List.mem_append_left _ (List.mem_append_left _ (List.mem_append_right _ h)))))))) (by decide +kernel))
set_option maxRecDepth 20000 in
theorem gL_law_X11_wind : GoodIn wsL_law (wsV RL 205 RX11 yX11_wind wsX11_wind) := goodIn_app (goodIn_of _ (by decide +kernel)) ggL_law_X11_wind
set_option maxRecDepth 20000 in
theorem ggL_law_L_reverse : GoodIn wsL_law wsL_reverse := goodIn_ca (goodIn_ca (goodIn_ca (goodIn_ca (goodIn_ca (goodIn_ca (goodIn_r _ [442, 246, 376, 443, 444, 445, 2, 446, 18, 17, 32, 168, 169, 170, 16, 171, 55, 56, 58, 59, 60, 61, 62, 63, 65, 66, 67, 68, 69, 70, 71, 72, 73, 447, 448, 449, 31, 450, 92, 451, 260, 261, 262, 263, 431, 299, 300, 301, 181, 182, 183, 184, 24, 185, 186, 187, 188, 189, 190, 191, 192, 193, 194, 195, 196, 197, 198, 199, 200, 23, 201, 81, 80, 79, 202, 1625, 1626, 1627, 1628, 1629, 1630, 1631, 1632, 1633, 1634, 1635, 1636, 1637, 1656, 1657, 1658, 1659, 1660, 1661, 1662, 1663, 1664, 1665, 1666, 1667, 1668, 1669, 1670, 1671, 1672, 1679, 1680, 1673, 1674, 1675] (by decide +kernel) (by decide +kernel)) (goodIn_sub (fun _ h => List.mem_append_left _ (List.mem_append_left _ (List.mem_append_left _ (List.mem_append_left _ (List.mem_append_left _ (List.mem_append_left _ (List.mem_append_left _ (List.mem_append_right _ h)))))))) (by decide +kernel))) (goodIn_sub (fun _ h => List.mem_append_left _ (List.mem_append_left _ (List.mem_append_left _ (List.mem_append_left _ (List.mem_append_left _ (List.mem_append_left _ (List.mem_append_right _ h))))))) (by decide +kernel))) (goodIn_sub (fun _ h => List.mem_append_left _ (List.mem_append_left _ (List.mem_append_left _ (List.mem_append_left _ (List.mem_append_left _ (List.mem_append_right _ h)))))) (by decide +kernel))) (goodIn_sub (fun _ h => List.mem_append_left _ (List.mem_append_left _ (List.mem_append_left _ (List.mem_append_left _ (List.mem_append_right _ h))))) (by decide +kernel))) (goodIn_sub (fun _ h => List.mem_append_left _ (List.mem_append_left _ (List.mem_append_left _ (List.mem_append_right _ h)))) (by decide +kernel))) (goodIn_sub (fun _ h => List.mem_append_left _ (List.mem_append_left _ (List.mem_append_right _ h))) (by decide +kernel))
set_option maxRecDepth 20000 in
theorem gL_law_L_reverse : GoodIn wsL_law (va_wsS RL 206 yL_reverse wsL_reverse) := goodIn_app (goodIn_of _ (by decide +kernel)) ggL_law_L_reverse
set_option maxRecDepth 20000 in
theorem ggL_law_X11_reverse : GoodIn wsL_law wsX11_reverse := goodIn_ca (goodIn_r _ [455, 207, 208, 209, 5, 210, 146, 147, 211, 212, 213, 456, 457, 458, 459, 323, 324, 325, 326, 226, 227, 228, 229, 327, 328, 329, 221, 222, 223, 224, 225, 354, 355, 356, 357, 230, 231, 232, 233, 234, 235, 236, 237, 238, 148, 1638, 1639, 1640, 1641, 1642, 1643, 1644, 1645, 1646, 1647, 1648, 1649, 1650, 1651, 1652, 1653, 1654, 1655] (by decide +kernel) (by decide +kernel)) (goodIn_sub (fun _ h => List.mem_append_left _ (List.mem_append_left _ (List.mem_append_left _ (List.mem_append_left _ (List.mem_append_left _ (List.mem_append_left _ (List.mem_append_left _ (List.mem_append_right _ h)))))))) (by decide +kernel))
set_option maxRecDepth 20000 in
theorem gL_law_X11_reverse : GoodIn wsL_law (wsV RL 208 RX11 yX11_reverse wsX11_reverse) := goodIn_app (goodIn_of _ (by decide +kernel)) ggL_law_X11_reverse
set_option maxRecDepth 20000 in
theorem ggL_law_L_release : GoodIn wsL_law wsL_release := goodIn_ca (goodIn_ca (goodIn_ca (goodIn_ca (goodIn_ca (goodIn_ca (goodIn_r _ [462, 246, 162, 376, 247, 463, 464, 465, 2, 466, 18, 17, 32, 168, 169, 170, 16, 171, 55, 56, 58, 59, 60, 61, 62, 63, 65, 66, 67, 68, 69, 70, 71, 72, 73, 467, 468, 469, 31, 470, 92, 93, 429, 471, 472, 473, 474, 475, 476, 451, 260, 261, 262, 263, 431, 299, 300, 301, 264, 265, 266, 27, 267, 85, 87, 268, 86, 269, 270, 271, 272, 273, 274, 275, 276, 277, 278, 279, 280, 281, 282, 283, 284, 285, 286, 287, 288, 289, 477, 478, 479, 480, 481, 482, 483, 484, 485, 486, 487, 294, 295, 296, 297, 488, 489, 490, 491, 492, 176, 257, 493, 258, 494, 495, 496, 497, 498, 499, 500, 501, 502, 503, 504, 505, 506, 507, 508, 509, 181, 182, 183, 184, 24, 185, 186, 187, 188, 189, 190, 191, 192, 193, 194, 195, 196, 197, 198, 199, 200, 23, 201, 81, 80, 79, 202, 1625, 1626, 1627, 1628, 1629, 1630, 1631, 1632, 1633, 1634, 1635, 1636, 1637, 1656, 1657, 1658, 1659, 1660, 1661, 1662, 1663, 1664, 1665, 1666, 1667, 1668, 1669, 1670, 1671, 1672, 1679, 1680, 1676, 1677, 1678, 1673, 1674, 1675] (by decide +kernel) (by decide +kernel)) (goodIn_sub (fun _ h => List.mem_append_left _ (List.mem_append_left _ (List.mem_append_left _ (List.mem_append_left _ (List.mem_append_left _ (List.mem_append_left _ (List.mem_append_left _ (List.mem_append_right _ h)))))))) (by decide +kernel))) (goodIn_sub (fun _ h => List.mem_append_left _ (List.mem_append_left _ (List.mem_append_left _ (List.mem_append_left _ (List.mem_append_left _ (List.mem_append_left _ (List.mem_append_right _ h))))))) (by decide +kernel))) (goodIn_sub (fun _ h => List.mem_append_left _ (List.mem_append_left _ (List.mem_append_left _ (List.mem_append_left _ (List.mem_append_left _ (List.mem_append_right _ h)))))) (by decide +kernel))) (goodIn_sub (fun _ h => List.mem_append_left _ (List.mem_append_left _ (List.mem_append_left _ (List.mem_append_left _ (List.mem_append_right _ h))))) (by decide +kernel))) (goodIn_sub (fun _ h => List.mem_append_left _ (List.mem_append_left _ (List.mem_append_left _ (List.mem_append_right _ h)))) (by decide +kernel))) (goodIn_sub (fun _ h => List.mem_append_left _ (List.mem_append_left _ (List.mem_append_right _ h))) (by decide +kernel))
set_option maxRecDepth 20000 in
theorem gL_law_L_release : GoodIn wsL_law (va_wsS RL 209 yL_release wsL_release) := goodIn_app (goodIn_of _ (by decide +kernel)) ggL_law_L_release
set_option maxRecDepth 20000 in
theorem ggL_law_X11_release : GoodIn wsL_law wsX11_release := goodIn_ca (goodIn_ca (goodIn_r _ [513, 207, 208, 209, 5, 210, 146, 147, 211, 212, 213, 514, 515, 516, 517, 323, 324, 325, 326, 226, 227, 228, 229, 327, 328, 329, 221, 222, 223, 224, 225, 354, 355, 356, 357, 518, 519, 520, 521, 155, 342, 343, 344, 345, 154, 317, 346, 347, 348, 349, 330, 331, 332, 333, 358, 359, 360, 361, 522, 523, 524, 525, 526, 527, 528, 529, 530, 531, 532, 533, 534, 535, 536, 537, 538, 539, 540, 230, 231, 232, 233, 234, 235, 236, 237, 238, 148, 1638, 1639, 1640, 1641, 1642, 1643, 1644, 1645, 1646, 1647, 1648, 1649, 1650, 1651, 1652, 1653, 1654, 1655] (by decide +kernel) (by decide +kernel)) (goodIn_sub (fun _ h => List.mem_append_left _ (List.mem_append_left _ (List.mem_append_left _ (List.mem_append_left _ (List.mem_append_left _ (List.mem_append_left _ (List.mem_append_left _ (List.mem_append_right _ h)))))))) (by decide +kernel))) (goodIn_sub (fun _ h => List.mem_append_left _ (List.mem_append_right _ h)) (by decide +kernel))
set_option maxRecDepth 20000 in
theorem gL_law_X11_release : GoodIn wsL_law (wsV RL 211 RX11 yX11_release wsX11_release) := goodIn_app (goodIn_of _ (by decide +kernel)) ggL_law_X11_release
set_option maxRecDepth 20000 in
theorem ggL_law_L_setRatchet : GoodIn wsL_law wsL_setRatchet := goodIn_ca (goodIn_ca (goodIn_ca (goodIn_ca (goodIn_ca (goodIn_ca (goodIn_r _ [543, 246, 544, 545, 546, 2, 547, 18, 17, 32, 168, 169, 170, 16, 171, 55, 56, 58, 59, 60, 61, 62, 63, 65, 66, 67, 68, 69, 70, 71, 72, 73, 548, 549, 550, 31, 551, 92, 552, 260, 261, 262, 263, 181, 182, 183, 184, 24, 185, 186, 187, 188, 189, 190, 191, 192, 193, 194, 195, 196, 197, 198, 199, 200, 23, 201, 81, 80, 79, 202, 1625, 1626, 1627, 1628, 1629, 1630, 1631, 1632, 1633, 1634, 1635, 1636, 1637, 1656, 1657, 1658, 1659, 1660, 1661, 1662, 1663, 1664, 1665, 1666, 1667, 1668, 1669, 1670, 1671, 1672, 1679, 1680, 1673, 1674, 1675] (by decide +kernel) (by decide +kernel)) (goodIn_sub (fun _ h => List.mem_append_left _ (List.mem_append_left _ (List.mem_append_left _ (List.mem_append_left _ (List.mem_append_left _ (List.mem_append_left _ (List.mem_append_left _ (List.mem_append_right _ h)))))))) (by decide +kernel))) (goodIn_sub (fun _ h => List.mem_append_left _ (List.mem_append_left _ (List.mem_append_left _ (List.mem_append_left _ (List.mem_append_left _ (List.mem_append_left _ (List.mem_append_right _ h))))))) (by decide +kernel))) (goodIn_sub (fun _ h => List.mem_append_left _ (List.mem_append_left _ (List.mem_append_left _ (List.mem_append_left _ (List.mem_append_left _ (List.mem_append_right _ h)))))) (by decide +kernel))) (goodIn_sub (fun _ h => List.mem_append_left _ (List.mem_append_left _ (List.mem_append_left _ (List.mem_append_left _ (List.mem_append_right _ h))))) (by decide +kernel))) (goodIn_sub (fun _ h => List.mem_append_left _ (List.mem_append_left _ (List.mem_append_left _ (List.mem_append_right _ h)))) (by decide +kernel))) (goodIn_sub (fun _ h => List.mem_append_left _ (List.mem_append_left _ (List.mem_append_right _ h))) (by decide +kernel))
set_option maxRecDepth 20000 in
theorem gL_law_L_setRatchet : GoodIn wsL_law (va_wsS RL 212 yL_setRatchet wsL_setRatchet) := goodIn_app (goodIn_of _ (by decide +kernel)) ggL_law_L_setRatchet
set_option maxRecDepth 20000 in
theorem ggL_law_X11_setRatchet : GoodIn wsL_law wsX11_setRatchet := goodIn_ca (goodIn_r _ [556, 207, 208, 209, 5, 210, 146, 147, 211, 212, 213, 557, 558, 559, 560, 323, 324, 325, 326, 226, 227, 228, 229, 327, 328, 329, 221, 222, 223, 224, 225, 230, 231, 232, 233, 234, 235, 236, 237, 238, 148, 1638, 1639, 1640, 1641, 1642, 1643, 1644, 1645, 1646, 1647, 1648, 1649, 1650, 1651, 1652, 1653, 1654, 1655] (by decide +kernel) (by decide +kernel)) (goodIn_sub (fun _ h => List.mem_append_left _ (List.mem_append_left _ (List.mem_append_left _ (List.mem_append_left _ (List.mem_append_left _ (List.mem_append_left _ (List.mem_append_left _ (List.mem_append_right _ h)))))))) (by decide +kernel))
set_option maxRecDepth 20000 in
theorem gL_law_X11_setRatchet : GoodIn wsL_law (wsV RL 215 RX11 yX11_setRatchet wsX11_setRatchet) := goodIn_app (goodIn_of _ (by decide +kernel)) ggL_law_X11_setRatchet
set_option maxRecDepth 20000 in
theorem ggL_law_L_oil : GoodIn wsL_law wsL_oil := goodIn_ca (goodIn_ca (goodIn_ca (goodIn_ca (goodIn_ca (goodIn_ca (goodIn_r _ [563, 246, 163, 247, 564, 565, 566, 2, 567, 18, 17, 32, 168, 169, 170, 16, 171, 55, 56, 58, 59, 60, 61, 62, 63, 65, 66, 67, 68, 69, 70, 71, 72, 73, 568, 569, 570, 31, 571, 92, 494, 572, 495, 260, 261, 262, 263, 181, 182, 183, 184, 24, 185, 186, 187, 188, 189, 190, 191, 192, 193, 194, 195, 196, 197, 198, 199, 200, 23, 201, 81, 80, 79, 202, 1625, 1626, 1627, 1628, 1629, 1630, 1631, 1632, 1633, 1634, 1635, 1636, 1637, 1656, 1657, 1658, 1659, 1660, 1661, 1662, 1663, 1664, 1665, 1666, 1667, 1668, 1669, 1670, 1671, 1672, 1679, 1680, 1673, 1674, 1675] (by decide +kernel) (by decide +kernel)) (goodIn_sub (fun _ h => List.mem_append_left _ (List.mem_append_left _ (List.mem_append_left _ (List.mem_append_left _ (List.mem_append_left _ (List.mem_append_left _ (List.mem_append_left _ (List.mem_append_right _ h)))))))) (by decide +kernel))) (goodIn_sub (fun _ h => List.mem_append_left _ (List.mem_append_left _ (List.mem_append_left _ (List.mem_append_left _ (List.mem_append_left _ (List.mem_append_left _ (List.mem_append_right _ h))))))) (by decide +kernel))) (goodIn_sub (fun _ h => List.mem_append_left _ (List.mem_append_left _ (List.mem_append_left _ (List.mem_append_left _ (List.mem_append_left _ (List.mem_append_right _ h)))))) (by decide +kernel))) (goodIn_sub (fun _ h => List.mem_append_left _ (List.mem_append_left _ (List.mem_append_left _ (List.mem_append_left _ (List.mem_append_right _ h))))) (by decide +kernel))) (goodIn_sub (fun _ h => List.mem_append_left _ (List.mem_append_left _ (List.mem_append_left _ (List.mem_append_right _ h)))) (by decide +kernel))) (goodIn_sub (fun _ h => List.mem_append_left _ (List.mem_append_left _ (List.mem_append_right _ h))) (by decide +kernel))
set_option maxRecDepth 20000 in
theorem gL_law_L_oil : GoodIn wsL_law (va_wsS RL 216 yL_oil wsL_oil) := goodIn_app (goodIn_of _ (by decide +kernel)) ggL_law_L_oil
set_option maxRecDepth 20000 in
theorem ggL_law_X11_oil : GoodIn wsL_law wsX11_oil := goodIn_ca (goodIn_r _ [576, 207, 208, 209, 5, 210, 146, 147, 211, 212, 213, 577, 578, 579, 580, 323, 324, 325, 326, 226, 227, 228, 229, 327, 328, 329, 221, 222, 223, 224, 225, 230, 231, 232, 233, 234, 235, 236, 237, 238, 148, 1638, 1639, 1640, 1641, 1642, 1643, 1644, 1645, 1646, 1647, 1648, 1649, 1650, 1651, 1652, 1653, 1654, 1655] (by decide +kernel) (by decide +kernel)) (goodIn_sub (fun _ h => List.mem_append_left _ (List.mem_append_left _ (List.mem_append_left _ (List.mem_append_left _ (List.mem_append_left _ (List.mem_append_left _ (List.mem_append_left _ (List.mem_append_right _ h)))))))) (by decide +kernel))
set_option maxRecDepth 20000 in
theorem gL_law_X11_oil : GoodIn wsL_law (wsV RL 218 RX11 yX11_oil wsX11_oil) := goodIn_app (goodIn_of _ (by decide +kernel)) ggL_law_X11_oil
set_option maxRecDepth 20000 in
theorem ggL_law_L_buyOil : GoodIn wsL_law wsL_buyOil := goodIn_ca (goodIn_ca (goodIn_ca (goodIn_ca (goodIn_ca (goodIn_ca (goodIn_r _ [583, 162, 163, 584, 585, 586, 2, 587, 18, 17, 32, 168, 169, 170, 16, 171, 55, 56, 58, 59, 60, 61, 62, 63, 65, 66, 67, 68, 69, 70, 71, 72, 73, 588, 589, 590, 31, 591, 92, 572, 181, 182, 183, 184, 24, 185, 186, 187, 188, 189, 190, 191, 192, 193, 194, 195, 196, 197, 198, 199, 200, 23, 201, 81, 80, 79, 202, 1625, 1626, 1627, 1628, 1629, 1630, 1631, 1632, 1633, 1634, 1635, 1636, 1637, 1656, 1657, 1658, 1659, 1660, 1661, 1662, 1663, 1664, 1665, 1666, 1667, 1668, 1669, 1670, 1671, 1672, 1679, 1680, 1673, 1674, 1675] (by decide +kernel) (by decide +kernel)) (goodIn_sub (fun _ h => List.mem_append_left _ (List.mem_append_left _ (List.mem_append_left _ (List.mem_append_left _ (List.mem_append_left _ (List.mem_append_left _ (List.mem_append_left _ (List.mem_append_right _ h)))))))) (by decide +kernel))) (goodIn_sub (fun _ h => List.mem_append_left _ (List.mem_append_left _ (List.mem_append_left _ (List.mem_append_left _ (List.mem_append_left _ (List.mem_append_left _ (List.mem_append_right _ h))))))) (by decide +kernel))) (goodIn_sub (fun _ h => List.mem_append_left _ (List.mem_append_left _ (List.mem_append_left _ (List.mem_append_left _ (List.mem_append_left _ (List.mem_append_right _ h)))))) (by decide +kernel))) (goodIn_sub (fun _ h => List.mem_append_left _ (List.mem_append_left _ (List.mem_append_left _ (List.mem_append_left _ (List.mem_append_right _ h))))) (by decide +kernel))) (goodIn_sub (fun _ h => List.mem_append_left _ (List.mem_append_left _ (List.mem_append_left _ (List.mem_append_right _ h)))) (by decide +kernel))) (goodIn_sub (fun _ h => List.mem_append_left _ (List.mem_append_left _ (List.mem_append_right _ h))) (by decide +kernel))
set_option maxRecDepth 20000 in
theorem gL_law_L_buyOil : GoodIn wsL_law (va_wsS RL 219 yL_buyOil wsL_buyOil) := goodIn_app (goodIn_of _ (by decide +kernel)) ggL_law_L_buyOil
set_option maxRecDepth 20000 in
theorem ggL_law_X11_buyOil : GoodIn wsL_law wsX11_buyOil := goodIn_ca (goodIn_r _ [595, 207, 208, 209, 5, 210, 146, 147, 211, 212, 213, 596, 597, 598, 599, 600, 327, 328, 329, 221, 222, 223, 224, 225, 226, 227, 228, 229, 230, 231, 232, 233, 234, 235, 236, 237, 238, 148, 1638, 1639, 1640, 1641, 1642, 1643, 1644, 1645, 1646, 1647, 1648, 1649, 1650, 1651, 1652, 1653, 1654, 1655] (by decide +kernel) (by decide +kernel)) (goodIn_sub (fun _ h => List.mem_append_left _ (List.mem_append_left _ (List.mem_append_left _ (List.mem_append_left _ (List.mem_append_left _ (List.mem_append_left _ (List.mem_append_left _ (List.mem_append_right _ h)))))))) (by decide +kernel))
set_option maxRecDepth 20000 in
theorem gL_law_X11_buyOil : GoodIn wsL_law (wsV RL 221 RX11 yX11_buyOil wsX11_buyOil) := goodIn_app (goodIn_of _ (by decide +kernel)) ggL_law_X11_buyOil
set_option maxRecDepth 20000 in
theorem ggL_law_L_addPlanet : GoodIn wsL_law wsL_addPlanet := goodIn_ca (goodIn_ca (goodIn_ca (goodIn_ca (goodIn_ca (goodIn_ca (goodIn_r _ [603, 246, 163, 604, 605, 606, 2, 607, 18, 17, 32, 168, 169, 170, 16, 171, 55, 56, 58, 59, 60, 61, 62, 63, 65, 66, 67, 68, 69, 70, 71, 72, 73, 608, 609, 610, 31, 611, 92, 612, 613, 260, 261, 262, 263, 614, 615, 616, 617, 181, 182, 183, 184, 24, 185, 186, 187, 188, 189, 190, 191, 192, 193, 194, 195, 196, 197, 198, 199, 200, 23, 201, 81, 80, 79, 202, 1625, 1626, 1627, 1628, 1629, 1630, 1631, 1632, 1633, 1634, 1635, 1636, 1637, 1656, 1657, 1658, 1659, 1660, 1661, 1662, 1663, 1664, 1665, 1666, 1667, 1668, 1669, 1670, 1671, 1672, 1679, 1680, 1673, 1674, 1675] (by decide +kernel) (by decide +kernel)) (goodIn_sub (fun _ h => List.mem_append_left _ (List.mem_append_left _ (List.mem_append_left _ (List.mem_append_left _ (List.mem_append_left _ (List.mem_append_left _ (List.mem_append_left _ (List.mem_append_right _ h)))))))) (by decide +kernel))) (goodIn_sub (fun _ h => List.mem_append_left _ (List.mem_append_left _ (List.mem_append_left _ (List.mem_append_left _ (List.mem_append_left _ (List.mem_append_left _ (List.mem_append_right _ h))))))) (by decide +kernel))) (goodIn_sub (fun _ h => List.mem_append_left _ (List.mem_append_left _ (List.mem_append_left _ (List.mem_append_left _ (List.mem_append_left _ (List.mem_append_right _ h)))))) (by decide +kernel))) (goodIn_sub (fun _ h => List.mem_append_left _ (List.mem_append_left _ (List.mem_append_left _ (List.mem_append_left _ (List.mem_append_right _ h))))) (by decide +kernel))) (goodIn_sub (fun _ h => List.mem_append_left _ (List.mem_append_left _ (List.mem_append_left _ (List.mem_append_right _ h)))) (by decide +kernel))) (goodIn_sub (fun _ h => List.mem_append_left _ (List.mem_append_left _ (List.mem_append_right _ h))) (by decide +kernel))
set_option maxRecDepth 20000 in
theorem gL_law_L_addPlanet : GoodIn wsL_law (va_wsS RL 222 yL_addPlanet wsL_addPlanet) := goodIn_app (goodIn_of _ (by decide +kernel)) ggL_law_L_addPlanet
set_option maxRecDepth 20000 in
theorem ggL_law_X11_addPlanet : GoodIn wsL_law wsX11_addPlanet := goodIn_ca (goodIn_r _ [621, 207, 208, 209, 5, 210, 146, 147, 211, 212, 213, 622, 623, 624, 625, 323, 324, 325, 326, 226, 227, 228, 229, 327, 328, 329, 221, 222, 223, 224, 225, 626, 627, 628, 629, 230, 231, 232, 233, 234, 235, 236, 237, 238, 148, 1638, 1639, 1640, 1641, 1642, 1643, 1644, 1645, 1646, 1647, 1648, 1649, 1650, 1651, 1652, 1653, 1654, 1655] (by decide +kernel) (by decide +kernel)) (goodIn_sub (fun _ h => List.mem_append_left _ (List.mem_append_left _ (List.mem_append_left _ (List.mem_append_left _ (List.mem_append_left _ (List.mem_append_left _ (List.mem_append_left _ (List.mem_append_right _ h)))))))) (by decide +kernel))
set_option maxRecDepth 20000 in
theorem gL_law_X11_addPlanet : GoodIn wsL_law (wsV RL 224 RX11 yX11_addPlanet wsX11_addPlanet) := goodIn_app (goodIn_of _ (by decide +kernel)) ggL_law_X11_addPlanet
set_option maxRecDepth 20000 in
theorem ggL_law_X10_gearCount : GoodIn wsL_law wsX10_gearCount := goodIn_r _ [633, 17, 634, 1625, 1626, 1627, 1628, 1629, 1630, 1631, 1632, 1633, 1634, 1635, 1636, 1637, 1656, 1657, 1658, 1659, 1660, 1661, 1662, 1663, 1664, 1665, 1666, 1667, 1668, 1669, 1670, 1671, 1672] (by decide +kernel) (by decide +kernel)
set_option maxRecDepth 20000 in
theorem gL_law_X10_gearCount : GoodIn wsL_law (wsV RL 225 RX10 yX10_gearCount wsX10_gearCount) := goodIn_app (goodIn_of _ (by decide +kernel)) ggL_law_X10_gearCount
set_option maxRecDepth 20000 in
theorem ggL_law_X11_gearCount : GoodIn wsL_law wsX11_gearCount := goodIn_ca (goodIn_r _ [638, 226, 227, 228, 5, 229, 146, 230, 231, 232, 233, 225, 1638, 1639, 1640, 1641, 1642, 1643, 1644, 1645, 1646, 1647, 1648, 1649, 1650, 1651, 1652, 1653, 1654, 1655] (by decide +kernel) (by decide +kernel)) (goodIn_sub (fun _ h => List.mem_append_left _ (List.mem_append_left _ (List.mem_append_left _ (List.mem_append_left _ (List.mem_append_left _ (List.mem_append_left _ (List.mem_append_left _ (List.mem_append_right _ h)))))))) (by decide +kernel))
set_option maxRecDepth 20000 in
theorem gL_law_X11_gearCount : GoodIn wsL_law (wsV RL 228 RX11 yX11_gearCount wsX11_gearCount) := goodIn_app (goodIn_of _ (by decide +kernel)) ggL_law_X11_gearCount
set_option maxRecDepth 20000 in
theorem ggL_law_L_teeth : GoodIn wsL_law wsL_teeth := goodIn_ca (goodIn_ca (goodIn_r _ [641, 246, 642, 643, 644, 2, 645, 17, 646, 647, 648, 649, 650, 188, 189, 651, 261, 262, 16, 263, 67, 1625, 1626, 1627, 1628, 1629, 1630, 1631, 1632, 1633, 1634, 1635, 1636, 1637, 1656, 1657, 1658, 1659, 1660, 1661, 1662, 1663, 1664, 1665, 1666, 1667, 1668, 1669, 1670, 1671, 1672] (by decide +kernel) (by decide +kernel)) (goodIn_sub (fun _ h => List.mem_append_left _ (List.mem_append_left _ (List.mem_append_left _ (List.mem_append_left _ (List.mem_append_left _ (List.mem_append_left _ (List.mem_append_left _ (List.mem_append_right _ h)))))))) (by decide +kernel))) (goodIn_sub (fun _ h => List.mem_append_left _ (List.mem_append_left _ (List.mem_append_left _ (List.mem_append_left _ (List.mem_append_left _ (List.mem_append_left _ (List.mem_append_right _ h))))))) (by decide +kernel))
set_option maxRecDepth 20000 in
theorem gL_law_L_teeth : GoodIn wsL_law (va_wsS RL 229 yL_teeth wsL_teeth) := goodIn_app (goodIn_of _ (by decide +kernel)) ggL_law_L_teeth
set_option maxRecDepth 20000 in
theorem ggL_law_X11_teeth : GoodIn wsL_law wsX11_teeth := goodIn_ca (goodIn_r _ [655, 323, 324, 325, 5, 326, 226, 227, 228, 229, 146, 327, 328, 329, 230, 231, 232, 233, 225, 221, 222, 223, 224, 1638, 1639, 1640, 1641, 1642, 1643, 1644, 1645, 1646, 1647, 1648, 1649, 1650, 1651, 1652, 1653, 1654, 1655] (by decide +kernel) (by decide +kernel)) (goodIn_sub (fun _ h => List.mem_append_left _ (List.mem_append_left _ (List.mem_append_left _ (List.mem_append_left _ (List.mem_append_left _ (List.mem_append_left _ (List.mem_append_left _ (List.mem_append_right _ h)))))))) (by decide +kernel))
set_option maxRecDepth 20000 in
theorem gL_law_X11_teeth : GoodIn wsL_law (wsV RL 231 RX11 yX11_teeth wsX11_teeth) := goodIn_app (goodIn_of _ (by decide +kernel)) ggL_law_X11_teeth
set_option maxRecDepth 20000 in
theorem ggL_law_L_joint : GoodIn wsL_law wsL_joint := goodIn_ca (goodIn_ca (goodIn_ca (goodIn_r _ [658, 246, 376, 659, 660, 661, 2, 662, 196, 197, 17, 647, 648, 649, 650, 188, 189, 651, 261, 262, 16, 263, 67, 663, 275, 276, 277, 65, 1625, 1626, 1627, 1628, 1629, 1630, 1631, 1632, 1633, 1634, 1635, 1636, 1637, 1656, 1657, 1658, 1659, 1660, 1661, 1662, 1663, 1664, 1665, 1666, 1667, 1668, 1669, 1670, 1671, 1672] (by decide +kernel) (by decide +kernel)) (goodIn_sub (fun _ h => List.mem_append_left _ (List.mem_append_left _ (List.mem_append_left _ (List.mem_append_left _ (List.mem_append_left _ (List.mem_append_left _ (List.mem_append_left _ (List.mem_append_right _ h)))))))) (by decide +kernel))) (goodIn_sub (fun _ h => List.mem_append_left _ (List.mem_append_left _ (List.mem_append_right _ h))) (by decide +kernel))) (goodIn_sub (fun _ h => List.mem_append_left _ (List.mem_append_left _ (List.mem_append_left _ (List.mem_append_left _ (List.mem_append_left _ (List.mem_append_left _ (List.mem_append_right _ h))))))) (by decide +kernel))
set_option maxRecDepth 20000 in
theorem gL_law_L_joint : GoodIn wsL_law (va_wsS RL 232 yL_joint wsL_joint) := goodIn_app (goodIn_of _ (by decide +kernel)) ggL_law_L_joint
set_option maxRecDepth 20000 in
theorem ggL_law_X11_joint : GoodIn wsL_law wsX11_joint := goodIn_ca (goodIn_r _ [667, 225, 319, 320, 321, 5, 322, 323, 324, 325, 326, 226, 227, 228, 229, 146, 327, 328, 329, 330, 331, 332, 333, 1638, 1639, 1640, 1641, 1642, 1643, 1644, 1645, 1646, 1647, 1648, 1649, 1650, 1651, 1652, 1653, 1654, 1655] (by decide +kernel) (by decide +kernel)) (goodIn_sub (fun _ h => List.mem_append_left _ (List.mem_append_left _ (List.mem_append_left _ (List.mem_append_left _ (List.mem_append_left _ (List.mem_append_left _ (List.mem_append_left _ (List.mem_append_right _ h)))))))) (by decide +kernel))
set_option maxRecDepth 20000 in
theorem gL_law_X11_joint : GoodIn wsL_law (wsV RL 234 RX11 yX11_joint wsX11_joint) := goodIn_app (goodIn_of _ (by decide +kernel)) ggL_law_X11_joint
set_option maxRecDepth 20000 in
theorem ggL_law_X10_jointCount : GoodIn wsL_law wsX10_jointCount := goodIn_r _ [671, 17, 672, 1625, 1626, 1627, 1628, 1629, 1630, 1631, 1632, 1633, 1634, 1635, 1636, 1637, 1656, 1657, 1658, 1659, 1660, 1661, 1662, 1663, 1664, 1665, 1666, 1667, 1668, 1669, 1670, 1671, 1672] (by decide +kernel) (by decide +kernel)
set_option maxRecDepth 20000 in
theorem gL_law_X10_jointCount : GoodIn wsL_law (wsV RL 235 RX10 yX10_jointCount wsX10_jointCount) := goodIn_app (goodIn_of _ (by decide +kernel)) ggL_law_X10_jointCount
set_option maxRecDepth 20000 in
theorem ggL_law_X11_jointCount : GoodIn wsL_law wsX11_jointCount := goodIn_ca (goodIn_r _ [676, 334, 335, 336, 5, 337, 146, 230, 231, 232, 233, 225, 1638, 1639, 1640, 1641, 1642, 1643, 1644, 1645, 1646, 1647, 1648, 1649, 1650, 1651, 1652, 1653, 1654, 1655] (by decide +kernel) (by decide +kernel)) (goodIn_sub (fun _ h => List.mem_append_left _ (List.mem_append_left _ (List.mem_append_left _ (List.mem_append_left _ (List.mem_append_left _ (List.mem_append_left _ (List.mem_append_left _ (List.mem_append_right _ h)))))))) (by decide +kernel))
set_option maxRecDepth 20000 in
theorem gL_law_X11_jointCount : GoodIn wsL_law (wsV RL 238 RX11 yX11_jointCount wsX11_jointCount) := goodIn_app (goodIn_of _ (by decide +kernel)) ggL_law_X11_jointCount
set_option maxRecDepth 20000 in
theorem ggL_law_L_trainSize : GoodIn wsL_law wsL_trainSize := goodIn_ca (goodIn_ca (goodIn_r _ [679, 246, 680, 681, 682, 2, 683, 28, 17, 684, 647, 648, 649, 650, 188, 189, 651, 261, 262, 16, 263, 67, 685, 265, 266, 27, 267, 85, 87, 268, 86, 269, 270, 271, 272, 273, 274, 275, 276, 277, 65, 278, 279, 280, 281, 55, 282, 283, 284, 285, 286, 287, 288, 289, 1625, 1626, 1627, 1628, 1629, 1630, 1631, 1632, 1633, 1634, 1635, 1636, 1637, 1676, 1677, 1678, 1656, 1657, 1658, 1659, 1660, 1661, 1662, 1663, 1664, 1665, 1666, 1667, 1668, 1669, 1670, 1671, 1672] (by decide +kernel) (by decide +kernel)) (goodIn_sub (fun _ h => List.mem_append_left _ (List.mem_append_left _ (List.mem_append_left _ (List.mem_append_left _ (List.mem_append_left _ (List.mem_append_left _ (List.mem_append_left _ (List.mem_append_right _ h)))))))) (by decide +kernel))) (goodIn_sub (fun _ h => List.mem_append_left _ (List.mem_append_left _ (List.mem_append_left _ (List.mem_append_left _ (List.mem_append_left _ (List.mem_append_left _ (List.mem_append_right _ h))))))) (by decide +kernel))
set_option maxRecDepth 20000 in
theorem gL_law_L_trainSize : GoodIn wsL_law (va_wsS RL 239 yL_trainSize wsL_trainSize) := goodIn_app (goodIn_of _ (by decide +kernel)) ggL_law_L_trainSize
set_option maxRecDepth 20000 in
theorem ggL_law_X11_trainSize : GoodIn wsL_law wsX11_trainSize := goodIn_ca (goodIn_ca (goodIn_r _ [689, 323, 324, 325, 5, 326, 226, 227, 228, 229, 146, 327, 328, 329, 221, 222, 223, 224, 225, 342, 343, 344, 345, 155, 154, 317, 346, 347, 348, 349, 330, 331, 332, 333, 358, 359, 360, 361, 230, 231, 232, 233, 1638, 1639, 1640, 1641, 1642, 1643, 1644, 1645, 1646, 1647, 1648, 1649, 1650, 1651, 1652, 1653, 1654, 1655] (by decide +kernel) (by decide +kernel)) (goodIn_sub (fun _ h => List.mem_append_left _ (List.mem_append_left _ (List.mem_append_left _ (List.mem_append_left _ (List.mem_append_left _ (List.mem_append_left _ (List.mem_append_left _ (List.mem_append_right _ h)))))))) (by decide +kernel))) (goodIn_sub (fun _ h => List.mem_append_left _ (List.mem_append_right _ h)) (by decide +kernel))
set_option maxRecDepth 20000 in
theorem gL_law_X11_trainSize : GoodIn wsL_law (wsV RL 241 RX11 yX11_trainSize wsX11_trainSize) := goodIn_app (goodIn_of _ (by decide +kernel)) ggL_law_X11_trainSize
set_option maxRecDepth 20000 in
theorem ggL_law_L_areInTrain : GoodIn wsL_law wsL_areInTrain := goodIn_ca (goodIn_ca (goodIn_r _ [692, 246, 693, 694, 695, 2, 696, 28, 17, 647, 648, 649, 650, 188, 189, 651, 261, 262, 16, 263, 67, 685, 265, 266, 27, 267, 85, 87, 268, 86, 269, 270, 271, 272, 273, 274, 275, 276, 277, 65, 278, 279, 280, 281, 55, 282, 283, 284, 285, 286, 287, 288, 289, 697, 295, 296, 297, 1625, 1626, 1627, 1628, 1629, 1630, 1631, 1632, 1633, 1634, 1635, 1636, 1637, 1656, 1657, 1658, 1659, 1660, 1661, 1662, 1663, 1664, 1665, 1666, 1667, 1668, 1669, 1670, 1671, 1672, 1676, 1677, 1678] (by decide +kernel) (by decide +kernel)) (goodIn_sub (fun _ h => List.mem_append_left _ (List.mem_append_left _ (List.mem_append_left _ (List.mem_append_left _ (List.mem_append_left _ (List.mem_append_left _ (List.mem_append_left _ (List.mem_append_right _ h)))))))) (by decide +kernel))) (goodIn_sub (fun _ h => List.mem_append_left _ (List.mem_append_left _ (List.mem_append_left _ (List.mem_append_left _ (List.mem_append_left _ (List.mem_append_left _ (List.mem_append_right _ h))))))) (by decide +kernel))
set_option maxRecDepth 20000 in
theorem gL_law_L_areInTrain : GoodIn wsL_law (va_wsS RL 242 yL_areInTrain wsL_areInTrain) := goodIn_app (goodIn_of _ (by decide +kernel)) ggL_law_L_areInTrain
set_option maxRecDepth 20000 in
theorem ggL_law_X11_areInTrain : GoodIn wsL_law wsX11_areInTrain := goodIn_ca (goodIn_ca (goodIn_r _ [701, 225, 155, 319, 320, 321, 5, 322, 323, 324, 325, 326, 226, 227, 228, 229, 146, 327, 328, 329, 342, 343, 344, 345, 154, 317, 346, 347, 348, 349, 330, 331, 332, 333, 1638, 1639, 1640, 1641, 1642, 1643, 1644, 1645, 1646, 1647, 1648, 1649, 1650, 1651, 1652, 1653, 1654, 1655] (by decide +kernel) (by decide +kernel)) (goodIn_sub (fun _ h => List.mem_append_left _ (List.mem_append_left _ (List.mem_append_left _ (List.mem_append_left _ (List.mem_append_left _ (List.mem_append_left _ (List.mem_append_left _ (List.mem_append_right _ h)))))))) (by decide +kernel))) (goodIn_sub (fun _ h => List.mem_append_left _ (List.mem_append_right _ h)) (by decide +kernel))
set_option maxRecDepth 20000 in
theorem gL_law_X11_areInTrain : GoodIn wsL_law (wsV RL 244 RX11 yX11_areInTrain wsX11_areInTrain) := goodIn_app (goodIn_of _ (by decide +kernel)) ggL_law_X11_areInTrain
set_option maxRecDepth 20000 in
theorem ggL_law_L_unitsPerTurn : GoodIn wsL_law wsL_unitsPerTurn := goodIn_ca (goodIn_ca (goodIn_ca (goodIn_r _ [704, 246, 376, 705, 706, 707, 2, 708, 709, 710, 711, 712, 196, 197, 28, 17, 647, 648, 649, 650, 188, 189, 651, 261, 262, 16, 263, 67, 685, 265, 266, 27, 267, 85, 87, 268, 86, 269, 270, 271, 272, 273, 274, 275, 276, 277, 65, 278, 279, 280, 281, 55, 282, 283, 284, 285, 286, 287, 288, 289, 697, 295, 296, 297, 713, 714, 715, 716, 717, 1625, 1626, 1627, 1628, 1629, 1630, 1631, 1632, 1633, 1634, 1635, 1636, 1637, 1656, 1657, 1658, 1659, 1660, 1661, 1662, 1663, 1664, 1665, 1666, 1667, 1668, 1669, 1670, 1671, 1672, 1676, 1677, 1678] (by decide +kernel) (by decide +kernel)) (goodIn_sub (fun _ h => List.mem_append_left _ (List.mem_append_left _ (List.mem_append_left _ (List.mem_append_left _ (List.mem_append_left _ (List.mem_append_left _ (List.mem_append_left _ (List.mem_append_right _ h)))))))) (by decide +kernel))) (goodIn_sub (fun _ h => List.mem_append_left _ (List.mem_append_left _ (List.mem_append_right _ h))) (by decide +kernel))) (goodIn_sub (fun _ h => List.mem_append_left _ (List.mem_append_left _ (List.mem_append_left _ (List.mem_append_left _ (List.mem_append_left _ (List.mem_append_left _ (List.mem_append_right _ h))))))) (by decide +kernel))
set_option maxRecDepth 20000 in
theorem gL_law_L_unitsPerTurn : GoodIn wsL_law (va_wsS RL 245 yL_unitsPerTurn wsL_unitsPerTurn) := goodIn_app (goodIn_of _ (by decide +kernel)) ggL_law_L_unitsPerTurn
set_option maxRecDepth 20000 in
theorem ggL_law_X11_unitsPerTurn : GoodIn wsL_law wsX11_unitsPerTurn := goodIn_ca (goodIn_ca (goodIn_r _ [721, 225, 155, 154, 319, 320, 321, 5, 322, 323, 324, 325, 326, 226, 227, 228, 229, 146, 327, 328, 329, 342, 343, 344, 345, 317, 346, 347, 348, 349, 330, 331, 332, 333, 1638, 1639, 1640, 1641, 1642, 1643, 1644, 1645, 1646, 1647, 1648, 1649, 1650, 1651, 1652, 1653, 1654, 1655] (by decide +kernel) (by decide +kernel)) (goodIn_sub (fun _ h => List.mem_append_left _ (List.mem_append_left _ (List.mem_append_left _ (List.mem_append_left _ (List.mem_append_left _ (List.mem_append_left _ (List.mem_append_left _ (List.mem_append_right _ h)))))))) (by decide +kernel))) (goodIn_sub (fun _ h => List.mem_append_left _ (List.mem_append_right _ h)) (by decide +kernel))
set_option maxRecDepth 20000 in
theorem gL_law_X11_unitsPerTurn : GoodIn wsL_law (wsV RL 247 RX11 yX11_unitsPerTurn wsX11_unitsPerTurn) := goodIn_app (goodIn_of _ (by decide +kernel)) ggL_law_X11_unitsPerTurn
set_option maxRecDepth 20000 in
theorem ggL_law_L_unitsPerTurnByLowest : GoodIn wsL_law wsL_unitsPerTurnByLowest := goodIn_ca (goodIn_ca (goodIn_ca (goodIn_r _ [724, 246, 376, 725, 726, 727, 2, 728, 709, 710, 711, 712, 196, 197, 28, 17, 647, 648, 649, 650, 188, 189, 651, 261, 262, 16, 263, 67, 685, 265, 266, 27, 267, 85, 87, 268, 86, 269, 270, 271, 272, 273, 274, 275, 276, 277, 65, 278, 279, 280, 281, 55, 282, 283, 284, 285, 286, 287, 288, 289, 697, 295, 296, 297, 729, 730, 731, 732, 717, 733, 734, 735, 736, 737, 738, 739, 740, 741, 497, 473, 498, 742, 500, 501, 502, 503, 504, 743, 1625, 1626, 1627, 1628, 1629, 1630, 1631, 1632, 1633, 1634, 1635, 1636, 1637, 1656, 1657, 1658, 1659, 1660, 1661, 1662, 1663, 1664, 1665, 1666, 1667, 1668, 1669, 1670, 1671, 1672, 1676, 1677, 1678] (by decide +kernel) (by decide +kernel)) (goodIn_sub (fun _ h => List.mem_append_left _ (List.mem_append_left _ (List.mem_append_left _ (List.mem_append_left _ (List.mem_append_left _ (List.mem_append_left _ (List.mem_append_left _ (List.mem_append_right _ h)))))))) (by decide +kernel))) (goodIn_sub (fun _ h => List.mem_append_left _ (List.mem_append_left _ (List.mem_append_right _ h))) (by decide +kernel))) (goodIn_sub (fun _ h => List.mem_append_left _ (List.mem_append_left _ (List.mem_append_left _ (List.mem_append_left _ (List.mem_append_left _ (List.mem_append_left _ (List.mem_append_right _ h))))))) (by decide +kernel))
set_option maxRecDepth 20000 in
theorem gL_law_L_unitsPerTurnByLowest : GoodIn wsL_law (va_wsS RL 248 yL_unitsPerTurnByLowest wsL_unitsPerTurnByLowest) := goodIn_app (goodIn_of _ (by decide +kernel)) ggL_law_L_unitsPerTurnByLowest
set_option maxRecDepth 20000 in
theorem ggL_law_X11_unitsPerTurnByLowest : GoodIn wsL_law wsX11_unitsPerTurnByLowest := goodIn_ca (goodIn_ca (goodIn_r _ [747, 748, 719, 720, 5, 721, 225, 155, 154, 319, 320, 321, 322, 323, 324, 325, 326, 226, 227, 228, 229, 146, 327, 328, 329, 342, 343, 344, 345, 317, 346, 347, 348, 349, 330, 331, 332, 333, 1638, 1639, 1640, 1641, 1642, 1643, 1644, 1645, 1646, 1647, 1648, 1649, 1650, 1651, 1652, 1653, 1654, 1655] (by decide +kernel) (by decide +kernel)) (goodIn_sub (fun _ h => List.mem_append_left _ (List.mem_append_left _ (List.mem_append_left _ (List.mem_append_left _ (List.mem_append_left _ (List.mem_append_left _ (List.mem_append_left _ (List.mem_append_right _ h)))))))) (by decide +kernel))) (goodIn_sub (fun _ h => List.mem_append_left _ (List.mem_append_right _ h)) (by decide +kernel))
set_option maxRecDepth 20000 in
theorem gL_law_X11_unitsPerTurnByLowest : GoodIn wsL_law (wsV RL 250 RX11 yX11_unitsPerTurnByLowest wsX11_unitsPerTurnByLowest) := goodIn_app (goodIn_of _ (by decide +kernel)) ggL_law_X11_unitsPerTurnByLowest
set_option maxRecDepth 20000 in
theorem ggL_law_L_angle : GoodIn wsL_law wsL_angle := goodIn_ca (goodIn_ca (goodIn_r _ [751, 246, 752, 753, 754, 2, 755, 17, 756, 647, 648, 649, 650, 188, 189, 651, 261, 262, 16, 263, 67, 1625, 1626, 1627, 1628, 1629, 1630, 1631, 1632, 1633, 1634, 1635, 1636, 1637, 1656, 1657, 1658, 1659, 1660, 1661, 1662, 1663, 1664, 1665, 1666, 1667, 1668, 1669, 1670, 1671, 1672] (by decide +kernel) (by decide +kernel)) (goodIn_sub (fun _ h => List.mem_append_left _ (List.mem_append_left _ (List.mem_append_left _ (List.mem_append_left _ (List.mem_append_left _ (List.mem_append_left _ (List.mem_append_left _ (List.mem_append_right _ h)))))))) (by decide +kernel))) (goodIn_sub (fun _ h => List.mem_append_left _ (List.mem_append_left _ (List.mem_append_left _ (List.mem_append_left _ (List.mem_append_left _ (List.mem_append_left _ (List.mem_append_right _ h))))))) (by decide +kernel))
set_option maxRecDepth 20000 in
theorem gL_law_L_angle : GoodIn wsL_law (va_wsS RL 251 yL_angle wsL_angle) := goodIn_app (goodIn_of _ (by decide +kernel)) ggL_law_L_angle
set_option maxRecDepth 20000 in
theorem ggL_law_X11_angle : GoodIn wsL_law wsX11_angle := goodIn_ca (goodIn_r _ [760, 225, 146, 323, 324, 325, 5, 326, 226, 227, 228, 229, 327, 328, 329, 1638, 1639, 1640, 1641, 1642, 1643, 1644, 1645, 1646, 1647, 1648, 1649, 1650, 1651, 1652, 1653, 1654, 1655] (by decide +kernel) (by decide +kernel)) (goodIn_sub (fun _ h => List.mem_append_left _ (List.mem_append_left _ (List.mem_append_left _ (List.mem_append_left _ (List.mem_append_left _ (List.mem_append_left _ (List.mem_append_left _ (List.mem_append_right _ h)))))))) (by decide +kernel))
set_option maxRecDepth 20000 in
theorem gL_law_X11_angle : GoodIn wsL_law (wsV RL 253 RX11 yX11_angle wsX11_angle) := goodIn_app (goodIn_of _ (by decide +kernel)) ggL_law_X11_angle
set_option maxRecDepth 20000 in
theorem ggL_law_L_anglePart : GoodIn wsL_law wsL_anglePart := goodIn_ca (goodIn_ca (goodIn_r _ [763, 246, 764, 765, 766, 2, 767, 17, 756, 768, 647, 648, 649, 650, 188, 189, 651, 261, 262, 16, 263, 67, 1625, 1626, 1627, 1628, 1629, 1630, 1631, 1632, 1633, 1634, 1635, 1636, 1637, 1656, 1657, 1658, 1659, 1660, 1661, 1662, 1663, 1664, 1665, 1666, 1667, 1668, 1669, 1670, 1671, 1672] (by decide +kernel) (by decide +kernel)) (goodIn_sub (fun _ h => List.mem_append_left _ (List.mem_append_left _ (List.mem_append_left _ (List.mem_append_left _ (List.mem_append_left _ (List.mem_append_left _ (List.mem_append_left _ (List.mem_append_right _ h)))))))) (by decide +kernel))) (goodIn_sub (fun _ h => List.mem_append_left _ (List.mem_append_left _ (List.mem_append_left _ (List.mem_append_left _ (List.mem_append_left _ (List.mem_append_left _ (List.mem_append_right _ h))))))) (by decide +kernel))
set_option maxRecDepth 20000 in
theorem gL_law_L_anglePart : GoodIn wsL_law (va_wsS RL 254 yL_anglePart wsL_anglePart) := goodIn_app (goodIn_of _ (by decide +kernel)) ggL_law_L_anglePart
set_option maxRecDepth 20000 in
theorem ggL_law_X11_anglePart : GoodIn wsL_law wsX11_anglePart := goodIn_ca (goodIn_r _ [772, 225, 146, 773, 323, 324, 325, 5, 326, 226, 227, 228, 229, 327, 328, 329, 1638, 1639, 1640, 1641, 1642, 1643, 1644, 1645, 1646, 1647, 1648, 1649, 1650, 1651, 1652, 1653, 1654, 1655] (by decide +kernel) (by decide +kernel)) (goodIn_sub (fun _ h => List.mem_append_left _ (List.mem_append_left _ (List.mem_append_left _ (List.mem_append_left _ (List.mem_append_left _ (List.mem_append_left _ (List.mem_append_left _ (List.mem_append_right _ h)))))))) (by decide +kernel))
set_option maxRecDepth 20000 in
theorem gL_law_X11_anglePart : GoodIn wsL_law (wsV RL 257 RX11 yX11_anglePart wsX11_anglePart) := goodIn_app (goodIn_of _ (by decide +kernel)) ggL_law_X11_anglePart
set_option maxRecDepth 20000 in
theorem ggL_law_L_tension : GoodIn wsL_law wsL_tension := goodIn_ca (goodIn_ca (goodIn_ca (goodIn_r _ [776, 246, 376, 777, 778, 779, 2, 780, 17, 781, 782, 783, 784, 785, 196, 197, 647, 648, 649, 650, 188, 189, 651, 261, 262, 16, 263, 67, 786, 299, 300, 301, 61, 1625, 1626, 1627, 1628, 1629, 1630, 1631, 1632, 1633, 1634, 1635, 1636, 1637, 1656, 1657, 1658, 1659, 1660, 1661, 1662, 1663, 1664, 1665, 1666, 1667, 1668, 1669, 1670, 1671, 1672] (by decide +kernel) (by decide +kernel)) (goodIn_sub (fun _ h => List.mem_append_left _ (List.mem_append_left _ (List.mem_append_left _ (List.mem_append_left _ (List.mem_append_left _ (List.mem_append_left _ (List.mem_append_left _ (List.mem_append_right _ h)))))))) (by decide +kernel))) (goodIn_sub (fun _ h => List.mem_append_left _ (List.mem_append_left _ (List.mem_append_right _ h))) (by decide +kernel))) (goodIn_sub (fun _ h => List.mem_append_left _ (List.mem_append_left _ (List.mem_append_left _ (List.mem_append_left _ (List.mem_append_left _ (List.mem_append_left _ (List.mem_append_right _ h))))))) (by decide +kernel))
set_option maxRecDepth 20000 in
theorem gL_law_L_tension : GoodIn wsL_law (va_wsS RL 258 yL_tension wsL_tension) := goodIn_app (goodIn_of _ (by decide +kernel)) ggL_law_L_tension
set_option maxRecDepth 20000 in
theorem ggL_law_X11_tension : GoodIn wsL_law wsX11_tension := goodIn_ca (goodIn_r _ [790, 791, 792, 793, 5, 794, 323, 324, 325, 326, 226, 227, 228, 229, 146, 327, 328, 329, 354, 355, 356, 357, 221, 222, 223, 224, 225, 230, 231, 232, 233, 1638, 1639, 1640, 1641, 1642, 1643, 1644, 1645, 1646, 1647, 1648, 1649, 1650, 1651, 1652, 1653, 1654, 1655] (by decide +kernel) (by decide +kernel)) (goodIn_sub (fun _ h => List.mem_append_left _ (List.mem_append_left _ (List.mem_append_left _ (List.mem_append_left _ (List.mem_append_left _ (List.mem_append_left _ (List.mem_append_left _ (List.mem_append_right _ h)))))))) (by decide +kernel))
set_option maxRecDepth 20000 in
theorem gL_law_X11_tension : GoodIn wsL_law (wsV RL 260 RX11 yX11_tension wsX11_tension) := goodIn_app (goodIn_of _ (by decide +kernel)) ggL_law_X11_tension
set_option maxRecDepth 20000 in
theorem ggL_law_L_springSize : GoodIn wsL_law wsL_springSize := goodIn_ca (goodIn_ca (goodIn_ca (goodIn_r _ [797, 246, 376, 798, 799, 800, 2, 801, 17, 802, 782, 783, 784, 785, 196, 197, 647, 648, 649, 650, 188, 189, 651, 261, 262, 16, 263, 67, 786, 299, 300, 301, 61, 1625, 1626, 1627, 1628, 1629, 1630, 1631, 1632, 1633, 1634, 1635, 1636, 1637, 1656, 1657, 1658, 1659, 1660, 1661, 1662, 1663, 1664, 1665, 1666, 1667, 1668, 1669, 1670, 1671, 1672] (by decide +kernel) (by decide +kernel)) (goodIn_sub (fun _ h => List.mem_append_left _ (List.mem_append_left _ (List.mem_append_left _ (List.mem_append_left _ (List.mem_append_left _ (List.mem_append_left _ (List.mem_append_left _ (List.mem_append_right _ h)))))))) (by decide +kernel))) (goodIn_sub (fun _ h => List.mem_append_left _ (List.mem_append_left _ (List.mem_append_right _ h))) (by decide +kernel))) (goodIn_sub (fun _ h => List.mem_append_left _ (List.mem_append_left _ (List.mem_append_left _ (List.mem_append_left _ (List.mem_append_left _ (List.mem_append_left _ (List.mem_append_right _ h))))))) (by decide +kernel))
set_option maxRecDepth 20000 in
theorem gL_law_L_springSize : GoodIn wsL_law (va_wsS RL 261 yL_springSize wsL_springSize) := goodIn_app (goodIn_of _ (by decide +kernel)) ggL_law_L_springSize
set_option maxRecDepth 20000 in
theorem ggL_law_X11_springSize : GoodIn wsL_law wsX11_springSize := goodIn_ca (goodIn_r _ [806, 791, 792, 793, 5, 794, 323, 324, 325, 326, 226, 227, 228, 229, 146, 327, 328, 329, 354, 355, 356, 357, 221, 222, 223, 224, 225, 230, 231, 232, 233, 1638, 1639, 1640, 1641, 1642, 1643, 1644, 1645, 1646, 1647, 1648, 1649, 1650, 1651, 1652, 1653, 1654, 1655] (by decide +kernel) (by decide +kernel)) (goodIn_sub (fun _ h => List.mem_append_left _ (List.mem_append_left _ (List.mem_append_left _ (List.mem_append_left _ (List.mem_append_left _ (List.mem_append_left _ (List.mem_append_left _ (List.mem_append_right _ h)))))))) (by decide +kernel))
set_option maxRecDepth 20000 in
theorem gL_law_X11_springSize : GoodIn wsL_law (wsV RL 263 RX11 yX11_springSize wsX11_springSize) := goodIn_app (goodIn_of _ (by decide +kernel)) ggL_law_X11_springSize
set_option maxRecDepth 20000 in
theorem ggL_law_L_springOf : GoodIn wsL_law wsL_springOf := goodIn_ca (goodIn_ca (goodIn_ca (goodIn_r _ [809, 246, 376, 810, 811, 812, 2, 813, 196, 197, 28, 17, 647, 648, 649, 650, 188, 189, 651, 261, 262, 16, 263, 67, 685, 265, 266, 27, 267, 85, 87, 268, 86, 269, 270, 271, 272, 273, 274, 275, 276, 277, 65, 278, 279, 280, 281, 55, 282, 283, 284, 285, 286, 287, 288, 289, 814, 291, 292, 293, 294, 295, 296, 297, 298, 299, 300, 301, 61, 1625, 1626, 1627, 1628, 1629, 1630, 1631, 1632, 1633, 1634, 1635, 1636, 1637, 1656, 1657, 1658, 1659, 1660, 1661, 1662, 1663, 1664, 1665, 1666, 1667, 1668, 1669, 1670, 1671, 1672, 1676, 1677, 1678] (by decide +kernel) (by decide +kernel)) (goodIn_sub (fun _ h => List.mem_append_left _ (List.mem_append_left _ (List.mem_append_left _ (List.mem_append_left _ (List.mem_append_left _ (List.mem_append_left _ (List.mem_append_left _ (List.mem_append_right _ h)))))))) (by decide +kernel))) (goodIn_sub (fun _ h => List.mem_append_left _ (List.mem_append_left _ (List.mem_append_right _ h))) (by decide +kernel))) (goodIn_sub (fun _ h => List.mem_append_left _ (List.mem_append_left _ (List.mem_append_left _ (List.mem_append_left _ (List.mem_append_left _ (List.mem_append_left _ (List.mem_append_right _ h))))))) (by decide +kernel))
set_option maxRecDepth 20000 in
theorem gL_law_L_springOf : GoodIn wsL_law (va_wsS RL 264 yL_springOf wsL_springOf) := goodIn_app (goodIn_of _ (by decide +kernel)) ggL_law_L_springOf
set_option maxRecDepth 20000 in
theorem ggL_law_X11_springOf : GoodIn wsL_law wsX11_springOf := goodIn_ca (goodIn_ca (goodIn_r _ [818, 323, 324, 325, 5, 326, 226, 227, 228, 229, 146, 327, 328, 329, 221, 222, 223, 224, 225, 342, 343, 344, 345, 155, 154, 317, 346, 347, 348, 349, 330, 331, 332, 333, 350, 351, 352, 353, 354, 355, 356, 357, 230, 231, 232, 233, 1638, 1639, 1640, 1641, 1642, 1643, 1644, 1645, 1646, 1647, 1648, 1649, 1650, 1651, 1652, 1653, 1654, 1655] (by decide +kernel) (by decide +kernel)) (goodIn_sub (fun _ h => List.mem_append_left _ (List.mem_append_left _ (List.mem_append_left _ (List.mem_append_left _ (List.mem_append_left _ (List.mem_append_left _ (List.mem_append_left _ (List.mem_append_right _ h)))))))) (by decide +kernel))) (goodIn_sub (fun _ h => List.mem_append_left _ (List.mem_append_right _ h)) (by decide +kernel))
set_option maxRecDepth 20000 in
theorem gL_law_X11_springOf : GoodIn wsL_law (wsV RL 266 RX11 yX11_springOf wsX11_springOf) := goodIn_app (goodIn_of _ (by decide +kernel)) ggL_law_X11_springOf
set_option maxRecDepth 20000 in
theorem ggL_law_L_friction : GoodIn wsL_law wsL_friction := goodIn_ca (goodIn_ca (goodIn_r _ [821, 246, 822, 823, 824, 2, 825, 28, 17, 647, 648, 649, 650, 188, 189, 651, 261, 262, 16, 263, 67, 685, 265, 266, 27, 267, 85, 87, 268, 86, 269, 270, 271, 272, 273, 274, 275, 276, 277, 65, 278, 279, 280, 281, 55, 282, 283, 284, 285, 286, 287, 288, 289, 826, 484, 485, 486, 487, 294, 295, 296, 297, 1625, 1626, 1627, 1628, 1629, 1630, 1631, 1632, 1633, 1634, 1635, 1636, 1637, 1656, 1657, 1658, 1659, 1660, 1661, 1662, 1663, 1664, 1665, 1666, 1667, 1668, 1669, 1670, 1671, 1672, 1676, 1677, 1678] (by decide +kernel) (by decide +kernel)) (goodIn_sub (fun _ h => List.mem_append_left _ (List.mem_append_left _ (List.mem_append_left _ (List.mem_append_left _ (List.mem_append_left _ (List.mem_append_left _ (List.mem_append_left _ (List.mem_append_right _ h)))))))) (by decide +kernel))) (goodIn_sub (fun _ h => List.mem_append_left _ (List.mem_append_left _ (List.mem_append_left _ (List.mem_append_left _ (List.mem_append_left _ (List.mem_append_left _ (List.mem_append_right _ h))))))) (by decide +kernel))
set_option maxRecDepth 20000 in
theorem gL_law_L_friction : GoodIn wsL_law (va_wsS RL 267 yL_friction wsL_friction) := goodIn_app (goodIn_of _ (by decide +kernel)) ggL_law_L_friction
set_option maxRecDepth 20000 in
theorem ggL_law_X11_friction : GoodIn wsL_law wsX11_friction := goodIn_ca (goodIn_ca (goodIn_r _ [830, 323, 324, 325, 5, 326, 226, 227, 228, 229, 146, 327, 328, 329, 518, 519, 520, 521, 155, 342, 343, 344, 345, 154, 317, 346, 347, 348, 349, 330, 331, 332, 333, 358, 359, 360, 361, 230, 231, 232, 233, 225, 221, 222, 223, 224, 1638, 1639, 1640, 1641, 1642, 1643, 1644, 1645, 1646, 1647, 1648, 1649, 1650, 1651, 1652, 1653, 1654, 1655] (by decide +kernel) (by decide +kernel)) (goodIn_sub (fun _ h => List.mem_append_left _ (List.mem_append_left _ (List.mem_append_left _ (List.mem_append_left _ (List.mem_append_left _ (List.mem_append_left _ (List.mem_append_left _ (List.mem_append_right _ h)))))))) (by decide +kernel))) (goodIn_sub (fun _ h => List.mem_append_left _ (List.mem_append_right _ h)) (by decide +kernel))
set_option maxRecDepth 20000 in
theorem gL_law_X11_friction : GoodIn wsL_law (wsV RL 269 RX11 yX11_friction wsX11_friction) := goodIn_app (goodIn_of _ (by decide +kernel)) ggL_law_X11_friction
set_option maxRecDepth 20000 in
theorem ggL_law_L_turnsLeft : GoodIn wsL_law wsL_turnsLeft := goodIn_ca (goodIn_ca (goodIn_ca (goodIn_r _ [833, 246, 376, 834, 835, 836, 2, 837, 28, 17, 781, 782, 783, 784, 785, 196, 197, 647, 648, 649, 650, 188, 189, 651, 261, 262, 16, 263, 67, 786, 299, 300, 301, 61, 685, 265, 266, 27, 267, 85, 87, 268, 86, 269, 270, 271, 272, 273, 274, 275, 276, 277, 65, 278, 279, 280, 281, 55, 282, 283, 284, 285, 286, 287, 288, 289, 826, 484, 485, 486, 487, 294, 295, 296, 297, 743, 1625, 1626, 1627, 1628, 1629, 1630, 1631, 1632, 1633, 1634, 1635, 1636, 1637, 1656, 1657, 1658, 1659, 1660, 1661, 1662, 1663, 1664, 1665, 1666, 1667, 1668, 1669, 1670, 1671, 1672, 1676, 1677, 1678] (by decide +kernel) (by decide +kernel)) (goodIn_sub (fun _ h => List.mem_append_left _ (List.mem_append_left _ (List.mem_append_left _ (List.mem_append_left _ (List.mem_append_left _ (List.mem_append_left _ (List.mem_append_left _ (List.mem_append_right _ h)))))))) (by decide +kernel))) (goodIn_sub (fun _ h => List.mem_append_left _ (List.mem_append_left _ (List.mem_append_right _ h))) (by decide +kernel))) (goodIn_sub (fun _ h => List.mem_append_left _ (List.mem_append_left _ (List.mem_append_left _ (List.mem_append_left _ (List.mem_append_left _ (List.mem_append_left _ (List.mem_append_right _ h))))))) (by decide +kernel))
set_option maxRecDepth 20000 in
theorem gL_law_L_turnsLeft : GoodIn wsL_law (va_wsS RL 270 yL_turnsLeft wsL_turnsLeft) := goodIn_app (goodIn_of _ (by decide +kernel)) ggL_law_L_turnsLeft
set_option maxRecDepth 20000 in
theorem ggL_law_X11_turnsLeft : GoodIn wsL_law wsX11_turnsLeft := goodIn_ca (goodIn_ca (goodIn_r _ [841, 791, 792, 793, 5, 794, 323, 324, 325, 326, 226, 227, 228, 229, 146, 327, 328, 329, 354, 355, 356, 357, 221, 222, 223, 224, 225, 518, 519, 520, 521, 155, 342, 343, 344, 345, 154, 317, 346, 347, 348, 349, 330, 331, 332, 333, 358, 359, 360, 361, 230, 231, 232, 233, 1638, 1639, 1640, 1641, 1642, 1643, 1644, 1645, 1646, 1647, 1648, 1649, 1650, 1651, 1652, 1653, 1654, 1655] (by decide +kernel) (by decide +kernel)) (goodIn_sub (fun _ h => List.mem_append_left _ (List.mem_append_right _ h)) (by decide +kernel))) (goodIn_sub (fun _ h => List.mem_append_left _ (List.mem_append_left _ (List.mem_append_left _ (List.mem_append_left _ (List.mem_append_left _ (List.mem_append_left _ (List.mem_append_left _ (List.mem_append_right _ h)))))))) (by decide +kernel))
set_option maxRecDepth 20000 in
theorem gL_law_X11_turnsLeft : GoodIn wsL_law (wsV RL 272 RX11 yX11_turnsLeft wsX11_turnsLeft) := goodIn_app (goodIn_of _ (by decide +kernel)) ggL_law_X11_turnsLeft
set_option maxRecDepth 20000 in
theorem ggL_law_L_canRelease : GoodIn wsL_law wsL_canRelease := goodIn_ca (goodIn_ca (goodIn_r _ [844, 246, 845, 846, 847, 2, 848, 28, 17, 647, 648, 649, 650, 188, 189, 651, 261, 262, 16, 263, 67, 685, 265, 266, 27, 267, 85, 87, 268, 86, 269, 270, 271, 272, 273, 274, 275, 276, 277, 65, 278, 279, 280, 281, 55, 282, 283, 284, 285, 286, 287, 288, 289, 786, 299, 300, 301, 61, 849, 478, 479, 480, 481, 482, 1625, 1626, 1627, 1628, 1629, 1630, 1631, 1632, 1633, 1634, 1635, 1636, 1637, 1656, 1657, 1658, 1659, 1660, 1661, 1662, 1663, 1664, 1665, 1666, 1667, 1668, 1669, 1670, 1671, 1672, 1676, 1677, 1678] (by decide +kernel) (by decide +kernel)) (goodIn_sub (fun _ h => List.mem_append_left _ (List.mem_append_left _ (List.mem_append_left _ (List.mem_append_left _ (List.mem_append_left _ (List.mem_append_left _ (List.mem_append_left _ (List.mem_append_right _ h)))))))) (by decide +kernel))) (goodIn_sub (fun _ h => List.mem_append_left _ (List.mem_append_left _ (List.mem_append_left _ (List.mem_append_left _ (List.mem_append_left _ (List.mem_append_left _ (List.mem_append_right _ h))))))) (by decide +kernel))
set_option maxRecDepth 20000 in
theorem gL_law_L_canRelease : GoodIn wsL_law (va_wsS RL 273 yL_canRelease wsL_canRelease) := goodIn_app (goodIn_of _ (by decide +kernel)) ggL_law_L_canRelease
set_option maxRecDepth 20000 in
theorem ggL_law_X11_canRelease : GoodIn wsL_law wsX11_canRelease := goodIn_ca (goodIn_ca (goodIn_r _ [853, 225, 323, 324, 325, 5, 326, 226, 227, 228, 229, 146, 327, 328, 329, 354, 355, 356, 357, 342, 343, 344, 345, 155, 154, 317, 346, 347, 348, 349, 330, 331, 332, 333, 522, 523, 524, 525, 1638, 1639, 1640, 1641, 1642, 1643, 1644, 1645, 1646, 1647, 1648, 1649, 1650, 1651, 1652, 1653, 1654, 1655] (by decide +kernel) (by decide +kernel)) (goodIn_sub (fun _ h => List.mem_append_left _ (List.mem_append_left _ (List.mem_append_left _ (List.mem_append_left _ (List.mem_append_left _ (List.mem_append_left _ (List.mem_append_left _ (List.mem_append_right _ h)))))))) (by decide +kernel))) (goodIn_sub (fun _ h => List.mem_append_left _ (List.mem_append_right _ h)) (by decide +kernel))
set_option maxRecDepth 20000 in
theorem gL_law_X11_canRelease : GoodIn wsL_law (wsV RL 275 RX11 yX11_canRelease wsX11_canRelease) := goodIn_app (goodIn_of _ (by decide +kernel)) ggL_law_X11_canRelease
set_option maxRecDepth 20000 in
theorem ggL_law_L_hasRatchet : GoodIn wsL_law wsL_hasRatchet := goodIn_ca (goodIn_ca (goodIn_r _ [856, 246, 857, 858, 859, 2, 860, 17, 861, 647, 648, 649, 650, 188, 189, 651, 261, 262, 16, 263, 67, 1625, 1626, 1627, 1628, 1629, 1630, 1631, 1632, 1633, 1634, 1635, 1636, 1637, 1656, 1657, 1658, 1659, 1660, 1661, 1662, 1663, 1664, 1665, 1666, 1667, 1668, 1669, 1670, 1671, 1672] (by decide +kernel) (by decide +kernel)) (goodIn_sub (fun _ h => List.mem_append_left _ (List.mem_append_left _ (List.mem_append_left _ (List.mem_append_left _ (List.mem_append_left _ (List.mem_append_left _ (List.mem_append_left _ (List.mem_append_right _ h)))))))) (by decide +kernel))) (goodIn_sub (fun _ h => List.mem_append_left _ (List.mem_append_left _ (List.mem_append_left _ (List.mem_append_left _ (List.mem_append_left _ (List.mem_append_left _ (List.mem_append_right _ h))))))) (by decide +kernel))
set_option maxRecDepth 20000 in
theorem gL_law_L_hasRatchet : GoodIn wsL_law (va_wsS RL 276 yL_hasRatchet wsL_hasRatchet) := goodIn_app (goodIn_of _ (by decide +kernel)) ggL_law_L_hasRatchet
set_option maxRecDepth 20000 in
theorem ggL_law_X11_hasRatchet : GoodIn wsL_law wsX11_hasRatchet := goodIn_ca (goodIn_r _ [865, 225, 146, 323, 324, 325, 5, 326, 226, 227, 228, 229, 327, 328, 329, 1638, 1639, 1640, 1641, 1642, 1643, 1644, 1645, 1646, 1647, 1648, 1649, 1650, 1651, 1652, 1653, 1654, 1655] (by decide +kernel) (by decide +kernel)) (goodIn_sub (fun _ h => List.mem_append_left _ (List.mem_append_left _ (List.mem_append_left _ (List.mem_append_left _ (List.mem_append_left _ (List.mem_append_left _ (List.mem_append_left _ (List.mem_append_right _ h)))))))) (by decide +kernel))
set_option maxRecDepth 20000 in
theorem gL_law_X11_hasRatchet : GoodIn wsL_law (wsV RL 278 RX11 yX11_hasRatchet wsX11_hasRatchet) := goodIn_app (goodIn_of _ (by decide +kernel)) ggL_law_X11_hasRatchet
set_option maxRecDepth 20000 in
theorem ggL_law_L_isDry : GoodIn wsL_law wsL_isDry := goodIn_ca (goodIn_ca (goodIn_r _ [868, 246, 869, 870, 871, 2, 872, 17, 873, 647, 648, 649, 650, 188, 189, 651, 261, 262, 16, 263, 67, 1625, 1626, 1627, 1628, 1629, 1630, 1631, 1632, 1633, 1634, 1635, 1636, 1637, 1656, 1657, 1658, 1659, 1660, 1661, 1662, 1663, 1664, 1665, 1666, 1667, 1668, 1669, 1670, 1671, 1672] (by decide +kernel) (by decide +kernel)) (goodIn_sub (fun _ h => List.mem_append_left _ (List.mem_append_left _ (List.mem_append_left _ (List.mem_append_left _ (List.mem_append_left _ (List.mem_append_left _ (List.mem_append_left _ (List.mem_append_right _ h)))))))) (by decide +kernel))) (goodIn_sub (fun _ h => List.mem_append_left _ (List.mem_append_left _ (List.mem_append_left _ (List.mem_append_left _ (List.mem_append_left _ (List.mem_append_left _ (List.mem_append_right _ h))))))) (by decide +kernel))
set_option maxRecDepth 20000 in
theorem gL_law_L_isDry : GoodIn wsL_law (va_wsS RL 279 yL_isDry wsL_isDry) := goodIn_app (goodIn_of _ (by decide +kernel)) ggL_law_L_isDry
set_option maxRecDepth 20000 in
theorem ggL_law_X11_isDry : GoodIn wsL_law wsX11_isDry := goodIn_ca (goodIn_r _ [877, 225, 146, 323, 324, 325, 5, 326, 226, 227, 228, 229, 327, 328, 329, 1638, 1639, 1640, 1641, 1642, 1643, 1644, 1645, 1646, 1647, 1648, 1649, 1650, 1651, 1652, 1653, 1654, 1655] (by decide +kernel) (by decide +kernel)) (goodIn_sub (fun _ h => List.mem_append_left _ (List.mem_append_left _ (List.mem_append_left _ (List.mem_append_left _ (List.mem_append_left _ (List.mem_append_left _ (List.mem_append_left _ (List.mem_append_right _ h)))))))) (by decide +kernel))
set_option maxRecDepth 20000 in
theorem gL_law_X11_isDry : GoodIn wsL_law (wsV RL 281 RX11 yX11_isDry wsX11_isDry) := goodIn_app (goodIn_of _ (by decide +kernel)) ggL_law_X11_isDry
set_option maxRecDepth 20000 in
theorem ggL_law_L_wear : GoodIn wsL_law wsL_wear := goodIn_ca (goodIn_ca (goodIn_ca (goodIn_r _ [880, 246, 376, 881, 882, 883, 2, 884, 196, 197, 17, 873, 885, 733, 647, 648, 649, 650, 188, 189, 651, 261, 262, 16, 263, 67, 743, 283, 284, 285, 286, 287, 288, 289, 1625, 1626, 1627, 1628, 1629, 1630, 1631, 1632, 1633, 1634, 1635, 1636, 1637, 1656, 1657, 1658, 1659, 1660, 1661, 1662, 1663, 1664, 1665, 1666, 1667, 1668, 1669, 1670, 1671, 1672] (by decide +kernel) (by decide +kernel)) (goodIn_sub (fun _ h => List.mem_append_left _ (List.mem_append_left _ (List.mem_append_left _ (List.mem_append_left _ (List.mem_append_left _ (List.mem_append_left _ (List.mem_append_left _ (List.mem_append_right _ h)))))))) (by decide +kernel))) (goodIn_sub (fun _ h => List.mem_append_left _ (List.mem_append_left _ (List.mem_append_right _ h))) (by decide +kernel))) (goodIn_sub (fun _ h => List.mem_append_left _ (List.mem_append_left _ (List.mem_append_left _ (List.mem_append_left _ (List.mem_append_left _ (List.mem_append_left _ (List.mem_append_right _ h))))))) (by decide +kernel))
set_option maxRecDepth 20000 in
theorem gL_law_L_wear : GoodIn wsL_law (va_wsS RL 282 yL_wear wsL_wear) := goodIn_app (goodIn_of _ (by decide +kernel)) ggL_law_L_wear
set_option maxRecDepth 20000 in
theorem ggL_law_X11_wear : GoodIn wsL_law wsX11_wear := goodIn_ca (goodIn_r _ [889, 146, 317, 323, 324, 325, 5, 326, 226, 227, 228, 229, 327, 328, 329, 221, 222, 223, 224, 225, 230, 231, 232, 233, 1638, 1639, 1640, 1641, 1642, 1643, 1644, 1645, 1646, 1647, 1648, 1649, 1650, 1651, 1652, 1653, 1654, 1655] (by decide +kernel) (by decide +kernel)) (goodIn_sub (fun _ h => List.mem_append_left _ (List.mem_append_left _ (List.mem_append_left _ (List.mem_append_left _ (List.mem_append_left _ (List.mem_append_left _ (List.mem_append_left _ (List.mem_append_right _ h)))))))) (by decide +kernel))
set_option maxRecDepth 20000 in
theorem gL_law_X11_wear : GoodIn wsL_law (wsV RL 284 RX11 yX11_wear wsX11_wear) := goodIn_app (goodIn_of _ (by decide +kernel)) ggL_law_X11_wear
set_option maxRecDepth 20000 in
theorem ggL_law_X10_drops : GoodIn wsL_law wsX10_drops := goodIn_r _ [893, 17, 894, 1625, 1626, 1627, 1628, 1629, 1630, 1631, 1632, 1633, 1634, 1635, 1636, 1637, 1656, 1657, 1658, 1659, 1660, 1661, 1662, 1663, 1664, 1665, 1666, 1667, 1668, 1669, 1670, 1671, 1672] (by decide +kernel) (by decide +kernel)
set_option maxRecDepth 20000 in
theorem gL_law_X10_drops : GoodIn wsL_law (wsV RL 285 RX10 yX10_drops wsX10_drops) := goodIn_app (goodIn_of _ (by decide +kernel)) ggL_law_X10_drops
set_option maxRecDepth 20000 in
theorem ggL_law_X11_drops : GoodIn wsL_law wsX11_drops := goodIn_ca (goodIn_r _ [898, 226, 227, 228, 5, 229, 146, 230, 231, 232, 233, 225, 1638, 1639, 1640, 1641, 1642, 1643, 1644, 1645, 1646, 1647, 1648, 1649, 1650, 1651, 1652, 1653, 1654, 1655] (by decide +kernel) (by decide +kernel)) (goodIn_sub (fun _ h => List.mem_append_left _ (List.mem_append_left _ (List.mem_append_left _ (List.mem_append_left _ (List.mem_append_left _ (List.mem_append_left _ (List.mem_append_left _ (List.mem_append_right _ h)))))))) (by decide +kernel))
set_option maxRecDepth 20000 in
theorem gL_law_X11_drops : GoodIn wsL_law (wsV RL 288 RX11 yX11_drops wsX11_drops) := goodIn_app (goodIn_of _ (by decide +kernel)) ggL_law_X11_drops
set_option maxRecDepth 20000 in
theorem ggL_law_X10_planetCount : GoodIn wsL_law wsX10_planetCount := goodIn_r _ [902, 17, 903, 1625, 1626, 1627, 1628, 1629, 1630, 1631, 1632, 1633, 1634, 1635, 1636, 1637, 1656, 1657, 1658, 1659, 1660, 1661, 1662, 1663, 1664, 1665, 1666, 1667, 1668, 1669, 1670, 1671, 1672] (by decide +kernel) (by decide +kernel)
set_option maxRecDepth 20000 in
theorem gL_law_X10_planetCount : GoodIn wsL_law (wsV RL 289 RX10 yX10_planetCount wsX10_planetCount) := goodIn_app (goodIn_of _ (by decide +kernel)) ggL_law_X10_planetCount
set_option maxRecDepth 20000 in
theorem ggL_law_X11_planetCount : GoodIn wsL_law wsX11_planetCount := goodIn_ca (goodIn_r _ [907, 226, 227, 228, 5, 229, 146, 230, 231, 232, 233, 225, 1638, 1639, 1640, 1641, 1642, 1643, 1644, 1645, 1646, 1647, 1648, 1649, 1650, 1651, 1652, 1653, 1654, 1655] (by decide +kernel) (by decide +kernel)) (goodIn_sub (fun _ h => List.mem_append_left _ (List.mem_append_left _ (List.mem_append_left _ (List.mem_append_left _ (List.mem_append_left _ (List.mem_append_left _ (List.mem_append_left _ (List.mem_append_right _ h)))))))) (by decide +kernel))
set_option maxRecDepth 20000 in
theorem gL_law_X11_planetCount : GoodIn wsL_law (wsV RL 292 RX11 yX11_planetCount wsX11_planetCount) := goodIn_app (goodIn_of _ (by decide +kernel)) ggL_law_X11_planetCount
set_option maxRecDepth 20000 in
theorem ggL_law_L_gearOf : GoodIn wsL_law wsL_gearOf := goodIn_ca (goodIn_ca (goodIn_r _ [910, 246, 911, 912, 913, 2, 914, 17, 915, 916, 917, 918, 919, 188, 189, 920, 921, 922, 16, 923, 69, 1625, 1626, 1627, 1628, 1629, 1630, 1631, 1632, 1633, 1634, 1635, 1636, 1637, 1656, 1657, 1658, 1659, 1660, 1661, 1662, 1663, 1664, 1665, 1666, 1667, 1668, 1669, 1670, 1671, 1672] (by decide +kernel) (by decide +kernel)) (goodIn_sub (fun _ h => List.mem_append_left _ (List.mem_append_left _ (List.mem_append_left _ (List.mem_append_left _ (List.mem_append_left _ (List.mem_append_left _ (List.mem_append_left _ (List.mem_append_right _ h)))))))) (by decide +kernel))) (goodIn_sub (fun _ h => List.mem_append_left _ (List.mem_append_left _ (List.mem_append_left _ (List.mem_append_left _ (List.mem_append_left _ (List.mem_append_left _ (List.mem_append_right _ h))))))) (by decide +kernel))
set_option maxRecDepth 20000 in
theorem gL_law_L_gearOf : GoodIn wsL_law (va_wsS RL 293 yL_gearOf wsL_gearOf) := goodIn_app (goodIn_of _ (by decide +kernel)) ggL_law_L_gearOf
set_option maxRecDepth 20000 in
theorem ggL_law_X11_gearOf : GoodIn wsL_law wsX11_gearOf := goodIn_ca (goodIn_r _ [927, 928, 929, 930, 5, 931, 226, 227, 228, 229, 146, 327, 328, 329, 230, 231, 232, 233, 225, 221, 222, 223, 224, 1638, 1639, 1640, 1641, 1642, 1643, 1644, 1645, 1646, 1647, 1648, 1649, 1650, 1651, 1652, 1653, 1654, 1655] (by decide +kernel) (by decide +kernel)) (goodIn_sub (fun _ h => List.mem_append_left _ (List.mem_append_left _ (List.mem_append_left _ (List.mem_append_left _ (List.mem_append_left _ (List.mem_append_left _ (List.mem_append_left _ (List.mem_append_right _ h)))))))) (by decide +kernel))
set_option maxRecDepth 20000 in
theorem gL_law_X11_gearOf : GoodIn wsL_law (wsV RL 295 RX11 yX11_gearOf wsX11_gearOf) := goodIn_app (goodIn_of _ (by decide +kernel)) ggL_law_X11_gearOf
set_option maxRecDepth 20000 in
theorem ggL_law_L_areInLine : GoodIn wsL_law wsL_areInLine := goodIn_ca (goodIn_ca (goodIn_ca (goodIn_r _ [934, 246, 162, 935, 936, 937, 2, 938, 190, 191, 17, 756, 915, 916, 917, 918, 919, 188, 189, 920, 921, 922, 16, 923, 69, 1625, 1626, 1627, 1628, 1629, 1630, 1631, 1632, 1633, 1634, 1635, 1636, 1637, 1656, 1657, 1658, 1659, 1660, 1661, 1662, 1663, 1664, 1665, 1666, 1667, 1668, 1669, 1670, 1671, 1672] (by decide +kernel) (by decide +kernel)) (goodIn_sub (fun _ h => List.mem_append_left _ (List.mem_append_left _ (List.mem_append_left _ (List.mem_append_left _ (List.mem_append_left _ (List.mem_append_left _ (List.mem_append_left _ (List.mem_append_right _ h)))))))) (by decide +kernel))) (goodIn_sub (fun _ h => List.mem_append_left _ (List.mem_append_left _ (List.mem_append_left _ (List.mem_append_left _ (List.mem_append_left _ (List.mem_append_right _ h)))))) (by decide +kernel))) (goodIn_sub (fun _ h => List.mem_append_left _ (List.mem_append_left _ (List.mem_append_left _ (List.mem_append_left _ (List.mem_append_left _ (List.mem_append_left _ (List.mem_append_right _ h))))))) (by decide +kernel))
set_option maxRecDepth 20000 in
theorem gL_law_L_areInLine : GoodIn wsL_law (va_wsS RL 296 yL_areInLine wsL_areInLine) := goodIn_app (goodIn_of _ (by decide +kernel)) ggL_law_L_areInLine
set_option maxRecDepth 20000 in
theorem ggL_law_X11_areInLine : GoodIn wsL_law wsX11_areInLine := goodIn_ca (goodIn_r _ [942, 225, 928, 929, 930, 5, 931, 226, 227, 228, 229, 146, 327, 328, 329, 943, 944, 945, 946, 1638, 1639, 1640, 1641, 1642, 1643, 1644, 1645, 1646, 1647, 1648, 1649, 1650, 1651, 1652, 1653, 1654, 1655] (by decide +kernel) (by decide +kernel)) (goodIn_sub (fun _ h => List.mem_append_left _ (List.mem_append_left _ (List.mem_append_left _ (List.mem_append_left _ (List.mem_append_left _ (List.mem_append_left _ (List.mem_append_left _ (List.mem_append_right _ h)))))))) (by decide +kernel))
set_option maxRecDepth 20000 in
theorem gL_law_X11_areInLine : GoodIn wsL_law (wsV RL 298 RX11 yX11_areInLine wsX11_areInLine) := goodIn_app (goodIn_of _ (by decide +kernel)) ggL_law_X11_areInLine
set_option maxRecDepth 20000 in
theorem ggL_law_L_nextEclipse : GoodIn wsL_law wsL_nextEclipse := goodIn_ca (goodIn_ca (goodIn_ca (goodIn_ca (goodIn_ca (goodIn_ca (goodIn_r _ [949, 246, 162, 163, 376, 950, 951, 952, 2, 953, 36, 954, 955, 956, 35, 957, 98, 99, 958, 959, 921, 922, 16, 923, 69, 960, 261, 262, 263, 67, 961, 265, 266, 27, 267, 85, 87, 268, 86, 269, 270, 271, 272, 273, 274, 275, 276, 277, 65, 278, 279, 280, 281, 55, 282, 283, 284, 285, 286, 287, 288, 289, 962, 295, 296, 297, 185, 186, 187, 188, 189, 190, 191, 192, 193, 194, 195, 196, 197, 963, 964, 965, 966, 967, 968, 969, 970, 971, 500, 501, 502, 503, 504, 972, 739, 740, 741, 497, 473, 498, 742, 973, 974, 975, 976, 977, 978, 979, 980, 981, 982, 983, 1625, 1626, 1627, 1628, 1629, 1630, 1631, 1632, 1633, 1634, 1635, 1636, 1637, 1681, 1682, 1656, 1657, 1658, 1659, 1660, 1661, 1662, 1663, 1664, 1665, 1666, 1667, 1668, 1669, 1670, 1671, 1672, 1676, 1677, 1678] (by decide +kernel) (by decide +kernel)) (goodIn_sub (fun _ h => List.mem_append_left _ (List.mem_append_left _ (List.mem_append_left _ (List.mem_append_left _ (List.mem_append_left _ (List.mem_append_left _ (List.mem_append_left _ (List.mem_append_right _ h)))))))) (by decide +kernel))) (goodIn_sub (fun _ h => List.mem_append_left _ (List.mem_append_left _ (List.mem_append_left _ (List.mem_append_left _ (List.mem_append_left _ (List.mem_append_left _ (List.mem_append_right _ h))))))) (by decide +kernel))) (goodIn_sub (fun _ h => List.mem_append_left _ (List.mem_append_left _ (List.mem_append_left _ (List.mem_append_left _ (List.mem_append_left _ (List.mem_append_right _ h)))))) (by decide +kernel))) (goodIn_sub (fun _ h => List.mem_append_left _ (List.mem_append_left _ (List.mem_append_left _ (List.mem_append_left _ (List.mem_append_right _ h))))) (by decide +kernel))) (goodIn_sub (fun _ h => List.mem_append_left _ (List.mem_append_left _ (List.mem_append_left _ (List.mem_append_right _ h)))) (by decide +kernel))) (goodIn_sub (fun _ h => List.mem_append_left _ (List.mem_append_left _ (List.mem_append_right _ h))) (by decide +kernel))
set_option maxRecDepth 20000 in
theorem gL_law_L_nextEclipse : GoodIn wsL_law (va_wsS RL 299 yL_nextEclipse wsL_nextEclipse) := goodIn_app (goodIn_of _ (by decide +kernel)) ggL_law_L_nextEclipse
set_option maxRecDepth 20000 in
theorem ggL_law_X11_nextEclipse : GoodIn wsL_law wsX11_nextEclipse := goodIn_ca (goodIn_ca (goodIn_r _ [987, 155, 154, 146, 928, 929, 930, 5, 931, 226, 227, 228, 229, 327, 328, 329, 323, 324, 325, 326, 221, 222, 223, 224, 225, 342, 343, 344, 345, 317, 346, 347, 348, 349, 330, 331, 332, 333, 530, 531, 532, 230, 231, 232, 233, 1638, 1639, 1640, 1641, 1642, 1643, 1644, 1645, 1646, 1647, 1648, 1649, 1650, 1651, 1652, 1653, 1654, 1655] (by decide +kernel) (by decide +kernel)) (goodIn_sub (fun _ h => List.mem_append_left _ (List.mem_append_left _ (List.mem_append_left _ (List.mem_append_left _ (List.mem_append_left _ (List.mem_append_left _ (List.mem_append_left _ (List.mem_append_right _ h)))))))) (by decide +kernel))) (goodIn_sub (fun _ h => List.mem_append_left _ (List.mem_append_right _ h)) (by decide +kernel))
set_option maxRecDepth 20000 in
theorem gL_law_X11_nextEclipse : GoodIn wsL_law (wsV RL 302 RX11 yX11_nextEclipse wsX11_nextEclipse) := goodIn_app (goodIn_of _ (by decide +kernel)) ggL_law_X11_nextEclipse
set_option maxRecDepth 20000 in
theorem ggL_law_L_nextEclipseByTurns : GoodIn wsL_law wsL_nextEclipseByTurns := goodIn_ca (goodIn_ca (goodIn_ca (goodIn_ca (goodIn_ca (goodIn_ca (goodIn_r _ [990, 246, 162, 163, 376, 991, 992, 993, 2, 994, 36, 954, 955, 956, 35, 957, 98, 99, 958, 959, 921, 922, 16, 923, 69, 960, 261, 262, 263, 67, 961, 265, 266, 27, 267, 85, 87, 268, 86, 269, 270, 271, 272, 273, 274, 275, 276, 277, 65, 278, 279, 280, 281, 55, 282, 283, 284, 285, 286, 287, 288, 289, 962, 295, 296, 297, 185, 186, 187, 188, 189, 190, 191, 192, 193, 194, 195, 196, 197, 995, 996, 997, 998, 969, 967, 968, 971, 500, 501, 502, 503, 504, 981, 982, 983, 1625, 1626, 1627, 1628, 1629, 1630, 1631, 1632, 1633, 1634, 1635, 1636, 1637, 1681, 1682, 1656, 1657, 1658, 1659, 1660, 1661, 1662, 1663, 1664, 1665, 1666, 1667, 1668, 1669, 1670, 1671, 1672, 1676, 1677, 1678] (by decide +kernel) (by decide +kernel)) (goodIn_sub (fun _ h => List.mem_append_left _ (List.mem_append_left _ (List.mem_append_left _ (List.mem_append_left _ (List.mem_append_left _ (List.mem_append_left _ (List.mem_append_left _ (List.mem_append_right _ h)))))))) (by decide +kernel))) (goodIn_sub (fun _ h => List.mem_append_left _ (List.mem_append_left _ (List.mem_append_left _ (List.mem_append_left _ (List.mem_append_left _ (List.mem_append_left _ (List.mem_append_right _ h))))))) (by decide +kernel))) (goodIn_sub (fun _ h => List.mem_append_left _ (List.mem_append_left _ (List.mem_append_left _ (List.mem_append_left _ (List.mem_append_left _ (List.mem_append_right _ h)))))) (by decide +kernel))) (goodIn_sub (fun _ h => List.mem_append_left _ (List.mem_append_left _ (List.mem_append_left _ (List.mem_append_left _ (List.mem_append_right _ h))))) (by decide +kernel))) (goodIn_sub (fun _ h => List.mem_append_left _ (List.mem_append_left _ (List.mem_append_left _ (List.mem_append_right _ h)))) (by decide +kernel))) (goodIn_sub (fun _ h => List.mem_append_left _ (List.mem_append_left _ (List.mem_append_right _ h))) (by decide +kernel))
set_option maxRecDepth 20000 in
theorem gL_law_L_nextEclipseByTurns : GoodIn wsL_law (va_wsS RL 303 yL_nextEclipseByTurns wsL_nextEclipseByTurns) := goodIn_app (goodIn_of _ (by decide +kernel)) ggL_law_L_nextEclipseByTurns
set_option maxRecDepth 20000 in
theorem ggL_law_X11_nextEclipseByTurns : GoodIn wsL_law wsX11_nextEclipseByTurns := goodIn_ca (goodIn_ca (goodIn_r _ [1002, 1003, 985, 986, 5, 987, 155, 154, 146, 928, 929, 930, 931, 226, 227, 228, 229, 327, 328, 329, 323, 324, 325, 326, 221, 222, 223, 224, 225, 342, 343, 344, 345, 317, 346, 347, 348, 349, 330, 331, 332, 333, 530, 531, 532, 230, 231, 232, 233, 1638, 1639, 1640, 1641, 1642, 1643, 1644, 1645, 1646, 1647, 1648, 1649, 1650, 1651, 1652, 1653, 1654, 1655] (by decide +kernel) (by decide +kernel)) (goodIn_sub (fun _ h => List.mem_append_left _ (List.mem_append_left _ (List.mem_append_left _ (List.mem_append_left _ (List.mem_append_left _ (List.mem_append_left _ (List.mem_append_left _ (List.mem_append_right _ h)))))))) (by decide +kernel))) (goodIn_sub (fun _ h => List.mem_append_left _ (List.mem_append_right _ h)) (by decide +kernel))
set_option maxRecDepth 20000 in
theorem gL_law_X11_nextEclipseByTurns : GoodIn wsL_law (wsV RL 305 RX11 yX11_nextEclipseByTurns wsX11_nextEclipseByTurns) := goodIn_app (goodIn_of _ (by decide +kernel)) ggL_law_X11_nextEclipseByTurns
set_option maxRecDepth 20000 in
theorem ggL_law_L_planetByAngle : GoodIn wsL_law wsL_planetByAngle := goodIn_ca (goodIn_ca (goodIn_r _ [1006, 376, 1007, 1008, 1009, 2, 1010, 196, 197, 17, 903, 1011, 1012, 1013, 16, 1014, 56, 66, 69, 1625, 1626, 1627, 1628, 1629, 1630, 1631, 1632, 1633, 1634, 1635, 1636, 1637, 1656, 1657, 1658, 1659, 1660, 1661, 1662, 1663, 1664, 1665, 1666, 1667, 1668, 1669, 1670, 1671, 1672] (by decide +kernel) (by decide +kernel)) (goodIn_sub (fun _ h => List.mem_append_left _ (List.mem_append_left _ (List.mem_append_left _ (List.mem_append_left _ (List.mem_append_left _ (List.mem_append_left _ (List.mem_append_left _ (List.mem_append_right _ h)))))))) (by decide +kernel))) (goodIn_sub (fun _ h => List.mem_append_left _ (List.mem_append_left _ (List.mem_append_right _ h))) (by decide +kernel))
set_option maxRecDepth 20000 in
theorem gL_law_L_planetByAngle : GoodIn wsL_law (va_wsS RL 306 yL_planetByAngle wsL_planetByAngle) := goodIn_app (goodIn_of _ (by decide +kernel)) ggL_law_L_planetByAngle
set_option maxRecDepth 20000 in
theorem ggL_law_X11_planetByAngle : GoodIn wsL_law wsX11_planetByAngle := goodIn_ca (goodIn_r _ [1018, 226, 227, 228, 5, 229, 146, 1019, 1020, 1021, 1022, 943, 944, 945, 946, 230, 231, 232, 233, 225, 221, 222, 223, 224, 1638, 1639, 1640, 1641, 1642, 1643, 1644, 1645, 1646, 1647, 1648, 1649, 1650, 1651, 1652, 1653, 1654, 1655] (by decide +kernel) (by decide +kernel)) (goodIn_sub (fun _ h => List.mem_append_left _ (List.mem_append_left _ (List.mem_append_left _ (List.mem_append_left _ (List.mem_append_left _ (List.mem_append_left _ (List.mem_append_left _ (List.mem_append_right _ h)))))))) (by decide +kernel))
set_option maxRecDepth 20000 in
theorem gL_law_X11_planetByAngle : GoodIn wsL_law (wsV RL 308 RX11 yX11_planetByAngle wsX11_planetByAngle) := goodIn_app (goodIn_of _ (by decide +kernel)) ggL_law_X11_planetByAngle
set_option maxRecDepth 20000 in
theorem ggL_law_L_fewestPairs : GoodIn wsL_law wsL_fewestPairs := goodIn_ca (goodIn_ca (goodIn_ca (goodIn_r _ [1025, 162, 376, 1026, 1027, 1028, 2, 1029, 40, 1030, 1031, 1032, 190, 191, 1033, 1034, 1035, 39, 1036, 109, 1037, 1038, 1039, 1040, 1041, 1042, 981, 982, 983, 196, 197, 1625, 1626, 1627, 1628, 1629, 1630, 1631, 1632, 1633, 1634, 1635, 1636, 1637, 1683, 1684, 1685, 1686, 1687, 1688, 1656, 1657, 1658, 1659, 1660, 1661, 1662, 1663, 1664, 1665, 1666, 1667, 1668, 1669, 1670, 1671, 1672] (by decide +kernel) (by decide +kernel)) (goodIn_sub (fun _ h => List.mem_append_left _ (List.mem_append_left _ (List.mem_append_left _ (List.mem_append_left _ (List.mem_append_left _ (List.mem_append_left _ (List.mem_append_left _ (List.mem_append_right _ h)))))))) (by decide +kernel))) (goodIn_sub (fun _ h => List.mem_append_left _ (List.mem_append_left _ (List.mem_append_left _ (List.mem_append_left _ (List.mem_append_left _ (List.mem_append_right _ h)))))) (by decide +kernel))) (goodIn_sub (fun _ h => List.mem_append_left _ (List.mem_append_left _ (List.mem_append_right _ h))) (by decide +kernel))
set_option maxRecDepth 20000 in
theorem gL_law_L_fewestPairs : GoodIn wsL_law (va_wsS RL 309 yL_fewestPairs wsL_fewestPairs) := goodIn_app (goodIn_of _ (by decide +kernel)) ggL_law_L_fewestPairs
set_option maxRecDepth 20000 in
theorem ggL_law_X11_fewestPairs : GoodIn wsL_law wsX11_fewestPairs := goodIn_ca (goodIn_r _ [1046, 327, 328, 5, 329, 221, 222, 223, 224, 225, 319, 320, 321, 322, 323, 324, 325, 326, 226, 227, 228, 229, 146, 1047, 1048, 1049, 1050, 230, 231, 232, 233, 1051, 1052, 1053, 1054, 1638, 1639, 1640, 1641, 1642, 1643, 1644, 1645, 1646, 1647, 1648, 1649, 1650, 1651, 1652, 1653, 1654, 1655] (by decide +kernel) (by decide +kernel)) (goodIn_sub (fun _ h => List.mem_append_left _ (List.mem_append_left _ (List.mem_append_left _ (List.mem_append_left _ (List.mem_append_left _ (List.mem_append_left _ (List.mem_append_left _ (List.mem_append_right _ h)))))))) (by decide +kernel))
set_option maxRecDepth 20000 in
theorem gL_law_X11_fewestPairs : GoodIn wsL_law (wsV RL 311 RX11 yX11_fewestPairs wsX11_fewestPairs) := goodIn_app (goodIn_of _ (by decide +kernel)) ggL_law_X11_fewestPairs
set_option maxRecDepth 20000 in
theorem ggL_law_L_fewestPairsByTable : GoodIn wsL_law wsL_fewestPairsByTable := goodIn_ca (goodIn_ca (goodIn_ca (goodIn_r _ [1057, 162, 376, 1058, 1059, 1060, 2, 1061, 40, 1030, 1031, 1032, 190, 191, 1062, 1063, 1064, 39, 1065, 108, 105, 104, 106, 107, 1066, 1067, 1068, 1069, 109, 1037, 1070, 1071, 1072, 1073, 1038, 1074, 739, 284, 740, 741, 497, 473, 498, 742, 500, 501, 502, 503, 288, 504, 1075, 283, 285, 286, 287, 289, 1076, 1077, 1078, 1079, 981, 982, 983, 196, 197, 1625, 1626, 1627, 1628, 1629, 1630, 1631, 1632, 1633, 1634, 1635, 1636, 1637, 1683, 1684, 1685, 1686, 1687, 1688, 1656, 1657, 1658, 1659, 1660, 1661, 1662, 1663, 1664, 1665, 1666, 1667, 1668, 1669, 1670, 1671, 1672] (by decide +kernel) (by decide +kernel)) (goodIn_sub (fun _ h => List.mem_append_left _ (List.mem_append_left _ (List.mem_append_left _ (List.mem_append_left _ (List.mem_append_left _ (List.mem_append_left _ (List.mem_append_left _ (List.mem_append_right _ h)))))))) (by decide +kernel))) (goodIn_sub (fun _ h => List.mem_append_left _ (List.mem_append_left _ (List.mem_append_left _ (List.mem_append_left _ (List.mem_append_left _ (List.mem_append_right _ h)))))) (by decide +kernel))) (goodIn_sub (fun _ h => List.mem_append_left _ (List.mem_append_left _ (List.mem_append_right _ h))) (by decide +kernel))
set_option maxRecDepth 20000 in
theorem gL_law_L_fewestPairsByTable : GoodIn wsL_law (va_wsS RL 312 yL_fewestPairsByTable wsL_fewestPairsByTable) := goodIn_app (goodIn_of _ (by decide +kernel)) ggL_law_L_fewestPairsByTable
set_option maxRecDepth 20000 in
theorem ggL_law_X11_fewestPairsByTable : GoodIn wsL_law wsX11_fewestPairsByTable := goodIn_ca (goodIn_r _ [1083, 1084, 1044, 1045, 5, 1046, 327, 328, 329, 221, 222, 223, 224, 225, 319, 320, 321, 322, 323, 324, 325, 326, 226, 227, 228, 229, 146, 1047, 1048, 1049, 1050, 230, 231, 232, 233, 1051, 1052, 1053, 1054, 1638, 1639, 1640, 1641, 1642, 1643, 1644, 1645, 1646, 1647, 1648, 1649, 1650, 1651, 1652, 1653, 1654, 1655] (by decide +kernel) (by decide +kernel)) (goodIn_sub (fun _ h => List.mem_append_left _ (List.mem_append_left _ (List.mem_append_left _ (List.mem_append_left _ (List.mem_append_left _ (List.mem_append_left _ (List.mem_append_left _ (List.mem_append_right _ h)))))))) (by decide +kernel))
set_option maxRecDepth 20000 in
theorem gL_law_X11_fewestPairsByTable : GoodIn wsL_law (wsV RL 314 RX11 yX11_fewestPairsByTable wsX11_fewestPairsByTable) := goodIn_app (goodIn_of _ (by decide +kernel)) ggL_law_X11_fewestPairsByTable
set_option maxRecDepth 20000 in
theorem ggL_law_X10_woundTotal : GoodIn wsL_law wsX10_woundTotal := goodIn_r _ [1088, 17, 1089, 1625, 1626, 1627, 1628, 1629, 1630, 1631, 1632, 1633, 1634, 1635, 1636, 1637, 1656, 1657, 1658, 1659, 1660, 1661, 1662, 1663, 1664, 1665, 1666, 1667, 1668, 1669, 1670, 1671, 1672] (by decide +kernel) (by decide +kernel)
set_option maxRecDepth 20000 in
theorem gL_law_X10_woundTotal : GoodIn wsL_law (wsV RL 315 RX10 yX10_woundTotal wsX10_woundTotal) := goodIn_app (goodIn_of _ (by decide +kernel)) ggL_law_X10_woundTotal
set_option maxRecDepth 20000 in
theorem ggL_law_X11_woundTotal : GoodIn wsL_law wsX11_woundTotal := goodIn_ca (goodIn_r _ [1093, 226, 227, 228, 5, 229, 146, 230, 231, 232, 233, 225, 1638, 1639, 1640, 1641, 1642, 1643, 1644, 1645, 1646, 1647, 1648, 1649, 1650, 1651, 1652, 1653, 1654, 1655] (by decide +kernel) (by decide +kernel)) (goodIn_sub (fun _ h => List.mem_append_left _ (List.mem_append_left _ (List.mem_append_left _ (List.mem_append_left _ (List.mem_append_left _ (List.mem_append_left _ (List.mem_append_left _ (List.mem_append_right _ h)))))))) (by decide +kernel))
set_option maxRecDepth 20000 in
theorem gL_law_X11_woundTotal : GoodIn wsL_law (wsV RL 318 RX11 yX11_woundTotal wsX11_woundTotal) := goodIn_app (goodIn_of _ (by decide +kernel)) ggL_law_X11_woundTotal
set_option maxRecDepth 20000 in
theorem ggL_law_X10_tensionTotal : GoodIn wsL_law wsX10_tensionTotal := goodIn_ca (goodIn_r _ [1097, 17, 1098, 1099, 1100, 16, 1101, 67, 62, 1625, 1626, 1627, 1628, 1629, 1630, 1631, 1632, 1633, 1634, 1635, 1636, 1637, 1656, 1657, 1658, 1659, 1660, 1661, 1662, 1663, 1664, 1665, 1666, 1667, 1668, 1669, 1670, 1671, 1672] (by decide +kernel) (by decide +kernel)) (goodIn_sub (fun _ h => List.mem_append_left _ (List.mem_append_left _ (List.mem_append_left _ (List.mem_append_left _ (List.mem_append_left _ (List.mem_append_left _ (List.mem_append_left _ (List.mem_append_right _ h)))))))) (by decide +kernel))
set_option maxRecDepth 20000 in
theorem gL_law_X10_tensionTotal : GoodIn wsL_law (wsV RL 319 RX10 yX10_tensionTotal wsX10_tensionTotal) := goodIn_app (goodIn_of _ (by decide +kernel)) ggL_law_X10_tensionTotal
set_option maxRecDepth 20000 in
theorem ggL_law_X11_tensionTotal : GoodIn wsL_law wsX11_tensionTotal := goodIn_ca (goodIn_r _ [1105, 226, 227, 228, 5, 229, 146, 230, 231, 232, 233, 225, 1638, 1639, 1640, 1641, 1642, 1643, 1644, 1645, 1646, 1647, 1648, 1649, 1650, 1651, 1652, 1653, 1654, 1655] (by decide +kernel) (by decide +kernel)) (goodIn_sub (fun _ h => List.mem_append_left _ (List.mem_append_left _ (List.mem_append_left _ (List.mem_append_left _ (List.mem_append_left _ (List.mem_append_left _ (List.mem_append_left _ (List.mem_append_right _ h)))))))) (by decide +kernel))
set_option maxRecDepth 20000 in
theorem gL_law_X11_tensionTotal : GoodIn wsL_law (wsV RL 322 RX11 yX11_tensionTotal wsX11_tensionTotal) := goodIn_app (goodIn_of _ (by decide +kernel)) ggL_law_X11_tensionTotal
set_option maxRecDepth 20000 in
theorem ggL_law_X10_tensionByAccounts : GoodIn wsL_law wsX10_tensionByAccounts := goodIn_r _ [1109, 17, 1089, 1110, 1625, 1626, 1627, 1628, 1629, 1630, 1631, 1632, 1633, 1634, 1635, 1636, 1637, 1656, 1657, 1658, 1659, 1660, 1661, 1662, 1663, 1664, 1665, 1666, 1667, 1668, 1669, 1670, 1671, 1672] (by decide +kernel) (by decide +kernel)
set_option maxRecDepth 20000 in
theorem gL_law_X10_tensionByAccounts : GoodIn wsL_law (wsV RL 323 RX10 yX10_tensionByAccounts wsX10_tensionByAccounts) := goodIn_app (goodIn_of _ (by decide +kernel)) ggL_law_X10_tensionByAccounts
set_option maxRecDepth 20000 in
theorem ggL_law_X11_tensionByAccounts : GoodIn wsL_law wsX11_tensionByAccounts := goodIn_ca (goodIn_r _ [1114, 226, 227, 228, 5, 229, 146, 230, 231, 232, 233, 225, 1638, 1639, 1640, 1641, 1642, 1643, 1644, 1645, 1646, 1647, 1648, 1649, 1650, 1651, 1652, 1653, 1654, 1655] (by decide +kernel) (by decide +kernel)) (goodIn_sub (fun _ h => List.mem_append_left _ (List.mem_append_left _ (List.mem_append_left _ (List.mem_append_left _ (List.mem_append_left _ (List.mem_append_left _ (List.mem_append_left _ (List.mem_append_right _ h)))))))) (by decide +kernel))
set_option maxRecDepth 20000 in
theorem gL_law_X11_tensionByAccounts : GoodIn wsL_law (wsV RL 326 RX11 yX11_tensionByAccounts wsX11_tensionByAccounts) := goodIn_app (goodIn_of _ (by decide +kernel)) ggL_law_X11_tensionByAccounts
set_option maxRecDepth 20000 in
theorem ggL_law_X10_releaseTotal : GoodIn wsL_law wsX10_releaseTotal := goodIn_r _ [1118, 17, 1119, 1625, 1626, 1627, 1628, 1629, 1630, 1631, 1632, 1633, 1634, 1635, 1636, 1637, 1656, 1657, 1658, 1659, 1660, 1661, 1662, 1663, 1664, 1665, 1666, 1667, 1668, 1669, 1670, 1671, 1672] (by decide +kernel) (by decide +kernel)
set_option maxRecDepth 20000 in
theorem gL_law_X10_releaseTotal : GoodIn wsL_law (wsV RL 327 RX10 yX10_releaseTotal wsX10_releaseTotal) := goodIn_app (goodIn_of _ (by decide +kernel)) ggL_law_X10_releaseTotal
set_option maxRecDepth 20000 in
theorem ggL_law_X11_releaseTotal : GoodIn wsL_law wsX11_releaseTotal := goodIn_ca (goodIn_r _ [1123, 226, 227, 228, 5, 229, 146, 230, 231, 232, 233, 225, 1638, 1639, 1640, 1641, 1642, 1643, 1644, 1645, 1646, 1647, 1648, 1649, 1650, 1651, 1652, 1653, 1654, 1655] (by decide +kernel) (by decide +kernel)) (goodIn_sub (fun _ h => List.mem_append_left _ (List.mem_append_left _ (List.mem_append_left _ (List.mem_append_left _ (List.mem_append_left _ (List.mem_append_left _ (List.mem_append_left _ (List.mem_append_right _ h)))))))) (by decide +kernel))
set_option maxRecDepth 20000 in
theorem gL_law_X11_releaseTotal : GoodIn wsL_law (wsV RL 330 RX11 yX11_releaseTotal wsX11_releaseTotal) := goodIn_app (goodIn_of _ (by decide +kernel)) ggL_law_X11_releaseTotal
set_option maxRecDepth 20000 in
theorem ggL_law_L_meanTeeth : GoodIn wsL_law wsL_meanTeeth := goodIn_ca (goodIn_ca (goodIn_r _ [1126, 1127, 1128, 1129, 1130, 2, 1131, 1132, 1133, 17, 634, 1134, 1135, 1136, 16, 1137, 67, 55, 1625, 1626, 1627, 1628, 1629, 1630, 1631, 1632, 1633, 1634, 1635, 1636, 1637, 1656, 1657, 1658, 1659, 1660, 1661, 1662, 1663, 1664, 1665, 1666, 1667, 1668, 1669, 1670, 1671, 1672] (by decide +kernel) (by decide +kernel)) (goodIn_sub (fun _ h => List.mem_append_left _ (List.mem_append_left _ (List.mem_append_left _ (List.mem_append_left _ (List.mem_append_left _ (List.mem_append_left _ (List.mem_append_left _ (List.mem_append_right _ h)))))))) (by decide +kernel))) (goodIn_sub (fun _ h => List.mem_append_right _ h) (by decide +kernel))
set_option maxRecDepth 20000 in
theorem gL_law_L_meanTeeth : GoodIn wsL_law (va_wsS RL 331 yL_meanTeeth wsL_meanTeeth) := goodIn_app (goodIn_of _ (by decide +kernel)) ggL_law_L_meanTeeth
set_option maxRecDepth 20000 in
theorem ggL_law_X11_meanTeeth : GoodIn wsL_law wsX11_meanTeeth := goodIn_ca (goodIn_r _ [1141, 146, 225, 1638, 1639, 1640, 1641, 1642, 1643, 1644, 1645, 1646, 1647, 1648, 1649, 1650, 1651, 1652, 1653, 1654, 1655] (by decide +kernel) (by decide +kernel)) (goodIn_sub (fun _ h => List.mem_append_left _ (List.mem_append_left _ (List.mem_append_left _ (List.mem_append_left _ (List.mem_append_left _ (List.mem_append_left _ (List.mem_append_left _ (List.mem_append_right _ h)))))))) (by decide +kernel))
set_option maxRecDepth 20000 in
theorem gL_law_X11_meanTeeth : GoodIn wsL_law (wsV RL 334 RX11 yX11_meanTeeth wsX11_meanTeeth) := goodIn_app (goodIn_of _ (by decide +kernel)) ggL_law_X11_meanTeeth
set_option maxRecDepth 20000 in
theorem ggL_law_L_dryShare : GoodIn wsL_law wsL_dryShare := goodIn_ca (goodIn_ca (goodIn_r _ [1144, 1127, 1145, 1146, 1147, 2, 1148, 1132, 1133, 17, 634, 1149, 1150, 1151, 16, 1152, 67, 58, 1625, 1626, 1627, 1628, 1629, 1630, 1631, 1632, 1633, 1634, 1635, 1636, 1637, 1656, 1657, 1658, 1659, 1660, 1661, 1662, 1663, 1664, 1665, 1666, 1667, 1668, 1669, 1670, 1671, 1672] (by decide +kernel) (by decide +kernel)) (goodIn_sub (fun _ h => List.mem_append_left _ (List.mem_append_left _ (List.mem_append_left _ (List.mem_append_left _ (List.mem_append_left _ (List.mem_append_left _ (List.mem_append_left _ (List.mem_append_right _ h)))))))) (by decide +kernel))) (goodIn_sub (fun _ h => List.mem_append_right _ h) (by decide +kernel))
set_option maxRecDepth 20000 in
theorem gL_law_L_dryShare : GoodIn wsL_law (va_wsS RL 335 yL_dryShare wsL_dryShare) := goodIn_app (goodIn_of _ (by decide +kernel)) ggL_law_L_dryShare
set_option maxRecDepth 20000 in
theorem ggL_law_X11_dryShare : GoodIn wsL_law wsX11_dryShare := goodIn_ca (goodIn_r _ [1156, 146, 225, 226, 227, 228, 5, 229, 1638, 1639, 1640, 1641, 1642, 1643, 1644, 1645, 1646, 1647, 1648, 1649, 1650, 1651, 1652, 1653, 1654, 1655] (by decide +kernel) (by decide +kernel)) (goodIn_sub (fun _ h => List.mem_append_left _ (List.mem_append_left _ (List.mem_append_left _ (List.mem_append_left _ (List.mem_append_left _ (List.mem_append_left _ (List.mem_append_left _ (List.mem_append_right _ h)))))))) (by decide +kernel))
set_option maxRecDepth 20000 in
theorem gL_law_X11_dryShare : GoodIn wsL_law (wsV RL 337 RX11 yX11_dryShare wsX11_dryShare) := goodIn_app (goodIn_of _ (by decide +kernel)) ggL_law_X11_dryShare
set_option maxRecDepth 20000 in
theorem ggL_law_X10_isConsistent : GoodIn wsL_law wsX10_isConsistent := goodIn_ca (goodIn_r _ [1160, 36, 40, 17, 1089, 1110, 1161, 1162, 1163, 2, 1164, 634, 713, 714, 715, 716, 28, 717, 685, 265, 266, 27, 267, 85, 87, 268, 86, 269, 270, 271, 272, 273, 274, 275, 276, 16, 277, 65, 278, 279, 280, 281, 55, 282, 283, 284, 285, 286, 287, 288, 289, 729, 730, 731, 732, 733, 734, 735, 736, 737, 738, 739, 740, 741, 497, 473, 498, 742, 500, 501, 502, 503, 504, 743, 1165, 1166, 1167, 35, 1168, 98, 1169, 958, 1170, 955, 956, 957, 99, 959, 921, 922, 923, 69, 960, 261, 262, 263, 67, 961, 962, 295, 296, 297, 1171, 964, 965, 966, 967, 968, 969, 970, 971, 972, 973, 974, 975, 976, 977, 978, 979, 980, 1172, 996, 997, 998, 1173, 1174, 1175, 39, 1176, 1177, 1034, 1035, 1036, 109, 1037, 1038, 1039, 1040, 1041, 1042, 1178, 1063, 1064, 1065, 108, 105, 104, 106, 107, 1066, 1067, 1068, 1069, 1070, 1071, 1072, 1073, 1074, 1075, 1076, 1077, 1078, 1079, 1098, 1099, 1100, 1101, 62, 1625, 1626, 1627, 1628, 1629, 1630, 1631, 1632, 1633, 1634, 1635, 1636, 1637, 1656, 1657, 1658, 1659, 1660, 1661, 1662, 1663, 1664, 1665, 1666, 1667, 1668, 1669, 1670, 1671, 1672, 1676, 1677, 1678, 1681, 1682, 1683, 1684, 1685, 1686, 1687, 1688] (by decide +kernel) (by decide +kernel)) (goodIn_sub (fun _ h => List.mem_append_left _ (List.mem_append_left _ (List.mem_append_left _ (List.mem_append_left _ (List.mem_append_left _ (List.mem_append_left _ (List.mem_append_left _ (List.mem_append_right _ h)))))))) (by decide +kernel))
set_option maxRecDepth 20000 in
theorem gL_law_X10_isConsistent : GoodIn wsL_law (wsV RL 338 RX10 yX10_isConsistent wsX10_isConsistent) := goodIn_app (goodIn_of _ (by decide +kernel)) ggL_law_X10_isConsistent
set_option maxRecDepth 20000 in
theorem ggL_law_X11_isConsistent : GoodIn wsL_law wsX11_isConsistent := goodIn_r _ [1182, 225, 1638, 1639, 1640, 1641, 1642, 1643, 1644, 1645, 1646, 1647, 1648, 1649, 1650, 1651, 1652, 1653, 1654, 1655] (by decide +kernel) (by decide +kernel)
set_option maxRecDepth 20000 in
theorem gL_law_X11_isConsistent : GoodIn wsL_law (wsV RL 342 RX11 yX11_isConsistent wsX11_isConsistent) := goodIn_app (goodIn_of _ (by decide +kernel)) ggL_law_X11_isConsistent
set_option maxRecDepth 20000 in
theorem ggL_law_L_renderGear : GoodIn wsL_law wsL_renderGear := goodIn_ca (goodIn_ca (goodIn_r _ [1185, 246, 1186, 1187, 1188, 2, 1189, 48, 17, 646, 873, 861, 781, 802, 1190, 647, 648, 649, 650, 188, 189, 651, 261, 262, 16, 263, 67, 1191, 1192, 1193, 47, 1194, 1195, 1196, 1197, 1198, 127, 1199, 1200, 1201, 1202, 1203, 132, 1204, 1205, 1206, 1207, 1208, 1209, 133, 1210, 1211, 1212, 1213, 1214, 1215, 1216, 1217, 1218, 1219, 1220, 1221, 473, 1222, 1223, 1224, 1225, 1226, 1227, 1228, 1229, 1230, 1231, 1232, 1233, 1234, 1235, 1236, 131, 1237, 472, 474, 1238, 1239, 1240, 1241, 1242, 1243, 1244, 1245, 1246, 130, 1247, 1248, 1249, 1250, 1251, 1252, 1253, 1254, 1255, 1256, 1257, 46, 1258, 1259, 1260, 1261, 1262, 136, 1263, 1264, 1265, 1266, 1267, 1268, 1269, 1270, 1271, 1272, 1273, 1274, 1275, 1276, 1277, 1278, 1279, 1280, 1281, 1282, 1283, 1284, 1285, 1286, 1287, 1288, 1289, 1290, 1291, 1292, 1293, 1294, 1295, 1296, 1297, 1298, 1299, 1300, 1301, 1302, 1303, 1304, 1305, 1306, 1307, 1308, 1309, 1310, 1311, 1312, 1313, 1314, 1315, 1316, 1317, 1318, 1319, 1320, 1321, 1322, 1323, 1324, 1325, 1326, 134, 135, 137, 138, 139, 140, 141, 1327, 1328, 1329, 1330, 1331, 1332, 1333, 1334, 1335, 1336, 1337, 1338, 1339, 1340, 1341, 1342, 1343, 1344, 1345, 1346, 1347, 1348, 1349, 1350, 1351, 1352, 1353, 786, 299, 300, 301, 61, 1354, 1355, 1356, 1357, 1358, 1359, 1360, 1361, 1625, 1626, 1627, 1628, 1629, 1630, 1631, 1632, 1633, 1634, 1635, 1636, 1637, 1656, 1657, 1658, 1659, 1660, 1661, 1662, 1663, 1664, 1665, 1666, 1667, 1668, 1669, 1670, 1671, 1672, 1701, 1702, 1703, 1704, 1705, 1706, 1697, 1698, 1699, 1700, 1707, 1708, 1709, 1710, 1711, 1712] (by decide +kernel) (by decide +kernel)) (goodIn_sub (fun _ h => List.mem_append_left _ (List.mem_append_left _ (List.mem_append_left _ (List.mem_append_left _ (List.mem_append_left _ (List.mem_append_left _ (List.mem_append_left _ (List.mem_append_right _ h)))))))) (by decide +kernel))) (goodIn_sub (fun _ h => List.mem_append_left _ (List.mem_append_left _ (List.mem_append_left _ (List.mem_append_left _ (List.mem_append_left _ (List.mem_append_left _ (List.mem_append_right _ h))))))) (by decide +kernel))
set_option maxRecDepth 20000 in
theorem gL_law_L_renderGear : GoodIn wsL_law (va_wsS RL 343 yL_renderGear wsL_renderGear) := goodIn_app (goodIn_of _ (by decide +kernel)) ggL_law_L_renderGear
set_option maxRecDepth 20000 in
theorem ggL_law_X11_renderGear : GoodIn wsL_law wsX11_renderGear := goodIn_ca (goodIn_ca (goodIn_r _ [1365, 1366, 146, 323, 324, 325, 5, 326, 226, 227, 228, 229, 327, 328, 329, 221, 222, 223, 224, 225, 1367, 1368, 1369, 1370, 1371, 1372, 1373, 1374, 153, 1375, 1376, 1377, 1378, 354, 355, 356, 357, 230, 231, 232, 233, 1638, 1639, 1640, 1641, 1642, 1643, 1644, 1645, 1646, 1647, 1648, 1649, 1650, 1651, 1652, 1653, 1654, 1655] (by decide +kernel) (by decide +kernel)) (goodIn_sub (fun _ h => List.mem_append_left _ (List.mem_append_left _ (List.mem_append_left _ (List.mem_append_left _ (List.mem_append_left _ (List.mem_append_left _ (List.mem_append_left _ (List.mem_append_right _ h)))))))) (by decide +kernel))) (goodIn_sub (fun _ h => List.mem_append_left _ (List.mem_append_right _ h)) (by decide +kernel))
set_option maxRecDepth 20000 in
theorem gL_law_X11_renderGear : GoodIn wsL_law (wsV RL 345 RX11 yX11_renderGear wsX11_renderGear) := goodIn_app (goodIn_of _ (by decide +kernel)) ggL_law_X11_renderGear
set_option maxRecDepth 20000 in
theorem ggL_law_L_renderTrain : GoodIn wsL_law wsL_renderTrain := goodIn_ca (goodIn_ca (goodIn_r _ [1381, 246, 1382, 1383, 1384, 2, 1385, 28, 17, 48, 634, 647, 648, 649, 650, 188, 189, 651, 261, 262, 16, 263, 67, 685, 265, 266, 27, 267, 85, 87, 268, 86, 269, 270, 271, 272, 273, 274, 275, 276, 277, 65, 278, 279, 280, 281, 55, 282, 283, 284, 285, 286, 287, 288, 289, 1191, 1192, 1193, 47, 1194, 1195, 1196, 1197, 1198, 127, 1199, 1200, 1201, 1202, 1203, 132, 1204, 1205, 1206, 1207, 1208, 1209, 133, 1210, 1211, 1212, 1213, 1214, 1215, 1216, 1217, 1218, 1219, 1220, 1221, 473, 1222, 1223, 1224, 1225, 1226, 1227, 1228, 1229, 1230, 1231, 1232, 1233, 1234, 1235, 1236, 131, 1237, 472, 474, 1238, 1239, 1240, 1241, 1242, 1243, 1244, 1245, 1246, 130, 1247, 1248, 1249, 1250, 1251, 1252, 1253, 1254, 1255, 1256, 1257, 46, 1258, 1259, 1260, 1261, 1262, 136, 1263, 1264, 697, 295, 296, 297, 1354, 1355, 1356, 1357, 1358, 1359, 1360, 1361, 1311, 1312, 1313, 1314, 1315, 1316, 1317, 1318, 1319, 1320, 1321, 1322, 1323, 1324, 1325, 1326, 134, 135, 137, 138, 139, 140, 141, 1327, 1328, 1329, 1330, 1331, 1332, 1333, 1334, 1335, 1289, 1290, 1291, 1336, 1337, 1294, 1338, 1296, 1339, 1340, 1299, 1341, 1306, 1307, 1308, 1285, 1309, 1310, 1342, 1343, 1344, 1345, 1346, 1347, 1348, 1349, 1350, 1351, 1352, 1353, 1265, 1266, 1267, 1268, 1269, 1270, 1271, 1272, 1273, 1274, 1275, 1276, 1277, 1278, 1279, 1280, 1281, 1282, 1283, 1284, 1286, 1287, 1288, 1292, 1293, 1295, 1297, 1298, 1300, 1301, 1302, 1303, 1304, 1305, 1386, 615, 616, 617, 69, 66, 1625, 1626, 1627, 1628, 1629, 1630, 1631, 1632, 1633, 1634, 1635, 1636, 1637, 1656, 1657, 1658, 1659, 1660, 1661, 1662, 1663, 1664, 1665, 1666, 1667, 1668, 1669, 1670, 1671, 1672, 1676, 1677, 1678, 1701, 1702, 1703, 1704, 1705, 1706, 1697, 1698, 1699, 1700, 1707, 1708, 1709, 1710, 1711, 1712] (by decide +kernel) (by decide +kernel)) (goodIn_sub (fun _ h => List.mem_append_left _ (List.mem_append_left _ (List.mem_append_left _ (List.mem_append_left _ (List.mem_append_left _ (List.mem_append_left _ (List.mem_append_left _ (List.mem_append_right _ h)))))))) (by decide +kernel))) (goodIn_sub (fun _ h => List.mem_append_left _ (List.mem_append_left _ (List.mem_append_left _ (List.mem_append_left _ (List.mem_append_left _ (List.mem_append_left _ (List.mem_append_right _ h))))))) (by decide +kernel))
set_option maxRecDepth 20000 in
theorem gL_law_L_renderTrain : GoodIn wsL_law (va_wsS RL 346 yL_renderTrain wsL_renderTrain) := goodIn_app (goodIn_of _ (by decide +kernel)) ggL_law_L_renderTrain
set_option maxRecDepth 20000 in
theorem ggL_law_X11_renderTrain : GoodIn wsL_law wsX11_renderTrain := goodIn_ca (goodIn_ca (goodIn_r _ [1390, 1366, 155, 323, 324, 325, 5, 326, 226, 227, 228, 229, 146, 327, 328, 329, 221, 222, 223, 224, 225, 342, 343, 344, 345, 154, 317, 346, 347, 348, 349, 330, 331, 332, 333, 1375, 1376, 1377, 1378, 1371, 1372, 1373, 1374, 153, 1367, 1368, 1369, 1370, 626, 627, 628, 629, 230, 231, 232, 233, 1638, 1639, 1640, 1641, 1642, 1643, 1644, 1645, 1646, 1647, 1648, 1649, 1650, 1651, 1652, 1653, 1654, 1655] (by decide +kernel) (by decide +kernel)) (goodIn_sub (fun _ h => List.mem_append_left _ (List.mem_append_left _ (List.mem_append_left _ (List.mem_append_left _ (List.mem_append_left _ (List.mem_append_left _ (List.mem_append_left _ (List.mem_append_right _ h)))))))) (by decide +kernel))) (goodIn_sub (fun _ h => List.mem_append_left _ (List.mem_append_right _ h)) (by decide +kernel))
set_option maxRecDepth 20000 in
theorem gL_law_X11_renderTrain : GoodIn wsL_law (wsV RL 348 RX11 yX11_renderTrain wsX11_renderTrain) := goodIn_app (goodIn_of _ (by decide +kernel)) ggL_law_X11_renderTrain
set_option maxRecDepth 20000 in
theorem ggL_law_L_outputAt : GoodIn wsL_law wsL_outputAt := goodIn_ca (goodIn_ca (goodIn_r _ [1393, 246, 1394, 1395, 1396, 2, 1397, 188, 189, 48, 1354, 1355, 1356, 47, 1357, 1358, 1359, 1197, 1360, 127, 1361, 1203, 1398, 1399, 1400, 1401, 1402, 1403, 1404, 1405, 133, 132, 1406, 472, 473, 474, 1407, 1349, 1294, 1350, 1296, 1351, 1352, 1299, 1353, 1408, 1409, 136, 1410, 1285, 1309, 1310, 1289, 1290, 1291, 1625, 1626, 1627, 1628, 1629, 1630, 1631, 1632, 1633, 1634, 1635, 1636, 1637, 1697, 1698, 1699, 1700] (by decide +kernel) (by decide +kernel)) (goodIn_sub (fun _ h => List.mem_append_left _ (List.mem_append_left _ (List.mem_append_left _ (List.mem_append_left _ (List.mem_append_left _ (List.mem_append_left _ (List.mem_append_left _ (List.mem_append_right _ h)))))))) (by decide +kernel))) (goodIn_sub (fun _ h => List.mem_append_left _ (List.mem_append_left _ (List.mem_append_left _ (List.mem_append_left _ (List.mem_append_left _ (List.mem_append_left _ (List.mem_append_right _ h))))))) (by decide +kernel))
set_option maxRecDepth 20000 in
theorem gL_law_L_outputAt : GoodIn wsL_law (va_wsS RL 349 yL_outputAt wsL_outputAt) := goodIn_app (goodIn_of _ (by decide +kernel)) ggL_law_L_outputAt
set_option maxRecDepth 20000 in
theorem ggL_law_X11_outputAt : GoodIn wsL_law wsX11_outputAt := goodIn_ca (goodIn_r _ [1414, 1366, 225, 153, 327, 328, 5, 329, 1638, 1639, 1640, 1641, 1642, 1643, 1644, 1645, 1646, 1647, 1648, 1649, 1650, 1651, 1652, 1653, 1654, 1655] (by decide +kernel) (by decide +kernel)) (goodIn_sub (fun _ h => List.mem_append_left _ (List.mem_append_left _ (List.mem_append_left _ (List.mem_append_left _ (List.mem_append_left _ (List.mem_append_left _ (List.mem_append_left _ (List.mem_append_right _ h)))))))) (by decide +kernel))
set_option maxRecDepth 20000 in
theorem gL_law_X11_outputAt : GoodIn wsL_law (wsV RL 351 RX11 yX11_outputAt wsX11_outputAt) := goodIn_app (goodIn_of _ (by decide +kernel)) ggL_law_X11_outputAt
set_option maxRecDepth 20000 in
theorem ggL_law_L_type : GoodIn wsL_law wsL_type := goodIn_ca (goodIn_ca (goodIn_ca (goodIn_r _ [1417, 162, 163, 1418, 1419, 1420, 2, 1421, 190, 191, 192, 193, 44, 1422, 1423, 1424, 1425, 43, 1426, 114, 113, 1625, 1626, 1627, 1628, 1629, 1630, 1631, 1632, 1633, 1634, 1635, 1636, 1637, 1689, 1690, 1691, 1692, 1693, 1694, 1695, 1696] (by decide +kernel) (by decide +kernel)) (goodIn_sub (fun _ h => List.mem_append_left _ (List.mem_append_left _ (List.mem_append_left _ (List.mem_append_left _ (List.mem_append_left _ (List.mem_append_left _ (List.mem_append_left _ (List.mem_append_right _ h)))))))) (by decide +kernel))) (goodIn_sub (fun _ h => List.mem_append_left _ (List.mem_append_left _ (List.mem_append_left _ (List.mem_append_left _ (List.mem_append_left _ (List.mem_append_right _ h)))))) (by decide +kernel))) (goodIn_sub (fun _ h => List.mem_append_left _ (List.mem_append_left _ (List.mem_append_left _ (List.mem_append_left _ (List.mem_append_right _ h))))) (by decide +kernel))
set_option maxRecDepth 20000 in
theorem gL_law_L_type : GoodIn wsL_law (va_wsS RL 352 yL_type wsL_type) := goodIn_app (goodIn_of _ (by decide +kernel)) ggL_law_L_type
set_option maxRecDepth 20000 in
theorem ggL_law_X11_type : GoodIn wsL_law wsX11_type := goodIn_ca (goodIn_r _ [1430, 1431, 150, 327, 328, 5, 329, 221, 222, 223, 224, 225, 230, 231, 232, 233, 1638, 1639, 1640, 1641, 1642, 1643, 1644, 1645, 1646, 1647, 1648, 1649, 1650, 1651, 1652, 1653, 1654, 1655] (by decide +kernel) (by decide +kernel)) (goodIn_sub (fun _ h => List.mem_append_left _ (List.mem_append_left _ (List.mem_append_left _ (List.mem_append_left _ (List.mem_append_left _ (List.mem_append_left _ (List.mem_append_left _ (List.mem_append_right _ h)))))))) (by decide +kernel))
set_option maxRecDepth 20000 in
theorem gL_law_X11_type : GoodIn wsL_law (wsV RL 355 RX11 yX11_type wsX11_type) := goodIn_app (goodIn_of _ (by decide +kernel)) ggL_law_X11_type
set_option maxRecDepth 20000 in
theorem ggL_law_L_runScript : GoodIn wsL_law wsL_runScript := goodIn_ca (goodIn_ca (goodIn_ca (goodIn_r _ [1434, 162, 163, 1435, 1436, 1437, 2, 1438, 190, 191, 192, 193, 44, 49, 18, 17, 1439, 50, 24, 1440, 1441, 1442, 43, 1443, 115, 120, 114, 1444, 1445, 1446, 1447, 117, 119, 1448, 118, 121, 1449, 1450, 1451, 1452, 1453, 1454, 1221, 473, 1222, 1455, 1456, 1457, 1458, 113, 1459, 1460, 1461, 1294, 1462, 1463, 1464, 1465, 1466, 1467, 1468, 1469, 1470, 1471, 1472, 1473, 1474, 1475, 1476, 1477, 1478, 1479, 1249, 1480, 1481, 1349, 1350, 1296, 1351, 1352, 1299, 1353, 1482, 1483, 136, 1484, 1345, 1346, 1347, 1289, 1290, 1291, 1348, 1485, 1409, 1410, 1285, 1309, 1310, 1486, 1487, 1488, 1489, 1490, 1491, 1492, 1493, 1494, 1495, 1496, 1497, 1498, 1499, 1500, 1501, 168, 169, 170, 16, 171, 55, 56, 58, 59, 60, 61, 62, 63, 65, 66, 67, 68, 69, 70, 71, 72, 73, 1502, 1503, 1504, 1505, 1506, 1507, 1508, 1509, 32, 1510, 1511, 1512, 1513, 1514, 1515, 1516, 172, 173, 174, 31, 175, 92, 176, 177, 178, 179, 180, 252, 253, 254, 255, 93, 256, 257, 258, 259, 260, 261, 262, 263, 264, 265, 266, 27, 267, 85, 87, 268, 86, 269, 270, 271, 272, 273, 274, 275, 276, 277, 278, 279, 280, 281, 282, 283, 284, 285, 286, 287, 288, 289, 290, 291, 292, 293, 294, 295, 296, 297, 298, 299, 300, 301, 302, 303, 304, 305, 306, 307, 308, 381, 382, 383, 384, 400, 401, 402, 403, 404, 405, 406, 407, 408, 409, 425, 426, 427, 428, 429, 430, 431, 447, 448, 449, 450, 451, 467, 468, 469, 470, 471, 472, 474, 475, 476, 477, 478, 479, 480, 481, 482, 483, 484, 485, 486, 487, 488, 489, 490, 491, 492, 493, 494, 495, 496, 497, 498, 499, 500, 501, 502, 503, 504, 505, 506, 507, 508, 509, 548, 549, 550, 551, 552, 568, 569, 570, 571, 572, 588, 589, 590, 591, 608, 609, 610, 611, 612, 613, 614, 615, 616, 617, 198, 199, 200, 23, 201, 81, 80, 79, 202, 1625, 1626, 1627, 1628, 1629, 1630, 1631, 1632, 1633, 1634, 1635, 1636, 1637, 1689, 1690, 1691, 1692, 1693, 1694, 1695, 1696, 1713, 1714, 1715, 1716, 1656, 1657, 1658, 1659, 1660, 1661, 1662, 1663, 1664, 1665, 1666, 1667, 1668, 1669, 1670, 1671, 1672, 1679, 1680, 1676, 1677, 1678, 1673, 1674, 1675] (by decide +kernel) (by decide +kernel)) (goodIn_sub (fun _ h => List.mem_append_left _ (List.mem_append_left _ (List.mem_append_left _ (List.mem_append_left _ (List.mem_append_left _ (List.mem_append_left _ (List.mem_append_left _ (List.mem_append_right _ h)))))))) (by decide +kernel))) (goodIn_sub (fun _ h => List.mem_append_left _ (List.mem_append_left _ (List.mem_append_left _ (List.mem_append_left _ (List.mem_append_left _ (List.mem_append_right _ h)))))) (by decide +kernel))) (goodIn_sub (fun _ h => List.mem_append_left _ (List.mem_append_left _ (List.mem_append_left _ (List.mem_append_left _ (List.mem_append_right _ h))))) (by decide +kernel))
set_option maxRecDepth 20000 in
theorem gL_law_L_runScript : GoodIn wsL_law (va_wsS RL 356 yL_runScript wsL_runScript) := goodIn_app (goodIn_of _ (by decide +kernel)) ggL_law_L_runScript
set_option maxRecDepth 20000 in
theorem ggL_law_X11_runScript : GoodIn wsL_law wsX11_runScript := goodIn_ca (goodIn_ca (goodIn_r _ [1520, 1521, 1522, 1431, 151, 225, 152, 1523, 1524, 1525, 5, 1526, 156, 1527, 1528, 1529, 1530, 150, 1531, 1532, 1533, 1534, 1535, 1536, 1537, 1538, 1539, 1540, 1541, 1542, 1543, 1544, 1545, 1546, 327, 328, 329, 1547, 1548, 1549, 1550, 1551, 1552, 1553, 1554, 1555, 1556, 1557, 1558, 221, 222, 223, 224, 207, 208, 209, 210, 146, 147, 211, 212, 213, 1559, 1560, 1561, 1562, 214, 215, 216, 217, 218, 219, 220, 226, 227, 228, 229, 230, 231, 232, 233, 313, 314, 315, 316, 317, 318, 155, 154, 319, 320, 321, 322, 323, 324, 325, 326, 330, 331, 332, 333, 334, 335, 336, 337, 338, 339, 340, 341, 342, 343, 344, 345, 346, 347, 348, 349, 350, 351, 352, 353, 354, 355, 356, 357, 358, 359, 360, 361, 389, 390, 391, 392, 414, 415, 416, 417, 436, 437, 438, 439, 456, 457, 458, 459, 514, 515, 516, 517, 518, 519, 520, 521, 522, 523, 524, 525, 526, 527, 528, 529, 530, 531, 532, 533, 534, 535, 536, 537, 538, 539, 540, 557, 558, 559, 560, 577, 578, 579, 580, 596, 597, 598, 599, 600, 622, 623, 624, 625, 626, 627, 628, 629, 234, 235, 236, 237, 238, 148, 1638, 1639, 1640, 1641, 1642, 1643, 1644, 1645, 1646, 1647, 1648, 1649, 1650, 1651, 1652, 1653, 1654, 1655] (by decide +kernel) (by decide +kernel)) (goodIn_sub (fun _ h => List.mem_append_left _ (List.mem_append_left _ (List.mem_append_left _ (List.mem_append_left _ (List.mem_append_left _ (List.mem_append_left _ (List.mem_append_left _ (List.mem_append_right _ h)))))))) (by decide +kernel))) (goodIn_sub (fun _ h => List.mem_append_left _ (List.mem_append_right _ h)) (by decide +kernel))
set_option maxRecDepth 20000 in
theorem gL_law_X11_runScript : GoodIn wsL_law (wsV RL 359 RX11 yX11_runScript wsX11_runScript) := goodIn_app (goodIn_of _ (by decide +kernel)) ggL_law_X11_runScript
set_option maxRecDepth 20000 in
theorem ggL_law_L_errorPosition : GoodIn wsL_law wsL_errorPosition := goodIn_ca (goodIn_ca (goodIn_r _ [1565, 376, 1566, 1567, 1568, 2, 1569, 196, 197, 49, 1625, 1626, 1627, 1628, 1629, 1630, 1631, 1632, 1633, 1634, 1635, 1636, 1637] (by decide +kernel) (by decide +kernel)) (goodIn_sub (fun _ h => List.mem_append_left _ (List.mem_append_left _ (List.mem_append_left _ (List.mem_append_left _ (List.mem_append_left _ (List.mem_append_left _ (List.mem_append_left _ (List.mem_append_right _ h)))))))) (by decide +kernel))) (goodIn_sub (fun _ h => List.mem_append_left _ (List.mem_append_left _ (List.mem_append_right _ h))) (by decide +kernel))
set_option maxRecDepth 20000 in
theorem gL_law_L_errorPosition : GoodIn wsL_law (va_wsS RL 360 yL_errorPosition wsL_errorPosition) := goodIn_app (goodIn_of _ (by decide +kernel)) ggL_law_L_errorPosition
set_option maxRecDepth 20000 in
theorem ggL_law_X11_errorPosition : GoodIn wsL_law wsX11_errorPosition := goodIn_r _ [1573, 151, 221, 222, 223, 5, 224, 225, 230, 231, 232, 233, 1638, 1639, 1640, 1641, 1642, 1643, 1644, 1645, 1646, 1647, 1648, 1649, 1650, 1651, 1652, 1653, 1654, 1655] (by decide +kernel) (by decide +kernel)
set_option maxRecDepth 20000 in
theorem gL_law_X11_errorPosition : GoodIn wsL_law (wsV RL 362 RX11 yX11_errorPosition wsX11_errorPosition) := goodIn_app (goodIn_of _ (by decide +kernel)) ggL_law_X11_errorPosition
set_option maxRecDepth 20000 in
theorem ggL_law_L_failedCommand : GoodIn wsL_law wsL_failedCommand := goodIn_ca (goodIn_ca (goodIn_r _ [1576, 376, 1577, 1578, 1579, 2, 1580, 196, 197, 50, 1625, 1626, 1627, 1628, 1629, 1630, 1631, 1632, 1633, 1634, 1635, 1636, 1637] (by decide +kernel) (by decide +kernel)) (goodIn_sub (fun _ h => List.mem_append_left _ (List.mem_append_left _ (List.mem_append_left _ (List.mem_append_left _ (List.mem_append_left _ (List.mem_append_left _ (List.mem_append_left _ (List.mem_append_right _ h)))))))) (by decide +kernel))) (goodIn_sub (fun _ h => List.mem_append_left _ (List.mem_append_left _ (List.mem_append_right _ h))) (by decide +kernel))
set_option maxRecDepth 20000 in
theorem gL_law_L_failedCommand : GoodIn wsL_law (va_wsS RL 363 yL_failedCommand wsL_failedCommand) := goodIn_app (goodIn_of _ (by decide +kernel)) ggL_law_L_failedCommand
set_option maxRecDepth 20000 in
theorem ggL_law_X11_failedCommand : GoodIn wsL_law wsX11_failedCommand := goodIn_r _ [1584, 152, 221, 222, 223, 5, 224, 225, 230, 231, 232, 233, 1638, 1639, 1640, 1641, 1642, 1643, 1644, 1645, 1646, 1647, 1648, 1649, 1650, 1651, 1652, 1653, 1654, 1655] (by decide +kernel) (by decide +kernel)
set_option maxRecDepth 20000 in
theorem gL_law_X11_failedCommand : GoodIn wsL_law (wsV RL 365 RX11 yX11_failedCommand wsX11_failedCommand) := goodIn_app (goodIn_of _ (by decide +kernel)) ggL_law_X11_failedCommand
set_option maxRecDepth 20000 in
theorem ggL_law_L_undo : GoodIn wsL_law wsL_undo := goodIn_ca (goodIn_ca (goodIn_r _ [1587, 376, 1588, 1589, 1590, 2, 1591, 196, 197, 24, 1592, 17, 1593, 1594, 1595, 23, 1596, 81, 79, 80, 202, 169, 170, 16, 171, 55, 56, 58, 59, 60, 61, 62, 63, 65, 66, 67, 68, 69, 70, 71, 72, 73, 1625, 1626, 1627, 1628, 1629, 1630, 1631, 1632, 1633, 1634, 1635, 1636, 1637, 1673, 1674, 1675, 1656, 1657, 1658, 1659, 1660, 1661, 1662, 1663, 1664, 1665, 1666, 1667, 1668, 1669, 1670, 1671, 1672] (by decide +kernel) (by decide +kernel)) (goodIn_sub (fun _ h => List.mem_append_left _ (List.mem_append_left _ (List.mem_append_left _ (List.mem_append_left _ (List.mem_append_left _ (List.mem_append_left _ (List.mem_append_left _ (List.mem_append_right _ h)))))))) (by decide +kernel))) (goodIn_sub (fun _ h => List.mem_append_left _ (List.mem_append_left _ (List.mem_append_right _ h))) (by decide +kernel))
set_option maxRecDepth 20000 in
theorem gL_law_L_undo : GoodIn wsL_law (va_wsS RL 366 yL_undo wsL_undo) := goodIn_app (goodIn_of _ (by decide +kernel)) ggL_law_L_undo
set_option maxRecDepth 20000 in
theorem ggL_law_X11_undo : GoodIn wsL_law wsX11_undo := goodIn_ca (goodIn_r _ [1600, 238, 148, 146, 221, 222, 223, 5, 224, 225, 211, 212, 213, 230, 231, 232, 233, 1638, 1639, 1640, 1641, 1642, 1643, 1644, 1645, 1646, 1647, 1648, 1649, 1650, 1651, 1652, 1653, 1654, 1655] (by decide +kernel) (by decide +kernel)) (goodIn_sub (fun _ h => List.mem_append_left _ (List.mem_append_left _ (List.mem_append_left _ (List.mem_append_left _ (List.mem_append_left _ (List.mem_append_left _ (List.mem_append_left _ (List.mem_append_right _ h)))))))) (by decide +kernel))
set_option maxRecDepth 20000 in
theorem gL_law_X11_undo : GoodIn wsL_law (wsV RL 368 RX11 yX11_undo wsX11_undo) := goodIn_app (goodIn_of _ (by decide +kernel)) ggL_law_X11_undo
set_option maxRecDepth 20000 in
theorem ggL_law_X10_save : GoodIn wsL_law wsX10_save := goodIn_ca (goodIn_r _ [1604, 19, 17, 20, 634, 168, 169, 170, 16, 171, 55, 56, 58, 59, 60, 61, 62, 63, 65, 66, 67, 68, 69, 70, 71, 72, 73, 1625, 1626, 1627, 1628, 1629, 1630, 1631, 1632, 1633, 1634, 1635, 1636, 1637, 1656, 1657, 1658, 1659, 1660, 1661, 1662, 1663, 1664, 1665, 1666, 1667, 1668, 1669, 1670, 1671, 1672] (by decide +kernel) (by decide +kernel)) (goodIn_sub (fun _ h => List.mem_append_left _ (List.mem_append_left _ (List.mem_append_left _ (List.mem_append_left _ (List.mem_append_left _ (List.mem_append_left _ (List.mem_append_left _ (List.mem_append_right _ h)))))))) (by decide +kernel))
set_option maxRecDepth 20000 in
theorem gL_law_X10_save : GoodIn wsL_law (wsV RL 369 RX10 yX10_save wsX10_save) := goodIn_app (goodIn_of _ (by decide +kernel)) ggL_law_X10_save
set_option maxRecDepth 20000 in
theorem ggL_law_X11_save : GoodIn wsL_law wsX11_save := goodIn_ca (goodIn_r _ [1608, 146, 149, 1609, 211, 212, 5, 213, 226, 227, 228, 229, 230, 231, 232, 233, 225, 1638, 1639, 1640, 1641, 1642, 1643, 1644, 1645, 1646, 1647, 1648, 1649, 1650, 1651, 1652, 1653, 1654, 1655] (by decide +kernel) (by decide +kernel)) (goodIn_sub (fun _ h => List.mem_append_left _ (List.mem_append_left _ (List.mem_append_left _ (List.mem_append_left _ (List.mem_append_left _ (List.mem_append_left _ (List.mem_append_left _ (List.mem_append_right _ h)))))))) (by decide +kernel))
set_option maxRecDepth 20000 in
theorem gL_law_X11_save : GoodIn wsL_law (wsV RL 372 RX11 yX11_save wsX11_save) := goodIn_app (goodIn_of _ (by decide +kernel)) ggL_law_X11_save
set_option maxRecDepth 20000 in
theorem ggL_law_L_restore : GoodIn wsL_law wsL_restore := goodIn_ca (goodIn_ca (goodIn_r _ [1612, 163, 1613, 1614, 1615, 2, 1616, 192, 193, 20, 17, 19, 24, 634, 168, 169, 170, 16, 171, 55, 56, 58, 59, 60, 61, 62, 63, 65, 66, 67, 68, 69, 70, 71, 72, 73, 1617, 1618, 1619, 23, 1620, 81, 1625, 1626, 1627, 1628, 1629, 1630, 1631, 1632, 1633, 1634, 1635, 1636, 1637, 1656, 1657, 1658, 1659, 1660, 1661, 1662, 1663, 1664, 1665, 1666, 1667, 1668, 1669, 1670, 1671, 1672, 1673, 1674, 1675] (by decide +kernel) (by decide +kernel)) (goodIn_sub (fun _ h => List.mem_append_left _ (List.mem_append_left _ (List.mem_append_left _ (List.mem_append_left _ (List.mem_append_left _ (List.mem_append_left _ (List.mem_append_left _ (List.mem_append_right _ h)))))))) (by decide +kernel))) (goodIn_sub (fun _ h => List.mem_append_left _ (List.mem_append_left _ (List.mem_append_left _ (List.mem_append_left _ (List.mem_append_right _ h))))) (by decide +kernel))
set_option maxRecDepth 20000 in
theorem gL_law_L_restore : GoodIn wsL_law (va_wsS RL 373 yL_restore wsL_restore) := goodIn_app (goodIn_of _ (by decide +kernel)) ggL_law_L_restore
set_option maxRecDepth 20000 in
theorem ggL_law_X11_restore : GoodIn wsL_law wsX11_restore := goodIn_ca (goodIn_r _ [1624, 1609, 149, 146, 238, 221, 222, 223, 5, 224, 225, 211, 212, 213, 226, 227, 228, 229, 230, 231, 232, 233, 1638, 1639, 1640, 1641, 1642, 1643, 1644, 1645, 1646, 1647, 1648, 1649, 1650, 1651, 1652, 1653, 1654, 1655] (by decide +kernel) (by decide +kernel)) (goodIn_sub (fun _ h => List.mem_append_left _ (List.mem_append_left _ (List.mem_append_left _ (List.mem_append_left _ (List.mem_append_left _ (List.mem_append_left _ (List.mem_append_left _ (List.mem_append_right _ h)))))))) (by decide +kernel))
set_option maxRecDepth 20000 in
theorem gL_law_X11_restore : GoodIn wsL_law (wsV RL 375 RX11 yX11_restore wsX11_restore) := goodIn_app (goodIn_of _ (by decide +kernel)) ggL_law_X11_restore
