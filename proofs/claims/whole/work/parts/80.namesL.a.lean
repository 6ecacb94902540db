theorem dL_addGear_0 : decode cL_addGear 0 = .ok (.aload_n 2, 1) := by decide +kernel
theorem dL_addGear_1 : decode cL_addGear 1 = .ok (.iconst 0, 1) := by decide +kernel
theorem dL_addGear_2 : decode cL_addGear 2 = .ok (.aload_n 0, 1) := by decide +kernel
theorem dL_addGear_3 : decode cL_addGear 3 = .ok (.iload_n 1, 1) := by decide +kernel
theorem dL_addGear_4 : decode cL_addGear 4 = .ok (.invokevirtual 7, 3) := by decide +kernel
theorem dL_addGear_7 : decode cL_addGear 7 = .ok (.i2l, 1) := by decide +kernel
theorem dL_addGear_8 : decode cL_addGear 8 = .ok (.lastore, 1) := by decide +kernel
theorem dL_addGear_9 : decode cL_addGear 9 = .ok (.goto 9, 3) := by decide +kernel
theorem dL_addGear_12 : decode cL_addGear 12 = .ok (.astore_n 3, 1) := by decide +kernel
theorem dL_addGear_13 : decode cL_addGear 13 = .ok (.iconst 1, 1) := by decide +kernel
theorem dL_addGear_14 : decode cL_addGear 14 = .ok (.ireturn, 1) := by decide +kernel
theorem dL_addGear_15 : decode cL_addGear 15 = .ok (.astore_n 3, 1) := by decide +kernel
theorem dL_addGear_16 : decode cL_addGear 16 = .ok (.iconst 2, 1) := by decide +kernel
theorem dL_addGear_17 : decode cL_addGear 17 = .ok (.ireturn, 1) := by decide +kernel
theorem dL_addGear_18 : decode cL_addGear 18 = .ok (.iconst 0, 1) := by decide +kernel
theorem dL_addGear_19 : decode cL_addGear 19 = .ok (.ireturn, 1) := by decide +kernel
set_option maxRecDepth 20000 in
theorem ggL_mesh_X10_mesh : GoodIn wsL_mesh wsX10_mesh := goodIn_ca (goodIn_ca (goodIn_ca (goodIn_ca (goodIn_ca (goodIn_ca (goodIn_r _ [9, 10, 11, 12, 13, 14, 15, 16, 17, 18, 19, 20, 21, 22, 23, 24, 25, 26, 27, 28, 29, 30, 31, 32, 33, 34, 35, 36, 37, 38, 39, 40, 41, 42, 43, 44, 45, 46, 47, 48, 49, 50, 51, 52, 53, 54, 55, 56, 57, 58, 59, 60, 61, 62, 63, 64, 65, 66, 67, 68, 69, 70, 71, 72, 73, 74, 75, 76, 77, 78, 79, 80, 81, 82, 83, 84, 85, 86, 87, 88, 89, 90, 91, 92, 93, 94, 95, 96, 97, 98, 99, 100, 101, 8, 102, 103, 104, 105, 106, 107, 108, 109, 110, 111, 112, 113, 114, 115, 116, 117, 118, 119, 120, 121, 122, 123, 124, 125, 126, 127, 128, 129, 130, 131, 132, 133, 134, 135, 136, 137, 138, 139, 140, 141, 142, 143, 144, 145, 146, 147, 148, 149, 150, 151, 152, 153, 154, 155, 156, 157, 158, 159, 160, 161, 162, 163] (by decide +kernel) (by decide +kernel)) (goodIn_sub (fun _ h => List.mem_cons_of_mem _ (List.mem_append_left _ (List.mem_append_left _ (List.mem_append_left _ (List.mem_append_left _ (List.mem_append_left _ (List.mem_append_right _ h))))))) (by decide +kernel))) (goodIn_sub (fun _ h => List.mem_cons_of_mem _ (List.mem_append_left _ (List.mem_append_left _ (List.mem_append_left _ (List.mem_append_left _ (List.mem_append_right _ h)))))) (by decide +kernel))) (goodIn_sub (fun _ h => List.mem_cons_of_mem _ (List.mem_append_left _ (List.mem_append_left _ (List.mem_append_left _ (List.mem_append_right _ h))))) (by decide +kernel))) (goodIn_sub (fun _ h => List.mem_cons_of_mem _ (List.mem_append_left _ (List.mem_append_left _ (List.mem_append_right _ h)))) (by decide +kernel))) (goodIn_sub (fun _ h => List.mem_cons_of_mem _ (List.mem_append_left _ (List.mem_append_right _ h))) (by decide +kernel))) (goodIn_sub (fun _ h => List.mem_cons_of_mem _ (List.mem_append_right _ h)) (by decide +kernel))
set_option maxRecDepth 20000 in
theorem gL_mesh_X10_mesh : GoodIn wsL_mesh (wsV RL 17 RX10 yX10_mesh wsX10_mesh) := goodIn_app (goodIn_of _ (by decide +kernel)) ggL_mesh_X10_mesh
theorem dL_mesh_0 : decode cL_mesh 0 = .ok (.aload_n 3, 1) := by decide +kernel
theorem dL_mesh_1 : decode cL_mesh 1 = .ok (.iconst 0, 1) := by decide +kernel
theorem dL_mesh_2 : decode cL_mesh 2 = .ok (.aload_n 0, 1) := by decide +kernel
theorem dL_mesh_3 : decode cL_mesh 3 = .ok (.iload_n 1, 1) := by decide +kernel
theorem dL_mesh_4 : decode cL_mesh 4 = .ok (.iload_n 2, 1) := by decide +kernel
theorem dL_mesh_5 : decode cL_mesh 5 = .ok (.invokevirtual 17, 3) := by decide +kernel
theorem dL_mesh_8 : decode cL_mesh 8 = .ok (.i2l, 1) := by decide +kernel
theorem dL_mesh_9 : decode cL_mesh 9 = .ok (.lastore, 1) := by decide +kernel
theorem dL_mesh_10 : decode cL_mesh 10 = .ok (.goto 19, 3) := by decide +kernel
theorem dL_mesh_13 : decode cL_mesh 13 = .ok (.astore 4, 2) := by decide +kernel
theorem dL_mesh_15 : decode cL_mesh 15 = .ok (.iconst 1, 1) := by decide +kernel
theorem dL_mesh_16 : decode cL_mesh 16 = .ok (.ireturn, 1) := by decide +kernel
theorem dL_mesh_17 : decode cL_mesh 17 = .ok (.astore 4, 2) := by decide +kernel
theorem dL_mesh_19 : decode cL_mesh 19 = .ok (.iconst 2, 1) := by decide +kernel
theorem dL_mesh_20 : decode cL_mesh 20 = .ok (.ireturn, 1) := by decide +kernel
theorem dL_mesh_21 : decode cL_mesh 21 = .ok (.astore 4, 2) := by decide +kernel
theorem dL_mesh_23 : decode cL_mesh 23 = .ok (.iconst 3, 1) := by decide +kernel
theorem dL_mesh_24 : decode cL_mesh 24 = .ok (.ireturn, 1) := by decide +kernel
theorem dL_mesh_25 : decode cL_mesh 25 = .ok (.astore 4, 2) := by decide +kernel
theorem dL_mesh_27 : decode cL_mesh 27 = .ok (.iconst 4, 1) := by decide +kernel
theorem dL_mesh_28 : decode cL_mesh 28 = .ok (.ireturn, 1) := by decide +kernel
theorem dL_mesh_29 : decode cL_mesh 29 = .ok (.iconst 0, 1) := by decide +kernel
theorem dL_mesh_30 : decode cL_mesh 30 = .ok (.ireturn, 1) := by decide +kernel
set_option maxRecDepth 20000 in
theorem ggL_shareAxle_X10_shareAxle : GoodIn wsL_shareAxle wsX10_shareAxle := goodIn_ca (goodIn_ca (goodIn_ca (goodIn_ca (goodIn_ca (goodIn_ca (goodIn_r _ [9, 10, 11, 12, 13, 14, 15, 16, 17, 18, 19, 20, 21, 22, 23, 24, 25, 26, 27, 28, 29, 30, 31, 32, 33, 34, 35, 36, 37, 38, 39, 40, 41, 42, 43, 44, 45, 46, 47, 48, 49, 50, 51, 52, 53, 54, 55, 56, 57, 58, 59, 60, 61, 62, 63, 64, 65, 66, 67, 68, 69, 70, 71, 72, 73, 74, 75, 76, 77, 78, 79, 80, 81, 82, 83, 84, 85, 86, 87, 88, 89, 90, 91, 92, 93, 94, 95, 96, 97, 98, 99, 100, 101, 8, 102, 103, 104, 105, 106, 107, 108, 109, 110, 111, 112, 113, 114, 115, 116, 117, 118, 119, 120, 121, 122, 123, 124, 125, 126, 127, 128, 129, 130, 131, 132, 133, 134, 135, 136, 137, 138, 139, 140, 141, 142, 143, 144, 145, 146, 147, 148, 149, 150, 151, 152, 153, 154, 155, 156, 157, 158, 159, 160, 161, 162, 163] (by decide +kernel) (by decide +kernel)) (goodIn_sub (fun _ h => List.mem_cons_of_mem _ (List.mem_append_left _ (List.mem_append_left _ (List.mem_append_left _ (List.mem_append_left _ (List.mem_append_left _ (List.mem_append_right _ h))))))) (by decide +kernel))) (goodIn_sub (fun _ h => List.mem_cons_of_mem _ (List.mem_append_left _ (List.mem_append_left _ (List.mem_append_left _ (List.mem_append_left _ (List.mem_append_right _ h)))))) (by decide +kernel))) (goodIn_sub (fun _ h => List.mem_cons_of_mem _ (List.mem_append_left _ (List.mem_append_left _ (List.mem_append_left _ (List.mem_append_right _ h))))) (by decide +kernel))) (goodIn_sub (fun _ h => List.mem_cons_of_mem _ (List.mem_append_left _ (List.mem_append_left _ (List.mem_append_right _ h)))) (by decide +kernel))) (goodIn_sub (fun _ h => List.mem_cons_of_mem _ (List.mem_append_left _ (List.mem_append_right _ h))) (by decide +kernel))) (goodIn_sub (fun _ h => List.mem_cons_of_mem _ (List.mem_append_right _ h)) (by decide +kernel))
set_option maxRecDepth 20000 in
theorem gL_shareAxle_X10_shareAxle : GoodIn wsL_shareAxle (wsV RL 25 RX10 yX10_shareAxle wsX10_shareAxle) := goodIn_app (goodIn_of _ (by decide +kernel)) ggL_shareAxle_X10_shareAxle
theorem dL_shareAxle_0 : decode cL_shareAxle 0 = .ok (.aload_n 3, 1) := by decide +kernel
theorem dL_shareAxle_1 : decode cL_shareAxle 1 = .ok (.iconst 0, 1) := by decide +kernel
theorem dL_shareAxle_2 : decode cL_shareAxle 2 = .ok (.aload_n 0, 1) := by decide +kernel
theorem dL_shareAxle_3 : decode cL_shareAxle 3 = .ok (.iload_n 1, 1) := by decide +kernel
theorem dL_shareAxle_4 : decode cL_shareAxle 4 = .ok (.iload_n 2, 1) := by decide +kernel
theorem dL_shareAxle_5 : decode cL_shareAxle 5 = .ok (.invokevirtual 25, 3) := by decide +kernel
theorem dL_shareAxle_8 : decode cL_shareAxle 8 = .ok (.i2l, 1) := by decide +kernel
theorem dL_shareAxle_9 : decode cL_shareAxle 9 = .ok (.lastore, 1) := by decide +kernel
theorem dL_shareAxle_10 : decode cL_shareAxle 10 = .ok (.goto 19, 3) := by decide +kernel
theorem dL_shareAxle_13 : decode cL_shareAxle 13 = .ok (.astore 4, 2) := by decide +kernel
theorem dL_shareAxle_15 : decode cL_shareAxle 15 = .ok (.iconst 1, 1) := by decide +kernel
theorem dL_shareAxle_16 : decode cL_shareAxle 16 = .ok (.ireturn, 1) := by decide +kernel
theorem dL_shareAxle_17 : decode cL_shareAxle 17 = .ok (.astore 4, 2) := by decide +kernel
theorem dL_shareAxle_19 : decode cL_shareAxle 19 = .ok (.iconst 2, 1) := by decide +kernel
theorem dL_shareAxle_20 : decode cL_shareAxle 20 = .ok (.ireturn, 1) := by decide +kernel
theorem dL_shareAxle_21 : decode cL_shareAxle 21 = .ok (.astore 4, 2) := by decide +kernel
theorem dL_shareAxle_23 : decode cL_shareAxle 23 = .ok (.iconst 3, 1) := by decide +kernel
theorem dL_shareAxle_24 : decode cL_shareAxle 24 = .ok (.ireturn, 1) := by decide +kernel
theorem dL_shareAxle_25 : decode cL_shareAxle 25 = .ok (.astore 4, 2) := by decide +kernel
theorem dL_shareAxle_27 : decode cL_shareAxle 27 = .ok (.iconst 4, 1) := by decide +kernel
theorem dL_shareAxle_28 : decode cL_shareAxle 28 = .ok (.ireturn, 1) := by decide +kernel
theorem dL_shareAxle_29 : decode cL_shareAxle 29 = .ok (.iconst 0, 1) := by decide +kernel
theorem dL_shareAxle_30 : decode cL_shareAxle 30 = .ok (.ireturn, 1) := by decide +kernel
set_option maxRecDepth 20000 in
theorem ggL_separate_X10_separate : GoodIn wsL_separate wsX10_separate := goodIn_ca (goodIn_ca (goodIn_ca (goodIn_ca (goodIn_ca (goodIn_ca (goodIn_r _ [7, 8, 9, 10, 11, 12, 13, 14, 15, 16, 17, 18, 19, 20, 21, 22, 23, 24, 25, 26, 27, 28, 29, 30, 31, 32, 33, 34, 35, 36, 37, 38, 39, 40, 41, 42, 43, 44, 45, 46, 47, 48, 49, 50, 51, 52, 53, 54, 6, 55, 56, 57, 58, 59, 60, 61, 62, 63, 64, 65, 66, 67, 68, 69, 70, 71, 72, 73, 74, 75, 76, 77, 78, 79, 80, 81, 82, 83, 84, 85, 86, 87, 88, 89, 90, 91, 92, 93, 94, 95, 96, 97, 98, 99, 100, 101, 102, 103, 104, 105, 106, 107, 108, 109, 110, 111, 112, 113] (by decide +kernel) (by decide +kernel)) (goodIn_sub (fun _ h => List.mem_cons_of_mem _ (List.mem_append_left _ (List.mem_append_left _ (List.mem_append_left _ (List.mem_append_left _ (List.mem_append_left _ (List.mem_append_right _ h))))))) (by decide +kernel))) (goodIn_sub (fun _ h => List.mem_cons_of_mem _ (List.mem_append_left _ (List.mem_append_left _ (List.mem_append_left _ (List.mem_append_left _ (List.mem_append_right _ h)))))) (by decide +kernel))) (goodIn_sub (fun _ h => List.mem_cons_of_mem _ (List.mem_append_left _ (List.mem_append_left _ (List.mem_append_left _ (List.mem_append_right _ h))))) (by decide +kernel))) (goodIn_sub (fun _ h => List.mem_cons_of_mem _ (List.mem_append_left _ (List.mem_append_left _ (List.mem_append_right _ h)))) (by decide +kernel))) (goodIn_sub (fun _ h => List.mem_cons_of_mem _ (List.mem_append_left _ (List.mem_append_right _ h))) (by decide +kernel))) (goodIn_sub (fun _ h => List.mem_cons_of_mem _ (List.mem_append_right _ h)) (by decide +kernel))
set_option maxRecDepth 20000 in
theorem gL_separate_X10_separate : GoodIn wsL_separate (wsV RL 28 RX10 yX10_separate wsX10_separate) := goodIn_app (goodIn_of _ (by decide +kernel)) ggL_separate_X10_separate
theorem dL_separate_0 : decode cL_separate 0 = .ok (.aload_n 3, 1) := by decide +kernel
theorem dL_separate_1 : decode cL_separate 1 = .ok (.iconst 0, 1) := by decide +kernel
theorem dL_separate_2 : decode cL_separate 2 = .ok (.aload_n 0, 1) := by decide +kernel
theorem dL_separate_3 : decode cL_separate 3 = .ok (.iload_n 1, 1) := by decide +kernel
theorem dL_separate_4 : decode cL_separate 4 = .ok (.iload_n 2, 1) := by decide +kernel
theorem dL_separate_5 : decode cL_separate 5 = .ok (.invokevirtual 28, 3) := by decide +kernel
theorem dL_separate_8 : decode cL_separate 8 = .ok (.i2l, 1) := by decide +kernel
theorem dL_separate_9 : decode cL_separate 9 = .ok (.lastore, 1) := by decide +kernel
theorem dL_separate_10 : decode cL_separate 10 = .ok (.goto 11, 3) := by decide +kernel
theorem dL_separate_13 : decode cL_separate 13 = .ok (.astore 4, 2) := by decide +kernel
theorem dL_separate_15 : decode cL_separate 15 = .ok (.iconst 1, 1) := by decide +kernel
theorem dL_separate_16 : decode cL_separate 16 = .ok (.ireturn, 1) := by decide +kernel
theorem dL_separate_17 : decode cL_separate 17 = .ok (.astore 4, 2) := by decide +kernel
theorem dL_separate_19 : decode cL_separate 19 = .ok (.iconst 2, 1) := by decide +kernel
theorem dL_separate_20 : decode cL_separate 20 = .ok (.ireturn, 1) := by decide +kernel
theorem dL_separate_21 : decode cL_separate 21 = .ok (.iconst 0, 1) := by decide +kernel
theorem dL_separate_22 : decode cL_separate 22 = .ok (.ireturn, 1) := by decide +kernel
set_option maxRecDepth 20000 in
theorem ggL_setSpring_X10_setSpring : GoodIn wsL_setSpring wsX10_setSpring := goodIn_ca (goodIn_ca (goodIn_ca (goodIn_ca (goodIn_ca (goodIn_ca (goodIn_r _ [8, 9, 10, 11, 12, 13, 14, 15, 16, 17, 18, 19, 20, 21, 22, 23, 24, 25, 26, 27, 28, 29, 30, 31, 32, 33, 34, 35, 36, 37, 38, 39, 40, 41, 42, 43, 44, 45, 46, 47, 48, 49, 50, 51, 52, 53, 54, 55, 56, 57, 58, 59, 60, 61, 62, 63, 64, 65, 66, 67, 68, 69, 70, 71, 72, 73, 74, 75, 76, 77, 78, 79, 80, 81, 82, 83, 84, 85, 86, 87, 88, 89, 90, 91, 92, 93, 94, 95, 7, 96, 97, 98, 99, 100, 101, 102, 103, 104, 105, 106, 107, 108, 109, 110, 111, 112, 113, 114, 115, 116, 117, 118, 119, 120, 121, 122, 123, 124, 125, 126, 127, 128, 129, 130, 131, 132, 133, 134, 135, 136, 137, 138, 139, 140, 141, 142, 143, 144, 145, 146, 147, 148, 149, 150, 151, 152, 153, 154, 155, 156, 157] (by decide +kernel) (by decide +kernel)) (goodIn_sub (fun _ h => List.mem_cons_of_mem _ (List.mem_append_left _ (List.mem_append_left _ (List.mem_append_left _ (List.mem_append_left _ (List.mem_append_left _ (List.mem_append_right _ h))))))) (by decide +kernel))) (goodIn_sub (fun _ h => List.mem_cons_of_mem _ (List.mem_append_left _ (List.mem_append_left _ (List.mem_append_left _ (List.mem_append_left _ (List.mem_append_right _ h)))))) (by decide +kernel))) (goodIn_sub (fun _ h => List.mem_cons_of_mem _ (List.mem_append_left _ (List.mem_append_left _ (List.mem_append_left _ (List.mem_append_right _ h))))) (by decide +kernel))) (goodIn_sub (fun _ h => List.mem_cons_of_mem _ (List.mem_append_left _ (List.mem_append_left _ (List.mem_append_right _ h)))) (by decide +kernel))) (goodIn_sub (fun _ h => List.mem_cons_of_mem _ (List.mem_append_left _ (List.mem_append_right _ h))) (by decide +kernel))) (goodIn_sub (fun _ h => List.mem_cons_of_mem _ (List.mem_append_right _ h)) (by decide +kernel))
set_option maxRecDepth 20000 in
theorem gL_setSpring_X10_setSpring : GoodIn wsL_setSpring (wsV RL 33 RX10 yX10_setSpring wsX10_setSpring) := goodIn_app (goodIn_of _ (by decide +kernel)) ggL_setSpring_X10_setSpring
theorem dL_setSpring_0 : decode cL_setSpring 0 = .ok (.aload_n 3, 1) := by decide +kernel
theorem dL_setSpring_1 : decode cL_setSpring 1 = .ok (.iconst 0, 1) := by decide +kernel
theorem dL_setSpring_2 : decode cL_setSpring 2 = .ok (.aload_n 0, 1) := by decide +kernel
theorem dL_setSpring_3 : decode cL_setSpring 3 = .ok (.iload_n 1, 1) := by decide +kernel
theorem dL_setSpring_4 : decode cL_setSpring 4 = .ok (.iload_n 2, 1) := by decide +kernel
theorem dL_setSpring_5 : decode cL_setSpring 5 = .ok (.invokevirtual 33, 3) := by decide +kernel
theorem dL_setSpring_8 : decode cL_setSpring 8 = .ok (.i2l, 1) := by decide +kernel
theorem dL_setSpring_9 : decode cL_setSpring 9 = .ok (.lastore, 1) := by decide +kernel
theorem dL_setSpring_10 : decode cL_setSpring 10 = .ok (.goto 15, 3) := by decide +kernel
theorem dL_setSpring_13 : decode cL_setSpring 13 = .ok (.astore 4, 2) := by decide +kernel
theorem dL_setSpring_15 : decode cL_setSpring 15 = .ok (.iconst 1, 1) := by decide +kernel
theorem dL_setSpring_16 : decode cL_setSpring 16 = .ok (.ireturn, 1) := by decide +kernel
theorem dL_setSpring_17 : decode cL_setSpring 17 = .ok (.astore 4, 2) := by decide +kernel
theorem dL_setSpring_19 : decode cL_setSpring 19 = .ok (.iconst 2, 1) := by decide +kernel
theorem dL_setSpring_20 : decode cL_setSpring 20 = .ok (.ireturn, 1) := by decide +kernel
theorem dL_setSpring_21 : decode cL_setSpring 21 = .ok (.astore 4, 2) := by decide +kernel
theorem dL_setSpring_23 : decode cL_setSpring 23 = .ok (.iconst 3, 1) := by decide +kernel
theorem dL_setSpring_24 : decode cL_setSpring 24 = .ok (.ireturn, 1) := by decide +kernel
theorem dL_setSpring_25 : decode cL_setSpring 25 = .ok (.iconst 0, 1) := by decide +kernel
theorem dL_setSpring_26 : decode cL_setSpring 26 = .ok (.ireturn, 1) := by decide +kernel
set_option maxRecDepth 20000 in
theorem ggL_wind_X10_wind : GoodIn wsL_wind wsX10_wind := goodIn_ca (goodIn_ca (goodIn_ca (goodIn_ca (goodIn_ca (goodIn_ca (goodIn_r _ [9, 10, 11, 12, 13, 14, 15, 16, 17, 18, 19, 20, 21, 22, 23, 24, 25, 26, 27, 28, 29, 30, 31, 32, 33, 34, 35, 36, 37, 38, 39, 40, 41, 42, 43, 44, 45, 46, 47, 48, 49, 50, 51, 52, 53, 54, 8, 55, 56, 57, 58, 59, 60, 61, 62, 63, 64, 65, 66, 67, 68, 69, 70, 71, 72, 73, 74, 75, 76, 77, 78, 79, 80, 81, 82, 83, 84, 85, 86, 87, 88, 89, 90, 91, 92, 93, 94, 95, 96, 97, 98, 99, 100, 101, 102, 103, 104, 105, 106, 107, 108, 109, 110, 111, 112, 113] (by decide +kernel) (by decide +kernel)) (goodIn_sub (fun _ h => List.mem_cons_of_mem _ (List.mem_append_left _ (List.mem_append_left _ (List.mem_append_left _ (List.mem_append_left _ (List.mem_append_left _ (List.mem_append_right _ h))))))) (by decide +kernel))) (goodIn_sub (fun _ h => List.mem_cons_of_mem _ (List.mem_append_left _ (List.mem_append_left _ (List.mem_append_left _ (List.mem_append_left _ (List.mem_append_right _ h)))))) (by decide +kernel))) (goodIn_sub (fun _ h => List.mem_cons_of_mem _ (List.mem_append_left _ (List.mem_append_left _ (List.mem_append_left _ (List.mem_append_right _ h))))) (by decide +kernel))) (goodIn_sub (fun _ h => List.mem_cons_of_mem _ (List.mem_append_left _ (List.mem_append_left _ (List.mem_append_right _ h)))) (by decide +kernel))) (goodIn_sub (fun _ h => List.mem_cons_of_mem _ (List.mem_append_left _ (List.mem_append_right _ h))) (by decide +kernel))) (goodIn_sub (fun _ h => List.mem_cons_of_mem _ (List.mem_append_right _ h)) (by decide +kernel))
set_option maxRecDepth 20000 in
theorem gL_wind_X10_wind : GoodIn wsL_wind (wsV RL 36 RX10 yX10_wind wsX10_wind) := goodIn_app (goodIn_of _ (by decide +kernel)) ggL_wind_X10_wind
theorem dL_wind_0 : decode cL_wind 0 = .ok (.aload_n 3, 1) := by decide +kernel
theorem dL_wind_1 : decode cL_wind 1 = .ok (.iconst 0, 1) := by decide +kernel
theorem dL_wind_2 : decode cL_wind 2 = .ok (.aload_n 0, 1) := by decide +kernel
theorem dL_wind_3 : decode cL_wind 3 = .ok (.iload_n 1, 1) := by decide +kernel
theorem dL_wind_4 : decode cL_wind 4 = .ok (.iload_n 2, 1) := by decide +kernel
theorem dL_wind_5 : decode cL_wind 5 = .ok (.invokevirtual 36, 3) := by decide +kernel
theorem dL_wind_8 : decode cL_wind 8 = .ok (.i2l, 1) := by decide +kernel
theorem dL_wind_9 : decode cL_wind 9 = .ok (.lastore, 1) := by decide +kernel
theorem dL_wind_10 : decode cL_wind 10 = .ok (.goto 19, 3) := by decide +kernel
theorem dL_wind_13 : decode cL_wind 13 = .ok (.astore 4, 2) := by decide +kernel
theorem dL_wind_15 : decode cL_wind 15 = .ok (.iconst 1, 1) := by decide +kernel
theorem dL_wind_16 : decode cL_wind 16 = .ok (.ireturn, 1) := by decide +kernel
theorem dL_wind_17 : decode cL_wind 17 = .ok (.astore 4, 2) := by decide +kernel
theorem dL_wind_19 : decode cL_wind 19 = .ok (.iconst 2, 1) := by decide +kernel
theorem dL_wind_20 : decode cL_wind 20 = .ok (.ireturn, 1) := by decide +kernel
theorem dL_wind_21 : decode cL_wind 21 = .ok (.astore 4, 2) := by decide +kernel
theorem dL_wind_23 : decode cL_wind 23 = .ok (.iconst 3, 1) := by decide +kernel
theorem dL_wind_24 : decode cL_wind 24 = .ok (.ireturn, 1) := by decide +kernel
theorem dL_wind_25 : decode cL_wind 25 = .ok (.astore 4, 2) := by decide +kernel
theorem dL_wind_27 : decode cL_wind 27 = .ok (.iconst 4, 1) := by decide +kernel
theorem dL_wind_28 : decode cL_wind 28 = .ok (.ireturn, 1) := by decide +kernel
theorem dL_wind_29 : decode cL_wind 29 = .ok (.iconst 0, 1) := by decide +kernel
theorem dL_wind_30 : decode cL_wind 30 = .ok (.ireturn, 1) := by decide +kernel
set_option maxRecDepth 20000 in
theorem ggL_reverse_X10_reverse : GoodIn wsL_reverse wsX10_reverse := goodIn_ca (goodIn_ca (goodIn_ca (goodIn_ca (goodIn_ca (goodIn_ca (goodIn_r _ [7, 8, 9, 10, 11, 12, 13, 14, 15, 16, 17, 18, 19, 20, 21, 22, 23, 24, 25, 26, 27, 28, 29, 30, 31, 32, 33, 34, 35, 36, 37, 38, 39, 40, 41, 42, 43, 44, 45, 46, 47, 48, 49, 50, 6, 51, 52, 53, 54, 55, 56, 57, 58, 59, 60, 61, 62, 63, 64, 65, 66, 67, 68, 69, 70, 71, 72, 73, 74, 75, 76, 77, 78, 79, 80, 81, 82, 83, 84, 85, 86, 87, 88, 89, 90, 91, 92, 93, 94, 95, 96, 97, 98, 99, 100, 101, 102, 103, 104, 105, 106, 107, 108, 109] (by decide +kernel) (by decide +kernel)) (goodIn_sub (fun _ h => List.mem_cons_of_mem _ (List.mem_append_left _ (List.mem_append_left _ (List.mem_append_left _ (List.mem_append_left _ (List.mem_append_left _ (List.mem_append_right _ h))))))) (by decide +kernel))) (goodIn_sub (fun _ h => List.mem_cons_of_mem _ (List.mem_append_left _ (List.mem_append_left _ (List.mem_append_left _ (List.mem_append_left _ (List.mem_append_right _ h)))))) (by decide +kernel))) (goodIn_sub (fun _ h => List.mem_cons_of_mem _ (List.mem_append_left _ (List.mem_append_left _ (List.mem_append_left _ (List.mem_append_right _ h))))) (by decide +kernel))) (goodIn_sub (fun _ h => List.mem_cons_of_mem _ (List.mem_append_left _ (List.mem_append_left _ (List.mem_append_right _ h)))) (by decide +kernel))) (goodIn_sub (fun _ h => List.mem_cons_of_mem _ (List.mem_append_left _ (List.mem_append_right _ h))) (by decide +kernel))) (goodIn_sub (fun _ h => List.mem_cons_of_mem _ (List.mem_append_right _ h)) (by decide +kernel))
set_option maxRecDepth 20000 in
theorem gL_reverse_X10_reverse : GoodIn wsL_reverse (wsV RL 39 RX10 yX10_reverse wsX10_reverse) := goodIn_app (goodIn_of _ (by decide +kernel)) ggL_reverse_X10_reverse
theorem dL_reverse_0 : decode cL_reverse 0 = .ok (.aload_n 2, 1) := by decide +kernel
theorem dL_reverse_1 : decode cL_reverse 1 = .ok (.iconst 0, 1) := by decide +kernel
theorem dL_reverse_2 : decode cL_reverse 2 = .ok (.aload_n 0, 1) := by decide +kernel
theorem dL_reverse_3 : decode cL_reverse 3 = .ok (.iload_n 1, 1) := by decide +kernel
theorem dL_reverse_4 : decode cL_reverse 4 = .ok (.invokevirtual 39, 3) := by decide +kernel
theorem dL_reverse_7 : decode cL_reverse 7 = .ok (.ifCond .eq 7, 3) := by decide +kernel
theorem dL_reverse_10 : decode cL_reverse 10 = .ok (.lconst 1, 1) := by decide +kernel
theorem dL_reverse_11 : decode cL_reverse 11 = .ok (.goto 4, 3) := by decide +kernel
theorem dL_reverse_14 : decode cL_reverse 14 = .ok (.lconst 0, 1) := by decide +kernel
theorem dL_reverse_15 : decode cL_reverse 15 = .ok (.lastore, 1) := by decide +kernel
theorem dL_reverse_16 : decode cL_reverse 16 = .ok (.goto 9, 3) := by decide +kernel
theorem dL_reverse_19 : decode cL_reverse 19 = .ok (.astore_n 3, 1) := by decide +kernel
theorem dL_reverse_20 : decode cL_reverse 20 = .ok (.iconst 1, 1) := by decide +kernel
theorem dL_reverse_21 : decode cL_reverse 21 = .ok (.ireturn, 1) := by decide +kernel
theorem dL_reverse_22 : decode cL_reverse 22 = .ok (.astore_n 3, 1) := by decide +kernel
theorem dL_reverse_23 : decode cL_reverse 23 = .ok (.iconst 2, 1) := by decide +kernel
theorem dL_reverse_24 : decode cL_reverse 24 = .ok (.ireturn, 1) := by decide +kernel
theorem dL_reverse_25 : decode cL_reverse 25 = .ok (.iconst 0, 1) := by decide +kernel
theorem dL_reverse_26 : decode cL_reverse 26 = .ok (.ireturn, 1) := by decide +kernel
set_option maxRecDepth 20000 in
theorem ggL_release_X10_release : GoodIn wsL_release wsX10_release := goodIn_ca (goodIn_ca (goodIn_ca (goodIn_ca (goodIn_ca (goodIn_ca (goodIn_r _ [9, 10, 11, 12, 13, 14, 15, 16, 17, 18, 19, 20, 21, 22, 23, 24, 25, 26, 27, 28, 29, 30, 31, 32, 33, 34, 35, 36, 37, 38, 39, 40, 41, 42, 43, 44, 45, 46, 47, 48, 49, 50, 51, 52, 53, 54, 55, 56, 57, 58, 59, 60, 61, 62, 63, 64, 65, 66, 67, 68, 69, 70, 71, 72, 73, 74, 75, 76, 77, 78, 79, 80, 81, 82, 83, 84, 85, 86, 87, 88, 89, 90, 91, 92, 93, 94, 95, 96, 97, 98, 99, 100, 101, 102, 103, 104, 105, 106, 107, 108, 109, 110, 111, 112, 113, 114, 115, 116, 117, 118, 119, 120, 121, 122, 123, 124, 125, 126, 127, 128, 129, 130, 8, 131, 132, 133, 134, 135, 136, 137, 138, 139, 140, 141, 142, 143, 144, 145, 146, 147, 148, 149, 150, 151, 152, 153, 154, 155, 156, 157, 158, 159, 160, 161, 162, 163, 164, 165, 166, 167, 168, 169, 170, 171, 172, 173, 174, 175, 176, 177, 178, 179, 180, 181, 182, 183, 184, 185, 186, 187, 188, 189, 190, 191, 192] (by decide +kernel) (by decide +kernel)) (goodIn_sub (fun _ h => List.mem_cons_of_mem _ (List.mem_append_left _ (List.mem_append_left _ (List.mem_append_left _ (List.mem_append_left _ (List.mem_append_left _ (List.mem_append_right _ h))))))) (by decide +kernel))) (goodIn_sub (fun _ h => List.mem_cons_of_mem _ (List.mem_append_left _ (List.mem_append_left _ (List.mem_append_left _ (List.mem_append_left _ (List.mem_append_right _ h)))))) (by decide +kernel))) (goodIn_sub (fun _ h => List.mem_cons_of_mem _ (List.mem_append_left _ (List.mem_append_left _ (List.mem_append_left _ (List.mem_append_right _ h))))) (by decide +kernel))) (goodIn_sub (fun _ h => List.mem_cons_of_mem _ (List.mem_append_left _ (List.mem_append_left _ (List.mem_append_right _ h)))) (by decide +kernel))) (goodIn_sub (fun _ h => List.mem_cons_of_mem _ (List.mem_append_left _ (List.mem_append_right _ h))) (by decide +kernel))) (goodIn_sub (fun _ h => List.mem_cons_of_mem _ (List.mem_append_right _ h)) (by decide +kernel))
set_option maxRecDepth 20000 in
theorem gL_release_X10_release : GoodIn wsL_release (wsV RL 43 RX10 yX10_release wsX10_release) := goodIn_app (goodIn_of _ (by decide +kernel)) ggL_release_X10_release
theorem dL_release_0 : decode cL_release 0 = .ok (.aload_n 3, 1) := by decide +kernel
theorem dL_release_1 : decode cL_release 1 = .ok (.iconst 0, 1) := by decide +kernel
theorem dL_release_2 : decode cL_release 2 = .ok (.aload_n 0, 1) := by decide +kernel
theorem dL_release_3 : decode cL_release 3 = .ok (.iload_n 1, 1) := by decide +kernel
theorem dL_release_4 : decode cL_release 4 = .ok (.iload_n 2, 1) := by decide +kernel
theorem dL_release_5 : decode cL_release 5 = .ok (.invokevirtual 43, 3) := by decide +kernel
theorem dL_release_8 : decode cL_release 8 = .ok (.i2l, 1) := by decide +kernel
theorem dL_release_9 : decode cL_release 9 = .ok (.lastore, 1) := by decide +kernel
theorem dL_release_10 : decode cL_release 10 = .ok (.goto 19, 3) := by decide +kernel
theorem dL_release_13 : decode cL_release 13 = .ok (.astore 4, 2) := by decide +kernel
theorem dL_release_15 : decode cL_release 15 = .ok (.iconst 1, 1) := by decide +kernel
theorem dL_release_16 : decode cL_release 16 = .ok (.ireturn, 1) := by decide +kernel
theorem dL_release_17 : decode cL_release 17 = .ok (.astore 4, 2) := by decide +kernel
theorem dL_release_19 : decode cL_release 19 = .ok (.iconst 2, 1) := by decide +kernel
theorem dL_release_20 : decode cL_release 20 = .ok (.ireturn, 1) := by decide +kernel
theorem dL_release_21 : decode cL_release 21 = .ok (.astore 4, 2) := by decide +kernel
theorem dL_release_23 : decode cL_release 23 = .ok (.iconst 3, 1) := by decide +kernel
theorem dL_release_24 : decode cL_release 24 = .ok (.ireturn, 1) := by decide +kernel
theorem dL_release_25 : decode cL_release 25 = .ok (.astore 4, 2) := by decide +kernel
theorem dL_release_27 : decode cL_release 27 = .ok (.iconst 4, 1) := by decide +kernel
theorem dL_release_28 : decode cL_release 28 = .ok (.ireturn, 1) := by decide +kernel
theorem dL_release_29 : decode cL_release 29 = .ok (.iconst 0, 1) := by decide +kernel
theorem dL_release_30 : decode cL_release 30 = .ok (.ireturn, 1) := by decide +kernel
set_option maxRecDepth 20000 in
theorem ggL_setRatchet_X10_setRatchet : GoodIn wsL_setRatchet wsX10_setRatchet := goodIn_ca (goodIn_ca (goodIn_ca (goodIn_ca (goodIn_ca (goodIn_ca (goodIn_r _ [6, 7, 8, 9, 10, 11, 12, 13, 14, 15, 16, 17, 18, 19, 20, 21, 22, 23, 24, 25, 26, 27, 28, 29, 30, 31, 32, 33, 34, 35, 36, 37, 38, 39, 40, 41, 42, 43, 44, 45, 5, 46, 47, 48, 49, 50, 51, 52, 53, 54, 55, 56, 57, 58, 59, 60, 61, 62, 63, 64, 65, 66, 67, 68, 69, 70, 71, 72, 73, 74, 75, 76, 77, 78, 79, 80, 81, 82, 83, 84, 85, 86, 87, 88, 89, 90, 91, 92, 93, 94, 95, 96, 97, 98, 99, 100, 101, 102, 103, 104] (by decide +kernel) (by decide +kernel)) (goodIn_sub (fun _ h => List.mem_cons_of_mem _ (List.mem_append_left _ (List.mem_append_left _ (List.mem_append_left _ (List.mem_append_left _ (List.mem_append_left _ (List.mem_append_right _ h))))))) (by decide +kernel))) (goodIn_sub (fun _ h => List.mem_cons_of_mem _ (List.mem_append_left _ (List.mem_append_left _ (List.mem_append_left _ (List.mem_append_left _ (List.mem_append_right _ h)))))) (by decide +kernel))) (goodIn_sub (fun _ h => List.mem_cons_of_mem _ (List.mem_append_left _ (List.mem_append_left _ (List.mem_append_left _ (List.mem_append_right _ h))))) (by decide +kernel))) (goodIn_sub (fun _ h => List.mem_cons_of_mem _ (List.mem_append_left _ (List.mem_append_left _ (List.mem_append_right _ h)))) (by decide +kernel))) (goodIn_sub (fun _ h => List.mem_cons_of_mem _ (List.mem_append_left _ (List.mem_append_right _ h))) (by decide +kernel))) (goodIn_sub (fun _ h => List.mem_cons_of_mem _ (List.mem_append_right _ h)) (by decide +kernel))
set_option maxRecDepth 20000 in
theorem gL_setRatchet_X10_setRatchet : GoodIn wsL_setRatchet (wsV RL 46 RX10 yX10_setRatchet wsX10_setRatchet) := goodIn_app (goodIn_of _ (by decide +kernel)) ggL_setRatchet_X10_setRatchet
theorem dL_setRatchet_0 : decode cL_setRatchet 0 = .ok (.aload_n 3, 1) := by decide +kernel
theorem dL_setRatchet_1 : decode cL_setRatchet 1 = .ok (.iconst 0, 1) := by decide +kernel
theorem dL_setRatchet_2 : decode cL_setRatchet 2 = .ok (.aload_n 0, 1) := by decide +kernel
theorem dL_setRatchet_3 : decode cL_setRatchet 3 = .ok (.iload_n 1, 1) := by decide +kernel
theorem dL_setRatchet_4 : decode cL_setRatchet 4 = .ok (.iload_n 2, 1) := by decide +kernel
theorem dL_setRatchet_5 : decode cL_setRatchet 5 = .ok (.invokevirtual 46, 3) := by decide +kernel
theorem dL_setRatchet_8 : decode cL_setRatchet 8 = .ok (.ifCond .eq 7, 3) := by decide +kernel
theorem dL_setRatchet_11 : decode cL_setRatchet 11 = .ok (.lconst 1, 1) := by decide +kernel
theorem dL_setRatchet_12 : decode cL_setRatchet 12 = .ok (.goto 4, 3) := by decide +kernel
theorem dL_setRatchet_15 : decode cL_setRatchet 15 = .ok (.lconst 0, 1) := by decide +kernel
theorem dL_setRatchet_16 : decode cL_setRatchet 16 = .ok (.lastore, 1) := by decide +kernel
theorem dL_setRatchet_17 : decode cL_setRatchet 17 = .ok (.goto 7, 3) := by decide +kernel
theorem dL_setRatchet_20 : decode cL_setRatchet 20 = .ok (.astore 4, 2) := by decide +kernel
theorem dL_setRatchet_22 : decode cL_setRatchet 22 = .ok (.iconst 1, 1) := by decide +kernel
theorem dL_setRatchet_23 : decode cL_setRatchet 23 = .ok (.ireturn, 1) := by decide +kernel
theorem dL_setRatchet_24 : decode cL_setRatchet 24 = .ok (.iconst 0, 1) := by decide +kernel
theorem dL_setRatchet_25 : decode cL_setRatchet 25 = .ok (.ireturn, 1) := by decide +kernel
set_option maxRecDepth 20000 in
theorem ggL_oil_X10_oil : GoodIn wsL_oil wsX10_oil := goodIn_ca (goodIn_ca (goodIn_ca (goodIn_ca (goodIn_ca (goodIn_ca (goodIn_r _ [8, 9, 10, 11, 12, 13, 14, 15, 16, 17, 18, 19, 20, 21, 22, 23, 24, 25, 26, 27, 28, 29, 30, 31, 32, 33, 34, 35, 36, 37, 38, 39, 40, 41, 42, 43, 44, 45, 46, 47, 48, 49, 7, 50, 51, 52, 53, 54, 55, 56, 57, 58, 59, 60, 61, 62, 63, 64, 65, 66, 67, 68, 69, 70, 71, 72, 73, 74, 75, 76, 77, 78, 79, 80, 81, 82, 83, 84, 85, 86, 87, 88, 89, 90, 91, 92, 93, 94, 95, 96, 97, 98, 99, 100, 101, 102, 103, 104, 105, 106, 107, 108] (by decide +kernel) (by decide +kernel)) (goodIn_sub (fun _ h => List.mem_cons_of_mem _ (List.mem_append_left _ (List.mem_append_left _ (List.mem_append_left _ (List.mem_append_left _ (List.mem_append_left _ (List.mem_append_right _ h))))))) (by decide +kernel))) (goodIn_sub (fun _ h => List.mem_cons_of_mem _ (List.mem_append_left _ (List.mem_append_left _ (List.mem_append_left _ (List.mem_append_left _ (List.mem_append_right _ h)))))) (by decide +kernel))) (goodIn_sub (fun _ h => List.mem_cons_of_mem _ (List.mem_append_left _ (List.mem_append_left _ (List.mem_append_left _ (List.mem_append_right _ h))))) (by decide +kernel))) (goodIn_sub (fun _ h => List.mem_cons_of_mem _ (List.mem_append_left _ (List.mem_append_left _ (List.mem_append_right _ h)))) (by decide +kernel))) (goodIn_sub (fun _ h => List.mem_cons_of_mem _ (List.mem_append_left _ (List.mem_append_right _ h))) (by decide +kernel))) (goodIn_sub (fun _ h => List.mem_cons_of_mem _ (List.mem_append_right _ h)) (by decide +kernel))
set_option maxRecDepth 20000 in
theorem gL_oil_X10_oil : GoodIn wsL_oil (wsV RL 50 RX10 yX10_oil wsX10_oil) := goodIn_app (goodIn_of _ (by decide +kernel)) ggL_oil_X10_oil
theorem dL_oil_0 : decode cL_oil 0 = .ok (.aload_n 2, 1) := by decide +kernel
theorem dL_oil_1 : decode cL_oil 1 = .ok (.iconst 0, 1) := by decide +kernel
theorem dL_oil_2 : decode cL_oil 2 = .ok (.aload_n 0, 1) := by decide +kernel
theorem dL_oil_3 : decode cL_oil 3 = .ok (.iload_n 1, 1) := by decide +kernel
theorem dL_oil_4 : decode cL_oil 4 = .ok (.invokevirtual 50, 3) := by decide +kernel
theorem dL_oil_7 : decode cL_oil 7 = .ok (.i2l, 1) := by decide +kernel
theorem dL_oil_8 : decode cL_oil 8 = .ok (.lastore, 1) := by decide +kernel
theorem dL_oil_9 : decode cL_oil 9 = .ok (.goto 12, 3) := by decide +kernel
theorem dL_oil_12 : decode cL_oil 12 = .ok (.astore_n 3, 1) := by decide +kernel
theorem dL_oil_13 : decode cL_oil 13 = .ok (.iconst 1, 1) := by decide +kernel
theorem dL_oil_14 : decode cL_oil 14 = .ok (.ireturn, 1) := by decide +kernel
theorem dL_oil_15 : decode cL_oil 15 = .ok (.astore_n 3, 1) := by decide +kernel
theorem dL_oil_16 : decode cL_oil 16 = .ok (.iconst 2, 1) := by decide +kernel
theorem dL_oil_17 : decode cL_oil 17 = .ok (.ireturn, 1) := by decide +kernel
theorem dL_oil_18 : decode cL_oil 18 = .ok (.astore_n 3, 1) := by decide +kernel
theorem dL_oil_19 : decode cL_oil 19 = .ok (.iconst 3, 1) := by decide +kernel
theorem dL_oil_20 : decode cL_oil 20 = .ok (.ireturn, 1) := by decide +kernel
theorem dL_oil_21 : decode cL_oil 21 = .ok (.iconst 0, 1) := by decide +kernel
theorem dL_oil_22 : decode cL_oil 22 = .ok (.ireturn, 1) := by decide +kernel
set_option maxRecDepth 20000 in
theorem ggL_buyOil_X10_buyOil : GoodIn wsL_buyOil wsX10_buyOil := goodIn_ca (goodIn_ca (goodIn_ca (goodIn_ca (goodIn_ca (goodIn_ca (goodIn_r _ [7, 8, 9, 10, 11, 12, 13, 14, 15, 16, 17, 18, 19, 20, 21, 22, 23, 24, 25, 26, 27, 28, 29, 30, 31, 32, 33, 34, 35, 36, 37, 38, 39, 40, 41, 42, 6, 43, 44, 45, 46, 47, 48, 49, 50, 51, 52, 53, 54, 55, 56, 57, 58, 59, 60, 61, 62, 63, 64, 65, 66, 67, 68, 69, 70, 71, 72, 73, 74, 75, 76, 77, 78, 79, 80, 81, 82, 83, 84, 85, 86, 87, 88, 89, 90, 91, 92, 93, 94, 95, 96, 97, 98, 99, 100, 101] (by decide +kernel) (by decide +kernel)) (goodIn_sub (fun _ h => List.mem_cons_of_mem _ (List.mem_append_left _ (List.mem_append_left _ (List.mem_append_left _ (List.mem_append_left _ (List.mem_append_left _ (List.mem_append_right _ h))))))) (by decide +kernel))) (goodIn_sub (fun _ h => List.mem_cons_of_mem _ (List.mem_append_left _ (List.mem_append_left _ (List.mem_append_left _ (List.mem_append_left _ (List.mem_append_right _ h)))))) (by decide +kernel))) (goodIn_sub (fun _ h => List.mem_cons_of_mem _ (List.mem_append_left _ (List.mem_append_left _ (List.mem_append_left _ (List.mem_append_right _ h))))) (by decide +kernel))) (goodIn_sub (fun _ h => List.mem_cons_of_mem _ (List.mem_append_left _ (List.mem_append_left _ (List.mem_append_right _ h)))) (by decide +kernel))) (goodIn_sub (fun _ h => List.mem_cons_of_mem _ (List.mem_append_left _ (List.mem_append_right _ h))) (by decide +kernel))) (goodIn_sub (fun _ h => List.mem_cons_of_mem _ (List.mem_append_right _ h)) (by decide +kernel))
set_option maxRecDepth 20000 in
theorem gL_buyOil_X10_buyOil : GoodIn wsL_buyOil (wsV RL 53 RX10 yX10_buyOil wsX10_buyOil) := goodIn_app (goodIn_of _ (by decide +kernel)) ggL_buyOil_X10_buyOil
theorem dL_buyOil_0 : decode cL_buyOil 0 = .ok (.aload_n 2, 1) := by decide +kernel
theorem dL_buyOil_1 : decode cL_buyOil 1 = .ok (.iconst 0, 1) := by decide +kernel
theorem dL_buyOil_2 : decode cL_buyOil 2 = .ok (.aload_n 0, 1) := by decide +kernel
theorem dL_buyOil_3 : decode cL_buyOil 3 = .ok (.iload_n 1, 1) := by decide +kernel
theorem dL_buyOil_4 : decode cL_buyOil 4 = .ok (.invokevirtual 53, 3) := by decide +kernel
theorem dL_buyOil_7 : decode cL_buyOil 7 = .ok (.i2l, 1) := by decide +kernel
theorem dL_buyOil_8 : decode cL_buyOil 8 = .ok (.lastore, 1) := by decide +kernel
theorem dL_buyOil_9 : decode cL_buyOil 9 = .ok (.goto 9, 3) := by decide +kernel
theorem dL_buyOil_12 : decode cL_buyOil 12 = .ok (.astore_n 3, 1) := by decide +kernel
theorem dL_buyOil_13 : decode cL_buyOil 13 = .ok (.iconst 1, 1) := by decide +kernel
theorem dL_buyOil_14 : decode cL_buyOil 14 = .ok (.ireturn, 1) := by decide +kernel
theorem dL_buyOil_15 : decode cL_buyOil 15 = .ok (.astore_n 3, 1) := by decide +kernel
theorem dL_buyOil_16 : decode cL_buyOil 16 = .ok (.iconst 2, 1) := by decide +kernel
theorem dL_buyOil_17 : decode cL_buyOil 17 = .ok (.ireturn, 1) := by decide +kernel
theorem dL_buyOil_18 : decode cL_buyOil 18 = .ok (.iconst 0, 1) := by decide +kernel
theorem dL_buyOil_19 : decode cL_buyOil 19 = .ok (.ireturn, 1) := by decide +kernel
set_option maxRecDepth 20000 in
theorem ggL_addPlanet_X10_addPlanet : GoodIn wsL_addPlanet wsX10_addPlanet := goodIn_ca (goodIn_ca (goodIn_ca (goodIn_ca (goodIn_ca (goodIn_ca (goodIn_r _ [7, 8, 9, 10, 11, 12, 13, 14, 15, 16, 17, 18, 19, 20, 21, 22, 23, 24, 25, 26, 27, 28, 29, 30, 31, 32, 33, 34, 35, 36, 37, 38, 39, 40, 41, 42, 43, 44, 45, 46, 47, 48, 49, 50, 51, 6, 52, 53, 54, 55, 56, 57, 58, 59, 60, 61, 62, 63, 64, 65, 66, 67, 68, 69, 70, 71, 72, 73, 74, 75, 76, 77, 78, 79, 80, 81, 82, 83, 84, 85, 86, 87, 88, 89, 90, 91, 92, 93, 94, 95, 96, 97, 98, 99, 100, 101, 102, 103, 104, 105, 106, 107, 108, 109, 110] (by decide +kernel) (by decide +kernel)) (goodIn_sub (fun _ h => List.mem_cons_of_mem _ (List.mem_append_left _ (List.mem_append_left _ (List.mem_append_left _ (List.mem_append_left _ (List.mem_append_left _ (List.mem_append_right _ h))))))) (by decide +kernel))) (goodIn_sub (fun _ h => List.mem_cons_of_mem _ (List.mem_append_left _ (List.mem_append_left _ (List.mem_append_left _ (List.mem_append_left _ (List.mem_append_right _ h)))))) (by decide +kernel))) (goodIn_sub (fun _ h => List.mem_cons_of_mem _ (List.mem_append_left _ (List.mem_append_left _ (List.mem_append_left _ (List.mem_append_right _ h))))) (by decide +kernel))) (goodIn_sub (fun _ h => List.mem_cons_of_mem _ (List.mem_append_left _ (List.mem_append_left _ (List.mem_append_right _ h)))) (by decide +kernel))) (goodIn_sub (fun _ h => List.mem_cons_of_mem _ (List.mem_append_left _ (List.mem_append_right _ h))) (by decide +kernel))) (goodIn_sub (fun _ h => List.mem_cons_of_mem _ (List.mem_append_right _ h)) (by decide +kernel))
set_option maxRecDepth 20000 in
theorem gL_addPlanet_X10_addPlanet : GoodIn wsL_addPlanet (wsV RL 56 RX10 yX10_addPlanet wsX10_addPlanet) := goodIn_app (goodIn_of _ (by decide +kernel)) ggL_addPlanet_X10_addPlanet
theorem dL_addPlanet_0 : decode cL_addPlanet 0 = .ok (.aload_n 2, 1) := by decide +kernel
theorem dL_addPlanet_1 : decode cL_addPlanet 1 = .ok (.iconst 0, 1) := by decide +kernel
theorem dL_addPlanet_2 : decode cL_addPlanet 2 = .ok (.aload_n 0, 1) := by decide +kernel
theorem dL_addPlanet_3 : decode cL_addPlanet 3 = .ok (.iload_n 1, 1) := by decide +kernel
theorem dL_addPlanet_4 : decode cL_addPlanet 4 = .ok (.invokevirtual 56, 3) := by decide +kernel
theorem dL_addPlanet_7 : decode cL_addPlanet 7 = .ok (.i2l, 1) := by decide +kernel
theorem dL_addPlanet_8 : decode cL_addPlanet 8 = .ok (.lastore, 1) := by decide +kernel
theorem dL_addPlanet_9 : decode cL_addPlanet 9 = .ok (.goto 9, 3) := by decide +kernel
theorem dL_addPlanet_12 : decode cL_addPlanet 12 = .ok (.astore_n 3, 1) := by decide +kernel
theorem dL_addPlanet_13 : decode cL_addPlanet 13 = .ok (.iconst 1, 1) := by decide +kernel
theorem dL_addPlanet_14 : decode cL_addPlanet 14 = .ok (.ireturn, 1) := by decide +kernel
theorem dL_addPlanet_15 : decode cL_addPlanet 15 = .ok (.astore_n 3, 1) := by decide +kernel
theorem dL_addPlanet_16 : decode cL_addPlanet 16 = .ok (.iconst 2, 1) := by decide +kernel
theorem dL_addPlanet_17 : decode cL_addPlanet 17 = .ok (.ireturn, 1) := by decide +kernel
theorem dL_addPlanet_18 : decode cL_addPlanet 18 = .ok (.iconst 0, 1) := by decide +kernel
theorem dL_addPlanet_19 : decode cL_addPlanet 19 = .ok (.ireturn, 1) := by decide +kernel
set_option maxRecDepth 20000 in
theorem ggL_teeth_X10_teeth : GoodIn wsL_teeth wsX10_teeth := goodIn_ca (goodIn_ca (goodIn_r _ [6, 7, 8, 9, 10, 11, 5, 12, 13, 14, 15, 16, 17, 18, 19, 20, 21, 22, 23, 24, 25, 26, 27, 28, 29, 30, 31, 32, 33, 34, 35, 36, 37, 38, 39, 40, 41, 42, 43, 44, 45, 46, 47, 48, 49, 50] (by decide +kernel) (by decide +kernel)) (goodIn_sub (fun _ h => List.mem_cons_of_mem _ (List.mem_append_left _ (List.mem_append_right _ h))) (by decide +kernel))) (goodIn_sub (fun _ h => List.mem_cons_of_mem _ (List.mem_append_right _ h)) (by decide +kernel))
set_option maxRecDepth 20000 in
theorem gL_teeth_X10_teeth : GoodIn wsL_teeth (wsV RL 59 RX10 yX10_teeth wsX10_teeth) := goodIn_app (goodIn_of _ (by decide +kernel)) ggL_teeth_X10_teeth
theorem dL_teeth_0 : decode cL_teeth 0 = .ok (.aload_n 2, 1) := by decide +kernel
theorem dL_teeth_1 : decode cL_teeth 1 = .ok (.iconst 0, 1) := by decide +kernel
theorem dL_teeth_2 : decode cL_teeth 2 = .ok (.aload_n 0, 1) := by decide +kernel
theorem dL_teeth_3 : decode cL_teeth 3 = .ok (.iload_n 1, 1) := by decide +kernel
theorem dL_teeth_4 : decode cL_teeth 4 = .ok (.invokevirtual 59, 3) := by decide +kernel
theorem dL_teeth_7 : decode cL_teeth 7 = .ok (.i2l, 1) := by decide +kernel
theorem dL_teeth_8 : decode cL_teeth 8 = .ok (.lastore, 1) := by decide +kernel
theorem dL_teeth_9 : decode cL_teeth 9 = .ok (.goto 6, 3) := by decide +kernel
theorem dL_teeth_12 : decode cL_teeth 12 = .ok (.astore_n 3, 1) := by decide +kernel
theorem dL_teeth_13 : decode cL_teeth 13 = .ok (.iconst 1, 1) := by decide +kernel
theorem dL_teeth_14 : decode cL_teeth 14 = .ok (.ireturn, 1) := by decide +kernel
theorem dL_teeth_15 : decode cL_teeth 15 = .ok (.iconst 0, 1) := by decide +kernel
theorem dL_teeth_16 : decode cL_teeth 16 = .ok (.ireturn, 1) := by decide +kernel
set_option maxRecDepth 20000 in
theorem ggL_joint_X10_joint : GoodIn wsL_joint wsX10_joint := goodIn_ca (goodIn_ca (goodIn_ca (goodIn_r _ [7, 8, 9, 10, 11, 12, 13, 6, 14, 15, 16, 17, 18, 19, 20, 21, 22, 23, 24, 25, 26, 27, 28, 29, 30, 31, 32, 33, 34, 35, 36, 37, 38, 39, 40, 41, 42, 43, 44, 45, 46, 47, 48, 49, 50, 51, 52, 53, 54, 55, 56, 57] (by decide +kernel) (by decide +kernel)) (goodIn_sub (fun _ h => List.mem_cons_of_mem _ (List.mem_append_left _ (List.mem_append_right _ h))) (by decide +kernel))) (goodIn_sub (fun _ h => List.mem_cons_of_mem _ (List.mem_append_right _ h)) (by decide +kernel))) (goodIn_sub (fun _ h => List.mem_cons_of_mem _ (List.mem_append_left _ (List.mem_append_left _ (List.mem_append_right _ h)))) (by decide +kernel))
set_option maxRecDepth 20000 in
theorem gL_joint_X10_joint : GoodIn wsL_joint (wsV RL 62 RX10 yX10_joint wsX10_joint) := goodIn_app (goodIn_of _ (by decide +kernel)) ggL_joint_X10_joint
theorem dL_joint_0 : decode cL_joint 0 = .ok (.aload_n 3, 1) := by decide +kernel
theorem dL_joint_1 : decode cL_joint 1 = .ok (.iconst 0, 1) := by decide +kernel
theorem dL_joint_2 : decode cL_joint 2 = .ok (.aload_n 0, 1) := by decide +kernel
theorem dL_joint_3 : decode cL_joint 3 = .ok (.iload_n 1, 1) := by decide +kernel
theorem dL_joint_4 : decode cL_joint 4 = .ok (.iload_n 2, 1) := by decide +kernel
theorem dL_joint_5 : decode cL_joint 5 = .ok (.invokevirtual 62, 3) := by decide +kernel
theorem dL_joint_8 : decode cL_joint 8 = .ok (.i2l, 1) := by decide +kernel
theorem dL_joint_9 : decode cL_joint 9 = .ok (.lastore, 1) := by decide +kernel
theorem dL_joint_10 : decode cL_joint 10 = .ok (.goto 11, 3) := by decide +kernel
theorem dL_joint_13 : decode cL_joint 13 = .ok (.astore 4, 2) := by decide +kernel
theorem dL_joint_15 : decode cL_joint 15 = .ok (.iconst 1, 1) := by decide +kernel
theorem dL_joint_16 : decode cL_joint 16 = .ok (.ireturn, 1) := by decide +kernel
theorem dL_joint_17 : decode cL_joint 17 = .ok (.astore 4, 2) := by decide +kernel
theorem dL_joint_19 : decode cL_joint 19 = .ok (.iconst 2, 1) := by decide +kernel
theorem dL_joint_20 : decode cL_joint 20 = .ok (.ireturn, 1) := by decide +kernel
theorem dL_joint_21 : decode cL_joint 21 = .ok (.iconst 0, 1) := by decide +kernel
theorem dL_joint_22 : decode cL_joint 22 = .ok (.ireturn, 1) := by decide +kernel
set_option maxRecDepth 20000 in
theorem ggL_trainSize_X10_trainSize : GoodIn wsL_trainSize wsX10_trainSize := goodIn_ca (goodIn_ca (goodIn_r _ [6, 7, 8, 9, 10, 11, 12, 5, 13, 14, 15, 16, 17, 18, 19, 20, 21, 22, 23, 24, 25, 26, 27, 28, 29, 30, 31, 32, 33, 34, 35, 36, 37, 38, 39, 40, 41, 42, 43, 44, 45, 46, 47, 48, 49, 50, 51, 52, 53, 54, 55, 56, 57, 58, 59, 60, 61, 62, 63, 64, 65, 66, 67, 68, 69, 70, 71, 72, 73, 74, 75, 76, 77, 78, 79, 80, 81, 82, 83, 84, 85, 86] (by decide +kernel) (by decide +kernel)) (goodIn_sub (fun _ h => List.mem_cons_of_mem _ (List.mem_append_right _ h)) (by decide +kernel))) (goodIn_sub (fun _ h => List.mem_cons_of_mem _ (List.mem_append_left _ (List.mem_append_right _ h))) (by decide +kernel))
set_option maxRecDepth 20000 in
theorem gL_trainSize_X10_trainSize : GoodIn wsL_trainSize (wsV RL 66 RX10 yX10_trainSize wsX10_trainSize) := goodIn_app (goodIn_of _ (by decide +kernel)) ggL_trainSize_X10_trainSize
theorem dL_trainSize_0 : decode cL_trainSize 0 = .ok (.aload_n 2, 1) := by decide +kernel
theorem dL_trainSize_1 : decode cL_trainSize 1 = .ok (.iconst 0, 1) := by decide +kernel
theorem dL_trainSize_2 : decode cL_trainSize 2 = .ok (.aload_n 0, 1) := by decide +kernel
theorem dL_trainSize_3 : decode cL_trainSize 3 = .ok (.iload_n 1, 1) := by decide +kernel
theorem dL_trainSize_4 : decode cL_trainSize 4 = .ok (.invokevirtual 66, 3) := by decide +kernel
theorem dL_trainSize_7 : decode cL_trainSize 7 = .ok (.i2l, 1) := by decide +kernel
theorem dL_trainSize_8 : decode cL_trainSize 8 = .ok (.lastore, 1) := by decide +kernel
theorem dL_trainSize_9 : decode cL_trainSize 9 = .ok (.goto 6, 3) := by decide +kernel
theorem dL_trainSize_12 : decode cL_trainSize 12 = .ok (.astore_n 3, 1) := by decide +kernel
theorem dL_trainSize_13 : decode cL_trainSize 13 = .ok (.iconst 1, 1) := by decide +kernel
theorem dL_trainSize_14 : decode cL_trainSize 14 = .ok (.ireturn, 1) := by decide +kernel
theorem dL_trainSize_15 : decode cL_trainSize 15 = .ok (.iconst 0, 1) := by decide +kernel
theorem dL_trainSize_16 : decode cL_trainSize 16 = .ok (.ireturn, 1) := by decide +kernel
set_option maxRecDepth 20000 in
theorem ggL_areInTrain_X10_areInTrain : GoodIn wsL_areInTrain wsX10_areInTrain := goodIn_ca (goodIn_ca (goodIn_r _ [6, 7, 8, 9, 10, 11, 5, 12, 13, 14, 15, 16, 17, 18, 19, 20, 21, 22, 23, 24, 25, 26, 27, 28, 29, 30, 31, 32, 33, 34, 35, 36, 37, 38, 39, 40, 41, 42, 43, 44, 45, 46, 47, 48, 49, 50, 51, 52, 53, 54, 55, 56, 57, 58, 59, 60, 61, 62, 63, 64, 65, 66, 67, 68, 69, 70, 71, 72, 73, 74, 75, 76, 77, 78, 79, 80, 81, 82, 83, 84, 85, 86, 87, 88, 89] (by decide +kernel) (by decide +kernel)) (goodIn_sub (fun _ h => List.mem_cons_of_mem _ (List.mem_append_right _ h)) (by decide +kernel))) (goodIn_sub (fun _ h => List.mem_cons_of_mem _ (List.mem_append_left _ (List.mem_append_right _ h))) (by decide +kernel))
set_option maxRecDepth 20000 in
theorem gL_areInTrain_X10_areInTrain : GoodIn wsL_areInTrain (wsV RL 69 RX10 yX10_areInTrain wsX10_areInTrain) := goodIn_app (goodIn_of _ (by decide +kernel)) ggL_areInTrain_X10_areInTrain
theorem dL_areInTrain_0 : decode cL_areInTrain 0 = .ok (.aload_n 3, 1) := by decide +kernel
theorem dL_areInTrain_1 : decode cL_areInTrain 1 = .ok (.iconst 0, 1) := by decide +kernel
theorem dL_areInTrain_2 : decode cL_areInTrain 2 = .ok (.aload_n 0, 1) := by decide +kernel
theorem dL_areInTrain_3 : decode cL_areInTrain 3 = .ok (.iload_n 1, 1) := by decide +kernel
theorem dL_areInTrain_4 : decode cL_areInTrain 4 = .ok (.iload_n 2, 1) := by decide +kernel
theorem dL_areInTrain_5 : decode cL_areInTrain 5 = .ok (.invokevirtual 69, 3) := by decide +kernel
theorem dL_areInTrain_8 : decode cL_areInTrain 8 = .ok (.ifCond .eq 7, 3) := by decide +kernel
theorem dL_areInTrain_11 : decode cL_areInTrain 11 = .ok (.lconst 1, 1) := by decide +kernel
theorem dL_areInTrain_12 : decode cL_areInTrain 12 = .ok (.goto 4, 3) := by decide +kernel
theorem dL_areInTrain_15 : decode cL_areInTrain 15 = .ok (.lconst 0, 1) := by decide +kernel
theorem dL_areInTrain_16 : decode cL_areInTrain 16 = .ok (.lastore, 1) := by decide +kernel
theorem dL_areInTrain_17 : decode cL_areInTrain 17 = .ok (.goto 7, 3) := by decide +kernel
theorem dL_areInTrain_20 : decode cL_areInTrain 20 = .ok (.astore 4, 2) := by decide +kernel
theorem dL_areInTrain_22 : decode cL_areInTrain 22 = .ok (.iconst 1, 1) := by decide +kernel
theorem dL_areInTrain_23 : decode cL_areInTrain 23 = .ok (.ireturn, 1) := by decide +kernel
theorem dL_areInTrain_24 : decode cL_areInTrain 24 = .ok (.iconst 0, 1) := by decide +kernel
theorem dL_areInTrain_25 : decode cL_areInTrain 25 = .ok (.ireturn, 1) := by decide +kernel
set_option maxRecDepth 20000 in
theorem ggL_unitsPerTurn_X10_unitsPerTurn : GoodIn wsL_unitsPerTurn wsX10_unitsPerTurn := goodIn_ca (goodIn_ca (goodIn_ca (goodIn_r _ [7, 8, 9, 10, 6, 11, 12, 13, 14, 15, 16, 17, 18, 19, 20, 21, 22, 23, 24, 25, 26, 27, 28, 29, 30, 31, 32, 33, 34, 35, 36, 37, 38, 39, 40, 41, 42, 43, 44, 45, 46, 47, 48, 49, 50, 51, 52, 53, 54, 55, 56, 57, 58, 59, 60, 61, 62, 63, 64, 65, 66, 67, 68, 69, 70, 71, 72, 73, 74, 75, 76, 77, 78, 79, 80, 81, 82, 83, 84, 85, 86, 87, 88, 89, 90, 91, 92, 93, 94, 95, 96, 97, 98, 99, 100, 101] (by decide +kernel) (by decide +kernel)) (goodIn_sub (fun _ h => List.mem_cons_of_mem _ (List.mem_append_left _ (List.mem_append_right _ h))) (by decide +kernel))) (goodIn_sub (fun _ h => List.mem_cons_of_mem _ (List.mem_append_right _ h)) (by decide +kernel))) (goodIn_sub (fun _ h => List.mem_cons_of_mem _ (List.mem_append_left _ (List.mem_append_left _ (List.mem_append_right _ h)))) (by decide +kernel))
set_option maxRecDepth 20000 in
theorem gL_unitsPerTurn_X10_unitsPerTurn : GoodIn wsL_unitsPerTurn (wsV RL 73 RX10 yX10_unitsPerTurn wsX10_unitsPerTurn) := goodIn_app (goodIn_of _ (by decide +kernel)) ggL_unitsPerTurn_X10_unitsPerTurn
theorem dL_unitsPerTurn_0 : decode cL_unitsPerTurn 0 = .ok (.aload_n 3, 1) := by decide +kernel
theorem dL_unitsPerTurn_1 : decode cL_unitsPerTurn 1 = .ok (.iconst 0, 1) := by decide +kernel
theorem dL_unitsPerTurn_2 : decode cL_unitsPerTurn 2 = .ok (.aload_n 0, 1) := by decide +kernel
theorem dL_unitsPerTurn_3 : decode cL_unitsPerTurn 3 = .ok (.iload_n 1, 1) := by decide +kernel
theorem dL_unitsPerTurn_4 : decode cL_unitsPerTurn 4 = .ok (.iload_n 2, 1) := by decide +kernel
theorem dL_unitsPerTurn_5 : decode cL_unitsPerTurn 5 = .ok (.invokevirtual 73, 3) := by decide +kernel
theorem dL_unitsPerTurn_8 : decode cL_unitsPerTurn 8 = .ok (.lastore, 1) := by decide +kernel
theorem dL_unitsPerTurn_9 : decode cL_unitsPerTurn 9 = .ok (.goto 11, 3) := by decide +kernel
theorem dL_unitsPerTurn_12 : decode cL_unitsPerTurn 12 = .ok (.astore 4, 2) := by decide +kernel
theorem dL_unitsPerTurn_14 : decode cL_unitsPerTurn 14 = .ok (.iconst 1, 1) := by decide +kernel
theorem dL_unitsPerTurn_15 : decode cL_unitsPerTurn 15 = .ok (.ireturn, 1) := by decide +kernel
theorem dL_unitsPerTurn_16 : decode cL_unitsPerTurn 16 = .ok (.astore 4, 2) := by decide +kernel
theorem dL_unitsPerTurn_18 : decode cL_unitsPerTurn 18 = .ok (.iconst 2, 1) := by decide +kernel
theorem dL_unitsPerTurn_19 : decode cL_unitsPerTurn 19 = .ok (.ireturn, 1) := by decide +kernel
theorem dL_unitsPerTurn_20 : decode cL_unitsPerTurn 20 = .ok (.iconst 0, 1) := by decide +kernel
theorem dL_unitsPerTurn_21 : decode cL_unitsPerTurn 21 = .ok (.ireturn, 1) := by decide +kernel
set_option maxRecDepth 20000 in
theorem ggL_unitsPerTurnByLowest_X10_unitsPerTurnByLowest : GoodIn wsL_unitsPerTurnByLowest wsX10_unitsPerTurnByLowest := goodIn_ca (goodIn_ca (goodIn_ca (goodIn_r _ [7, 8, 9, 10, 6, 11, 12, 13, 14, 15, 16, 17, 18, 19, 20, 21, 22, 23, 24, 25, 26, 27, 28, 29, 30, 31, 32, 33, 34, 35, 36, 37, 38, 39, 40, 41, 42, 43, 44, 45, 46, 47, 48, 49, 50, 51, 52, 53, 54, 55, 56, 57, 58, 59, 60, 61, 62, 63, 64, 65, 66, 67, 68, 69, 70, 71, 72, 73, 74, 75, 76, 77, 78, 79, 80, 81, 82, 83, 84, 85, 86, 87, 88, 89, 90, 91, 92, 93, 94, 95, 96, 97, 98, 99, 100, 101, 102, 103, 104, 105, 106, 107, 108, 109, 110, 111, 112, 113, 114, 115, 116, 117, 118, 119, 120] (by decide +kernel) (by decide +kernel)) (goodIn_sub (fun _ h => List.mem_cons_of_mem _ (List.mem_append_left _ (List.mem_append_right _ h))) (by decide +kernel))) (goodIn_sub (fun _ h => List.mem_cons_of_mem _ (List.mem_append_right _ h)) (by decide +kernel))) (goodIn_sub (fun _ h => List.mem_cons_of_mem _ (List.mem_append_left _ (List.mem_append_left _ (List.mem_append_right _ h)))) (by decide +kernel))
set_option maxRecDepth 20000 in
theorem gL_unitsPerTurnByLowest_X10_unitsPerTurnByLowest : GoodIn wsL_unitsPerTurnByLowest (wsV RL 77 RX10 yX10_unitsPerTurnByLowest wsX10_unitsPerTurnByLowest) := goodIn_app (goodIn_of _ (by decide +kernel)) ggL_unitsPerTurnByLowest_X10_unitsPerTurnByLowest
theorem dL_unitsPerTurnByLowest_0 : decode cL_unitsPerTurnByLowest 0 = .ok (.aload_n 3, 1) := by decide +kernel
theorem dL_unitsPerTurnByLowest_1 : decode cL_unitsPerTurnByLowest 1 = .ok (.iconst 0, 1) := by decide +kernel
theorem dL_unitsPerTurnByLowest_2 : decode cL_unitsPerTurnByLowest 2 = .ok (.aload_n 0, 1) := by decide +kernel
theorem dL_unitsPerTurnByLowest_3 : decode cL_unitsPerTurnByLowest 3 = .ok (.iload_n 1, 1) := by decide +kernel
theorem dL_unitsPerTurnByLowest_4 : decode cL_unitsPerTurnByLowest 4 = .ok (.iload_n 2, 1) := by decide +kernel
theorem dL_unitsPerTurnByLowest_5 : decode cL_unitsPerTurnByLowest 5 = .ok (.invokevirtual 77, 3) := by decide +kernel
theorem dL_unitsPerTurnByLowest_8 : decode cL_unitsPerTurnByLowest 8 = .ok (.lastore, 1) := by decide +kernel
theorem dL_unitsPerTurnByLowest_9 : decode cL_unitsPerTurnByLowest 9 = .ok (.goto 11, 3) := by decide +kernel
theorem dL_unitsPerTurnByLowest_12 : decode cL_unitsPerTurnByLowest 12 = .ok (.astore 4, 2) := by decide +kernel
theorem dL_unitsPerTurnByLowest_14 : decode cL_unitsPerTurnByLowest 14 = .ok (.iconst 1, 1) := by decide +kernel
theorem dL_unitsPerTurnByLowest_15 : decode cL_unitsPerTurnByLowest 15 = .ok (.ireturn, 1) := by decide +kernel
theorem dL_unitsPerTurnByLowest_16 : decode cL_unitsPerTurnByLowest 16 = .ok (.astore 4, 2) := by decide +kernel
theorem dL_unitsPerTurnByLowest_18 : decode cL_unitsPerTurnByLowest 18 = .ok (.iconst 2, 1) := by decide +kernel
theorem dL_unitsPerTurnByLowest_19 : decode cL_unitsPerTurnByLowest 19 = .ok (.ireturn, 1) := by decide +kernel
theorem dL_unitsPerTurnByLowest_20 : decode cL_unitsPerTurnByLowest 20 = .ok (.iconst 0, 1) := by decide +kernel
theorem dL_unitsPerTurnByLowest_21 : decode cL_unitsPerTurnByLowest 21 = .ok (.ireturn, 1) := by decide +kernel
set_option maxRecDepth 20000 in
theorem ggL_angle_X10_angle : GoodIn wsL_angle wsX10_angle := goodIn_ca (goodIn_ca (goodIn_r _ [6, 7, 8, 9, 10, 11, 5, 12, 13, 14, 15, 16, 17, 18, 19, 20, 21, 22, 23, 24, 25, 26, 27, 28, 29, 30, 31, 32, 33, 34, 35, 36, 37, 38, 39, 40, 41, 42, 43, 44, 45, 46, 47, 48, 49, 50] (by decide +kernel) (by decide +kernel)) (goodIn_sub (fun _ h => List.mem_cons_of_mem _ (List.mem_append_left _ (List.mem_append_right _ h))) (by decide +kernel))) (goodIn_sub (fun _ h => List.mem_cons_of_mem _ (List.mem_append_right _ h)) (by decide +kernel))
set_option maxRecDepth 20000 in
theorem gL_angle_X10_angle : GoodIn wsL_angle (wsV RL 80 RX10 yX10_angle wsX10_angle) := goodIn_app (goodIn_of _ (by decide +kernel)) ggL_angle_X10_angle
theorem dL_angle_0 : decode cL_angle 0 = .ok (.aload_n 2, 1) := by decide +kernel
theorem dL_angle_1 : decode cL_angle 1 = .ok (.iconst 0, 1) := by decide +kernel
theorem dL_angle_2 : decode cL_angle 2 = .ok (.aload_n 0, 1) := by decide +kernel
theorem dL_angle_3 : decode cL_angle 3 = .ok (.iload_n 1, 1) := by decide +kernel
theorem dL_angle_4 : decode cL_angle 4 = .ok (.invokevirtual 80, 3) := by decide +kernel
theorem dL_angle_7 : decode cL_angle 7 = .ok (.lastore, 1) := by decide +kernel
theorem dL_angle_8 : decode cL_angle 8 = .ok (.goto 6, 3) := by decide +kernel
theorem dL_angle_11 : decode cL_angle 11 = .ok (.astore_n 3, 1) := by decide +kernel
theorem dL_angle_12 : decode cL_angle 12 = .ok (.iconst 1, 1) := by decide +kernel
theorem dL_angle_13 : decode cL_angle 13 = .ok (.ireturn, 1) := by decide +kernel
theorem dL_angle_14 : decode cL_angle 14 = .ok (.iconst 0, 1) := by decide +kernel
theorem dL_angle_15 : decode cL_angle 15 = .ok (.ireturn, 1) := by decide +kernel
set_option maxRecDepth 20000 in
theorem ggL_anglePart_X10_anglePart : GoodIn wsL_anglePart wsX10_anglePart := goodIn_ca (goodIn_ca (goodIn_r _ [6, 7, 8, 9, 10, 11, 12, 5, 13, 14, 15, 16, 17, 18, 19, 20, 21, 22, 23, 24, 25, 26, 27, 28, 29, 30, 31, 32, 33, 34, 35, 36, 37, 38, 39, 40, 41, 42, 43, 44, 45, 46, 47, 48, 49, 50, 51] (by decide +kernel) (by decide +kernel)) (goodIn_sub (fun _ h => List.mem_cons_of_mem _ (List.mem_append_left _ (List.mem_append_right _ h))) (by decide +kernel))) (goodIn_sub (fun _ h => List.mem_cons_of_mem _ (List.mem_append_right _ h)) (by decide +kernel))
set_option maxRecDepth 20000 in
theorem gL_anglePart_X10_anglePart : GoodIn wsL_anglePart (wsV RL 84 RX10 yX10_anglePart wsX10_anglePart) := goodIn_app (goodIn_of _ (by decide +kernel)) ggL_anglePart_X10_anglePart
theorem dL_anglePart_0 : decode cL_anglePart 0 = .ok (.aload_n 2, 1) := by decide +kernel
theorem dL_anglePart_1 : decode cL_anglePart 1 = .ok (.iconst 0, 1) := by decide +kernel
theorem dL_anglePart_2 : decode cL_anglePart 2 = .ok (.aload_n 0, 1) := by decide +kernel
theorem dL_anglePart_3 : decode cL_anglePart 3 = .ok (.iload_n 1, 1) := by decide +kernel
theorem dL_anglePart_4 : decode cL_anglePart 4 = .ok (.invokevirtual 84, 3) := by decide +kernel
theorem dL_anglePart_7 : decode cL_anglePart 7 = .ok (.dastore, 1) := by decide +kernel
theorem dL_anglePart_8 : decode cL_anglePart 8 = .ok (.goto 6, 3) := by decide +kernel
theorem dL_anglePart_11 : decode cL_anglePart 11 = .ok (.astore_n 3, 1) := by decide +kernel
theorem dL_anglePart_12 : decode cL_anglePart 12 = .ok (.iconst 1, 1) := by decide +kernel
theorem dL_anglePart_13 : decode cL_anglePart 13 = .ok (.ireturn, 1) := by decide +kernel
theorem dL_anglePart_14 : decode cL_anglePart 14 = .ok (.iconst 0, 1) := by decide +kernel
theorem dL_anglePart_15 : decode cL_anglePart 15 = .ok (.ireturn, 1) := by decide +kernel
set_option maxRecDepth 20000 in
theorem ggL_tension_X10_tension : GoodIn wsL_tension wsX10_tension := goodIn_ca (goodIn_ca (goodIn_ca (goodIn_r _ [7, 8, 9, 10, 11, 12, 6, 13, 14, 15, 16, 17, 18, 19, 20, 21, 22, 23, 24, 25, 26, 27, 28, 29, 30, 31, 32, 33, 34, 35, 36, 37, 38, 39, 40, 41, 42, 43, 44, 45, 46, 47, 48, 49, 50, 51, 52, 53, 54, 55, 56, 57, 58, 59, 60, 61, 62] (by decide +kernel) (by decide +kernel)) (goodIn_sub (fun _ h => List.mem_cons_of_mem _ (List.mem_append_left _ (List.mem_append_left _ (List.mem_append_right _ h)))) (by decide +kernel))) (goodIn_sub (fun _ h => List.mem_cons_of_mem _ (List.mem_append_left _ (List.mem_append_right _ h))) (by decide +kernel))) (goodIn_sub (fun _ h => List.mem_cons_of_mem _ (List.mem_append_right _ h)) (by decide +kernel))
set_option maxRecDepth 20000 in
theorem gL_tension_X10_tension : GoodIn wsL_tension (wsV RL 88 RX10 yX10_tension wsX10_tension) := goodIn_app (goodIn_of _ (by decide +kernel)) ggL_tension_X10_tension
theorem dL_tension_0 : decode cL_tension 0 = .ok (.aload_n 2, 1) := by decide +kernel
theorem dL_tension_1 : decode cL_tension 1 = .ok (.iconst 0, 1) := by decide +kernel
theorem dL_tension_2 : decode cL_tension 2 = .ok (.aload_n 0, 1) := by decide +kernel
theorem dL_tension_3 : decode cL_tension 3 = .ok (.iload_n 1, 1) := by decide +kernel
theorem dL_tension_4 : decode cL_tension 4 = .ok (.invokevirtual 88, 3) := by decide +kernel
theorem dL_tension_7 : decode cL_tension 7 = .ok (.i2l, 1) := by decide +kernel
theorem dL_tension_8 : decode cL_tension 8 = .ok (.lastore, 1) := by decide +kernel
theorem dL_tension_9 : decode cL_tension 9 = .ok (.goto 9, 3) := by decide +kernel
theorem dL_tension_12 : decode cL_tension 12 = .ok (.astore_n 3, 1) := by decide +kernel
theorem dL_tension_13 : decode cL_tension 13 = .ok (.iconst 1, 1) := by decide +kernel
theorem dL_tension_14 : decode cL_tension 14 = .ok (.ireturn, 1) := by decide +kernel
theorem dL_tension_15 : decode cL_tension 15 = .ok (.astore_n 3, 1) := by decide +kernel
theorem dL_tension_16 : decode cL_tension 16 = .ok (.iconst 2, 1) := by decide +kernel
theorem dL_tension_17 : decode cL_tension 17 = .ok (.ireturn, 1) := by decide +kernel
theorem dL_tension_18 : decode cL_tension 18 = .ok (.iconst 0, 1) := by decide +kernel
theorem dL_tension_19 : decode cL_tension 19 = .ok (.ireturn, 1) := by decide +kernel
set_option maxRecDepth 20000 in
theorem ggL_springSize_X10_springSize : GoodIn wsL_springSize wsX10_springSize := goodIn_ca (goodIn_ca (goodIn_ca (goodIn_r _ [7, 8, 9, 10, 11, 12, 6, 13, 14, 15, 16, 17, 18, 19, 20, 21, 22, 23, 24, 25, 26, 27, 28, 29, 30, 31, 32, 33, 34, 35, 36, 37, 38, 39, 40, 41, 42, 43, 44, 45, 46, 47, 48, 49, 50, 51, 52, 53, 54, 55, 56, 57, 58, 59, 60, 61, 62] (by decide +kernel) (by decide +kernel)) (goodIn_sub (fun _ h => List.mem_cons_of_mem _ (List.mem_append_left _ (List.mem_append_left _ (List.mem_append_right _ h)))) (by decide +kernel))) (goodIn_sub (fun _ h => List.mem_cons_of_mem _ (List.mem_append_left _ (List.mem_append_right _ h))) (by decide +kernel))) (goodIn_sub (fun _ h => List.mem_cons_of_mem _ (List.mem_append_right _ h)) (by decide +kernel))
set_option maxRecDepth 20000 in
theorem gL_springSize_X10_springSize : GoodIn wsL_springSize (wsV RL 91 RX10 yX10_springSize wsX10_springSize) := goodIn_app (goodIn_of _ (by decide +kernel)) ggL_springSize_X10_springSize
theorem dL_springSize_0 : decode cL_springSize 0 = .ok (.aload_n 2, 1) := by decide +kernel
theorem dL_springSize_1 : decode cL_springSize 1 = .ok (.iconst 0, 1) := by decide +kernel
theorem dL_springSize_2 : decode cL_springSize 2 = .ok (.aload_n 0, 1) := by decide +kernel
theorem dL_springSize_3 : decode cL_springSize 3 = .ok (.iload_n 1, 1) := by decide +kernel
theorem dL_springSize_4 : decode cL_springSize 4 = .ok (.invokevirtual 91, 3) := by decide +kernel
theorem dL_springSize_7 : decode cL_springSize 7 = .ok (.i2l, 1) := by decide +kernel
theorem dL_springSize_8 : decode cL_springSize 8 = .ok (.lastore, 1) := by decide +kernel
theorem dL_springSize_9 : decode cL_springSize 9 = .ok (.goto 9, 3) := by decide +kernel
theorem dL_springSize_12 : decode cL_springSize 12 = .ok (.astore_n 3, 1) := by decide +kernel
theorem dL_springSize_13 : decode cL_springSize 13 = .ok (.iconst 1, 1) := by decide +kernel
theorem dL_springSize_14 : decode cL_springSize 14 = .ok (.ireturn, 1) := by decide +kernel
theorem dL_springSize_15 : decode cL_springSize 15 = .ok (.astore_n 3, 1) := by decide +kernel
theorem dL_springSize_16 : decode cL_springSize 16 = .ok (.iconst 2, 1) := by decide +kernel
theorem dL_springSize_17 : decode cL_springSize 17 = .ok (.ireturn, 1) := by decide +kernel
theorem dL_springSize_18 : decode cL_springSize 18 = .ok (.iconst 0, 1) := by decide +kernel
theorem dL_springSize_19 : decode cL_springSize 19 = .ok (.ireturn, 1) := by decide +kernel
set_option maxRecDepth 20000 in
theorem ggL_springOf_X10_springOf : GoodIn wsL_springOf wsX10_springOf := goodIn_ca (goodIn_ca (goodIn_ca (goodIn_r _ [7, 8, 9, 10, 11, 12, 13, 14, 6, 15, 16, 17, 18, 19, 20, 21, 22, 23, 24, 25, 26, 27, 28, 29, 30, 31, 32, 33, 34, 35, 36, 37, 38, 39, 40, 41, 42, 43, 44, 45, 46, 47, 48, 49, 50, 51, 52, 53, 54, 55, 56, 57, 58, 59, 60, 61, 62, 63, 64, 65, 66, 67, 68, 69, 70, 71, 72, 73, 74, 75, 76, 77, 78, 79, 80, 81, 82, 83, 84, 85, 86, 87, 88, 89, 90, 91, 92, 93, 94, 95, 96, 97, 98, 99, 100, 101] (by decide +kernel) (by decide +kernel)) (goodIn_sub (fun _ h => List.mem_cons_of_mem _ (List.mem_append_left _ (List.mem_append_right _ h))) (by decide +kernel))) (goodIn_sub (fun _ h => List.mem_cons_of_mem _ (List.mem_append_right _ h)) (by decide +kernel))) (goodIn_sub (fun _ h => List.mem_cons_of_mem _ (List.mem_append_left _ (List.mem_append_left _ (List.mem_append_right _ h)))) (by decide +kernel))
set_option maxRecDepth 20000 in
theorem gL_springOf_X10_springOf : GoodIn wsL_springOf (wsV RL 94 RX10 yX10_springOf wsX10_springOf) := goodIn_app (goodIn_of _ (by decide +kernel)) ggL_springOf_X10_springOf
theorem dL_springOf_0 : decode cL_springOf 0 = .ok (.aload_n 2, 1) := by decide +kernel
theorem dL_springOf_1 : decode cL_springOf 1 = .ok (.iconst 0, 1) := by decide +kernel
theorem dL_springOf_2 : decode cL_springOf 2 = .ok (.aload_n 0, 1) := by decide +kernel
theorem dL_springOf_3 : decode cL_springOf 3 = .ok (.iload_n 1, 1) := by decide +kernel
theorem dL_springOf_4 : decode cL_springOf 4 = .ok (.invokevirtual 94, 3) := by decide +kernel
theorem dL_springOf_7 : decode cL_springOf 7 = .ok (.i2l, 1) := by decide +kernel
theorem dL_springOf_8 : decode cL_springOf 8 = .ok (.lastore, 1) := by decide +kernel
theorem dL_springOf_9 : decode cL_springOf 9 = .ok (.goto 9, 3) := by decide +kernel
theorem dL_springOf_12 : decode cL_springOf 12 = .ok (.astore_n 3, 1) := by decide +kernel
theorem dL_springOf_13 : decode cL_springOf 13 = .ok (.iconst 1, 1) := by decide +kernel
theorem dL_springOf_14 : decode cL_springOf 14 = .ok (.ireturn, 1) := by decide +kernel
theorem dL_springOf_15 : decode cL_springOf 15 = .ok (.astore_n 3, 1) := by decide +kernel
theorem dL_springOf_16 : decode cL_springOf 16 = .ok (.iconst 2, 1) := by decide +kernel
theorem dL_springOf_17 : decode cL_springOf 17 = .ok (.ireturn, 1) := by decide +kernel
theorem dL_springOf_18 : decode cL_springOf 18 = .ok (.iconst 0, 1) := by decide +kernel
theorem dL_springOf_19 : decode cL_springOf 19 = .ok (.ireturn, 1) := by decide +kernel
set_option maxRecDepth 20000 in
theorem ggL_friction_X10_friction : GoodIn wsL_friction wsX10_friction := goodIn_ca (goodIn_ca (goodIn_r _ [6, 7, 8, 9, 10, 11, 5, 12, 13, 14, 15, 16, 17, 18, 19, 20, 21, 22, 23, 24, 25, 26, 27, 28, 29, 30, 31, 32, 33, 34, 35, 36, 37, 38, 39, 40, 41, 42, 43, 44, 45, 46, 47, 48, 49, 50, 51, 52, 53, 54, 55, 56, 57, 58, 59, 60, 61, 62, 63, 64, 65, 66, 67, 68, 69, 70, 71, 72, 73, 74, 75, 76, 77, 78, 79, 80, 81, 82, 83, 84, 85, 86, 87, 88, 89, 90, 91, 92, 93, 94] (by decide +kernel) (by decide +kernel)) (goodIn_sub (fun _ h => List.mem_cons_of_mem _ (List.mem_append_right _ h)) (by decide +kernel))) (goodIn_sub (fun _ h => List.mem_cons_of_mem _ (List.mem_append_left _ (List.mem_append_right _ h))) (by decide +kernel))
set_option maxRecDepth 20000 in
theorem gL_friction_X10_friction : GoodIn wsL_friction (wsV RL 97 RX10 yX10_friction wsX10_friction) := goodIn_app (goodIn_of _ (by decide +kernel)) ggL_friction_X10_friction
theorem dL_friction_0 : decode cL_friction 0 = .ok (.aload_n 2, 1) := by decide +kernel
theorem dL_friction_1 : decode cL_friction 1 = .ok (.iconst 0, 1) := by decide +kernel
theorem dL_friction_2 : decode cL_friction 2 = .ok (.aload_n 0, 1) := by decide +kernel
theorem dL_friction_3 : decode cL_friction 3 = .ok (.iload_n 1, 1) := by decide +kernel
theorem dL_friction_4 : decode cL_friction 4 = .ok (.invokevirtual 97, 3) := by decide +kernel
theorem dL_friction_7 : decode cL_friction 7 = .ok (.i2l, 1) := by decide +kernel
theorem dL_friction_8 : decode cL_friction 8 = .ok (.lastore, 1) := by decide +kernel
theorem dL_friction_9 : decode cL_friction 9 = .ok (.goto 6, 3) := by decide +kernel
theorem dL_friction_12 : decode cL_friction 12 = .ok (.astore_n 3, 1) := by decide +kernel
theorem dL_friction_13 : decode cL_friction 13 = .ok (.iconst 1, 1) := by decide +kernel
theorem dL_friction_14 : decode cL_friction 14 = .ok (.ireturn, 1) := by decide +kernel
theorem dL_friction_15 : decode cL_friction 15 = .ok (.iconst 0, 1) := by decide +kernel
theorem dL_friction_16 : decode cL_friction 16 = .ok (.ireturn, 1) := by decide +kernel
set_option maxRecDepth 20000 in
theorem ggL_turnsLeft_X10_turnsLeft : GoodIn wsL_turnsLeft wsX10_turnsLeft := goodIn_ca (goodIn_ca (goodIn_ca (goodIn_r _ [7, 8, 9, 10, 11, 12, 13, 6, 14, 15, 16, 17, 18, 19, 20, 21, 22, 23, 24, 25, 26, 27, 28, 29, 30, 31, 32, 33, 34, 35, 36, 37, 38, 39, 40, 41, 42, 43, 44, 45, 46, 47, 48, 49, 50, 51, 52, 53, 54, 55, 56, 57, 58, 59, 60, 61, 62, 63, 64, 65, 66, 67, 68, 69, 70, 71, 72, 73, 74, 75, 76, 77, 78, 79, 80, 81, 82, 83, 84, 85, 86, 87, 88, 89, 90, 91, 92, 93, 94, 95, 96, 97, 98, 99, 100, 101, 102, 103, 104, 105, 106, 107, 108] (by decide +kernel) (by decide +kernel)) (goodIn_sub (fun _ h => List.mem_cons_of_mem _ (List.mem_append_left _ (List.mem_append_left _ (List.mem_append_right _ h)))) (by decide +kernel))) (goodIn_sub (fun _ h => List.mem_cons_of_mem _ (List.mem_append_left _ (List.mem_append_right _ h))) (by decide +kernel))) (goodIn_sub (fun _ h => List.mem_cons_of_mem _ (List.mem_append_right _ h)) (by decide +kernel))
set_option maxRecDepth 20000 in
theorem gL_turnsLeft_X10_turnsLeft : GoodIn wsL_turnsLeft (wsV RL 100 RX10 yX10_turnsLeft wsX10_turnsLeft) := goodIn_app (goodIn_of _ (by decide +kernel)) ggL_turnsLeft_X10_turnsLeft
theorem dL_turnsLeft_0 : decode cL_turnsLeft 0 = .ok (.aload_n 2, 1) := by decide +kernel
theorem dL_turnsLeft_1 : decode cL_turnsLeft 1 = .ok (.iconst 0, 1) := by decide +kernel
theorem dL_turnsLeft_2 : decode cL_turnsLeft 2 = .ok (.aload_n 0, 1) := by decide +kernel
theorem dL_turnsLeft_3 : decode cL_turnsLeft 3 = .ok (.iload_n 1, 1) := by decide +kernel
theorem dL_turnsLeft_4 : decode cL_turnsLeft 4 = .ok (.invokevirtual 100, 3) := by decide +kernel
theorem dL_turnsLeft_7 : decode cL_turnsLeft 7 = .ok (.i2l, 1) := by decide +kernel
theorem dL_turnsLeft_8 : decode cL_turnsLeft 8 = .ok (.lastore, 1) := by decide +kernel
theorem dL_turnsLeft_9 : decode cL_turnsLeft 9 = .ok (.goto 9, 3) := by decide +kernel
theorem dL_turnsLeft_12 : decode cL_turnsLeft 12 = .ok (.astore_n 3, 1) := by decide +kernel
theorem dL_turnsLeft_13 : decode cL_turnsLeft 13 = .ok (.iconst 1, 1) := by decide +kernel
theorem dL_turnsLeft_14 : decode cL_turnsLeft 14 = .ok (.ireturn, 1) := by decide +kernel
theorem dL_turnsLeft_15 : decode cL_turnsLeft 15 = .ok (.astore_n 3, 1) := by decide +kernel
theorem dL_turnsLeft_16 : decode cL_turnsLeft 16 = .ok (.iconst 2, 1) := by decide +kernel
theorem dL_turnsLeft_17 : decode cL_turnsLeft 17 = .ok (.ireturn, 1) := by decide +kernel
theorem dL_turnsLeft_18 : decode cL_turnsLeft 18 = .ok (.iconst 0, 1) := by decide +kernel
theorem dL_turnsLeft_19 : decode cL_turnsLeft 19 = .ok (.ireturn, 1) := by decide +kernel
set_option maxRecDepth 20000 in
theorem ggL_canRelease_X10_canRelease : GoodIn wsL_canRelease wsX10_canRelease := goodIn_ca (goodIn_ca (goodIn_r _ [6, 7, 8, 9, 10, 11, 5, 12, 13, 14, 15, 16, 17, 18, 19, 20, 21, 22, 23, 24, 25, 26, 27, 28, 29, 30, 31, 32, 33, 34, 35, 36, 37, 38, 39, 40, 41, 42, 43, 44, 45, 46, 47, 48, 49, 50, 51, 52, 53, 54, 55, 56, 57, 58, 59, 60, 61, 62, 63, 64, 65, 66, 67, 68, 69, 70, 71, 72, 73, 74, 75, 76, 77, 78, 79, 80, 81, 82, 83, 84, 85, 86, 87, 88, 89, 90, 91, 92, 93, 94, 95, 96] (by decide +kernel) (by decide +kernel)) (goodIn_sub (fun _ h => List.mem_cons_of_mem _ (List.mem_append_right _ h)) (by decide +kernel))) (goodIn_sub (fun _ h => List.mem_cons_of_mem _ (List.mem_append_left _ (List.mem_append_right _ h))) (by decide +kernel))
set_option maxRecDepth 20000 in
theorem gL_canRelease_X10_canRelease : GoodIn wsL_canRelease (wsV RL 103 RX10 yX10_canRelease wsX10_canRelease) := goodIn_app (goodIn_of _ (by decide +kernel)) ggL_canRelease_X10_canRelease
theorem dL_canRelease_0 : decode cL_canRelease 0 = .ok (.aload_n 2, 1) := by decide +kernel
theorem dL_canRelease_1 : decode cL_canRelease 1 = .ok (.iconst 0, 1) := by decide +kernel
theorem dL_canRelease_2 : decode cL_canRelease 2 = .ok (.aload_n 0, 1) := by decide +kernel
theorem dL_canRelease_3 : decode cL_canRelease 3 = .ok (.iload_n 1, 1) := by decide +kernel
theorem dL_canRelease_4 : decode cL_canRelease 4 = .ok (.invokevirtual 103, 3) := by decide +kernel
theorem dL_canRelease_7 : decode cL_canRelease 7 = .ok (.ifCond .eq 7, 3) := by decide +kernel
theorem dL_canRelease_10 : decode cL_canRelease 10 = .ok (.lconst 1, 1) := by decide +kernel
theorem dL_canRelease_11 : decode cL_canRelease 11 = .ok (.goto 4, 3) := by decide +kernel
theorem dL_canRelease_14 : decode cL_canRelease 14 = .ok (.lconst 0, 1) := by decide +kernel
theorem dL_canRelease_15 : decode cL_canRelease 15 = .ok (.lastore, 1) := by decide +kernel
theorem dL_canRelease_16 : decode cL_canRelease 16 = .ok (.goto 6, 3) := by decide +kernel
theorem dL_canRelease_19 : decode cL_canRelease 19 = .ok (.astore_n 3, 1) := by decide +kernel
theorem dL_canRelease_20 : decode cL_canRelease 20 = .ok (.iconst 1, 1) := by decide +kernel
theorem dL_canRelease_21 : decode cL_canRelease 21 = .ok (.ireturn, 1) := by decide +kernel
theorem dL_canRelease_22 : decode cL_canRelease 22 = .ok (.iconst 0, 1) := by decide +kernel
theorem dL_canRelease_23 : decode cL_canRelease 23 = .ok (.ireturn, 1) := by decide +kernel
set_option maxRecDepth 20000 in
theorem ggL_hasRatchet_X10_hasRatchet : GoodIn wsL_hasRatchet wsX10_hasRatchet := goodIn_ca (goodIn_ca (goodIn_r _ [6, 7, 8, 9, 10, 11, 5, 12, 13, 14, 15, 16, 17, 18, 19, 20, 21, 22, 23, 24, 25, 26, 27, 28, 29, 30, 31, 32, 33, 34, 35, 36, 37, 38, 39, 40, 41, 42, 43, 44, 45, 46, 47, 48, 49, 50] (by decide +kernel) (by decide +kernel)) (goodIn_sub (fun _ h => List.mem_cons_of_mem _ (List.mem_append_left _ (List.mem_append_right _ h))) (by decide +kernel))) (goodIn_sub (fun _ h => List.mem_cons_of_mem _ (List.mem_append_right _ h)) (by decide +kernel))
set_option maxRecDepth 20000 in
theorem gL_hasRatchet_X10_hasRatchet : GoodIn wsL_hasRatchet (wsV RL 106 RX10 yX10_hasRatchet wsX10_hasRatchet) := goodIn_app (goodIn_of _ (by decide +kernel)) ggL_hasRatchet_X10_hasRatchet
theorem dL_hasRatchet_0 : decode cL_hasRatchet 0 = .ok (.aload_n 2, 1) := by decide +kernel
theorem dL_hasRatchet_1 : decode cL_hasRatchet 1 = .ok (.iconst 0, 1) := by decide +kernel
theorem dL_hasRatchet_2 : decode cL_hasRatchet 2 = .ok (.aload_n 0, 1) := by decide +kernel
theorem dL_hasRatchet_3 : decode cL_hasRatchet 3 = .ok (.iload_n 1, 1) := by decide +kernel
theorem dL_hasRatchet_4 : decode cL_hasRatchet 4 = .ok (.invokevirtual 106, 3) := by decide +kernel
theorem dL_hasRatchet_7 : decode cL_hasRatchet 7 = .ok (.ifCond .eq 7, 3) := by decide +kernel
theorem dL_hasRatchet_10 : decode cL_hasRatchet 10 = .ok (.lconst 1, 1) := by decide +kernel
theorem dL_hasRatchet_11 : decode cL_hasRatchet 11 = .ok (.goto 4, 3) := by decide +kernel
theorem dL_hasRatchet_14 : decode cL_hasRatchet 14 = .ok (.lconst 0, 1) := by decide +kernel
theorem dL_hasRatchet_15 : decode cL_hasRatchet 15 = .ok (.lastore, 1) := by decide +kernel
theorem dL_hasRatchet_16 : decode cL_hasRatchet 16 = .ok (.goto 6, 3) := by decide +kernel
theorem dL_hasRatchet_19 : decode cL_hasRatchet 19 = .ok (.astore_n 3, 1) := by decide +kernel
theorem dL_hasRatchet_20 : decode cL_hasRatchet 20 = .ok (.iconst 1, 1) := by decide +kernel
theorem dL_hasRatchet_21 : decode cL_hasRatchet 21 = .ok (.ireturn, 1) := by decide +kernel
theorem dL_hasRatchet_22 : decode cL_hasRatchet 22 = .ok (.iconst 0, 1) := by decide +kernel
theorem dL_hasRatchet_23 : decode cL_hasRatchet 23 = .ok (.ireturn, 1) := by decide +kernel
set_option maxRecDepth 20000 in
theorem ggL_isDry_X10_isDry : GoodIn wsL_isDry wsX10_isDry := goodIn_ca (goodIn_ca (goodIn_r _ [6, 7, 8, 9, 10, 11, 5, 12, 13, 14, 15, 16, 17, 18, 19, 20, 21, 22, 23, 24, 25, 26, 27, 28, 29, 30, 31, 32, 33, 34, 35, 36, 37, 38, 39, 40, 41, 42, 43, 44, 45, 46, 47, 48, 49, 50] (by decide +kernel) (by decide +kernel)) (goodIn_sub (fun _ h => List.mem_cons_of_mem _ (List.mem_append_left _ (List.mem_append_right _ h))) (by decide +kernel))) (goodIn_sub (fun _ h => List.mem_cons_of_mem _ (List.mem_append_right _ h)) (by decide +kernel))
set_option maxRecDepth 20000 in
theorem gL_isDry_X10_isDry : GoodIn wsL_isDry (wsV RL 109 RX10 yX10_isDry wsX10_isDry) := goodIn_app (goodIn_of _ (by decide +kernel)) ggL_isDry_X10_isDry
theorem dL_isDry_0 : decode cL_isDry 0 = .ok (.aload_n 2, 1) := by decide +kernel
theorem dL_isDry_1 : decode cL_isDry 1 = .ok (.iconst 0, 1) := by decide +kernel
theorem dL_isDry_2 : decode cL_isDry 2 = .ok (.aload_n 0, 1) := by decide +kernel
theorem dL_isDry_3 : decode cL_isDry 3 = .ok (.iload_n 1, 1) := by decide +kernel
theorem dL_isDry_4 : decode cL_isDry 4 = .ok (.invokevirtual 109, 3) := by decide +kernel
theorem dL_isDry_7 : decode cL_isDry 7 = .ok (.ifCond .eq 7, 3) := by decide +kernel
theorem dL_isDry_10 : decode cL_isDry 10 = .ok (.lconst 1, 1) := by decide +kernel
theorem dL_isDry_11 : decode cL_isDry 11 = .ok (.goto 4, 3) := by decide +kernel
theorem dL_isDry_14 : decode cL_isDry 14 = .ok (.lconst 0, 1) := by decide +kernel
theorem dL_isDry_15 : decode cL_isDry 15 = .ok (.lastore, 1) := by decide +kernel
theorem dL_isDry_16 : decode cL_isDry 16 = .ok (.goto 6, 3) := by decide +kernel
theorem dL_isDry_19 : decode cL_isDry 19 = .ok (.astore_n 3, 1) := by decide +kernel
theorem dL_isDry_20 : decode cL_isDry 20 = .ok (.iconst 1, 1) := by decide +kernel
theorem dL_isDry_21 : decode cL_isDry 21 = .ok (.ireturn, 1) := by decide +kernel
theorem dL_isDry_22 : decode cL_isDry 22 = .ok (.iconst 0, 1) := by decide +kernel
theorem dL_isDry_23 : decode cL_isDry 23 = .ok (.ireturn, 1) := by decide +kernel
set_option maxRecDepth 20000 in
theorem ggL_wear_X10_wear : GoodIn wsL_wear wsX10_wear := goodIn_ca (goodIn_ca (goodIn_ca (goodIn_r _ [7, 8, 9, 10, 11, 12, 13, 14, 15, 16, 6, 17, 18, 19, 20, 21, 22, 23, 24, 25, 26, 27, 28, 29, 30, 31, 32, 33, 34, 35, 36, 37, 38, 39, 40, 41, 42, 43, 44, 45, 46, 47, 48, 49, 50, 51, 52, 53, 54, 55, 56, 57, 58, 59, 60, 61, 62, 63] (by decide +kernel) (by decide +kernel)) (goodIn_sub (fun _ h => List.mem_cons_of_mem _ (List.mem_append_left _ (List.mem_append_left _ (List.mem_append_right _ h)))) (by decide +kernel))) (goodIn_sub (fun _ h => List.mem_cons_of_mem _ (List.mem_append_left _ (List.mem_append_right _ h))) (by decide +kernel))) (goodIn_sub (fun _ h => List.mem_cons_of_mem _ (List.mem_append_right _ h)) (by decide +kernel))
set_option maxRecDepth 20000 in
theorem gL_wear_X10_wear : GoodIn wsL_wear (wsV RL 112 RX10 yX10_wear wsX10_wear) := goodIn_app (goodIn_of _ (by decide +kernel)) ggL_wear_X10_wear
theorem dL_wear_0 : decode cL_wear 0 = .ok (.aload_n 2, 1) := by decide +kernel
theorem dL_wear_1 : decode cL_wear 1 = .ok (.iconst 0, 1) := by decide +kernel
theorem dL_wear_2 : decode cL_wear 2 = .ok (.aload_n 0, 1) := by decide +kernel
theorem dL_wear_3 : decode cL_wear 3 = .ok (.iload_n 1, 1) := by decide +kernel
theorem dL_wear_4 : decode cL_wear 4 = .ok (.invokevirtual 112, 3) := by decide +kernel
theorem dL_wear_7 : decode cL_wear 7 = .ok (.i2l, 1) := by decide +kernel
theorem dL_wear_8 : decode cL_wear 8 = .ok (.lastore, 1) := by decide +kernel
theorem dL_wear_9 : decode cL_wear 9 = .ok (.goto 9, 3) := by decide +kernel
theorem dL_wear_12 : decode cL_wear 12 = .ok (.astore_n 3, 1) := by decide +kernel
theorem dL_wear_13 : decode cL_wear 13 = .ok (.iconst 1, 1) := by decide +kernel
theorem dL_wear_14 : decode cL_wear 14 = .ok (.ireturn, 1) := by decide +kernel
theorem dL_wear_15 : decode cL_wear 15 = .ok (.astore_n 3, 1) := by decide +kernel
theorem dL_wear_16 : decode cL_wear 16 = .ok (.iconst 2, 1) := by decide +kernel
theorem dL_wear_17 : decode cL_wear 17 = .ok (.ireturn, 1) := by decide +kernel
theorem dL_wear_18 : decode cL_wear 18 = .ok (.iconst 0, 1) := by decide +kernel
theorem dL_wear_19 : decode cL_wear 19 = .ok (.ireturn, 1) := by decide +kernel
set_option maxRecDepth 20000 in
theorem ggL_gearOf_X10_gearOf : GoodIn wsL_gearOf wsX10_gearOf := goodIn_ca (goodIn_ca (goodIn_r _ [6, 7, 8, 9, 10, 11, 5, 12, 13, 14, 15, 16, 17, 18, 19, 20, 21, 22, 23, 24, 25, 26, 27, 28, 29, 30, 31, 32, 33, 34, 35, 36, 37, 38, 39, 40, 41, 42, 43, 44, 45, 46, 47, 48, 49, 50] (by decide +kernel) (by decide +kernel)) (goodIn_sub (fun _ h => List.mem_cons_of_mem _ (List.mem_append_left _ (List.mem_append_right _ h))) (by decide +kernel))) (goodIn_sub (fun _ h => List.mem_cons_of_mem _ (List.mem_append_right _ h)) (by decide +kernel))
set_option maxRecDepth 20000 in
theorem gL_gearOf_X10_gearOf : GoodIn wsL_gearOf (wsV RL 115 RX10 yX10_gearOf wsX10_gearOf) := goodIn_app (goodIn_of _ (by decide +kernel)) ggL_gearOf_X10_gearOf
theorem dL_gearOf_0 : decode cL_gearOf 0 = .ok (.aload_n 2, 1) := by decide +kernel
theorem dL_gearOf_1 : decode cL_gearOf 1 = .ok (.iconst 0, 1) := by decide +kernel
theorem dL_gearOf_2 : decode cL_gearOf 2 = .ok (.aload_n 0, 1) := by decide +kernel
theorem dL_gearOf_3 : decode cL_gearOf 3 = .ok (.iload_n 1, 1) := by decide +kernel
theorem dL_gearOf_4 : decode cL_gearOf 4 = .ok (.invokevirtual 115, 3) := by decide +kernel
theorem dL_gearOf_7 : decode cL_gearOf 7 = .ok (.i2l, 1) := by decide +kernel
theorem dL_gearOf_8 : decode cL_gearOf 8 = .ok (.lastore, 1) := by decide +kernel
theorem dL_gearOf_9 : decode cL_gearOf 9 = .ok (.goto 6, 3) := by decide +kernel
theorem dL_gearOf_12 : decode cL_gearOf 12 = .ok (.astore_n 3, 1) := by decide +kernel
theorem dL_gearOf_13 : decode cL_gearOf 13 = .ok (.iconst 1, 1) := by decide +kernel
theorem dL_gearOf_14 : decode cL_gearOf 14 = .ok (.ireturn, 1) := by decide +kernel
theorem dL_gearOf_15 : decode cL_gearOf 15 = .ok (.iconst 0, 1) := by decide +kernel
theorem dL_gearOf_16 : decode cL_gearOf 16 = .ok (.ireturn, 1) := by decide +kernel
set_option maxRecDepth 20000 in
theorem ggL_areInLine_X10_areInLine : GoodIn wsL_areInLine wsX10_areInLine := goodIn_ca (goodIn_ca (goodIn_ca (goodIn_r _ [7, 8, 9, 10, 11, 12, 13, 14, 15, 6, 16, 17, 18, 19, 20, 21, 22, 23, 24, 25, 26, 27, 28, 29, 30, 31, 32, 33, 34, 35, 36, 37, 38, 39, 40, 41, 42, 43, 44, 45, 46, 47, 48, 49, 50, 51, 52, 53, 54] (by decide +kernel) (by decide +kernel)) (goodIn_sub (fun _ h => List.mem_cons_of_mem _ (List.mem_append_left _ (List.mem_append_right _ h))) (by decide +kernel))) (goodIn_sub (fun _ h => List.mem_cons_of_mem _ (List.mem_append_left _ (List.mem_append_left _ (List.mem_append_right _ h)))) (by decide +kernel))) (goodIn_sub (fun _ h => List.mem_cons_of_mem _ (List.mem_append_right _ h)) (by decide +kernel))
set_option maxRecDepth 20000 in
theorem gL_areInLine_X10_areInLine : GoodIn wsL_areInLine (wsV RL 118 RX10 yX10_areInLine wsX10_areInLine) := goodIn_app (goodIn_of _ (by decide +kernel)) ggL_areInLine_X10_areInLine
theorem dL_areInLine_0 : decode cL_areInLine 0 = .ok (.aload_n 3, 1) := by decide +kernel
theorem dL_areInLine_1 : decode cL_areInLine 1 = .ok (.iconst 0, 1) := by decide +kernel
theorem dL_areInLine_2 : decode cL_areInLine 2 = .ok (.aload_n 0, 1) := by decide +kernel
theorem dL_areInLine_3 : decode cL_areInLine 3 = .ok (.iload_n 1, 1) := by decide +kernel
theorem dL_areInLine_4 : decode cL_areInLine 4 = .ok (.iload_n 2, 1) := by decide +kernel
theorem dL_areInLine_5 : decode cL_areInLine 5 = .ok (.invokevirtual 118, 3) := by decide +kernel
theorem dL_areInLine_8 : decode cL_areInLine 8 = .ok (.ifCond .eq 7, 3) := by decide +kernel
theorem dL_areInLine_11 : decode cL_areInLine 11 = .ok (.lconst 1, 1) := by decide +kernel
theorem dL_areInLine_12 : decode cL_areInLine 12 = .ok (.goto 4, 3) := by decide +kernel
theorem dL_areInLine_15 : decode cL_areInLine 15 = .ok (.lconst 0, 1) := by decide +kernel
theorem dL_areInLine_16 : decode cL_areInLine 16 = .ok (.lastore, 1) := by decide +kernel
theorem dL_areInLine_17 : decode cL_areInLine 17 = .ok (.goto 11, 3) := by decide +kernel
theorem dL_areInLine_20 : decode cL_areInLine 20 = .ok (.astore 4, 2) := by decide +kernel
theorem dL_areInLine_22 : decode cL_areInLine 22 = .ok (.iconst 1, 1) := by decide +kernel
theorem dL_areInLine_23 : decode cL_areInLine 23 = .ok (.ireturn, 1) := by decide +kernel
theorem dL_areInLine_24 : decode cL_areInLine 24 = .ok (.astore 4, 2) := by decide +kernel
theorem dL_areInLine_26 : decode cL_areInLine 26 = .ok (.iconst 2, 1) := by decide +kernel
theorem dL_areInLine_27 : decode cL_areInLine 27 = .ok (.ireturn, 1) := by decide +kernel
theorem dL_areInLine_28 : decode cL_areInLine 28 = .ok (.iconst 0, 1) := by decide +kernel
theorem dL_areInLine_29 : decode cL_areInLine 29 = .ok (.ireturn, 1) := by decide +kernel
set_option maxRecDepth 20000 in
theorem ggL_nextEclipse_X10_nextEclipse : GoodIn wsL_nextEclipse wsX10_nextEclipse := goodIn_ca (goodIn_ca (goodIn_ca (goodIn_ca (goodIn_ca (goodIn_ca (goodIn_r _ [9, 10, 11, 12, 13, 14, 15, 16, 17, 18, 19, 20, 21, 22, 23, 24, 25, 26, 27, 28, 29, 30, 31, 32, 33, 34, 35, 36, 37, 38, 39, 40, 41, 42, 43, 44, 45, 46, 47, 48, 49, 50, 51, 52, 53, 54, 55, 56, 57, 58, 59, 60, 61, 62, 63, 64, 65, 66, 67, 8, 68, 69, 70, 71, 72, 73, 74, 75, 76, 77, 78, 79, 80, 81, 82, 83, 84, 85, 86, 87, 88, 89, 90, 91, 92, 93, 94, 95, 96, 97, 98, 99, 100, 101, 102, 103, 104, 105, 106, 107, 108, 109, 110, 111, 112, 113, 114, 115, 116, 117, 118, 119, 120, 121, 122, 123, 124, 125, 126, 127, 128, 129, 130, 131, 132, 133, 134, 135, 136, 137, 138, 139, 140, 141, 142, 143, 144, 145, 146] (by decide +kernel) (by decide +kernel)) (goodIn_sub (fun _ h => List.mem_cons_of_mem _ (List.mem_append_left _ (List.mem_append_left _ (List.mem_append_left _ (List.mem_append_left _ (List.mem_append_left _ (List.mem_append_right _ h))))))) (by decide +kernel))) (goodIn_sub (fun _ h => List.mem_cons_of_mem _ (List.mem_append_left _ (List.mem_append_left _ (List.mem_append_left _ (List.mem_append_left _ (List.mem_append_right _ h)))))) (by decide +kernel))) (goodIn_sub (fun _ h => List.mem_cons_of_mem _ (List.mem_append_left _ (List.mem_append_left _ (List.mem_append_left _ (List.mem_append_right _ h))))) (by decide +kernel))) (goodIn_sub (fun _ h => List.mem_cons_of_mem _ (List.mem_append_left _ (List.mem_append_left _ (List.mem_append_right _ h)))) (by decide +kernel))) (goodIn_sub (fun _ h => List.mem_cons_of_mem _ (List.mem_append_left _ (List.mem_append_right _ h))) (by decide +kernel))) (goodIn_sub (fun _ h => List.mem_cons_of_mem _ (List.mem_append_right _ h)) (by decide +kernel))
set_option maxRecDepth 20000 in
theorem gL_nextEclipse_X10_nextEclipse : GoodIn wsL_nextEclipse (wsV RL 121 RX10 yX10_nextEclipse wsX10_nextEclipse) := goodIn_app (goodIn_of _ (by decide +kernel)) ggL_nextEclipse_X10_nextEclipse
theorem dL_nextEclipse_0 : decode cL_nextEclipse 0 = .ok (.aload 4, 2) := by decide +kernel
theorem dL_nextEclipse_2 : decode cL_nextEclipse 2 = .ok (.iconst 0, 1) := by decide +kernel
theorem dL_nextEclipse_3 : decode cL_nextEclipse 3 = .ok (.aload_n 0, 1) := by decide +kernel
theorem dL_nextEclipse_4 : decode cL_nextEclipse 4 = .ok (.iload_n 1, 1) := by decide +kernel
theorem dL_nextEclipse_5 : decode cL_nextEclipse 5 = .ok (.iload_n 2, 1) := by decide +kernel
theorem dL_nextEclipse_6 : decode cL_nextEclipse 6 = .ok (.iload_n 3, 1) := by decide +kernel
theorem dL_nextEclipse_7 : decode cL_nextEclipse 7 = .ok (.invokevirtual 121, 3) := by decide +kernel
theorem dL_nextEclipse_10 : decode cL_nextEclipse 10 = .ok (.i2l, 1) := by decide +kernel
theorem dL_nextEclipse_11 : decode cL_nextEclipse 11 = .ok (.lastore, 1) := by decide +kernel
theorem dL_nextEclipse_12 : decode cL_nextEclipse 12 = .ok (.goto 19, 3) := by decide +kernel
theorem dL_nextEclipse_15 : decode cL_nextEclipse 15 = .ok (.astore 5, 2) := by decide +kernel
theorem dL_nextEclipse_17 : decode cL_nextEclipse 17 = .ok (.iconst 1, 1) := by decide +kernel
theorem dL_nextEclipse_18 : decode cL_nextEclipse 18 = .ok (.ireturn, 1) := by decide +kernel
theorem dL_nextEclipse_19 : decode cL_nextEclipse 19 = .ok (.astore 5, 2) := by decide +kernel
theorem dL_nextEclipse_21 : decode cL_nextEclipse 21 = .ok (.iconst 2, 1) := by decide +kernel
theorem dL_nextEclipse_22 : decode cL_nextEclipse 22 = .ok (.ireturn, 1) := by decide +kernel
theorem dL_nextEclipse_23 : decode cL_nextEclipse 23 = .ok (.astore 5, 2) := by decide +kernel
theorem dL_nextEclipse_25 : decode cL_nextEclipse 25 = .ok (.iconst 3, 1) := by decide +kernel
theorem dL_nextEclipse_26 : decode cL_nextEclipse 26 = .ok (.ireturn, 1) := by decide +kernel
theorem dL_nextEclipse_27 : decode cL_nextEclipse 27 = .ok (.astore 5, 2) := by decide +kernel
theorem dL_nextEclipse_29 : decode cL_nextEclipse 29 = .ok (.iconst 4, 1) := by decide +kernel
theorem dL_nextEclipse_30 : decode cL_nextEclipse 30 = .ok (.ireturn, 1) := by decide +kernel
theorem dL_nextEclipse_31 : decode cL_nextEclipse 31 = .ok (.iconst 0, 1) := by decide +kernel
theorem dL_nextEclipse_32 : decode cL_nextEclipse 32 = .ok (.ireturn, 1) := by decide +kernel
set_option maxRecDepth 20000 in
theorem ggL_nextEclipseByTurns_X10_nextEclipseByTurns : GoodIn wsL_nextEclipseByTurns wsX10_nextEclipseByTurns := goodIn_ca (goodIn_ca (goodIn_ca (goodIn_ca (goodIn_ca (goodIn_ca (goodIn_r _ [9, 10, 11, 12, 13, 14, 15, 16, 17, 18, 19, 20, 21, 22, 23, 24, 25, 26, 27, 28, 29, 30, 31, 32, 33, 34, 35, 36, 37, 38, 39, 40, 41, 42, 43, 44, 45, 46, 47, 48, 49, 50, 51, 52, 53, 54, 55, 56, 57, 58, 59, 60, 61, 62, 63, 64, 65, 66, 67, 8, 68, 69, 70, 71, 72, 73, 74, 75, 76, 77, 78, 79, 80, 81, 82, 83, 84, 85, 86, 87, 88, 89, 90, 91, 92, 93, 94, 95, 96, 97, 98, 99, 100, 101, 102, 103, 104, 105, 106, 107, 108, 109, 110, 111, 112, 113, 114, 115, 116, 117, 118, 119, 120, 121, 122, 123, 124, 125, 126, 127, 128, 129] (by decide +kernel) (by decide +kernel)) (goodIn_sub (fun _ h => List.mem_cons_of_mem _ (List.mem_append_left _ (List.mem_append_left _ (List.mem_append_left _ (List.mem_append_left _ (List.mem_append_left _ (List.mem_append_right _ h))))))) (by decide +kernel))) (goodIn_sub (fun _ h => List.mem_cons_of_mem _ (List.mem_append_left _ (List.mem_append_left _ (List.mem_append_left _ (List.mem_append_left _ (List.mem_append_right _ h)))))) (by decide +kernel))) (goodIn_sub (fun _ h => List.mem_cons_of_mem _ (List.mem_append_left _ (List.mem_append_left _ (List.mem_append_left _ (List.mem_append_right _ h))))) (by decide +kernel))) (goodIn_sub (fun _ h => List.mem_cons_of_mem _ (List.mem_append_left _ (List.mem_append_left _ (List.mem_append_right _ h)))) (by decide +kernel))) (goodIn_sub (fun _ h => List.mem_cons_of_mem _ (List.mem_append_left _ (List.mem_append_right _ h))) (by decide +kernel))) (goodIn_sub (fun _ h => List.mem_cons_of_mem _ (List.mem_append_right _ h)) (by decide +kernel))
set_option maxRecDepth 20000 in
theorem gL_nextEclipseByTurns_X10_nextEclipseByTurns : GoodIn wsL_nextEclipseByTurns (wsV RL 125 RX10 yX10_nextEclipseByTurns wsX10_nextEclipseByTurns) := goodIn_app (goodIn_of _ (by decide +kernel)) ggL_nextEclipseByTurns_X10_nextEclipseByTurns
theorem dL_nextEclipseByTurns_0 : decode cL_nextEclipseByTurns 0 = .ok (.aload 4, 2) := by decide +kernel
theorem dL_nextEclipseByTurns_2 : decode cL_nextEclipseByTurns 2 = .ok (.iconst 0, 1) := by decide +kernel
theorem dL_nextEclipseByTurns_3 : decode cL_nextEclipseByTurns 3 = .ok (.aload_n 0, 1) := by decide +kernel
theorem dL_nextEclipseByTurns_4 : decode cL_nextEclipseByTurns 4 = .ok (.iload_n 1, 1) := by decide +kernel
theorem dL_nextEclipseByTurns_5 : decode cL_nextEclipseByTurns 5 = .ok (.iload_n 2, 1) := by decide +kernel
theorem dL_nextEclipseByTurns_6 : decode cL_nextEclipseByTurns 6 = .ok (.iload_n 3, 1) := by decide +kernel
theorem dL_nextEclipseByTurns_7 : decode cL_nextEclipseByTurns 7 = .ok (.invokevirtual 125, 3) := by decide +kernel
theorem dL_nextEclipseByTurns_10 : decode cL_nextEclipseByTurns 10 = .ok (.i2l, 1) := by decide +kernel
theorem dL_nextEclipseByTurns_11 : decode cL_nextEclipseByTurns 11 = .ok (.lastore, 1) := by decide +kernel
theorem dL_nextEclipseByTurns_12 : decode cL_nextEclipseByTurns 12 = .ok (.goto 19, 3) := by decide +kernel
theorem dL_nextEclipseByTurns_15 : decode cL_nextEclipseByTurns 15 = .ok (.astore 5, 2) := by decide +kernel
theorem dL_nextEclipseByTurns_17 : decode cL_nextEclipseByTurns 17 = .ok (.iconst 1, 1) := by decide +kernel
theorem dL_nextEclipseByTurns_18 : decode cL_nextEclipseByTurns 18 = .ok (.ireturn, 1) := by decide +kernel
theorem dL_nextEclipseByTurns_19 : decode cL_nextEclipseByTurns 19 = .ok (.astore 5, 2) := by decide +kernel
theorem dL_nextEclipseByTurns_21 : decode cL_nextEclipseByTurns 21 = .ok (.iconst 2, 1) := by decide +kernel
theorem dL_nextEclipseByTurns_22 : decode cL_nextEclipseByTurns 22 = .ok (.ireturn, 1) := by decide +kernel
theorem dL_nextEclipseByTurns_23 : decode cL_nextEclipseByTurns 23 = .ok (.astore 5, 2) := by decide +kernel
theorem dL_nextEclipseByTurns_25 : decode cL_nextEclipseByTurns 25 = .ok (.iconst 3, 1) := by decide +kernel
theorem dL_nextEclipseByTurns_26 : decode cL_nextEclipseByTurns 26 = .ok (.ireturn, 1) := by decide +kernel
theorem dL_nextEclipseByTurns_27 : decode cL_nextEclipseByTurns 27 = .ok (.astore 5, 2) := by decide +kernel
theorem dL_nextEclipseByTurns_29 : decode cL_nextEclipseByTurns 29 = .ok (.iconst 4, 1) := by decide +kernel
theorem dL_nextEclipseByTurns_30 : decode cL_nextEclipseByTurns 30 = .ok (.ireturn, 1) := by decide +kernel
theorem dL_nextEclipseByTurns_31 : decode cL_nextEclipseByTurns 31 = .ok (.iconst 0, 1) := by decide +kernel
theorem dL_nextEclipseByTurns_32 : decode cL_nextEclipseByTurns 32 = .ok (.ireturn, 1) := by decide +kernel
set_option maxRecDepth 20000 in
theorem ggL_planetByAngle_X10_planetByAngle : GoodIn wsL_planetByAngle wsX10_planetByAngle := goodIn_ca (goodIn_ca (goodIn_r _ [6, 7, 8, 9, 10, 11, 12, 13, 14, 15, 16, 17, 18, 19, 20, 21, 22, 23, 24, 25, 26, 27, 28, 29, 30, 31, 32, 33, 34, 35, 36, 37, 38, 39, 40, 41, 42, 43, 44, 45, 46, 47, 48] (by decide +kernel) (by decide +kernel)) (goodIn_sub (fun _ h => List.mem_cons_of_mem _ (List.mem_append_right _ h)) (by decide +kernel))) (goodIn_sub (fun _ h => List.mem_cons_of_mem _ (List.mem_append_left _ (List.mem_append_right _ h))) (by decide +kernel))
set_option maxRecDepth 20000 in
theorem gL_planetByAngle_X10_planetByAngle : GoodIn wsL_planetByAngle (wsV RL 128 RX10 yX10_planetByAngle wsX10_planetByAngle) := goodIn_app (goodIn_of _ (by decide +kernel)) ggL_planetByAngle_X10_planetByAngle
theorem dL_planetByAngle_0 : decode cL_planetByAngle 0 = .ok (.aload_n 2, 1) := by decide +kernel
theorem dL_planetByAngle_1 : decode cL_planetByAngle 1 = .ok (.iconst 0, 1) := by decide +kernel
theorem dL_planetByAngle_2 : decode cL_planetByAngle 2 = .ok (.aload_n 0, 1) := by decide +kernel
theorem dL_planetByAngle_3 : decode cL_planetByAngle 3 = .ok (.iload_n 1, 1) := by decide +kernel
theorem dL_planetByAngle_4 : decode cL_planetByAngle 4 = .ok (.invokevirtual 128, 3) := by decide +kernel
theorem dL_planetByAngle_7 : decode cL_planetByAngle 7 = .ok (.i2l, 1) := by decide +kernel
theorem dL_planetByAngle_8 : decode cL_planetByAngle 8 = .ok (.lastore, 1) := by decide +kernel
theorem dL_planetByAngle_9 : decode cL_planetByAngle 9 = .ok (.goto 6, 3) := by decide +kernel
theorem dL_planetByAngle_12 : decode cL_planetByAngle 12 = .ok (.astore_n 3, 1) := by decide +kernel
theorem dL_planetByAngle_13 : decode cL_planetByAngle 13 = .ok (.iconst 1, 1) := by decide +kernel
theorem dL_planetByAngle_14 : decode cL_planetByAngle 14 = .ok (.ireturn, 1) := by decide +kernel
theorem dL_planetByAngle_15 : decode cL_planetByAngle 15 = .ok (.iconst 0, 1) := by decide +kernel
theorem dL_planetByAngle_16 : decode cL_planetByAngle 16 = .ok (.ireturn, 1) := by decide +kernel
set_option maxRecDepth 20000 in
theorem ggL_fewestPairs_X10_fewestPairs : GoodIn wsL_fewestPairs wsX10_fewestPairs := goodIn_ca (goodIn_ca (goodIn_ca (goodIn_r _ [7, 8, 9, 10, 6, 11, 12, 13, 14, 15, 16, 17, 18, 19, 20, 21, 22, 23, 24, 25, 26, 27, 28, 29, 30, 31, 32, 33, 34, 35, 36, 37, 38, 39, 40, 41, 42, 43, 44, 45, 46, 47, 48, 49, 50, 51, 52, 53, 54, 55, 56, 57, 58, 59, 60, 61, 62, 63, 64, 65, 66] (by decide +kernel) (by decide +kernel)) (goodIn_sub (fun _ h => List.mem_cons_of_mem _ (List.mem_append_left _ (List.mem_append_right _ h))) (by decide +kernel))) (goodIn_sub (fun _ h => List.mem_cons_of_mem _ (List.mem_append_left _ (List.mem_append_left _ (List.mem_append_right _ h)))) (by decide +kernel))) (goodIn_sub (fun _ h => List.mem_cons_of_mem _ (List.mem_append_right _ h)) (by decide +kernel))
set_option maxRecDepth 20000 in
theorem gL_fewestPairs_X10_fewestPairs : GoodIn wsL_fewestPairs (wsV RL 131 RX10 yX10_fewestPairs wsX10_fewestPairs) := goodIn_app (goodIn_of _ (by decide +kernel)) ggL_fewestPairs_X10_fewestPairs
theorem dL_fewestPairs_0 : decode cL_fewestPairs 0 = .ok (.aload_n 3, 1) := by decide +kernel
theorem dL_fewestPairs_1 : decode cL_fewestPairs 1 = .ok (.iconst 0, 1) := by decide +kernel
theorem dL_fewestPairs_2 : decode cL_fewestPairs 2 = .ok (.aload_n 0, 1) := by decide +kernel
theorem dL_fewestPairs_3 : decode cL_fewestPairs 3 = .ok (.iload_n 1, 1) := by decide +kernel
theorem dL_fewestPairs_4 : decode cL_fewestPairs 4 = .ok (.iload_n 2, 1) := by decide +kernel
theorem dL_fewestPairs_5 : decode cL_fewestPairs 5 = .ok (.invokevirtual 131, 3) := by decide +kernel
theorem dL_fewestPairs_8 : decode cL_fewestPairs 8 = .ok (.i2l, 1) := by decide +kernel
theorem dL_fewestPairs_9 : decode cL_fewestPairs 9 = .ok (.lastore, 1) := by decide +kernel
theorem dL_fewestPairs_10 : decode cL_fewestPairs 10 = .ok (.goto 11, 3) := by decide +kernel
theorem dL_fewestPairs_13 : decode cL_fewestPairs 13 = .ok (.astore 4, 2) := by decide +kernel
theorem dL_fewestPairs_15 : decode cL_fewestPairs 15 = .ok (.iconst 1, 1) := by decide +kernel
theorem dL_fewestPairs_16 : decode cL_fewestPairs 16 = .ok (.ireturn, 1) := by decide +kernel
theorem dL_fewestPairs_17 : decode cL_fewestPairs 17 = .ok (.astore 4, 2) := by decide +kernel
theorem dL_fewestPairs_19 : decode cL_fewestPairs 19 = .ok (.iconst 2, 1) := by decide +kernel
theorem dL_fewestPairs_20 : decode cL_fewestPairs 20 = .ok (.ireturn, 1) := by decide +kernel
theorem dL_fewestPairs_21 : decode cL_fewestPairs 21 = .ok (.iconst 0, 1) := by decide +kernel
theorem dL_fewestPairs_22 : decode cL_fewestPairs 22 = .ok (.ireturn, 1) := by decide +kernel
set_option maxRecDepth 20000 in
theorem ggL_fewestPairsByTable_X10_fewestPairsByTable : GoodIn wsL_fewestPairsByTable wsX10_fewestPairsByTable := goodIn_ca (goodIn_ca (goodIn_ca (goodIn_r _ [7, 8, 9, 10, 6, 11, 12, 13, 14, 15, 16, 17, 18, 19, 20, 21, 22, 23, 24, 25, 26, 27, 28, 29, 30, 31, 32, 33, 34, 35, 36, 37, 38, 39, 40, 41, 42, 43, 44, 45, 46, 47, 48, 49, 50, 51, 52, 53, 54, 55, 56, 57, 58, 59, 60, 61, 62, 63, 64, 65, 66, 67, 68, 69, 70, 71, 72, 73, 74, 75, 76, 77, 78, 79, 80, 81, 82, 83, 84, 85, 86, 87, 88, 89, 90, 91, 92, 93, 94, 95, 96, 97, 98, 99, 100] (by decide +kernel) (by decide +kernel)) (goodIn_sub (fun _ h => List.mem_cons_of_mem _ (List.mem_append_left _ (List.mem_append_right _ h))) (by decide +kernel))) (goodIn_sub (fun _ h => List.mem_cons_of_mem _ (List.mem_append_left _ (List.mem_append_left _ (List.mem_append_right _ h)))) (by decide +kernel))) (goodIn_sub (fun _ h => List.mem_cons_of_mem _ (List.mem_append_right _ h)) (by decide +kernel))
set_option maxRecDepth 20000 in
theorem gL_fewestPairsByTable_X10_fewestPairsByTable : GoodIn wsL_fewestPairsByTable (wsV RL 134 RX10 yX10_fewestPairsByTable wsX10_fewestPairsByTable) := goodIn_app (goodIn_of _ (by decide +kernel)) ggL_fewestPairsByTable_X10_fewestPairsByTable
theorem dL_fewestPairsByTable_0 : decode cL_fewestPairsByTable 0 = .ok (.aload_n 3, 1) := by decide +kernel
theorem dL_fewestPairsByTable_1 : decode cL_fewestPairsByTable 1 = .ok (.iconst 0, 1) := by decide +kernel
theorem dL_fewestPairsByTable_2 : decode cL_fewestPairsByTable 2 = .ok (.aload_n 0, 1) := by decide +kernel
theorem dL_fewestPairsByTable_3 : decode cL_fewestPairsByTable 3 = .ok (.iload_n 1, 1) := by decide +kernel
theorem dL_fewestPairsByTable_4 : decode cL_fewestPairsByTable 4 = .ok (.iload_n 2, 1) := by decide +kernel
theorem dL_fewestPairsByTable_5 : decode cL_fewestPairsByTable 5 = .ok (.invokevirtual 134, 3) := by decide +kernel
theorem dL_fewestPairsByTable_8 : decode cL_fewestPairsByTable 8 = .ok (.i2l, 1) := by decide +kernel
theorem dL_fewestPairsByTable_9 : decode cL_fewestPairsByTable 9 = .ok (.lastore, 1) := by decide +kernel
theorem dL_fewestPairsByTable_10 : decode cL_fewestPairsByTable 10 = .ok (.goto 11, 3) := by decide +kernel
theorem dL_fewestPairsByTable_13 : decode cL_fewestPairsByTable 13 = .ok (.astore 4, 2) := by decide +kernel
theorem dL_fewestPairsByTable_15 : decode cL_fewestPairsByTable 15 = .ok (.iconst 1, 1) := by decide +kernel
theorem dL_fewestPairsByTable_16 : decode cL_fewestPairsByTable 16 = .ok (.ireturn, 1) := by decide +kernel
theorem dL_fewestPairsByTable_17 : decode cL_fewestPairsByTable 17 = .ok (.astore 4, 2) := by decide +kernel
theorem dL_fewestPairsByTable_19 : decode cL_fewestPairsByTable 19 = .ok (.iconst 2, 1) := by decide +kernel
theorem dL_fewestPairsByTable_20 : decode cL_fewestPairsByTable 20 = .ok (.ireturn, 1) := by decide +kernel
theorem dL_fewestPairsByTable_21 : decode cL_fewestPairsByTable 21 = .ok (.iconst 0, 1) := by decide +kernel
theorem dL_fewestPairsByTable_22 : decode cL_fewestPairsByTable 22 = .ok (.ireturn, 1) := by decide +kernel
set_option maxRecDepth 20000 in
theorem ggL_meanTeeth_X10_meanTeeth : GoodIn wsL_meanTeeth wsX10_meanTeeth := goodIn_ca (goodIn_ca (goodIn_r _ [6, 7, 8, 9, 10, 11, 12, 13, 14, 15, 16, 17, 18, 19, 20, 21, 22, 23, 24, 25, 26, 27, 28, 29, 30, 31, 32, 33, 34, 35, 36, 37, 38, 39, 40, 41, 42, 43, 44, 45, 46, 47] (by decide +kernel) (by decide +kernel)) (goodIn_sub (fun _ h => List.mem_cons_of_mem _ (List.mem_append_right _ h)) (by decide +kernel))) (goodIn_sub (fun _ h => List.mem_cons_of_mem _ (List.mem_append_left _ (List.mem_append_right _ h))) (by decide +kernel))
set_option maxRecDepth 20000 in
theorem gL_meanTeeth_X10_meanTeeth : GoodIn wsL_meanTeeth (wsV RL 137 RX10 yX10_meanTeeth wsX10_meanTeeth) := goodIn_app (goodIn_of _ (by decide +kernel)) ggL_meanTeeth_X10_meanTeeth
theorem dL_meanTeeth_0 : decode cL_meanTeeth 0 = .ok (.aload_n 1, 1) := by decide +kernel
theorem dL_meanTeeth_1 : decode cL_meanTeeth 1 = .ok (.iconst 0, 1) := by decide +kernel
theorem dL_meanTeeth_2 : decode cL_meanTeeth 2 = .ok (.aload_n 0, 1) := by decide +kernel
theorem dL_meanTeeth_3 : decode cL_meanTeeth 3 = .ok (.invokevirtual 137, 3) := by decide +kernel
theorem dL_meanTeeth_6 : decode cL_meanTeeth 6 = .ok (.dastore, 1) := by decide +kernel
theorem dL_meanTeeth_7 : decode cL_meanTeeth 7 = .ok (.goto 6, 3) := by decide +kernel
theorem dL_meanTeeth_10 : decode cL_meanTeeth 10 = .ok (.astore_n 2, 1) := by decide +kernel
theorem dL_meanTeeth_11 : decode cL_meanTeeth 11 = .ok (.iconst 1, 1) := by decide +kernel
theorem dL_meanTeeth_12 : decode cL_meanTeeth 12 = .ok (.ireturn, 1) := by decide +kernel
theorem dL_meanTeeth_13 : decode cL_meanTeeth 13 = .ok (.iconst 0, 1) := by decide +kernel
theorem dL_meanTeeth_14 : decode cL_meanTeeth 14 = .ok (.ireturn, 1) := by decide +kernel
set_option maxRecDepth 20000 in
theorem ggL_dryShare_X10_dryShare : GoodIn wsL_dryShare wsX10_dryShare := goodIn_ca (goodIn_ca (goodIn_r _ [6, 7, 8, 9, 10, 11, 12, 13, 14, 15, 16, 17, 18, 19, 20, 21, 22, 23, 24, 25, 26, 27, 28, 29, 30, 31, 32, 33, 34, 35, 36, 37, 38, 39, 40, 41, 42, 43, 44, 45, 46, 47] (by decide +kernel) (by decide +kernel)) (goodIn_sub (fun _ h => List.mem_cons_of_mem _ (List.mem_append_right _ h)) (by decide +kernel))) (goodIn_sub (fun _ h => List.mem_cons_of_mem _ (List.mem_append_left _ (List.mem_append_right _ h))) (by decide +kernel))
set_option maxRecDepth 20000 in
theorem gL_dryShare_X10_dryShare : GoodIn wsL_dryShare (wsV RL 143 RX10 yX10_dryShare wsX10_dryShare) := goodIn_app (goodIn_of _ (by decide +kernel)) ggL_dryShare_X10_dryShare
theorem dL_dryShare_0 : decode cL_dryShare 0 = .ok (.aload_n 1, 1) := by decide +kernel
theorem dL_dryShare_1 : decode cL_dryShare 1 = .ok (.iconst 0, 1) := by decide +kernel
theorem dL_dryShare_2 : decode cL_dryShare 2 = .ok (.aload_n 0, 1) := by decide +kernel
theorem dL_dryShare_3 : decode cL_dryShare 3 = .ok (.invokevirtual 143, 3) := by decide +kernel
theorem dL_dryShare_6 : decode cL_dryShare 6 = .ok (.f2d, 1) := by decide +kernel
theorem dL_dryShare_7 : decode cL_dryShare 7 = .ok (.dastore, 1) := by decide +kernel
theorem dL_dryShare_8 : decode cL_dryShare 8 = .ok (.goto 6, 3) := by decide +kernel
theorem dL_dryShare_11 : decode cL_dryShare 11 = .ok (.astore_n 2, 1) := by decide +kernel
theorem dL_dryShare_12 : decode cL_dryShare 12 = .ok (.iconst 1, 1) := by decide +kernel
theorem dL_dryShare_13 : decode cL_dryShare 13 = .ok (.ireturn, 1) := by decide +kernel
theorem dL_dryShare_14 : decode cL_dryShare 14 = .ok (.iconst 0, 1) := by decide +kernel
theorem dL_dryShare_15 : decode cL_dryShare 15 = .ok (.ireturn, 1) := by decide +kernel
set_option maxRecDepth 20000 in
theorem ggL_renderGear_X10_renderGear : GoodIn wsL_renderGear wsX10_renderGear := goodIn_ca (goodIn_ca (goodIn_r _ [6, 7, 8, 9, 10, 11, 12, 13, 14, 15, 16, 17, 5, 18, 19, 20, 21, 22, 23, 24, 25, 26, 27, 28, 29, 30, 31, 32, 33, 34, 35, 36, 37, 38, 39, 40, 41, 42, 43, 44, 45, 46, 47, 48, 49, 50, 51, 52, 53, 54, 55, 56, 57, 58, 59, 60, 61, 62, 63, 64, 65, 66, 67, 68, 69, 70, 71, 72, 73, 74, 75, 76, 77, 78, 79, 80, 81, 82, 83, 84, 85, 86, 87, 88, 89, 90, 91, 92, 93, 94, 95, 96, 97, 98, 99, 100, 101, 102, 103, 104, 105, 106, 107, 108, 109, 110, 111, 112, 113, 114, 115, 116, 117, 118, 119, 120, 121, 122, 123, 124, 125, 126, 127, 128, 129, 130, 131, 132, 133, 134, 135, 136, 137, 138, 139, 140, 141, 142, 143, 144, 145, 146, 147, 148, 149, 150, 151, 152, 153, 154, 155, 156, 157, 158, 159, 160, 161, 162, 163, 164, 165, 166, 167, 168, 169, 170, 171, 172, 173, 174, 175, 176, 177, 178, 179, 180, 181, 182, 183, 184, 185, 186, 187, 188, 189, 190, 191, 192, 193, 194, 195, 196, 197, 198, 199, 200, 201, 202, 203, 204, 205, 206, 207, 208, 209, 210, 211, 212, 213, 214, 215, 216, 217, 218, 219, 220, 221, 222, 223, 224, 225, 226, 227, 228, 229, 230, 231, 232, 233, 234, 235, 236, 237, 238, 239, 240, 241, 242, 243, 244, 245, 246, 247, 248, 249, 250, 251, 252, 253, 254, 255, 256, 257, 258, 259, 260, 261, 262, 263, 264, 265, 266] (by decide +kernel) (by decide +kernel)) (goodIn_sub (fun _ h => List.mem_cons_of_mem _ (List.mem_append_left _ (List.mem_append_right _ h))) (by decide +kernel))) (goodIn_sub (fun _ h => List.mem_cons_of_mem _ (List.mem_append_right _ h)) (by decide +kernel))
set_option maxRecDepth 20000 in
theorem gL_renderGear_X10_renderGear : GoodIn wsL_renderGear (wsV RL 147 RX10 yX10_renderGear wsX10_renderGear) := goodIn_app (goodIn_of _ (by decide +kernel)) ggL_renderGear_X10_renderGear
theorem dL_renderGear_0 : decode cL_renderGear 0 = .ok (.aload_n 2, 1) := by decide +kernel
theorem dL_renderGear_1 : decode cL_renderGear 1 = .ok (.iconst 0, 1) := by decide +kernel
theorem dL_renderGear_2 : decode cL_renderGear 2 = .ok (.aload_n 0, 1) := by decide +kernel
theorem dL_renderGear_3 : decode cL_renderGear 3 = .ok (.iload_n 1, 1) := by decide +kernel
theorem dL_renderGear_4 : decode cL_renderGear 4 = .ok (.invokevirtual 147, 3) := by decide +kernel
theorem dL_renderGear_7 : decode cL_renderGear 7 = .ok (.i2l, 1) := by decide +kernel
theorem dL_renderGear_8 : decode cL_renderGear 8 = .ok (.lastore, 1) := by decide +kernel
theorem dL_renderGear_9 : decode cL_renderGear 9 = .ok (.goto 6, 3) := by decide +kernel
theorem dL_renderGear_12 : decode cL_renderGear 12 = .ok (.astore_n 3, 1) := by decide +kernel
theorem dL_renderGear_13 : decode cL_renderGear 13 = .ok (.iconst 1, 1) := by decide +kernel
theorem dL_renderGear_14 : decode cL_renderGear 14 = .ok (.ireturn, 1) := by decide +kernel
theorem dL_renderGear_15 : decode cL_renderGear 15 = .ok (.iconst 0, 1) := by decide +kernel
theorem dL_renderGear_16 : decode cL_renderGear 16 = .ok (.ireturn, 1) := by decide +kernel
set_option maxRecDepth 20000 in
theorem ggL_renderTrain_X10_renderTrain : GoodIn wsL_renderTrain wsX10_renderTrain := goodIn_ca (goodIn_ca (goodIn_r _ [6, 7, 8, 9, 10, 11, 12, 13, 5, 14, 15, 16, 17, 18, 19, 20, 21, 22, 23, 24, 25, 26, 27, 28, 29, 30, 31, 32, 33, 34, 35, 36, 37, 38, 39, 40, 41, 42, 43, 44, 45, 46, 47, 48, 49, 50, 51, 52, 53, 54, 55, 56, 57, 58, 59, 60, 61, 62, 63, 64, 65, 66, 67, 68, 69, 70, 71, 72, 73, 74, 75, 76, 77, 78, 79, 80, 81, 82, 83, 84, 85, 86, 87, 88, 89, 90, 91, 92, 93, 94, 95, 96, 97, 98, 99, 100, 101, 102, 103, 104, 105, 106, 107, 108, 109, 110, 111, 112, 113, 114, 115, 116, 117, 118, 119, 120, 121, 122, 123, 124, 125, 126, 127, 128, 129, 130, 131, 132, 133, 134, 135, 136, 137, 138, 139, 140, 141, 142, 143, 144, 145, 146, 147, 148, 149, 150, 151, 152, 153, 154, 155, 156, 157, 158, 159, 160, 161, 162, 163, 164, 165, 166, 167, 168, 169, 170, 171, 172, 173, 174, 175, 176, 177, 178, 179, 180, 181, 182, 183, 184, 185, 186, 187, 188, 189, 190, 191, 192, 193, 194, 195, 196, 197, 198, 199, 200, 201, 202, 203, 204, 205, 206, 207, 208, 209, 210, 211, 212, 213, 214, 215, 216, 217, 218, 219, 220, 221, 222, 223, 224, 225, 226, 227, 228, 229, 230, 231, 232, 233, 234, 235, 236, 237, 238, 239, 240, 241, 242, 243, 244, 245, 246, 247, 248, 249, 250, 251, 252, 253, 254, 255, 256, 257, 258, 259, 260, 261, 262, 263, 264, 265, 266, 267, 268, 269, 270, 271, 272, 273, 274, 275, 276, 277, 278, 279, 280, 281, 282, 283, 284, 285, 286, 287, 288, 289, 290, 291, 292, 293, 294, 295, 296, 297, 298, 299, 300, 301, 302] (by decide +kernel) (by decide +kernel)) (goodIn_sub (fun _ h => List.mem_cons_of_mem _ (List.mem_append_right _ h)) (by decide +kernel))) (goodIn_sub (fun _ h => List.mem_cons_of_mem _ (List.mem_append_left _ (List.mem_append_right _ h))) (by decide +kernel))
set_option maxRecDepth 20000 in
theorem gL_renderTrain_X10_renderTrain : GoodIn wsL_renderTrain (wsV RL 150 RX10 yX10_renderTrain wsX10_renderTrain) := goodIn_app (goodIn_of _ (by decide +kernel)) ggL_renderTrain_X10_renderTrain
theorem dL_renderTrain_0 : decode cL_renderTrain 0 = .ok (.aload_n 2, 1) := by decide +kernel
theorem dL_renderTrain_1 : decode cL_renderTrain 1 = .ok (.iconst 0, 1) := by decide +kernel
theorem dL_renderTrain_2 : decode cL_renderTrain 2 = .ok (.aload_n 0, 1) := by decide +kernel
theorem dL_renderTrain_3 : decode cL_renderTrain 3 = .ok (.iload_n 1, 1) := by decide +kernel
theorem dL_renderTrain_4 : decode cL_renderTrain 4 = .ok (.invokevirtual 150, 3) := by decide +kernel
theorem dL_renderTrain_7 : decode cL_renderTrain 7 = .ok (.i2l, 1) := by decide +kernel
theorem dL_renderTrain_8 : decode cL_renderTrain 8 = .ok (.lastore, 1) := by decide +kernel
theorem dL_renderTrain_9 : decode cL_renderTrain 9 = .ok (.goto 6, 3) := by decide +kernel
theorem dL_renderTrain_12 : decode cL_renderTrain 12 = .ok (.astore_n 3, 1) := by decide +kernel
theorem dL_renderTrain_13 : decode cL_renderTrain 13 = .ok (.iconst 1, 1) := by decide +kernel
theorem dL_renderTrain_14 : decode cL_renderTrain 14 = .ok (.ireturn, 1) := by decide +kernel
theorem dL_renderTrain_15 : decode cL_renderTrain 15 = .ok (.iconst 0, 1) := by decide +kernel
theorem dL_renderTrain_16 : decode cL_renderTrain 16 = .ok (.ireturn, 1) := by decide +kernel
set_option maxRecDepth 20000 in
theorem ggL_outputAt_X10_outputAt : GoodIn wsL_outputAt wsX10_outputAt := goodIn_ca (goodIn_r _ [6, 7, 8, 9, 10, 11, 12, 13, 14, 15, 16, 17, 18, 19, 20, 21, 22, 23, 24, 25, 26, 27, 28, 29, 30, 31, 32, 33, 34, 35, 36, 37, 38, 39, 40, 41, 42, 43, 44, 45, 46, 47, 48, 49, 50, 51, 52, 53, 54, 55, 56, 57, 58, 59, 60, 61, 62, 63, 64, 65, 66, 67, 68, 69, 70, 71] (by decide +kernel) (by decide +kernel)) (goodIn_sub (fun _ h => List.mem_cons_of_mem _ (List.mem_append_right _ h)) (by decide +kernel))
set_option maxRecDepth 20000 in
theorem gL_outputAt_X10_outputAt : GoodIn wsL_outputAt (wsV RL 153 RX10 yX10_outputAt wsX10_outputAt) := goodIn_app (goodIn_of _ (by decide +kernel)) ggL_outputAt_X10_outputAt
theorem dL_outputAt_0 : decode cL_outputAt 0 = .ok (.aload_n 2, 1) := by decide +kernel
theorem dL_outputAt_1 : decode cL_outputAt 1 = .ok (.iconst 0, 1) := by decide +kernel
theorem dL_outputAt_2 : decode cL_outputAt 2 = .ok (.aload_n 0, 1) := by decide +kernel
theorem dL_outputAt_3 : decode cL_outputAt 3 = .ok (.iload_n 1, 1) := by decide +kernel
theorem dL_outputAt_4 : decode cL_outputAt 4 = .ok (.invokevirtual 153, 3) := by decide +kernel
theorem dL_outputAt_7 : decode cL_outputAt 7 = .ok (.i2l, 1) := by decide +kernel
theorem dL_outputAt_8 : decode cL_outputAt 8 = .ok (.lastore, 1) := by decide +kernel
theorem dL_outputAt_9 : decode cL_outputAt 9 = .ok (.goto 6, 3) := by decide +kernel
theorem dL_outputAt_12 : decode cL_outputAt 12 = .ok (.astore_n 3, 1) := by decide +kernel
theorem dL_outputAt_13 : decode cL_outputAt 13 = .ok (.iconst 1, 1) := by decide +kernel
theorem dL_outputAt_14 : decode cL_outputAt 14 = .ok (.ireturn, 1) := by decide +kernel
theorem dL_outputAt_15 : decode cL_outputAt 15 = .ok (.iconst 0, 1) := by decide +kernel
theorem dL_outputAt_16 : decode cL_outputAt 16 = .ok (.ireturn, 1) := by decide +kernel
